def ow_dm_X18_register : List Cond := .code yX18_register cX18_register 2 none :: ([.methodLink RX18 53 yX18_next, .instanceMethod yX18_next, .selects RX18 yX18_next yX18_next, .initialized RX18, .fieldLink RX18 16 "TimeMachineModel$Reader" "registers" "[I", .methodLink RX18 50 yX18_say, .instanceMethod yX18_say, .selects RX18 yX18_say yX18_say] ++ (u_ws RX18 TX18 10 ++ (ow_dm_X18_next ++ (ow_dm_X18_say ++ []))))
theorem gd_dm_X18_register : ∀ w ∈ ow_dm_X18_register, (w.onTables && w.keeps) = true ∨ ∃ ty, w = Cond.arrayClass ty := List.forall_mem_cons.mpr ⟨good_of_word rfl, List.forall_mem_append.mpr ⟨fun w h => good_of_word (List.all_eq_true.mp (by decide +kernel) w h), List.forall_mem_append.mpr ⟨gu_X18, List.forall_mem_append.mpr ⟨gd_dm_X18_next, List.forall_mem_append.mpr ⟨gd_dm_X18_say, fun _ h => nomatch h⟩⟩⟩⟩⟩
theorem hi_dm_X18_register_X18 : ∀ w ∈ u_ws RX18 TX18 10, w ∈ ow_dm_X18_register := fun w h => List.mem_cons_of_mem _ (List.mem_append_right _ (List.mem_append_left _ h))
theorem gi_dm_X18_register_0 : GoodIn ow_dm_X18_register (wsV RX18 53 RX18 yX18_next ow_dm_X18_next) := goodIn_app (goodIn_of _ (by decide +kernel)) (fun w h => ⟨List.mem_cons_of_mem _ (List.mem_append_right _ (List.mem_append_right _ (List.mem_append_left _ h))), gd_dm_X18_next w h⟩)
theorem gi_dm_X18_register_1 : GoodIn ow_dm_X18_register (wsV RX18 50 RX18 yX18_say ow_dm_X18_say) := goodIn_app (goodIn_of _ (by decide +kernel)) (fun w h => ⟨List.mem_cons_of_mem _ (List.mem_append_right _ (List.mem_append_right _ (List.mem_append_right _ (List.mem_append_left _ h)))), gd_dm_X18_say w h⟩)
def dj_X18_register_0 (p : Program) (l : Launch) (e : Env) (s : State) (m : MethodId) (args : Array Value) (below : List Frame) (meth : Method) (c : Code) (Q : State → Prop) (A : Nat → Prop) (dC : Nat → ClassId) (dI : Nat → Nat → Nat) (a : Nat → Nat) (ac : Nat → ClassId) (g : Int32 → (St) → Option (St)) (r : St) : Prop := ∀ (v0 : Int32) (s0 : St) (H : Heap) (locs : List Loc) (ls : Array Slot), g v0 s0 = some r → va_P (dC, dI) vwCl (dw_X18 a ac s0) H → va_D A (dw_X18 a ac s0) → va_S A s.heap H locs → lv_has ls 2 [(0, .ref (a 0)), (1, .int v0)] → W p l e (headSpec ow_dm_X18_register ({ frames := 2, cells := 0, slots := 0, locals := 45 })).room s m args below meth c H locs 0 0 Q (F0 m 0 ls [])
set_option maxHeartbeats 40000000 in
set_option maxRecDepth 100000 in
theorem db_X18_register_0 {p : Program} {l : Launch} {e : Env} {s : State} {m : MethodId} {args : Array Value} {below : List Frame} {meth : Method} {c : Code} {Q : State → Prop} {A : Nat → Prop} {dC : Nat → ClassId} {dI : Nat → Nat → Nat} {a : Nat → Nat} {ac : Nat → ClassId} {n : Nat} {r : St} (C : nd_C p l s m args c A (dC, dI) cX18_register 2 RX18 ow_dm_X18_register (dk_X18 ac)) (K : nd_Kv p l e (headSpec ow_dm_X18_register ({ frames := 2, cells := 0, slots := 0, locals := 45 })).room s m args below meth c Q A (dC, dI) cX18_register (St) (dw_X18 a ac) r) : dj_X18_register_0 p l e s m args below meth c Q A dC dI a ac (df_X18_register_0 n) r := by
  obtain ⟨hlt, hx, hb, hml, hown, hts, hN, hA, hK⟩ := id C
  intro v0 s0 H locs ls h hP hD hS hl
  unfold df_X18_register_0 at h
  refine lv_aload_n hx hb dX18_register_0 rfl (lv_at hl 0 rfl) ?_
  obtain ⟨s2, hq, h⟩ := nd_b1_e h
  have hPc := hP
  have hDc := hD
  have hKc := hK
  have hFc := nd_rs hD hS hA
  refine va_callv (va_runV (As := []) (rest := []) ⟨hx, hb, hml, hown, hts⟩ (dm_X18_next l hlt dC dI a ac n  s0 hq _) (cwV 0 hts gi_dm_X18_register_0 rfl rfl rfl (by decide +kernel) ⟨Nat.le_of_ble_eq_true rfl, Nat.le_of_ble_eq_true rfl⟩) ⟨fun a U g mk q => by obtain ⟨q0, q1, qP, qK, qD, qN⟩ := q; exact ⟨q0, q1, qP, va_K.moved (u := U) (U := U.calling g mk a) (Vm.Alike.refl U.vm) qK, qD, nv_same rfl rfl qN⟩, va_recv hKc hPc (ci := 19) (q0 := 0) rfl rfl, fun U hU hW => ⟨rfl, by rw [hU], by rw [hU]; exact hPc, va_K.moved hW.alike hKc, hDc.weaken (fun _ _ _ _ => trivial), nv_call hS hFc hU hW hN⟩⟩ rfl rfl hl.1 rfl (lv_room (Nat.le_of_ble_eq_true rfl)) dX18_register_1 ⟨by decide +kernel, by decide +kernel⟩) hS (fun q _ h => hFc q h) hFc (fun u t H locs ht hvm hw hB hz1 hk1 hS => ?_)
  obtain ⟨hP1, -, hD1⟩ := hB
  rw [ht] at hP1
  have hP := hP1
  have hD := hD1.weaken (fun k q _ h => hFc q.1 h)
  refine W.widen (k := 0) (n := 0) (Nat.le_refl _) (Nat.le_refl _) ?_
  refine lv_aload_n hx hb dX18_register_4 rfl (lv_at hl 0 rfl) ?_
  refine lv_aload_n hx hb dX18_register_5 rfl (lv_at hl 0 rfl) ?_
  refine va_get (D := (dC, dI)) (ci := 19) (v := .ref (a 2)) (C := RX18) (T := TX18) (N := 10) hx hb hts hi_dm_X18_register_X18 hown hK hP 0 rfl rfl 9 (by decide) (hts (.fieldLink RX18 16 "TimeMachineModel$Reader" "registers" "[I") (List.mem_of_getElem? (i := 5) rfl)) (fun _ h9 => h9) rfl dX18_register_6 ?_
  refine lv_iload_n hx hb dX18_register_9 rfl (lv_at hl 1 rfl) ?_
  obtain ⟨i4, h⟩ := nd_ck_e h
  refine va_iald (i := v0) hx hb hK hP 2 1 rfl rfl i4 dX18_register_10 ?_
  refine lv_i2l hx hb dX18_register_11 rfl ?_
  obtain ⟨s6, hq, h⟩ := nd_b1_e h
  have hPc := hP
  have hDc := hD
  have hKc := hK
  have hFc := nd_rs hD hS hA
  refine va_callv (va_runV (As := [.long (((sR s2 1 (Int32.toNatClampNeg v0)) : Int32).toInt64)]) (rest := []) ⟨hx, hb, hml, hown, hts⟩ (dm_X18_say l hlt dC dI a ac n ((((sR s2 1 (Int32.toNatClampNeg v0)) : Int32).toInt64)) s2 hq _) (cwV 1 hts gi_dm_X18_register_1 rfl rfl rfl (by decide +kernel) ⟨Nat.le_of_ble_eq_true rfl, Nat.le_of_ble_eq_true rfl⟩) ⟨fun a U g mk q => by obtain ⟨q0, q1, qP, qK, qD, qN⟩ := q; exact ⟨q0, q1, qP, va_K.moved (u := U) (U := U.calling g mk a) (Vm.Alike.refl U.vm) qK, qD, nv_same rfl rfl qN⟩, va_recv hKc hPc (ci := 19) (q0 := 0) rfl rfl, fun U hU hW => ⟨rfl, by rw [hU], by rw [hU]; exact hPc, va_K.moved hW.alike hKc, hDc.weaken (fun _ _ _ _ => trivial), nv_call hS hFc hU hW hN⟩⟩ rfl rfl hl.1 rfl (lv_room (Nat.le_of_ble_eq_true rfl)) dX18_register_12 ⟨by decide +kernel, by decide +kernel⟩) hS (fun q _ h => hFc q h) hFc (fun u t H locs ht hvm hw hB hz1 hk1 hS => ?_)
  obtain ⟨hP1, -, hD1⟩ := hB
  rw [ht] at hP1
  have hP := hP1
  have hD := hD1.weaken (fun k q _ h => hFc q.1 h)
  refine W.widen (k := 0) (n := 0) (Nat.le_refl _) (Nat.le_refl _) ?_
  exact K _ _ _ _ _ dX18_register_15 (Option.some.inj h).symm hP hD hS
set_option maxHeartbeats 40000000 in
set_option maxRecDepth 100000 in
theorem dm_X18_register (l : Launch) (hlt : l.stackTraces = false) (dC : Nat → ClassId) (dI : Nat → Nat → Nat) (a : Nat → Nat) (ac : Nat → ClassId) (n : Nat) (v0 : Int32) (s0 : St) {r : St} (h : df_X18_register n v0 s0 = some r) (sz : Nat) : Met l yX18_register ow_dm_X18_register ({ frames := 2, cells := 0, slots := 0, locals := 45 }) (va_Pc [.ref (a 0), .int v0] (fun U => U.heap.size = sz ∧ va_P (dC, dI) vwCl (dw_X18 a ac s0) U.heap ∧ va_K (dC, dI) vwCl (dk_X18 ac) U ∧ va_D (fun _ => True) (dw_X18 a ac s0) ∧ nv_E (va_A (dw_X18 a ac s0) sz) U)) (va_Qv (fun _ => True) (fun (_ : Unit) t => va_P (dC, dI) vwCl (dw_X18 a ac r) t.heap ∧ va_K (dC, dI) vwCl (dk_X18 ac) t ∧ va_D (va_A (dw_X18 a ac s0) sz) (dw_X18 a ac r)) (va_A (dw_X18 a ac s0) sz)) 0 0 (va_A (dw_X18 a ac s0) sz) := by
  refine Met.ofW (cc := cX18_register) (maxL := 2) (ret := none) (by decide) rfl ?_
  intro p e s m args below meth c s₁ B hml hv
  obtain ⟨rfl, hsz, hP, hK, hD0, hN⟩ := hv
  have hx := B.exec
  have hb := B.bytes
  have hr := B.returns
  have hts := atoms_spec (ws := ow_dm_X18_register) B.pre
  have hown : s.vm.findClass RX18 = some m.cls := findClass_of_methodNamed B.named
  have hlocks := B.notSynchronized
  subst hsz
  have hD := hD0.self (sz := s.heap.size)
  generalize hAe : va_A (dw_X18 a ac s0) s.heap.size = A at hD hN ⊢
  have hA : ∀ q : Nat, s.heap.size ≤ q → A q := fun q h => by rw [← hAe]; exact Or.inr h
  have hl := lv_entry ([.ref (a 0), .int v0]) (n := 2) (Nat.le_of_ble_eq_true rfl)
  rw [lg_entry_eq]
  generalize (lg_sl ([.ref (a 0), .int v0]) ++ List.replicate (2 - (lg_sl ([.ref (a 0), .int v0])).length) Slot.unset).toArray = ls at hl ⊢
  have hl : lv_has ls 2 [(0, .ref (a 0)), (1, .int v0)] := hl
  exact db_X18_register_0 (dC := dC) (dI := dI) (a := a) (ac := ac) (n := n) (r := r) ⟨hlt, hx, hb, hml, hown, hts, hN, hA, hK⟩ (fun pc τ H locs ls d er hP hD hS => by subst er; exact W.vret hx hb hr (fun t ht hW => ⟨⟨(), rfl, trivial, by rw [ht]; exact hP, va_K.moved hW.alike hK, hD⟩, hS.F ht⟩) hS.2.2 d) v0 s0 _ _ _ h hP hD va_S.rf (lv_sub hl [0, 1] rfl)
def ow_dm_X18_immediate : List Cond := .code yX18_immediate cX18_immediate 2 none :: ([.methodLink RX18 53 yX18_next, .instanceMethod yX18_next, .selects RX18 yX18_next yX18_next, .initialized RX18, .methodLink RX18 56 yX18_number, .instanceMethod yX18_number, .selects RX18 yX18_number yX18_number] ++ (ow_dm_X18_next ++ (ow_dm_X18_number ++ [])))
theorem gd_dm_X18_immediate : ∀ w ∈ ow_dm_X18_immediate, (w.onTables && w.keeps) = true ∨ ∃ ty, w = Cond.arrayClass ty := List.forall_mem_cons.mpr ⟨good_of_word rfl, List.forall_mem_append.mpr ⟨fun w h => good_of_word (List.all_eq_true.mp (by decide +kernel) w h), List.forall_mem_append.mpr ⟨gd_dm_X18_next, List.forall_mem_append.mpr ⟨gd_dm_X18_number, fun _ h => nomatch h⟩⟩⟩⟩
theorem gi_dm_X18_immediate_0 : GoodIn ow_dm_X18_immediate (wsV RX18 53 RX18 yX18_next ow_dm_X18_next) := goodIn_app (goodIn_of _ (by decide +kernel)) (fun w h => ⟨List.mem_cons_of_mem _ (List.mem_append_right _ (List.mem_append_left _ h)), gd_dm_X18_next w h⟩)
theorem gi_dm_X18_immediate_1 : GoodIn ow_dm_X18_immediate (wsV RX18 56 RX18 yX18_number ow_dm_X18_number) := goodIn_app (goodIn_of _ (by decide +kernel)) (fun w h => ⟨List.mem_cons_of_mem _ (List.mem_append_right _ (List.mem_append_right _ (List.mem_append_left _ h))), gd_dm_X18_number w h⟩)
def dj_X18_immediate_0 (p : Program) (l : Launch) (e : Env) (s : State) (m : MethodId) (args : Array Value) (below : List Frame) (meth : Method) (c : Code) (Q : State → Prop) (A : Nat → Prop) (dC : Nat → ClassId) (dI : Nat → Nat → Nat) (a : Nat → Nat) (ac : Nat → ClassId) (g : Int32 → (St) → Option (St)) (r : St) : Prop := ∀ (v0 : Int32) (s0 : St) (H : Heap) (locs : List Loc) (ls : Array Slot), g v0 s0 = some r → va_P (dC, dI) vwCl (dw_X18 a ac s0) H → va_D A (dw_X18 a ac s0) → va_S A s.heap H locs → lv_has ls 2 [(0, .ref (a 0)), (1, .int v0)] → W p l e (headSpec ow_dm_X18_immediate ({ frames := 3, cells := 0, slots := 0, locals := 68 })).room s m args below meth c H locs 0 0 Q (F0 m 0 ls [])
set_option maxHeartbeats 40000000 in
set_option maxRecDepth 100000 in
theorem db_X18_immediate_0 {p : Program} {l : Launch} {e : Env} {s : State} {m : MethodId} {args : Array Value} {below : List Frame} {meth : Method} {c : Code} {Q : State → Prop} {A : Nat → Prop} {dC : Nat → ClassId} {dI : Nat → Nat → Nat} {a : Nat → Nat} {ac : Nat → ClassId} {n : Nat} {r : St} (C : nd_C p l s m args c A (dC, dI) cX18_immediate 2 RX18 ow_dm_X18_immediate (dk_X18 ac)) (K : nd_Kv p l e (headSpec ow_dm_X18_immediate ({ frames := 3, cells := 0, slots := 0, locals := 68 })).room s m args below meth c Q A (dC, dI) cX18_immediate (St) (dw_X18 a ac) r) : dj_X18_immediate_0 p l e s m args below meth c Q A dC dI a ac (df_X18_immediate_0 n) r := by
  obtain ⟨hlt, hx, hb, hml, hown, hts, hN, hA, hK⟩ := id C
  intro v0 s0 H locs ls h hP hD hS hl
  unfold df_X18_immediate_0 at h
  refine lv_aload_n hx hb dX18_immediate_0 rfl (lv_at hl 0 rfl) ?_
  obtain ⟨s2, hq, h⟩ := nd_b1_e h
  have hPc := hP
  have hDc := hD
  have hKc := hK
  have hFc := nd_rs hD hS hA
  refine va_callv (va_runV (As := []) (rest := []) ⟨hx, hb, hml, hown, hts⟩ (dm_X18_next l hlt dC dI a ac n  s0 hq _) (cwV 0 hts gi_dm_X18_immediate_0 rfl rfl rfl (by decide +kernel) ⟨Nat.le_of_ble_eq_true rfl, Nat.le_of_ble_eq_true rfl⟩) ⟨fun a U g mk q => by obtain ⟨q0, q1, qP, qK, qD, qN⟩ := q; exact ⟨q0, q1, qP, va_K.moved (u := U) (U := U.calling g mk a) (Vm.Alike.refl U.vm) qK, qD, nv_same rfl rfl qN⟩, va_recv hKc hPc (ci := 19) (q0 := 0) rfl rfl, fun U hU hW => ⟨rfl, by rw [hU], by rw [hU]; exact hPc, va_K.moved hW.alike hKc, hDc.weaken (fun _ _ _ _ => trivial), nv_call hS hFc hU hW hN⟩⟩ rfl rfl hl.1 rfl (lv_room (Nat.le_of_ble_eq_true rfl)) dX18_immediate_1 ⟨by decide +kernel, by decide +kernel⟩) hS (fun q _ h => hFc q h) hFc (fun u t H locs ht hvm hw hB hz1 hk1 hS => ?_)
  obtain ⟨hP1, -, hD1⟩ := hB
  rw [ht] at hP1
  have hP := hP1
  have hD := hD1.weaken (fun k q _ h => hFc q.1 h)
  refine W.widen (k := 0) (n := 0) (Nat.le_refl _) (Nat.le_refl _) ?_
  refine lv_aload_n hx hb dX18_immediate_4 rfl (lv_at hl 0 rfl) ?_
  refine lv_iload_n hx hb dX18_immediate_5 rfl (lv_at hl 1 rfl) ?_
  obtain ⟨s5, hq, h⟩ := nd_b1_e h
  have hPc := hP
  have hDc := hD
  have hKc := hK
  have hFc := nd_rs hD hS hA
  refine va_callv (va_runV (As := [.int v0]) (rest := []) ⟨hx, hb, hml, hown, hts⟩ (dm_X18_number l hlt dC dI a ac n (v0) s2 hq _) (cwV 1 hts gi_dm_X18_immediate_1 rfl rfl rfl (by decide +kernel) ⟨Nat.le_of_ble_eq_true rfl, Nat.le_of_ble_eq_true rfl⟩) ⟨fun a U g mk q => by obtain ⟨q0, q1, qP, qK, qD, qN⟩ := q; exact ⟨q0, q1, qP, va_K.moved (u := U) (U := U.calling g mk a) (Vm.Alike.refl U.vm) qK, qD, nv_same rfl rfl qN⟩, va_recv hKc hPc (ci := 19) (q0 := 0) rfl rfl, fun U hU hW => ⟨rfl, by rw [hU], by rw [hU]; exact hPc, va_K.moved hW.alike hKc, hDc.weaken (fun _ _ _ _ => trivial), nv_call hS hFc hU hW hN⟩⟩ rfl rfl hl.1 rfl (lv_room (Nat.le_of_ble_eq_true rfl)) dX18_immediate_6 ⟨by decide +kernel, by decide +kernel⟩) hS (fun q _ h => hFc q h) hFc (fun u t H locs ht hvm hw hB hz1 hk1 hS => ?_)
  obtain ⟨hP1, -, hD1⟩ := hB
  rw [ht] at hP1
  have hP := hP1
  have hD := hD1.weaken (fun k q _ h => hFc q.1 h)
  refine W.widen (k := 0) (n := 0) (Nat.le_refl _) (Nat.le_refl _) ?_
  exact K _ _ _ _ _ dX18_immediate_9 (Option.some.inj h).symm hP hD hS
set_option maxHeartbeats 40000000 in
set_option maxRecDepth 100000 in
theorem dm_X18_immediate (l : Launch) (hlt : l.stackTraces = false) (dC : Nat → ClassId) (dI : Nat → Nat → Nat) (a : Nat → Nat) (ac : Nat → ClassId) (n : Nat) (v0 : Int32) (s0 : St) {r : St} (h : df_X18_immediate n v0 s0 = some r) (sz : Nat) : Met l yX18_immediate ow_dm_X18_immediate ({ frames := 3, cells := 0, slots := 0, locals := 68 }) (va_Pc [.ref (a 0), .int v0] (fun U => U.heap.size = sz ∧ va_P (dC, dI) vwCl (dw_X18 a ac s0) U.heap ∧ va_K (dC, dI) vwCl (dk_X18 ac) U ∧ va_D (fun _ => True) (dw_X18 a ac s0) ∧ nv_E (va_A (dw_X18 a ac s0) sz) U)) (va_Qv (fun _ => True) (fun (_ : Unit) t => va_P (dC, dI) vwCl (dw_X18 a ac r) t.heap ∧ va_K (dC, dI) vwCl (dk_X18 ac) t ∧ va_D (va_A (dw_X18 a ac s0) sz) (dw_X18 a ac r)) (va_A (dw_X18 a ac s0) sz)) 0 0 (va_A (dw_X18 a ac s0) sz) := by
  refine Met.ofW (cc := cX18_immediate) (maxL := 2) (ret := none) (by decide) rfl ?_
  intro p e s m args below meth c s₁ B hml hv
  obtain ⟨rfl, hsz, hP, hK, hD0, hN⟩ := hv
  have hx := B.exec
  have hb := B.bytes
  have hr := B.returns
  have hts := atoms_spec (ws := ow_dm_X18_immediate) B.pre
  have hown : s.vm.findClass RX18 = some m.cls := findClass_of_methodNamed B.named
  have hlocks := B.notSynchronized
  subst hsz
  have hD := hD0.self (sz := s.heap.size)
  generalize hAe : va_A (dw_X18 a ac s0) s.heap.size = A at hD hN ⊢
  have hA : ∀ q : Nat, s.heap.size ≤ q → A q := fun q h => by rw [← hAe]; exact Or.inr h
  have hl := lv_entry ([.ref (a 0), .int v0]) (n := 2) (Nat.le_of_ble_eq_true rfl)
  rw [lg_entry_eq]
  generalize (lg_sl ([.ref (a 0), .int v0]) ++ List.replicate (2 - (lg_sl ([.ref (a 0), .int v0])).length) Slot.unset).toArray = ls at hl ⊢
  have hl : lv_has ls 2 [(0, .ref (a 0)), (1, .int v0)] := hl
  exact db_X18_immediate_0 (dC := dC) (dI := dI) (a := a) (ac := ac) (n := n) (r := r) ⟨hlt, hx, hb, hml, hown, hts, hN, hA, hK⟩ (fun pc τ H locs ls d er hP hD hS => by subst er; exact W.vret hx hb hr (fun t ht hW => ⟨⟨(), rfl, trivial, by rw [ht]; exact hP, va_K.moved hW.alike hK, hD⟩, hS.F ht⟩) hS.2.2 d) v0 s0 _ _ _ h hP hD va_S.rf (lv_sub hl [0, 1] rfl)
def ow_dm_X18_target : List Cond := .code yX18_target cX18_target 2 none :: ([.methodLink RX18 53 yX18_next, .instanceMethod yX18_next, .selects RX18 yX18_next yX18_next, .initialized RX18, .methodLink RX18 29 yX18_put, .instanceMethod yX18_put, .selects RX18 yX18_put yX18_put, .methodLink RX18 56 yX18_number, .instanceMethod yX18_number, .selects RX18 yX18_number yX18_number] ++ (ow_dm_X18_next ++ (ow_dm_X18_put ++ (ow_dm_X18_number ++ []))))
theorem gd_dm_X18_target : ∀ w ∈ ow_dm_X18_target, (w.onTables && w.keeps) = true ∨ ∃ ty, w = Cond.arrayClass ty := List.forall_mem_cons.mpr ⟨good_of_word rfl, List.forall_mem_append.mpr ⟨fun w h => good_of_word (List.all_eq_true.mp (by decide +kernel) w h), List.forall_mem_append.mpr ⟨gd_dm_X18_next, List.forall_mem_append.mpr ⟨gd_dm_X18_put, List.forall_mem_append.mpr ⟨gd_dm_X18_number, fun _ h => nomatch h⟩⟩⟩⟩⟩
theorem gi_dm_X18_target_0 : GoodIn ow_dm_X18_target (wsV RX18 53 RX18 yX18_next ow_dm_X18_next) := goodIn_app (goodIn_of _ (by decide +kernel)) (fun w h => ⟨List.mem_cons_of_mem _ (List.mem_append_right _ (List.mem_append_left _ h)), gd_dm_X18_next w h⟩)
theorem gi_dm_X18_target_1 : GoodIn ow_dm_X18_target (wsV RX18 29 RX18 yX18_put ow_dm_X18_put) := goodIn_app (goodIn_of _ (by decide +kernel)) (fun w h => ⟨List.mem_cons_of_mem _ (List.mem_append_right _ (List.mem_append_right _ (List.mem_append_left _ h))), gd_dm_X18_put w h⟩)
theorem gi_dm_X18_target_2 : GoodIn ow_dm_X18_target (wsV RX18 56 RX18 yX18_number ow_dm_X18_number) := goodIn_app (goodIn_of _ (by decide +kernel)) (fun w h => ⟨List.mem_cons_of_mem _ (List.mem_append_right _ (List.mem_append_right _ (List.mem_append_right _ (List.mem_append_left _ h)))), gd_dm_X18_number w h⟩)
def dj_X18_target_20 (p : Program) (l : Launch) (e : Env) (s : State) (m : MethodId) (args : Array Value) (below : List Frame) (meth : Method) (c : Code) (Q : State → Prop) (A : Nat → Prop) (dC : Nat → ClassId) (dI : Nat → Nat → Nat) (a : Nat → Nat) (ac : Nat → ClassId) (g : Int32 → (St) → Option (St)) (r : St) : Prop := ∀ (x1 : Int32) (s0 : St) (H : Heap) (locs : List Loc) (ls : Array Slot), g x1 s0 = some r → va_P (dC, dI) vwCl (dw_X18 a ac s0) H → va_D A (dw_X18 a ac s0) → va_S A s.heap H locs → lv_has ls 2 [(0, .ref (a 0)), (1, .int x1)] → W p l e (headSpec ow_dm_X18_target ({ frames := 3, cells := 0, slots := 0, locals := 68 })).room s m args below meth c H locs 0 0 Q (F0 m 20 ls [])
def dj_X18_target_0 (p : Program) (l : Launch) (e : Env) (s : State) (m : MethodId) (args : Array Value) (below : List Frame) (meth : Method) (c : Code) (Q : State → Prop) (A : Nat → Prop) (dC : Nat → ClassId) (dI : Nat → Nat → Nat) (a : Nat → Nat) (ac : Nat → ClassId) (g : Int32 → (St) → Option (St)) (r : St) : Prop := ∀ (v0 : Int32) (s0 : St) (H : Heap) (locs : List Loc) (ls : Array Slot), g v0 s0 = some r → va_P (dC, dI) vwCl (dw_X18 a ac s0) H → va_D A (dw_X18 a ac s0) → va_S A s.heap H locs → lv_has ls 2 [(0, .ref (a 0)), (1, .int v0)] → W p l e (headSpec ow_dm_X18_target ({ frames := 3, cells := 0, slots := 0, locals := 68 })).room s m args below meth c H locs 0 0 Q (F0 m 0 ls [])
set_option maxHeartbeats 40000000 in
set_option maxRecDepth 100000 in
theorem db_X18_target_20 {p : Program} {l : Launch} {e : Env} {s : State} {m : MethodId} {args : Array Value} {below : List Frame} {meth : Method} {c : Code} {Q : State → Prop} {A : Nat → Prop} {dC : Nat → ClassId} {dI : Nat → Nat → Nat} {a : Nat → Nat} {ac : Nat → ClassId} {n : Nat} {r : St} (C : nd_C p l s m args c A (dC, dI) cX18_target 2 RX18 ow_dm_X18_target (dk_X18 ac)) (K : nd_Kv p l e (headSpec ow_dm_X18_target ({ frames := 3, cells := 0, slots := 0, locals := 68 })).room s m args below meth c Q A (dC, dI) cX18_target (St) (dw_X18 a ac) r) : dj_X18_target_20 p l e s m args below meth c Q A dC dI a ac (df_X18_target_20 n) r := by
  obtain ⟨hlt, hx, hb, hml, hown, hts, hN, hA, hK⟩ := id C
  intro x1 s0 H locs ls h hP hD hS hl
  unfold df_X18_target_20 at h
  refine lv_aload_n hx hb dX18_target_20 rfl (lv_at hl 0 rfl) ?_
  refine lv_iload_n hx hb dX18_target_21 rfl (lv_at hl 1 rfl) ?_
  obtain ⟨s9, hq, h⟩ := nd_b1_e h
  have hPc := hP
  have hDc := hD
  have hKc := hK
  have hFc := nd_rs hD hS hA
  refine va_callv (va_runV (As := [.int x1]) (rest := []) ⟨hx, hb, hml, hown, hts⟩ (dm_X18_number l hlt dC dI a ac n (x1) s0 hq _) (cwV 1 hts gi_dm_X18_target_2 rfl rfl rfl (by decide +kernel) ⟨Nat.le_of_ble_eq_true rfl, Nat.le_of_ble_eq_true rfl⟩) ⟨fun a U g mk q => by obtain ⟨q0, q1, qP, qK, qD, qN⟩ := q; exact ⟨q0, q1, qP, va_K.moved (u := U) (U := U.calling g mk a) (Vm.Alike.refl U.vm) qK, qD, nv_same rfl rfl qN⟩, va_recv hKc hPc (ci := 19) (q0 := 0) rfl rfl, fun U hU hW => ⟨rfl, by rw [hU], by rw [hU]; exact hPc, va_K.moved hW.alike hKc, hDc.weaken (fun _ _ _ _ => trivial), nv_call hS hFc hU hW hN⟩⟩ rfl rfl hl.1 rfl (lv_room (Nat.le_of_ble_eq_true rfl)) dX18_target_22 ⟨by decide +kernel, by decide +kernel⟩) hS (fun q _ h => hFc q h) hFc (fun u t H locs ht hvm hw hB hz1 hk1 hS => ?_)
  obtain ⟨hP1, -, hD1⟩ := hB
  rw [ht] at hP1
  have hP := hP1
  have hD := hD1.weaken (fun k q _ h => hFc q.1 h)
  refine W.widen (k := 0) (n := 0) (Nat.le_refl _) (Nat.le_refl _) ?_
  exact K _ _ _ _ _ dX18_target_25 (Option.some.inj h).symm hP hD hS
set_option maxHeartbeats 40000000 in
set_option maxRecDepth 100000 in
theorem db_X18_target_0 {p : Program} {l : Launch} {e : Env} {s : State} {m : MethodId} {args : Array Value} {below : List Frame} {meth : Method} {c : Code} {Q : State → Prop} {A : Nat → Prop} {dC : Nat → ClassId} {dI : Nat → Nat → Nat} {a : Nat → Nat} {ac : Nat → ClassId} {n : Nat} {r : St} (C : nd_C p l s m args c A (dC, dI) cX18_target 2 RX18 ow_dm_X18_target (dk_X18 ac)) (K : nd_Kv p l e (headSpec ow_dm_X18_target ({ frames := 3, cells := 0, slots := 0, locals := 68 })).room s m args below meth c Q A (dC, dI) cX18_target (St) (dw_X18 a ac) r) : dj_X18_target_0 p l e s m args below meth c Q A dC dI a ac (df_X18_target_0 n) r := by
  obtain ⟨hlt, hx, hb, hml, hown, hts, hN, hA, hK⟩ := id C
  intro v0 s0 H locs ls h hP hD hS hl
  unfold df_X18_target_0 at h
  refine lv_aload_n hx hb dX18_target_0 rfl (lv_at hl 0 rfl) ?_
  obtain ⟨s2, hq, h⟩ := nd_b1_e h
  have hPc := hP
  have hDc := hD
  have hKc := hK
  have hFc := nd_rs hD hS hA
  refine va_callv (va_runV (As := []) (rest := []) ⟨hx, hb, hml, hown, hts⟩ (dm_X18_next l hlt dC dI a ac n  s0 hq _) (cwV 0 hts gi_dm_X18_target_0 rfl rfl rfl (by decide +kernel) ⟨Nat.le_of_ble_eq_true rfl, Nat.le_of_ble_eq_true rfl⟩) ⟨fun a U g mk q => by obtain ⟨q0, q1, qP, qK, qD, qN⟩ := q; exact ⟨q0, q1, qP, va_K.moved (u := U) (U := U.calling g mk a) (Vm.Alike.refl U.vm) qK, qD, nv_same rfl rfl qN⟩, va_recv hKc hPc (ci := 19) (q0 := 0) rfl rfl, fun U hU hW => ⟨rfl, by rw [hU], by rw [hU]; exact hPc, va_K.moved hW.alike hKc, hDc.weaken (fun _ _ _ _ => trivial), nv_call hS hFc hU hW hN⟩⟩ rfl rfl hl.1 rfl (lv_room (Nat.le_of_ble_eq_true rfl)) dX18_target_1 ⟨by decide +kernel, by decide +kernel⟩) hS (fun q _ h => hFc q h) hFc (fun u t H locs ht hvm hw hB hz1 hk1 hS => ?_)
  obtain ⟨hP1, -, hD1⟩ := hB
  rw [ht] at hP1
  have hP := hP1
  have hD := hD1.weaken (fun k q _ h => hFc q.1 h)
  refine W.widen (k := 0) (n := 0) (Nat.le_refl _) (Nat.le_refl _) ?_
  refine lv_aload_n hx hb dX18_target_4 rfl (lv_at hl 0 rfl) ?_
  refine lv_bipush (v := 46) hx hb dX18_target_5 (by decide) ?_
  obtain ⟨s5, hq, h⟩ := nd_b1_e h
  have hPc := hP
  have hDc := hD
  have hKc := hK
  have hFc := nd_rs hD hS hA
  refine va_callv (va_runV (As := [.int 46]) (rest := []) ⟨hx, hb, hml, hown, hts⟩ (dm_X18_put l hlt dC dI a ac n (46) s2 hq _) (cwV 1 hts gi_dm_X18_target_1 rfl rfl rfl (by decide +kernel) ⟨Nat.le_of_ble_eq_true rfl, Nat.le_of_ble_eq_true rfl⟩) ⟨fun a U g mk q => by obtain ⟨q0, q1, qP, qK, qD, qN⟩ := q; exact ⟨q0, q1, qP, va_K.moved (u := U) (U := U.calling g mk a) (Vm.Alike.refl U.vm) qK, qD, nv_same rfl rfl qN⟩, va_recv hKc hPc (ci := 19) (q0 := 0) rfl rfl, fun U hU hW => ⟨rfl, by rw [hU], by rw [hU]; exact hPc, va_K.moved hW.alike hKc, hDc.weaken (fun _ _ _ _ => trivial), nv_call hS hFc hU hW hN⟩⟩ rfl rfl hl.1 rfl (lv_room (Nat.le_of_ble_eq_true rfl)) dX18_target_7 ⟨by decide +kernel, by decide +kernel⟩) hS (fun q _ h => hFc q h) hFc (fun u t H locs ht hvm hw hB hz1 hk1 hS => ?_)
  obtain ⟨hP1, -, hD1⟩ := hB
  rw [ht] at hP1
  have hP := hP1
  have hD := hD1.weaken (fun k q _ h => hFc q.1 h)
  refine W.widen (k := 0) (n := 0) (Nat.le_refl _) (Nat.le_refl _) ?_
  refine lv_iload_n hx hb dX18_target_10 rfl (lv_at hl 1 rfl) ?_
  refine lv_if_lt (tgt := 20) hx hb dX18_target_11 (by decide) (fun c7 => ?_) (fun c7 => ?_)
  · have h := nd_pos h c7
    exact (db_X18_target_20 C K) (v0) s5 _ _ _ h hP hD hS (lv_sub hl [0, 1] rfl)
  · have h := nd_neg h c7
    refine lv_aload_n hx hb dX18_target_14 rfl (lv_at hl 0 rfl) ?_
    refine lv_bipush (v := 43) hx hb dX18_target_15 (by decide) ?_
    obtain ⟨s12, hq, h⟩ := nd_b1_e h
    have hPc := hP
    have hDc := hD
    have hKc := hK
    have hFc := nd_rs hD hS hA
    refine va_callv (va_runV (As := [.int 43]) (rest := []) ⟨hx, hb, hml, hown, hts⟩ (dm_X18_put l hlt dC dI a ac n (43) s5 hq _) (cwV 1 hts gi_dm_X18_target_1 rfl rfl rfl (by decide +kernel) ⟨Nat.le_of_ble_eq_true rfl, Nat.le_of_ble_eq_true rfl⟩) ⟨fun a U g mk q => by obtain ⟨q0, q1, qP, qK, qD, qN⟩ := q; exact ⟨q0, q1, qP, va_K.moved (u := U) (U := U.calling g mk a) (Vm.Alike.refl U.vm) qK, qD, nv_same rfl rfl qN⟩, va_recv hKc hPc (ci := 19) (q0 := 0) rfl rfl, fun U hU hW => ⟨rfl, by rw [hU], by rw [hU]; exact hPc, va_K.moved hW.alike hKc, hDc.weaken (fun _ _ _ _ => trivial), nv_call hS hFc hU hW hN⟩⟩ rfl rfl hl.1 rfl (lv_room (Nat.le_of_ble_eq_true rfl)) dX18_target_17 ⟨by decide +kernel, by decide +kernel⟩) hS (fun q _ h => hFc q h) hFc (fun u t H locs ht hvm hw hB hz1 hk1 hS => ?_)
    obtain ⟨hP1, -, hD1⟩ := hB
    rw [ht] at hP1
    have hP := hP1
    have hD := hD1.weaken (fun k q _ h => hFc q.1 h)
    refine W.widen (k := 0) (n := 0) (Nat.le_refl _) (Nat.le_refl _) ?_
    exact (db_X18_target_20 C K) (v0) s12 _ _ _ h hP hD hS (lv_sub hl [0, 1] rfl)
set_option maxHeartbeats 40000000 in
set_option maxRecDepth 100000 in
theorem dm_X18_target (l : Launch) (hlt : l.stackTraces = false) (dC : Nat → ClassId) (dI : Nat → Nat → Nat) (a : Nat → Nat) (ac : Nat → ClassId) (n : Nat) (v0 : Int32) (s0 : St) {r : St} (h : df_X18_target n v0 s0 = some r) (sz : Nat) : Met l yX18_target ow_dm_X18_target ({ frames := 3, cells := 0, slots := 0, locals := 68 }) (va_Pc [.ref (a 0), .int v0] (fun U => U.heap.size = sz ∧ va_P (dC, dI) vwCl (dw_X18 a ac s0) U.heap ∧ va_K (dC, dI) vwCl (dk_X18 ac) U ∧ va_D (fun _ => True) (dw_X18 a ac s0) ∧ nv_E (va_A (dw_X18 a ac s0) sz) U)) (va_Qv (fun _ => True) (fun (_ : Unit) t => va_P (dC, dI) vwCl (dw_X18 a ac r) t.heap ∧ va_K (dC, dI) vwCl (dk_X18 ac) t ∧ va_D (va_A (dw_X18 a ac s0) sz) (dw_X18 a ac r)) (va_A (dw_X18 a ac s0) sz)) 0 0 (va_A (dw_X18 a ac s0) sz) := by
  refine Met.ofW (cc := cX18_target) (maxL := 2) (ret := none) (by decide) rfl ?_
  intro p e s m args below meth c s₁ B hml hv
  obtain ⟨rfl, hsz, hP, hK, hD0, hN⟩ := hv
  have hx := B.exec
  have hb := B.bytes
  have hr := B.returns
  have hts := atoms_spec (ws := ow_dm_X18_target) B.pre
  have hown : s.vm.findClass RX18 = some m.cls := findClass_of_methodNamed B.named
  have hlocks := B.notSynchronized
  subst hsz
  have hD := hD0.self (sz := s.heap.size)
  generalize hAe : va_A (dw_X18 a ac s0) s.heap.size = A at hD hN ⊢
  have hA : ∀ q : Nat, s.heap.size ≤ q → A q := fun q h => by rw [← hAe]; exact Or.inr h
  have hl := lv_entry ([.ref (a 0), .int v0]) (n := 2) (Nat.le_of_ble_eq_true rfl)
  rw [lg_entry_eq]
  generalize (lg_sl ([.ref (a 0), .int v0]) ++ List.replicate (2 - (lg_sl ([.ref (a 0), .int v0])).length) Slot.unset).toArray = ls at hl ⊢
  have hl : lv_has ls 2 [(0, .ref (a 0)), (1, .int v0)] := hl
  exact db_X18_target_0 (dC := dC) (dI := dI) (a := a) (ac := ac) (n := n) (r := r) ⟨hlt, hx, hb, hml, hown, hts, hN, hA, hK⟩ (fun pc τ H locs ls d er hP hD hS => by subst er; exact W.vret hx hb hr (fun t ht hW => ⟨⟨(), rfl, trivial, by rw [ht]; exact hP, va_K.moved hW.alike hK, hD⟩, hS.F ht⟩) hS.2.2 d) v0 s0 _ _ _ h hP hD va_S.rf (lv_sub hl [0, 1] rfl)
def ow_dm_X18_bracket : List Cond := .code yX18_bracket cX18_bracket 2 none :: ([.methodLink RX18 29 yX18_put, .instanceMethod yX18_put, .selects RX18 yX18_put yX18_put, .initialized RX18, .fieldLink RX18 16 "TimeMachineModel$Reader" "registers" "[I", .methodLink RX18 50 yX18_say, .instanceMethod yX18_say, .selects RX18 yX18_say yX18_say] ++ (u_ws RX18 TX18 10 ++ (ow_dm_X18_put ++ (ow_dm_X18_say ++ []))))
theorem gd_dm_X18_bracket : ∀ w ∈ ow_dm_X18_bracket, (w.onTables && w.keeps) = true ∨ ∃ ty, w = Cond.arrayClass ty := List.forall_mem_cons.mpr ⟨good_of_word rfl, List.forall_mem_append.mpr ⟨fun w h => good_of_word (List.all_eq_true.mp (by decide +kernel) w h), List.forall_mem_append.mpr ⟨gu_X18, List.forall_mem_append.mpr ⟨gd_dm_X18_put, List.forall_mem_append.mpr ⟨gd_dm_X18_say, fun _ h => nomatch h⟩⟩⟩⟩⟩
theorem hi_dm_X18_bracket_X18 : ∀ w ∈ u_ws RX18 TX18 10, w ∈ ow_dm_X18_bracket := fun w h => List.mem_cons_of_mem _ (List.mem_append_right _ (List.mem_append_left _ h))
theorem gi_dm_X18_bracket_0 : GoodIn ow_dm_X18_bracket (wsV RX18 29 RX18 yX18_put ow_dm_X18_put) := goodIn_app (goodIn_of _ (by decide +kernel)) (fun w h => ⟨List.mem_cons_of_mem _ (List.mem_append_right _ (List.mem_append_right _ (List.mem_append_left _ h))), gd_dm_X18_put w h⟩)
theorem gi_dm_X18_bracket_1 : GoodIn ow_dm_X18_bracket (wsV RX18 50 RX18 yX18_say ow_dm_X18_say) := goodIn_app (goodIn_of _ (by decide +kernel)) (fun w h => ⟨List.mem_cons_of_mem _ (List.mem_append_right _ (List.mem_append_right _ (List.mem_append_right _ (List.mem_append_left _ h)))), gd_dm_X18_say w h⟩)
def dj_X18_bracket_0 (p : Program) (l : Launch) (e : Env) (s : State) (m : MethodId) (args : Array Value) (below : List Frame) (meth : Method) (c : Code) (Q : State → Prop) (A : Nat → Prop) (dC : Nat → ClassId) (dI : Nat → Nat → Nat) (a : Nat → Nat) (ac : Nat → ClassId) (g : Int32 → (St) → Option (St)) (r : St) : Prop := ∀ (v0 : Int32) (s0 : St) (H : Heap) (locs : List Loc) (ls : Array Slot), g v0 s0 = some r → va_P (dC, dI) vwCl (dw_X18 a ac s0) H → va_D A (dw_X18 a ac s0) → va_S A s.heap H locs → lv_has ls 2 [(0, .ref (a 0)), (1, .int v0)] → W p l e (headSpec ow_dm_X18_bracket ({ frames := 2, cells := 0, slots := 0, locals := 45 })).room s m args below meth c H locs 0 0 Q (F0 m 0 ls [])
set_option maxHeartbeats 40000000 in
set_option maxRecDepth 100000 in
theorem db_X18_bracket_0 {p : Program} {l : Launch} {e : Env} {s : State} {m : MethodId} {args : Array Value} {below : List Frame} {meth : Method} {c : Code} {Q : State → Prop} {A : Nat → Prop} {dC : Nat → ClassId} {dI : Nat → Nat → Nat} {a : Nat → Nat} {ac : Nat → ClassId} {n : Nat} {r : St} (C : nd_C p l s m args c A (dC, dI) cX18_bracket 2 RX18 ow_dm_X18_bracket (dk_X18 ac)) (K : nd_Kv p l e (headSpec ow_dm_X18_bracket ({ frames := 2, cells := 0, slots := 0, locals := 45 })).room s m args below meth c Q A (dC, dI) cX18_bracket (St) (dw_X18 a ac) r) : dj_X18_bracket_0 p l e s m args below meth c Q A dC dI a ac (df_X18_bracket_0 n) r := by
  obtain ⟨hlt, hx, hb, hml, hown, hts, hN, hA, hK⟩ := id C
  intro v0 s0 H locs ls h hP hD hS hl
  unfold df_X18_bracket_0 at h
  refine lv_aload_n hx hb dX18_bracket_0 rfl (lv_at hl 0 rfl) ?_
  refine lv_bipush (v := 40) hx hb dX18_bracket_1 (by decide) ?_
  obtain ⟨s2, hq, h⟩ := nd_b1_e h
  have hPc := hP
  have hDc := hD
  have hKc := hK
  have hFc := nd_rs hD hS hA
  refine va_callv (va_runV (As := [.int 40]) (rest := []) ⟨hx, hb, hml, hown, hts⟩ (dm_X18_put l hlt dC dI a ac n (40) s0 hq _) (cwV 1 hts gi_dm_X18_bracket_0 rfl rfl rfl (by decide +kernel) ⟨Nat.le_of_ble_eq_true rfl, Nat.le_of_ble_eq_true rfl⟩) ⟨fun a U g mk q => by obtain ⟨q0, q1, qP, qK, qD, qN⟩ := q; exact ⟨q0, q1, qP, va_K.moved (u := U) (U := U.calling g mk a) (Vm.Alike.refl U.vm) qK, qD, nv_same rfl rfl qN⟩, va_recv hKc hPc (ci := 19) (q0 := 0) rfl rfl, fun U hU hW => ⟨rfl, by rw [hU], by rw [hU]; exact hPc, va_K.moved hW.alike hKc, hDc.weaken (fun _ _ _ _ => trivial), nv_call hS hFc hU hW hN⟩⟩ rfl rfl hl.1 rfl (lv_room (Nat.le_of_ble_eq_true rfl)) dX18_bracket_3 ⟨by decide +kernel, by decide +kernel⟩) hS (fun q _ h => hFc q h) hFc (fun u t H locs ht hvm hw hB hz1 hk1 hS => ?_)
  obtain ⟨hP1, -, hD1⟩ := hB
  rw [ht] at hP1
  have hP := hP1
  have hD := hD1.weaken (fun k q _ h => hFc q.1 h)
  refine W.widen (k := 0) (n := 0) (Nat.le_refl _) (Nat.le_refl _) ?_
  refine lv_aload_n hx hb dX18_bracket_6 rfl (lv_at hl 0 rfl) ?_
  refine lv_aload_n hx hb dX18_bracket_7 rfl (lv_at hl 0 rfl) ?_
  refine va_get (D := (dC, dI)) (ci := 19) (v := .ref (a 2)) (C := RX18) (T := TX18) (N := 10) hx hb hts hi_dm_X18_bracket_X18 hown hK hP 0 rfl rfl 9 (by decide) (hts (.fieldLink RX18 16 "TimeMachineModel$Reader" "registers" "[I") (List.mem_of_getElem? (i := 5) rfl)) (fun _ h9 => h9) rfl dX18_bracket_8 ?_
  refine lv_iload_n hx hb dX18_bracket_11 rfl (lv_at hl 1 rfl) ?_
  obtain ⟨i4, h⟩ := nd_ck_e h
  refine va_iald (i := v0) hx hb hK hP 2 1 rfl rfl i4 dX18_bracket_12 ?_
  refine lv_i2l hx hb dX18_bracket_13 rfl ?_
  obtain ⟨s6, hq, h⟩ := nd_b1_e h
  have hPc := hP
  have hDc := hD
  have hKc := hK
  have hFc := nd_rs hD hS hA
  refine va_callv (va_runV (As := [.long (((sR s2 1 (Int32.toNatClampNeg v0)) : Int32).toInt64)]) (rest := []) ⟨hx, hb, hml, hown, hts⟩ (dm_X18_say l hlt dC dI a ac n ((((sR s2 1 (Int32.toNatClampNeg v0)) : Int32).toInt64)) s2 hq _) (cwV 1 hts gi_dm_X18_bracket_1 rfl rfl rfl (by decide +kernel) ⟨Nat.le_of_ble_eq_true rfl, Nat.le_of_ble_eq_true rfl⟩) ⟨fun a U g mk q => by obtain ⟨q0, q1, qP, qK, qD, qN⟩ := q; exact ⟨q0, q1, qP, va_K.moved (u := U) (U := U.calling g mk a) (Vm.Alike.refl U.vm) qK, qD, nv_same rfl rfl qN⟩, va_recv hKc hPc (ci := 19) (q0 := 0) rfl rfl, fun U hU hW => ⟨rfl, by rw [hU], by rw [hU]; exact hPc, va_K.moved hW.alike hKc, hDc.weaken (fun _ _ _ _ => trivial), nv_call hS hFc hU hW hN⟩⟩ rfl rfl hl.1 rfl (lv_room (Nat.le_of_ble_eq_true rfl)) dX18_bracket_14 ⟨by decide +kernel, by decide +kernel⟩) hS (fun q _ h => hFc q h) hFc (fun u t H locs ht hvm hw hB hz1 hk1 hS => ?_)
  obtain ⟨hP1, -, hD1⟩ := hB
  rw [ht] at hP1
  have hP := hP1
  have hD := hD1.weaken (fun k q _ h => hFc q.1 h)
  refine W.widen (k := 0) (n := 0) (Nat.le_refl _) (Nat.le_refl _) ?_
  refine lv_aload_n hx hb dX18_bracket_17 rfl (lv_at hl 0 rfl) ?_
  refine lv_bipush (v := 41) hx hb dX18_bracket_18 (by decide) ?_
  obtain ⟨s9, hq, h⟩ := nd_b1_e h
  have hPc := hP
  have hDc := hD
  have hKc := hK
  have hFc := nd_rs hD hS hA
  refine va_callv (va_runV (As := [.int 41]) (rest := []) ⟨hx, hb, hml, hown, hts⟩ (dm_X18_put l hlt dC dI a ac n (41) s6 hq _) (cwV 1 hts gi_dm_X18_bracket_0 rfl rfl rfl (by decide +kernel) ⟨Nat.le_of_ble_eq_true rfl, Nat.le_of_ble_eq_true rfl⟩) ⟨fun a U g mk q => by obtain ⟨q0, q1, qP, qK, qD, qN⟩ := q; exact ⟨q0, q1, qP, va_K.moved (u := U) (U := U.calling g mk a) (Vm.Alike.refl U.vm) qK, qD, nv_same rfl rfl qN⟩, va_recv hKc hPc (ci := 19) (q0 := 0) rfl rfl, fun U hU hW => ⟨rfl, by rw [hU], by rw [hU]; exact hPc, va_K.moved hW.alike hKc, hDc.weaken (fun _ _ _ _ => trivial), nv_call hS hFc hU hW hN⟩⟩ rfl rfl hl.1 rfl (lv_room (Nat.le_of_ble_eq_true rfl)) dX18_bracket_20 ⟨by decide +kernel, by decide +kernel⟩) hS (fun q _ h => hFc q h) hFc (fun u t H locs ht hvm hw hB hz1 hk1 hS => ?_)
  obtain ⟨hP1, -, hD1⟩ := hB
  rw [ht] at hP1
  have hP := hP1
  have hD := hD1.weaken (fun k q _ h => hFc q.1 h)
  refine W.widen (k := 0) (n := 0) (Nat.le_refl _) (Nat.le_refl _) ?_
  exact K _ _ _ _ _ dX18_bracket_23 (Option.some.inj h).symm hP hD hS
set_option maxHeartbeats 40000000 in
set_option maxRecDepth 100000 in
theorem dm_X18_bracket (l : Launch) (hlt : l.stackTraces = false) (dC : Nat → ClassId) (dI : Nat → Nat → Nat) (a : Nat → Nat) (ac : Nat → ClassId) (n : Nat) (v0 : Int32) (s0 : St) {r : St} (h : df_X18_bracket n v0 s0 = some r) (sz : Nat) : Met l yX18_bracket ow_dm_X18_bracket ({ frames := 2, cells := 0, slots := 0, locals := 45 }) (va_Pc [.ref (a 0), .int v0] (fun U => U.heap.size = sz ∧ va_P (dC, dI) vwCl (dw_X18 a ac s0) U.heap ∧ va_K (dC, dI) vwCl (dk_X18 ac) U ∧ va_D (fun _ => True) (dw_X18 a ac s0) ∧ nv_E (va_A (dw_X18 a ac s0) sz) U)) (va_Qv (fun _ => True) (fun (_ : Unit) t => va_P (dC, dI) vwCl (dw_X18 a ac r) t.heap ∧ va_K (dC, dI) vwCl (dk_X18 ac) t ∧ va_D (va_A (dw_X18 a ac s0) sz) (dw_X18 a ac r)) (va_A (dw_X18 a ac s0) sz)) 0 0 (va_A (dw_X18 a ac s0) sz) := by
  refine Met.ofW (cc := cX18_bracket) (maxL := 2) (ret := none) (by decide) rfl ?_
  intro p e s m args below meth c s₁ B hml hv
  obtain ⟨rfl, hsz, hP, hK, hD0, hN⟩ := hv
  have hx := B.exec
  have hb := B.bytes
  have hr := B.returns
  have hts := atoms_spec (ws := ow_dm_X18_bracket) B.pre
  have hown : s.vm.findClass RX18 = some m.cls := findClass_of_methodNamed B.named
  have hlocks := B.notSynchronized
  subst hsz
  have hD := hD0.self (sz := s.heap.size)
  generalize hAe : va_A (dw_X18 a ac s0) s.heap.size = A at hD hN ⊢
  have hA : ∀ q : Nat, s.heap.size ≤ q → A q := fun q h => by rw [← hAe]; exact Or.inr h
  have hl := lv_entry ([.ref (a 0), .int v0]) (n := 2) (Nat.le_of_ble_eq_true rfl)
  rw [lg_entry_eq]
  generalize (lg_sl ([.ref (a 0), .int v0]) ++ List.replicate (2 - (lg_sl ([.ref (a 0), .int v0])).length) Slot.unset).toArray = ls at hl ⊢
  have hl : lv_has ls 2 [(0, .ref (a 0)), (1, .int v0)] := hl
  exact db_X18_bracket_0 (dC := dC) (dI := dI) (a := a) (ac := ac) (n := n) (r := r) ⟨hlt, hx, hb, hml, hown, hts, hN, hA, hK⟩ (fun pc τ H locs ls d er hP hD hS => by subst er; exact W.vret hx hb hr (fun t ht hW => ⟨⟨(), rfl, trivial, by rw [ht]; exact hP, va_K.moved hW.alike hK, hD⟩, hS.F ht⟩) hS.2.2 d) v0 s0 _ _ _ h hP hD va_S.rf (lv_sub hl [0, 1] rfl)
def ow_dm_X18_memory : List Cond := .code yX18_memory cX18_memory 3 none :: ([.methodLink RX18 59 yX18_immediate, .instanceMethod yX18_immediate, .selects RX18 yX18_immediate yX18_immediate, .initialized RX18, .methodLink RX18 62 yX18_bracket, .instanceMethod yX18_bracket, .selects RX18 yX18_bracket yX18_bracket] ++ (ow_dm_X18_immediate ++ (ow_dm_X18_bracket ++ [])))
theorem gd_dm_X18_memory : ∀ w ∈ ow_dm_X18_memory, (w.onTables && w.keeps) = true ∨ ∃ ty, w = Cond.arrayClass ty := List.forall_mem_cons.mpr ⟨good_of_word rfl, List.forall_mem_append.mpr ⟨fun w h => good_of_word (List.all_eq_true.mp (by decide +kernel) w h), List.forall_mem_append.mpr ⟨gd_dm_X18_immediate, List.forall_mem_append.mpr ⟨gd_dm_X18_bracket, fun _ h => nomatch h⟩⟩⟩⟩
theorem gi_dm_X18_memory_0 : GoodIn ow_dm_X18_memory (wsV RX18 59 RX18 yX18_immediate ow_dm_X18_immediate) := goodIn_app (goodIn_of _ (by decide +kernel)) (fun w h => ⟨List.mem_cons_of_mem _ (List.mem_append_right _ (List.mem_append_left _ h)), gd_dm_X18_immediate w h⟩)
theorem gi_dm_X18_memory_1 : GoodIn ow_dm_X18_memory (wsV RX18 62 RX18 yX18_bracket ow_dm_X18_bracket) := goodIn_app (goodIn_of _ (by decide +kernel)) (fun w h => ⟨List.mem_cons_of_mem _ (List.mem_append_right _ (List.mem_append_right _ (List.mem_append_left _ h))), gd_dm_X18_bracket w h⟩)
def dj_X18_memory_0 (p : Program) (l : Launch) (e : Env) (s : State) (m : MethodId) (args : Array Value) (below : List Frame) (meth : Method) (c : Code) (Q : State → Prop) (A : Nat → Prop) (dC : Nat → ClassId) (dI : Nat → Nat → Nat) (a : Nat → Nat) (ac : Nat → ClassId) (g : Int32 → Int32 → (St) → Option (St)) (r : St) : Prop := ∀ (v0 : Int32) (v1 : Int32) (s0 : St) (H : Heap) (locs : List Loc) (ls : Array Slot), g v0 v1 s0 = some r → va_P (dC, dI) vwCl (dw_X18 a ac s0) H → va_D A (dw_X18 a ac s0) → va_S A s.heap H locs → lv_has ls 3 [(0, .ref (a 0)), (1, .int v0), (2, .int v1)] → W p l e (headSpec ow_dm_X18_memory ({ frames := 4, cells := 0, slots := 0, locals := 89 })).room s m args below meth c H locs 0 0 Q (F0 m 0 ls [])
set_option maxHeartbeats 40000000 in
set_option maxRecDepth 100000 in
theorem db_X18_memory_0 {p : Program} {l : Launch} {e : Env} {s : State} {m : MethodId} {args : Array Value} {below : List Frame} {meth : Method} {c : Code} {Q : State → Prop} {A : Nat → Prop} {dC : Nat → ClassId} {dI : Nat → Nat → Nat} {a : Nat → Nat} {ac : Nat → ClassId} {n : Nat} {r : St} (C : nd_C p l s m args c A (dC, dI) cX18_memory 3 RX18 ow_dm_X18_memory (dk_X18 ac)) (K : nd_Kv p l e (headSpec ow_dm_X18_memory ({ frames := 4, cells := 0, slots := 0, locals := 89 })).room s m args below meth c Q A (dC, dI) cX18_memory (St) (dw_X18 a ac) r) : dj_X18_memory_0 p l e s m args below meth c Q A dC dI a ac (df_X18_memory_0 n) r := by
  obtain ⟨hlt, hx, hb, hml, hown, hts, hN, hA, hK⟩ := id C
  intro v0 v1 s0 H locs ls h hP hD hS hl
  unfold df_X18_memory_0 at h
  refine lv_aload_n hx hb dX18_memory_0 rfl (lv_at hl 0 rfl) ?_
  refine lv_iload_n hx hb dX18_memory_1 rfl (lv_at hl 1 rfl) ?_
  obtain ⟨s2, hq, h⟩ := nd_b1_e h
  have hPc := hP
  have hDc := hD
  have hKc := hK
  have hFc := nd_rs hD hS hA
  refine va_callv (va_runV (As := [.int v0]) (rest := []) ⟨hx, hb, hml, hown, hts⟩ (dm_X18_immediate l hlt dC dI a ac n (v0) s0 hq _) (cwV 1 hts gi_dm_X18_memory_0 rfl rfl rfl (by decide +kernel) ⟨Nat.le_of_ble_eq_true rfl, Nat.le_of_ble_eq_true rfl⟩) ⟨fun a U g mk q => by obtain ⟨q0, q1, qP, qK, qD, qN⟩ := q; exact ⟨q0, q1, qP, va_K.moved (u := U) (U := U.calling g mk a) (Vm.Alike.refl U.vm) qK, qD, nv_same rfl rfl qN⟩, va_recv hKc hPc (ci := 19) (q0 := 0) rfl rfl, fun U hU hW => ⟨rfl, by rw [hU], by rw [hU]; exact hPc, va_K.moved hW.alike hKc, hDc.weaken (fun _ _ _ _ => trivial), nv_call hS hFc hU hW hN⟩⟩ rfl rfl hl.1 rfl (lv_room (Nat.le_of_ble_eq_true rfl)) dX18_memory_2 ⟨by decide +kernel, by decide +kernel⟩) hS (fun q _ h => hFc q h) hFc (fun u t H locs ht hvm hw hB hz1 hk1 hS => ?_)
  obtain ⟨hP1, -, hD1⟩ := hB
  rw [ht] at hP1
  have hP := hP1
  have hD := hD1.weaken (fun k q _ h => hFc q.1 h)
  refine W.widen (k := 0) (n := 0) (Nat.le_refl _) (Nat.le_refl _) ?_
  refine lv_aload_n hx hb dX18_memory_5 rfl (lv_at hl 0 rfl) ?_
  refine lv_iload_n hx hb dX18_memory_6 rfl (lv_at hl 2 rfl) ?_
  obtain ⟨s5, hq, h⟩ := nd_b1_e h
  have hPc := hP
  have hDc := hD
  have hKc := hK
  have hFc := nd_rs hD hS hA
  refine va_callv (va_runV (As := [.int v1]) (rest := []) ⟨hx, hb, hml, hown, hts⟩ (dm_X18_bracket l hlt dC dI a ac n (v1) s2 hq _) (cwV 1 hts gi_dm_X18_memory_1 rfl rfl rfl (by decide +kernel) ⟨Nat.le_of_ble_eq_true rfl, Nat.le_of_ble_eq_true rfl⟩) ⟨fun a U g mk q => by obtain ⟨q0, q1, qP, qK, qD, qN⟩ := q; exact ⟨q0, q1, qP, va_K.moved (u := U) (U := U.calling g mk a) (Vm.Alike.refl U.vm) qK, qD, nv_same rfl rfl qN⟩, va_recv hKc hPc (ci := 19) (q0 := 0) rfl rfl, fun U hU hW => ⟨rfl, by rw [hU], by rw [hU]; exact hPc, va_K.moved hW.alike hKc, hDc.weaken (fun _ _ _ _ => trivial), nv_call hS hFc hU hW hN⟩⟩ rfl rfl hl.1 rfl (lv_room (Nat.le_of_ble_eq_true rfl)) dX18_memory_7 ⟨by decide +kernel, by decide +kernel⟩) hS (fun q _ h => hFc q h) hFc (fun u t H locs ht hvm hw hB hz1 hk1 hS => ?_)
  obtain ⟨hP1, -, hD1⟩ := hB
  rw [ht] at hP1
  have hP := hP1
  have hD := hD1.weaken (fun k q _ h => hFc q.1 h)
  refine W.widen (k := 0) (n := 0) (Nat.le_refl _) (Nat.le_refl _) ?_
  exact K _ _ _ _ _ dX18_memory_10 (Option.some.inj h).symm hP hD hS
set_option maxHeartbeats 40000000 in
set_option maxRecDepth 100000 in
theorem dm_X18_memory (l : Launch) (hlt : l.stackTraces = false) (dC : Nat → ClassId) (dI : Nat → Nat → Nat) (a : Nat → Nat) (ac : Nat → ClassId) (n : Nat) (v0 : Int32) (v1 : Int32) (s0 : St) {r : St} (h : df_X18_memory n v0 v1 s0 = some r) (sz : Nat) : Met l yX18_memory ow_dm_X18_memory ({ frames := 4, cells := 0, slots := 0, locals := 89 }) (va_Pc [.ref (a 0), .int v0, .int v1] (fun U => U.heap.size = sz ∧ va_P (dC, dI) vwCl (dw_X18 a ac s0) U.heap ∧ va_K (dC, dI) vwCl (dk_X18 ac) U ∧ va_D (fun _ => True) (dw_X18 a ac s0) ∧ nv_E (va_A (dw_X18 a ac s0) sz) U)) (va_Qv (fun _ => True) (fun (_ : Unit) t => va_P (dC, dI) vwCl (dw_X18 a ac r) t.heap ∧ va_K (dC, dI) vwCl (dk_X18 ac) t ∧ va_D (va_A (dw_X18 a ac s0) sz) (dw_X18 a ac r)) (va_A (dw_X18 a ac s0) sz)) 0 0 (va_A (dw_X18 a ac s0) sz) := by
  refine Met.ofW (cc := cX18_memory) (maxL := 3) (ret := none) (by decide) rfl ?_
  intro p e s m args below meth c s₁ B hml hv
  obtain ⟨rfl, hsz, hP, hK, hD0, hN⟩ := hv
  have hx := B.exec
  have hb := B.bytes
  have hr := B.returns
  have hts := atoms_spec (ws := ow_dm_X18_memory) B.pre
  have hown : s.vm.findClass RX18 = some m.cls := findClass_of_methodNamed B.named
  have hlocks := B.notSynchronized
  subst hsz
  have hD := hD0.self (sz := s.heap.size)
  generalize hAe : va_A (dw_X18 a ac s0) s.heap.size = A at hD hN ⊢
  have hA : ∀ q : Nat, s.heap.size ≤ q → A q := fun q h => by rw [← hAe]; exact Or.inr h
  have hl := lv_entry ([.ref (a 0), .int v0, .int v1]) (n := 3) (Nat.le_of_ble_eq_true rfl)
  rw [lg_entry_eq]
  generalize (lg_sl ([.ref (a 0), .int v0, .int v1]) ++ List.replicate (3 - (lg_sl ([.ref (a 0), .int v0, .int v1])).length) Slot.unset).toArray = ls at hl ⊢
  have hl : lv_has ls 3 [(0, .ref (a 0)), (1, .int v0), (2, .int v1)] := hl
  exact db_X18_memory_0 (dC := dC) (dI := dI) (a := a) (ac := ac) (n := n) (r := r) ⟨hlt, hx, hb, hml, hown, hts, hN, hA, hK⟩ (fun pc τ H locs ls d er hP hD hS => by subst er; exact W.vret hx hb hr (fun t ht hW => ⟨⟨(), rfl, trivial, by rw [ht]; exact hP, va_K.moved hW.alike hK, hD⟩, hS.F ht⟩) hS.2.2 d) v0 v1 s0 _ _ _ h hP hD va_S.rf (lv_sub hl [0, 1, 2] rfl)
def ow_dm_X18_threes : List Cond := .code yX18_threes cX18_threes 3 none :: ([.methodLink RX18 65 yX18_name, .instanceMethod yX18_name, .selects RX18 yX18_name yX18_name, .initialized RX18, .fieldLink RX18 68 "TimeMachineModel$Reader" "d" "I", .methodLink RX18 71 yX18_register, .instanceMethod yX18_register, .selects RX18 yX18_register yX18_register, .fieldLink RX18 74 "TimeMachineModel$Reader" "a" "I", .fieldLink RX18 77 "TimeMachineModel$Reader" "b" "I"] ++ (u_ws RX18 TX18 10 ++ (ow_dm_X18_name ++ (ow_dm_X18_register ++ []))))
theorem gd_dm_X18_threes : ∀ w ∈ ow_dm_X18_threes, (w.onTables && w.keeps) = true ∨ ∃ ty, w = Cond.arrayClass ty := List.forall_mem_cons.mpr ⟨good_of_word rfl, List.forall_mem_append.mpr ⟨fun w h => good_of_word (List.all_eq_true.mp (by decide +kernel) w h), List.forall_mem_append.mpr ⟨gu_X18, List.forall_mem_append.mpr ⟨gd_dm_X18_name, List.forall_mem_append.mpr ⟨gd_dm_X18_register, fun _ h => nomatch h⟩⟩⟩⟩⟩
theorem hi_dm_X18_threes_X18 : ∀ w ∈ u_ws RX18 TX18 10, w ∈ ow_dm_X18_threes := fun w h => List.mem_cons_of_mem _ (List.mem_append_right _ (List.mem_append_left _ h))
theorem gi_dm_X18_threes_0 : GoodIn ow_dm_X18_threes (wsV RX18 65 RX18 yX18_name ow_dm_X18_name) := goodIn_app (goodIn_of _ (by decide +kernel)) (fun w h => ⟨List.mem_cons_of_mem _ (List.mem_append_right _ (List.mem_append_right _ (List.mem_append_left _ h))), gd_dm_X18_name w h⟩)
theorem gi_dm_X18_threes_1 : GoodIn ow_dm_X18_threes (wsV RX18 71 RX18 yX18_register ow_dm_X18_register) := goodIn_app (goodIn_of _ (by decide +kernel)) (fun w h => ⟨List.mem_cons_of_mem _ (List.mem_append_right _ (List.mem_append_right _ (List.mem_append_right _ (List.mem_append_left _ h)))), gd_dm_X18_register w h⟩)
def dj_X18_threes_0 (p : Program) (l : Launch) (e : Env) (s : State) (m : MethodId) (args : Array Value) (below : List Frame) (meth : Method) (c : Code) (Q : State → Prop) (A : Nat → Prop) (dC : Nat → ClassId) (dI : Nat → Nat → Nat) (a : Nat → Nat) (ac : Nat → ClassId) (g : Int64 → (St) → Option (St)) (r : St) : Prop := ∀ (v0 : Int64) (s0 : St) (H : Heap) (locs : List Loc) (ls : Array Slot), g v0 s0 = some r → va_P (dC, dI) vwCl (dw_X18 a ac s0) H → va_D A (dw_X18 a ac s0) → va_S A s.heap H locs → lv_has ls 3 [(0, .ref (a 0)), (1, .long v0)] → W p l e (headSpec ow_dm_X18_threes ({ frames := 3, cells := 0, slots := 0, locals := 67 })).room s m args below meth c H locs 0 0 Q (F0 m 0 ls [])
set_option maxHeartbeats 40000000 in
set_option maxRecDepth 100000 in
theorem db_X18_threes_0 {p : Program} {l : Launch} {e : Env} {s : State} {m : MethodId} {args : Array Value} {below : List Frame} {meth : Method} {c : Code} {Q : State → Prop} {A : Nat → Prop} {dC : Nat → ClassId} {dI : Nat → Nat → Nat} {a : Nat → Nat} {ac : Nat → ClassId} {n : Nat} {r : St} (C : nd_C p l s m args c A (dC, dI) cX18_threes 3 RX18 ow_dm_X18_threes (dk_X18 ac)) (K : nd_Kv p l e (headSpec ow_dm_X18_threes ({ frames := 3, cells := 0, slots := 0, locals := 67 })).room s m args below meth c Q A (dC, dI) cX18_threes (St) (dw_X18 a ac) r) : dj_X18_threes_0 p l e s m args below meth c Q A dC dI a ac (df_X18_threes_0 n) r := by
  obtain ⟨hlt, hx, hb, hml, hown, hts, hN, hA, hK⟩ := id C
  intro v0 s0 H locs ls h hP hD hS hl
  unfold df_X18_threes_0 at h
  refine lv_aload_n hx hb dX18_threes_0 rfl (lv_at hl 0 rfl) ?_
  refine lv_lload_n hx hb dX18_threes_1 rfl (lv_at hl 1 rfl) ?_
  obtain ⟨s2, hq, h⟩ := nd_b1_e h
  have hPc := hP
  have hDc := hD
  have hKc := hK
  have hFc := nd_rs hD hS hA
  refine va_callv (va_runV (As := [.long v0]) (rest := []) ⟨hx, hb, hml, hown, hts⟩ (dm_X18_name l hlt dC dI a ac n (v0) s0 hq _) (cwV 1 hts gi_dm_X18_threes_0 rfl rfl rfl (by decide +kernel) ⟨Nat.le_of_ble_eq_true rfl, Nat.le_of_ble_eq_true rfl⟩) ⟨fun a U g mk q => by obtain ⟨q0, q1, qP, qK, qD, qN⟩ := q; exact ⟨q0, q1, qP, va_K.moved (u := U) (U := U.calling g mk a) (Vm.Alike.refl U.vm) qK, qD, nv_same rfl rfl qN⟩, va_recv hKc hPc (ci := 19) (q0 := 0) rfl rfl, fun U hU hW => ⟨rfl, by rw [hU], by rw [hU]; exact hPc, va_K.moved hW.alike hKc, hDc.weaken (fun _ _ _ _ => trivial), nv_call hS hFc hU hW hN⟩⟩ rfl rfl hl.1 rfl (lv_room (Nat.le_of_ble_eq_true rfl)) dX18_threes_2 ⟨by decide +kernel, by decide +kernel⟩) hS (fun q _ h => hFc q h) hFc (fun u t H locs ht hvm hw hB hz1 hk1 hS => ?_)
  obtain ⟨hP1, -, hD1⟩ := hB
  rw [ht] at hP1
  have hP := hP1
  have hD := hD1.weaken (fun k q _ h => hFc q.1 h)
  refine W.widen (k := 0) (n := 0) (Nat.le_refl _) (Nat.le_refl _) ?_
  refine lv_aload_n hx hb dX18_threes_5 rfl (lv_at hl 0 rfl) ?_
  refine lv_aload_n hx hb dX18_threes_6 rfl (lv_at hl 0 rfl) ?_
  refine va_get (D := (dC, dI)) (ci := 19) (v := .int (sI s2 4)) (C := RX18) (T := TX18) (N := 10) hx hb hts hi_dm_X18_threes_X18 hown hK hP 0 rfl rfl 5 (by decide) (hts (.fieldLink RX18 68 "TimeMachineModel$Reader" "d" "I") (List.mem_of_getElem? (i := 5) rfl)) (fun _ h9 => h9) rfl dX18_threes_7 ?_
  obtain ⟨s5, hq, h⟩ := nd_b1_e h
  have hPc := hP
  have hDc := hD
  have hKc := hK
  have hFc := nd_rs hD hS hA
  refine va_callv (va_runV (As := [.int (sI s2 4)]) (rest := []) ⟨hx, hb, hml, hown, hts⟩ (dm_X18_register l hlt dC dI a ac n ((sI s2 4)) s2 hq _) (cwV 1 hts gi_dm_X18_threes_1 rfl rfl rfl (by decide +kernel) ⟨Nat.le_of_ble_eq_true rfl, Nat.le_of_ble_eq_true rfl⟩) ⟨fun a U g mk q => by obtain ⟨q0, q1, qP, qK, qD, qN⟩ := q; exact ⟨q0, q1, qP, va_K.moved (u := U) (U := U.calling g mk a) (Vm.Alike.refl U.vm) qK, qD, nv_same rfl rfl qN⟩, va_recv hKc hPc (ci := 19) (q0 := 0) rfl rfl, fun U hU hW => ⟨rfl, by rw [hU], by rw [hU]; exact hPc, va_K.moved hW.alike hKc, hDc.weaken (fun _ _ _ _ => trivial), nv_call hS hFc hU hW hN⟩⟩ rfl rfl hl.1 rfl (lv_room (Nat.le_of_ble_eq_true rfl)) dX18_threes_10 ⟨by decide +kernel, by decide +kernel⟩) hS (fun q _ h => hFc q h) hFc (fun u t H locs ht hvm hw hB hz1 hk1 hS => ?_)
  obtain ⟨hP1, -, hD1⟩ := hB
  rw [ht] at hP1
  have hP := hP1
  have hD := hD1.weaken (fun k q _ h => hFc q.1 h)
  refine W.widen (k := 0) (n := 0) (Nat.le_refl _) (Nat.le_refl _) ?_
  refine lv_aload_n hx hb dX18_threes_13 rfl (lv_at hl 0 rfl) ?_
  refine lv_aload_n hx hb dX18_threes_14 rfl (lv_at hl 0 rfl) ?_
  refine va_get (D := (dC, dI)) (ci := 19) (v := .int (sI s5 5)) (C := RX18) (T := TX18) (N := 10) hx hb hts hi_dm_X18_threes_X18 hown hK hP 0 rfl rfl 6 (by decide) (hts (.fieldLink RX18 74 "TimeMachineModel$Reader" "a" "I") (List.mem_of_getElem? (i := 9) rfl)) (fun _ h9 => h9) rfl dX18_threes_15 ?_
  obtain ⟨s8, hq, h⟩ := nd_b1_e h
  have hPc := hP
  have hDc := hD
  have hKc := hK
  have hFc := nd_rs hD hS hA
  refine va_callv (va_runV (As := [.int (sI s5 5)]) (rest := []) ⟨hx, hb, hml, hown, hts⟩ (dm_X18_register l hlt dC dI a ac n ((sI s5 5)) s5 hq _) (cwV 1 hts gi_dm_X18_threes_1 rfl rfl rfl (by decide +kernel) ⟨Nat.le_of_ble_eq_true rfl, Nat.le_of_ble_eq_true rfl⟩) ⟨fun a U g mk q => by obtain ⟨q0, q1, qP, qK, qD, qN⟩ := q; exact ⟨q0, q1, qP, va_K.moved (u := U) (U := U.calling g mk a) (Vm.Alike.refl U.vm) qK, qD, nv_same rfl rfl qN⟩, va_recv hKc hPc (ci := 19) (q0 := 0) rfl rfl, fun U hU hW => ⟨rfl, by rw [hU], by rw [hU]; exact hPc, va_K.moved hW.alike hKc, hDc.weaken (fun _ _ _ _ => trivial), nv_call hS hFc hU hW hN⟩⟩ rfl rfl hl.1 rfl (lv_room (Nat.le_of_ble_eq_true rfl)) dX18_threes_18 ⟨by decide +kernel, by decide +kernel⟩) hS (fun q _ h => hFc q h) hFc (fun u t H locs ht hvm hw hB hz1 hk1 hS => ?_)
  obtain ⟨hP1, -, hD1⟩ := hB
  rw [ht] at hP1
  have hP := hP1
  have hD := hD1.weaken (fun k q _ h => hFc q.1 h)
  refine W.widen (k := 0) (n := 0) (Nat.le_refl _) (Nat.le_refl _) ?_
  refine lv_aload_n hx hb dX18_threes_21 rfl (lv_at hl 0 rfl) ?_
  refine lv_aload_n hx hb dX18_threes_22 rfl (lv_at hl 0 rfl) ?_
  refine va_get (D := (dC, dI)) (ci := 19) (v := .int (sI s8 6)) (C := RX18) (T := TX18) (N := 10) hx hb hts hi_dm_X18_threes_X18 hown hK hP 0 rfl rfl 7 (by decide) (hts (.fieldLink RX18 77 "TimeMachineModel$Reader" "b" "I") (List.mem_of_getElem? (i := 10) rfl)) (fun _ h9 => h9) rfl dX18_threes_23 ?_
  obtain ⟨s11, hq, h⟩ := nd_b1_e h
  have hPc := hP
  have hDc := hD
  have hKc := hK
  have hFc := nd_rs hD hS hA
  refine va_callv (va_runV (As := [.int (sI s8 6)]) (rest := []) ⟨hx, hb, hml, hown, hts⟩ (dm_X18_register l hlt dC dI a ac n ((sI s8 6)) s8 hq _) (cwV 1 hts gi_dm_X18_threes_1 rfl rfl rfl (by decide +kernel) ⟨Nat.le_of_ble_eq_true rfl, Nat.le_of_ble_eq_true rfl⟩) ⟨fun a U g mk q => by obtain ⟨q0, q1, qP, qK, qD, qN⟩ := q; exact ⟨q0, q1, qP, va_K.moved (u := U) (U := U.calling g mk a) (Vm.Alike.refl U.vm) qK, qD, nv_same rfl rfl qN⟩, va_recv hKc hPc (ci := 19) (q0 := 0) rfl rfl, fun U hU hW => ⟨rfl, by rw [hU], by rw [hU]; exact hPc, va_K.moved hW.alike hKc, hDc.weaken (fun _ _ _ _ => trivial), nv_call hS hFc hU hW hN⟩⟩ rfl rfl hl.1 rfl (lv_room (Nat.le_of_ble_eq_true rfl)) dX18_threes_26 ⟨by decide +kernel, by decide +kernel⟩) hS (fun q _ h => hFc q h) hFc (fun u t H locs ht hvm hw hB hz1 hk1 hS => ?_)
  obtain ⟨hP1, -, hD1⟩ := hB
  rw [ht] at hP1
  have hP := hP1
  have hD := hD1.weaken (fun k q _ h => hFc q.1 h)
  refine W.widen (k := 0) (n := 0) (Nat.le_refl _) (Nat.le_refl _) ?_
  exact K _ _ _ _ _ dX18_threes_29 (Option.some.inj h).symm hP hD hS
set_option maxHeartbeats 40000000 in
set_option maxRecDepth 100000 in
theorem dm_X18_threes (l : Launch) (hlt : l.stackTraces = false) (dC : Nat → ClassId) (dI : Nat → Nat → Nat) (a : Nat → Nat) (ac : Nat → ClassId) (n : Nat) (v0 : Int64) (s0 : St) {r : St} (h : df_X18_threes n v0 s0 = some r) (sz : Nat) : Met l yX18_threes ow_dm_X18_threes ({ frames := 3, cells := 0, slots := 0, locals := 67 }) (va_Pc [.ref (a 0), .long v0] (fun U => U.heap.size = sz ∧ va_P (dC, dI) vwCl (dw_X18 a ac s0) U.heap ∧ va_K (dC, dI) vwCl (dk_X18 ac) U ∧ va_D (fun _ => True) (dw_X18 a ac s0) ∧ nv_E (va_A (dw_X18 a ac s0) sz) U)) (va_Qv (fun _ => True) (fun (_ : Unit) t => va_P (dC, dI) vwCl (dw_X18 a ac r) t.heap ∧ va_K (dC, dI) vwCl (dk_X18 ac) t ∧ va_D (va_A (dw_X18 a ac s0) sz) (dw_X18 a ac r)) (va_A (dw_X18 a ac s0) sz)) 0 0 (va_A (dw_X18 a ac s0) sz) := by
  refine Met.ofW (cc := cX18_threes) (maxL := 3) (ret := none) (by decide) rfl ?_
  intro p e s m args below meth c s₁ B hml hv
  obtain ⟨rfl, hsz, hP, hK, hD0, hN⟩ := hv
  have hx := B.exec
  have hb := B.bytes
  have hr := B.returns
  have hts := atoms_spec (ws := ow_dm_X18_threes) B.pre
  have hown : s.vm.findClass RX18 = some m.cls := findClass_of_methodNamed B.named
  have hlocks := B.notSynchronized
  subst hsz
  have hD := hD0.self (sz := s.heap.size)
  generalize hAe : va_A (dw_X18 a ac s0) s.heap.size = A at hD hN ⊢
  have hA : ∀ q : Nat, s.heap.size ≤ q → A q := fun q h => by rw [← hAe]; exact Or.inr h
  have hl := lv_entry ([.ref (a 0), .long v0]) (n := 3) (Nat.le_of_ble_eq_true rfl)
  rw [lg_entry_eq]
  generalize (lg_sl ([.ref (a 0), .long v0]) ++ List.replicate (3 - (lg_sl ([.ref (a 0), .long v0])).length) Slot.unset).toArray = ls at hl ⊢
  have hl : lv_has ls 3 [(0, .ref (a 0)), (1, .long v0)] := hl
  exact db_X18_threes_0 (dC := dC) (dI := dI) (a := a) (ac := ac) (n := n) (r := r) ⟨hlt, hx, hb, hml, hown, hts, hN, hA, hK⟩ (fun pc τ H locs ls d er hP hD hS => by subst er; exact W.vret hx hb hr (fun t ht hW => ⟨⟨(), rfl, trivial, by rw [ht]; exact hP, va_K.moved hW.alike hK, hD⟩, hS.F ht⟩) hS.2.2 d) v0 s0 _ _ _ h hP hD va_S.rf (lv_sub hl [0, 1] rfl)
def ow_dm_X18_plain : List Cond := .code yX18_plain cX18_plain 2 none :: ([.fieldLink RX18 80 "TimeMachineModel$Reader" "f" "I", .constantLong RX18 120 (6386291), .methodLink RX18 99 yX18_threes, .instanceMethod yX18_threes, .selects RX18 yX18_threes yX18_threes, .initialized RX18, .constantLong RX18 118 (6452595), .constantLong RX18 116 (1970103666), .constantLong RX18 114 (7169394), .constantLong RX18 112 (1970694500), .constantLong RX18 110 (7760228), .constantLong RX18 108 (504263112045), .constantLong RX18 106 (129138533627245), .constantLong RX18 104 (1751938413), .constantLong RX18 102 (7107949), .constantLong RX18 97 (6581857), .constantLong RX18 95 (29295), .constantLong RX18 93 (7107187), .constantLong RX18 91 (7499640), .constantLong RX18 89 (1970564211), .constantLong RX18 87 (7629939), .constantLong RX18 85 (7105651), .constantLong RX18 83 (6579297)] ++ (u_ws RX18 TX18 10 ++ (ow_dm_X18_threes ++ [])))
theorem gd_dm_X18_plain : ∀ w ∈ ow_dm_X18_plain, (w.onTables && w.keeps) = true ∨ ∃ ty, w = Cond.arrayClass ty := List.forall_mem_cons.mpr ⟨good_of_word rfl, List.forall_mem_append.mpr ⟨fun w h => good_of_word (List.all_eq_true.mp (by decide +kernel) w h), List.forall_mem_append.mpr ⟨gu_X18, List.forall_mem_append.mpr ⟨gd_dm_X18_threes, fun _ h => nomatch h⟩⟩⟩⟩
theorem hi_dm_X18_plain_X18 : ∀ w ∈ u_ws RX18 TX18 10, w ∈ ow_dm_X18_plain := fun w h => List.mem_cons_of_mem _ (List.mem_append_right _ (List.mem_append_left _ h))
theorem gi_dm_X18_plain_0 : GoodIn ow_dm_X18_plain (wsV RX18 99 RX18 yX18_threes ow_dm_X18_threes) := goodIn_app (goodIn_of _ (by decide +kernel)) (fun w h => ⟨List.mem_cons_of_mem _ (List.mem_append_right _ (List.mem_append_right _ (List.mem_append_left _ h))), gd_dm_X18_threes w h⟩)
def dj_X18_plain_266 (p : Program) (l : Launch) (e : Env) (s : State) (m : MethodId) (args : Array Value) (below : List Frame) (meth : Method) (c : Code) (Q : State → Prop) (A : Nat → Prop) (dC : Nat → ClassId) (dI : Nat → Nat → Nat) (a : Nat → Nat) (ac : Nat → ClassId) (g : (St) → Option (St)) (r : St) : Prop := ∀ (s0 : St) (H : Heap) (locs : List Loc) (ls : Array Slot), g s0 = some r → va_P (dC, dI) vwCl (dw_X18 a ac s0) H → va_D A (dw_X18 a ac s0) → va_S A s.heap H locs → lv_has ls 2 [] → W p l e (headSpec ow_dm_X18_plain ({ frames := 4, cells := 0, slots := 0, locals := 89 })).room s m args below meth c H locs 0 0 Q (F0 m 266 ls [])
def dj_X18_plain_263 (p : Program) (l : Launch) (e : Env) (s : State) (m : MethodId) (args : Array Value) (below : List Frame) (meth : Method) (c : Code) (Q : State → Prop) (A : Nat → Prop) (dC : Nat → ClassId) (dI : Nat → Nat → Nat) (a : Nat → Nat) (ac : Nat → ClassId) (g : Int64 → (St) → Option (St)) (r : St) : Prop := ∀ (y1 : Int64) (s0 : St) (H : Heap) (locs : List Loc) (ls : Array Slot), g y1 s0 = some r → va_P (dC, dI) vwCl (dw_X18 a ac s0) H → va_D A (dw_X18 a ac s0) → va_S A s.heap H locs → lv_has ls 2 [] → W p l e (headSpec ow_dm_X18_plain ({ frames := 4, cells := 0, slots := 0, locals := 89 })).room s m args below meth c H locs 0 0 Q (F0 m 263 ls [.long y1, .ref (a 0)])
def dj_X18_plain_246 (p : Program) (l : Launch) (e : Env) (s : State) (m : MethodId) (args : Array Value) (below : List Frame) (meth : Method) (c : Code) (Q : State → Prop) (A : Nat → Prop) (dC : Nat → ClassId) (dI : Nat → Nat → Nat) (a : Nat → Nat) (ac : Nat → ClassId) (g : (St) → Option (St)) (r : St) : Prop := ∀ (s0 : St) (H : Heap) (locs : List Loc) (ls : Array Slot), g s0 = some r → va_P (dC, dI) vwCl (dw_X18 a ac s0) H → va_D A (dw_X18 a ac s0) → va_S A s.heap H locs → lv_has ls 2 [(0, .ref (a 0))] → W p l e (headSpec ow_dm_X18_plain ({ frames := 4, cells := 0, slots := 0, locals := 89 })).room s m args below meth c H locs 0 0 Q (F0 m 246 ls [])
def dj_X18_plain_219 (p : Program) (l : Launch) (e : Env) (s : State) (m : MethodId) (args : Array Value) (below : List Frame) (meth : Method) (c : Code) (Q : State → Prop) (A : Nat → Prop) (dC : Nat → ClassId) (dI : Nat → Nat → Nat) (a : Nat → Nat) (ac : Nat → ClassId) (g : Int64 → (St) → Option (St)) (r : St) : Prop := ∀ (y1 : Int64) (s0 : St) (H : Heap) (locs : List Loc) (ls : Array Slot), g y1 s0 = some r → va_P (dC, dI) vwCl (dw_X18 a ac s0) H → va_D A (dw_X18 a ac s0) → va_S A s.heap H locs → lv_has ls 2 [] → W p l e (headSpec ow_dm_X18_plain ({ frames := 4, cells := 0, slots := 0, locals := 89 })).room s m args below meth c H locs 0 0 Q (F0 m 219 ls [.long y1, .ref (a 0)])
def dj_X18_plain_106 (p : Program) (l : Launch) (e : Env) (s : State) (m : MethodId) (args : Array Value) (below : List Frame) (meth : Method) (c : Code) (Q : State → Prop) (A : Nat → Prop) (dC : Nat → ClassId) (dI : Nat → Nat → Nat) (a : Nat → Nat) (ac : Nat → ClassId) (g : Int64 → (St) → Option (St)) (r : St) : Prop := ∀ (y1 : Int64) (s0 : St) (H : Heap) (locs : List Loc) (ls : Array Slot), g y1 s0 = some r → va_P (dC, dI) vwCl (dw_X18 a ac s0) H → va_D A (dw_X18 a ac s0) → va_S A s.heap H locs → lv_has ls 2 [] → W p l e (headSpec ow_dm_X18_plain ({ frames := 4, cells := 0, slots := 0, locals := 89 })).room s m args below meth c H locs 0 0 Q (F0 m 106 ls [.long y1, .ref (a 0)])
def dj_X18_plain_0 (p : Program) (l : Launch) (e : Env) (s : State) (m : MethodId) (args : Array Value) (below : List Frame) (meth : Method) (c : Code) (Q : State → Prop) (A : Nat → Prop) (dC : Nat → ClassId) (dI : Nat → Nat → Nat) (a : Nat → Nat) (ac : Nat → ClassId) (g : Int32 → (St) → Option (St)) (r : St) : Prop := ∀ (v0 : Int32) (s0 : St) (H : Heap) (locs : List Loc) (ls : Array Slot), g v0 s0 = some r → va_P (dC, dI) vwCl (dw_X18 a ac s0) H → va_D A (dw_X18 a ac s0) → va_S A s.heap H locs → lv_has ls 2 [(0, .ref (a 0)), (1, .int v0)] → W p l e (headSpec ow_dm_X18_plain ({ frames := 4, cells := 0, slots := 0, locals := 89 })).room s m args below meth c H locs 0 0 Q (F0 m 0 ls [])
set_option maxHeartbeats 40000000 in
set_option maxRecDepth 100000 in
theorem db_X18_plain_266 {p : Program} {l : Launch} {e : Env} {s : State} {m : MethodId} {args : Array Value} {below : List Frame} {meth : Method} {c : Code} {Q : State → Prop} {A : Nat → Prop} {dC : Nat → ClassId} {dI : Nat → Nat → Nat} {a : Nat → Nat} {ac : Nat → ClassId} {n : Nat} {r : St} (C : nd_C p l s m args c A (dC, dI) cX18_plain 2 RX18 ow_dm_X18_plain (dk_X18 ac)) (K : nd_Kv p l e (headSpec ow_dm_X18_plain ({ frames := 4, cells := 0, slots := 0, locals := 89 })).room s m args below meth c Q A (dC, dI) cX18_plain (St) (dw_X18 a ac) r) : dj_X18_plain_266 p l e s m args below meth c Q A dC dI a ac (df_X18_plain_266 n) r := by
  obtain ⟨hlt, hx, hb, hml, hown, hts, hN, hA, hK⟩ := id C
  intro s0 H locs ls h hP hD hS hl
  unfold df_X18_plain_266 at h
  exact K _ _ _ _ _ dX18_plain_266 (Option.some.inj h).symm hP hD hS
set_option maxHeartbeats 40000000 in
set_option maxRecDepth 100000 in
theorem db_X18_plain_263 {p : Program} {l : Launch} {e : Env} {s : State} {m : MethodId} {args : Array Value} {below : List Frame} {meth : Method} {c : Code} {Q : State → Prop} {A : Nat → Prop} {dC : Nat → ClassId} {dI : Nat → Nat → Nat} {a : Nat → Nat} {ac : Nat → ClassId} {n : Nat} {r : St} (C : nd_C p l s m args c A (dC, dI) cX18_plain 2 RX18 ow_dm_X18_plain (dk_X18 ac)) (K : nd_Kv p l e (headSpec ow_dm_X18_plain ({ frames := 4, cells := 0, slots := 0, locals := 89 })).room s m args below meth c Q A (dC, dI) cX18_plain (St) (dw_X18 a ac) r) : dj_X18_plain_263 p l e s m args below meth c Q A dC dI a ac (df_X18_plain_263 n) r := by
  obtain ⟨hlt, hx, hb, hml, hown, hts, hN, hA, hK⟩ := id C
  intro y1 s0 H locs ls h hP hD hS hl
  unfold df_X18_plain_263 at h
  obtain ⟨s7, hq, h⟩ := nd_b1_e h
  have hPc := hP
  have hDc := hD
  have hKc := hK
  have hFc := nd_rs hD hS hA
  refine va_callv (va_runV (As := [.long y1]) (rest := []) ⟨hx, hb, hml, hown, hts⟩ (dm_X18_threes l hlt dC dI a ac n (y1) s0 hq _) (cwV 1 hts gi_dm_X18_plain_0 rfl rfl rfl (by decide +kernel) ⟨Nat.le_of_ble_eq_true rfl, Nat.le_of_ble_eq_true rfl⟩) ⟨fun a U g mk q => by obtain ⟨q0, q1, qP, qK, qD, qN⟩ := q; exact ⟨q0, q1, qP, va_K.moved (u := U) (U := U.calling g mk a) (Vm.Alike.refl U.vm) qK, qD, nv_same rfl rfl qN⟩, va_recv hKc hPc (ci := 19) (q0 := 0) rfl rfl, fun U hU hW => ⟨rfl, by rw [hU], by rw [hU]; exact hPc, va_K.moved hW.alike hKc, hDc.weaken (fun _ _ _ _ => trivial), nv_call hS hFc hU hW hN⟩⟩ rfl rfl hl.1 rfl (lv_room (Nat.le_of_ble_eq_true rfl)) dX18_plain_263 ⟨by decide +kernel, by decide +kernel⟩) hS (fun q _ h => hFc q h) hFc (fun u t H locs ht hvm hw hB hz1 hk1 hS => ?_)
  obtain ⟨hP1, -, hD1⟩ := hB
  rw [ht] at hP1
  have hP := hP1
  have hD := hD1.weaken (fun k q _ h => hFc q.1 h)
  refine W.widen (k := 0) (n := 0) (Nat.le_refl _) (Nat.le_refl _) ?_
  exact (db_X18_plain_266 C K)  s7 _ _ _ h hP hD hS (lv_sub hl [] rfl)
set_option maxHeartbeats 40000000 in
set_option maxRecDepth 100000 in
theorem db_X18_plain_246 {p : Program} {l : Launch} {e : Env} {s : State} {m : MethodId} {args : Array Value} {below : List Frame} {meth : Method} {c : Code} {Q : State → Prop} {A : Nat → Prop} {dC : Nat → ClassId} {dI : Nat → Nat → Nat} {a : Nat → Nat} {ac : Nat → ClassId} {n : Nat} {r : St} (C : nd_C p l s m args c A (dC, dI) cX18_plain 2 RX18 ow_dm_X18_plain (dk_X18 ac)) (K : nd_Kv p l e (headSpec ow_dm_X18_plain ({ frames := 4, cells := 0, slots := 0, locals := 89 })).room s m args below meth c Q A (dC, dI) cX18_plain (St) (dw_X18 a ac) r) : dj_X18_plain_246 p l e s m args below meth c Q A dC dI a ac (df_X18_plain_246 n) r := by
  obtain ⟨hlt, hx, hb, hml, hown, hts, hN, hA, hK⟩ := id C
  intro s0 H locs ls h hP hD hS hl
  unfold df_X18_plain_246 at h
  refine lv_aload_n hx hb dX18_plain_246 rfl (lv_at hl 0 rfl) ?_
  refine lv_aload_n hx hb dX18_plain_247 rfl (lv_at hl 0 rfl) ?_
  refine va_get (D := (dC, dI)) (ci := 19) (v := .int (sI s0 7)) (C := RX18) (T := TX18) (N := 10) hx hb hts hi_dm_X18_plain_X18 hown hK hP 0 rfl rfl 8 (by decide) (hts (.fieldLink RX18 80 "TimeMachineModel$Reader" "f" "I") (List.mem_of_getElem? (i := 1) rfl)) (fun _ h9 => h9) rfl dX18_plain_248 ?_
  refine lv_if_ne (tgt := 260) hx hb dX18_plain_251 (by decide) (fun c5 => ?_) (fun c5 => ?_)
  · have h := nd_neg h c5
    refine lv_ldc2 hx hb hown (hts (.constantLong RX18 120 (6386291)) (List.mem_of_getElem? (i := 2) rfl)) dX18_plain_260 ?_
    exact (db_X18_plain_263 C K) (6386291) s0 _ _ _ h hP hD hS (lv_sub hl [] rfl)
  · have h := nd_pos h c5
    refine lv_ldc2 hx hb hown (hts (.constantLong RX18 118 (6452595)) (List.mem_of_getElem? (i := 7) rfl)) dX18_plain_254 ?_
    refine lv_goto (tgt := 263) hx hb dX18_plain_257 (by decide) ?_
    exact (db_X18_plain_263 C K) (6452595) s0 _ _ _ h hP hD hS (lv_sub hl [] rfl)
set_option maxHeartbeats 40000000 in
set_option maxRecDepth 100000 in
theorem db_X18_plain_219 {p : Program} {l : Launch} {e : Env} {s : State} {m : MethodId} {args : Array Value} {below : List Frame} {meth : Method} {c : Code} {Q : State → Prop} {A : Nat → Prop} {dC : Nat → ClassId} {dI : Nat → Nat → Nat} {a : Nat → Nat} {ac : Nat → ClassId} {n : Nat} {r : St} (C : nd_C p l s m args c A (dC, dI) cX18_plain 2 RX18 ow_dm_X18_plain (dk_X18 ac)) (K : nd_Kv p l e (headSpec ow_dm_X18_plain ({ frames := 4, cells := 0, slots := 0, locals := 89 })).room s m args below meth c Q A (dC, dI) cX18_plain (St) (dw_X18 a ac) r) : dj_X18_plain_219 p l e s m args below meth c Q A dC dI a ac (df_X18_plain_219 n) r := by
  obtain ⟨hlt, hx, hb, hml, hown, hts, hN, hA, hK⟩ := id C
  intro y1 s0 H locs ls h hP hD hS hl
  unfold df_X18_plain_219 at h
  obtain ⟨s18, hq, h⟩ := nd_b1_e h
  have hPc := hP
  have hDc := hD
  have hKc := hK
  have hFc := nd_rs hD hS hA
  refine va_callv (va_runV (As := [.long y1]) (rest := []) ⟨hx, hb, hml, hown, hts⟩ (dm_X18_threes l hlt dC dI a ac n (y1) s0 hq _) (cwV 1 hts gi_dm_X18_plain_0 rfl rfl rfl (by decide +kernel) ⟨Nat.le_of_ble_eq_true rfl, Nat.le_of_ble_eq_true rfl⟩) ⟨fun a U g mk q => by obtain ⟨q0, q1, qP, qK, qD, qN⟩ := q; exact ⟨q0, q1, qP, va_K.moved (u := U) (U := U.calling g mk a) (Vm.Alike.refl U.vm) qK, qD, nv_same rfl rfl qN⟩, va_recv hKc hPc (ci := 19) (q0 := 0) rfl rfl, fun U hU hW => ⟨rfl, by rw [hU], by rw [hU]; exact hPc, va_K.moved hW.alike hKc, hDc.weaken (fun _ _ _ _ => trivial), nv_call hS hFc hU hW hN⟩⟩ rfl rfl hl.1 rfl (lv_room (Nat.le_of_ble_eq_true rfl)) dX18_plain_219 ⟨by decide +kernel, by decide +kernel⟩) hS (fun q _ h => hFc q h) hFc (fun u t H locs ht hvm hw hB hz1 hk1 hS => ?_)
  obtain ⟨hP1, -, hD1⟩ := hB
  rw [ht] at hP1
  have hP := hP1
  have hD := hD1.weaken (fun k q _ h => hFc q.1 h)
  refine W.widen (k := 0) (n := 0) (Nat.le_refl _) (Nat.le_refl _) ?_
  refine lv_goto (tgt := 266) hx hb dX18_plain_222 (by decide) ?_
  exact (db_X18_plain_266 C K)  s18 _ _ _ h hP hD hS (lv_sub hl [] rfl)
set_option maxHeartbeats 40000000 in
set_option maxRecDepth 100000 in
theorem db_X18_plain_106 {p : Program} {l : Launch} {e : Env} {s : State} {m : MethodId} {args : Array Value} {below : List Frame} {meth : Method} {c : Code} {Q : State → Prop} {A : Nat → Prop} {dC : Nat → ClassId} {dI : Nat → Nat → Nat} {a : Nat → Nat} {ac : Nat → ClassId} {n : Nat} {r : St} (C : nd_C p l s m args c A (dC, dI) cX18_plain 2 RX18 ow_dm_X18_plain (dk_X18 ac)) (K : nd_Kv p l e (headSpec ow_dm_X18_plain ({ frames := 4, cells := 0, slots := 0, locals := 89 })).room s m args below meth c Q A (dC, dI) cX18_plain (St) (dw_X18 a ac) r) : dj_X18_plain_106 p l e s m args below meth c Q A dC dI a ac (df_X18_plain_106 n) r := by
  obtain ⟨hlt, hx, hb, hml, hown, hts, hN, hA, hK⟩ := id C
  intro y1 s0 H locs ls h hP hD hS hl
  unfold df_X18_plain_106 at h
  obtain ⟨s28, hq, h⟩ := nd_b1_e h
  have hPc := hP
  have hDc := hD
  have hKc := hK
  have hFc := nd_rs hD hS hA
  refine va_callv (va_runV (As := [.long y1]) (rest := []) ⟨hx, hb, hml, hown, hts⟩ (dm_X18_threes l hlt dC dI a ac n (y1) s0 hq _) (cwV 1 hts gi_dm_X18_plain_0 rfl rfl rfl (by decide +kernel) ⟨Nat.le_of_ble_eq_true rfl, Nat.le_of_ble_eq_true rfl⟩) ⟨fun a U g mk q => by obtain ⟨q0, q1, qP, qK, qD, qN⟩ := q; exact ⟨q0, q1, qP, va_K.moved (u := U) (U := U.calling g mk a) (Vm.Alike.refl U.vm) qK, qD, nv_same rfl rfl qN⟩, va_recv hKc hPc (ci := 19) (q0 := 0) rfl rfl, fun U hU hW => ⟨rfl, by rw [hU], by rw [hU]; exact hPc, va_K.moved hW.alike hKc, hDc.weaken (fun _ _ _ _ => trivial), nv_call hS hFc hU hW hN⟩⟩ rfl rfl hl.1 rfl (lv_room (Nat.le_of_ble_eq_true rfl)) dX18_plain_106 ⟨by decide +kernel, by decide +kernel⟩) hS (fun q _ h => hFc q h) hFc (fun u t H locs ht hvm hw hB hz1 hk1 hS => ?_)
  obtain ⟨hP1, -, hD1⟩ := hB
  rw [ht] at hP1
  have hP := hP1
  have hD := hD1.weaken (fun k q _ h => hFc q.1 h)
  refine W.widen (k := 0) (n := 0) (Nat.le_refl _) (Nat.le_refl _) ?_
  refine lv_goto (tgt := 266) hx hb dX18_plain_109 (by decide) ?_
  exact (db_X18_plain_266 C K)  s28 _ _ _ h hP hD hS (lv_sub hl [] rfl)
set_option maxHeartbeats 40000000 in
set_option maxRecDepth 100000 in
theorem db_X18_plain_0 {p : Program} {l : Launch} {e : Env} {s : State} {m : MethodId} {args : Array Value} {below : List Frame} {meth : Method} {c : Code} {Q : State → Prop} {A : Nat → Prop} {dC : Nat → ClassId} {dI : Nat → Nat → Nat} {a : Nat → Nat} {ac : Nat → ClassId} {n : Nat} {r : St} (C : nd_C p l s m args c A (dC, dI) cX18_plain 2 RX18 ow_dm_X18_plain (dk_X18 ac)) (K : nd_Kv p l e (headSpec ow_dm_X18_plain ({ frames := 4, cells := 0, slots := 0, locals := 89 })).room s m args below meth c Q A (dC, dI) cX18_plain (St) (dw_X18 a ac) r) : dj_X18_plain_0 p l e s m args below meth c Q A dC dI a ac (df_X18_plain_0 n) r := by
  obtain ⟨hlt, hx, hb, hml, hown, hts, hN, hA, hK⟩ := id C
  intro v0 s0 H locs ls h hP hD hS hl
  unfold df_X18_plain_0 at h
  refine lv_iload_n hx hb dX18_plain_0 rfl (lv_at hl 1 rfl) ?_
  refine lv_if_ne (tgt := 112) hx hb dX18_plain_1 (by decide) (fun c1 => ?_) (fun c1 => ?_)
  · have h := nd_neg h c1
    refine lv_iload_n hx hb dX18_plain_112 rfl (lv_at hl 1 rfl) ?_
    refine lv_iconst (v := 1) hx hb dX18_plain_113 (by decide) ?_
    refine lv_icmp_ne (tgt := 225) hx hb dX18_plain_114 (by decide) (fun c2 => ?_) (fun c2 => ?_)
    · have h := nd_neg h c2
      refine lv_iload_n hx hb dX18_plain_225 rfl (lv_at hl 1 rfl) ?_
      refine lv_bipush (v := 32) hx hb dX18_plain_226 (by decide) ?_
      refine lv_icmp_ne (tgt := 266) hx hb dX18_plain_228 (by decide) (fun c3 => ?_) (fun c3 => ?_)
      · have h := nd_neg h c3
        exact (db_X18_plain_266 C K)  s0 _ _ _ h hP hD hS (lv_sub hl [] rfl)
      · have h := nd_pos h c3
        refine lv_aload_n hx hb dX18_plain_231 rfl (lv_at hl 0 rfl) ?_
        refine va_get (D := (dC, dI)) (ci := 19) (v := .int (sI s0 7)) (C := RX18) (T := TX18) (N := 10) hx hb hts hi_dm_X18_plain_X18 hown hK hP 0 rfl rfl 8 (by decide) (hts (.fieldLink RX18 80 "TimeMachineModel$Reader" "f" "I") (List.mem_of_getElem? (i := 1) rfl)) (fun _ h9 => h9) rfl dX18_plain_232 ?_
        refine lv_if_eq (tgt := 246) hx hb dX18_plain_235 (by decide) (fun c4 => ?_) (fun c4 => ?_)
        · have h := nd_pos h c4
          exact (db_X18_plain_246 C K)  s0 _ _ _ h hP hD hS (lv_sub hl [0] rfl)
        · have h := nd_neg h c4
          refine lv_aload_n hx hb dX18_plain_238 rfl (lv_at hl 0 rfl) ?_
          refine va_get (D := (dC, dI)) (ci := 19) (v := .int (sI s0 7)) (C := RX18) (T := TX18) (N := 10) hx hb hts hi_dm_X18_plain_X18 hown hK hP 0 rfl rfl 8 (by decide) (hts (.fieldLink RX18 80 "TimeMachineModel$Reader" "f" "I") (List.mem_of_getElem? (i := 1) rfl)) (fun _ h9 => h9) rfl dX18_plain_239 ?_
          refine lv_iconst (v := 5) hx hb dX18_plain_242 (by decide) ?_
          refine lv_icmp_ne (tgt := 266) hx hb dX18_plain_243 (by decide) (fun c9 => ?_) (fun c9 => ?_)
          · have h := nd_neg h c9
            exact (db_X18_plain_266 C K)  s0 _ _ _ h hP hD hS (lv_sub hl [] rfl)
          · have h := nd_pos h c9
            exact (db_X18_plain_246 C K)  s0 _ _ _ h hP hD hS (lv_sub hl [0] rfl)
    · have h := nd_pos h c2
      refine lv_aload_n hx hb dX18_plain_117 rfl (lv_at hl 0 rfl) ?_
      refine lv_aload_n hx hb dX18_plain_118 rfl (lv_at hl 0 rfl) ?_
      refine va_get (D := (dC, dI)) (ci := 19) (v := .int (sI s0 7)) (C := RX18) (T := TX18) (N := 10) hx hb hts hi_dm_X18_plain_X18 hown hK hP 0 rfl rfl 8 (by decide) (hts (.fieldLink RX18 80 "TimeMachineModel$Reader" "f" "I") (List.mem_of_getElem? (i := 1) rfl)) (fun _ h9 => h9) rfl dX18_plain_119 ?_
      refine lv_if_ne (tgt := 131) hx hb dX18_plain_122 (by decide) (fun c10 => ?_) (fun c10 => ?_)
      · have h := nd_neg h c10
        refine lv_aload_n hx hb dX18_plain_131 rfl (lv_at hl 0 rfl) ?_
        refine va_get (D := (dC, dI)) (ci := 19) (v := .int (sI s0 7)) (C := RX18) (T := TX18) (N := 10) hx hb hts hi_dm_X18_plain_X18 hown hK hP 0 rfl rfl 8 (by decide) (hts (.fieldLink RX18 80 "TimeMachineModel$Reader" "f" "I") (List.mem_of_getElem? (i := 1) rfl)) (fun _ h9 => h9) rfl dX18_plain_132 ?_
        refine lv_iconst (v := 1) hx hb dX18_plain_135 (by decide) ?_
        refine lv_icmp_ne (tgt := 145) hx hb dX18_plain_136 (by decide) (fun c11 => ?_) (fun c11 => ?_)
        · have h := nd_neg h c11
          refine lv_aload_n hx hb dX18_plain_145 rfl (lv_at hl 0 rfl) ?_
          refine va_get (D := (dC, dI)) (ci := 19) (v := .int (sI s0 7)) (C := RX18) (T := TX18) (N := 10) hx hb hts hi_dm_X18_plain_X18 hown hK hP 0 rfl rfl 8 (by decide) (hts (.fieldLink RX18 80 "TimeMachineModel$Reader" "f" "I") (List.mem_of_getElem? (i := 1) rfl)) (fun _ h9 => h9) rfl dX18_plain_146 ?_
          refine lv_iconst (v := 2) hx hb dX18_plain_149 (by decide) ?_
          refine lv_icmp_ne (tgt := 159) hx hb dX18_plain_150 (by decide) (fun c12 => ?_) (fun c12 => ?_)
          · have h := nd_neg h c12
            refine lv_aload_n hx hb dX18_plain_159 rfl (lv_at hl 0 rfl) ?_
            refine va_get (D := (dC, dI)) (ci := 19) (v := .int (sI s0 7)) (C := RX18) (T := TX18) (N := 10) hx hb hts hi_dm_X18_plain_X18 hown hK hP 0 rfl rfl 8 (by decide) (hts (.fieldLink RX18 80 "TimeMachineModel$Reader" "f" "I") (List.mem_of_getElem? (i := 1) rfl)) (fun _ h9 => h9) rfl dX18_plain_160 ?_
            refine lv_iconst (v := 3) hx hb dX18_plain_163 (by decide) ?_
            refine lv_icmp_ne (tgt := 173) hx hb dX18_plain_164 (by decide) (fun c13 => ?_) (fun c13 => ?_)
            · have h := nd_neg h c13
              refine lv_aload_n hx hb dX18_plain_173 rfl (lv_at hl 0 rfl) ?_
              refine va_get (D := (dC, dI)) (ci := 19) (v := .int (sI s0 7)) (C := RX18) (T := TX18) (N := 10) hx hb hts hi_dm_X18_plain_X18 hown hK hP 0 rfl rfl 8 (by decide) (hts (.fieldLink RX18 80 "TimeMachineModel$Reader" "f" "I") (List.mem_of_getElem? (i := 1) rfl)) (fun _ h9 => h9) rfl dX18_plain_174 ?_
              refine lv_iconst (v := 4) hx hb dX18_plain_177 (by decide) ?_
              refine lv_icmp_ne (tgt := 187) hx hb dX18_plain_178 (by decide) (fun c14 => ?_) (fun c14 => ?_)
              · have h := nd_neg h c14
                refine lv_aload_n hx hb dX18_plain_187 rfl (lv_at hl 0 rfl) ?_
                refine va_get (D := (dC, dI)) (ci := 19) (v := .int (sI s0 7)) (C := RX18) (T := TX18) (N := 10) hx hb hts hi_dm_X18_plain_X18 hown hK hP 0 rfl rfl 8 (by decide) (hts (.fieldLink RX18 80 "TimeMachineModel$Reader" "f" "I") (List.mem_of_getElem? (i := 1) rfl)) (fun _ h9 => h9) rfl dX18_plain_188 ?_
                refine lv_iconst (v := 5) hx hb dX18_plain_191 (by decide) ?_
                refine lv_icmp_ne (tgt := 201) hx hb dX18_plain_192 (by decide) (fun c15 => ?_) (fun c15 => ?_)
                · have h := nd_neg h c15
                  refine lv_aload_n hx hb dX18_plain_201 rfl (lv_at hl 0 rfl) ?_
                  refine va_get (D := (dC, dI)) (ci := 19) (v := .int (sI s0 7)) (C := RX18) (T := TX18) (N := 10) hx hb hts hi_dm_X18_plain_X18 hown hK hP 0 rfl rfl 8 (by decide) (hts (.fieldLink RX18 80 "TimeMachineModel$Reader" "f" "I") (List.mem_of_getElem? (i := 1) rfl)) (fun _ h9 => h9) rfl dX18_plain_202 ?_
                  refine lv_bipush (v := 6) hx hb dX18_plain_205 (by decide) ?_
                  refine lv_icmp_ne (tgt := 216) hx hb dX18_plain_207 (by decide) (fun c16 => ?_) (fun c16 => ?_)
                  · have h := nd_neg h c16
                    refine lv_ldc2 hx hb hown (hts (.constantLong RX18 116 (1970103666)) (List.mem_of_getElem? (i := 8) rfl)) dX18_plain_216 ?_
                    exact (db_X18_plain_219 C K) (1970103666) s0 _ _ _ h hP hD hS (lv_sub hl [] rfl)
                  · have h := nd_pos h c16
                    refine lv_ldc2 hx hb hown (hts (.constantLong RX18 114 (7169394)) (List.mem_of_getElem? (i := 9) rfl)) dX18_plain_210 ?_
                    refine lv_goto (tgt := 219) hx hb dX18_plain_213 (by decide) ?_
                    exact (db_X18_plain_219 C K) (7169394) s0 _ _ _ h hP hD hS (lv_sub hl [] rfl)
                · have h := nd_pos h c15
                  refine lv_ldc2 hx hb hown (hts (.constantLong RX18 112 (1970694500)) (List.mem_of_getElem? (i := 10) rfl)) dX18_plain_195 ?_
                  refine lv_goto (tgt := 219) hx hb dX18_plain_198 (by decide) ?_
                  exact (db_X18_plain_219 C K) (1970694500) s0 _ _ _ h hP hD hS (lv_sub hl [] rfl)
              · have h := nd_pos h c14
                refine lv_ldc2 hx hb hown (hts (.constantLong RX18 110 (7760228)) (List.mem_of_getElem? (i := 11) rfl)) dX18_plain_181 ?_
                refine lv_goto (tgt := 219) hx hb dX18_plain_184 (by decide) ?_
                exact (db_X18_plain_219 C K) (7760228) s0 _ _ _ h hP hD hS (lv_sub hl [] rfl)
            · have h := nd_pos h c13
              refine lv_ldc2 hx hb hown (hts (.constantLong RX18 108 (504263112045)) (List.mem_of_getElem? (i := 12) rfl)) dX18_plain_167 ?_
              refine lv_goto (tgt := 219) hx hb dX18_plain_170 (by decide) ?_
              exact (db_X18_plain_219 C K) (504263112045) s0 _ _ _ h hP hD hS (lv_sub hl [] rfl)
          · have h := nd_pos h c12
            refine lv_ldc2 hx hb hown (hts (.constantLong RX18 106 (129138533627245)) (List.mem_of_getElem? (i := 13) rfl)) dX18_plain_153 ?_
            refine lv_goto (tgt := 219) hx hb dX18_plain_156 (by decide) ?_
            exact (db_X18_plain_219 C K) (129138533627245) s0 _ _ _ h hP hD hS (lv_sub hl [] rfl)
        · have h := nd_pos h c11
          refine lv_ldc2 hx hb hown (hts (.constantLong RX18 104 (1751938413)) (List.mem_of_getElem? (i := 14) rfl)) dX18_plain_139 ?_
          refine lv_goto (tgt := 219) hx hb dX18_plain_142 (by decide) ?_
          exact (db_X18_plain_219 C K) (1751938413) s0 _ _ _ h hP hD hS (lv_sub hl [] rfl)
      · have h := nd_pos h c10
        refine lv_ldc2 hx hb hown (hts (.constantLong RX18 102 (7107949)) (List.mem_of_getElem? (i := 15) rfl)) dX18_plain_125 ?_
        refine lv_goto (tgt := 219) hx hb dX18_plain_128 (by decide) ?_
        exact (db_X18_plain_219 C K) (7107949) s0 _ _ _ h hP hD hS (lv_sub hl [] rfl)
  · have h := nd_pos h c1
    refine lv_aload_n hx hb dX18_plain_4 rfl (lv_at hl 0 rfl) ?_
    refine lv_aload_n hx hb dX18_plain_5 rfl (lv_at hl 0 rfl) ?_
    refine va_get (D := (dC, dI)) (ci := 19) (v := .int (sI s0 7)) (C := RX18) (T := TX18) (N := 10) hx hb hts hi_dm_X18_plain_X18 hown hK hP 0 rfl rfl 8 (by decide) (hts (.fieldLink RX18 80 "TimeMachineModel$Reader" "f" "I") (List.mem_of_getElem? (i := 1) rfl)) (fun _ h9 => h9) rfl dX18_plain_6 ?_
    refine lv_if_ne (tgt := 18) hx hb dX18_plain_9 (by decide) (fun c20 => ?_) (fun c20 => ?_)
    · have h := nd_neg h c20
      refine lv_aload_n hx hb dX18_plain_18 rfl (lv_at hl 0 rfl) ?_
      refine va_get (D := (dC, dI)) (ci := 19) (v := .int (sI s0 7)) (C := RX18) (T := TX18) (N := 10) hx hb hts hi_dm_X18_plain_X18 hown hK hP 0 rfl rfl 8 (by decide) (hts (.fieldLink RX18 80 "TimeMachineModel$Reader" "f" "I") (List.mem_of_getElem? (i := 1) rfl)) (fun _ h9 => h9) rfl dX18_plain_19 ?_
      refine lv_iconst (v := 1) hx hb dX18_plain_22 (by decide) ?_
      refine lv_icmp_ne (tgt := 32) hx hb dX18_plain_23 (by decide) (fun c21 => ?_) (fun c21 => ?_)
      · have h := nd_neg h c21
        refine lv_aload_n hx hb dX18_plain_32 rfl (lv_at hl 0 rfl) ?_
        refine va_get (D := (dC, dI)) (ci := 19) (v := .int (sI s0 7)) (C := RX18) (T := TX18) (N := 10) hx hb hts hi_dm_X18_plain_X18 hown hK hP 0 rfl rfl 8 (by decide) (hts (.fieldLink RX18 80 "TimeMachineModel$Reader" "f" "I") (List.mem_of_getElem? (i := 1) rfl)) (fun _ h9 => h9) rfl dX18_plain_33 ?_
        refine lv_iconst (v := 2) hx hb dX18_plain_36 (by decide) ?_
        refine lv_icmp_ne (tgt := 46) hx hb dX18_plain_37 (by decide) (fun c22 => ?_) (fun c22 => ?_)
        · have h := nd_neg h c22
          refine lv_aload_n hx hb dX18_plain_46 rfl (lv_at hl 0 rfl) ?_
          refine va_get (D := (dC, dI)) (ci := 19) (v := .int (sI s0 7)) (C := RX18) (T := TX18) (N := 10) hx hb hts hi_dm_X18_plain_X18 hown hK hP 0 rfl rfl 8 (by decide) (hts (.fieldLink RX18 80 "TimeMachineModel$Reader" "f" "I") (List.mem_of_getElem? (i := 1) rfl)) (fun _ h9 => h9) rfl dX18_plain_47 ?_
          refine lv_iconst (v := 3) hx hb dX18_plain_50 (by decide) ?_
          refine lv_icmp_ne (tgt := 60) hx hb dX18_plain_51 (by decide) (fun c23 => ?_) (fun c23 => ?_)
          · have h := nd_neg h c23
            refine lv_aload_n hx hb dX18_plain_60 rfl (lv_at hl 0 rfl) ?_
            refine va_get (D := (dC, dI)) (ci := 19) (v := .int (sI s0 7)) (C := RX18) (T := TX18) (N := 10) hx hb hts hi_dm_X18_plain_X18 hown hK hP 0 rfl rfl 8 (by decide) (hts (.fieldLink RX18 80 "TimeMachineModel$Reader" "f" "I") (List.mem_of_getElem? (i := 1) rfl)) (fun _ h9 => h9) rfl dX18_plain_61 ?_
            refine lv_iconst (v := 4) hx hb dX18_plain_64 (by decide) ?_
            refine lv_icmp_ne (tgt := 74) hx hb dX18_plain_65 (by decide) (fun c24 => ?_) (fun c24 => ?_)
            · have h := nd_neg h c24
              refine lv_aload_n hx hb dX18_plain_74 rfl (lv_at hl 0 rfl) ?_
              refine va_get (D := (dC, dI)) (ci := 19) (v := .int (sI s0 7)) (C := RX18) (T := TX18) (N := 10) hx hb hts hi_dm_X18_plain_X18 hown hK hP 0 rfl rfl 8 (by decide) (hts (.fieldLink RX18 80 "TimeMachineModel$Reader" "f" "I") (List.mem_of_getElem? (i := 1) rfl)) (fun _ h9 => h9) rfl dX18_plain_75 ?_
              refine lv_iconst (v := 5) hx hb dX18_plain_78 (by decide) ?_
              refine lv_icmp_ne (tgt := 88) hx hb dX18_plain_79 (by decide) (fun c25 => ?_) (fun c25 => ?_)
              · have h := nd_neg h c25
                refine lv_aload_n hx hb dX18_plain_88 rfl (lv_at hl 0 rfl) ?_
                refine va_get (D := (dC, dI)) (ci := 19) (v := .int (sI s0 7)) (C := RX18) (T := TX18) (N := 10) hx hb hts hi_dm_X18_plain_X18 hown hK hP 0 rfl rfl 8 (by decide) (hts (.fieldLink RX18 80 "TimeMachineModel$Reader" "f" "I") (List.mem_of_getElem? (i := 1) rfl)) (fun _ h9 => h9) rfl dX18_plain_89 ?_
                refine lv_bipush (v := 6) hx hb dX18_plain_92 (by decide) ?_
                refine lv_icmp_ne (tgt := 103) hx hb dX18_plain_94 (by decide) (fun c26 => ?_) (fun c26 => ?_)
                · have h := nd_neg h c26
                  refine lv_ldc2 hx hb hown (hts (.constantLong RX18 97 (6581857)) (List.mem_of_getElem? (i := 16) rfl)) dX18_plain_103 ?_
                  exact (db_X18_plain_106 C K) (6581857) s0 _ _ _ h hP hD hS (lv_sub hl [] rfl)
                · have h := nd_pos h c26
                  refine lv_ldc2 hx hb hown (hts (.constantLong RX18 95 (29295)) (List.mem_of_getElem? (i := 17) rfl)) dX18_plain_97 ?_
                  refine lv_goto (tgt := 106) hx hb dX18_plain_100 (by decide) ?_
                  exact (db_X18_plain_106 C K) (29295) s0 _ _ _ h hP hD hS (lv_sub hl [] rfl)
              · have h := nd_pos h c25
                refine lv_ldc2 hx hb hown (hts (.constantLong RX18 93 (7107187)) (List.mem_of_getElem? (i := 18) rfl)) dX18_plain_82 ?_
                refine lv_goto (tgt := 106) hx hb dX18_plain_85 (by decide) ?_
                exact (db_X18_plain_106 C K) (7107187) s0 _ _ _ h hP hD hS (lv_sub hl [] rfl)
            · have h := nd_pos h c24
              refine lv_ldc2 hx hb hown (hts (.constantLong RX18 91 (7499640)) (List.mem_of_getElem? (i := 19) rfl)) dX18_plain_68 ?_
              refine lv_goto (tgt := 106) hx hb dX18_plain_71 (by decide) ?_
              exact (db_X18_plain_106 C K) (7499640) s0 _ _ _ h hP hD hS (lv_sub hl [] rfl)
          · have h := nd_pos h c23
            refine lv_ldc2 hx hb hown (hts (.constantLong RX18 89 (1970564211)) (List.mem_of_getElem? (i := 20) rfl)) dX18_plain_54 ?_
            refine lv_goto (tgt := 106) hx hb dX18_plain_57 (by decide) ?_
            exact (db_X18_plain_106 C K) (1970564211) s0 _ _ _ h hP hD hS (lv_sub hl [] rfl)
        · have h := nd_pos h c22
          refine lv_ldc2 hx hb hown (hts (.constantLong RX18 87 (7629939)) (List.mem_of_getElem? (i := 21) rfl)) dX18_plain_40 ?_
          refine lv_goto (tgt := 106) hx hb dX18_plain_43 (by decide) ?_
          exact (db_X18_plain_106 C K) (7629939) s0 _ _ _ h hP hD hS (lv_sub hl [] rfl)
      · have h := nd_pos h c21
        refine lv_ldc2 hx hb hown (hts (.constantLong RX18 85 (7105651)) (List.mem_of_getElem? (i := 22) rfl)) dX18_plain_26 ?_
        refine lv_goto (tgt := 106) hx hb dX18_plain_29 (by decide) ?_
        exact (db_X18_plain_106 C K) (7105651) s0 _ _ _ h hP hD hS (lv_sub hl [] rfl)
    · have h := nd_pos h c20
      refine lv_ldc2 hx hb hown (hts (.constantLong RX18 83 (6579297)) (List.mem_of_getElem? (i := 23) rfl)) dX18_plain_12 ?_
      refine lv_goto (tgt := 106) hx hb dX18_plain_15 (by decide) ?_
      exact (db_X18_plain_106 C K) (6579297) s0 _ _ _ h hP hD hS (lv_sub hl [] rfl)
set_option maxHeartbeats 40000000 in
set_option maxRecDepth 100000 in
theorem dm_X18_plain (l : Launch) (hlt : l.stackTraces = false) (dC : Nat → ClassId) (dI : Nat → Nat → Nat) (a : Nat → Nat) (ac : Nat → ClassId) (n : Nat) (v0 : Int32) (s0 : St) {r : St} (h : df_X18_plain n v0 s0 = some r) (sz : Nat) : Met l yX18_plain ow_dm_X18_plain ({ frames := 4, cells := 0, slots := 0, locals := 89 }) (va_Pc [.ref (a 0), .int v0] (fun U => U.heap.size = sz ∧ va_P (dC, dI) vwCl (dw_X18 a ac s0) U.heap ∧ va_K (dC, dI) vwCl (dk_X18 ac) U ∧ va_D (fun _ => True) (dw_X18 a ac s0) ∧ nv_E (va_A (dw_X18 a ac s0) sz) U)) (va_Qv (fun _ => True) (fun (_ : Unit) t => va_P (dC, dI) vwCl (dw_X18 a ac r) t.heap ∧ va_K (dC, dI) vwCl (dk_X18 ac) t ∧ va_D (va_A (dw_X18 a ac s0) sz) (dw_X18 a ac r)) (va_A (dw_X18 a ac s0) sz)) 0 0 (va_A (dw_X18 a ac s0) sz) := by
  refine Met.ofW (cc := cX18_plain) (maxL := 2) (ret := none) (by decide) rfl ?_
  intro p e s m args below meth c s₁ B hml hv
  obtain ⟨rfl, hsz, hP, hK, hD0, hN⟩ := hv
  have hx := B.exec
  have hb := B.bytes
  have hr := B.returns
  have hts := atoms_spec (ws := ow_dm_X18_plain) B.pre
  have hown : s.vm.findClass RX18 = some m.cls := findClass_of_methodNamed B.named
  have hlocks := B.notSynchronized
  subst hsz
  have hD := hD0.self (sz := s.heap.size)
  generalize hAe : va_A (dw_X18 a ac s0) s.heap.size = A at hD hN ⊢
  have hA : ∀ q : Nat, s.heap.size ≤ q → A q := fun q h => by rw [← hAe]; exact Or.inr h
  have hl := lv_entry ([.ref (a 0), .int v0]) (n := 2) (Nat.le_of_ble_eq_true rfl)
  rw [lg_entry_eq]
  generalize (lg_sl ([.ref (a 0), .int v0]) ++ List.replicate (2 - (lg_sl ([.ref (a 0), .int v0])).length) Slot.unset).toArray = ls at hl ⊢
  have hl : lv_has ls 2 [(0, .ref (a 0)), (1, .int v0)] := hl
  exact db_X18_plain_0 (dC := dC) (dI := dI) (a := a) (ac := ac) (n := n) (r := r) ⟨hlt, hx, hb, hml, hown, hts, hN, hA, hK⟩ (fun pc τ H locs ls d er hP hD hS => by subst er; exact W.vret hx hb hr (fun t ht hW => ⟨⟨(), rfl, trivial, by rw [ht]; exact hP, va_K.moved hW.alike hK, hD⟩, hS.F ht⟩) hS.2.2 d) v0 s0 _ _ _ h hP hD va_S.rf (lv_sub hl [0, 1] rfl)
def ow_dm_X18_twos : List Cond := .code yX18_twos cX18_twos 3 none :: ([.fieldLink RX18 80 "TimeMachineModel$Reader" "f" "I", .constantLong RX18 138 (1768189537), .methodLink RX18 65 yX18_name, .instanceMethod yX18_name, .selects RX18 yX18_name yX18_name, .initialized RX18, .fieldLink RX18 68 "TimeMachineModel$Reader" "d" "I", .methodLink RX18 71 yX18_register, .instanceMethod yX18_register, .selects RX18 yX18_register yX18_register, .fieldLink RX18 74 "TimeMachineModel$Reader" "a" "I", .fieldLink RX18 20 "TimeMachineModel$Reader" "bits" "I", .methodLink RX18 59 yX18_immediate, .instanceMethod yX18_immediate, .selects RX18 yX18_immediate yX18_immediate, .fieldLink RX18 77 "TimeMachineModel$Reader" "b" "I", .constantLong RX18 136 (6910575), .constantLong RX18 134 (1768714867), .constantLong RX18 132 (1769107320), .constantLong RX18 130 (504280411251), .constantLong RX18 128 (1769237619), .constantLong RX18 126 (1768713331), .constantLong RX18 124 (1768186977), .constantLong RX18 122 (1767993971)] ++ (u_ws RX18 TX18 10 ++ (ow_dm_X18_name ++ (ow_dm_X18_register ++ (ow_dm_X18_immediate ++ [])))))
theorem gd_dm_X18_twos : ∀ w ∈ ow_dm_X18_twos, (w.onTables && w.keeps) = true ∨ ∃ ty, w = Cond.arrayClass ty := List.forall_mem_cons.mpr ⟨good_of_word rfl, List.forall_mem_append.mpr ⟨fun w h => good_of_word (List.all_eq_true.mp (by decide +kernel) w h), List.forall_mem_append.mpr ⟨gu_X18, List.forall_mem_append.mpr ⟨gd_dm_X18_name, List.forall_mem_append.mpr ⟨gd_dm_X18_register, List.forall_mem_append.mpr ⟨gd_dm_X18_immediate, fun _ h => nomatch h⟩⟩⟩⟩⟩⟩
theorem hi_dm_X18_twos_X18 : ∀ w ∈ u_ws RX18 TX18 10, w ∈ ow_dm_X18_twos := fun w h => List.mem_cons_of_mem _ (List.mem_append_right _ (List.mem_append_left _ h))
theorem gi_dm_X18_twos_0 : GoodIn ow_dm_X18_twos (wsV RX18 65 RX18 yX18_name ow_dm_X18_name) := goodIn_app (goodIn_of _ (by decide +kernel)) (fun w h => ⟨List.mem_cons_of_mem _ (List.mem_append_right _ (List.mem_append_right _ (List.mem_append_left _ h))), gd_dm_X18_name w h⟩)
theorem gi_dm_X18_twos_1 : GoodIn ow_dm_X18_twos (wsV RX18 71 RX18 yX18_register ow_dm_X18_register) := goodIn_app (goodIn_of _ (by decide +kernel)) (fun w h => ⟨List.mem_cons_of_mem _ (List.mem_append_right _ (List.mem_append_right _ (List.mem_append_right _ (List.mem_append_left _ h)))), gd_dm_X18_register w h⟩)
theorem gi_dm_X18_twos_2 : GoodIn ow_dm_X18_twos (wsV RX18 59 RX18 yX18_immediate ow_dm_X18_immediate) := goodIn_app (goodIn_of _ (by decide +kernel)) (fun w h => ⟨List.mem_cons_of_mem _ (List.mem_append_right _ (List.mem_append_right _ (List.mem_append_right _ (List.mem_append_right _ (List.mem_append_left _ h))))), gd_dm_X18_immediate w h⟩)
def dj_X18_twos_201 (p : Program) (l : Launch) (e : Env) (s : State) (m : MethodId) (args : Array Value) (below : List Frame) (meth : Method) (c : Code) (Q : State → Prop) (A : Nat → Prop) (dC : Nat → ClassId) (dI : Nat → Nat → Nat) (a : Nat → Nat) (ac : Nat → ClassId) (g : Int32 → (St) → Option (St)) (r : St) : Prop := ∀ (y1 : Int32) (s0 : St) (H : Heap) (locs : List Loc) (ls : Array Slot), g y1 s0 = some r → va_P (dC, dI) vwCl (dw_X18 a ac s0) H → va_D A (dw_X18 a ac s0) → va_S A s.heap H locs → lv_has ls 3 [] → W p l e (headSpec ow_dm_X18_twos ({ frames := 4, cells := 0, slots := 0, locals := 89 })).room s m args below meth c H locs 0 0 Q (F0 m 201 ls [.int y1, .ref (a 0)])
def dj_X18_twos_163 (p : Program) (l : Launch) (e : Env) (s : State) (m : MethodId) (args : Array Value) (below : List Frame) (meth : Method) (c : Code) (Q : State → Prop) (A : Nat → Prop) (dC : Nat → ClassId) (dI : Nat → Nat → Nat) (a : Nat → Nat) (ac : Nat → ClassId) (g : Int32 → Int64 → (St) → Option (St)) (r : St) : Prop := ∀ (x2 : Int32) (y1 : Int64) (s0 : St) (H : Heap) (locs : List Loc) (ls : Array Slot), g x2 y1 s0 = some r → va_P (dC, dI) vwCl (dw_X18 a ac s0) H → va_D A (dw_X18 a ac s0) → va_S A s.heap H locs → lv_has ls 3 [(0, .ref (a 0)), (2, .int x2)] → W p l e (headSpec ow_dm_X18_twos ({ frames := 4, cells := 0, slots := 0, locals := 89 })).room s m args below meth c H locs 0 0 Q (F0 m 163 ls [.long y1, .ref (a 0)])
def dj_X18_twos_62 (p : Program) (l : Launch) (e : Env) (s : State) (m : MethodId) (args : Array Value) (below : List Frame) (meth : Method) (c : Code) (Q : State → Prop) (A : Nat → Prop) (dC : Nat → ClassId) (dI : Nat → Nat → Nat) (a : Nat → Nat) (ac : Nat → ClassId) (g : Int32 → (St) → Option (St)) (r : St) : Prop := ∀ (x2 : Int32) (s0 : St) (H : Heap) (locs : List Loc) (ls : Array Slot), g x2 s0 = some r → va_P (dC, dI) vwCl (dw_X18 a ac s0) H → va_D A (dw_X18 a ac s0) → va_S A s.heap H locs → lv_has ls 3 [(0, .ref (a 0)), (2, .int x2)] → W p l e (headSpec ow_dm_X18_twos ({ frames := 4, cells := 0, slots := 0, locals := 89 })).room s m args below meth c H locs 0 0 Q (F0 m 62 ls [.ref (a 0)])
def dj_X18_twos_45 (p : Program) (l : Launch) (e : Env) (s : State) (m : MethodId) (args : Array Value) (below : List Frame) (meth : Method) (c : Code) (Q : State → Prop) (A : Nat → Prop) (dC : Nat → ClassId) (dI : Nat → Nat → Nat) (a : Nat → Nat) (ac : Nat → ClassId) (g : Int32 → Int32 → (St) → Option (St)) (r : St) : Prop := ∀ (x1 : Int32) (x2 : Int32) (s0 : St) (H : Heap) (locs : List Loc) (ls : Array Slot), g x1 x2 s0 = some r → va_P (dC, dI) vwCl (dw_X18 a ac s0) H → va_D A (dw_X18 a ac s0) → va_S A s.heap H locs → lv_has ls 3 [(0, .ref (a 0)), (1, .int x1), (2, .int x2)] → W p l e (headSpec ow_dm_X18_twos ({ frames := 4, cells := 0, slots := 0, locals := 89 })).room s m args below meth c H locs 0 0 Q (F0 m 45 ls [])
def dj_X18_twos_44 (p : Program) (l : Launch) (e : Env) (s : State) (m : MethodId) (args : Array Value) (below : List Frame) (meth : Method) (c : Code) (Q : State → Prop) (A : Nat → Prop) (dC : Nat → ClassId) (dI : Nat → Nat → Nat) (a : Nat → Nat) (ac : Nat → ClassId) (g : (St) → Option (St)) (r : St) : Prop := ∀ (s0 : St) (H : Heap) (locs : List Loc) (ls : Array Slot), g s0 = some r → va_P (dC, dI) vwCl (dw_X18 a ac s0) H → va_D A (dw_X18 a ac s0) → va_S A s.heap H locs → lv_has ls 3 [] → W p l e (headSpec ow_dm_X18_twos ({ frames := 4, cells := 0, slots := 0, locals := 89 })).room s m args below meth c H locs 0 0 Q (F0 m 44 ls [])
def dj_X18_twos_21 (p : Program) (l : Launch) (e : Env) (s : State) (m : MethodId) (args : Array Value) (below : List Frame) (meth : Method) (c : Code) (Q : State → Prop) (A : Nat → Prop) (dC : Nat → ClassId) (dI : Nat → Nat → Nat) (a : Nat → Nat) (ac : Nat → ClassId) (g : Int32 → Int32 → (St) → Option (St)) (r : St) : Prop := ∀ (x1 : Int32) (y0 : Int32) (s0 : St) (H : Heap) (locs : List Loc) (ls : Array Slot), g x1 y0 s0 = some r → va_P (dC, dI) vwCl (dw_X18 a ac s0) H → va_D A (dw_X18 a ac s0) → va_S A s.heap H locs → lv_has ls 3 [(0, .ref (a 0)), (1, .int x1)] → W p l e (headSpec ow_dm_X18_twos ({ frames := 4, cells := 0, slots := 0, locals := 89 })).room s m args below meth c H locs 0 0 Q (F0 m 21 ls [.int y0])
def dj_X18_twos_16 (p : Program) (l : Launch) (e : Env) (s : State) (m : MethodId) (args : Array Value) (below : List Frame) (meth : Method) (c : Code) (Q : State → Prop) (A : Nat → Prop) (dC : Nat → ClassId) (dI : Nat → Nat → Nat) (a : Nat → Nat) (ac : Nat → ClassId) (g : Int32 → (St) → Option (St)) (r : St) : Prop := ∀ (x1 : Int32) (s0 : St) (H : Heap) (locs : List Loc) (ls : Array Slot), g x1 s0 = some r → va_P (dC, dI) vwCl (dw_X18 a ac s0) H → va_D A (dw_X18 a ac s0) → va_S A s.heap H locs → lv_has ls 3 [(0, .ref (a 0)), (1, .int x1)] → W p l e (headSpec ow_dm_X18_twos ({ frames := 4, cells := 0, slots := 0, locals := 89 })).room s m args below meth c H locs 0 0 Q (F0 m 16 ls [])
def dj_X18_twos_0 (p : Program) (l : Launch) (e : Env) (s : State) (m : MethodId) (args : Array Value) (below : List Frame) (meth : Method) (c : Code) (Q : State → Prop) (A : Nat → Prop) (dC : Nat → ClassId) (dI : Nat → Nat → Nat) (a : Nat → Nat) (ac : Nat → ClassId) (g : Int32 → (St) → Option (St)) (r : St) : Prop := ∀ (v0 : Int32) (s0 : St) (H : Heap) (locs : List Loc) (ls : Array Slot), g v0 s0 = some r → va_P (dC, dI) vwCl (dw_X18 a ac s0) H → va_D A (dw_X18 a ac s0) → va_S A s.heap H locs → lv_has ls 3 [(0, .ref (a 0)), (1, .int v0)] → W p l e (headSpec ow_dm_X18_twos ({ frames := 4, cells := 0, slots := 0, locals := 89 })).room s m args below meth c H locs 0 0 Q (F0 m 0 ls [])
set_option maxHeartbeats 40000000 in
set_option maxRecDepth 100000 in
theorem db_X18_twos_201 {p : Program} {l : Launch} {e : Env} {s : State} {m : MethodId} {args : Array Value} {below : List Frame} {meth : Method} {c : Code} {Q : State → Prop} {A : Nat → Prop} {dC : Nat → ClassId} {dI : Nat → Nat → Nat} {a : Nat → Nat} {ac : Nat → ClassId} {n : Nat} {r : St} (C : nd_C p l s m args c A (dC, dI) cX18_twos 3 RX18 ow_dm_X18_twos (dk_X18 ac)) (K : nd_Kv p l e (headSpec ow_dm_X18_twos ({ frames := 4, cells := 0, slots := 0, locals := 89 })).room s m args below meth c Q A (dC, dI) cX18_twos (St) (dw_X18 a ac) r) : dj_X18_twos_201 p l e s m args below meth c Q A dC dI a ac (df_X18_twos_201 n) r := by
  obtain ⟨hlt, hx, hb, hml, hown, hts, hN, hA, hK⟩ := id C
  intro y1 s0 H locs ls h hP hD hS hl
  unfold df_X18_twos_201 at h
  obtain ⟨s22, hq, h⟩ := nd_b1_e h
  have hPc := hP
  have hDc := hD
  have hKc := hK
  have hFc := nd_rs hD hS hA
  refine va_callv (va_runV (As := [.int y1]) (rest := []) ⟨hx, hb, hml, hown, hts⟩ (dm_X18_immediate l hlt dC dI a ac n (y1) s0 hq _) (cwV 1 hts gi_dm_X18_twos_2 rfl rfl rfl (by decide +kernel) ⟨Nat.le_of_ble_eq_true rfl, Nat.le_of_ble_eq_true rfl⟩) ⟨fun a U g mk q => by obtain ⟨q0, q1, qP, qK, qD, qN⟩ := q; exact ⟨q0, q1, qP, va_K.moved (u := U) (U := U.calling g mk a) (Vm.Alike.refl U.vm) qK, qD, nv_same rfl rfl qN⟩, va_recv hKc hPc (ci := 19) (q0 := 0) rfl rfl, fun U hU hW => ⟨rfl, by rw [hU], by rw [hU]; exact hPc, va_K.moved hW.alike hKc, hDc.weaken (fun _ _ _ _ => trivial), nv_call hS hFc hU hW hN⟩⟩ rfl rfl hl.1 rfl (lv_room (Nat.le_of_ble_eq_true rfl)) dX18_twos_201 ⟨by decide +kernel, by decide +kernel⟩) hS (fun q _ h => hFc q h) hFc (fun u t H locs ht hvm hw hB hz1 hk1 hS => ?_)
  obtain ⟨hP1, -, hD1⟩ := hB
  rw [ht] at hP1
  have hP := hP1
  have hD := hD1.weaken (fun k q _ h => hFc q.1 h)
  refine W.widen (k := 0) (n := 0) (Nat.le_refl _) (Nat.le_refl _) ?_
  exact K _ _ _ _ _ dX18_twos_204 (Option.some.inj h).symm hP hD hS
set_option maxHeartbeats 40000000 in
set_option maxRecDepth 100000 in
theorem db_X18_twos_163 {p : Program} {l : Launch} {e : Env} {s : State} {m : MethodId} {args : Array Value} {below : List Frame} {meth : Method} {c : Code} {Q : State → Prop} {A : Nat → Prop} {dC : Nat → ClassId} {dI : Nat → Nat → Nat} {a : Nat → Nat} {ac : Nat → ClassId} {n : Nat} {r : St} (C : nd_C p l s m args c A (dC, dI) cX18_twos 3 RX18 ow_dm_X18_twos (dk_X18 ac)) (K : nd_Kv p l e (headSpec ow_dm_X18_twos ({ frames := 4, cells := 0, slots := 0, locals := 89 })).room s m args below meth c Q A (dC, dI) cX18_twos (St) (dw_X18 a ac) r) : dj_X18_twos_163 p l e s m args below meth c Q A dC dI a ac (df_X18_twos_163 n) r := by
  obtain ⟨hlt, hx, hb, hml, hown, hts, hN, hA, hK⟩ := id C
  intro x2 y1 s0 H locs ls h hP hD hS hl
  unfold df_X18_twos_163 at h
  obtain ⟨s12, hq, h⟩ := nd_b1_e h
  have hPc := hP
  have hDc := hD
  have hKc := hK
  have hFc := nd_rs hD hS hA
  refine va_callv (va_runV (As := [.long y1]) (rest := []) ⟨hx, hb, hml, hown, hts⟩ (dm_X18_name l hlt dC dI a ac n (y1) s0 hq _) (cwV 1 hts gi_dm_X18_twos_0 rfl rfl rfl (by decide +kernel) ⟨Nat.le_of_ble_eq_true rfl, Nat.le_of_ble_eq_true rfl⟩) ⟨fun a U g mk q => by obtain ⟨q0, q1, qP, qK, qD, qN⟩ := q; exact ⟨q0, q1, qP, va_K.moved (u := U) (U := U.calling g mk a) (Vm.Alike.refl U.vm) qK, qD, nv_same rfl rfl qN⟩, va_recv hKc hPc (ci := 19) (q0 := 0) rfl rfl, fun U hU hW => ⟨rfl, by rw [hU], by rw [hU]; exact hPc, va_K.moved hW.alike hKc, hDc.weaken (fun _ _ _ _ => trivial), nv_call hS hFc hU hW hN⟩⟩ rfl rfl hl.1 rfl (lv_room (Nat.le_of_ble_eq_true rfl)) dX18_twos_163 ⟨by decide +kernel, by decide +kernel⟩) hS (fun q _ h => hFc q h) hFc (fun u t H locs ht hvm hw hB hz1 hk1 hS => ?_)
  obtain ⟨hP1, -, hD1⟩ := hB
  rw [ht] at hP1
  have hP := hP1
  have hD := hD1.weaken (fun k q _ h => hFc q.1 h)
  refine W.widen (k := 0) (n := 0) (Nat.le_refl _) (Nat.le_refl _) ?_
  refine lv_aload_n hx hb dX18_twos_166 rfl (lv_at hl 0 rfl) ?_
  refine lv_aload_n hx hb dX18_twos_167 rfl (lv_at hl 0 rfl) ?_
  refine va_get (D := (dC, dI)) (ci := 19) (v := .int (sI s12 4)) (C := RX18) (T := TX18) (N := 10) hx hb hts hi_dm_X18_twos_X18 hown hK hP 0 rfl rfl 5 (by decide) (hts (.fieldLink RX18 68 "TimeMachineModel$Reader" "d" "I") (List.mem_of_getElem? (i := 7) rfl)) (fun _ h9 => h9) rfl dX18_twos_168 ?_
  obtain ⟨s15, hq, h⟩ := nd_b1_e h
  have hPc := hP
  have hDc := hD
  have hKc := hK
  have hFc := nd_rs hD hS hA
  refine va_callv (va_runV (As := [.int (sI s12 4)]) (rest := []) ⟨hx, hb, hml, hown, hts⟩ (dm_X18_register l hlt dC dI a ac n ((sI s12 4)) s12 hq _) (cwV 1 hts gi_dm_X18_twos_1 rfl rfl rfl (by decide +kernel) ⟨Nat.le_of_ble_eq_true rfl, Nat.le_of_ble_eq_true rfl⟩) ⟨fun a U g mk q => by obtain ⟨q0, q1, qP, qK, qD, qN⟩ := q; exact ⟨q0, q1, qP, va_K.moved (u := U) (U := U.calling g mk a) (Vm.Alike.refl U.vm) qK, qD, nv_same rfl rfl qN⟩, va_recv hKc hPc (ci := 19) (q0 := 0) rfl rfl, fun U hU hW => ⟨rfl, by rw [hU], by rw [hU]; exact hPc, va_K.moved hW.alike hKc, hDc.weaken (fun _ _ _ _ => trivial), nv_call hS hFc hU hW hN⟩⟩ rfl rfl hl.1 rfl (lv_room (Nat.le_of_ble_eq_true rfl)) dX18_twos_171 ⟨by decide +kernel, by decide +kernel⟩) hS (fun q _ h => hFc q h) hFc (fun u t H locs ht hvm hw hB hz1 hk1 hS => ?_)
  obtain ⟨hP1, -, hD1⟩ := hB
  rw [ht] at hP1
  have hP := hP1
  have hD := hD1.weaken (fun k q _ h => hFc q.1 h)
  refine W.widen (k := 0) (n := 0) (Nat.le_refl _) (Nat.le_refl _) ?_
  refine lv_aload_n hx hb dX18_twos_174 rfl (lv_at hl 0 rfl) ?_
  refine lv_aload_n hx hb dX18_twos_175 rfl (lv_at hl 0 rfl) ?_
  refine va_get (D := (dC, dI)) (ci := 19) (v := .int (sI s15 5)) (C := RX18) (T := TX18) (N := 10) hx hb hts hi_dm_X18_twos_X18 hown hK hP 0 rfl rfl 6 (by decide) (hts (.fieldLink RX18 74 "TimeMachineModel$Reader" "a" "I") (List.mem_of_getElem? (i := 11) rfl)) (fun _ h9 => h9) rfl dX18_twos_176 ?_
  obtain ⟨s18, hq, h⟩ := nd_b1_e h
  have hPc := hP
  have hDc := hD
  have hKc := hK
  have hFc := nd_rs hD hS hA
  refine va_callv (va_runV (As := [.int (sI s15 5)]) (rest := []) ⟨hx, hb, hml, hown, hts⟩ (dm_X18_register l hlt dC dI a ac n ((sI s15 5)) s15 hq _) (cwV 1 hts gi_dm_X18_twos_1 rfl rfl rfl (by decide +kernel) ⟨Nat.le_of_ble_eq_true rfl, Nat.le_of_ble_eq_true rfl⟩) ⟨fun a U g mk q => by obtain ⟨q0, q1, qP, qK, qD, qN⟩ := q; exact ⟨q0, q1, qP, va_K.moved (u := U) (U := U.calling g mk a) (Vm.Alike.refl U.vm) qK, qD, nv_same rfl rfl qN⟩, va_recv hKc hPc (ci := 19) (q0 := 0) rfl rfl, fun U hU hW => ⟨rfl, by rw [hU], by rw [hU]; exact hPc, va_K.moved hW.alike hKc, hDc.weaken (fun _ _ _ _ => trivial), nv_call hS hFc hU hW hN⟩⟩ rfl rfl hl.1 rfl (lv_room (Nat.le_of_ble_eq_true rfl)) dX18_twos_179 ⟨by decide +kernel, by decide +kernel⟩) hS (fun q _ h => hFc q h) hFc (fun u t H locs ht hvm hw hB hz1 hk1 hS => ?_)
  obtain ⟨hP1, -, hD1⟩ := hB
  rw [ht] at hP1
  have hP := hP1
  have hD := hD1.weaken (fun k q _ h => hFc q.1 h)
  refine W.widen (k := 0) (n := 0) (Nat.le_refl _) (Nat.le_refl _) ?_
  refine lv_aload_n hx hb dX18_twos_182 rfl (lv_at hl 0 rfl) ?_
  refine lv_iload_n hx hb dX18_twos_183 rfl (lv_at hl 1 rfl) ?_
  refine lv_if_eq (tgt := 194) hx hb dX18_twos_184 (by decide) (fun c20 => ?_) (fun c20 => ?_)
  · have h := nd_pos h c20
    refine lv_aload_n hx hb dX18_twos_194 rfl (lv_at hl 0 rfl) ?_
    refine va_get (D := (dC, dI)) (ci := 19) (v := .int (sI s18 3)) (C := RX18) (T := TX18) (N := 10) hx hb hts hi_dm_X18_twos_X18 hown hK hP 0 rfl rfl 4 (by decide) (hts (.fieldLink RX18 20 "TimeMachineModel$Reader" "bits" "I") (List.mem_of_getElem? (i := 12) rfl)) (fun _ h9 => h9) rfl dX18_twos_195 ?_
    refine lv_bipush (v := 20) hx hb dX18_twos_198 (by decide) ?_
    refine lv_ishr hx hb dX18_twos_200 ?_
    exact (db_X18_twos_201 C K) ((((sI s18 3) : Int32) >>> ((20 : Int32) &&& 31))) s18 _ _ _ h hP hD hS (lv_sub hl [] rfl)
  · have h := nd_neg h c20
    refine lv_aload_n hx hb dX18_twos_187 rfl (lv_at hl 0 rfl) ?_
    refine va_get (D := (dC, dI)) (ci := 19) (v := .int (sI s18 6)) (C := RX18) (T := TX18) (N := 10) hx hb hts hi_dm_X18_twos_X18 hown hK hP 0 rfl rfl 7 (by decide) (hts (.fieldLink RX18 77 "TimeMachineModel$Reader" "b" "I") (List.mem_of_getElem? (i := 16) rfl)) (fun _ h9 => h9) rfl dX18_twos_188 ?_
    refine lv_goto (tgt := 201) hx hb dX18_twos_191 (by decide) ?_
    exact (db_X18_twos_201 C K) ((sI s18 6)) s18 _ _ _ h hP hD hS (lv_sub hl [] rfl)
set_option maxHeartbeats 40000000 in
set_option maxRecDepth 100000 in
theorem db_X18_twos_62 {p : Program} {l : Launch} {e : Env} {s : State} {m : MethodId} {args : Array Value} {below : List Frame} {meth : Method} {c : Code} {Q : State → Prop} {A : Nat → Prop} {dC : Nat → ClassId} {dI : Nat → Nat → Nat} {a : Nat → Nat} {ac : Nat → ClassId} {n : Nat} {r : St} (C : nd_C p l s m args c A (dC, dI) cX18_twos 3 RX18 ow_dm_X18_twos (dk_X18 ac)) (K : nd_Kv p l e (headSpec ow_dm_X18_twos ({ frames := 4, cells := 0, slots := 0, locals := 89 })).room s m args below meth c Q A (dC, dI) cX18_twos (St) (dw_X18 a ac) r) : dj_X18_twos_62 p l e s m args below meth c Q A dC dI a ac (df_X18_twos_62 n) r := by
  obtain ⟨hlt, hx, hb, hml, hown, hts, hN, hA, hK⟩ := id C
  intro x2 s0 H locs ls h hP hD hS hl
  unfold df_X18_twos_62 at h
  refine lv_aload_n hx hb dX18_twos_62 rfl (lv_at hl 0 rfl) ?_
  refine va_get (D := (dC, dI)) (ci := 19) (v := .int (sI s0 7)) (C := RX18) (T := TX18) (N := 10) hx hb hts hi_dm_X18_twos_X18 hown hK hP 0 rfl rfl 8 (by decide) (hts (.fieldLink RX18 80 "TimeMachineModel$Reader" "f" "I") (List.mem_of_getElem? (i := 1) rfl)) (fun _ h9 => h9) rfl dX18_twos_63 ?_
  refine lv_if_ne (tgt := 75) hx hb dX18_twos_66 (by decide) (fun c4 => ?_) (fun c4 => ?_)
  · have h := nd_neg h c4
    refine lv_aload_n hx hb dX18_twos_75 rfl (lv_at hl 0 rfl) ?_
    refine va_get (D := (dC, dI)) (ci := 19) (v := .int (sI s0 7)) (C := RX18) (T := TX18) (N := 10) hx hb hts hi_dm_X18_twos_X18 hown hK hP 0 rfl rfl 8 (by decide) (hts (.fieldLink RX18 80 "TimeMachineModel$Reader" "f" "I") (List.mem_of_getElem? (i := 1) rfl)) (fun _ h9 => h9) rfl dX18_twos_76 ?_
    refine lv_iconst (v := 1) hx hb dX18_twos_79 (by decide) ?_
    refine lv_icmp_ne (tgt := 89) hx hb dX18_twos_80 (by decide) (fun c5 => ?_) (fun c5 => ?_)
    · have h := nd_neg h c5
      refine lv_aload_n hx hb dX18_twos_89 rfl (lv_at hl 0 rfl) ?_
      refine va_get (D := (dC, dI)) (ci := 19) (v := .int (sI s0 7)) (C := RX18) (T := TX18) (N := 10) hx hb hts hi_dm_X18_twos_X18 hown hK hP 0 rfl rfl 8 (by decide) (hts (.fieldLink RX18 80 "TimeMachineModel$Reader" "f" "I") (List.mem_of_getElem? (i := 1) rfl)) (fun _ h9 => h9) rfl dX18_twos_90 ?_
      refine lv_iconst (v := 2) hx hb dX18_twos_93 (by decide) ?_
      refine lv_icmp_ne (tgt := 103) hx hb dX18_twos_94 (by decide) (fun c6 => ?_) (fun c6 => ?_)
      · have h := nd_neg h c6
        refine lv_aload_n hx hb dX18_twos_103 rfl (lv_at hl 0 rfl) ?_
        refine va_get (D := (dC, dI)) (ci := 19) (v := .int (sI s0 7)) (C := RX18) (T := TX18) (N := 10) hx hb hts hi_dm_X18_twos_X18 hown hK hP 0 rfl rfl 8 (by decide) (hts (.fieldLink RX18 80 "TimeMachineModel$Reader" "f" "I") (List.mem_of_getElem? (i := 1) rfl)) (fun _ h9 => h9) rfl dX18_twos_104 ?_
        refine lv_iconst (v := 3) hx hb dX18_twos_107 (by decide) ?_
        refine lv_icmp_ne (tgt := 117) hx hb dX18_twos_108 (by decide) (fun c7 => ?_) (fun c7 => ?_)
        · have h := nd_neg h c7
          refine lv_aload_n hx hb dX18_twos_117 rfl (lv_at hl 0 rfl) ?_
          refine va_get (D := (dC, dI)) (ci := 19) (v := .int (sI s0 7)) (C := RX18) (T := TX18) (N := 10) hx hb hts hi_dm_X18_twos_X18 hown hK hP 0 rfl rfl 8 (by decide) (hts (.fieldLink RX18 80 "TimeMachineModel$Reader" "f" "I") (List.mem_of_getElem? (i := 1) rfl)) (fun _ h9 => h9) rfl dX18_twos_118 ?_
          refine lv_iconst (v := 4) hx hb dX18_twos_121 (by decide) ?_
          refine lv_icmp_ne (tgt := 131) hx hb dX18_twos_122 (by decide) (fun c8 => ?_) (fun c8 => ?_)
          · have h := nd_neg h c8
            refine lv_aload_n hx hb dX18_twos_131 rfl (lv_at hl 0 rfl) ?_
            refine va_get (D := (dC, dI)) (ci := 19) (v := .int (sI s0 7)) (C := RX18) (T := TX18) (N := 10) hx hb hts hi_dm_X18_twos_X18 hown hK hP 0 rfl rfl 8 (by decide) (hts (.fieldLink RX18 80 "TimeMachineModel$Reader" "f" "I") (List.mem_of_getElem? (i := 1) rfl)) (fun _ h9 => h9) rfl dX18_twos_132 ?_
            refine lv_iconst (v := 5) hx hb dX18_twos_135 (by decide) ?_
            refine lv_icmp_ne (tgt := 145) hx hb dX18_twos_136 (by decide) (fun c9 => ?_) (fun c9 => ?_)
            · have h := nd_neg h c9
              refine lv_aload_n hx hb dX18_twos_145 rfl (lv_at hl 0 rfl) ?_
              refine va_get (D := (dC, dI)) (ci := 19) (v := .int (sI s0 7)) (C := RX18) (T := TX18) (N := 10) hx hb hts hi_dm_X18_twos_X18 hown hK hP 0 rfl rfl 8 (by decide) (hts (.fieldLink RX18 80 "TimeMachineModel$Reader" "f" "I") (List.mem_of_getElem? (i := 1) rfl)) (fun _ h9 => h9) rfl dX18_twos_146 ?_
              refine lv_bipush (v := 6) hx hb dX18_twos_149 (by decide) ?_
              refine lv_icmp_ne (tgt := 160) hx hb dX18_twos_151 (by decide) (fun c10 => ?_) (fun c10 => ?_)
              · have h := nd_neg h c10
                refine lv_ldc2 hx hb hown (hts (.constantLong RX18 138 (1768189537)) (List.mem_of_getElem? (i := 2) rfl)) dX18_twos_160 ?_
                exact (db_X18_twos_163 C K) (x2) (1768189537) s0 _ _ _ h hP hD hS (lv_sub hl [0, 1] rfl)
              · have h := nd_pos h c10
                refine lv_ldc2 hx hb hown (hts (.constantLong RX18 136 (6910575)) (List.mem_of_getElem? (i := 17) rfl)) dX18_twos_154 ?_
                refine lv_goto (tgt := 163) hx hb dX18_twos_157 (by decide) ?_
                exact (db_X18_twos_163 C K) (x2) (6910575) s0 _ _ _ h hP hD hS (lv_sub hl [0, 1] rfl)
            · have h := nd_pos h c9
              refine lv_ldc2 hx hb hown (hts (.constantLong RX18 134 (1768714867)) (List.mem_of_getElem? (i := 18) rfl)) dX18_twos_139 ?_
              refine lv_goto (tgt := 163) hx hb dX18_twos_142 (by decide) ?_
              exact (db_X18_twos_163 C K) (x2) (1768714867) s0 _ _ _ h hP hD hS (lv_sub hl [0, 1] rfl)
          · have h := nd_pos h c8
            refine lv_ldc2 hx hb hown (hts (.constantLong RX18 132 (1769107320)) (List.mem_of_getElem? (i := 19) rfl)) dX18_twos_125 ?_
            refine lv_goto (tgt := 163) hx hb dX18_twos_128 (by decide) ?_
            exact (db_X18_twos_163 C K) (x2) (1769107320) s0 _ _ _ h hP hD hS (lv_sub hl [0, 1] rfl)
        · have h := nd_pos h c7
          refine lv_ldc2 hx hb hown (hts (.constantLong RX18 130 (504280411251)) (List.mem_of_getElem? (i := 20) rfl)) dX18_twos_111 ?_
          refine lv_goto (tgt := 163) hx hb dX18_twos_114 (by decide) ?_
          exact (db_X18_twos_163 C K) (x2) (504280411251) s0 _ _ _ h hP hD hS (lv_sub hl [0, 1] rfl)
      · have h := nd_pos h c6
        refine lv_ldc2 hx hb hown (hts (.constantLong RX18 128 (1769237619)) (List.mem_of_getElem? (i := 21) rfl)) dX18_twos_97 ?_
        refine lv_goto (tgt := 163) hx hb dX18_twos_100 (by decide) ?_
        exact (db_X18_twos_163 C K) (x2) (1769237619) s0 _ _ _ h hP hD hS (lv_sub hl [0, 1] rfl)
    · have h := nd_pos h c5
      refine lv_ldc2 hx hb hown (hts (.constantLong RX18 126 (1768713331)) (List.mem_of_getElem? (i := 22) rfl)) dX18_twos_83 ?_
      refine lv_goto (tgt := 163) hx hb dX18_twos_86 (by decide) ?_
      exact (db_X18_twos_163 C K) (x2) (1768713331) s0 _ _ _ h hP hD hS (lv_sub hl [0, 1] rfl)
  · have h := nd_pos h c4
    refine lv_ldc2 hx hb hown (hts (.constantLong RX18 124 (1768186977)) (List.mem_of_getElem? (i := 23) rfl)) dX18_twos_69 ?_
    refine lv_goto (tgt := 163) hx hb dX18_twos_72 (by decide) ?_
    exact (db_X18_twos_163 C K) (x2) (1768186977) s0 _ _ _ h hP hD hS (lv_sub hl [0, 1] rfl)
set_option maxHeartbeats 40000000 in
set_option maxRecDepth 100000 in
theorem db_X18_twos_45 {p : Program} {l : Launch} {e : Env} {s : State} {m : MethodId} {args : Array Value} {below : List Frame} {meth : Method} {c : Code} {Q : State → Prop} {A : Nat → Prop} {dC : Nat → ClassId} {dI : Nat → Nat → Nat} {a : Nat → Nat} {ac : Nat → ClassId} {n : Nat} {r : St} (C : nd_C p l s m args c A (dC, dI) cX18_twos 3 RX18 ow_dm_X18_twos (dk_X18 ac)) (K : nd_Kv p l e (headSpec ow_dm_X18_twos ({ frames := 4, cells := 0, slots := 0, locals := 89 })).room s m args below meth c Q A (dC, dI) cX18_twos (St) (dw_X18 a ac) r) : dj_X18_twos_45 p l e s m args below meth c Q A dC dI a ac (df_X18_twos_45 n) r := by
  obtain ⟨hlt, hx, hb, hml, hown, hts, hN, hA, hK⟩ := id C
  intro x1 x2 s0 H locs ls h hP hD hS hl
  unfold df_X18_twos_45 at h
  refine lv_aload_n hx hb dX18_twos_45 rfl (lv_at hl 0 rfl) ?_
  refine lv_iload_n hx hb dX18_twos_46 rfl (lv_at hl 1 rfl) ?_
  refine lv_bipush (v := 32) hx hb dX18_twos_47 (by decide) ?_
  refine lv_icmp_ne (tgt := 62) hx hb dX18_twos_49 (by decide) (fun c3 => ?_) (fun c3 => ?_)
  · have h := nd_neg h c3
    exact (db_X18_twos_62 C K) (x2) s0 _ _ _ h hP hD hS (lv_sub hl [0, 2] rfl)
  · have h := nd_pos h c3
    refine lv_iload_n hx hb dX18_twos_52 rfl (lv_at hl 2 rfl) ?_
    refine lv_if_eq (tgt := 62) hx hb dX18_twos_53 (by decide) (fun c24 => ?_) (fun c24 => ?_)
    · have h := nd_pos h c24
      exact (db_X18_twos_62 C K) (x2) s0 _ _ _ h hP hD hS (lv_sub hl [0, 2] rfl)
    · have h := nd_neg h c24
      refine lv_ldc2 hx hb hown (hts (.constantLong RX18 122 (1767993971)) (List.mem_of_getElem? (i := 24) rfl)) dX18_twos_56 ?_
      refine lv_goto (tgt := 163) hx hb dX18_twos_59 (by decide) ?_
      exact (db_X18_twos_163 C K) (x2) (1767993971) s0 _ _ _ h hP hD hS (lv_sub hl [0, 2] rfl)
set_option maxHeartbeats 40000000 in
set_option maxRecDepth 100000 in
theorem db_X18_twos_44 {p : Program} {l : Launch} {e : Env} {s : State} {m : MethodId} {args : Array Value} {below : List Frame} {meth : Method} {c : Code} {Q : State → Prop} {A : Nat → Prop} {dC : Nat → ClassId} {dI : Nat → Nat → Nat} {a : Nat → Nat} {ac : Nat → ClassId} {n : Nat} {r : St} (C : nd_C p l s m args c A (dC, dI) cX18_twos 3 RX18 ow_dm_X18_twos (dk_X18 ac)) (K : nd_Kv p l e (headSpec ow_dm_X18_twos ({ frames := 4, cells := 0, slots := 0, locals := 89 })).room s m args below meth c Q A (dC, dI) cX18_twos (St) (dw_X18 a ac) r) : dj_X18_twos_44 p l e s m args below meth c Q A dC dI a ac (df_X18_twos_44 n) r := by
  obtain ⟨hlt, hx, hb, hml, hown, hts, hN, hA, hK⟩ := id C
  intro s0 H locs ls h hP hD hS hl
  unfold df_X18_twos_44 at h
  exact K _ _ _ _ _ dX18_twos_44 (Option.some.inj h).symm hP hD hS
set_option maxHeartbeats 40000000 in
set_option maxRecDepth 100000 in
theorem db_X18_twos_21 {p : Program} {l : Launch} {e : Env} {s : State} {m : MethodId} {args : Array Value} {below : List Frame} {meth : Method} {c : Code} {Q : State → Prop} {A : Nat → Prop} {dC : Nat → ClassId} {dI : Nat → Nat → Nat} {a : Nat → Nat} {ac : Nat → ClassId} {n : Nat} {r : St} (C : nd_C p l s m args c A (dC, dI) cX18_twos 3 RX18 ow_dm_X18_twos (dk_X18 ac)) (K : nd_Kv p l e (headSpec ow_dm_X18_twos ({ frames := 4, cells := 0, slots := 0, locals := 89 })).room s m args below meth c Q A (dC, dI) cX18_twos (St) (dw_X18 a ac) r) : dj_X18_twos_21 p l e s m args below meth c Q A dC dI a ac (df_X18_twos_21 n) r := by
  obtain ⟨hlt, hx, hb, hml, hown, hts, hN, hA, hK⟩ := id C
  intro x1 y0 s0 H locs ls h hP hD hS hl
  unfold df_X18_twos_21 at h
  refine lv_istore_n (lv' := [(2, .int y0), (0, .ref (a 0)), (1, .int x1)]) hx hb dX18_twos_21 rfl hl (by decide) rfl (fun ls hl => ?_)
  refine lv_iload_n hx hb dX18_twos_22 rfl (lv_at hl 0 rfl) ?_
  refine lv_if_eq (tgt := 45) hx hb dX18_twos_23 (by decide) (fun c2 => ?_) (fun c2 => ?_)
  · have h := nd_pos h c2
    exact (db_X18_twos_45 C K) (x1) (y0) s0 _ _ _ h hP hD hS (lv_sub hl [1, 2, 0] rfl)
  · have h := nd_neg h c2
    refine lv_iload_n hx hb dX18_twos_26 rfl (lv_at hl 2 rfl) ?_
    refine lv_if_eq (tgt := 45) hx hb dX18_twos_27 (by decide) (fun c25 => ?_) (fun c25 => ?_)
    · have h := nd_pos h c25
      exact (db_X18_twos_45 C K) (x1) (y0) s0 _ _ _ h hP hD hS (lv_sub hl [1, 2, 0] rfl)
    · have h := nd_neg h c25
      refine lv_iload_n hx hb dX18_twos_30 rfl (lv_at hl 2 rfl) ?_
      refine lv_bipush (v := 32) hx hb dX18_twos_31 (by decide) ?_
      refine lv_icmp_ne (tgt := 44) hx hb dX18_twos_33 (by decide) (fun c26 => ?_) (fun c26 => ?_)
      · have h := nd_neg h c26
        exact (db_X18_twos_44 C K)  s0 _ _ _ h hP hD hS (lv_sub hl [] rfl)
      · have h := nd_pos h c26
        refine lv_aload_n hx hb dX18_twos_36 rfl (lv_at hl 1 rfl) ?_
        refine va_get (D := (dC, dI)) (ci := 19) (v := .int (sI s0 7)) (C := RX18) (T := TX18) (N := 10) hx hb hts hi_dm_X18_twos_X18 hown hK hP 0 rfl rfl 8 (by decide) (hts (.fieldLink RX18 80 "TimeMachineModel$Reader" "f" "I") (List.mem_of_getElem? (i := 1) rfl)) (fun _ h9 => h9) rfl dX18_twos_37 ?_
        refine lv_iconst (v := 1) hx hb dX18_twos_40 (by decide) ?_
        refine lv_icmp_ne (tgt := 45) hx hb dX18_twos_41 (by decide) (fun c27 => ?_) (fun c27 => ?_)
        · have h := nd_neg h c27
          exact (db_X18_twos_45 C K) (x1) (y0) s0 _ _ _ h hP hD hS (lv_sub hl [1, 2, 0] rfl)
        · have h := nd_pos h c27
          exact (db_X18_twos_44 C K)  s0 _ _ _ h hP hD hS (lv_sub hl [] rfl)
set_option maxHeartbeats 40000000 in
set_option maxRecDepth 100000 in
theorem db_X18_twos_16 {p : Program} {l : Launch} {e : Env} {s : State} {m : MethodId} {args : Array Value} {below : List Frame} {meth : Method} {c : Code} {Q : State → Prop} {A : Nat → Prop} {dC : Nat → ClassId} {dI : Nat → Nat → Nat} {a : Nat → Nat} {ac : Nat → ClassId} {n : Nat} {r : St} (C : nd_C p l s m args c A (dC, dI) cX18_twos 3 RX18 ow_dm_X18_twos (dk_X18 ac)) (K : nd_Kv p l e (headSpec ow_dm_X18_twos ({ frames := 4, cells := 0, slots := 0, locals := 89 })).room s m args below meth c Q A (dC, dI) cX18_twos (St) (dw_X18 a ac) r) : dj_X18_twos_16 p l e s m args below meth c Q A dC dI a ac (df_X18_twos_16 n) r := by
  obtain ⟨hlt, hx, hb, hml, hown, hts, hN, hA, hK⟩ := id C
  intro x1 s0 H locs ls h hP hD hS hl
  unfold df_X18_twos_16 at h
  refine lv_iconst (v := 1) hx hb dX18_twos_16 (by decide) ?_
  refine lv_goto (tgt := 21) hx hb dX18_twos_17 (by decide) ?_
  exact (db_X18_twos_21 C K) (x1) (1) s0 _ _ _ h hP hD hS (lv_sub hl [0, 1] rfl)
set_option maxHeartbeats 40000000 in
set_option maxRecDepth 100000 in
theorem db_X18_twos_0 {p : Program} {l : Launch} {e : Env} {s : State} {m : MethodId} {args : Array Value} {below : List Frame} {meth : Method} {c : Code} {Q : State → Prop} {A : Nat → Prop} {dC : Nat → ClassId} {dI : Nat → Nat → Nat} {a : Nat → Nat} {ac : Nat → ClassId} {n : Nat} {r : St} (C : nd_C p l s m args c A (dC, dI) cX18_twos 3 RX18 ow_dm_X18_twos (dk_X18 ac)) (K : nd_Kv p l e (headSpec ow_dm_X18_twos ({ frames := 4, cells := 0, slots := 0, locals := 89 })).room s m args below meth c Q A (dC, dI) cX18_twos (St) (dw_X18 a ac) r) : dj_X18_twos_0 p l e s m args below meth c Q A dC dI a ac (df_X18_twos_0 n) r := by
  obtain ⟨hlt, hx, hb, hml, hown, hts, hN, hA, hK⟩ := id C
  intro v0 s0 H locs ls h hP hD hS hl
  unfold df_X18_twos_0 at h
  refine lv_aload_n hx hb dX18_twos_0 rfl (lv_at hl 0 rfl) ?_
  refine va_get (D := (dC, dI)) (ci := 19) (v := .int (sI s0 7)) (C := RX18) (T := TX18) (N := 10) hx hb hts hi_dm_X18_twos_X18 hown hK hP 0 rfl rfl 8 (by decide) (hts (.fieldLink RX18 80 "TimeMachineModel$Reader" "f" "I") (List.mem_of_getElem? (i := 1) rfl)) (fun _ h9 => h9) rfl dX18_twos_1 ?_
  refine lv_iconst (v := 1) hx hb dX18_twos_4 (by decide) ?_
  refine lv_icmp_eq (tgt := 16) hx hb dX18_twos_5 (by decide) (fun c1 => ?_) (fun c1 => ?_)
  · have h := nd_pos h c1
    exact (db_X18_twos_16 C K) (v0) s0 _ _ _ h hP hD hS (lv_sub hl [0, 1] rfl)
  · have h := nd_neg h c1
    refine lv_aload_n hx hb dX18_twos_8 rfl (lv_at hl 0 rfl) ?_
    refine va_get (D := (dC, dI)) (ci := 19) (v := .int (sI s0 7)) (C := RX18) (T := TX18) (N := 10) hx hb hts hi_dm_X18_twos_X18 hown hK hP 0 rfl rfl 8 (by decide) (hts (.fieldLink RX18 80 "TimeMachineModel$Reader" "f" "I") (List.mem_of_getElem? (i := 1) rfl)) (fun _ h9 => h9) rfl dX18_twos_9 ?_
    refine lv_iconst (v := 5) hx hb dX18_twos_12 (by decide) ?_
    refine lv_icmp_ne (tgt := 20) hx hb dX18_twos_13 (by decide) (fun c28 => ?_) (fun c28 => ?_)
    · have h := nd_neg h c28
      refine lv_iconst (v := 0) hx hb dX18_twos_20 (by decide) ?_
      exact (db_X18_twos_21 C K) (v0) (0) s0 _ _ _ h hP hD hS (lv_sub hl [0, 1] rfl)
    · have h := nd_pos h c28
      exact (db_X18_twos_16 C K) (v0) s0 _ _ _ h hP hD hS (lv_sub hl [0, 1] rfl)
set_option maxHeartbeats 40000000 in
set_option maxRecDepth 100000 in
theorem dm_X18_twos (l : Launch) (hlt : l.stackTraces = false) (dC : Nat → ClassId) (dI : Nat → Nat → Nat) (a : Nat → Nat) (ac : Nat → ClassId) (n : Nat) (v0 : Int32) (s0 : St) {r : St} (h : df_X18_twos n v0 s0 = some r) (sz : Nat) : Met l yX18_twos ow_dm_X18_twos ({ frames := 4, cells := 0, slots := 0, locals := 89 }) (va_Pc [.ref (a 0), .int v0] (fun U => U.heap.size = sz ∧ va_P (dC, dI) vwCl (dw_X18 a ac s0) U.heap ∧ va_K (dC, dI) vwCl (dk_X18 ac) U ∧ va_D (fun _ => True) (dw_X18 a ac s0) ∧ nv_E (va_A (dw_X18 a ac s0) sz) U)) (va_Qv (fun _ => True) (fun (_ : Unit) t => va_P (dC, dI) vwCl (dw_X18 a ac r) t.heap ∧ va_K (dC, dI) vwCl (dk_X18 ac) t ∧ va_D (va_A (dw_X18 a ac s0) sz) (dw_X18 a ac r)) (va_A (dw_X18 a ac s0) sz)) 0 0 (va_A (dw_X18 a ac s0) sz) := by
  refine Met.ofW (cc := cX18_twos) (maxL := 3) (ret := none) (by decide) rfl ?_
  intro p e s m args below meth c s₁ B hml hv
  obtain ⟨rfl, hsz, hP, hK, hD0, hN⟩ := hv
  have hx := B.exec
  have hb := B.bytes
  have hr := B.returns
  have hts := atoms_spec (ws := ow_dm_X18_twos) B.pre
  have hown : s.vm.findClass RX18 = some m.cls := findClass_of_methodNamed B.named
  have hlocks := B.notSynchronized
  subst hsz
  have hD := hD0.self (sz := s.heap.size)
  generalize hAe : va_A (dw_X18 a ac s0) s.heap.size = A at hD hN ⊢
  have hA : ∀ q : Nat, s.heap.size ≤ q → A q := fun q h => by rw [← hAe]; exact Or.inr h
  have hl := lv_entry ([.ref (a 0), .int v0]) (n := 3) (Nat.le_of_ble_eq_true rfl)
  rw [lg_entry_eq]
  generalize (lg_sl ([.ref (a 0), .int v0]) ++ List.replicate (3 - (lg_sl ([.ref (a 0), .int v0])).length) Slot.unset).toArray = ls at hl ⊢
  have hl : lv_has ls 3 [(0, .ref (a 0)), (1, .int v0)] := hl
  exact db_X18_twos_0 (dC := dC) (dI := dI) (a := a) (ac := ac) (n := n) (r := r) ⟨hlt, hx, hb, hml, hown, hts, hN, hA, hK⟩ (fun pc τ H locs ls d er hP hD hS => by subst er; exact W.vret hx hb hr (fun t ht hW => ⟨⟨(), rfl, trivial, by rw [ht]; exact hP, va_K.moved hW.alike hK, hD⟩, hS.F ht⟩) hS.2.2 d) v0 s0 _ _ _ h hP hD va_S.rf (lv_sub hl [0, 1] rfl)
def ow_dm_X18_loads : List Cond := .code yX18_loads cX18_loads 1 none :: ([.fieldLink RX18 80 "TimeMachineModel$Reader" "f" "I", .constantLong RX18 148 (7694444), .methodLink RX18 65 yX18_name, .instanceMethod yX18_name, .selects RX18 yX18_name yX18_name, .initialized RX18, .fieldLink RX18 68 "TimeMachineModel$Reader" "d" "I", .methodLink RX18 71 yX18_register, .instanceMethod yX18_register, .selects RX18 yX18_register yX18_register, .fieldLink RX18 20 "TimeMachineModel$Reader" "bits" "I", .fieldLink RX18 74 "TimeMachineModel$Reader" "a" "I", .methodLink RX18 150 yX18_memory, .instanceMethod yX18_memory, .selects RX18 yX18_memory yX18_memory, .constantLong RX18 146 (7692908), .constantLong RX18 144 (30572), .constantLong RX18 142 (26732), .constantLong RX18 140 (25196)] ++ (u_ws RX18 TX18 10 ++ (ow_dm_X18_name ++ (ow_dm_X18_register ++ (ow_dm_X18_memory ++ [])))))
theorem gd_dm_X18_loads : ∀ w ∈ ow_dm_X18_loads, (w.onTables && w.keeps) = true ∨ ∃ ty, w = Cond.arrayClass ty := List.forall_mem_cons.mpr ⟨good_of_word rfl, List.forall_mem_append.mpr ⟨fun w h => good_of_word (List.all_eq_true.mp (by decide +kernel) w h), List.forall_mem_append.mpr ⟨gu_X18, List.forall_mem_append.mpr ⟨gd_dm_X18_name, List.forall_mem_append.mpr ⟨gd_dm_X18_register, List.forall_mem_append.mpr ⟨gd_dm_X18_memory, fun _ h => nomatch h⟩⟩⟩⟩⟩⟩
theorem hi_dm_X18_loads_X18 : ∀ w ∈ u_ws RX18 TX18 10, w ∈ ow_dm_X18_loads := fun w h => List.mem_cons_of_mem _ (List.mem_append_right _ (List.mem_append_left _ h))
theorem gi_dm_X18_loads_0 : GoodIn ow_dm_X18_loads (wsV RX18 65 RX18 yX18_name ow_dm_X18_name) := goodIn_app (goodIn_of _ (by decide +kernel)) (fun w h => ⟨List.mem_cons_of_mem _ (List.mem_append_right _ (List.mem_append_right _ (List.mem_append_left _ h))), gd_dm_X18_name w h⟩)
theorem gi_dm_X18_loads_1 : GoodIn ow_dm_X18_loads (wsV RX18 71 RX18 yX18_register ow_dm_X18_register) := goodIn_app (goodIn_of _ (by decide +kernel)) (fun w h => ⟨List.mem_cons_of_mem _ (List.mem_append_right _ (List.mem_append_right _ (List.mem_append_right _ (List.mem_append_left _ h)))), gd_dm_X18_register w h⟩)
theorem gi_dm_X18_loads_2 : GoodIn ow_dm_X18_loads (wsV RX18 150 RX18 yX18_memory ow_dm_X18_memory) := goodIn_app (goodIn_of _ (by decide +kernel)) (fun w h => ⟨List.mem_cons_of_mem _ (List.mem_append_right _ (List.mem_append_right _ (List.mem_append_right _ (List.mem_append_right _ (List.mem_append_left _ h))))), gd_dm_X18_memory w h⟩)
def dj_X18_loads_16 (p : Program) (l : Launch) (e : Env) (s : State) (m : MethodId) (args : Array Value) (below : List Frame) (meth : Method) (c : Code) (Q : State → Prop) (A : Nat → Prop) (dC : Nat → ClassId) (dI : Nat → Nat → Nat) (a : Nat → Nat) (ac : Nat → ClassId) (g : (St) → Option (St)) (r : St) : Prop := ∀ (s0 : St) (H : Heap) (locs : List Loc) (ls : Array Slot), g s0 = some r → va_P (dC, dI) vwCl (dw_X18 a ac s0) H → va_D A (dw_X18 a ac s0) → va_S A s.heap H locs → lv_has ls 1 [] → W p l e (headSpec ow_dm_X18_loads ({ frames := 5, cells := 0, slots := 0, locals := 111 })).room s m args below meth c H locs 0 0 Q (F0 m 16 ls [])
def dj_X18_loads_76 (p : Program) (l : Launch) (e : Env) (s : State) (m : MethodId) (args : Array Value) (below : List Frame) (meth : Method) (c : Code) (Q : State → Prop) (A : Nat → Prop) (dC : Nat → ClassId) (dI : Nat → Nat → Nat) (a : Nat → Nat) (ac : Nat → ClassId) (g : Int64 → (St) → Option (St)) (r : St) : Prop := ∀ (y1 : Int64) (s0 : St) (H : Heap) (locs : List Loc) (ls : Array Slot), g y1 s0 = some r → va_P (dC, dI) vwCl (dw_X18 a ac s0) H → va_D A (dw_X18 a ac s0) → va_S A s.heap H locs → lv_has ls 1 [(0, .ref (a 0))] → W p l e (headSpec ow_dm_X18_loads ({ frames := 5, cells := 0, slots := 0, locals := 111 })).room s m args below meth c H locs 0 0 Q (F0 m 76 ls [.long y1, .ref (a 0)])
def dj_X18_loads_0 (p : Program) (l : Launch) (e : Env) (s : State) (m : MethodId) (args : Array Value) (below : List Frame) (meth : Method) (c : Code) (Q : State → Prop) (A : Nat → Prop) (dC : Nat → ClassId) (dI : Nat → Nat → Nat) (a : Nat → Nat) (ac : Nat → ClassId) (g : (St) → Option (St)) (r : St) : Prop := ∀ (s0 : St) (H : Heap) (locs : List Loc) (ls : Array Slot), g s0 = some r → va_P (dC, dI) vwCl (dw_X18 a ac s0) H → va_D A (dw_X18 a ac s0) → va_S A s.heap H locs → lv_has ls 1 [(0, .ref (a 0))] → W p l e (headSpec ow_dm_X18_loads ({ frames := 5, cells := 0, slots := 0, locals := 111 })).room s m args below meth c H locs 0 0 Q (F0 m 0 ls [])
set_option maxHeartbeats 40000000 in
set_option maxRecDepth 100000 in
theorem db_X18_loads_16 {p : Program} {l : Launch} {e : Env} {s : State} {m : MethodId} {args : Array Value} {below : List Frame} {meth : Method} {c : Code} {Q : State → Prop} {A : Nat → Prop} {dC : Nat → ClassId} {dI : Nat → Nat → Nat} {a : Nat → Nat} {ac : Nat → ClassId} {n : Nat} {r : St} (C : nd_C p l s m args c A (dC, dI) cX18_loads 1 RX18 ow_dm_X18_loads (dk_X18 ac)) (K : nd_Kv p l e (headSpec ow_dm_X18_loads ({ frames := 5, cells := 0, slots := 0, locals := 111 })).room s m args below meth c Q A (dC, dI) cX18_loads (St) (dw_X18 a ac) r) : dj_X18_loads_16 p l e s m args below meth c Q A dC dI a ac (df_X18_loads_16 n) r := by
  obtain ⟨hlt, hx, hb, hml, hown, hts, hN, hA, hK⟩ := id C
  intro s0 H locs ls h hP hD hS hl
  unfold df_X18_loads_16 at h
  exact K _ _ _ _ _ dX18_loads_16 (Option.some.inj h).symm hP hD hS
set_option maxHeartbeats 40000000 in
set_option maxRecDepth 100000 in
theorem db_X18_loads_76 {p : Program} {l : Launch} {e : Env} {s : State} {m : MethodId} {args : Array Value} {below : List Frame} {meth : Method} {c : Code} {Q : State → Prop} {A : Nat → Prop} {dC : Nat → ClassId} {dI : Nat → Nat → Nat} {a : Nat → Nat} {ac : Nat → ClassId} {n : Nat} {r : St} (C : nd_C p l s m args c A (dC, dI) cX18_loads 1 RX18 ow_dm_X18_loads (dk_X18 ac)) (K : nd_Kv p l e (headSpec ow_dm_X18_loads ({ frames := 5, cells := 0, slots := 0, locals := 111 })).room s m args below meth c Q A (dC, dI) cX18_loads (St) (dw_X18 a ac) r) : dj_X18_loads_76 p l e s m args below meth c Q A dC dI a ac (df_X18_loads_76 n) r := by
  obtain ⟨hlt, hx, hb, hml, hown, hts, hN, hA, hK⟩ := id C
  intro y1 s0 H locs ls h hP hD hS hl
  unfold df_X18_loads_76 at h
  obtain ⟨s8, hq, h⟩ := nd_b1_e h
  have hPc := hP
  have hDc := hD
  have hKc := hK
  have hFc := nd_rs hD hS hA
  refine va_callv (va_runV (As := [.long y1]) (rest := []) ⟨hx, hb, hml, hown, hts⟩ (dm_X18_name l hlt dC dI a ac n (y1) s0 hq _) (cwV 1 hts gi_dm_X18_loads_0 rfl rfl rfl (by decide +kernel) ⟨Nat.le_of_ble_eq_true rfl, Nat.le_of_ble_eq_true rfl⟩) ⟨fun a U g mk q => by obtain ⟨q0, q1, qP, qK, qD, qN⟩ := q; exact ⟨q0, q1, qP, va_K.moved (u := U) (U := U.calling g mk a) (Vm.Alike.refl U.vm) qK, qD, nv_same rfl rfl qN⟩, va_recv hKc hPc (ci := 19) (q0 := 0) rfl rfl, fun U hU hW => ⟨rfl, by rw [hU], by rw [hU]; exact hPc, va_K.moved hW.alike hKc, hDc.weaken (fun _ _ _ _ => trivial), nv_call hS hFc hU hW hN⟩⟩ rfl rfl hl.1 rfl (lv_room (Nat.le_of_ble_eq_true rfl)) dX18_loads_76 ⟨by decide +kernel, by decide +kernel⟩) hS (fun q _ h => hFc q h) hFc (fun u t H locs ht hvm hw hB hz1 hk1 hS => ?_)
  obtain ⟨hP1, -, hD1⟩ := hB
  rw [ht] at hP1
  have hP := hP1
  have hD := hD1.weaken (fun k q _ h => hFc q.1 h)
  refine W.widen (k := 0) (n := 0) (Nat.le_refl _) (Nat.le_refl _) ?_
  refine lv_aload_n hx hb dX18_loads_79 rfl (lv_at hl 0 rfl) ?_
  refine lv_aload_n hx hb dX18_loads_80 rfl (lv_at hl 0 rfl) ?_
  refine va_get (D := (dC, dI)) (ci := 19) (v := .int (sI s8 4)) (C := RX18) (T := TX18) (N := 10) hx hb hts hi_dm_X18_loads_X18 hown hK hP 0 rfl rfl 5 (by decide) (hts (.fieldLink RX18 68 "TimeMachineModel$Reader" "d" "I") (List.mem_of_getElem? (i := 7) rfl)) (fun _ h9 => h9) rfl dX18_loads_81 ?_
  obtain ⟨s11, hq, h⟩ := nd_b1_e h
  have hPc := hP
  have hDc := hD
  have hKc := hK
  have hFc := nd_rs hD hS hA
  refine va_callv (va_runV (As := [.int (sI s8 4)]) (rest := []) ⟨hx, hb, hml, hown, hts⟩ (dm_X18_register l hlt dC dI a ac n ((sI s8 4)) s8 hq _) (cwV 1 hts gi_dm_X18_loads_1 rfl rfl rfl (by decide +kernel) ⟨Nat.le_of_ble_eq_true rfl, Nat.le_of_ble_eq_true rfl⟩) ⟨fun a U g mk q => by obtain ⟨q0, q1, qP, qK, qD, qN⟩ := q; exact ⟨q0, q1, qP, va_K.moved (u := U) (U := U.calling g mk a) (Vm.Alike.refl U.vm) qK, qD, nv_same rfl rfl qN⟩, va_recv hKc hPc (ci := 19) (q0 := 0) rfl rfl, fun U hU hW => ⟨rfl, by rw [hU], by rw [hU]; exact hPc, va_K.moved hW.alike hKc, hDc.weaken (fun _ _ _ _ => trivial), nv_call hS hFc hU hW hN⟩⟩ rfl rfl hl.1 rfl (lv_room (Nat.le_of_ble_eq_true rfl)) dX18_loads_84 ⟨by decide +kernel, by decide +kernel⟩) hS (fun q _ h => hFc q h) hFc (fun u t H locs ht hvm hw hB hz1 hk1 hS => ?_)
  obtain ⟨hP1, -, hD1⟩ := hB
  rw [ht] at hP1
  have hP := hP1
  have hD := hD1.weaken (fun k q _ h => hFc q.1 h)
  refine W.widen (k := 0) (n := 0) (Nat.le_refl _) (Nat.le_refl _) ?_
  refine lv_aload_n hx hb dX18_loads_87 rfl (lv_at hl 0 rfl) ?_
  refine lv_aload_n hx hb dX18_loads_88 rfl (lv_at hl 0 rfl) ?_
  refine va_get (D := (dC, dI)) (ci := 19) (v := .int (sI s11 3)) (C := RX18) (T := TX18) (N := 10) hx hb hts hi_dm_X18_loads_X18 hown hK hP 0 rfl rfl 4 (by decide) (hts (.fieldLink RX18 20 "TimeMachineModel$Reader" "bits" "I") (List.mem_of_getElem? (i := 11) rfl)) (fun _ h9 => h9) rfl dX18_loads_89 ?_
  refine lv_bipush (v := 20) hx hb dX18_loads_92 (by decide) ?_
  refine lv_ishr hx hb dX18_loads_94 ?_
  refine lv_aload_n hx hb dX18_loads_95 rfl (lv_at hl 0 rfl) ?_
  refine va_get (D := (dC, dI)) (ci := 19) (v := .int (sI s11 5)) (C := RX18) (T := TX18) (N := 10) hx hb hts hi_dm_X18_loads_X18 hown hK hP 0 rfl rfl 6 (by decide) (hts (.fieldLink RX18 74 "TimeMachineModel$Reader" "a" "I") (List.mem_of_getElem? (i := 12) rfl)) (fun _ h9 => h9) rfl dX18_loads_96 ?_
  obtain ⟨s14, hq, h⟩ := nd_b1_e h
  have hPc := hP
  have hDc := hD
  have hKc := hK
  have hFc := nd_rs hD hS hA
  refine va_callv (va_runV (As := [.int (((sI s11 3) : Int32) >>> ((20 : Int32) &&& 31)), .int (sI s11 5)]) (rest := []) ⟨hx, hb, hml, hown, hts⟩ (dm_X18_memory l hlt dC dI a ac n ((((sI s11 3) : Int32) >>> ((20 : Int32) &&& 31))) ((sI s11 5)) s11 hq _) (cwV 2 hts gi_dm_X18_loads_2 rfl rfl rfl (by decide +kernel) ⟨Nat.le_of_ble_eq_true rfl, Nat.le_of_ble_eq_true rfl⟩) ⟨fun a U g mk q => by obtain ⟨q0, q1, qP, qK, qD, qN⟩ := q; exact ⟨q0, q1, qP, va_K.moved (u := U) (U := U.calling g mk a) (Vm.Alike.refl U.vm) qK, qD, nv_same rfl rfl qN⟩, va_recv hKc hPc (ci := 19) (q0 := 0) rfl rfl, fun U hU hW => ⟨rfl, by rw [hU], by rw [hU]; exact hPc, va_K.moved hW.alike hKc, hDc.weaken (fun _ _ _ _ => trivial), nv_call hS hFc hU hW hN⟩⟩ rfl rfl hl.1 rfl (lv_room (Nat.le_of_ble_eq_true rfl)) dX18_loads_99 ⟨by decide +kernel, by decide +kernel⟩) hS (fun q _ h => hFc q h) hFc (fun u t H locs ht hvm hw hB hz1 hk1 hS => ?_)
  obtain ⟨hP1, -, hD1⟩ := hB
  rw [ht] at hP1
  have hP := hP1
  have hD := hD1.weaken (fun k q _ h => hFc q.1 h)
  refine W.widen (k := 0) (n := 0) (Nat.le_refl _) (Nat.le_refl _) ?_
  exact K _ _ _ _ _ dX18_loads_102 (Option.some.inj h).symm hP hD hS
set_option maxHeartbeats 40000000 in
set_option maxRecDepth 100000 in
theorem db_X18_loads_0 {p : Program} {l : Launch} {e : Env} {s : State} {m : MethodId} {args : Array Value} {below : List Frame} {meth : Method} {c : Code} {Q : State → Prop} {A : Nat → Prop} {dC : Nat → ClassId} {dI : Nat → Nat → Nat} {a : Nat → Nat} {ac : Nat → ClassId} {n : Nat} {r : St} (C : nd_C p l s m args c A (dC, dI) cX18_loads 1 RX18 ow_dm_X18_loads (dk_X18 ac)) (K : nd_Kv p l e (headSpec ow_dm_X18_loads ({ frames := 5, cells := 0, slots := 0, locals := 111 })).room s m args below meth c Q A (dC, dI) cX18_loads (St) (dw_X18 a ac) r) : dj_X18_loads_0 p l e s m args below meth c Q A dC dI a ac (df_X18_loads_0 n) r := by
  obtain ⟨hlt, hx, hb, hml, hown, hts, hN, hA, hK⟩ := id C
  intro s0 H locs ls h hP hD hS hl
  unfold df_X18_loads_0 at h
  refine lv_aload_n hx hb dX18_loads_0 rfl (lv_at hl 0 rfl) ?_
  refine va_get (D := (dC, dI)) (ci := 19) (v := .int (sI s0 7)) (C := RX18) (T := TX18) (N := 10) hx hb hts hi_dm_X18_loads_X18 hown hK hP 0 rfl rfl 8 (by decide) (hts (.fieldLink RX18 80 "TimeMachineModel$Reader" "f" "I") (List.mem_of_getElem? (i := 1) rfl)) (fun _ h9 => h9) rfl dX18_loads_1 ?_
  refine lv_iconst (v := 3) hx hb dX18_loads_4 (by decide) ?_
  refine lv_icmp_eq (tgt := 16) hx hb dX18_loads_5 (by decide) (fun c1 => ?_) (fun c1 => ?_)
  · have h := nd_pos h c1
    exact (db_X18_loads_16 C K)  s0 _ _ _ h hP hD hS (lv_sub hl [] rfl)
  · have h := nd_neg h c1
    refine lv_aload_n hx hb dX18_loads_8 rfl (lv_at hl 0 rfl) ?_
    refine va_get (D := (dC, dI)) (ci := 19) (v := .int (sI s0 7)) (C := RX18) (T := TX18) (N := 10) hx hb hts hi_dm_X18_loads_X18 hown hK hP 0 rfl rfl 8 (by decide) (hts (.fieldLink RX18 80 "TimeMachineModel$Reader" "f" "I") (List.mem_of_getElem? (i := 1) rfl)) (fun _ h9 => h9) rfl dX18_loads_9 ?_
    refine lv_iconst (v := 5) hx hb dX18_loads_12 (by decide) ?_
    refine lv_icmp_le (tgt := 17) hx hb dX18_loads_13 (by decide) (fun c2 => ?_) (fun c2 => ?_)
    · have h := nd_pos h c2
      refine lv_aload_n hx hb dX18_loads_17 rfl (lv_at hl 0 rfl) ?_
      refine lv_aload_n hx hb dX18_loads_18 rfl (lv_at hl 0 rfl) ?_
      refine va_get (D := (dC, dI)) (ci := 19) (v := .int (sI s0 7)) (C := RX18) (T := TX18) (N := 10) hx hb hts hi_dm_X18_loads_X18 hown hK hP 0 rfl rfl 8 (by decide) (hts (.fieldLink RX18 80 "TimeMachineModel$Reader" "f" "I") (List.mem_of_getElem? (i := 1) rfl)) (fun _ h9 => h9) rfl dX18_loads_19 ?_
      refine lv_if_ne (tgt := 31) hx hb dX18_loads_22 (by decide) (fun c3 => ?_) (fun c3 => ?_)
      · have h := nd_neg h c3
        refine lv_aload_n hx hb dX18_loads_31 rfl (lv_at hl 0 rfl) ?_
        refine va_get (D := (dC, dI)) (ci := 19) (v := .int (sI s0 7)) (C := RX18) (T := TX18) (N := 10) hx hb hts hi_dm_X18_loads_X18 hown hK hP 0 rfl rfl 8 (by decide) (hts (.fieldLink RX18 80 "TimeMachineModel$Reader" "f" "I") (List.mem_of_getElem? (i := 1) rfl)) (fun _ h9 => h9) rfl dX18_loads_32 ?_
        refine lv_iconst (v := 1) hx hb dX18_loads_35 (by decide) ?_
        refine lv_icmp_ne (tgt := 45) hx hb dX18_loads_36 (by decide) (fun c4 => ?_) (fun c4 => ?_)
        · have h := nd_neg h c4
          refine lv_aload_n hx hb dX18_loads_45 rfl (lv_at hl 0 rfl) ?_
          refine va_get (D := (dC, dI)) (ci := 19) (v := .int (sI s0 7)) (C := RX18) (T := TX18) (N := 10) hx hb hts hi_dm_X18_loads_X18 hown hK hP 0 rfl rfl 8 (by decide) (hts (.fieldLink RX18 80 "TimeMachineModel$Reader" "f" "I") (List.mem_of_getElem? (i := 1) rfl)) (fun _ h9 => h9) rfl dX18_loads_46 ?_
          refine lv_iconst (v := 2) hx hb dX18_loads_49 (by decide) ?_
          refine lv_icmp_ne (tgt := 59) hx hb dX18_loads_50 (by decide) (fun c5 => ?_) (fun c5 => ?_)
          · have h := nd_neg h c5
            refine lv_aload_n hx hb dX18_loads_59 rfl (lv_at hl 0 rfl) ?_
            refine va_get (D := (dC, dI)) (ci := 19) (v := .int (sI s0 7)) (C := RX18) (T := TX18) (N := 10) hx hb hts hi_dm_X18_loads_X18 hown hK hP 0 rfl rfl 8 (by decide) (hts (.fieldLink RX18 80 "TimeMachineModel$Reader" "f" "I") (List.mem_of_getElem? (i := 1) rfl)) (fun _ h9 => h9) rfl dX18_loads_60 ?_
            refine lv_iconst (v := 4) hx hb dX18_loads_63 (by decide) ?_
            refine lv_icmp_ne (tgt := 73) hx hb dX18_loads_64 (by decide) (fun c6 => ?_) (fun c6 => ?_)
            · have h := nd_neg h c6
              refine lv_ldc2 hx hb hown (hts (.constantLong RX18 148 (7694444)) (List.mem_of_getElem? (i := 2) rfl)) dX18_loads_73 ?_
              exact (db_X18_loads_76 C K) (7694444) s0 _ _ _ h hP hD hS (lv_sub hl [0] rfl)
            · have h := nd_pos h c6
              refine lv_ldc2 hx hb hown (hts (.constantLong RX18 146 (7692908)) (List.mem_of_getElem? (i := 16) rfl)) dX18_loads_67 ?_
              refine lv_goto (tgt := 76) hx hb dX18_loads_70 (by decide) ?_
              exact (db_X18_loads_76 C K) (7692908) s0 _ _ _ h hP hD hS (lv_sub hl [0] rfl)
          · have h := nd_pos h c5
            refine lv_ldc2 hx hb hown (hts (.constantLong RX18 144 (30572)) (List.mem_of_getElem? (i := 17) rfl)) dX18_loads_53 ?_
            refine lv_goto (tgt := 76) hx hb dX18_loads_56 (by decide) ?_
            exact (db_X18_loads_76 C K) (30572) s0 _ _ _ h hP hD hS (lv_sub hl [0] rfl)
        · have h := nd_pos h c4
          refine lv_ldc2 hx hb hown (hts (.constantLong RX18 142 (26732)) (List.mem_of_getElem? (i := 18) rfl)) dX18_loads_39 ?_
          refine lv_goto (tgt := 76) hx hb dX18_loads_42 (by decide) ?_
          exact (db_X18_loads_76 C K) (26732) s0 _ _ _ h hP hD hS (lv_sub hl [0] rfl)
      · have h := nd_pos h c3
        refine lv_ldc2 hx hb hown (hts (.constantLong RX18 140 (25196)) (List.mem_of_getElem? (i := 19) rfl)) dX18_loads_25 ?_
        refine lv_goto (tgt := 76) hx hb dX18_loads_28 (by decide) ?_
        exact (db_X18_loads_76 C K) (25196) s0 _ _ _ h hP hD hS (lv_sub hl [0] rfl)
    · have h := nd_neg h c2
      exact (db_X18_loads_16 C K)  s0 _ _ _ h hP hD hS (lv_sub hl [] rfl)
set_option maxHeartbeats 40000000 in
set_option maxRecDepth 100000 in
theorem dm_X18_loads (l : Launch) (hlt : l.stackTraces = false) (dC : Nat → ClassId) (dI : Nat → Nat → Nat) (a : Nat → Nat) (ac : Nat → ClassId) (n : Nat) (s0 : St) {r : St} (h : df_X18_loads n s0 = some r) (sz : Nat) : Met l yX18_loads ow_dm_X18_loads ({ frames := 5, cells := 0, slots := 0, locals := 111 }) (va_Pc [.ref (a 0)] (fun U => U.heap.size = sz ∧ va_P (dC, dI) vwCl (dw_X18 a ac s0) U.heap ∧ va_K (dC, dI) vwCl (dk_X18 ac) U ∧ va_D (fun _ => True) (dw_X18 a ac s0) ∧ nv_E (va_A (dw_X18 a ac s0) sz) U)) (va_Qv (fun _ => True) (fun (_ : Unit) t => va_P (dC, dI) vwCl (dw_X18 a ac r) t.heap ∧ va_K (dC, dI) vwCl (dk_X18 ac) t ∧ va_D (va_A (dw_X18 a ac s0) sz) (dw_X18 a ac r)) (va_A (dw_X18 a ac s0) sz)) 0 0 (va_A (dw_X18 a ac s0) sz) := by
  refine Met.ofW (cc := cX18_loads) (maxL := 1) (ret := none) (by decide) rfl ?_
  intro p e s m args below meth c s₁ B hml hv
  obtain ⟨rfl, hsz, hP, hK, hD0, hN⟩ := hv
  have hx := B.exec
  have hb := B.bytes
  have hr := B.returns
  have hts := atoms_spec (ws := ow_dm_X18_loads) B.pre
  have hown : s.vm.findClass RX18 = some m.cls := findClass_of_methodNamed B.named
  have hlocks := B.notSynchronized
  subst hsz
  have hD := hD0.self (sz := s.heap.size)
  generalize hAe : va_A (dw_X18 a ac s0) s.heap.size = A at hD hN ⊢
  have hA : ∀ q : Nat, s.heap.size ≤ q → A q := fun q h => by rw [← hAe]; exact Or.inr h
  have hl := lv_entry ([.ref (a 0)]) (n := 1) (Nat.le_of_ble_eq_true rfl)
  rw [lg_entry_eq]
  generalize (lg_sl ([.ref (a 0)]) ++ List.replicate (1 - (lg_sl ([.ref (a 0)])).length) Slot.unset).toArray = ls at hl ⊢
  have hl : lv_has ls 1 [(0, .ref (a 0))] := hl
  exact db_X18_loads_0 (dC := dC) (dI := dI) (a := a) (ac := ac) (n := n) (r := r) ⟨hlt, hx, hb, hml, hown, hts, hN, hA, hK⟩ (fun pc τ H locs ls d er hP hD hS => by subst er; exact W.vret hx hb hr (fun t ht hW => ⟨⟨(), rfl, trivial, by rw [ht]; exact hP, va_K.moved hW.alike hK, hD⟩, hS.F ht⟩) hS.2.2 d) s0 _ _ _ h hP hD va_S.rf (lv_sub hl [0] rfl)
def ow_dm_X18_stores : List Cond := .code yX18_stores cX18_stores 1 none :: ([.fieldLink RX18 80 "TimeMachineModel$Reader" "f" "I", .constantLong RX18 158 (30579), .methodLink RX18 65 yX18_name, .instanceMethod yX18_name, .selects RX18 yX18_name yX18_name, .initialized RX18, .fieldLink RX18 77 "TimeMachineModel$Reader" "b" "I", .methodLink RX18 71 yX18_register, .instanceMethod yX18_register, .selects RX18 yX18_register yX18_register, .fieldLink RX18 20 "TimeMachineModel$Reader" "bits" "I", .fieldLink RX18 68 "TimeMachineModel$Reader" "d" "I", .fieldLink RX18 74 "TimeMachineModel$Reader" "a" "I", .methodLink RX18 150 yX18_memory, .instanceMethod yX18_memory, .selects RX18 yX18_memory yX18_memory, .constantLong RX18 156 (26739), .constantLong RX18 154 (25203)] ++ (u_ws RX18 TX18 10 ++ (ow_dm_X18_name ++ (ow_dm_X18_register ++ (ow_dm_X18_memory ++ [])))))
theorem gd_dm_X18_stores : ∀ w ∈ ow_dm_X18_stores, (w.onTables && w.keeps) = true ∨ ∃ ty, w = Cond.arrayClass ty := List.forall_mem_cons.mpr ⟨good_of_word rfl, List.forall_mem_append.mpr ⟨fun w h => good_of_word (List.all_eq_true.mp (by decide +kernel) w h), List.forall_mem_append.mpr ⟨gu_X18, List.forall_mem_append.mpr ⟨gd_dm_X18_name, List.forall_mem_append.mpr ⟨gd_dm_X18_register, List.forall_mem_append.mpr ⟨gd_dm_X18_memory, fun _ h => nomatch h⟩⟩⟩⟩⟩⟩
theorem hi_dm_X18_stores_X18 : ∀ w ∈ u_ws RX18 TX18 10, w ∈ ow_dm_X18_stores := fun w h => List.mem_cons_of_mem _ (List.mem_append_right _ (List.mem_append_left _ h))
theorem gi_dm_X18_stores_0 : GoodIn ow_dm_X18_stores (wsV RX18 65 RX18 yX18_name ow_dm_X18_name) := goodIn_app (goodIn_of _ (by decide +kernel)) (fun w h => ⟨List.mem_cons_of_mem _ (List.mem_append_right _ (List.mem_append_right _ (List.mem_append_left _ h))), gd_dm_X18_name w h⟩)
theorem gi_dm_X18_stores_1 : GoodIn ow_dm_X18_stores (wsV RX18 71 RX18 yX18_register ow_dm_X18_register) := goodIn_app (goodIn_of _ (by decide +kernel)) (fun w h => ⟨List.mem_cons_of_mem _ (List.mem_append_right _ (List.mem_append_right _ (List.mem_append_right _ (List.mem_append_left _ h)))), gd_dm_X18_register w h⟩)
theorem gi_dm_X18_stores_2 : GoodIn ow_dm_X18_stores (wsV RX18 150 RX18 yX18_memory ow_dm_X18_memory) := goodIn_app (goodIn_of _ (by decide +kernel)) (fun w h => ⟨List.mem_cons_of_mem _ (List.mem_append_right _ (List.mem_append_right _ (List.mem_append_right _ (List.mem_append_right _ (List.mem_append_left _ h))))), gd_dm_X18_memory w h⟩)
def dj_X18_stores_40 (p : Program) (l : Launch) (e : Env) (s : State) (m : MethodId) (args : Array Value) (below : List Frame) (meth : Method) (c : Code) (Q : State → Prop) (A : Nat → Prop) (dC : Nat → ClassId) (dI : Nat → Nat → Nat) (a : Nat → Nat) (ac : Nat → ClassId) (g : Int64 → (St) → Option (St)) (r : St) : Prop := ∀ (y1 : Int64) (s0 : St) (H : Heap) (locs : List Loc) (ls : Array Slot), g y1 s0 = some r → va_P (dC, dI) vwCl (dw_X18 a ac s0) H → va_D A (dw_X18 a ac s0) → va_S A s.heap H locs → lv_has ls 1 [(0, .ref (a 0))] → W p l e (headSpec ow_dm_X18_stores ({ frames := 5, cells := 0, slots := 0, locals := 111 })).room s m args below meth c H locs 0 0 Q (F0 m 40 ls [.long y1, .ref (a 0)])
def dj_X18_stores_0 (p : Program) (l : Launch) (e : Env) (s : State) (m : MethodId) (args : Array Value) (below : List Frame) (meth : Method) (c : Code) (Q : State → Prop) (A : Nat → Prop) (dC : Nat → ClassId) (dI : Nat → Nat → Nat) (a : Nat → Nat) (ac : Nat → ClassId) (g : (St) → Option (St)) (r : St) : Prop := ∀ (s0 : St) (H : Heap) (locs : List Loc) (ls : Array Slot), g s0 = some r → va_P (dC, dI) vwCl (dw_X18 a ac s0) H → va_D A (dw_X18 a ac s0) → va_S A s.heap H locs → lv_has ls 1 [(0, .ref (a 0))] → W p l e (headSpec ow_dm_X18_stores ({ frames := 5, cells := 0, slots := 0, locals := 111 })).room s m args below meth c H locs 0 0 Q (F0 m 0 ls [])
set_option maxHeartbeats 40000000 in
set_option maxRecDepth 100000 in
theorem db_X18_stores_40 {p : Program} {l : Launch} {e : Env} {s : State} {m : MethodId} {args : Array Value} {below : List Frame} {meth : Method} {c : Code} {Q : State → Prop} {A : Nat → Prop} {dC : Nat → ClassId} {dI : Nat → Nat → Nat} {a : Nat → Nat} {ac : Nat → ClassId} {n : Nat} {r : St} (C : nd_C p l s m args c A (dC, dI) cX18_stores 1 RX18 ow_dm_X18_stores (dk_X18 ac)) (K : nd_Kv p l e (headSpec ow_dm_X18_stores ({ frames := 5, cells := 0, slots := 0, locals := 111 })).room s m args below meth c Q A (dC, dI) cX18_stores (St) (dw_X18 a ac) r) : dj_X18_stores_40 p l e s m args below meth c Q A dC dI a ac (df_X18_stores_40 n) r := by
  obtain ⟨hlt, hx, hb, hml, hown, hts, hN, hA, hK⟩ := id C
  intro y1 s0 H locs ls h hP hD hS hl
  unfold df_X18_stores_40 at h
  obtain ⟨s5, hq, h⟩ := nd_b1_e h
  have hPc := hP
  have hDc := hD
  have hKc := hK
  have hFc := nd_rs hD hS hA
  refine va_callv (va_runV (As := [.long y1]) (rest := []) ⟨hx, hb, hml, hown, hts⟩ (dm_X18_name l hlt dC dI a ac n (y1) s0 hq _) (cwV 1 hts gi_dm_X18_stores_0 rfl rfl rfl (by decide +kernel) ⟨Nat.le_of_ble_eq_true rfl, Nat.le_of_ble_eq_true rfl⟩) ⟨fun a U g mk q => by obtain ⟨q0, q1, qP, qK, qD, qN⟩ := q; exact ⟨q0, q1, qP, va_K.moved (u := U) (U := U.calling g mk a) (Vm.Alike.refl U.vm) qK, qD, nv_same rfl rfl qN⟩, va_recv hKc hPc (ci := 19) (q0 := 0) rfl rfl, fun U hU hW => ⟨rfl, by rw [hU], by rw [hU]; exact hPc, va_K.moved hW.alike hKc, hDc.weaken (fun _ _ _ _ => trivial), nv_call hS hFc hU hW hN⟩⟩ rfl rfl hl.1 rfl (lv_room (Nat.le_of_ble_eq_true rfl)) dX18_stores_40 ⟨by decide +kernel, by decide +kernel⟩) hS (fun q _ h => hFc q h) hFc (fun u t H locs ht hvm hw hB hz1 hk1 hS => ?_)
  obtain ⟨hP1, -, hD1⟩ := hB
  rw [ht] at hP1
  have hP := hP1
  have hD := hD1.weaken (fun k q _ h => hFc q.1 h)
  refine W.widen (k := 0) (n := 0) (Nat.le_refl _) (Nat.le_refl _) ?_
  refine lv_aload_n hx hb dX18_stores_43 rfl (lv_at hl 0 rfl) ?_
  refine lv_aload_n hx hb dX18_stores_44 rfl (lv_at hl 0 rfl) ?_
  refine va_get (D := (dC, dI)) (ci := 19) (v := .int (sI s5 6)) (C := RX18) (T := TX18) (N := 10) hx hb hts hi_dm_X18_stores_X18 hown hK hP 0 rfl rfl 7 (by decide) (hts (.fieldLink RX18 77 "TimeMachineModel$Reader" "b" "I") (List.mem_of_getElem? (i := 7) rfl)) (fun _ h9 => h9) rfl dX18_stores_45 ?_
  obtain ⟨s8, hq, h⟩ := nd_b1_e h
  have hPc := hP
  have hDc := hD
  have hKc := hK
  have hFc := nd_rs hD hS hA
  refine va_callv (va_runV (As := [.int (sI s5 6)]) (rest := []) ⟨hx, hb, hml, hown, hts⟩ (dm_X18_register l hlt dC dI a ac n ((sI s5 6)) s5 hq _) (cwV 1 hts gi_dm_X18_stores_1 rfl rfl rfl (by decide +kernel) ⟨Nat.le_of_ble_eq_true rfl, Nat.le_of_ble_eq_true rfl⟩) ⟨fun a U g mk q => by obtain ⟨q0, q1, qP, qK, qD, qN⟩ := q; exact ⟨q0, q1, qP, va_K.moved (u := U) (U := U.calling g mk a) (Vm.Alike.refl U.vm) qK, qD, nv_same rfl rfl qN⟩, va_recv hKc hPc (ci := 19) (q0 := 0) rfl rfl, fun U hU hW => ⟨rfl, by rw [hU], by rw [hU]; exact hPc, va_K.moved hW.alike hKc, hDc.weaken (fun _ _ _ _ => trivial), nv_call hS hFc hU hW hN⟩⟩ rfl rfl hl.1 rfl (lv_room (Nat.le_of_ble_eq_true rfl)) dX18_stores_48 ⟨by decide +kernel, by decide +kernel⟩) hS (fun q _ h => hFc q h) hFc (fun u t H locs ht hvm hw hB hz1 hk1 hS => ?_)
  obtain ⟨hP1, -, hD1⟩ := hB
  rw [ht] at hP1
  have hP := hP1
  have hD := hD1.weaken (fun k q _ h => hFc q.1 h)
  refine W.widen (k := 0) (n := 0) (Nat.le_refl _) (Nat.le_refl _) ?_
  refine lv_aload_n hx hb dX18_stores_51 rfl (lv_at hl 0 rfl) ?_
  refine lv_aload_n hx hb dX18_stores_52 rfl (lv_at hl 0 rfl) ?_
  refine va_get (D := (dC, dI)) (ci := 19) (v := .int (sI s8 3)) (C := RX18) (T := TX18) (N := 10) hx hb hts hi_dm_X18_stores_X18 hown hK hP 0 rfl rfl 4 (by decide) (hts (.fieldLink RX18 20 "TimeMachineModel$Reader" "bits" "I") (List.mem_of_getElem? (i := 11) rfl)) (fun _ h9 => h9) rfl dX18_stores_53 ?_
  refine lv_bipush (v := 25) hx hb dX18_stores_56 (by decide) ?_
  refine lv_ishr hx hb dX18_stores_58 ?_
  refine lv_iconst (v := 5) hx hb dX18_stores_59 (by decide) ?_
  refine lv_ishl hx hb dX18_stores_60 ?_
  refine lv_aload_n hx hb dX18_stores_61 rfl (lv_at hl 0 rfl) ?_
  refine va_get (D := (dC, dI)) (ci := 19) (v := .int (sI s8 4)) (C := RX18) (T := TX18) (N := 10) hx hb hts hi_dm_X18_stores_X18 hown hK hP 0 rfl rfl 5 (by decide) (hts (.fieldLink RX18 68 "TimeMachineModel$Reader" "d" "I") (List.mem_of_getElem? (i := 12) rfl)) (fun _ h9 => h9) rfl dX18_stores_62 ?_
  refine lv_ior hx hb dX18_stores_65 ?_
  refine lv_aload_n hx hb dX18_stores_66 rfl (lv_at hl 0 rfl) ?_
  refine va_get (D := (dC, dI)) (ci := 19) (v := .int (sI s8 5)) (C := RX18) (T := TX18) (N := 10) hx hb hts hi_dm_X18_stores_X18 hown hK hP 0 rfl rfl 6 (by decide) (hts (.fieldLink RX18 74 "TimeMachineModel$Reader" "a" "I") (List.mem_of_getElem? (i := 13) rfl)) (fun _ h9 => h9) rfl dX18_stores_67 ?_
  obtain ⟨s11, hq, h⟩ := nd_b1_e h
  have hPc := hP
  have hDc := hD
  have hKc := hK
  have hFc := nd_rs hD hS hA
  refine va_callv (va_runV (As := [.int ((((((sI s8 3) : Int32) >>> ((25 : Int32) &&& 31)) : Int32) <<< ((5 : Int32) &&& 31)) ||| (sI s8 4)), .int (sI s8 5)]) (rest := []) ⟨hx, hb, hml, hown, hts⟩ (dm_X18_memory l hlt dC dI a ac n (((((((sI s8 3) : Int32) >>> ((25 : Int32) &&& 31)) : Int32) <<< ((5 : Int32) &&& 31)) ||| (sI s8 4))) ((sI s8 5)) s8 hq _) (cwV 2 hts gi_dm_X18_stores_2 rfl rfl rfl (by decide +kernel) ⟨Nat.le_of_ble_eq_true rfl, Nat.le_of_ble_eq_true rfl⟩) ⟨fun a U g mk q => by obtain ⟨q0, q1, qP, qK, qD, qN⟩ := q; exact ⟨q0, q1, qP, va_K.moved (u := U) (U := U.calling g mk a) (Vm.Alike.refl U.vm) qK, qD, nv_same rfl rfl qN⟩, va_recv hKc hPc (ci := 19) (q0 := 0) rfl rfl, fun U hU hW => ⟨rfl, by rw [hU], by rw [hU]; exact hPc, va_K.moved hW.alike hKc, hDc.weaken (fun _ _ _ _ => trivial), nv_call hS hFc hU hW hN⟩⟩ rfl rfl hl.1 rfl (lv_room (Nat.le_of_ble_eq_true rfl)) dX18_stores_70 ⟨by decide +kernel, by decide +kernel⟩) hS (fun q _ h => hFc q h) hFc (fun u t H locs ht hvm hw hB hz1 hk1 hS => ?_)
  obtain ⟨hP1, -, hD1⟩ := hB
  rw [ht] at hP1
  have hP := hP1
  have hD := hD1.weaken (fun k q _ h => hFc q.1 h)
  refine W.widen (k := 0) (n := 0) (Nat.le_refl _) (Nat.le_refl _) ?_
  exact K _ _ _ _ _ dX18_stores_73 (Option.some.inj h).symm hP hD hS
set_option maxHeartbeats 40000000 in
set_option maxRecDepth 100000 in
theorem db_X18_stores_0 {p : Program} {l : Launch} {e : Env} {s : State} {m : MethodId} {args : Array Value} {below : List Frame} {meth : Method} {c : Code} {Q : State → Prop} {A : Nat → Prop} {dC : Nat → ClassId} {dI : Nat → Nat → Nat} {a : Nat → Nat} {ac : Nat → ClassId} {n : Nat} {r : St} (C : nd_C p l s m args c A (dC, dI) cX18_stores 1 RX18 ow_dm_X18_stores (dk_X18 ac)) (K : nd_Kv p l e (headSpec ow_dm_X18_stores ({ frames := 5, cells := 0, slots := 0, locals := 111 })).room s m args below meth c Q A (dC, dI) cX18_stores (St) (dw_X18 a ac) r) : dj_X18_stores_0 p l e s m args below meth c Q A dC dI a ac (df_X18_stores_0 n) r := by
  obtain ⟨hlt, hx, hb, hml, hown, hts, hN, hA, hK⟩ := id C
  intro s0 H locs ls h hP hD hS hl
  unfold df_X18_stores_0 at h
  refine lv_aload_n hx hb dX18_stores_0 rfl (lv_at hl 0 rfl) ?_
  refine va_get (D := (dC, dI)) (ci := 19) (v := .int (sI s0 7)) (C := RX18) (T := TX18) (N := 10) hx hb hts hi_dm_X18_stores_X18 hown hK hP 0 rfl rfl 8 (by decide) (hts (.fieldLink RX18 80 "TimeMachineModel$Reader" "f" "I") (List.mem_of_getElem? (i := 1) rfl)) (fun _ h9 => h9) rfl dX18_stores_1 ?_
  refine lv_iconst (v := 2) hx hb dX18_stores_4 (by decide) ?_
  refine lv_icmp_le (tgt := 9) hx hb dX18_stores_5 (by decide) (fun c1 => ?_) (fun c1 => ?_)
  · have h := nd_pos h c1
    refine lv_aload_n hx hb dX18_stores_9 rfl (lv_at hl 0 rfl) ?_
    refine lv_aload_n hx hb dX18_stores_10 rfl (lv_at hl 0 rfl) ?_
    refine va_get (D := (dC, dI)) (ci := 19) (v := .int (sI s0 7)) (C := RX18) (T := TX18) (N := 10) hx hb hts hi_dm_X18_stores_X18 hown hK hP 0 rfl rfl 8 (by decide) (hts (.fieldLink RX18 80 "TimeMachineModel$Reader" "f" "I") (List.mem_of_getElem? (i := 1) rfl)) (fun _ h9 => h9) rfl dX18_stores_11 ?_
    refine lv_if_ne (tgt := 23) hx hb dX18_stores_14 (by decide) (fun c2 => ?_) (fun c2 => ?_)
    · have h := nd_neg h c2
      refine lv_aload_n hx hb dX18_stores_23 rfl (lv_at hl 0 rfl) ?_
      refine va_get (D := (dC, dI)) (ci := 19) (v := .int (sI s0 7)) (C := RX18) (T := TX18) (N := 10) hx hb hts hi_dm_X18_stores_X18 hown hK hP 0 rfl rfl 8 (by decide) (hts (.fieldLink RX18 80 "TimeMachineModel$Reader" "f" "I") (List.mem_of_getElem? (i := 1) rfl)) (fun _ h9 => h9) rfl dX18_stores_24 ?_
      refine lv_iconst (v := 1) hx hb dX18_stores_27 (by decide) ?_
      refine lv_icmp_ne (tgt := 37) hx hb dX18_stores_28 (by decide) (fun c3 => ?_) (fun c3 => ?_)
      · have h := nd_neg h c3
        refine lv_ldc2 hx hb hown (hts (.constantLong RX18 158 (30579)) (List.mem_of_getElem? (i := 2) rfl)) dX18_stores_37 ?_
        exact (db_X18_stores_40 C K) (30579) s0 _ _ _ h hP hD hS (lv_sub hl [0] rfl)
      · have h := nd_pos h c3
        refine lv_ldc2 hx hb hown (hts (.constantLong RX18 156 (26739)) (List.mem_of_getElem? (i := 17) rfl)) dX18_stores_31 ?_
        refine lv_goto (tgt := 40) hx hb dX18_stores_34 (by decide) ?_
        exact (db_X18_stores_40 C K) (26739) s0 _ _ _ h hP hD hS (lv_sub hl [0] rfl)
    · have h := nd_pos h c2
      refine lv_ldc2 hx hb hown (hts (.constantLong RX18 154 (25203)) (List.mem_of_getElem? (i := 18) rfl)) dX18_stores_17 ?_
      refine lv_goto (tgt := 40) hx hb dX18_stores_20 (by decide) ?_
      exact (db_X18_stores_40 C K) (25203) s0 _ _ _ h hP hD hS (lv_sub hl [0] rfl)
  · have h := nd_neg h c1
    exact K _ _ _ _ _ dX18_stores_8 (Option.some.inj h).symm hP hD hS
set_option maxHeartbeats 40000000 in
set_option maxRecDepth 100000 in
theorem dm_X18_stores (l : Launch) (hlt : l.stackTraces = false) (dC : Nat → ClassId) (dI : Nat → Nat → Nat) (a : Nat → Nat) (ac : Nat → ClassId) (n : Nat) (s0 : St) {r : St} (h : df_X18_stores n s0 = some r) (sz : Nat) : Met l yX18_stores ow_dm_X18_stores ({ frames := 5, cells := 0, slots := 0, locals := 111 }) (va_Pc [.ref (a 0)] (fun U => U.heap.size = sz ∧ va_P (dC, dI) vwCl (dw_X18 a ac s0) U.heap ∧ va_K (dC, dI) vwCl (dk_X18 ac) U ∧ va_D (fun _ => True) (dw_X18 a ac s0) ∧ nv_E (va_A (dw_X18 a ac s0) sz) U)) (va_Qv (fun _ => True) (fun (_ : Unit) t => va_P (dC, dI) vwCl (dw_X18 a ac r) t.heap ∧ va_K (dC, dI) vwCl (dk_X18 ac) t ∧ va_D (va_A (dw_X18 a ac s0) sz) (dw_X18 a ac r)) (va_A (dw_X18 a ac s0) sz)) 0 0 (va_A (dw_X18 a ac s0) sz) := by
  refine Met.ofW (cc := cX18_stores) (maxL := 1) (ret := none) (by decide) rfl ?_
  intro p e s m args below meth c s₁ B hml hv
  obtain ⟨rfl, hsz, hP, hK, hD0, hN⟩ := hv
  have hx := B.exec
  have hb := B.bytes
  have hr := B.returns
  have hts := atoms_spec (ws := ow_dm_X18_stores) B.pre
  have hown : s.vm.findClass RX18 = some m.cls := findClass_of_methodNamed B.named
  have hlocks := B.notSynchronized
  subst hsz
  have hD := hD0.self (sz := s.heap.size)
  generalize hAe : va_A (dw_X18 a ac s0) s.heap.size = A at hD hN ⊢
  have hA : ∀ q : Nat, s.heap.size ≤ q → A q := fun q h => by rw [← hAe]; exact Or.inr h
  have hl := lv_entry ([.ref (a 0)]) (n := 1) (Nat.le_of_ble_eq_true rfl)
  rw [lg_entry_eq]
  generalize (lg_sl ([.ref (a 0)]) ++ List.replicate (1 - (lg_sl ([.ref (a 0)])).length) Slot.unset).toArray = ls at hl ⊢
  have hl : lv_has ls 1 [(0, .ref (a 0))] := hl
  exact db_X18_stores_0 (dC := dC) (dI := dI) (a := a) (ac := ac) (n := n) (r := r) ⟨hlt, hx, hb, hml, hown, hts, hN, hA, hK⟩ (fun pc τ H locs ls d er hP hD hS => by subst er; exact W.vret hx hb hr (fun t ht hW => ⟨⟨(), rfl, trivial, by rw [ht]; exact hP, va_K.moved hW.alike hK, hD⟩, hS.F ht⟩) hS.2.2 d) s0 _ _ _ h hP hD va_S.rf (lv_sub hl [0] rfl)
def ow_dm_X18_branches : List Cond := .code yX18_branches cX18_branches 1 none :: ([.fieldLink RX18 80 "TimeMachineModel$Reader" "f" "I", .constantLong RX18 170 (1969579874), .methodLink RX18 65 yX18_name, .instanceMethod yX18_name, .selects RX18 yX18_name yX18_name, .initialized RX18, .fieldLink RX18 74 "TimeMachineModel$Reader" "a" "I", .methodLink RX18 71 yX18_register, .instanceMethod yX18_register, .selects RX18 yX18_register yX18_register, .fieldLink RX18 77 "TimeMachineModel$Reader" "b" "I", .fieldLink RX18 20 "TimeMachineModel$Reader" "bits" "I", .methodLink RX18 172 yX18_part, .instanceMethod yX18_part, .selects RX18 yX18_part yX18_part, .methodLink RX18 176 yX18_target, .instanceMethod yX18_target, .selects RX18 yX18_target yX18_target, .constantLong RX18 168 (1970564194), .constantLong RX18 166 (6645602), .constantLong RX18 164 (7629922), .constantLong RX18 162 (6647394), .constantLong RX18 160 (7431522)] ++ (u_ws RX18 TX18 10 ++ (ow_dm_X18_name ++ (ow_dm_X18_register ++ (ow_dm_X18_part ++ (ow_dm_X18_target ++ []))))))
theorem gd_dm_X18_branches : ∀ w ∈ ow_dm_X18_branches, (w.onTables && w.keeps) = true ∨ ∃ ty, w = Cond.arrayClass ty := List.forall_mem_cons.mpr ⟨good_of_word rfl, List.forall_mem_append.mpr ⟨fun w h => good_of_word (List.all_eq_true.mp (by decide +kernel) w h), List.forall_mem_append.mpr ⟨gu_X18, List.forall_mem_append.mpr ⟨gd_dm_X18_name, List.forall_mem_append.mpr ⟨gd_dm_X18_register, List.forall_mem_append.mpr ⟨gd_dm_X18_part, List.forall_mem_append.mpr ⟨gd_dm_X18_target, fun _ h => nomatch h⟩⟩⟩⟩⟩⟩⟩
theorem hi_dm_X18_branches_X18 : ∀ w ∈ u_ws RX18 TX18 10, w ∈ ow_dm_X18_branches := fun w h => List.mem_cons_of_mem _ (List.mem_append_right _ (List.mem_append_left _ h))
theorem gi_dm_X18_branches_0 : GoodIn ow_dm_X18_branches (wsV RX18 65 RX18 yX18_name ow_dm_X18_name) := goodIn_app (goodIn_of _ (by decide +kernel)) (fun w h => ⟨List.mem_cons_of_mem _ (List.mem_append_right _ (List.mem_append_right _ (List.mem_append_left _ h))), gd_dm_X18_name w h⟩)
theorem gi_dm_X18_branches_1 : GoodIn ow_dm_X18_branches (wsV RX18 71 RX18 yX18_register ow_dm_X18_register) := goodIn_app (goodIn_of _ (by decide +kernel)) (fun w h => ⟨List.mem_cons_of_mem _ (List.mem_append_right _ (List.mem_append_right _ (List.mem_append_right _ (List.mem_append_left _ h)))), gd_dm_X18_register w h⟩)
theorem gi_dm_X18_branches_2 : GoodIn ow_dm_X18_branches (wsV RX18 172 RX18 yX18_part ow_dm_X18_part) := goodIn_app (goodIn_of _ (by decide +kernel)) (fun w h => ⟨List.mem_cons_of_mem _ (List.mem_append_right _ (List.mem_append_right _ (List.mem_append_right _ (List.mem_append_right _ (List.mem_append_left _ h))))), gd_dm_X18_part w h⟩)
theorem gi_dm_X18_branches_3 : GoodIn ow_dm_X18_branches (wsV RX18 176 RX18 yX18_target ow_dm_X18_target) := goodIn_app (goodIn_of _ (by decide +kernel)) (fun w h => ⟨List.mem_cons_of_mem _ (List.mem_append_right _ (List.mem_append_right _ (List.mem_append_right _ (List.mem_append_right _ (List.mem_append_right _ (List.mem_append_left _ h)))))), gd_dm_X18_target w h⟩)
def dj_X18_branches_16 (p : Program) (l : Launch) (e : Env) (s : State) (m : MethodId) (args : Array Value) (below : List Frame) (meth : Method) (c : Code) (Q : State → Prop) (A : Nat → Prop) (dC : Nat → ClassId) (dI : Nat → Nat → Nat) (a : Nat → Nat) (ac : Nat → ClassId) (g : (St) → Option (St)) (r : St) : Prop := ∀ (s0 : St) (H : Heap) (locs : List Loc) (ls : Array Slot), g s0 = some r → va_P (dC, dI) vwCl (dw_X18 a ac s0) H → va_D A (dw_X18 a ac s0) → va_S A s.heap H locs → lv_has ls 1 [] → W p l e (headSpec ow_dm_X18_branches ({ frames := 4, cells := 0, slots := 0, locals := 89 })).room s m args below meth c H locs 0 0 Q (F0 m 16 ls [])
def dj_X18_branches_91 (p : Program) (l : Launch) (e : Env) (s : State) (m : MethodId) (args : Array Value) (below : List Frame) (meth : Method) (c : Code) (Q : State → Prop) (A : Nat → Prop) (dC : Nat → ClassId) (dI : Nat → Nat → Nat) (a : Nat → Nat) (ac : Nat → ClassId) (g : Int64 → (St) → Option (St)) (r : St) : Prop := ∀ (y1 : Int64) (s0 : St) (H : Heap) (locs : List Loc) (ls : Array Slot), g y1 s0 = some r → va_P (dC, dI) vwCl (dw_X18 a ac s0) H → va_D A (dw_X18 a ac s0) → va_S A s.heap H locs → lv_has ls 1 [(0, .ref (a 0))] → W p l e (headSpec ow_dm_X18_branches ({ frames := 4, cells := 0, slots := 0, locals := 89 })).room s m args below meth c H locs 0 0 Q (F0 m 91 ls [.long y1, .ref (a 0)])
def dj_X18_branches_0 (p : Program) (l : Launch) (e : Env) (s : State) (m : MethodId) (args : Array Value) (below : List Frame) (meth : Method) (c : Code) (Q : State → Prop) (A : Nat → Prop) (dC : Nat → ClassId) (dI : Nat → Nat → Nat) (a : Nat → Nat) (ac : Nat → ClassId) (g : (St) → Option (St)) (r : St) : Prop := ∀ (s0 : St) (H : Heap) (locs : List Loc) (ls : Array Slot), g s0 = some r → va_P (dC, dI) vwCl (dw_X18 a ac s0) H → va_D A (dw_X18 a ac s0) → va_S A s.heap H locs → lv_has ls 1 [(0, .ref (a 0))] → W p l e (headSpec ow_dm_X18_branches ({ frames := 4, cells := 0, slots := 0, locals := 89 })).room s m args below meth c H locs 0 0 Q (F0 m 0 ls [])
set_option maxHeartbeats 40000000 in
set_option maxRecDepth 100000 in
theorem db_X18_branches_16 {p : Program} {l : Launch} {e : Env} {s : State} {m : MethodId} {args : Array Value} {below : List Frame} {meth : Method} {c : Code} {Q : State → Prop} {A : Nat → Prop} {dC : Nat → ClassId} {dI : Nat → Nat → Nat} {a : Nat → Nat} {ac : Nat → ClassId} {n : Nat} {r : St} (C : nd_C p l s m args c A (dC, dI) cX18_branches 1 RX18 ow_dm_X18_branches (dk_X18 ac)) (K : nd_Kv p l e (headSpec ow_dm_X18_branches ({ frames := 4, cells := 0, slots := 0, locals := 89 })).room s m args below meth c Q A (dC, dI) cX18_branches (St) (dw_X18 a ac) r) : dj_X18_branches_16 p l e s m args below meth c Q A dC dI a ac (df_X18_branches_16 n) r := by
  obtain ⟨hlt, hx, hb, hml, hown, hts, hN, hA, hK⟩ := id C
  intro s0 H locs ls h hP hD hS hl
  unfold df_X18_branches_16 at h
  exact K _ _ _ _ _ dX18_branches_16 (Option.some.inj h).symm hP hD hS
