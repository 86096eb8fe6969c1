def ow_dm_X1_isRegister : List Cond := .code yX1_isRegister cX1_isRegister 1 (some .boolean) :: ([.fieldLink RX1 12 "TimeMachine$Assembler" "reader" "LTimeMachine$Reader;", .fieldLink RX1 85 "TimeMachine$Reader" "kind" "I", .fieldLink RX1 120 "TimeMachine$Reader" "source" "[B", .fieldLink RX1 88 "TimeMachine$Reader" "from" "I", .fieldLink RX1 91 "TimeMachine$Reader" "at" "I", .methodLink RX1 123 yX7_registerAt, .static yX7_registerAt, .initialized RX7] ++ (u_ws RX1 TX1 13 ++ (u_ws RX9 TX9 20 ++ (ow_dm_X7_registerAt ++ []))))
theorem gd_dm_X1_isRegister : ∀ w ∈ ow_dm_X1_isRegister, (w.onTables && w.keeps) = true ∨ ∃ ty, w = Cond.arrayClass ty := List.forall_mem_cons.mpr ⟨good_of_word rfl, List.forall_mem_append.mpr ⟨fun w h => good_of_word (List.all_eq_true.mp (by decide +kernel) w h), List.forall_mem_append.mpr ⟨gu_X1, List.forall_mem_append.mpr ⟨gu_X9, List.forall_mem_append.mpr ⟨gd_dm_X7_registerAt, fun _ h => nomatch h⟩⟩⟩⟩⟩
theorem hi_dm_X1_isRegister_X1 : ∀ w ∈ u_ws RX1 TX1 13, w ∈ ow_dm_X1_isRegister := fun w h => List.mem_cons_of_mem _ (List.mem_append_right _ (List.mem_append_left _ h))
theorem hi_dm_X1_isRegister_X9 : ∀ w ∈ u_ws RX9 TX9 20, w ∈ ow_dm_X1_isRegister := fun w h => List.mem_cons_of_mem _ (List.mem_append_right _ (List.mem_append_right _ (List.mem_append_left _ h)))
theorem gi_dm_X1_isRegister_0 : GoodIn ow_dm_X1_isRegister (va_wsS RX1 123 yX7_registerAt ow_dm_X7_registerAt) := goodIn_app (goodIn_of _ (by decide +kernel)) (fun w h => ⟨List.mem_cons_of_mem _ (List.mem_append_right _ (List.mem_append_right _ (List.mem_append_right _ (List.mem_append_left _ h)))), gd_dm_X7_registerAt w h⟩)
def dj_X1_isRegister_51 (p : Program) (l : Launch) (e : Env) (s : State) (m : MethodId) (args : Array Value) (below : List Frame) (meth : Method) (c : Code) (Q : State → Prop) (A : Nat → Prop) (dC : Nat → ClassId) (dI : Nat → Nat → Nat) (a : Nat → Nat) (ac : Nat → ClassId) (g : Int32 → (St × (St)) → Option (Int32 × (St × (St)))) (r : Int32 × (St × (St))) : Prop := ∀ (y0 : Int32) (s0 : St × (St)) (H : Heap) (locs : List Loc) (ls : Array Slot), g y0 s0 = some r → va_P (dC, dI) vwCl (dw_X1 a ac s0) H → va_D A (dw_X1 a ac s0) → va_S A s.heap H locs → lv_has ls 1 [] → W p l e (headSpec ow_dm_X1_isRegister ({ frames := 6, cells := 0, slots := 0, locals := 133 })).room s m args below meth c H locs 0 0 Q (F0 m 51 ls [.int y0])
def dj_X1_isRegister_50 (p : Program) (l : Launch) (e : Env) (s : State) (m : MethodId) (args : Array Value) (below : List Frame) (meth : Method) (c : Code) (Q : State → Prop) (A : Nat → Prop) (dC : Nat → ClassId) (dI : Nat → Nat → Nat) (a : Nat → Nat) (ac : Nat → ClassId) (g : (St × (St)) → Option (Int32 × (St × (St)))) (r : Int32 × (St × (St))) : Prop := ∀ (s0 : St × (St)) (H : Heap) (locs : List Loc) (ls : Array Slot), g s0 = some r → va_P (dC, dI) vwCl (dw_X1 a ac s0) H → va_D A (dw_X1 a ac s0) → va_S A s.heap H locs → lv_has ls 1 [] → W p l e (headSpec ow_dm_X1_isRegister ({ frames := 6, cells := 0, slots := 0, locals := 133 })).room s m args below meth c H locs 0 0 Q (F0 m 50 ls [])
def dj_X1_isRegister_0 (p : Program) (l : Launch) (e : Env) (s : State) (m : MethodId) (args : Array Value) (below : List Frame) (meth : Method) (c : Code) (Q : State → Prop) (A : Nat → Prop) (dC : Nat → ClassId) (dI : Nat → Nat → Nat) (a : Nat → Nat) (ac : Nat → ClassId) (g : (St × (St)) → Option (Int32 × (St × (St)))) (r : Int32 × (St × (St))) : Prop := ∀ (s0 : St × (St)) (H : Heap) (locs : List Loc) (ls : Array Slot), g s0 = some r → va_P (dC, dI) vwCl (dw_X1 a ac s0) H → va_D A (dw_X1 a ac s0) → va_S A s.heap H locs → lv_has ls 1 [(0, .ref (a 0))] → W p l e (headSpec ow_dm_X1_isRegister ({ frames := 6, cells := 0, slots := 0, locals := 133 })).room s m args below meth c H locs 0 0 Q (F0 m 0 ls [])
set_option maxHeartbeats 40000000 in
set_option maxRecDepth 100000 in
theorem db_X1_isRegister_51 {p : Program} {l : Launch} {e : Env} {s : State} {m : MethodId} {args : Array Value} {below : List Frame} {meth : Method} {c : Code} {Q : State → Prop} {A : Nat → Prop} {dC : Nat → ClassId} {dI : Nat → Nat → Nat} {a : Nat → Nat} {ac : Nat → ClassId} {n : Nat} {r : Int32 × (St × (St))} (C : nd_C p l s m args c A (dC, dI) cX1_isRegister 1 RX1 ow_dm_X1_isRegister (dk_X1 ac)) (K : nd_Ki p l e (headSpec ow_dm_X1_isRegister ({ frames := 6, cells := 0, slots := 0, locals := 133 })).room s m args below meth c Q A (dC, dI) cX1_isRegister .boolean (St × (St)) (dw_X1 a ac) r) : dj_X1_isRegister_51 p l e s m args below meth c Q A dC dI a ac (df_X1_isRegister_51 n) r := by
  obtain ⟨hlt, hx, hb, hml, hown, hts, hN, hA, hK⟩ := id C
  intro y0 s0 H locs ls h hP hD hS hl
  unfold df_X1_isRegister_51 at h
  obtain ⟨n2, h⟩ := nd_z_e ⟨_, rfl⟩ h
  exact K _ _ _ _ _ _ dX1_isRegister_51 n2 (Option.some.inj h).symm hP hD hS
set_option maxHeartbeats 40000000 in
set_option maxRecDepth 100000 in
theorem db_X1_isRegister_50 {p : Program} {l : Launch} {e : Env} {s : State} {m : MethodId} {args : Array Value} {below : List Frame} {meth : Method} {c : Code} {Q : State → Prop} {A : Nat → Prop} {dC : Nat → ClassId} {dI : Nat → Nat → Nat} {a : Nat → Nat} {ac : Nat → ClassId} {n : Nat} {r : Int32 × (St × (St))} (C : nd_C p l s m args c A (dC, dI) cX1_isRegister 1 RX1 ow_dm_X1_isRegister (dk_X1 ac)) (K : nd_Ki p l e (headSpec ow_dm_X1_isRegister ({ frames := 6, cells := 0, slots := 0, locals := 133 })).room s m args below meth c Q A (dC, dI) cX1_isRegister .boolean (St × (St)) (dw_X1 a ac) r) : dj_X1_isRegister_50 p l e s m args below meth c Q A dC dI a ac (df_X1_isRegister_50 n) r := by
  obtain ⟨hlt, hx, hb, hml, hown, hts, hN, hA, hK⟩ := id C
  intro s0 H locs ls h hP hD hS hl
  unfold df_X1_isRegister_50 at h
  refine lv_iconst (v := 0) hx hb dX1_isRegister_50 (by decide) ?_
  exact (db_X1_isRegister_51 C K) (0) s0 _ _ _ h hP hD hS (lv_sub hl [] rfl)
set_option maxHeartbeats 40000000 in
set_option maxRecDepth 100000 in
theorem db_X1_isRegister_0 {p : Program} {l : Launch} {e : Env} {s : State} {m : MethodId} {args : Array Value} {below : List Frame} {meth : Method} {c : Code} {Q : State → Prop} {A : Nat → Prop} {dC : Nat → ClassId} {dI : Nat → Nat → Nat} {a : Nat → Nat} {ac : Nat → ClassId} {n : Nat} {r : Int32 × (St × (St))} (C : nd_C p l s m args c A (dC, dI) cX1_isRegister 1 RX1 ow_dm_X1_isRegister (dk_X1 ac)) (K : nd_Ki p l e (headSpec ow_dm_X1_isRegister ({ frames := 6, cells := 0, slots := 0, locals := 133 })).room s m args below meth c Q A (dC, dI) cX1_isRegister .boolean (St × (St)) (dw_X1 a ac) r) : dj_X1_isRegister_0 p l e s m args below meth c Q A dC dI a ac (df_X1_isRegister_0 n) r := by
  obtain ⟨hlt, hx, hb, hml, hown, hts, hN, hA, hK⟩ := id C
  intro s0 H locs ls h hP hD hS hl
  unfold df_X1_isRegister_0 at h
  refine lv_aload_n hx hb dX1_isRegister_0 rfl (lv_at hl 0 rfl) ?_
  refine va_get (D := (dC, dI)) (ci := 2) (v := .ref (a 3)) (C := RX1) (T := TX1) (N := 13) hx hb hts hi_dm_X1_isRegister_X1 hown hK hP 0 rfl rfl 0 (by decide) (hts (.fieldLink RX1 12 "TimeMachine$Assembler" "reader" "LTimeMachine$Reader;") (List.mem_of_getElem? (i := 1) rfl)) (fun _ h9 => h9) rfl dX1_isRegister_1 ?_
  refine va_get (D := (dC, dI)) (ci := 10) (v := .int (sI s0.2 2)) (C := RX9) (T := TX9) (N := 20) hx hb hts hi_dm_X1_isRegister_X9 hown hK hP 3 rfl rfl 3 (by decide) (hts (.fieldLink RX1 85 "TimeMachine$Reader" "kind" "I") (List.mem_of_getElem? (i := 2) rfl)) (fun _ h9 => h9) rfl dX1_isRegister_4 ?_
  refine lv_iconst (v := 1) hx hb dX1_isRegister_7 (by decide) ?_
  refine lv_icmp_ne (tgt := 50) hx hb dX1_isRegister_8 (by decide) (fun c1 => ?_) (fun c1 => ?_)
  · have h := nd_neg h c1
    exact (db_X1_isRegister_50 C K)  s0 _ _ _ h hP hD hS (lv_sub hl [] rfl)
  · have h := nd_pos h c1
    refine lv_aload_n hx hb dX1_isRegister_11 rfl (lv_at hl 0 rfl) ?_
    refine va_get (D := (dC, dI)) (ci := 2) (v := .ref (a 3)) (C := RX1) (T := TX1) (N := 13) hx hb hts hi_dm_X1_isRegister_X1 hown hK hP 0 rfl rfl 0 (by decide) (hts (.fieldLink RX1 12 "TimeMachine$Assembler" "reader" "LTimeMachine$Reader;") (List.mem_of_getElem? (i := 1) rfl)) (fun _ h9 => h9) rfl dX1_isRegister_12 ?_
    obtain ⟨o3, h⟩ := nd_o_e h
    refine va_get (D := (dC, dI)) (ci := 10) (v := .ref (a 11)) (C := RX9) (T := TX9) (N := 20) hx hb hts hi_dm_X1_isRegister_X9 hown hK hP 3 rfl rfl 0 (by decide) (hts (.fieldLink RX1 120 "TimeMachine$Reader" "source" "[B") (List.mem_of_getElem? (i := 3) rfl)) (fun _ h9 => h9) (congrArg (fun z => some (va_rf (Option.map (fun k => a (k + 3)) z))) o3) dX1_isRegister_15 ?_
    refine lv_aload_n hx hb dX1_isRegister_18 rfl (lv_at hl 0 rfl) ?_
    refine va_get (D := (dC, dI)) (ci := 2) (v := .ref (a 3)) (C := RX1) (T := TX1) (N := 13) hx hb hts hi_dm_X1_isRegister_X1 hown hK hP 0 rfl rfl 0 (by decide) (hts (.fieldLink RX1 12 "TimeMachine$Assembler" "reader" "LTimeMachine$Reader;") (List.mem_of_getElem? (i := 1) rfl)) (fun _ h9 => h9) rfl dX1_isRegister_19 ?_
    refine va_get (D := (dC, dI)) (ci := 10) (v := .int (sI s0.2 3)) (C := RX9) (T := TX9) (N := 20) hx hb hts hi_dm_X1_isRegister_X9 hown hK hP 3 rfl rfl 4 (by decide) (hts (.fieldLink RX1 88 "TimeMachine$Reader" "from" "I") (List.mem_of_getElem? (i := 4) rfl)) (fun _ h9 => h9) rfl dX1_isRegister_22 ?_
    refine lv_aload_n hx hb dX1_isRegister_25 rfl (lv_at hl 0 rfl) ?_
    refine va_get (D := (dC, dI)) (ci := 2) (v := .ref (a 3)) (C := RX1) (T := TX1) (N := 13) hx hb hts hi_dm_X1_isRegister_X1 hown hK hP 0 rfl rfl 0 (by decide) (hts (.fieldLink RX1 12 "TimeMachine$Assembler" "reader" "LTimeMachine$Reader;") (List.mem_of_getElem? (i := 1) rfl)) (fun _ h9 => h9) rfl dX1_isRegister_26 ?_
    refine va_get (D := (dC, dI)) (ci := 10) (v := .int (sI s0.2 0)) (C := RX9) (T := TX9) (N := 20) hx hb hts hi_dm_X1_isRegister_X9 hown hK hP 3 rfl rfl 1 (by decide) (hts (.fieldLink RX1 91 "TimeMachine$Reader" "at" "I") (List.mem_of_getElem? (i := 5) rfl)) (fun _ h9 => h9) rfl dX1_isRegister_29 ?_
    refine lv_aload_n hx hb dX1_isRegister_32 rfl (lv_at hl 0 rfl) ?_
    refine va_get (D := (dC, dI)) (ci := 2) (v := .ref (a 3)) (C := RX1) (T := TX1) (N := 13) hx hb hts hi_dm_X1_isRegister_X1 hown hK hP 0 rfl rfl 0 (by decide) (hts (.fieldLink RX1 12 "TimeMachine$Assembler" "reader" "LTimeMachine$Reader;") (List.mem_of_getElem? (i := 1) rfl)) (fun _ h9 => h9) rfl dX1_isRegister_33 ?_
    refine va_get (D := (dC, dI)) (ci := 10) (v := .int (sI s0.2 3)) (C := RX9) (T := TX9) (N := 20) hx hb hts hi_dm_X1_isRegister_X9 hown hK hP 3 rfl rfl 4 (by decide) (hts (.fieldLink RX1 88 "TimeMachine$Reader" "from" "I") (List.mem_of_getElem? (i := 4) rfl)) (fun _ h9 => h9) rfl dX1_isRegister_36 ?_
    refine lv_isub hx hb dX1_isRegister_39 ?_
    obtain ⟨q4, s5, hq, h⟩ := nd_b2_e h
    have hPc := dp_vX1_BY_0 hP
    have hDc := dd_vX1_BY_0 hD
    have hKc := dy_vX1_BY_0 hK
    have hFc := nd_rs hDc hS hA
    have hzA : ∀ q : Nat, H.size ≤ q → A q := fun q h => hA q (Nat.le_trans hS.1 h)
    refine nd_cSi (As := [.ref (a 11), .int (sI s0.2 3), .int ((sI s0.2 0) - (sI s0.2 3))]) (rest := []) (q := q4) (w' := dw_BY (fun k => a (nd_ix [11] k)) (fun k => ac (nd_ix [11] k)) s5) ⟨hx, hb, hml, hown, hts⟩ (fun sz => dm_X7_registerAt l hlt dC dI (fun k => a (nd_ix [11] k)) (fun k => ac (nd_ix [11] k)) n ((sI s0.2 3)) (((sI s0.2 0) - (sI s0.2 3))) ((pR nd_st0 0 (sR s0.2 7))) hq sz) (va_cwS 3 hts gi_dm_X1_isRegister_0 rfl rfl rfl (by decide +kernel) ⟨Nat.le_of_ble_eq_true rfl, Nat.le_of_ble_eq_true rfl⟩) hPc hDc hKc hS hA hN rfl hl.1 rfl (Nat.le_of_ble_eq_true rfl) dX1_isRegister_40 (fun H locs hP1 hD1 hk1 hS => ?_)
    obtain ⟨hP, hD⟩ := dn_vX1_BY_0 hP hD hzA hk1 hP1 hD1
    obtain ⟨s7, es7, h⟩ := nd_let_e h
    have hP : va_P (dC, dI) vwCl (dw_X1 a ac s7) H := by rw [es7]; exact hP
    have hD : va_D A (dw_X1 a ac s7) := by rw [es7]; exact hD
    refine lv_if_lt (tgt := 50) hx hb dX1_isRegister_43 (by decide) (fun c8 => ?_) (fun c8 => ?_)
    · have h := nd_pos h c8
      exact (db_X1_isRegister_50 C K)  s7 _ _ _ h hP hD hS (lv_sub hl [] rfl)
    · have h := nd_neg h c8
      refine lv_iconst (v := 1) hx hb dX1_isRegister_46 (by decide) ?_
      refine lv_goto (tgt := 51) hx hb dX1_isRegister_47 (by decide) ?_
      exact (db_X1_isRegister_51 C K) (1) s7 _ _ _ h hP hD hS (lv_sub hl [] rfl)
set_option maxHeartbeats 40000000 in
set_option maxRecDepth 100000 in
theorem dm_X1_isRegister (l : Launch) (hlt : l.stackTraces = false) (dC : Nat → ClassId) (dI : Nat → Nat → Nat) (a : Nat → Nat) (ac : Nat → ClassId) (n : Nat) (s0 : St × (St)) {r : Int32 × (St × (St))} (h : df_X1_isRegister n s0 = some r) (sz : Nat) : Met l yX1_isRegister ow_dm_X1_isRegister ({ frames := 6, cells := 0, slots := 0, locals := 133 }) (va_Pc [.ref (a 0)] (fun U => U.heap.size = sz ∧ va_P (dC, dI) vwCl (dw_X1 a ac s0) U.heap ∧ va_K (dC, dI) vwCl (dk_X1 ac) U ∧ va_D (fun _ => True) (dw_X1 a ac s0) ∧ nv_E dI (va_A (dw_X1 a ac s0) sz) U)) (va_Qi (fun x _ => x = r.1) (fun (_ : Unit) t => va_P (dC, dI) vwCl (dw_X1 a ac r.2) t.heap ∧ va_K (dC, dI) vwCl (dk_X1 ac) t ∧ va_D (va_A (dw_X1 a ac s0) sz) (dw_X1 a ac r.2)) (va_A (dw_X1 a ac s0) sz)) 0 0 (va_A (dw_X1 a ac s0) sz) := by
  refine Met.ofW (cc := cX1_isRegister) (maxL := 1) (ret := (some .boolean)) (by decide) rfl ?_
  intro p e s m args below meth c s₁ B hml hv
  obtain ⟨rfl, hsz, hP, hK, hD0, hN⟩ := hv
  have hx := B.exec
  have hb := B.bytes
  have hr := B.returns
  have hts := atoms_spec (ws := ow_dm_X1_isRegister) B.pre
  have hown : s.vm.findClass RX1 = some m.cls := findClass_of_methodNamed B.named
  have hlocks := B.notSynchronized
  subst hsz
  have hD := hD0.self (sz := s.heap.size)
  generalize hAe : va_A (dw_X1 a ac s0) s.heap.size = A at hD hN ⊢
  have hA : ∀ q : Nat, s.heap.size ≤ q → A q := fun q h => by rw [← hAe]; exact Or.inr h
  have hl := lv_entry ([.ref (a 0)]) (n := 1) (Nat.le_of_ble_eq_true rfl)
  rw [lg_entry_eq]
  generalize (lg_sl ([.ref (a 0)]) ++ List.replicate (1 - (lg_sl ([.ref (a 0)])).length) Slot.unset).toArray = ls at hl ⊢
  have hl : lv_has ls 1 [(0, .ref (a 0))] := hl
  exact db_X1_isRegister_0 (dC := dC) (dI := dI) (a := a) (ac := ac) (n := n) (r := r) ⟨hlt, hx, hb, hml, hown, hts, hN, hA, hK⟩ (fun pc v τ H locs ls d z er hP hD hS => by subst er; exact W.zret (v := v) hx hb hr z (fun t ht hW => ⟨⟨v, (), rfl, rfl, by rw [ht]; exact hP, va_K.moved hW.alike hK, hD⟩, hS.F ht⟩) hS.2.2 d) s0 _ _ _ h hP hD va_S.rf (lv_sub hl [0] rfl)
def ow_dm_X1_readRegister : List Cond := .code yX1_readRegister cX1_readRegister 4 (some .int) :: ([.fieldLink RX1 32 "TimeMachine$Assembler" "fault" "I", .fieldLink RX1 12 "TimeMachine$Assembler" "reader" "LTimeMachine$Reader;", .fieldLink RX1 85 "TimeMachine$Reader" "kind" "I", .methodLink RX1 77 yX1_blame, .instanceMethod yX1_blame, .selects RX1 yX1_blame yX1_blame, .initialized RX1, .fieldLink RX1 91 "TimeMachine$Reader" "at" "I", .fieldLink RX1 88 "TimeMachine$Reader" "from" "I", .methodLink RX1 257 yX7_fits, .static yX7_fits, .initialized RX7, .methodLink RX1 97 yX9_next, .instanceMethod yX9_next, .selects RX9 yX9_next yX9_next, .initialized RX9, .methodLink RX1 261 yX7_placed, .static yX7_placed, .fieldLink RX1 120 "TimeMachine$Reader" "source" "[B", .methodLink RX1 123 yX7_registerAt, .static yX7_registerAt] ++ (u_ws RX1 TX1 13 ++ (u_ws RX9 TX9 20 ++ (ow_dm_X1_blame ++ (ow_dm_X7_fits ++ (ow_dm_X9_next ++ (ow_dm_X7_placed ++ (ow_dm_X7_registerAt ++ []))))))))
theorem gd_dm_X1_readRegister : ∀ w ∈ ow_dm_X1_readRegister, (w.onTables && w.keeps) = true ∨ ∃ ty, w = Cond.arrayClass ty := List.forall_mem_cons.mpr ⟨good_of_word rfl, List.forall_mem_append.mpr ⟨fun w h => good_of_word (List.all_eq_true.mp (by decide +kernel) w h), List.forall_mem_append.mpr ⟨gu_X1, List.forall_mem_append.mpr ⟨gu_X9, List.forall_mem_append.mpr ⟨gd_dm_X1_blame, List.forall_mem_append.mpr ⟨gd_dm_X7_fits, List.forall_mem_append.mpr ⟨gd_dm_X9_next, List.forall_mem_append.mpr ⟨gd_dm_X7_placed, List.forall_mem_append.mpr ⟨gd_dm_X7_registerAt, fun _ h => nomatch h⟩⟩⟩⟩⟩⟩⟩⟩⟩
theorem hi_dm_X1_readRegister_X1 : ∀ w ∈ u_ws RX1 TX1 13, w ∈ ow_dm_X1_readRegister := fun w h => List.mem_cons_of_mem _ (List.mem_append_right _ (List.mem_append_left _ h))
theorem hi_dm_X1_readRegister_X9 : ∀ w ∈ u_ws RX9 TX9 20, w ∈ ow_dm_X1_readRegister := fun w h => List.mem_cons_of_mem _ (List.mem_append_right _ (List.mem_append_right _ (List.mem_append_left _ h)))
theorem gi_dm_X1_readRegister_0 : GoodIn ow_dm_X1_readRegister (wsV RX1 77 RX1 yX1_blame ow_dm_X1_blame) := goodIn_app (goodIn_of _ (by decide +kernel)) (fun w h => ⟨List.mem_cons_of_mem _ (List.mem_append_right _ (List.mem_append_right _ (List.mem_append_right _ (List.mem_append_left _ h)))), gd_dm_X1_blame w h⟩)
theorem gi_dm_X1_readRegister_1 : GoodIn ow_dm_X1_readRegister (va_wsS RX1 257 yX7_fits ow_dm_X7_fits) := goodIn_app (goodIn_of _ (by decide +kernel)) (fun w h => ⟨List.mem_cons_of_mem _ (List.mem_append_right _ (List.mem_append_right _ (List.mem_append_right _ (List.mem_append_right _ (List.mem_append_left _ h))))), gd_dm_X7_fits w h⟩)
theorem gi_dm_X1_readRegister_2 : GoodIn ow_dm_X1_readRegister (wsV RX1 97 RX9 yX9_next ow_dm_X9_next) := goodIn_app (goodIn_of _ (by decide +kernel)) (fun w h => ⟨List.mem_cons_of_mem _ (List.mem_append_right _ (List.mem_append_right _ (List.mem_append_right _ (List.mem_append_right _ (List.mem_append_right _ (List.mem_append_left _ h)))))), gd_dm_X9_next w h⟩)
theorem gi_dm_X1_readRegister_3 : GoodIn ow_dm_X1_readRegister (va_wsS RX1 261 yX7_placed ow_dm_X7_placed) := goodIn_app (goodIn_of _ (by decide +kernel)) (fun w h => ⟨List.mem_cons_of_mem _ (List.mem_append_right _ (List.mem_append_right _ (List.mem_append_right _ (List.mem_append_right _ (List.mem_append_right _ (List.mem_append_right _ (List.mem_append_left _ h))))))), gd_dm_X7_placed w h⟩)
theorem gi_dm_X1_readRegister_4 : GoodIn ow_dm_X1_readRegister (va_wsS RX1 123 yX7_registerAt ow_dm_X7_registerAt) := goodIn_app (goodIn_of _ (by decide +kernel)) (fun w h => ⟨List.mem_cons_of_mem _ (List.mem_append_right _ (List.mem_append_right _ (List.mem_append_right _ (List.mem_append_right _ (List.mem_append_right _ (List.mem_append_right _ (List.mem_append_right _ (List.mem_append_left _ h)))))))), gd_dm_X7_registerAt w h⟩)
def dj_X1_readRegister_31 (p : Program) (l : Launch) (e : Env) (s : State) (m : MethodId) (args : Array Value) (below : List Frame) (meth : Method) (c : Code) (Q : State → Prop) (A : Nat → Prop) (dC : Nat → ClassId) (dI : Nat → Nat → Nat) (a : Nat → Nat) (ac : Nat → ClassId) (g : (St × (St)) → Option (Int32 × (St × (St)))) (r : Int32 × (St × (St))) : Prop := ∀ (s0 : St × (St)) (H : Heap) (locs : List Loc) (ls : Array Slot), g s0 = some r → va_P (dC, dI) vwCl (dw_X1 a ac s0) H → va_D A (dw_X1 a ac s0) → va_S A s.heap H locs → lv_has ls 4 [(0, .ref (a 0))] → W p l e (headSpec ow_dm_X1_readRegister ({ frames := 6, cells := 0, slots := 0, locals := 133 })).room s m args below meth c H locs 0 0 Q (F0 m 31 ls [])
def dj_X1_readRegister_100 (p : Program) (l : Launch) (e : Env) (s : State) (m : MethodId) (args : Array Value) (below : List Frame) (meth : Method) (c : Code) (Q : State → Prop) (A : Nat → Prop) (dC : Nat → ClassId) (dI : Nat → Nat → Nat) (a : Nat → Nat) (ac : Nat → ClassId) (g : (St × (St)) → Option (Int32 × (St × (St)))) (r : Int32 × (St × (St))) : Prop := ∀ (s0 : St × (St)) (H : Heap) (locs : List Loc) (ls : Array Slot), g s0 = some r → va_P (dC, dI) vwCl (dw_X1 a ac s0) H → va_D A (dw_X1 a ac s0) → va_S A s.heap H locs → lv_has ls 4 [(0, .ref (a 0))] → W p l e (headSpec ow_dm_X1_readRegister ({ frames := 6, cells := 0, slots := 0, locals := 133 })).room s m args below meth c H locs 0 0 Q (F0 m 100 ls [])
def dj_X1_readRegister_87 (p : Program) (l : Launch) (e : Env) (s : State) (m : MethodId) (args : Array Value) (below : List Frame) (meth : Method) (c : Code) (Q : State → Prop) (A : Nat → Prop) (dC : Nat → ClassId) (dI : Nat → Nat → Nat) (a : Nat → Nat) (ac : Nat → ClassId) (g : Int32 → Int32 → (St × (St)) → Option (Int32 × (St × (St)))) (r : Int32 × (St × (St))) : Prop := ∀ (x1 : Int32) (y0 : Int32) (s0 : St × (St)) (H : Heap) (locs : List Loc) (ls : Array Slot), g x1 y0 s0 = some r → va_P (dC, dI) vwCl (dw_X1 a ac s0) H → va_D A (dw_X1 a ac s0) → va_S A s.heap H locs → lv_has ls 4 [(0, .ref (a 0)), (1, .int x1)] → W p l e (headSpec ow_dm_X1_readRegister ({ frames := 6, cells := 0, slots := 0, locals := 133 })).room s m args below meth c H locs 0 0 Q (F0 m 87 ls [.int y0])
def dj_X1_readRegister_0 (p : Program) (l : Launch) (e : Env) (s : State) (m : MethodId) (args : Array Value) (below : List Frame) (meth : Method) (c : Code) (Q : State → Prop) (A : Nat → Prop) (dC : Nat → ClassId) (dI : Nat → Nat → Nat) (a : Nat → Nat) (ac : Nat → ClassId) (g : Int32 → (St × (St)) → Option (Int32 × (St × (St)))) (r : Int32 × (St × (St))) : Prop := ∀ (v0 : Int32) (s0 : St × (St)) (H : Heap) (locs : List Loc) (ls : Array Slot), g v0 s0 = some r → va_P (dC, dI) vwCl (dw_X1 a ac s0) H → va_D A (dw_X1 a ac s0) → va_S A s.heap H locs → lv_has ls 4 [(0, .ref (a 0)), (1, .int v0)] → W p l e (headSpec ow_dm_X1_readRegister ({ frames := 6, cells := 0, slots := 0, locals := 133 })).room s m args below meth c H locs 0 0 Q (F0 m 0 ls [])
set_option maxHeartbeats 40000000 in
set_option maxRecDepth 100000 in
theorem db_X1_readRegister_31 {p : Program} {l : Launch} {e : Env} {s : State} {m : MethodId} {args : Array Value} {below : List Frame} {meth : Method} {c : Code} {Q : State → Prop} {A : Nat → Prop} {dC : Nat → ClassId} {dI : Nat → Nat → Nat} {a : Nat → Nat} {ac : Nat → ClassId} {n : Nat} {r : Int32 × (St × (St))} (C : nd_C p l s m args c A (dC, dI) cX1_readRegister 4 RX1 ow_dm_X1_readRegister (dk_X1 ac)) (K : nd_Ki p l e (headSpec ow_dm_X1_readRegister ({ frames := 6, cells := 0, slots := 0, locals := 133 })).room s m args below meth c Q A (dC, dI) cX1_readRegister .int (St × (St)) (dw_X1 a ac) r) : dj_X1_readRegister_31 p l e s m args below meth c Q A dC dI a ac (df_X1_readRegister_31 n) r := by
  obtain ⟨hlt, hx, hb, hml, hown, hts, hN, hA, hK⟩ := id C
  intro s0 H locs ls h hP hD hS hl
  unfold df_X1_readRegister_31 at h
  refine lv_aload_n hx hb dX1_readRegister_31 rfl (lv_at hl 0 rfl) ?_
  refine lv_iconst (v := 1) hx hb dX1_readRegister_32 (by decide) ?_
  obtain ⟨s4, hq, h⟩ := nd_b1_e h
  have hPc := hP
  have hDc := hD
  have hKc := hK
  have hFc := nd_rs hD hS hA
  refine nd_cVv (As := [.int 1]) (rest := []) (w' := dw_X1 a ac s4) ⟨hx, hb, hml, hown, hts⟩ (fun sz => dm_X1_blame l hlt dC dI a ac n (1) s0 hq sz) (cwV 1 hts gi_dm_X1_readRegister_0 rfl rfl rfl (by decide +kernel) ⟨Nat.le_of_ble_eq_true rfl, Nat.le_of_ble_eq_true rfl⟩) hPc hDc hKc hS hA hN (va_recv hKc hPc (ci := 2) (q0 := 0) rfl rfl) rfl hl.1 rfl (Nat.le_of_ble_eq_true rfl) dX1_readRegister_33 (fun H locs hP1 hD1 hk1 hS => ?_)
  have hP := hP1
  have hD := hD1.weaken (fun k q _ h => hFc q.1 h)
  refine lv_iconst (v := 0) hx hb dX1_readRegister_36 (by decide) ?_
  exact K _ _ _ _ _ _ dX1_readRegister_37 rfl (Option.some.inj h).symm hP hD hS
set_option maxHeartbeats 40000000 in
set_option maxRecDepth 100000 in
theorem db_X1_readRegister_100 {p : Program} {l : Launch} {e : Env} {s : State} {m : MethodId} {args : Array Value} {below : List Frame} {meth : Method} {c : Code} {Q : State → Prop} {A : Nat → Prop} {dC : Nat → ClassId} {dI : Nat → Nat → Nat} {a : Nat → Nat} {ac : Nat → ClassId} {n : Nat} {r : Int32 × (St × (St))} (C : nd_C p l s m args c A (dC, dI) cX1_readRegister 4 RX1 ow_dm_X1_readRegister (dk_X1 ac)) (K : nd_Ki p l e (headSpec ow_dm_X1_readRegister ({ frames := 6, cells := 0, slots := 0, locals := 133 })).room s m args below meth c Q A (dC, dI) cX1_readRegister .int (St × (St)) (dw_X1 a ac) r) : dj_X1_readRegister_100 p l e s m args below meth c Q A dC dI a ac (df_X1_readRegister_100 n) r := by
  obtain ⟨hlt, hx, hb, hml, hown, hts, hN, hA, hK⟩ := id C
  intro s0 H locs ls h hP hD hS hl
  unfold df_X1_readRegister_100 at h
  refine lv_aload_n hx hb dX1_readRegister_100 rfl (lv_at hl 0 rfl) ?_
  refine lv_iconst (v := 3) hx hb dX1_readRegister_101 (by decide) ?_
  obtain ⟨s11, hq, h⟩ := nd_b1_e h
  have hPc := hP
  have hDc := hD
  have hKc := hK
  have hFc := nd_rs hD hS hA
  refine nd_cVv (As := [.int 3]) (rest := []) (w' := dw_X1 a ac s11) ⟨hx, hb, hml, hown, hts⟩ (fun sz => dm_X1_blame l hlt dC dI a ac n (3) s0 hq sz) (cwV 1 hts gi_dm_X1_readRegister_0 rfl rfl rfl (by decide +kernel) ⟨Nat.le_of_ble_eq_true rfl, Nat.le_of_ble_eq_true rfl⟩) hPc hDc hKc hS hA hN (va_recv hKc hPc (ci := 2) (q0 := 0) rfl rfl) rfl hl.1 rfl (Nat.le_of_ble_eq_true rfl) dX1_readRegister_102 (fun H locs hP1 hD1 hk1 hS => ?_)
  have hP := hP1
  have hD := hD1.weaken (fun k q _ h => hFc q.1 h)
  refine lv_iconst (v := 0) hx hb dX1_readRegister_105 (by decide) ?_
  exact K _ _ _ _ _ _ dX1_readRegister_106 rfl (Option.some.inj h).symm hP hD hS
set_option maxHeartbeats 40000000 in
set_option maxRecDepth 100000 in
theorem db_X1_readRegister_87 {p : Program} {l : Launch} {e : Env} {s : State} {m : MethodId} {args : Array Value} {below : List Frame} {meth : Method} {c : Code} {Q : State → Prop} {A : Nat → Prop} {dC : Nat → ClassId} {dI : Nat → Nat → Nat} {a : Nat → Nat} {ac : Nat → ClassId} {n : Nat} {r : Int32 × (St × (St))} (C : nd_C p l s m args c A (dC, dI) cX1_readRegister 4 RX1 ow_dm_X1_readRegister (dk_X1 ac)) (K : nd_Ki p l e (headSpec ow_dm_X1_readRegister ({ frames := 6, cells := 0, slots := 0, locals := 133 })).room s m args below meth c Q A (dC, dI) cX1_readRegister .int (St × (St)) (dw_X1 a ac) r) : dj_X1_readRegister_87 p l e s m args below meth c Q A dC dI a ac (df_X1_readRegister_87 n) r := by
  obtain ⟨hlt, hx, hb, hml, hown, hts, hN, hA, hK⟩ := id C
  intro x1 y0 s0 H locs ls h hP hD hS hl
  unfold df_X1_readRegister_87 at h
  refine lv_istore_n (lv' := [(3, .int y0), (0, .ref (a 0)), (1, .int x1)]) hx hb dX1_readRegister_87 rfl hl (by decide) rfl (fun ls hl => ?_)
  refine lv_iload_n hx hb dX1_readRegister_88 rfl (lv_at hl 0 rfl) ?_
  refine lv_if_lt (tgt := 100) hx hb dX1_readRegister_89 (by decide) (fun c9 => ?_) (fun c9 => ?_)
  · have h := nd_pos h c9
    exact (db_X1_readRegister_100 C K)  s0 _ _ _ h hP hD hS (lv_sub hl [1] rfl)
  · have h := nd_neg h c9
    refine lv_iload_n hx hb dX1_readRegister_92 rfl (lv_at hl 2 rfl) ?_
    refine lv_iload_n hx hb dX1_readRegister_93 rfl (lv_at hl 0 rfl) ?_
    obtain ⟨q13, s14, hq, h⟩ := nd_b2_e h
    have hPc : va_P (dC, dI) vwCl (dw_P a ac ()) H := nd_p0
    have hDc : va_D A (dw_P a ac ()) := nd_d0
    have hKc : va_K (dC, dI) vwCl (dk_P ac) s := nd_y0 hK
    have hFc : ∀ q, va_A (dw_P a ac ()) H.size q → A q := nd_r0 hS hA
    refine nd_cSi (As := [.int x1, .int y0]) (rest := []) (q := q13) (w' := dw_P a ac s14) ⟨hx, hb, hml, hown, hts⟩ (fun sz => dm_X7_fits l hlt dC dI a ac n (x1) (y0) () hq sz) (va_cwS 2 hts gi_dm_X1_readRegister_1 rfl rfl rfl (by decide +kernel) ⟨Nat.le_of_ble_eq_true rfl, Nat.le_of_ble_eq_true rfl⟩) hPc hDc hKc hS hA hN rfl hl.1 rfl (Nat.le_of_ble_eq_true rfl) dX1_readRegister_94 (fun H locs hP1 hD1 hk1 hS => ?_)
    have hP := nd_n0 hP hk1
    refine lv_if_ne (tgt := 107) hx hb dX1_readRegister_97 (by decide) (fun c16 => ?_) (fun c16 => ?_)
    · have h := nd_neg h c16
      refine lv_aload_n hx hb dX1_readRegister_107 rfl (lv_at hl 1 rfl) ?_
      refine va_get (D := (dC, dI)) (ci := 2) (v := .ref (a 3)) (C := RX1) (T := TX1) (N := 13) hx hb hts hi_dm_X1_readRegister_X1 hown hK hP 0 rfl rfl 0 (by decide) (hts (.fieldLink RX1 12 "TimeMachine$Assembler" "reader" "LTimeMachine$Reader;") (List.mem_of_getElem? (i := 2) rfl)) (fun _ h9 => h9) rfl dX1_readRegister_108 ?_
      obtain ⟨s18, hq, h⟩ := nd_b1_e h
      have hPc := dp_X1_3 hP
      have hDc := dd_X1_3 hD
      have hKc := dy_X1_3 hK
      have hFc := nd_rs hDc hS hA
      have hzA : ∀ q : Nat, H.size ≤ q → A q := fun q h => hA q (Nat.le_trans hS.1 h)
      refine nd_cVv (As := []) (rest := []) (w' := dw_X9 (fun k => a (k + 3)) (fun k => ac (k + 3)) s18) ⟨hx, hb, hml, hown, hts⟩ (fun sz => dm_X9_next l hlt dC dI (fun k => a (k + 3)) (fun k => ac (k + 3)) n  s0.2 hq sz) (cwV 0 hts gi_dm_X1_readRegister_2 rfl rfl rfl (by decide +kernel) ⟨Nat.le_of_ble_eq_true rfl, Nat.le_of_ble_eq_true rfl⟩) hPc hDc hKc hS hA hN (va_recv hKc hPc (ci := 10) (q0 := 0) rfl rfl) rfl hl.1 rfl (Nat.le_of_ble_eq_true rfl) dX1_readRegister_111 (fun H locs hP1 hD1 hk1 hS => ?_)
      obtain ⟨hP, hD⟩ := dn_X1_3 hP hD hzA hk1 hP1 hD1
      obtain ⟨s20, es20, h⟩ := nd_let_e h
      have hP : va_P (dC, dI) vwCl (dw_X1 a ac s20) H := by rw [es20]; exact hP
      have hD : va_D A (dw_X1 a ac s20) := by rw [es20]; exact hD
      refine lv_iload_n hx hb dX1_readRegister_114 rfl (lv_at hl 2 rfl) ?_
      refine lv_iload_n hx hb dX1_readRegister_115 rfl (lv_at hl 0 rfl) ?_
      obtain ⟨q21, s22, hq, h⟩ := nd_b2_e h
      have hPc : va_P (dC, dI) vwCl (dw_P a ac ()) H := nd_p0
      have hDc : va_D A (dw_P a ac ()) := nd_d0
      have hKc : va_K (dC, dI) vwCl (dk_P ac) s := nd_y0 hK
      have hFc : ∀ q, va_A (dw_P a ac ()) H.size q → A q := nd_r0 hS hA
      refine nd_cSi (As := [.int x1, .int y0]) (rest := []) (q := q21) (w' := dw_P a ac s22) ⟨hx, hb, hml, hown, hts⟩ (fun sz => dm_X7_placed l hlt dC dI a ac n (x1) (y0) () hq sz) (va_cwS 2 hts gi_dm_X1_readRegister_3 rfl rfl rfl (by decide +kernel) ⟨Nat.le_of_ble_eq_true rfl, Nat.le_of_ble_eq_true rfl⟩) hPc hDc hKc hS hA hN rfl hl.1 rfl (Nat.le_of_ble_eq_true rfl) dX1_readRegister_116 (fun H locs hP1 hD1 hk1 hS => ?_)
      have hP := nd_n0 hP hk1
      exact K _ _ _ _ _ _ dX1_readRegister_119 rfl (Option.some.inj h).symm hP hD hS
    · have h := nd_pos h c16
      exact (db_X1_readRegister_100 C K)  s0 _ _ _ h hP hD hS (lv_sub hl [1] rfl)
set_option maxHeartbeats 40000000 in
set_option maxRecDepth 100000 in
theorem db_X1_readRegister_0 {p : Program} {l : Launch} {e : Env} {s : State} {m : MethodId} {args : Array Value} {below : List Frame} {meth : Method} {c : Code} {Q : State → Prop} {A : Nat → Prop} {dC : Nat → ClassId} {dI : Nat → Nat → Nat} {a : Nat → Nat} {ac : Nat → ClassId} {n : Nat} {r : Int32 × (St × (St))} (C : nd_C p l s m args c A (dC, dI) cX1_readRegister 4 RX1 ow_dm_X1_readRegister (dk_X1 ac)) (K : nd_Ki p l e (headSpec ow_dm_X1_readRegister ({ frames := 6, cells := 0, slots := 0, locals := 133 })).room s m args below meth c Q A (dC, dI) cX1_readRegister .int (St × (St)) (dw_X1 a ac) r) : dj_X1_readRegister_0 p l e s m args below meth c Q A dC dI a ac (df_X1_readRegister_0 n) r := by
  obtain ⟨hlt, hx, hb, hml, hown, hts, hN, hA, hK⟩ := id C
  intro v0 s0 H locs ls h hP hD hS hl
  unfold df_X1_readRegister_0 at h
  refine lv_aload_n hx hb dX1_readRegister_0 rfl (lv_at hl 0 rfl) ?_
  refine va_get (D := (dC, dI)) (ci := 2) (v := .int (sI s0.1 2)) (C := RX1) (T := TX1) (N := 13) hx hb hts hi_dm_X1_readRegister_X1 hown hK hP 0 rfl rfl 5 (by decide) (hts (.fieldLink RX1 32 "TimeMachine$Assembler" "fault" "I") (List.mem_of_getElem? (i := 1) rfl)) (fun _ h9 => h9) rfl dX1_readRegister_1 ?_
  refine lv_if_eq (tgt := 9) hx hb dX1_readRegister_4 (by decide) (fun c1 => ?_) (fun c1 => ?_)
  · have h := nd_pos h c1
    refine lv_aload_n hx hb dX1_readRegister_9 rfl (lv_at hl 0 rfl) ?_
    refine va_get (D := (dC, dI)) (ci := 2) (v := .ref (a 3)) (C := RX1) (T := TX1) (N := 13) hx hb hts hi_dm_X1_readRegister_X1 hown hK hP 0 rfl rfl 0 (by decide) (hts (.fieldLink RX1 12 "TimeMachine$Assembler" "reader" "LTimeMachine$Reader;") (List.mem_of_getElem? (i := 2) rfl)) (fun _ h9 => h9) rfl dX1_readRegister_10 ?_
    refine va_get (D := (dC, dI)) (ci := 10) (v := .int (sI s0.2 2)) (C := RX9) (T := TX9) (N := 20) hx hb hts hi_dm_X1_readRegister_X9 hown hK hP 3 rfl rfl 3 (by decide) (hts (.fieldLink RX1 85 "TimeMachine$Reader" "kind" "I") (List.mem_of_getElem? (i := 3) rfl)) (fun _ h9 => h9) rfl dX1_readRegister_13 ?_
    refine lv_if_eq (tgt := 31) hx hb dX1_readRegister_16 (by decide) (fun c2 => ?_) (fun c2 => ?_)
    · have h := nd_pos h c2
      exact (db_X1_readRegister_31 C K)  s0 _ _ _ h hP hD hS (lv_sub hl [0] rfl)
    · have h := nd_neg h c2
      refine lv_aload_n hx hb dX1_readRegister_19 rfl (lv_at hl 0 rfl) ?_
      refine va_get (D := (dC, dI)) (ci := 2) (v := .ref (a 3)) (C := RX1) (T := TX1) (N := 13) hx hb hts hi_dm_X1_readRegister_X1 hown hK hP 0 rfl rfl 0 (by decide) (hts (.fieldLink RX1 12 "TimeMachine$Assembler" "reader" "LTimeMachine$Reader;") (List.mem_of_getElem? (i := 2) rfl)) (fun _ h9 => h9) rfl dX1_readRegister_20 ?_
      refine va_get (D := (dC, dI)) (ci := 10) (v := .int (sI s0.2 2)) (C := RX9) (T := TX9) (N := 20) hx hb hts hi_dm_X1_readRegister_X9 hown hK hP 3 rfl rfl 3 (by decide) (hts (.fieldLink RX1 85 "TimeMachine$Reader" "kind" "I") (List.mem_of_getElem? (i := 3) rfl)) (fun _ h9 => h9) rfl dX1_readRegister_23 ?_
      refine lv_bipush (v := 6) hx hb dX1_readRegister_26 (by decide) ?_
      refine lv_icmp_ne (tgt := 38) hx hb dX1_readRegister_28 (by decide) (fun c6 => ?_) (fun c6 => ?_)
      · have h := nd_neg h c6
        refine lv_aload_n hx hb dX1_readRegister_38 rfl (lv_at hl 0 rfl) ?_
        refine va_get (D := (dC, dI)) (ci := 2) (v := .ref (a 3)) (C := RX1) (T := TX1) (N := 13) hx hb hts hi_dm_X1_readRegister_X1 hown hK hP 0 rfl rfl 0 (by decide) (hts (.fieldLink RX1 12 "TimeMachine$Assembler" "reader" "LTimeMachine$Reader;") (List.mem_of_getElem? (i := 2) rfl)) (fun _ h9 => h9) rfl dX1_readRegister_39 ?_
        refine va_get (D := (dC, dI)) (ci := 10) (v := .int (sI s0.2 0)) (C := RX9) (T := TX9) (N := 20) hx hb hts hi_dm_X1_readRegister_X9 hown hK hP 3 rfl rfl 1 (by decide) (hts (.fieldLink RX1 91 "TimeMachine$Reader" "at" "I") (List.mem_of_getElem? (i := 8) rfl)) (fun _ h9 => h9) rfl dX1_readRegister_42 ?_
        refine lv_aload_n hx hb dX1_readRegister_45 rfl (lv_at hl 0 rfl) ?_
        refine va_get (D := (dC, dI)) (ci := 2) (v := .ref (a 3)) (C := RX1) (T := TX1) (N := 13) hx hb hts hi_dm_X1_readRegister_X1 hown hK hP 0 rfl rfl 0 (by decide) (hts (.fieldLink RX1 12 "TimeMachine$Assembler" "reader" "LTimeMachine$Reader;") (List.mem_of_getElem? (i := 2) rfl)) (fun _ h9 => h9) rfl dX1_readRegister_46 ?_
        refine va_get (D := (dC, dI)) (ci := 10) (v := .int (sI s0.2 3)) (C := RX9) (T := TX9) (N := 20) hx hb hts hi_dm_X1_readRegister_X9 hown hK hP 3 rfl rfl 4 (by decide) (hts (.fieldLink RX1 88 "TimeMachine$Reader" "from" "I") (List.mem_of_getElem? (i := 9) rfl)) (fun _ h9 => h9) rfl dX1_readRegister_49 ?_
        refine lv_isub hx hb dX1_readRegister_52 ?_
        refine lv_topi (fun z7 ez7 => ?_)
        have h := nd_at h ez7
        refine lv_istore_n (lv' := [(2, .int z7), (0, .ref (a 0)), (1, .int v0)]) hx hb dX1_readRegister_53 rfl hl (by decide) rfl (fun ls hl => ?_)
        refine lv_aload_n hx hb dX1_readRegister_54 rfl (lv_at hl 1 rfl) ?_
        refine va_get (D := (dC, dI)) (ci := 2) (v := .ref (a 3)) (C := RX1) (T := TX1) (N := 13) hx hb hts hi_dm_X1_readRegister_X1 hown hK hP 0 rfl rfl 0 (by decide) (hts (.fieldLink RX1 12 "TimeMachine$Assembler" "reader" "LTimeMachine$Reader;") (List.mem_of_getElem? (i := 2) rfl)) (fun _ h9 => h9) rfl dX1_readRegister_55 ?_
        refine va_get (D := (dC, dI)) (ci := 10) (v := .int (sI s0.2 2)) (C := RX9) (T := TX9) (N := 20) hx hb hts hi_dm_X1_readRegister_X9 hown hK hP 3 rfl rfl 3 (by decide) (hts (.fieldLink RX1 85 "TimeMachine$Reader" "kind" "I") (List.mem_of_getElem? (i := 3) rfl)) (fun _ h9 => h9) rfl dX1_readRegister_58 ?_
        refine lv_iconst (v := 1) hx hb dX1_readRegister_61 (by decide) ?_
        refine lv_icmp_ne (tgt := 86) hx hb dX1_readRegister_62 (by decide) (fun c8 => ?_) (fun c8 => ?_)
        · have h := nd_neg h c8
          refine lv_iconst (v := (-1)) hx hb dX1_readRegister_86 (by decide) ?_
          exact (db_X1_readRegister_87 C K) (v0) ((-1)) s0 _ _ _ h hP hD hS (lv_sub hl [1, 2] rfl)
        · have h := nd_pos h c8
          refine lv_aload_n hx hb dX1_readRegister_65 rfl (lv_at hl 1 rfl) ?_
          refine va_get (D := (dC, dI)) (ci := 2) (v := .ref (a 3)) (C := RX1) (T := TX1) (N := 13) hx hb hts hi_dm_X1_readRegister_X1 hown hK hP 0 rfl rfl 0 (by decide) (hts (.fieldLink RX1 12 "TimeMachine$Assembler" "reader" "LTimeMachine$Reader;") (List.mem_of_getElem? (i := 2) rfl)) (fun _ h9 => h9) rfl dX1_readRegister_66 ?_
          obtain ⟨o24, h⟩ := nd_o_e h
          refine va_get (D := (dC, dI)) (ci := 10) (v := .ref (a 11)) (C := RX9) (T := TX9) (N := 20) hx hb hts hi_dm_X1_readRegister_X9 hown hK hP 3 rfl rfl 0 (by decide) (hts (.fieldLink RX1 120 "TimeMachine$Reader" "source" "[B") (List.mem_of_getElem? (i := 19) rfl)) (fun _ h9 => h9) (congrArg (fun z => some (va_rf (Option.map (fun k => a (k + 3)) z))) o24) dX1_readRegister_69 ?_
          refine lv_aload_n hx hb dX1_readRegister_72 rfl (lv_at hl 1 rfl) ?_
          refine va_get (D := (dC, dI)) (ci := 2) (v := .ref (a 3)) (C := RX1) (T := TX1) (N := 13) hx hb hts hi_dm_X1_readRegister_X1 hown hK hP 0 rfl rfl 0 (by decide) (hts (.fieldLink RX1 12 "TimeMachine$Assembler" "reader" "LTimeMachine$Reader;") (List.mem_of_getElem? (i := 2) rfl)) (fun _ h9 => h9) rfl dX1_readRegister_73 ?_
          refine va_get (D := (dC, dI)) (ci := 10) (v := .int (sI s0.2 3)) (C := RX9) (T := TX9) (N := 20) hx hb hts hi_dm_X1_readRegister_X9 hown hK hP 3 rfl rfl 4 (by decide) (hts (.fieldLink RX1 88 "TimeMachine$Reader" "from" "I") (List.mem_of_getElem? (i := 9) rfl)) (fun _ h9 => h9) rfl dX1_readRegister_76 ?_
          refine lv_iload_n hx hb dX1_readRegister_79 rfl (lv_at hl 0 rfl) ?_
          obtain ⟨q25, s26, hq, h⟩ := nd_b2_e h
          have hPc := dp_vX1_BY_0 hP
          have hDc := dd_vX1_BY_0 hD
          have hKc := dy_vX1_BY_0 hK
          have hFc := nd_rs hDc hS hA
          have hzA : ∀ q : Nat, H.size ≤ q → A q := fun q h => hA q (Nat.le_trans hS.1 h)
          refine nd_cSi (As := [.ref (a 11), .int (sI s0.2 3), .int z7]) (rest := []) (q := q25) (w' := dw_BY (fun k => a (nd_ix [11] k)) (fun k => ac (nd_ix [11] k)) s26) ⟨hx, hb, hml, hown, hts⟩ (fun sz => dm_X7_registerAt l hlt dC dI (fun k => a (nd_ix [11] k)) (fun k => ac (nd_ix [11] k)) n ((sI s0.2 3)) (z7) ((pR nd_st0 0 (sR s0.2 7))) hq sz) (va_cwS 3 hts gi_dm_X1_readRegister_4 rfl rfl rfl (by decide +kernel) ⟨Nat.le_of_ble_eq_true rfl, Nat.le_of_ble_eq_true rfl⟩) hPc hDc hKc hS hA hN rfl hl.1 rfl (Nat.le_of_ble_eq_true rfl) dX1_readRegister_80 (fun H locs hP1 hD1 hk1 hS => ?_)
          obtain ⟨hP, hD⟩ := dn_vX1_BY_0 hP hD hzA hk1 hP1 hD1
          obtain ⟨s28, es28, h⟩ := nd_let_e h
          have hP : va_P (dC, dI) vwCl (dw_X1 a ac s28) H := by rw [es28]; exact hP
          have hD : va_D A (dw_X1 a ac s28) := by rw [es28]; exact hD
          refine lv_goto (tgt := 87) hx hb dX1_readRegister_83 (by decide) ?_
          exact (db_X1_readRegister_87 C K) (v0) (q25) s28 _ _ _ h hP hD hS (lv_sub hl [1, 2] rfl)
      · have h := nd_pos h c6
        exact (db_X1_readRegister_31 C K)  s0 _ _ _ h hP hD hS (lv_sub hl [0] rfl)
  · have h := nd_neg h c1
    refine lv_iconst (v := 0) hx hb dX1_readRegister_7 (by decide) ?_
    exact K _ _ _ _ _ _ dX1_readRegister_8 rfl (Option.some.inj h).symm hP hD hS
set_option maxHeartbeats 40000000 in
set_option maxRecDepth 100000 in
theorem dm_X1_readRegister (l : Launch) (hlt : l.stackTraces = false) (dC : Nat → ClassId) (dI : Nat → Nat → Nat) (a : Nat → Nat) (ac : Nat → ClassId) (n : Nat) (v0 : Int32) (s0 : St × (St)) {r : Int32 × (St × (St))} (h : df_X1_readRegister n v0 s0 = some r) (sz : Nat) : Met l yX1_readRegister ow_dm_X1_readRegister ({ frames := 6, cells := 0, slots := 0, locals := 133 }) (va_Pc [.ref (a 0), .int v0] (fun U => U.heap.size = sz ∧ va_P (dC, dI) vwCl (dw_X1 a ac s0) U.heap ∧ va_K (dC, dI) vwCl (dk_X1 ac) U ∧ va_D (fun _ => True) (dw_X1 a ac s0) ∧ nv_E dI (va_A (dw_X1 a ac s0) sz) U)) (va_Qi (fun x _ => x = r.1) (fun (_ : Unit) t => va_P (dC, dI) vwCl (dw_X1 a ac r.2) t.heap ∧ va_K (dC, dI) vwCl (dk_X1 ac) t ∧ va_D (va_A (dw_X1 a ac s0) sz) (dw_X1 a ac r.2)) (va_A (dw_X1 a ac s0) sz)) 0 0 (va_A (dw_X1 a ac s0) sz) := by
  refine Met.ofW (cc := cX1_readRegister) (maxL := 4) (ret := (some .int)) (by decide) rfl ?_
  intro p e s m args below meth c s₁ B hml hv
  obtain ⟨rfl, hsz, hP, hK, hD0, hN⟩ := hv
  have hx := B.exec
  have hb := B.bytes
  have hr := B.returns
  have hts := atoms_spec (ws := ow_dm_X1_readRegister) B.pre
  have hown : s.vm.findClass RX1 = some m.cls := findClass_of_methodNamed B.named
  have hlocks := B.notSynchronized
  subst hsz
  have hD := hD0.self (sz := s.heap.size)
  generalize hAe : va_A (dw_X1 a ac s0) s.heap.size = A at hD hN ⊢
  have hA : ∀ q : Nat, s.heap.size ≤ q → A q := fun q h => by rw [← hAe]; exact Or.inr h
  have hl := lv_entry ([.ref (a 0), .int v0]) (n := 4) (Nat.le_of_ble_eq_true rfl)
  rw [lg_entry_eq]
  generalize (lg_sl ([.ref (a 0), .int v0]) ++ List.replicate (4 - (lg_sl ([.ref (a 0), .int v0])).length) Slot.unset).toArray = ls at hl ⊢
  have hl : lv_has ls 4 [(0, .ref (a 0)), (1, .int v0)] := hl
  exact db_X1_readRegister_0 (dC := dC) (dI := dI) (a := a) (ac := ac) (n := n) (r := r) ⟨hlt, hx, hb, hml, hown, hts, hN, hA, hK⟩ (fun pc v τ H locs ls d z er hP hD hS => by subst er; exact W.zret (v := v) hx hb hr z (fun t ht hW => ⟨⟨v, (), rfl, rfl, by rw [ht]; exact hP, va_K.moved hW.alike hK, hD⟩, hS.F ht⟩) hS.2.2 d) v0 s0 _ _ _ h hP hD va_S.rf (lv_sub hl [0, 1] rfl)
def ow_dm_X1_addNumber : List Cond := .code yX1_addNumber cX1_addNumber 4 none :: ([.methodLink RX1 257 yX7_fits, .static yX7_fits, .initialized RX7, .methodLink RX1 176 yX1_add, .instanceMethod yX1_add, .selects RX1 yX1_add yX1_add, .initialized RX1, .methodLink RX1 265 yX9_low, .static yX9_low, .initialized RX9] ++ (ow_dm_X7_fits ++ (ow_dm_X1_add ++ (ow_dm_X9_low ++ []))))
theorem gd_dm_X1_addNumber : ∀ w ∈ ow_dm_X1_addNumber, (w.onTables && w.keeps) = true ∨ ∃ ty, w = Cond.arrayClass ty := List.forall_mem_cons.mpr ⟨good_of_word rfl, List.forall_mem_append.mpr ⟨fun w h => good_of_word (List.all_eq_true.mp (by decide +kernel) w h), List.forall_mem_append.mpr ⟨gd_dm_X7_fits, List.forall_mem_append.mpr ⟨gd_dm_X1_add, List.forall_mem_append.mpr ⟨gd_dm_X9_low, fun _ h => nomatch h⟩⟩⟩⟩⟩
theorem gi_dm_X1_addNumber_0 : GoodIn ow_dm_X1_addNumber (va_wsS RX1 257 yX7_fits ow_dm_X7_fits) := goodIn_app (goodIn_of _ (by decide +kernel)) (fun w h => ⟨List.mem_cons_of_mem _ (List.mem_append_right _ (List.mem_append_left _ h)), gd_dm_X7_fits w h⟩)
theorem gi_dm_X1_addNumber_1 : GoodIn ow_dm_X1_addNumber (wsV RX1 176 RX1 yX1_add ow_dm_X1_add) := goodIn_app (goodIn_of _ (by decide +kernel)) (fun w h => ⟨List.mem_cons_of_mem _ (List.mem_append_right _ (List.mem_append_right _ (List.mem_append_left _ h))), gd_dm_X1_add w h⟩)
theorem gi_dm_X1_addNumber_2 : GoodIn ow_dm_X1_addNumber (va_wsS RX1 265 yX9_low ow_dm_X9_low) := goodIn_app (goodIn_of _ (by decide +kernel)) (fun w h => ⟨List.mem_cons_of_mem _ (List.mem_append_right _ (List.mem_append_right _ (List.mem_append_right _ (List.mem_append_left _ h)))), gd_dm_X9_low w h⟩)
def dj_X1_addNumber_39 (p : Program) (l : Launch) (e : Env) (s : State) (m : MethodId) (args : Array Value) (below : List Frame) (meth : Method) (c : Code) (Q : State → Prop) (A : Nat → Prop) (dC : Nat → ClassId) (dI : Nat → Nat → Nat) (a : Nat → Nat) (ac : Nat → ClassId) (g : Int32 → Int32 → Int32 → (St × (St)) → Option (St × (St))) (r : St × (St)) : Prop := ∀ (x1 : Int32) (x2 : Int32) (x3 : Int32) (s0 : St × (St)) (H : Heap) (locs : List Loc) (ls : Array Slot), g x1 x2 x3 s0 = some r → va_P (dC, dI) vwCl (dw_X1 a ac s0) H → va_D A (dw_X1 a ac s0) → va_S A s.heap H locs → lv_has ls 4 [(0, .ref (a 0)), (1, .int x1), (2, .int x2), (3, .int x3)] → W p l e (headSpec ow_dm_X1_addNumber ({ frames := 1, cells := 0, slots := 0, locals := 25 })).room s m args below meth c H locs 0 0 Q (F0 m 39 ls [])
def dj_X1_addNumber_37 (p : Program) (l : Launch) (e : Env) (s : State) (m : MethodId) (args : Array Value) (below : List Frame) (meth : Method) (c : Code) (Q : State → Prop) (A : Nat → Prop) (dC : Nat → ClassId) (dI : Nat → Nat → Nat) (a : Nat → Nat) (ac : Nat → ClassId) (g : Int32 → Int32 → (St × (St)) → Option (St × (St))) (r : St × (St)) : Prop := ∀ (x1 : Int32) (x2 : Int32) (s0 : St × (St)) (H : Heap) (locs : List Loc) (ls : Array Slot), g x1 x2 s0 = some r → va_P (dC, dI) vwCl (dw_X1 a ac s0) H → va_D A (dw_X1 a ac s0) → va_S A s.heap H locs → lv_has ls 4 [(0, .ref (a 0)), (1, .int x1), (2, .int x2)] → W p l e (headSpec ow_dm_X1_addNumber ({ frames := 1, cells := 0, slots := 0, locals := 25 })).room s m args below meth c H locs 0 0 Q (F0 m 37 ls [])
def dj_X1_addNumber_21 (p : Program) (l : Launch) (e : Env) (s : State) (m : MethodId) (args : Array Value) (below : List Frame) (meth : Method) (c : Code) (Q : State → Prop) (A : Nat → Prop) (dC : Nat → ClassId) (dI : Nat → Nat → Nat) (a : Nat → Nat) (ac : Nat → ClassId) (g : Int32 → Int32 → Int32 → (St × (St)) → Option (St × (St))) (r : St × (St)) : Prop := ∀ (x1 : Int32) (x2 : Int32) (x3 : Int32) (s0 : St × (St)) (H : Heap) (locs : List Loc) (ls : Array Slot), g x1 x2 x3 s0 = some r → va_P (dC, dI) vwCl (dw_X1 a ac s0) H → va_D A (dw_X1 a ac s0) → va_S A s.heap H locs → lv_has ls 4 [(0, .ref (a 0)), (1, .int x1), (2, .int x2), (3, .int x3)] → W p l e (headSpec ow_dm_X1_addNumber ({ frames := 1, cells := 0, slots := 0, locals := 25 })).room s m args below meth c H locs 0 0 Q (F0 m 21 ls [])
def dj_X1_addNumber_0 (p : Program) (l : Launch) (e : Env) (s : State) (m : MethodId) (args : Array Value) (below : List Frame) (meth : Method) (c : Code) (Q : State → Prop) (A : Nat → Prop) (dC : Nat → ClassId) (dI : Nat → Nat → Nat) (a : Nat → Nat) (ac : Nat → ClassId) (g : Int32 → Int32 → (St × (St)) → Option (St × (St))) (r : St × (St)) : Prop := ∀ (v0 : Int32) (v1 : Int32) (s0 : St × (St)) (H : Heap) (locs : List Loc) (ls : Array Slot), g v0 v1 s0 = some r → va_P (dC, dI) vwCl (dw_X1 a ac s0) H → va_D A (dw_X1 a ac s0) → va_S A s.heap H locs → lv_has ls 4 [(0, .ref (a 0)), (1, .int v0), (2, .int v1)] → W p l e (headSpec ow_dm_X1_addNumber ({ frames := 1, cells := 0, slots := 0, locals := 25 })).room s m args below meth c H locs 0 0 Q (F0 m 0 ls [])
set_option maxHeartbeats 40000000 in
set_option maxRecDepth 100000 in
theorem db_X1_addNumber_39 {p : Program} {l : Launch} {e : Env} {s : State} {m : MethodId} {args : Array Value} {below : List Frame} {meth : Method} {c : Code} {Q : State → Prop} {A : Nat → Prop} {dC : Nat → ClassId} {dI : Nat → Nat → Nat} {a : Nat → Nat} {ac : Nat → ClassId} {n : Nat} {r : St × (St)} (C : nd_C p l s m args c A (dC, dI) cX1_addNumber 4 RX1 ow_dm_X1_addNumber (dk_X1 ac)) (K : nd_Kv p l e (headSpec ow_dm_X1_addNumber ({ frames := 1, cells := 0, slots := 0, locals := 25 })).room s m args below meth c Q A (dC, dI) cX1_addNumber (St × (St)) (dw_X1 a ac) r) : dj_X1_addNumber_39 p l e s m args below meth c Q A dC dI a ac (df_X1_addNumber_39 n) r := by
  obtain ⟨hlt, hx, hb, hml, hown, hts, hN, hA, hK⟩ := id C
  intro x1 x2 x3 s0 H locs ls h hP hD hS hl
  unfold df_X1_addNumber_39 at h
  refine lv_aload_n hx hb dX1_addNumber_39 rfl (lv_at hl 0 rfl) ?_
  refine lv_iconst (v := 4) hx hb dX1_addNumber_40 (by decide) ?_
  refine lv_iload_n hx hb dX1_addNumber_41 rfl (lv_at hl 3 rfl) ?_
  refine lv_iload_n hx hb dX1_addNumber_42 rfl (lv_at hl 1 rfl) ?_
  refine lv_iload_n hx hb dX1_addNumber_43 rfl (lv_at hl 2 rfl) ?_
  obtain ⟨s10, hq, h⟩ := nd_b1_e h
  have hPc := hP
  have hDc := hD
  have hKc := hK
  have hFc := nd_rs hD hS hA
  refine nd_cVv (As := [.int 4, .int x3, .int x1, .int x2]) (rest := []) (w' := dw_X1 a ac s10) ⟨hx, hb, hml, hown, hts⟩ (fun sz => dm_X1_add l hlt dC dI a ac n (4) (x3) (x1) (x2) s0 hq sz) (cwV 4 hts gi_dm_X1_addNumber_1 rfl rfl rfl (by decide +kernel) ⟨Nat.le_of_ble_eq_true rfl, Nat.le_of_ble_eq_true rfl⟩) hPc hDc hKc hS hA hN (va_recv hKc hPc (ci := 2) (q0 := 0) rfl rfl) rfl hl.1 rfl (Nat.le_of_ble_eq_true rfl) dX1_addNumber_44 (fun H locs hP1 hD1 hk1 hS => ?_)
  have hP := hP1
  have hD := hD1.weaken (fun k q _ h => hFc q.1 h)
  exact K _ _ _ _ _ dX1_addNumber_47 (Option.some.inj h).symm hP hD hS
set_option maxHeartbeats 40000000 in
set_option maxRecDepth 100000 in
theorem db_X1_addNumber_37 {p : Program} {l : Launch} {e : Env} {s : State} {m : MethodId} {args : Array Value} {below : List Frame} {meth : Method} {c : Code} {Q : State → Prop} {A : Nat → Prop} {dC : Nat → ClassId} {dI : Nat → Nat → Nat} {a : Nat → Nat} {ac : Nat → ClassId} {n : Nat} {r : St × (St)} (C : nd_C p l s m args c A (dC, dI) cX1_addNumber 4 RX1 ow_dm_X1_addNumber (dk_X1 ac)) (K : nd_Kv p l e (headSpec ow_dm_X1_addNumber ({ frames := 1, cells := 0, slots := 0, locals := 25 })).room s m args below meth c Q A (dC, dI) cX1_addNumber (St × (St)) (dw_X1 a ac) r) : dj_X1_addNumber_37 p l e s m args below meth c Q A dC dI a ac (df_X1_addNumber_37 n) r := by
  obtain ⟨hlt, hx, hb, hml, hown, hts, hN, hA, hK⟩ := id C
  intro x1 x2 s0 H locs ls h hP hD hS hl
  unfold df_X1_addNumber_37 at h
  refine lv_iconst (v := 4) hx hb dX1_addNumber_37 (by decide) ?_
  refine lv_istore_n (lv' := [(3, .int 4), (0, .ref (a 0)), (1, .int x1), (2, .int x2)]) hx hb dX1_addNumber_38 rfl hl (by decide) rfl (fun ls hl => ?_)
  exact (db_X1_addNumber_39 C K) (x1) (x2) (4) s0 _ _ _ h hP hD hS (lv_sub hl [1, 2, 3, 0] rfl)
set_option maxHeartbeats 40000000 in
set_option maxRecDepth 100000 in
theorem db_X1_addNumber_21 {p : Program} {l : Launch} {e : Env} {s : State} {m : MethodId} {args : Array Value} {below : List Frame} {meth : Method} {c : Code} {Q : State → Prop} {A : Nat → Prop} {dC : Nat → ClassId} {dI : Nat → Nat → Nat} {a : Nat → Nat} {ac : Nat → ClassId} {n : Nat} {r : St × (St)} (C : nd_C p l s m args c A (dC, dI) cX1_addNumber 4 RX1 ow_dm_X1_addNumber (dk_X1 ac)) (K : nd_Kv p l e (headSpec ow_dm_X1_addNumber ({ frames := 1, cells := 0, slots := 0, locals := 25 })).room s m args below meth c Q A (dC, dI) cX1_addNumber (St × (St)) (dw_X1 a ac) r) : dj_X1_addNumber_21 p l e s m args below meth c Q A dC dI a ac (df_X1_addNumber_21 n) r := by
  obtain ⟨hlt, hx, hb, hml, hown, hts, hN, hA, hK⟩ := id C
  intro x1 x2 x3 s0 H locs ls h hP hD hS hl
  unfold df_X1_addNumber_21 at h
  refine lv_bipush (v := 73) hx hb dX1_addNumber_21 (by decide) ?_
  refine lv_iload_n hx hb dX1_addNumber_23 rfl (lv_at hl 2 rfl) ?_
  obtain ⟨q5, s6, hq, h⟩ := nd_b2_e h
  have hPc : va_P (dC, dI) vwCl (dw_P a ac ()) H := nd_p0
  have hDc : va_D A (dw_P a ac ()) := nd_d0
  have hKc : va_K (dC, dI) vwCl (dk_P ac) s := nd_y0 hK
  have hFc : ∀ q, va_A (dw_P a ac ()) H.size q → A q := nd_r0 hS hA
  refine nd_cSi (As := [.int 73, .int x2]) (rest := []) (q := q5) (w' := dw_P a ac s6) ⟨hx, hb, hml, hown, hts⟩ (fun sz => dm_X7_fits l hlt dC dI a ac n (73) (x2) () hq sz) (va_cwS 2 hts gi_dm_X1_addNumber_0 rfl rfl rfl (by decide +kernel) ⟨Nat.le_of_ble_eq_true rfl, Nat.le_of_ble_eq_true rfl⟩) hPc hDc hKc hS hA hN rfl hl.1 rfl (Nat.le_of_ble_eq_true rfl) dX1_addNumber_24 (fun H locs hP1 hD1 hk1 hS => ?_)
  have hP := nd_n0 hP hk1
  refine lv_if_ne (tgt := 37) hx hb dX1_addNumber_27 (by decide) (fun c8 => ?_) (fun c8 => ?_)
  · have h := nd_neg h c8
    exact (db_X1_addNumber_37 C K) (x1) (x2) s0 _ _ _ h hP hD hS (lv_sub hl [0, 1, 2] rfl)
  · have h := nd_pos h c8
    refine lv_iload_n hx hb dX1_addNumber_30 rfl (lv_at hl 2 rfl) ?_
    obtain ⟨q12, s13, hq, h⟩ := nd_b2_e h
    have hPc : va_P (dC, dI) vwCl (dw_P a ac ()) H := nd_p0
    have hDc : va_D A (dw_P a ac ()) := nd_d0
    have hKc : va_K (dC, dI) vwCl (dk_P ac) s := nd_y0 hK
    have hFc : ∀ q, va_A (dw_P a ac ()) H.size q → A q := nd_r0 hS hA
    refine nd_cSi (As := [.int x2]) (rest := []) (q := q12) (w' := dw_P a ac s13) ⟨hx, hb, hml, hown, hts⟩ (fun sz => dm_X9_low l hlt dC dI a ac n (x2) () hq sz) (va_cwS 1 hts gi_dm_X1_addNumber_2 rfl rfl rfl (by decide +kernel) ⟨Nat.le_of_ble_eq_true rfl, Nat.le_of_ble_eq_true rfl⟩) hPc hDc hKc hS hA hN rfl hl.1 rfl (Nat.le_of_ble_eq_true rfl) dX1_addNumber_31 (fun H locs hP1 hD1 hk1 hS => ?_)
    have hP := nd_n0 hP hk1
    refine lv_if_ne (tgt := 39) hx hb dX1_addNumber_34 (by decide) (fun c15 => ?_) (fun c15 => ?_)
    · have h := nd_neg h c15
      exact (db_X1_addNumber_39 C K) (x1) (x2) (x3) s0 _ _ _ h hP hD hS (lv_sub hl [0, 1, 2, 3] rfl)
    · have h := nd_pos h c15
      exact (db_X1_addNumber_37 C K) (x1) (x2) s0 _ _ _ h hP hD hS (lv_sub hl [0, 1, 2] rfl)
set_option maxHeartbeats 40000000 in
set_option maxRecDepth 100000 in
theorem db_X1_addNumber_0 {p : Program} {l : Launch} {e : Env} {s : State} {m : MethodId} {args : Array Value} {below : List Frame} {meth : Method} {c : Code} {Q : State → Prop} {A : Nat → Prop} {dC : Nat → ClassId} {dI : Nat → Nat → Nat} {a : Nat → Nat} {ac : Nat → ClassId} {n : Nat} {r : St × (St)} (C : nd_C p l s m args c A (dC, dI) cX1_addNumber 4 RX1 ow_dm_X1_addNumber (dk_X1 ac)) (K : nd_Kv p l e (headSpec ow_dm_X1_addNumber ({ frames := 1, cells := 0, slots := 0, locals := 25 })).room s m args below meth c Q A (dC, dI) cX1_addNumber (St × (St)) (dw_X1 a ac) r) : dj_X1_addNumber_0 p l e s m args below meth c Q A dC dI a ac (df_X1_addNumber_0 n) r := by
  obtain ⟨hlt, hx, hb, hml, hown, hts, hN, hA, hK⟩ := id C
  intro v0 v1 s0 H locs ls h hP hD hS hl
  unfold df_X1_addNumber_0 at h
  refine lv_bipush (v := 8) hx hb dX1_addNumber_0 (by decide) ?_
  refine lv_istore_n (lv' := [(3, .int 8), (0, .ref (a 0)), (1, .int v0), (2, .int v1)]) hx hb dX1_addNumber_2 rfl hl (by decide) rfl (fun ls hl => ?_)
  refine lv_bipush (v := 78) hx hb dX1_addNumber_3 (by decide) ?_
  refine lv_iload_n hx hb dX1_addNumber_5 rfl (lv_at hl 3 rfl) ?_
  obtain ⟨q1, s2, hq, h⟩ := nd_b2_e h
  have hPc : va_P (dC, dI) vwCl (dw_P a ac ()) H := nd_p0
  have hDc : va_D A (dw_P a ac ()) := nd_d0
  have hKc : va_K (dC, dI) vwCl (dk_P ac) s := nd_y0 hK
  have hFc : ∀ q, va_A (dw_P a ac ()) H.size q → A q := nd_r0 hS hA
  refine nd_cSi (As := [.int 78, .int v1]) (rest := []) (q := q1) (w' := dw_P a ac s2) ⟨hx, hb, hml, hown, hts⟩ (fun sz => dm_X7_fits l hlt dC dI a ac n (78) (v1) () hq sz) (va_cwS 2 hts gi_dm_X1_addNumber_0 rfl rfl rfl (by decide +kernel) ⟨Nat.le_of_ble_eq_true rfl, Nat.le_of_ble_eq_true rfl⟩) hPc hDc hKc hS hA hN rfl hl.1 rfl (Nat.le_of_ble_eq_true rfl) dX1_addNumber_6 (fun H locs hP1 hD1 hk1 hS => ?_)
  have hP := nd_n0 hP hk1
  refine lv_if_eq (tgt := 21) hx hb dX1_addNumber_9 (by decide) (fun c4 => ?_) (fun c4 => ?_)
  · have h := nd_pos h c4
    exact (db_X1_addNumber_21 C K) (v0) (v1) (8) s0 _ _ _ h hP hD hS (lv_sub hl [1, 2, 3, 0] rfl)
  · have h := nd_neg h c4
    refine lv_iload_n hx hb dX1_addNumber_12 rfl (lv_at hl 2 rfl) ?_
    refine lv_if_eq (tgt := 21) hx hb dX1_addNumber_13 (by decide) (fun c16 => ?_) (fun c16 => ?_)
    · have h := nd_pos h c16
      exact (db_X1_addNumber_21 C K) (v0) (v1) (8) s0 _ _ _ h hP hD hS (lv_sub hl [1, 2, 3, 0] rfl)
    · have h := nd_neg h c16
      refine lv_iconst (v := 2) hx hb dX1_addNumber_16 (by decide) ?_
      refine lv_istore_n (lv' := [(3, .int 2), (0, .ref (a 0)), (1, .int v0), (2, .int v1)]) hx hb dX1_addNumber_17 rfl hl (by decide) rfl (fun ls hl => ?_)
      refine lv_goto (tgt := 39) hx hb dX1_addNumber_18 (by decide) ?_
      exact (db_X1_addNumber_39 C K) (v0) (v1) (2) s0 _ _ _ h hP hD hS (lv_sub hl [1, 2, 3, 0] rfl)
set_option maxHeartbeats 40000000 in
set_option maxRecDepth 100000 in
theorem dm_X1_addNumber (l : Launch) (hlt : l.stackTraces = false) (dC : Nat → ClassId) (dI : Nat → Nat → Nat) (a : Nat → Nat) (ac : Nat → ClassId) (n : Nat) (v0 : Int32) (v1 : Int32) (s0 : St × (St)) {r : St × (St)} (h : df_X1_addNumber n v0 v1 s0 = some r) (sz : Nat) : Met l yX1_addNumber ow_dm_X1_addNumber ({ frames := 1, cells := 0, slots := 0, locals := 25 }) (va_Pc [.ref (a 0), .int v0, .int v1] (fun U => U.heap.size = sz ∧ va_P (dC, dI) vwCl (dw_X1 a ac s0) U.heap ∧ va_K (dC, dI) vwCl (dk_X1 ac) U ∧ va_D (fun _ => True) (dw_X1 a ac s0) ∧ nv_E dI (va_A (dw_X1 a ac s0) sz) U)) (va_Qv (fun _ => True) (fun (_ : Unit) t => va_P (dC, dI) vwCl (dw_X1 a ac r) t.heap ∧ va_K (dC, dI) vwCl (dk_X1 ac) t ∧ va_D (va_A (dw_X1 a ac s0) sz) (dw_X1 a ac r)) (va_A (dw_X1 a ac s0) sz)) 0 0 (va_A (dw_X1 a ac s0) sz) := by
  refine Met.ofW (cc := cX1_addNumber) (maxL := 4) (ret := none) (by decide) rfl ?_
  intro p e s m args below meth c s₁ B hml hv
  obtain ⟨rfl, hsz, hP, hK, hD0, hN⟩ := hv
  have hx := B.exec
  have hb := B.bytes
  have hr := B.returns
  have hts := atoms_spec (ws := ow_dm_X1_addNumber) B.pre
  have hown : s.vm.findClass RX1 = some m.cls := findClass_of_methodNamed B.named
  have hlocks := B.notSynchronized
  subst hsz
  have hD := hD0.self (sz := s.heap.size)
  generalize hAe : va_A (dw_X1 a ac s0) s.heap.size = A at hD hN ⊢
  have hA : ∀ q : Nat, s.heap.size ≤ q → A q := fun q h => by rw [← hAe]; exact Or.inr h
  have hl := lv_entry ([.ref (a 0), .int v0, .int v1]) (n := 4) (Nat.le_of_ble_eq_true rfl)
  rw [lg_entry_eq]
  generalize (lg_sl ([.ref (a 0), .int v0, .int v1]) ++ List.replicate (4 - (lg_sl ([.ref (a 0), .int v0, .int v1])).length) Slot.unset).toArray = ls at hl ⊢
  have hl : lv_has ls 4 [(0, .ref (a 0)), (1, .int v0), (2, .int v1)] := hl
  exact db_X1_addNumber_0 (dC := dC) (dI := dI) (a := a) (ac := ac) (n := n) (r := r) ⟨hlt, hx, hb, hml, hown, hts, hN, hA, hK⟩ (fun pc τ H locs ls d er hP hD hS => by subst er; exact W.vret hx hb hr (fun t ht hW => ⟨⟨(), rfl, trivial, by rw [ht]; exact hP, va_K.moved hW.alike hK, hD⟩, hS.F ht⟩) hS.2.2 d) v0 v1 s0 _ _ _ h hP hD va_S.rf (lv_sub hl [0, 1, 2] rfl)
def ow_dm_X1_setLetter : List Cond := .code yX1_setLetter cX1_setLetter 2 none :: ([.fieldLink RX1 32 "TimeMachine$Assembler" "fault" "I", .fieldLink RX1 65 "TimeMachine$Assembler" "statements" "I", .fieldLink RX1 19 "TimeMachine$Assembler" "statement" "[I"] ++ (u_ws RX1 TX1 13 ++ []))
theorem gd_dm_X1_setLetter : ∀ w ∈ ow_dm_X1_setLetter, (w.onTables && w.keeps) = true ∨ ∃ ty, w = Cond.arrayClass ty := List.forall_mem_cons.mpr ⟨good_of_word rfl, List.forall_mem_append.mpr ⟨fun w h => good_of_word (List.all_eq_true.mp (by decide +kernel) w h), List.forall_mem_append.mpr ⟨gu_X1, fun _ h => nomatch h⟩⟩⟩
theorem hi_dm_X1_setLetter_X1 : ∀ w ∈ u_ws RX1 TX1 13, w ∈ ow_dm_X1_setLetter := fun w h => List.mem_cons_of_mem _ (List.mem_append_right _ (List.mem_append_left _ h))
def dj_X1_setLetter_32 (p : Program) (l : Launch) (e : Env) (s : State) (m : MethodId) (args : Array Value) (below : List Frame) (meth : Method) (c : Code) (Q : State → Prop) (A : Nat → Prop) (dC : Nat → ClassId) (dI : Nat → Nat → Nat) (a : Nat → Nat) (ac : Nat → ClassId) (g : (St × (St)) → Option (St × (St))) (r : St × (St)) : Prop := ∀ (s0 : St × (St)) (H : Heap) (locs : List Loc) (ls : Array Slot), g s0 = some r → va_P (dC, dI) vwCl (dw_X1 a ac s0) H → va_D A (dw_X1 a ac s0) → va_S A s.heap H locs → lv_has ls 2 [] → W p l e (headSpec ow_dm_X1_setLetter ({ frames := 0, cells := 0, slots := 0, locals := 0 })).room s m args below meth c H locs 0 0 Q (F0 m 32 ls [])
def dj_X1_setLetter_0 (p : Program) (l : Launch) (e : Env) (s : State) (m : MethodId) (args : Array Value) (below : List Frame) (meth : Method) (c : Code) (Q : State → Prop) (A : Nat → Prop) (dC : Nat → ClassId) (dI : Nat → Nat → Nat) (a : Nat → Nat) (ac : Nat → ClassId) (g : Int32 → (St × (St)) → Option (St × (St))) (r : St × (St)) : Prop := ∀ (v0 : Int32) (s0 : St × (St)) (H : Heap) (locs : List Loc) (ls : Array Slot), g v0 s0 = some r → va_P (dC, dI) vwCl (dw_X1 a ac s0) H → va_D A (dw_X1 a ac s0) → va_S A s.heap H locs → lv_has ls 2 [(0, .ref (a 0)), (1, .int v0)] → W p l e (headSpec ow_dm_X1_setLetter ({ frames := 0, cells := 0, slots := 0, locals := 0 })).room s m args below meth c H locs 0 0 Q (F0 m 0 ls [])
set_option maxHeartbeats 40000000 in
set_option maxRecDepth 100000 in
theorem db_X1_setLetter_32 {p : Program} {l : Launch} {e : Env} {s : State} {m : MethodId} {args : Array Value} {below : List Frame} {meth : Method} {c : Code} {Q : State → Prop} {A : Nat → Prop} {dC : Nat → ClassId} {dI : Nat → Nat → Nat} {a : Nat → Nat} {ac : Nat → ClassId} {n : Nat} {r : St × (St)} (C : nd_C p l s m args c A (dC, dI) cX1_setLetter 2 RX1 ow_dm_X1_setLetter (dk_X1 ac)) (K : nd_Kv p l e (headSpec ow_dm_X1_setLetter ({ frames := 0, cells := 0, slots := 0, locals := 0 })).room s m args below meth c Q A (dC, dI) cX1_setLetter (St × (St)) (dw_X1 a ac) r) : dj_X1_setLetter_32 p l e s m args below meth c Q A dC dI a ac (df_X1_setLetter_32 n) r := by
  obtain ⟨hlt, hx, hb, hml, hown, hts, hN, hA, hK⟩ := id C
  intro s0 H locs ls h hP hD hS hl
  unfold df_X1_setLetter_32 at h
  exact K _ _ _ _ _ dX1_setLetter_32 (Option.some.inj h).symm hP hD hS
set_option maxHeartbeats 40000000 in
set_option maxRecDepth 100000 in
theorem db_X1_setLetter_0 {p : Program} {l : Launch} {e : Env} {s : State} {m : MethodId} {args : Array Value} {below : List Frame} {meth : Method} {c : Code} {Q : State → Prop} {A : Nat → Prop} {dC : Nat → ClassId} {dI : Nat → Nat → Nat} {a : Nat → Nat} {ac : Nat → ClassId} {n : Nat} {r : St × (St)} (C : nd_C p l s m args c A (dC, dI) cX1_setLetter 2 RX1 ow_dm_X1_setLetter (dk_X1 ac)) (K : nd_Kv p l e (headSpec ow_dm_X1_setLetter ({ frames := 0, cells := 0, slots := 0, locals := 0 })).room s m args below meth c Q A (dC, dI) cX1_setLetter (St × (St)) (dw_X1 a ac) r) : dj_X1_setLetter_0 p l e s m args below meth c Q A dC dI a ac (df_X1_setLetter_0 n) r := by
  obtain ⟨hlt, hx, hb, hml, hown, hts, hN, hA, hK⟩ := id C
  intro v0 s0 H locs ls h hP hD hS hl
  unfold df_X1_setLetter_0 at h
  refine lv_aload_n hx hb dX1_setLetter_0 rfl (lv_at hl 0 rfl) ?_
  refine va_get (D := (dC, dI)) (ci := 2) (v := .int (sI s0.1 2)) (C := RX1) (T := TX1) (N := 13) hx hb hts hi_dm_X1_setLetter_X1 hown hK hP 0 rfl rfl 5 (by decide) (hts (.fieldLink RX1 32 "TimeMachine$Assembler" "fault" "I") (List.mem_of_getElem? (i := 1) rfl)) (fun _ h9 => h9) rfl dX1_setLetter_1 ?_
  refine lv_if_ne (tgt := 32) hx hb dX1_setLetter_4 (by decide) (fun c1 => ?_) (fun c1 => ?_)
  · have h := nd_neg h c1
    exact (db_X1_setLetter_32 C K)  s0 _ _ _ h hP hD hS (lv_sub hl [] rfl)
  · have h := nd_pos h c1
    refine lv_aload_n hx hb dX1_setLetter_7 rfl (lv_at hl 0 rfl) ?_
    refine va_get (D := (dC, dI)) (ci := 2) (v := .int (sI s0.1 0)) (C := RX1) (T := TX1) (N := 13) hx hb hts hi_dm_X1_setLetter_X1 hown hK hP 0 rfl rfl 2 (by decide) (hts (.fieldLink RX1 65 "TimeMachine$Assembler" "statements" "I") (List.mem_of_getElem? (i := 2) rfl)) (fun _ h9 => h9) rfl dX1_setLetter_8 ?_
    refine lv_if_le (tgt := 32) hx hb dX1_setLetter_11 (by decide) (fun c2 => ?_) (fun c2 => ?_)
    · have h := nd_pos h c2
      exact (db_X1_setLetter_32 C K)  s0 _ _ _ h hP hD hS (lv_sub hl [] rfl)
    · have h := nd_neg h c2
      refine lv_aload_n hx hb dX1_setLetter_14 rfl (lv_at hl 0 rfl) ?_
      refine va_get (D := (dC, dI)) (ci := 2) (v := .ref (a 1)) (C := RX1) (T := TX1) (N := 13) hx hb hts hi_dm_X1_setLetter_X1 hown hK hP 0 rfl rfl 1 (by decide) (hts (.fieldLink RX1 19 "TimeMachine$Assembler" "statement" "[I") (List.mem_of_getElem? (i := 3) rfl)) (fun _ h9 => h9) rfl dX1_setLetter_15 ?_
      refine lv_aload_n hx hb dX1_setLetter_18 rfl (lv_at hl 0 rfl) ?_
      refine va_get (D := (dC, dI)) (ci := 2) (v := .int (sI s0.1 0)) (C := RX1) (T := TX1) (N := 13) hx hb hts hi_dm_X1_setLetter_X1 hown hK hP 0 rfl rfl 2 (by decide) (hts (.fieldLink RX1 65 "TimeMachine$Assembler" "statements" "I") (List.mem_of_getElem? (i := 2) rfl)) (fun _ h9 => h9) rfl dX1_setLetter_19 ?_
      refine lv_iconst (v := 1) hx hb dX1_setLetter_22 (by decide) ?_
      refine lv_isub hx hb dX1_setLetter_23 ?_
      refine lv_bipush (v := 8) hx hb dX1_setLetter_24 (by decide) ?_
      refine lv_imul hx hb dX1_setLetter_26 ?_
      refine lv_bipush (v := 7) hx hb dX1_setLetter_27 (by decide) ?_
      refine lv_iadd hx hb dX1_setLetter_29 ?_
      refine lv_iload_n hx hb dX1_setLetter_30 rfl (lv_at hl 1 rfl) ?_
      obtain ⟨i3, h⟩ := nd_ck_e h
      refine va_iast (i := ((((sI s0.1 0) - 1) * 8) + 7)) (x := v0) hx hb hK hP hD hS 1 0 rfl rfl i3 dX1_setLetter_31 (fun H locs hP hD hS => ?_)
      obtain ⟨s4, es4, h⟩ := nd_let_e h
      have hP : va_P (dC, dI) vwCl (dw_X1 a ac s4) H := by rw [es4]; exact hP
      have hD : va_D A (dw_X1 a ac s4) := by rw [es4]; exact hD
      exact (db_X1_setLetter_32 C K)  s4 _ _ _ h hP hD hS (lv_sub hl [] rfl)
set_option maxHeartbeats 40000000 in
set_option maxRecDepth 100000 in
theorem dm_X1_setLetter (l : Launch) (hlt : l.stackTraces = false) (dC : Nat → ClassId) (dI : Nat → Nat → Nat) (a : Nat → Nat) (ac : Nat → ClassId) (n : Nat) (v0 : Int32) (s0 : St × (St)) {r : St × (St)} (h : df_X1_setLetter n v0 s0 = some r) (sz : Nat) : Met l yX1_setLetter ow_dm_X1_setLetter ({ frames := 0, cells := 0, slots := 0, locals := 0 }) (va_Pc [.ref (a 0), .int v0] (fun U => U.heap.size = sz ∧ va_P (dC, dI) vwCl (dw_X1 a ac s0) U.heap ∧ va_K (dC, dI) vwCl (dk_X1 ac) U ∧ va_D (fun _ => True) (dw_X1 a ac s0) ∧ nv_E dI (va_A (dw_X1 a ac s0) sz) U)) (va_Qv (fun _ => True) (fun (_ : Unit) t => va_P (dC, dI) vwCl (dw_X1 a ac r) t.heap ∧ va_K (dC, dI) vwCl (dk_X1 ac) t ∧ va_D (va_A (dw_X1 a ac s0) sz) (dw_X1 a ac r)) (va_A (dw_X1 a ac s0) sz)) 0 0 (va_A (dw_X1 a ac s0) sz) := by
  refine Met.ofW (cc := cX1_setLetter) (maxL := 2) (ret := none) (by decide) rfl ?_
  intro p e s m args below meth c s₁ B hml hv
  obtain ⟨rfl, hsz, hP, hK, hD0, hN⟩ := hv
  have hx := B.exec
  have hb := B.bytes
  have hr := B.returns
  have hts := atoms_spec (ws := ow_dm_X1_setLetter) B.pre
  have hown : s.vm.findClass RX1 = some m.cls := findClass_of_methodNamed B.named
  have hlocks := B.notSynchronized
  subst hsz
  have hD := hD0.self (sz := s.heap.size)
  generalize hAe : va_A (dw_X1 a ac s0) s.heap.size = A at hD hN ⊢
  have hA : ∀ q : Nat, s.heap.size ≤ q → A q := fun q h => by rw [← hAe]; exact Or.inr h
  have hl := lv_entry ([.ref (a 0), .int v0]) (n := 2) (Nat.le_of_ble_eq_true rfl)
  rw [lg_entry_eq]
  generalize (lg_sl ([.ref (a 0), .int v0]) ++ List.replicate (2 - (lg_sl ([.ref (a 0), .int v0])).length) Slot.unset).toArray = ls at hl ⊢
  have hl : lv_has ls 2 [(0, .ref (a 0)), (1, .int v0)] := hl
  exact db_X1_setLetter_0 (dC := dC) (dI := dI) (a := a) (ac := ac) (n := n) (r := r) ⟨hlt, hx, hb, hml, hown, hts, hN, hA, hK⟩ (fun pc τ H locs ls d er hP hD hS => by subst er; exact W.vret hx hb hr (fun t ht hW => ⟨⟨(), rfl, trivial, by rw [ht]; exact hP, va_K.moved hW.alike hK, hD⟩, hS.F ht⟩) hS.2.2 d) v0 s0 _ _ _ h hP hD va_S.rf (lv_sub hl [0, 1] rfl)
def ow_dm_X9_startLine : List Cond := .code yX9_startLine cX9_startLine 3 none :: ([.fieldLink RX9 55 "TimeMachine$Reader" "at" "I", .fieldLink RX9 9 "TimeMachine$Reader" "source" "[B", .methodLink RX9 58 Lib.Math.min.name, .static Lib.Math.min.name, .initialized "java/lang/Math", .code Lib.Math.min.name Lib.Math.min.code 2 (some .int), .fieldLink RX9 64 "TimeMachine$Reader" "stop" "I", .methodLink RX9 67 yX9_next, .instanceMethod yX9_next, .selects RX9 yX9_next yX9_next, .initialized RX9] ++ (u_ws RX9 TX9 20 ++ (ow_dm_X9_next ++ [])))
theorem gd_dm_X9_startLine : ∀ w ∈ ow_dm_X9_startLine, (w.onTables && w.keeps) = true ∨ ∃ ty, w = Cond.arrayClass ty := List.forall_mem_cons.mpr ⟨good_of_word rfl, List.forall_mem_append.mpr ⟨fun w h => good_of_word (List.all_eq_true.mp (by decide +kernel) w h), List.forall_mem_append.mpr ⟨gu_X9, List.forall_mem_append.mpr ⟨gd_dm_X9_next, fun _ h => nomatch h⟩⟩⟩⟩
theorem hi_dm_X9_startLine_X9 : ∀ w ∈ u_ws RX9 TX9 20, w ∈ ow_dm_X9_startLine := fun w h => List.mem_cons_of_mem _ (List.mem_append_right _ (List.mem_append_left _ h))
theorem gi_dm_X9_startLine_0 : GoodIn ow_dm_X9_startLine (wsV RX9 67 RX9 yX9_next ow_dm_X9_next) := goodIn_app (goodIn_of _ (by decide +kernel)) (fun w h => ⟨List.mem_cons_of_mem _ (List.mem_append_right _ (List.mem_append_right _ (List.mem_append_left _ h))), gd_dm_X9_next w h⟩)
def dj_X9_startLine_0 (p : Program) (l : Launch) (e : Env) (s : State) (m : MethodId) (args : Array Value) (below : List Frame) (meth : Method) (c : Code) (Q : State → Prop) (A : Nat → Prop) (dC : Nat → ClassId) (dI : Nat → Nat → Nat) (a : Nat → Nat) (ac : Nat → ClassId) (g : Int32 → Int32 → (St) → Option (St)) (r : St) : Prop := ∀ (v0 : Int32) (v1 : Int32) (s0 : St) (H : Heap) (locs : List Loc) (ls : Array Slot), g v0 v1 s0 = some r → va_P (dC, dI) vwCl (dw_X9 a ac s0) H → va_D A (dw_X9 a ac s0) → va_S A s.heap H locs → lv_has ls 3 [(0, .ref (a 0)), (1, .int v0), (2, .int v1)] → W p l e (headSpec ow_dm_X9_startLine ({ frames := 6, cells := 0, slots := 0, locals := 133 })).room s m args below meth c H locs 0 0 Q (F0 m 0 ls [])
set_option maxHeartbeats 40000000 in
set_option maxRecDepth 100000 in
theorem db_X9_startLine_0 {p : Program} {l : Launch} {e : Env} {s : State} {m : MethodId} {args : Array Value} {below : List Frame} {meth : Method} {c : Code} {Q : State → Prop} {A : Nat → Prop} {dC : Nat → ClassId} {dI : Nat → Nat → Nat} {a : Nat → Nat} {ac : Nat → ClassId} {n : Nat} {r : St} (C : nd_C p l s m args c A (dC, dI) cX9_startLine 3 RX9 ow_dm_X9_startLine (dk_X9 ac)) (K : nd_Kv p l e (headSpec ow_dm_X9_startLine ({ frames := 6, cells := 0, slots := 0, locals := 133 })).room s m args below meth c Q A (dC, dI) cX9_startLine (St) (dw_X9 a ac) r) : dj_X9_startLine_0 p l e s m args below meth c Q A dC dI a ac (df_X9_startLine_0 n) r := by
  obtain ⟨hlt, hx, hb, hml, hown, hts, hN, hA, hK⟩ := id C
  intro v0 v1 s0 H locs ls h hP hD hS hl
  unfold df_X9_startLine_0 at h
  refine lv_aload_n hx hb dX9_startLine_0 rfl (lv_at hl 0 rfl) ?_
  refine lv_iload_n hx hb dX9_startLine_1 rfl (lv_at hl 1 rfl) ?_
  refine va_put (D := (dC, dI)) (ci := 10) (v := .int v0) (ty := .int) (C := RX9) (T := TX9) (N := 20) hx hb hts hi_dm_X9_startLine_X9 tyX9 tyX9_ok nmX9 hown hK hP hD hS 0 rfl rfl 1 (by decide) (hts (.fieldLink RX9 55 "TimeMachine$Reader" "at" "I") (List.mem_of_getElem? (i := 1) rfl)) (fun _ h9 => h9) rfl (by decide +kernel) rfl rfl (Nat.le_of_ble_eq_true rfl) dX9_startLine_2 (fun H locs hP hD hS => ?_)
  obtain ⟨s1, es1, h⟩ := nd_let_e h
  have hP : va_P (dC, dI) vwCl (dw_X9 a ac s1) H := by rw [es1]; exact hP
  have hD : va_D A (dw_X9 a ac s1) := by rw [es1]; exact hD
  refine lv_aload_n hx hb dX9_startLine_5 rfl (lv_at hl 0 rfl) ?_
  refine lv_iload_n hx hb dX9_startLine_6 rfl (lv_at hl 2 rfl) ?_
  refine lv_aload_n hx hb dX9_startLine_7 rfl (lv_at hl 0 rfl) ?_
  obtain ⟨o2, h⟩ := nd_o_e h
  refine va_get (D := (dC, dI)) (ci := 10) (v := .ref (a 8)) (C := RX9) (T := TX9) (N := 20) hx hb hts hi_dm_X9_startLine_X9 hown hK hP 0 rfl rfl 0 (by decide) (hts (.fieldLink RX9 9 "TimeMachine$Reader" "source" "[B") (List.mem_of_getElem? (i := 2) rfl)) (fun _ h9 => h9) (congrArg (fun z => some (va_rf (Option.map a z))) o2) dX9_startLine_8 ?_
  refine va_alen (v := 32768) hx hb hK hP 8 7 rfl rfl (show Int32.ofNat 32768 = 32768 by decide) dX9_startLine_11 ?_
  refine va_mmin hx hb (by rw [hml]; exact hl.1.symm) hown (hts (.methodLink RX9 58 Lib.Math.min.name) (List.mem_of_getElem? (i := 3) rfl)) (hts (.static Lib.Math.min.name) (List.mem_of_getElem? (i := 4) rfl)) (hts (.initialized "java/lang/Math") (List.mem_of_getElem? (i := 5) rfl)) (hts (.code Lib.Math.min.name Lib.Math.min.code 2 (some .int)) (List.mem_of_getElem? (i := 6) rfl)) (Nat.le_of_ble_eq_true rfl) (Nat.le_of_ble_eq_true rfl) (by decide +kernel) (by decide +kernel) dX9_startLine_12 ?_
  refine va_put (D := (dC, dI)) (ci := 10) (v := .int (if (32768 : Int32) < v1 then 32768 else v1)) (ty := .int) (C := RX9) (T := TX9) (N := 20) hx hb hts hi_dm_X9_startLine_X9 tyX9 tyX9_ok nmX9 hown hK hP hD hS 0 rfl rfl 2 (by decide) (hts (.fieldLink RX9 64 "TimeMachine$Reader" "stop" "I") (List.mem_of_getElem? (i := 7) rfl)) (fun _ h9 => h9) rfl (by decide +kernel) rfl rfl (Nat.le_of_ble_eq_true rfl) dX9_startLine_15 (fun H locs hP hD hS => ?_)
  obtain ⟨s3, es3, h⟩ := nd_let_e h
  have hP : va_P (dC, dI) vwCl (dw_X9 a ac s3) H := by rw [es3]; exact hP
  have hD : va_D A (dw_X9 a ac s3) := by rw [es3]; exact hD
  refine lv_aload_n hx hb dX9_startLine_18 rfl (lv_at hl 0 rfl) ?_
  obtain ⟨s5, hq, h⟩ := nd_b1_e h
  have hPc := hP
  have hDc := hD
  have hKc := hK
  have hFc := nd_rs hD hS hA
  refine nd_cVv (As := []) (rest := []) (w' := dw_X9 a ac s5) ⟨hx, hb, hml, hown, hts⟩ (fun sz => dm_X9_next l hlt dC dI a ac n  s3 hq sz) (cwV 0 hts gi_dm_X9_startLine_0 rfl rfl rfl (by decide +kernel) ⟨Nat.le_of_ble_eq_true rfl, Nat.le_of_ble_eq_true rfl⟩) hPc hDc hKc hS hA hN (va_recv hKc hPc (ci := 10) (q0 := 0) rfl rfl) rfl hl.1 rfl (Nat.le_of_ble_eq_true rfl) dX9_startLine_19 (fun H locs hP1 hD1 hk1 hS => ?_)
  have hP := hP1
  have hD := hD1.weaken (fun k q _ h => hFc q.1 h)
  exact K _ _ _ _ _ dX9_startLine_22 (Option.some.inj h).symm hP hD hS
set_option maxHeartbeats 40000000 in
set_option maxRecDepth 100000 in
theorem dm_X9_startLine (l : Launch) (hlt : l.stackTraces = false) (dC : Nat → ClassId) (dI : Nat → Nat → Nat) (a : Nat → Nat) (ac : Nat → ClassId) (n : Nat) (v0 : Int32) (v1 : Int32) (s0 : St) {r : St} (h : df_X9_startLine n v0 v1 s0 = some r) (sz : Nat) : Met l yX9_startLine ow_dm_X9_startLine ({ frames := 6, cells := 0, slots := 0, locals := 133 }) (va_Pc [.ref (a 0), .int v0, .int v1] (fun U => U.heap.size = sz ∧ va_P (dC, dI) vwCl (dw_X9 a ac s0) U.heap ∧ va_K (dC, dI) vwCl (dk_X9 ac) U ∧ va_D (fun _ => True) (dw_X9 a ac s0) ∧ nv_E dI (va_A (dw_X9 a ac s0) sz) U)) (va_Qv (fun _ => True) (fun (_ : Unit) t => va_P (dC, dI) vwCl (dw_X9 a ac r) t.heap ∧ va_K (dC, dI) vwCl (dk_X9 ac) t ∧ va_D (va_A (dw_X9 a ac s0) sz) (dw_X9 a ac r)) (va_A (dw_X9 a ac s0) sz)) 0 0 (va_A (dw_X9 a ac s0) sz) := by
  refine Met.ofW (cc := cX9_startLine) (maxL := 3) (ret := none) (by decide) rfl ?_
  intro p e s m args below meth c s₁ B hml hv
  obtain ⟨rfl, hsz, hP, hK, hD0, hN⟩ := hv
  have hx := B.exec
  have hb := B.bytes
  have hr := B.returns
  have hts := atoms_spec (ws := ow_dm_X9_startLine) B.pre
  have hown : s.vm.findClass RX9 = some m.cls := findClass_of_methodNamed B.named
  have hlocks := B.notSynchronized
  subst hsz
  have hD := hD0.self (sz := s.heap.size)
  generalize hAe : va_A (dw_X9 a ac s0) s.heap.size = A at hD hN ⊢
  have hA : ∀ q : Nat, s.heap.size ≤ q → A q := fun q h => by rw [← hAe]; exact Or.inr h
  have hl := lv_entry ([.ref (a 0), .int v0, .int v1]) (n := 3) (Nat.le_of_ble_eq_true rfl)
  rw [lg_entry_eq]
  generalize (lg_sl ([.ref (a 0), .int v0, .int v1]) ++ List.replicate (3 - (lg_sl ([.ref (a 0), .int v0, .int v1])).length) Slot.unset).toArray = ls at hl ⊢
  have hl : lv_has ls 3 [(0, .ref (a 0)), (1, .int v0), (2, .int v1)] := hl
  exact db_X9_startLine_0 (dC := dC) (dI := dI) (a := a) (ac := ac) (n := n) (r := r) ⟨hlt, hx, hb, hml, hown, hts, hN, hA, hK⟩ (fun pc τ H locs ls d er hP hD hS => by subst er; exact W.vret hx hb hr (fun t ht hW => ⟨⟨(), rfl, trivial, by rw [ht]; exact hP, va_K.moved hW.alike hK, hD⟩, hS.F ht⟩) hS.2.2 d) v0 v1 s0 _ _ _ h hP hD va_S.rf (lv_sub hl [0, 1, 2] rfl)
