def ow_dm_X16_sleep : List Cond := .code yX16_sleep cX16_sleep 2 (some .int) :: ([.fieldLink RX16 38 "TimeMachineModel$Machine" "since" "[J", .fieldLink RX16 232 "TimeMachineModel$Machine" "p" "I", .fieldLink RX16 151 "TimeMachineModel$Machine" "clock" "J", .constantLong RX16 175 (-1), .methodLink RX16 415 yX16_tell, .instanceMethod yX16_tell, .selects RX16 yX16_tell yX16_tell, .initialized RX16, .methodLink RX16 390 yX16_plain, .static yX16_plain] ++ (u_ws RX16 TX16 56 ++ (ow_dm_X16_tell ++ (ow_dm_X16_plain ++ []))))
theorem gd_dm_X16_sleep : ∀ w ∈ ow_dm_X16_sleep, (w.onTables && w.keeps) = true ∨ ∃ ty, w = Cond.arrayClass ty := List.forall_mem_cons.mpr ⟨good_of_word rfl, List.forall_mem_append.mpr ⟨fun w h => good_of_word (List.all_eq_true.mp (by decide +kernel) w h), List.forall_mem_append.mpr ⟨gu_X16, List.forall_mem_append.mpr ⟨gd_dm_X16_tell, List.forall_mem_append.mpr ⟨gd_dm_X16_plain, fun _ h => nomatch h⟩⟩⟩⟩⟩
theorem hi_dm_X16_sleep_X16 : ∀ w ∈ u_ws RX16 TX16 56, w ∈ ow_dm_X16_sleep := fun w h => List.mem_cons_of_mem _ (List.mem_append_right _ (List.mem_append_left _ h))
theorem gi_dm_X16_sleep_0 : GoodIn ow_dm_X16_sleep (wsV RX16 415 RX16 yX16_tell ow_dm_X16_tell) := goodIn_app (goodIn_of _ (by decide +kernel)) (fun w h => ⟨List.mem_cons_of_mem _ (List.mem_append_right _ (List.mem_append_right _ (List.mem_append_left _ h))), gd_dm_X16_tell w h⟩)
theorem gi_dm_X16_sleep_1 : GoodIn ow_dm_X16_sleep (wsS RX16 390 yX16_plain ow_dm_X16_plain) := goodIn_app (goodIn_of _ (by decide +kernel)) (fun w h => ⟨List.mem_cons_of_mem _ (List.mem_append_right _ (List.mem_append_right _ (List.mem_append_right _ (List.mem_append_left _ h)))), gd_dm_X16_plain w h⟩)
def dj_X16_sleep_32 (p : Program) (l : Launch) (e : Env) (s : State) (m : MethodId) (args : Array Value) (below : List Frame) (meth : Method) (c : Code) (Q : State → Prop) (A : Nat → Prop) (dC : Nat → ClassId) (dI : Nat → Nat → Nat) (a : Nat → Nat) (ac : Nat → ClassId) (g : (St × (St)) → Option (Int32 × (St × (St)))) (r : Int32 × (St × (St))) : Prop := ∀ (s0 : St × (St)) (H : Heap) (locs : List Loc) (ls : Array Slot), g s0 = some r → va_P (dC, dI) vwCl (dw_X16 a ac s0) H → va_D A (dw_X16 a ac s0) → va_S A s.heap H locs → lv_has ls 2 [(0, .ref (a 0))] → W p l e (headSpec ow_dm_X16_sleep ({ frames := 1, cells := 0, slots := 0, locals := 21 })).room s m args below meth c H locs 0 0 Q (F0 m 32 ls [])
def dj_X16_sleep_0 (p : Program) (l : Launch) (e : Env) (s : State) (m : MethodId) (args : Array Value) (below : List Frame) (meth : Method) (c : Code) (Q : State → Prop) (A : Nat → Prop) (dC : Nat → ClassId) (dI : Nat → Nat → Nat) (a : Nat → Nat) (ac : Nat → ClassId) (g : Int32 → (St × (St)) → Option (Int32 × (St × (St)))) (r : Int32 × (St × (St))) : Prop := ∀ (v0 : Int32) (s0 : St × (St)) (H : Heap) (locs : List Loc) (ls : Array Slot), g v0 s0 = some r → va_P (dC, dI) vwCl (dw_X16 a ac s0) H → va_D A (dw_X16 a ac s0) → va_S A s.heap H locs → lv_has ls 2 [(0, .ref (a 0)), (1, .int v0)] → W p l e (headSpec ow_dm_X16_sleep ({ frames := 1, cells := 0, slots := 0, locals := 21 })).room s m args below meth c H locs 0 0 Q (F0 m 0 ls [])
set_option maxHeartbeats 40000000 in
set_option maxRecDepth 100000 in
theorem db_X16_sleep_32 {p : Program} {l : Launch} {e : Env} {s : State} {m : MethodId} {args : Array Value} {below : List Frame} {meth : Method} {c : Code} {Q : State → Prop} {A : Nat → Prop} {dC : Nat → ClassId} {dI : Nat → Nat → Nat} {a : Nat → Nat} {ac : Nat → ClassId} {n : Nat} {r : Int32 × (St × (St))} (C : nd_C p l s m args c A (dC, dI) cX16_sleep 2 RX16 ow_dm_X16_sleep (dk_X16 ac)) (K : nd_Ki p l e (headSpec ow_dm_X16_sleep ({ frames := 1, cells := 0, slots := 0, locals := 21 })).room s m args below meth c Q A (dC, dI) cX16_sleep .int (St × (St)) (dw_X16 a ac) r) : dj_X16_sleep_32 p l e s m args below meth c Q A dC dI a ac (df_X16_sleep_32 n) r := by
  obtain ⟨hlt, hx, hb, hml, hown, hts, hN, hA, hK⟩ := id C
  intro s0 H locs ls h hP hD hS hl
  unfold df_X16_sleep_32 at h
  refine lv_aload_n hx hb dX16_sleep_32 rfl (lv_at hl 0 rfl) ?_
  refine va_get (D := (dC, dI)) (ci := 17) (v := .long (sL s0.1 1)) (C := RX16) (T := TX16) (N := 56) hx hb hts hi_dm_X16_sleep_X16 hown hK hP 0 rfl rfl 7 (by decide) (hts (.fieldLink RX16 151 "TimeMachineModel$Machine" "clock" "J") (List.mem_of_getElem? (i := 3) rfl)) (fun _ h9 => h9) rfl dX16_sleep_33 ?_
  refine lv_aload_n hx hb dX16_sleep_36 rfl (lv_at hl 0 rfl) ?_
  refine va_get (D := (dC, dI)) (ci := 17) (v := .ref (a 10)) (C := RX16) (T := TX16) (N := 56) hx hb hts hi_dm_X16_sleep_X16 hown hK hP 0 rfl rfl 18 (by decide) (hts (.fieldLink RX16 38 "TimeMachineModel$Machine" "since" "[J") (List.mem_of_getElem? (i := 1) rfl)) (fun _ h9 => h9) rfl dX16_sleep_37 ?_
  refine lv_aload_n hx hb dX16_sleep_40 rfl (lv_at hl 0 rfl) ?_
  refine va_get (D := (dC, dI)) (ci := 17) (v := .int (sI s0.1 12)) (C := RX16) (T := TX16) (N := 56) hx hb hts hi_dm_X16_sleep_X16 hown hK hP 0 rfl rfl 51 (by decide) (hts (.fieldLink RX16 232 "TimeMachineModel$Machine" "p" "I") (List.mem_of_getElem? (i := 2) rfl)) (fun _ h9 => h9) rfl dX16_sleep_41 ?_
  obtain ⟨i3, h⟩ := nd_ck_e h
  refine va_lald (i := (sI s0.1 12)) hx hb hK hP 10 9 rfl rfl i3 dX16_sleep_44 ?_
  refine W.lcmp hx hb dX16_sleep_45 ?_
  refine lv_if_ge (tgt := 55) hx hb dX16_sleep_46 (by decide) (fun c4 => ?_) (fun c4 => ?_)
  · have h := nd_pos h c4
    refine lv_aload_n hx hb dX16_sleep_55 rfl (lv_at hl 0 rfl) ?_
    refine va_get (D := (dC, dI)) (ci := 17) (v := .ref (a 10)) (C := RX16) (T := TX16) (N := 56) hx hb hts hi_dm_X16_sleep_X16 hown hK hP 0 rfl rfl 18 (by decide) (hts (.fieldLink RX16 38 "TimeMachineModel$Machine" "since" "[J") (List.mem_of_getElem? (i := 1) rfl)) (fun _ h9 => h9) rfl dX16_sleep_56 ?_
    refine lv_aload_n hx hb dX16_sleep_59 rfl (lv_at hl 0 rfl) ?_
    refine va_get (D := (dC, dI)) (ci := 17) (v := .int (sI s0.1 12)) (C := RX16) (T := TX16) (N := 56) hx hb hts hi_dm_X16_sleep_X16 hown hK hP 0 rfl rfl 51 (by decide) (hts (.fieldLink RX16 232 "TimeMachineModel$Machine" "p" "I") (List.mem_of_getElem? (i := 2) rfl)) (fun _ h9 => h9) rfl dX16_sleep_60 ?_
    refine lv_ldc2 hx hb hown (hts (.constantLong RX16 175 (-1)) (List.mem_of_getElem? (i := 4) rfl)) dX16_sleep_63 ?_
    obtain ⟨i5, h⟩ := nd_ck_e h
    refine va_last (i := (sI s0.1 12)) (x := (-1)) hx hb hK hP hD hS 10 9 rfl rfl i5 dX16_sleep_66 (fun H locs hP hD hS => ?_)
    obtain ⟨s6, es6, h⟩ := nd_let_e h
    have hP : va_P (dC, dI) vwCl (dw_X16 a ac s6) H := by rw [es6]; exact hP
    have hD : va_D A (dw_X16 a ac s6) := by rw [es6]; exact hD
    refine lv_iconst (v := 0) hx hb dX16_sleep_67 (by decide) ?_
    exact K _ _ _ _ _ _ dX16_sleep_68 rfl (Option.some.inj h).symm hP hD hS
  · have h := nd_neg h c4
    refine lv_aload_n hx hb dX16_sleep_49 rfl (lv_at hl 0 rfl) ?_
    refine lv_iconst (v := 1) hx hb dX16_sleep_50 (by decide) ?_
    obtain ⟨q7, s8, hq, h⟩ := nd_b2_e h
    have hPc := hP
    have hDc := hD
    have hKc := hK
    have hFc := nd_rs hD hS hA
    refine nd_cVi (As := [.int 1]) (rest := []) (q := q7) (w' := dw_X16 a ac s8) ⟨hx, hb, hml, hown, hts⟩ (fun sz => dm_X16_tell l hlt dC dI a ac n (1) s0 hq sz) (cwV 1 hts gi_dm_X16_sleep_0 rfl rfl rfl (by decide +kernel) ⟨Nat.le_of_ble_eq_true rfl, Nat.le_of_ble_eq_true rfl⟩) hPc hDc hKc hS hA hN (va_recv hKc hPc (ci := 17) (q0 := 0) rfl rfl) rfl hl.1 rfl (Nat.le_of_ble_eq_true rfl) dX16_sleep_51 (fun H locs hP1 hD1 hk1 hS => ?_)
    have hP := hP1
    have hD := hD1.weaken (fun k q _ h => hFc q.1 h)
    exact K _ _ _ _ _ _ dX16_sleep_54 rfl (Option.some.inj h).symm hP hD hS
set_option maxHeartbeats 40000000 in
set_option maxRecDepth 100000 in
theorem db_X16_sleep_0 {p : Program} {l : Launch} {e : Env} {s : State} {m : MethodId} {args : Array Value} {below : List Frame} {meth : Method} {c : Code} {Q : State → Prop} {A : Nat → Prop} {dC : Nat → ClassId} {dI : Nat → Nat → Nat} {a : Nat → Nat} {ac : Nat → ClassId} {n : Nat} {r : Int32 × (St × (St))} (C : nd_C p l s m args c A (dC, dI) cX16_sleep 2 RX16 ow_dm_X16_sleep (dk_X16 ac)) (K : nd_Ki p l e (headSpec ow_dm_X16_sleep ({ frames := 1, cells := 0, slots := 0, locals := 21 })).room s m args below meth c Q A (dC, dI) cX16_sleep .int (St × (St)) (dw_X16 a ac) r) : dj_X16_sleep_0 p l e s m args below meth c Q A dC dI a ac (df_X16_sleep_0 n) r := by
  obtain ⟨hlt, hx, hb, hml, hown, hts, hN, hA, hK⟩ := id C
  intro v0 s0 H locs ls h hP hD hS hl
  unfold df_X16_sleep_0 at h
  refine lv_aload_n hx hb dX16_sleep_0 rfl (lv_at hl 0 rfl) ?_
  refine va_get (D := (dC, dI)) (ci := 17) (v := .ref (a 10)) (C := RX16) (T := TX16) (N := 56) hx hb hts hi_dm_X16_sleep_X16 hown hK hP 0 rfl rfl 18 (by decide) (hts (.fieldLink RX16 38 "TimeMachineModel$Machine" "since" "[J") (List.mem_of_getElem? (i := 1) rfl)) (fun _ h9 => h9) rfl dX16_sleep_1 ?_
  refine lv_aload_n hx hb dX16_sleep_4 rfl (lv_at hl 0 rfl) ?_
  refine va_get (D := (dC, dI)) (ci := 17) (v := .int (sI s0.1 12)) (C := RX16) (T := TX16) (N := 56) hx hb hts hi_dm_X16_sleep_X16 hown hK hP 0 rfl rfl 51 (by decide) (hts (.fieldLink RX16 232 "TimeMachineModel$Machine" "p" "I") (List.mem_of_getElem? (i := 2) rfl)) (fun _ h9 => h9) rfl dX16_sleep_5 ?_
  obtain ⟨i1, h⟩ := nd_ck_e h
  refine va_lald (i := (sI s0.1 12)) hx hb hK hP 10 9 rfl rfl i1 dX16_sleep_8 ?_
  refine lv_lconst (v := 0) hx hb dX16_sleep_9 (by decide) ?_
  refine W.lcmp hx hb dX16_sleep_10 ?_
  refine lv_if_ge (tgt := 32) hx hb dX16_sleep_11 (by decide) (fun c2 => ?_) (fun c2 => ?_)
  · have h := nd_pos h c2
    exact (db_X16_sleep_32 C K)  s0 _ _ _ h hP hD hS (lv_sub hl [0] rfl)
  · have h := nd_neg h c2
    refine lv_aload_n hx hb dX16_sleep_14 rfl (lv_at hl 0 rfl) ?_
    refine va_get (D := (dC, dI)) (ci := 17) (v := .ref (a 10)) (C := RX16) (T := TX16) (N := 56) hx hb hts hi_dm_X16_sleep_X16 hown hK hP 0 rfl rfl 18 (by decide) (hts (.fieldLink RX16 38 "TimeMachineModel$Machine" "since" "[J") (List.mem_of_getElem? (i := 1) rfl)) (fun _ h9 => h9) rfl dX16_sleep_15 ?_
    refine lv_aload_n hx hb dX16_sleep_18 rfl (lv_at hl 0 rfl) ?_
    refine va_get (D := (dC, dI)) (ci := 17) (v := .int (sI s0.1 12)) (C := RX16) (T := TX16) (N := 56) hx hb hts hi_dm_X16_sleep_X16 hown hK hP 0 rfl rfl 51 (by decide) (hts (.fieldLink RX16 232 "TimeMachineModel$Machine" "p" "I") (List.mem_of_getElem? (i := 2) rfl)) (fun _ h9 => h9) rfl dX16_sleep_19 ?_
    refine lv_aload_n hx hb dX16_sleep_22 rfl (lv_at hl 0 rfl) ?_
    refine va_get (D := (dC, dI)) (ci := 17) (v := .long (sL s0.1 1)) (C := RX16) (T := TX16) (N := 56) hx hb hts hi_dm_X16_sleep_X16 hown hK hP 0 rfl rfl 7 (by decide) (hts (.fieldLink RX16 151 "TimeMachineModel$Machine" "clock" "J") (List.mem_of_getElem? (i := 3) rfl)) (fun _ h9 => h9) rfl dX16_sleep_23 ?_
    refine lv_iload_n hx hb dX16_sleep_26 rfl (lv_at hl 1 rfl) ?_
    obtain ⟨q10, s11, hq, h⟩ := nd_b2_e h
    have hPc : va_P (dC, dI) vwCl (dw_P a ac ()) H := nd_p0
    have hDc : va_D A (dw_P a ac ()) := nd_d0
    have hKc : va_K (dC, dI) vwCl (dk_P ac) s := nd_y0 hK
    have hFc : ∀ q, va_A (dw_P a ac ()) H.size q → A q := nd_r0 hS hA
    refine nd_cSl (As := [.int v0]) (rest := [.long (sL s0.1 1), .int (sI s0.1 12), .ref (a 10)]) (q := q10) (w' := dw_P a ac s11) ⟨hx, hb, hml, hown, hts⟩ (fun sz => dm_X16_plain l hlt dC dI a ac n (v0) () hq sz) (cwS 1 hts gi_dm_X16_sleep_1 rfl rfl rfl (by decide +kernel) ⟨Nat.le_of_ble_eq_true rfl, Nat.le_of_ble_eq_true rfl⟩) hPc hDc hKc hS hA hN rfl hl.1 rfl (Nat.le_of_ble_eq_true rfl) dX16_sleep_27 (fun H locs hP1 hD1 hk1 hS => ?_)
    have hP := nd_n0 hP hk1
    refine lv_ladd hx hb dX16_sleep_30 ?_
    obtain ⟨i13, h⟩ := nd_ck_e h
    refine va_last (i := (sI s0.1 12)) (x := (((sL s0.1 1) : Int64) + q10)) hx hb hK hP hD hS 10 9 rfl rfl i13 dX16_sleep_31 (fun H locs hP hD hS => ?_)
    obtain ⟨s14, es14, h⟩ := nd_let_e h
    have hP : va_P (dC, dI) vwCl (dw_X16 a ac s14) H := by rw [es14]; exact hP
    have hD : va_D A (dw_X16 a ac s14) := by rw [es14]; exact hD
    exact (db_X16_sleep_32 C K)  s14 _ _ _ h hP hD hS (lv_sub hl [0] rfl)
set_option maxHeartbeats 40000000 in
set_option maxRecDepth 100000 in
theorem dm_X16_sleep (l : Launch) (hlt : l.stackTraces = false) (dC : Nat → ClassId) (dI : Nat → Nat → Nat) (a : Nat → Nat) (ac : Nat → ClassId) (n : Nat) (v0 : Int32) (s0 : St × (St)) {r : Int32 × (St × (St))} (h : df_X16_sleep n v0 s0 = some r) (sz : Nat) : Met l yX16_sleep ow_dm_X16_sleep ({ frames := 1, cells := 0, slots := 0, locals := 21 }) (va_Pc [.ref (a 0), .int v0] (fun U => U.heap.size = sz ∧ va_P (dC, dI) vwCl (dw_X16 a ac s0) U.heap ∧ va_K (dC, dI) vwCl (dk_X16 ac) U ∧ va_D (fun _ => True) (dw_X16 a ac s0) ∧ nv_E (va_A (dw_X16 a ac s0) sz) U)) (va_Qi (fun x _ => x = r.1) (fun (_ : Unit) t => va_P (dC, dI) vwCl (dw_X16 a ac r.2) t.heap ∧ va_K (dC, dI) vwCl (dk_X16 ac) t ∧ va_D (va_A (dw_X16 a ac s0) sz) (dw_X16 a ac r.2)) (va_A (dw_X16 a ac s0) sz)) 0 0 (va_A (dw_X16 a ac s0) sz) := by
  refine Met.ofW (cc := cX16_sleep) (maxL := 2) (ret := (some .int)) (by decide) rfl ?_
  intro p e s m args below meth c s₁ B hml hv
  obtain ⟨rfl, hsz, hP, hK, hD0, hN⟩ := hv
  have hx := B.exec
  have hb := B.bytes
  have hr := B.returns
  have hts := atoms_spec (ws := ow_dm_X16_sleep) B.pre
  have hown : s.vm.findClass RX16 = some m.cls := findClass_of_methodNamed B.named
  have hlocks := B.notSynchronized
  subst hsz
  have hD := hD0.self (sz := s.heap.size)
  generalize hAe : va_A (dw_X16 a ac s0) s.heap.size = A at hD hN ⊢
  have hA : ∀ q : Nat, s.heap.size ≤ q → A q := fun q h => by rw [← hAe]; exact Or.inr h
  have hl := lv_entry ([.ref (a 0), .int v0]) (n := 2) (Nat.le_of_ble_eq_true rfl)
  rw [lg_entry_eq]
  generalize (lg_sl ([.ref (a 0), .int v0]) ++ List.replicate (2 - (lg_sl ([.ref (a 0), .int v0])).length) Slot.unset).toArray = ls at hl ⊢
  have hl : lv_has ls 2 [(0, .ref (a 0)), (1, .int v0)] := hl
  exact db_X16_sleep_0 (dC := dC) (dI := dI) (a := a) (ac := ac) (n := n) (r := r) ⟨hlt, hx, hb, hml, hown, hts, hN, hA, hK⟩ (fun pc v τ H locs ls d z er hP hD hS => by subst er; exact W.zret (v := v) hx hb hr z (fun t ht hW => ⟨⟨v, (), rfl, rfl, by rw [ht]; exact hP, va_K.moved hW.alike hK, hD⟩, hS.F ht⟩) hS.2.2 d) v0 s0 _ _ _ h hP hD va_S.rf (lv_sub hl [0, 1] rfl)
def ow_dm_X16_random : List Cond := .code yX16_random cX16_random 3 (some .int) :: ([.fieldLink RX16 126 "TimeMachineModel$Machine" "waitingWords" "I", .fieldLink RX16 9 "TimeMachineModel$Machine" "words" "[I", .methodLink RX16 415 yX16_tell, .instanceMethod yX16_tell, .selects RX16 yX16_tell yX16_tell, .initialized RX16] ++ (u_ws RX16 TX16 56 ++ (ow_dm_X16_tell ++ [])))
theorem gd_dm_X16_random : ∀ w ∈ ow_dm_X16_random, (w.onTables && w.keeps) = true ∨ ∃ ty, w = Cond.arrayClass ty := List.forall_mem_cons.mpr ⟨good_of_word rfl, List.forall_mem_append.mpr ⟨fun w h => good_of_word (List.all_eq_true.mp (by decide +kernel) w h), List.forall_mem_append.mpr ⟨gu_X16, List.forall_mem_append.mpr ⟨gd_dm_X16_tell, fun _ h => nomatch h⟩⟩⟩⟩
theorem hi_dm_X16_random_X16 : ∀ w ∈ u_ws RX16 TX16 56, w ∈ ow_dm_X16_random := fun w h => List.mem_cons_of_mem _ (List.mem_append_right _ (List.mem_append_left _ h))
theorem gi_dm_X16_random_0 : GoodIn ow_dm_X16_random (wsV RX16 415 RX16 yX16_tell ow_dm_X16_tell) := goodIn_app (goodIn_of _ (by decide +kernel)) (fun w h => ⟨List.mem_cons_of_mem _ (List.mem_append_right _ (List.mem_append_right _ (List.mem_append_left _ h))), gd_dm_X16_tell w h⟩)
def dj_X16_random_32 (p : Program) (l : Launch) (e : Env) (s : State) (m : MethodId) (args : Array Value) (below : List Frame) (meth : Method) (c : Code) (Q : State → Prop) (A : Nat → Prop) (dC : Nat → ClassId) (dI : Nat → Nat → Nat) (a : Nat → Nat) (ac : Nat → ClassId) (g : Int32 → Int32 → (St × (St)) → Option (Int32 × (St × (St)))) (r : Int32 × (St × (St))) : Prop := ∀ (x1 : Int32) (x2 : Int32) (s0 : St × (St)) (H : Heap) (locs : List Loc) (ls : Array Slot), g x1 x2 s0 = some r → va_P (dC, dI) vwCl (dw_X16 a ac s0) H → va_D A (dw_X16 a ac s0) → va_S A s.heap H locs → lv_has ls 3 [(0, .ref (a 0)), (1, .int x1), (2, .int x2)] → W p l e (headSpec ow_dm_X16_random ({ frames := 1, cells := 0, slots := 0, locals := 21 })).room s m args below meth c H locs 0 0 Q (F0 m 32 ls [])
def dj_X16_random_0 (p : Program) (l : Launch) (e : Env) (s : State) (m : MethodId) (args : Array Value) (below : List Frame) (meth : Method) (c : Code) (Q : State → Prop) (A : Nat → Prop) (dC : Nat → ClassId) (dI : Nat → Nat → Nat) (a : Nat → Nat) (ac : Nat → ClassId) (g : (St × (St)) → Option (Int32 × (St × (St)))) (r : Int32 × (St × (St))) : Prop := ∀ (s0 : St × (St)) (H : Heap) (locs : List Loc) (ls : Array Slot), g s0 = some r → va_P (dC, dI) vwCl (dw_X16 a ac s0) H → va_D A (dw_X16 a ac s0) → va_S A s.heap H locs → lv_has ls 3 [(0, .ref (a 0))] → W p l e (headSpec ow_dm_X16_random ({ frames := 1, cells := 0, slots := 0, locals := 21 })).room s m args below meth c H locs 0 0 Q (F0 m 0 ls [])
set_option maxHeartbeats 40000000 in
set_option maxRecDepth 100000 in
theorem dB_X16_random_32 {p : Program} {l : Launch} {e : Env} {s : State} {m : MethodId} {args : Array Value} {below : List Frame} {meth : Method} {c : Code} {Q : State → Prop} {A : Nat → Prop} {dC : Nat → ClassId} {dI : Nat → Nat → Nat} {a : Nat → Nat} {ac : Nat → ClassId} {n : Nat} {r : Int32 × (St × (St))} (C : nd_C p l s m args c A (dC, dI) cX16_random 3 RX16 ow_dm_X16_random (dk_X16 ac)) (K : nd_Ki p l e (headSpec ow_dm_X16_random ({ frames := 1, cells := 0, slots := 0, locals := 21 })).room s m args below meth c Q A (dC, dI) cX16_random .int (St × (St)) (dw_X16 a ac) r) {g32 : Int32 → Int32 → (St × (St)) → Option (Int32 × (St × (St)))} (J32 : dj_X16_random_32 p l e s m args below meth c Q A dC dI a ac g32 r) : dj_X16_random_32 p l e s m args below meth c Q A dC dI a ac (dF_X16_random_32 n g32) r := by
  obtain ⟨hlt, hx, hb, hml, hown, hts, hN, hA, hK⟩ := id C
  intro x1 x2 s0 H locs ls h hP hD hS hl
  unfold dF_X16_random_32 at h
  refine lv_iload_n hx hb dX16_random_32 rfl (lv_at hl 2 rfl) ?_
  refine lv_aload_n hx hb dX16_random_33 rfl (lv_at hl 0 rfl) ?_
  refine va_get (D := (dC, dI)) (ci := 17) (v := .int (sI s0.1 5)) (C := RX16) (T := TX16) (N := 56) hx hb hts hi_dm_X16_random_X16 hown hK hP 0 rfl rfl 9 (by decide) (hts (.fieldLink RX16 126 "TimeMachineModel$Machine" "waitingWords" "I") (List.mem_of_getElem? (i := 1) rfl)) (fun _ h9 => h9) rfl dX16_random_34 ?_
  refine lv_icmp_ge (tgt := 60) hx hb dX16_random_37 (by decide) (fun c4 => ?_) (fun c4 => ?_)
  · have h := nd_pos h c4
    refine lv_iload_n hx hb dX16_random_60 rfl (lv_at hl 1 rfl) ?_
    exact K _ _ _ _ _ _ dX16_random_61 rfl (Option.some.inj h).symm hP hD hS
  · have h := nd_neg h c4
    refine lv_aload_n hx hb dX16_random_40 rfl (lv_at hl 0 rfl) ?_
    refine va_get (D := (dC, dI)) (ci := 17) (v := .ref (a 1)) (C := RX16) (T := TX16) (N := 56) hx hb hts hi_dm_X16_random_X16 hown hK hP 0 rfl rfl 8 (by decide) (hts (.fieldLink RX16 9 "TimeMachineModel$Machine" "words" "[I") (List.mem_of_getElem? (i := 2) rfl)) (fun _ h9 => h9) rfl dX16_random_41 ?_
    refine lv_iload_n hx hb dX16_random_44 rfl (lv_at hl 2 rfl) ?_
    refine lv_aload_n hx hb dX16_random_45 rfl (lv_at hl 0 rfl) ?_
    refine va_get (D := (dC, dI)) (ci := 17) (v := .ref (a 1)) (C := RX16) (T := TX16) (N := 56) hx hb hts hi_dm_X16_random_X16 hown hK hP 0 rfl rfl 8 (by decide) (hts (.fieldLink RX16 9 "TimeMachineModel$Machine" "words" "[I") (List.mem_of_getElem? (i := 2) rfl)) (fun _ h9 => h9) rfl dX16_random_46 ?_
    refine lv_iload_n hx hb dX16_random_49 rfl (lv_at hl 2 rfl) ?_
    refine lv_iconst (v := 1) hx hb dX16_random_50 (by decide) ?_
    refine lv_iadd hx hb dX16_random_51 ?_
    obtain ⟨i5, h⟩ := nd_ck_e h
    refine va_iald (i := (x2 + 1)) hx hb hK hP 1 0 rfl rfl i5 dX16_random_52 ?_
    obtain ⟨i6, h⟩ := nd_ck_e h
    refine va_iast (i := x2) (x := (sR s0.1 0 (Int32.toNatClampNeg (x2 + 1)))) hx hb hK hP hD hS 1 0 rfl rfl i6 dX16_random_53 (fun H locs hP hD hS => ?_)
    obtain ⟨s7, es7, h⟩ := nd_let_e h
    have hP : va_P (dC, dI) vwCl (dw_X16 a ac s7) H := by rw [es7]; exact hP
    have hD : va_D A (dw_X16 a ac s7) := by rw [es7]; exact hD
    obtain ⟨z8, ez8, h⟩ := nd_let_e h
    refine lv_iinc (v := z8) (lv' := [(2, .int z8), (0, .ref (a 0)), (1, .int x1)]) hx hb dX16_random_54 hl (k := 2) rfl (by rw [ez8]) (by decide) rfl (fun ls hl => ?_)
    refine lv_goto (tgt := 32) hx hb dX16_random_57 (by decide) ?_
    exact (J32) (x1) (z8) s7 _ _ _ h hP hD hS (lv_sub hl [1, 2, 0] rfl)
set_option maxHeartbeats 40000000 in
set_option maxRecDepth 100000 in
theorem db_X16_random_32 {p : Program} {l : Launch} {e : Env} {s : State} {m : MethodId} {args : Array Value} {below : List Frame} {meth : Method} {c : Code} {Q : State → Prop} {A : Nat → Prop} {dC : Nat → ClassId} {dI : Nat → Nat → Nat} {a : Nat → Nat} {ac : Nat → ClassId} {n : Nat} {r : Int32 × (St × (St))} (C : nd_C p l s m args c A (dC, dI) cX16_random 3 RX16 ow_dm_X16_random (dk_X16 ac)) (K : nd_Ki p l e (headSpec ow_dm_X16_random ({ frames := 1, cells := 0, slots := 0, locals := 21 })).room s m args below meth c Q A (dC, dI) cX16_random .int (St × (St)) (dw_X16 a ac) r) (k : Nat) : dj_X16_random_32 p l e s m args below meth c Q A dC dI a ac (df_X16_random_32 n k) r := by
  induction k with
  | zero => intro x1 x2 s0 H locs ls h; exact nomatch (show (none : Option (Int32 × (St × (St)))) = some r from h)
  | succ k ih => exact dB_X16_random_32 C K ih
set_option maxHeartbeats 40000000 in
set_option maxRecDepth 100000 in
theorem db_X16_random_0 {p : Program} {l : Launch} {e : Env} {s : State} {m : MethodId} {args : Array Value} {below : List Frame} {meth : Method} {c : Code} {Q : State → Prop} {A : Nat → Prop} {dC : Nat → ClassId} {dI : Nat → Nat → Nat} {a : Nat → Nat} {ac : Nat → ClassId} {n : Nat} {r : Int32 × (St × (St))} (C : nd_C p l s m args c A (dC, dI) cX16_random 3 RX16 ow_dm_X16_random (dk_X16 ac)) (K : nd_Ki p l e (headSpec ow_dm_X16_random ({ frames := 1, cells := 0, slots := 0, locals := 21 })).room s m args below meth c Q A (dC, dI) cX16_random .int (St × (St)) (dw_X16 a ac) r) : dj_X16_random_0 p l e s m args below meth c Q A dC dI a ac (df_X16_random_0 n) r := by
  obtain ⟨hlt, hx, hb, hml, hown, hts, hN, hA, hK⟩ := id C
  intro s0 H locs ls h hP hD hS hl
  unfold df_X16_random_0 at h
  refine lv_aload_n hx hb dX16_random_0 rfl (lv_at hl 0 rfl) ?_
  refine va_get (D := (dC, dI)) (ci := 17) (v := .int (sI s0.1 5)) (C := RX16) (T := TX16) (N := 56) hx hb hts hi_dm_X16_random_X16 hown hK hP 0 rfl rfl 9 (by decide) (hts (.fieldLink RX16 126 "TimeMachineModel$Machine" "waitingWords" "I") (List.mem_of_getElem? (i := 1) rfl)) (fun _ h9 => h9) rfl dX16_random_1 ?_
  refine lv_if_ne (tgt := 13) hx hb dX16_random_4 (by decide) (fun c1 => ?_) (fun c1 => ?_)
  · have h := nd_neg h c1
    refine lv_aload_n hx hb dX16_random_13 rfl (lv_at hl 0 rfl) ?_
    refine va_get (D := (dC, dI)) (ci := 17) (v := .ref (a 1)) (C := RX16) (T := TX16) (N := 56) hx hb hts hi_dm_X16_random_X16 hown hK hP 0 rfl rfl 8 (by decide) (hts (.fieldLink RX16 9 "TimeMachineModel$Machine" "words" "[I") (List.mem_of_getElem? (i := 2) rfl)) (fun _ h9 => h9) rfl dX16_random_14 ?_
    refine lv_iconst (v := 0) hx hb dX16_random_17 (by decide) ?_
    refine va_iald (i := 0) hx hb hK hP 1 0 rfl rfl (vp_in_iff.mpr ⟨by decide, by decide⟩) dX16_random_18 ?_
    refine lv_topi (fun z2 ez2 => ?_)
    have h := nd_at h ez2
    refine lv_istore_n (lv' := [(1, .int z2), (0, .ref (a 0))]) hx hb dX16_random_19 rfl hl (by decide) rfl (fun ls hl => ?_)
    refine lv_aload_n hx hb dX16_random_20 rfl (lv_at hl 1 rfl) ?_
    refine lv_dup hx hb dX16_random_21 rfl ?_
    refine va_get (D := (dC, dI)) (ci := 17) (v := .int (sI s0.1 5)) (C := RX16) (T := TX16) (N := 56) hx hb hts hi_dm_X16_random_X16 hown hK hP 0 rfl rfl 9 (by decide) (hts (.fieldLink RX16 126 "TimeMachineModel$Machine" "waitingWords" "I") (List.mem_of_getElem? (i := 1) rfl)) (fun _ h9 => h9) rfl dX16_random_22 ?_
    refine lv_iconst (v := 1) hx hb dX16_random_25 (by decide) ?_
    refine lv_isub hx hb dX16_random_26 ?_
    refine va_put (D := (dC, dI)) (ci := 17) (v := .int ((sI s0.1 5) - 1)) (ty := .int) (C := RX16) (T := TX16) (N := 56) hx hb hts hi_dm_X16_random_X16 tyX16 tyX16_ok nmX16 hown hK hP hD hS 0 rfl rfl 9 (by decide) (hts (.fieldLink RX16 126 "TimeMachineModel$Machine" "waitingWords" "I") (List.mem_of_getElem? (i := 1) rfl)) (fun _ h9 => h9) rfl (by decide +kernel) rfl rfl (Nat.le_of_ble_eq_true rfl) dX16_random_27 (fun H locs hP hD hS => ?_)
    obtain ⟨s3, es3, h⟩ := nd_let_e h
    have hP : va_P (dC, dI) vwCl (dw_X16 a ac s3) H := by rw [es3]; exact hP
    have hD : va_D A (dw_X16 a ac s3) := by rw [es3]; exact hD
    refine lv_iconst (v := 0) hx hb dX16_random_30 (by decide) ?_
    refine lv_istore_n (lv' := [(2, .int 0), (1, .int z2), (0, .ref (a 0))]) hx hb dX16_random_31 rfl hl (by decide) rfl (fun ls hl => ?_)
    exact (db_X16_random_32 C K n) (z2) (0) s3 _ _ _ h hP hD hS (lv_sub hl [2, 1, 0] rfl)
  · have h := nd_pos h c1
    refine lv_aload_n hx hb dX16_random_7 rfl (lv_at hl 0 rfl) ?_
    refine lv_iconst (v := 1) hx hb dX16_random_8 (by decide) ?_
    obtain ⟨q9, s10, hq, h⟩ := nd_b2_e h
    have hPc := hP
    have hDc := hD
    have hKc := hK
    have hFc := nd_rs hD hS hA
    refine nd_cVi (As := [.int 1]) (rest := []) (q := q9) (w' := dw_X16 a ac s10) ⟨hx, hb, hml, hown, hts⟩ (fun sz => dm_X16_tell l hlt dC dI a ac n (1) s0 hq sz) (cwV 1 hts gi_dm_X16_random_0 rfl rfl rfl (by decide +kernel) ⟨Nat.le_of_ble_eq_true rfl, Nat.le_of_ble_eq_true rfl⟩) hPc hDc hKc hS hA hN (va_recv hKc hPc (ci := 17) (q0 := 0) rfl rfl) rfl hl.1 rfl (Nat.le_of_ble_eq_true rfl) dX16_random_9 (fun H locs hP1 hD1 hk1 hS => ?_)
    have hP := hP1
    have hD := hD1.weaken (fun k q _ h => hFc q.1 h)
    exact K _ _ _ _ _ _ dX16_random_12 rfl (Option.some.inj h).symm hP hD hS
set_option maxHeartbeats 40000000 in
set_option maxRecDepth 100000 in
theorem dm_X16_random (l : Launch) (hlt : l.stackTraces = false) (dC : Nat → ClassId) (dI : Nat → Nat → Nat) (a : Nat → Nat) (ac : Nat → ClassId) (n : Nat) (s0 : St × (St)) {r : Int32 × (St × (St))} (h : df_X16_random n s0 = some r) (sz : Nat) : Met l yX16_random ow_dm_X16_random ({ frames := 1, cells := 0, slots := 0, locals := 21 }) (va_Pc [.ref (a 0)] (fun U => U.heap.size = sz ∧ va_P (dC, dI) vwCl (dw_X16 a ac s0) U.heap ∧ va_K (dC, dI) vwCl (dk_X16 ac) U ∧ va_D (fun _ => True) (dw_X16 a ac s0) ∧ nv_E (va_A (dw_X16 a ac s0) sz) U)) (va_Qi (fun x _ => x = r.1) (fun (_ : Unit) t => va_P (dC, dI) vwCl (dw_X16 a ac r.2) t.heap ∧ va_K (dC, dI) vwCl (dk_X16 ac) t ∧ va_D (va_A (dw_X16 a ac s0) sz) (dw_X16 a ac r.2)) (va_A (dw_X16 a ac s0) sz)) 0 0 (va_A (dw_X16 a ac s0) sz) := by
  refine Met.ofW (cc := cX16_random) (maxL := 3) (ret := (some .int)) (by decide) rfl ?_
  intro p e s m args below meth c s₁ B hml hv
  obtain ⟨rfl, hsz, hP, hK, hD0, hN⟩ := hv
  have hx := B.exec
  have hb := B.bytes
  have hr := B.returns
  have hts := atoms_spec (ws := ow_dm_X16_random) B.pre
  have hown : s.vm.findClass RX16 = some m.cls := findClass_of_methodNamed B.named
  have hlocks := B.notSynchronized
  subst hsz
  have hD := hD0.self (sz := s.heap.size)
  generalize hAe : va_A (dw_X16 a ac s0) s.heap.size = A at hD hN ⊢
  have hA : ∀ q : Nat, s.heap.size ≤ q → A q := fun q h => by rw [← hAe]; exact Or.inr h
  have hl := lv_entry ([.ref (a 0)]) (n := 3) (Nat.le_of_ble_eq_true rfl)
  rw [lg_entry_eq]
  generalize (lg_sl ([.ref (a 0)]) ++ List.replicate (3 - (lg_sl ([.ref (a 0)])).length) Slot.unset).toArray = ls at hl ⊢
  have hl : lv_has ls 3 [(0, .ref (a 0))] := hl
  exact db_X16_random_0 (dC := dC) (dI := dI) (a := a) (ac := ac) (n := n) (r := r) ⟨hlt, hx, hb, hml, hown, hts, hN, hA, hK⟩ (fun pc v τ H locs ls d z er hP hD hS => by subst er; exact W.zret (v := v) hx hb hr z (fun t ht hW => ⟨⟨v, (), rfl, rfl, by rw [ht]; exact hP, va_K.moved hW.alike hK, hD⟩, hS.F ht⟩) hS.2.2 d) s0 _ _ _ h hP hD va_S.rf (lv_sub hl [0] rfl)
def ow_dm_X16_answer : List Cond := .code yX16_answer cX16_answer 5 (some .int) :: ([.fieldLink RX16 232 "TimeMachineModel$Machine" "p" "I", .methodLink RX16 282 yX16_end, .instanceMethod yX16_end, .selects RX16 yX16_end yX16_end, .initialized RX16, .methodLink RX16 415 yX16_tell, .instanceMethod yX16_tell, .selects RX16 yX16_tell yX16_tell, .methodLink RX16 418 yX16_fork, .instanceMethod yX16_fork, .selects RX16 yX16_fork yX16_fork, .methodLink RX16 421 yX16_exec, .instanceMethod yX16_exec, .selects RX16 yX16_exec yX16_exec, .methodLink RX16 424 yX16_waitFor, .instanceMethod yX16_waitFor, .selects RX16 yX16_waitFor yX16_waitFor, .methodLink RX16 427 yX16_pipe, .instanceMethod yX16_pipe, .selects RX16 yX16_pipe yX16_pipe, .methodLink RX16 430 yX16_read, .instanceMethod yX16_read, .selects RX16 yX16_read yX16_read, .methodLink RX16 433 yX16_write7, .instanceMethod yX16_write7, .selects RX16 yX16_write7 yX16_write7, .methodLink RX16 436 yX16_close, .instanceMethod yX16_close, .selects RX16 yX16_close yX16_close, .methodLink RX16 439 yX16_dup, .instanceMethod yX16_dup, .selects RX16 yX16_dup yX16_dup, .methodLink RX16 442 yX16_open, .instanceMethod yX16_open, .selects RX16 yX16_open yX16_open, .methodLink RX16 445 yX16_unlink, .instanceMethod yX16_unlink, .selects RX16 yX16_unlink yX16_unlink, .methodLink RX16 448 yX16_seek, .instanceMethod yX16_seek, .selects RX16 yX16_seek yX16_seek, .methodLink RX16 451 yX16_rename, .instanceMethod yX16_rename, .selects RX16 yX16_rename yX16_rename, .methodLink RX16 454 yX16_grow, .instanceMethod yX16_grow, .selects RX16 yX16_grow yX16_grow, .methodLink RX16 457 yX16_signal, .instanceMethod yX16_signal, .selects RX16 yX16_signal yX16_signal, .methodLink RX16 460 yX16_handle, .instanceMethod yX16_handle, .selects RX16 yX16_handle yX16_handle, .methodLink RX16 463 yX16_back, .instanceMethod yX16_back, .selects RX16 yX16_back yX16_back, .methodLink RX16 466 yX16_sleep, .instanceMethod yX16_sleep, .selects RX16 yX16_sleep yX16_sleep, .fieldLink RX16 42 "TimeMachineModel$Machine" "x" "[I", .fieldLink RX16 151 "TimeMachineModel$Machine" "clock" "J", .methodLink RX16 469 yX16_random, .instanceMethod yX16_random, .selects RX16 yX16_random yX16_random] ++ (u_ws RX16 TX16 56 ++ (ow_dm_X16_end ++ (ow_dm_X16_tell ++ (ow_dm_X16_fork ++ (ow_dm_X16_exec ++ (ow_dm_X16_waitFor ++ (ow_dm_X16_pipe ++ (ow_dm_X16_read ++ (ow_dm_X16_write7 ++ (ow_dm_X16_close ++ (ow_dm_X16_dup ++ (ow_dm_X16_open ++ (ow_dm_X16_unlink ++ (ow_dm_X16_seek ++ (ow_dm_X16_rename ++ (ow_dm_X16_grow ++ (ow_dm_X16_signal ++ (ow_dm_X16_handle ++ (ow_dm_X16_back ++ (ow_dm_X16_sleep ++ (ow_dm_X16_random ++ []))))))))))))))))))))))
theorem gd_dm_X16_answer : ∀ w ∈ ow_dm_X16_answer, (w.onTables && w.keeps) = true ∨ ∃ ty, w = Cond.arrayClass ty := List.forall_mem_cons.mpr ⟨good_of_word rfl, List.forall_mem_append.mpr ⟨fun w h => good_of_word (List.all_eq_true.mp (by decide +kernel) w h), List.forall_mem_append.mpr ⟨gu_X16, List.forall_mem_append.mpr ⟨gd_dm_X16_end, List.forall_mem_append.mpr ⟨gd_dm_X16_tell, List.forall_mem_append.mpr ⟨gd_dm_X16_fork, List.forall_mem_append.mpr ⟨gd_dm_X16_exec, List.forall_mem_append.mpr ⟨gd_dm_X16_waitFor, List.forall_mem_append.mpr ⟨gd_dm_X16_pipe, List.forall_mem_append.mpr ⟨gd_dm_X16_read, List.forall_mem_append.mpr ⟨gd_dm_X16_write7, List.forall_mem_append.mpr ⟨gd_dm_X16_close, List.forall_mem_append.mpr ⟨gd_dm_X16_dup, List.forall_mem_append.mpr ⟨gd_dm_X16_open, List.forall_mem_append.mpr ⟨gd_dm_X16_unlink, List.forall_mem_append.mpr ⟨gd_dm_X16_seek, List.forall_mem_append.mpr ⟨gd_dm_X16_rename, List.forall_mem_append.mpr ⟨gd_dm_X16_grow, List.forall_mem_append.mpr ⟨gd_dm_X16_signal, List.forall_mem_append.mpr ⟨gd_dm_X16_handle, List.forall_mem_append.mpr ⟨gd_dm_X16_back, List.forall_mem_append.mpr ⟨gd_dm_X16_sleep, List.forall_mem_append.mpr ⟨gd_dm_X16_random, fun _ h => nomatch h⟩⟩⟩⟩⟩⟩⟩⟩⟩⟩⟩⟩⟩⟩⟩⟩⟩⟩⟩⟩⟩⟩⟩
theorem hi_dm_X16_answer_X16 : ∀ w ∈ u_ws RX16 TX16 56, w ∈ ow_dm_X16_answer := fun w h => List.mem_cons_of_mem _ (List.mem_append_right _ (List.mem_append_left _ h))
theorem gi_dm_X16_answer_0 : GoodIn ow_dm_X16_answer (wsV RX16 282 RX16 yX16_end ow_dm_X16_end) := goodIn_app (goodIn_of _ (by decide +kernel)) (fun w h => ⟨List.mem_cons_of_mem _ (List.mem_append_right _ (List.mem_append_right _ (List.mem_append_left _ h))), gd_dm_X16_end w h⟩)
theorem gi_dm_X16_answer_1 : GoodIn ow_dm_X16_answer (wsV RX16 415 RX16 yX16_tell ow_dm_X16_tell) := goodIn_app (goodIn_of _ (by decide +kernel)) (fun w h => ⟨List.mem_cons_of_mem _ (List.mem_append_right _ (List.mem_append_right _ (List.mem_append_right _ (List.mem_append_left _ h)))), gd_dm_X16_tell w h⟩)
theorem gi_dm_X16_answer_2 : GoodIn ow_dm_X16_answer (wsV RX16 418 RX16 yX16_fork ow_dm_X16_fork) := goodIn_app (goodIn_of _ (by decide +kernel)) (fun w h => ⟨List.mem_cons_of_mem _ (List.mem_append_right _ (List.mem_append_right _ (List.mem_append_right _ (List.mem_append_right _ (List.mem_append_left _ h))))), gd_dm_X16_fork w h⟩)
theorem gi_dm_X16_answer_3 : GoodIn ow_dm_X16_answer (wsV RX16 421 RX16 yX16_exec ow_dm_X16_exec) := goodIn_app (goodIn_of _ (by decide +kernel)) (fun w h => ⟨List.mem_cons_of_mem _ (List.mem_append_right _ (List.mem_append_right _ (List.mem_append_right _ (List.mem_append_right _ (List.mem_append_right _ (List.mem_append_left _ h)))))), gd_dm_X16_exec w h⟩)
theorem gi_dm_X16_answer_4 : GoodIn ow_dm_X16_answer (wsV RX16 424 RX16 yX16_waitFor ow_dm_X16_waitFor) := goodIn_app (goodIn_of _ (by decide +kernel)) (fun w h => ⟨List.mem_cons_of_mem _ (List.mem_append_right _ (List.mem_append_right _ (List.mem_append_right _ (List.mem_append_right _ (List.mem_append_right _ (List.mem_append_right _ (List.mem_append_left _ h))))))), gd_dm_X16_waitFor w h⟩)
theorem gi_dm_X16_answer_5 : GoodIn ow_dm_X16_answer (wsV RX16 427 RX16 yX16_pipe ow_dm_X16_pipe) := goodIn_app (goodIn_of _ (by decide +kernel)) (fun w h => ⟨List.mem_cons_of_mem _ (List.mem_append_right _ (List.mem_append_right _ (List.mem_append_right _ (List.mem_append_right _ (List.mem_append_right _ (List.mem_append_right _ (List.mem_append_right _ (List.mem_append_left _ h)))))))), gd_dm_X16_pipe w h⟩)
theorem gi_dm_X16_answer_6 : GoodIn ow_dm_X16_answer (wsV RX16 430 RX16 yX16_read ow_dm_X16_read) := goodIn_app (goodIn_of _ (by decide +kernel)) (fun w h => ⟨List.mem_cons_of_mem _ (List.mem_append_right _ (List.mem_append_right _ (List.mem_append_right _ (List.mem_append_right _ (List.mem_append_right _ (List.mem_append_right _ (List.mem_append_right _ (List.mem_append_right _ (List.mem_append_left _ h))))))))), gd_dm_X16_read w h⟩)
theorem gi_dm_X16_answer_7 : GoodIn ow_dm_X16_answer (wsV RX16 433 RX16 yX16_write7 ow_dm_X16_write7) := goodIn_app (goodIn_of _ (by decide +kernel)) (fun w h => ⟨List.mem_cons_of_mem _ (List.mem_append_right _ (List.mem_append_right _ (List.mem_append_right _ (List.mem_append_right _ (List.mem_append_right _ (List.mem_append_right _ (List.mem_append_right _ (List.mem_append_right _ (List.mem_append_right _ (List.mem_append_left _ h)))))))))), gd_dm_X16_write7 w h⟩)
theorem gi_dm_X16_answer_8 : GoodIn ow_dm_X16_answer (wsV RX16 436 RX16 yX16_close ow_dm_X16_close) := goodIn_app (goodIn_of _ (by decide +kernel)) (fun w h => ⟨List.mem_cons_of_mem _ (List.mem_append_right _ (List.mem_append_right _ (List.mem_append_right _ (List.mem_append_right _ (List.mem_append_right _ (List.mem_append_right _ (List.mem_append_right _ (List.mem_append_right _ (List.mem_append_right _ (List.mem_append_right _ (List.mem_append_left _ h))))))))))), gd_dm_X16_close w h⟩)
theorem gi_dm_X16_answer_9 : GoodIn ow_dm_X16_answer (wsV RX16 439 RX16 yX16_dup ow_dm_X16_dup) := goodIn_app (goodIn_of _ (by decide +kernel)) (fun w h => ⟨List.mem_cons_of_mem _ (List.mem_append_right _ (List.mem_append_right _ (List.mem_append_right _ (List.mem_append_right _ (List.mem_append_right _ (List.mem_append_right _ (List.mem_append_right _ (List.mem_append_right _ (List.mem_append_right _ (List.mem_append_right _ (List.mem_append_right _ (List.mem_append_left _ h)))))))))))), gd_dm_X16_dup w h⟩)
theorem gi_dm_X16_answer_10 : GoodIn ow_dm_X16_answer (wsV RX16 442 RX16 yX16_open ow_dm_X16_open) := goodIn_app (goodIn_of _ (by decide +kernel)) (fun w h => ⟨List.mem_cons_of_mem _ (List.mem_append_right _ (List.mem_append_right _ (List.mem_append_right _ (List.mem_append_right _ (List.mem_append_right _ (List.mem_append_right _ (List.mem_append_right _ (List.mem_append_right _ (List.mem_append_right _ (List.mem_append_right _ (List.mem_append_right _ (List.mem_append_right _ (List.mem_append_left _ h))))))))))))), gd_dm_X16_open w h⟩)
theorem gi_dm_X16_answer_11 : GoodIn ow_dm_X16_answer (wsV RX16 445 RX16 yX16_unlink ow_dm_X16_unlink) := goodIn_app (goodIn_of _ (by decide +kernel)) (fun w h => ⟨List.mem_cons_of_mem _ (List.mem_append_right _ (List.mem_append_right _ (List.mem_append_right _ (List.mem_append_right _ (List.mem_append_right _ (List.mem_append_right _ (List.mem_append_right _ (List.mem_append_right _ (List.mem_append_right _ (List.mem_append_right _ (List.mem_append_right _ (List.mem_append_right _ (List.mem_append_right _ (List.mem_append_left _ h)))))))))))))), gd_dm_X16_unlink w h⟩)
theorem gi_dm_X16_answer_12 : GoodIn ow_dm_X16_answer (wsV RX16 448 RX16 yX16_seek ow_dm_X16_seek) := goodIn_app (goodIn_of _ (by decide +kernel)) (fun w h => ⟨List.mem_cons_of_mem _ (List.mem_append_right _ (List.mem_append_right _ (List.mem_append_right _ (List.mem_append_right _ (List.mem_append_right _ (List.mem_append_right _ (List.mem_append_right _ (List.mem_append_right _ (List.mem_append_right _ (List.mem_append_right _ (List.mem_append_right _ (List.mem_append_right _ (List.mem_append_right _ (List.mem_append_right _ (List.mem_append_left _ h))))))))))))))), gd_dm_X16_seek w h⟩)
theorem gi_dm_X16_answer_13 : GoodIn ow_dm_X16_answer (wsV RX16 451 RX16 yX16_rename ow_dm_X16_rename) := goodIn_app (goodIn_of _ (by decide +kernel)) (fun w h => ⟨List.mem_cons_of_mem _ (List.mem_append_right _ (List.mem_append_right _ (List.mem_append_right _ (List.mem_append_right _ (List.mem_append_right _ (List.mem_append_right _ (List.mem_append_right _ (List.mem_append_right _ (List.mem_append_right _ (List.mem_append_right _ (List.mem_append_right _ (List.mem_append_right _ (List.mem_append_right _ (List.mem_append_right _ (List.mem_append_right _ (List.mem_append_left _ h)))))))))))))))), gd_dm_X16_rename w h⟩)
theorem gi_dm_X16_answer_14 : GoodIn ow_dm_X16_answer (wsV RX16 454 RX16 yX16_grow ow_dm_X16_grow) := goodIn_app (goodIn_of _ (by decide +kernel)) (fun w h => ⟨List.mem_cons_of_mem _ (List.mem_append_right _ (List.mem_append_right _ (List.mem_append_right _ (List.mem_append_right _ (List.mem_append_right _ (List.mem_append_right _ (List.mem_append_right _ (List.mem_append_right _ (List.mem_append_right _ (List.mem_append_right _ (List.mem_append_right _ (List.mem_append_right _ (List.mem_append_right _ (List.mem_append_right _ (List.mem_append_right _ (List.mem_append_right _ (List.mem_append_left _ h))))))))))))))))), gd_dm_X16_grow w h⟩)
theorem gi_dm_X16_answer_15 : GoodIn ow_dm_X16_answer (wsV RX16 457 RX16 yX16_signal ow_dm_X16_signal) := goodIn_app (goodIn_of _ (by decide +kernel)) (fun w h => ⟨List.mem_cons_of_mem _ (List.mem_append_right _ (List.mem_append_right _ (List.mem_append_right _ (List.mem_append_right _ (List.mem_append_right _ (List.mem_append_right _ (List.mem_append_right _ (List.mem_append_right _ (List.mem_append_right _ (List.mem_append_right _ (List.mem_append_right _ (List.mem_append_right _ (List.mem_append_right _ (List.mem_append_right _ (List.mem_append_right _ (List.mem_append_right _ (List.mem_append_right _ (List.mem_append_left _ h)))))))))))))))))), gd_dm_X16_signal w h⟩)
theorem gi_dm_X16_answer_16 : GoodIn ow_dm_X16_answer (wsV RX16 460 RX16 yX16_handle ow_dm_X16_handle) := goodIn_app (goodIn_of _ (by decide +kernel)) (fun w h => ⟨List.mem_cons_of_mem _ (List.mem_append_right _ (List.mem_append_right _ (List.mem_append_right _ (List.mem_append_right _ (List.mem_append_right _ (List.mem_append_right _ (List.mem_append_right _ (List.mem_append_right _ (List.mem_append_right _ (List.mem_append_right _ (List.mem_append_right _ (List.mem_append_right _ (List.mem_append_right _ (List.mem_append_right _ (List.mem_append_right _ (List.mem_append_right _ (List.mem_append_right _ (List.mem_append_right _ (List.mem_append_left _ h))))))))))))))))))), gd_dm_X16_handle w h⟩)
theorem gi_dm_X16_answer_17 : GoodIn ow_dm_X16_answer (wsV RX16 463 RX16 yX16_back ow_dm_X16_back) := goodIn_app (goodIn_of _ (by decide +kernel)) (fun w h => ⟨List.mem_cons_of_mem _ (List.mem_append_right _ (List.mem_append_right _ (List.mem_append_right _ (List.mem_append_right _ (List.mem_append_right _ (List.mem_append_right _ (List.mem_append_right _ (List.mem_append_right _ (List.mem_append_right _ (List.mem_append_right _ (List.mem_append_right _ (List.mem_append_right _ (List.mem_append_right _ (List.mem_append_right _ (List.mem_append_right _ (List.mem_append_right _ (List.mem_append_right _ (List.mem_append_right _ (List.mem_append_right _ (List.mem_append_left _ h)))))))))))))))))))), gd_dm_X16_back w h⟩)
theorem gi_dm_X16_answer_18 : GoodIn ow_dm_X16_answer (wsV RX16 466 RX16 yX16_sleep ow_dm_X16_sleep) := goodIn_app (goodIn_of _ (by decide +kernel)) (fun w h => ⟨List.mem_cons_of_mem _ (List.mem_append_right _ (List.mem_append_right _ (List.mem_append_right _ (List.mem_append_right _ (List.mem_append_right _ (List.mem_append_right _ (List.mem_append_right _ (List.mem_append_right _ (List.mem_append_right _ (List.mem_append_right _ (List.mem_append_right _ (List.mem_append_right _ (List.mem_append_right _ (List.mem_append_right _ (List.mem_append_right _ (List.mem_append_right _ (List.mem_append_right _ (List.mem_append_right _ (List.mem_append_right _ (List.mem_append_right _ (List.mem_append_left _ h))))))))))))))))))))), gd_dm_X16_sleep w h⟩)
theorem gi_dm_X16_answer_19 : GoodIn ow_dm_X16_answer (wsV RX16 469 RX16 yX16_random ow_dm_X16_random) := goodIn_app (goodIn_of _ (by decide +kernel)) (fun w h => ⟨List.mem_cons_of_mem _ (List.mem_append_right _ (List.mem_append_right _ (List.mem_append_right _ (List.mem_append_right _ (List.mem_append_right _ (List.mem_append_right _ (List.mem_append_right _ (List.mem_append_right _ (List.mem_append_right _ (List.mem_append_right _ (List.mem_append_right _ (List.mem_append_right _ (List.mem_append_right _ (List.mem_append_right _ (List.mem_append_right _ (List.mem_append_right _ (List.mem_append_right _ (List.mem_append_right _ (List.mem_append_right _ (List.mem_append_right _ (List.mem_append_right _ (List.mem_append_left _ h)))))))))))))))))))))), gd_dm_X16_random w h⟩)
def dj_X16_answer_0 (p : Program) (l : Launch) (e : Env) (s : State) (m : MethodId) (args : Array Value) (below : List Frame) (meth : Method) (c : Code) (Q : State → Prop) (A : Nat → Prop) (dC : Nat → ClassId) (dI : Nat → Nat → Nat) (a : Nat → Nat) (ac : Nat → ClassId) (g : Int32 → Int32 → Int32 → Int32 → (St × (St)) → Option (Int32 × (St × (St)))) (r : Int32 × (St × (St))) : Prop := ∀ (v0 : Int32) (v1 : Int32) (v2 : Int32) (v3 : Int32) (s0 : St × (St)) (H : Heap) (locs : List Loc) (ls : Array Slot), g v0 v1 v2 v3 s0 = some r → va_P (dC, dI) vwCl (dw_X16 a ac s0) H → va_D A (dw_X16 a ac s0) → va_S A s.heap H locs → lv_has ls 5 [(0, .ref (a 0)), (1, .int v0), (2, .int v1), (3, .int v2), (4, .int v3)] → W p l e (headSpec ow_dm_X16_answer ({ frames := 4, cells := 0, slots := 0, locals := 99 })).room s m args below meth c H locs 0 0 Q (F0 m 0 ls [])
set_option maxHeartbeats 40000000 in
set_option maxRecDepth 100000 in
theorem db_X16_answer_0 {p : Program} {l : Launch} {e : Env} {s : State} {m : MethodId} {args : Array Value} {below : List Frame} {meth : Method} {c : Code} {Q : State → Prop} {A : Nat → Prop} {dC : Nat → ClassId} {dI : Nat → Nat → Nat} {a : Nat → Nat} {ac : Nat → ClassId} {n : Nat} {r : Int32 × (St × (St))} (C : nd_C p l s m args c A (dC, dI) cX16_answer 5 RX16 ow_dm_X16_answer (dk_X16 ac)) (K : nd_Ki p l e (headSpec ow_dm_X16_answer ({ frames := 4, cells := 0, slots := 0, locals := 99 })).room s m args below meth c Q A (dC, dI) cX16_answer .int (St × (St)) (dw_X16 a ac) r) : dj_X16_answer_0 p l e s m args below meth c Q A dC dI a ac (df_X16_answer_0 n) r := by
  obtain ⟨hlt, hx, hb, hml, hown, hts, hN, hA, hK⟩ := id C
  intro v0 v1 v2 v3 s0 H locs ls h hP hD hS hl
  unfold df_X16_answer_0 at h
  refine lv_iload_n hx hb dX16_answer_0 rfl (lv_at hl 1 rfl) ?_
  by_cases c1 : v0 = 0
  · have h := nd_pos h c1
    refine lv_tableIn (off := 103) (tgt := 104) hx hb dX16_answer_1 (by rw [c1]; decide) (by rw [c1]; decide) (by rw [c1]; decide) (by decide) ?_
    refine lv_aload_n hx hb dX16_answer_104 rfl (lv_at hl 0 rfl) ?_
    refine lv_aload_n hx hb dX16_answer_105 rfl (lv_at hl 0 rfl) ?_
    refine va_get (D := (dC, dI)) (ci := 17) (v := .int (sI s0.1 12)) (C := RX16) (T := TX16) (N := 56) hx hb hts hi_dm_X16_answer_X16 hown hK hP 0 rfl rfl 51 (by decide) (hts (.fieldLink RX16 232 "TimeMachineModel$Machine" "p" "I") (List.mem_of_getElem? (i := 1) rfl)) (fun _ h9 => h9) rfl dX16_answer_106 ?_
    refine lv_iload_n hx hb dX16_answer_109 rfl (lv_at hl 2 rfl) ?_
    refine lv_sipush (v := 255) hx hb dX16_answer_110 (by decide) ?_
    refine lv_iand hx hb dX16_answer_113 ?_
    obtain ⟨s3, hq, h⟩ := nd_b1_e h
    have hPc := hP
    have hDc := hD
    have hKc := hK
    have hFc := nd_rs hD hS hA
    refine nd_cVv (As := [.int (sI s0.1 12), .int (v1 &&& 255)]) (rest := []) (w' := dw_X16 a ac s3) ⟨hx, hb, hml, hown, hts⟩ (fun sz => dm_X16_end l hlt dC dI a ac n ((sI s0.1 12)) ((v1 &&& 255)) s0 hq sz) (cwV 2 hts gi_dm_X16_answer_0 rfl rfl rfl (by decide +kernel) ⟨Nat.le_of_ble_eq_true rfl, Nat.le_of_ble_eq_true rfl⟩) hPc hDc hKc hS hA hN (va_recv hKc hPc (ci := 17) (q0 := 0) rfl rfl) rfl hl.1 rfl (Nat.le_of_ble_eq_true rfl) dX16_answer_114 (fun H locs hP1 hD1 hk1 hS => ?_)
    have hP := hP1
    have hD := hD1.weaken (fun k q _ h => hFc q.1 h)
    refine lv_aload_n hx hb dX16_answer_117 rfl (lv_at hl 0 rfl) ?_
    refine lv_iconst (v := 2) hx hb dX16_answer_118 (by decide) ?_
    obtain ⟨q5, s6, hq, h⟩ := nd_b2_e h
    have hPc := hP
    have hDc := hD
    have hKc := hK
    have hFc := nd_rs hD hS hA
    refine nd_cVi (As := [.int 2]) (rest := []) (q := q5) (w' := dw_X16 a ac s6) ⟨hx, hb, hml, hown, hts⟩ (fun sz => dm_X16_tell l hlt dC dI a ac n (2) s3 hq sz) (cwV 1 hts gi_dm_X16_answer_1 rfl rfl rfl (by decide +kernel) ⟨Nat.le_of_ble_eq_true rfl, Nat.le_of_ble_eq_true rfl⟩) hPc hDc hKc hS hA hN (va_recv hKc hPc (ci := 17) (q0 := 0) rfl rfl) rfl hl.1 rfl (Nat.le_of_ble_eq_true rfl) dX16_answer_119 (fun H locs hP1 hD1 hk1 hS => ?_)
    have hP := hP1
    have hD := hD1.weaken (fun k q _ h => hFc q.1 h)
    exact K _ _ _ _ _ _ dX16_answer_122 rfl (Option.some.inj h).symm hP hD hS
  have h := nd_neg h c1
  by_cases c8 : v0 = 1
  · have h := nd_pos h c8
    refine lv_tableIn (off := 122) (tgt := 123) hx hb dX16_answer_1 (by rw [c8]; decide) (by rw [c8]; decide) (by rw [c8]; decide) (by decide) ?_
    refine lv_aload_n hx hb dX16_answer_123 rfl (lv_at hl 0 rfl) ?_
    obtain ⟨q9, s10, hq, h⟩ := nd_b2_e h
    have hPc := hP
    have hDc := hD
    have hKc := hK
    have hFc := nd_rs hD hS hA
    refine nd_cVi (As := []) (rest := []) (q := q9) (w' := dw_X16 a ac s10) ⟨hx, hb, hml, hown, hts⟩ (fun sz => dm_X16_fork l hlt dC dI a ac n  s0 hq sz) (cwV 0 hts gi_dm_X16_answer_2 rfl rfl rfl (by decide +kernel) ⟨Nat.le_of_ble_eq_true rfl, Nat.le_of_ble_eq_true rfl⟩) hPc hDc hKc hS hA hN (va_recv hKc hPc (ci := 17) (q0 := 0) rfl rfl) rfl hl.1 rfl (Nat.le_of_ble_eq_true rfl) dX16_answer_124 (fun H locs hP1 hD1 hk1 hS => ?_)
    have hP := hP1
    have hD := hD1.weaken (fun k q _ h => hFc q.1 h)
    exact K _ _ _ _ _ _ dX16_answer_127 rfl (Option.some.inj h).symm hP hD hS
  have h := nd_neg h c8
  by_cases c12 : v0 = 2
  · have h := nd_pos h c12
    refine lv_tableIn (off := 127) (tgt := 128) hx hb dX16_answer_1 (by rw [c12]; decide) (by rw [c12]; decide) (by rw [c12]; decide) (by decide) ?_
    refine lv_aload_n hx hb dX16_answer_128 rfl (lv_at hl 0 rfl) ?_
    refine lv_iload_n hx hb dX16_answer_129 rfl (lv_at hl 2 rfl) ?_
    obtain ⟨q13, s14, hq, h⟩ := nd_b2_e h
    have hPc := hP
    have hDc := hD
    have hKc := hK
    have hFc := nd_rs hD hS hA
    refine nd_cVi (As := [.int v1]) (rest := []) (q := q13) (w' := dw_X16 a ac s14) ⟨hx, hb, hml, hown, hts⟩ (fun sz => dm_X16_exec l hlt dC dI a ac n (v1) s0 hq sz) (cwV 1 hts gi_dm_X16_answer_3 rfl rfl rfl (by decide +kernel) ⟨Nat.le_of_ble_eq_true rfl, Nat.le_of_ble_eq_true rfl⟩) hPc hDc hKc hS hA hN (va_recv hKc hPc (ci := 17) (q0 := 0) rfl rfl) rfl hl.1 rfl (Nat.le_of_ble_eq_true rfl) dX16_answer_130 (fun H locs hP1 hD1 hk1 hS => ?_)
    have hP := hP1
    have hD := hD1.weaken (fun k q _ h => hFc q.1 h)
    exact K _ _ _ _ _ _ dX16_answer_133 rfl (Option.some.inj h).symm hP hD hS
  have h := nd_neg h c12
  by_cases c16 : v0 = 3
  · have h := nd_pos h c16
    refine lv_tableIn (off := 133) (tgt := 134) hx hb dX16_answer_1 (by rw [c16]; decide) (by rw [c16]; decide) (by rw [c16]; decide) (by decide) ?_
    refine lv_aload_n hx hb dX16_answer_134 rfl (lv_at hl 0 rfl) ?_
    obtain ⟨q17, s18, hq, h⟩ := nd_b2_e h
    have hPc := hP
    have hDc := hD
    have hKc := hK
    have hFc := nd_rs hD hS hA
    refine nd_cVi (As := []) (rest := []) (q := q17) (w' := dw_X16 a ac s18) ⟨hx, hb, hml, hown, hts⟩ (fun sz => dm_X16_waitFor l hlt dC dI a ac n  s0 hq sz) (cwV 0 hts gi_dm_X16_answer_4 rfl rfl rfl (by decide +kernel) ⟨Nat.le_of_ble_eq_true rfl, Nat.le_of_ble_eq_true rfl⟩) hPc hDc hKc hS hA hN (va_recv hKc hPc (ci := 17) (q0 := 0) rfl rfl) rfl hl.1 rfl (Nat.le_of_ble_eq_true rfl) dX16_answer_135 (fun H locs hP1 hD1 hk1 hS => ?_)
    have hP := hP1
    have hD := hD1.weaken (fun k q _ h => hFc q.1 h)
    exact K _ _ _ _ _ _ dX16_answer_138 rfl (Option.some.inj h).symm hP hD hS
  have h := nd_neg h c16
  by_cases c20 : v0 = 4
  · have h := nd_pos h c20
    refine lv_tableIn (off := 138) (tgt := 139) hx hb dX16_answer_1 (by rw [c20]; decide) (by rw [c20]; decide) (by rw [c20]; decide) (by decide) ?_
    refine lv_aload_n hx hb dX16_answer_139 rfl (lv_at hl 0 rfl) ?_
    refine va_get (D := (dC, dI)) (ci := 17) (v := .int (sI s0.1 12)) (C := RX16) (T := TX16) (N := 56) hx hb hts hi_dm_X16_answer_X16 hown hK hP 0 rfl rfl 51 (by decide) (hts (.fieldLink RX16 232 "TimeMachineModel$Machine" "p" "I") (List.mem_of_getElem? (i := 1) rfl)) (fun _ h9 => h9) rfl dX16_answer_140 ?_
    exact K _ _ _ _ _ _ dX16_answer_143 rfl (Option.some.inj h).symm hP hD hS
  have h := nd_neg h c20
  by_cases c21 : v0 = 5
  · have h := nd_pos h c21
    refine lv_tableIn (off := 143) (tgt := 144) hx hb dX16_answer_1 (by rw [c21]; decide) (by rw [c21]; decide) (by rw [c21]; decide) (by decide) ?_
    refine lv_aload_n hx hb dX16_answer_144 rfl (lv_at hl 0 rfl) ?_
    refine lv_iload_n hx hb dX16_answer_145 rfl (lv_at hl 2 rfl) ?_
    obtain ⟨q22, s23, hq, h⟩ := nd_b2_e h
    have hPc := hP
    have hDc := hD
    have hKc := hK
    have hFc := nd_rs hD hS hA
    refine nd_cVi (As := [.int v1]) (rest := []) (q := q22) (w' := dw_X16 a ac s23) ⟨hx, hb, hml, hown, hts⟩ (fun sz => dm_X16_pipe l hlt dC dI a ac n (v1) s0 hq sz) (cwV 1 hts gi_dm_X16_answer_5 rfl rfl rfl (by decide +kernel) ⟨Nat.le_of_ble_eq_true rfl, Nat.le_of_ble_eq_true rfl⟩) hPc hDc hKc hS hA hN (va_recv hKc hPc (ci := 17) (q0 := 0) rfl rfl) rfl hl.1 rfl (Nat.le_of_ble_eq_true rfl) dX16_answer_146 (fun H locs hP1 hD1 hk1 hS => ?_)
    have hP := hP1
    have hD := hD1.weaken (fun k q _ h => hFc q.1 h)
    exact K _ _ _ _ _ _ dX16_answer_149 rfl (Option.some.inj h).symm hP hD hS
  have h := nd_neg h c21
  by_cases c25 : v0 = 6
  · have h := nd_pos h c25
    refine lv_tableIn (off := 149) (tgt := 150) hx hb dX16_answer_1 (by rw [c25]; decide) (by rw [c25]; decide) (by rw [c25]; decide) (by decide) ?_
    refine lv_aload_n hx hb dX16_answer_150 rfl (lv_at hl 0 rfl) ?_
    refine lv_iload_n hx hb dX16_answer_151 rfl (lv_at hl 2 rfl) ?_
    refine lv_iload_n hx hb dX16_answer_152 rfl (lv_at hl 3 rfl) ?_
    refine lv_iload hx hb dX16_answer_153 (lv_at hl 4 rfl) ?_
    obtain ⟨q26, s27, hq, h⟩ := nd_b2_e h
    have hPc := hP
    have hDc := hD
    have hKc := hK
    have hFc := nd_rs hD hS hA
    refine nd_cVi (As := [.int v1, .int v2, .int v3]) (rest := []) (q := q26) (w' := dw_X16 a ac s27) ⟨hx, hb, hml, hown, hts⟩ (fun sz => dm_X16_read l hlt dC dI a ac n (v1) (v2) (v3) s0 hq sz) (cwV 3 hts gi_dm_X16_answer_6 rfl rfl rfl (by decide +kernel) ⟨Nat.le_of_ble_eq_true rfl, Nat.le_of_ble_eq_true rfl⟩) hPc hDc hKc hS hA hN (va_recv hKc hPc (ci := 17) (q0 := 0) rfl rfl) rfl hl.1 rfl (Nat.le_of_ble_eq_true rfl) dX16_answer_155 (fun H locs hP1 hD1 hk1 hS => ?_)
    have hP := hP1
    have hD := hD1.weaken (fun k q _ h => hFc q.1 h)
    exact K _ _ _ _ _ _ dX16_answer_158 rfl (Option.some.inj h).symm hP hD hS
  have h := nd_neg h c25
  by_cases c29 : v0 = 7
  · have h := nd_pos h c29
    refine lv_tableIn (off := 158) (tgt := 159) hx hb dX16_answer_1 (by rw [c29]; decide) (by rw [c29]; decide) (by rw [c29]; decide) (by decide) ?_
    refine lv_aload_n hx hb dX16_answer_159 rfl (lv_at hl 0 rfl) ?_
    refine lv_iload_n hx hb dX16_answer_160 rfl (lv_at hl 2 rfl) ?_
    refine lv_iload_n hx hb dX16_answer_161 rfl (lv_at hl 3 rfl) ?_
    refine lv_iload hx hb dX16_answer_162 (lv_at hl 4 rfl) ?_
    obtain ⟨q30, s31, hq, h⟩ := nd_b2_e h
    have hPc := hP
    have hDc := hD
    have hKc := hK
    have hFc := nd_rs hD hS hA
    refine nd_cVi (As := [.int v1, .int v2, .int v3]) (rest := []) (q := q30) (w' := dw_X16 a ac s31) ⟨hx, hb, hml, hown, hts⟩ (fun sz => dm_X16_write7 l hlt dC dI a ac n (v1) (v2) (v3) s0 hq sz) (cwV 3 hts gi_dm_X16_answer_7 rfl rfl rfl (by decide +kernel) ⟨Nat.le_of_ble_eq_true rfl, Nat.le_of_ble_eq_true rfl⟩) hPc hDc hKc hS hA hN (va_recv hKc hPc (ci := 17) (q0 := 0) rfl rfl) rfl hl.1 rfl (Nat.le_of_ble_eq_true rfl) dX16_answer_164 (fun H locs hP1 hD1 hk1 hS => ?_)
    have hP := hP1
    have hD := hD1.weaken (fun k q _ h => hFc q.1 h)
    exact K _ _ _ _ _ _ dX16_answer_167 rfl (Option.some.inj h).symm hP hD hS
  have h := nd_neg h c29
  by_cases c33 : v0 = 8
  · have h := nd_pos h c33
    refine lv_tableIn (off := 167) (tgt := 168) hx hb dX16_answer_1 (by rw [c33]; decide) (by rw [c33]; decide) (by rw [c33]; decide) (by decide) ?_
    refine lv_aload_n hx hb dX16_answer_168 rfl (lv_at hl 0 rfl) ?_
    refine lv_iload_n hx hb dX16_answer_169 rfl (lv_at hl 2 rfl) ?_
    obtain ⟨q34, s35, hq, h⟩ := nd_b2_e h
    have hPc := hP
    have hDc := hD
    have hKc := hK
    have hFc := nd_rs hD hS hA
    refine nd_cVi (As := [.int v1]) (rest := []) (q := q34) (w' := dw_X16 a ac s35) ⟨hx, hb, hml, hown, hts⟩ (fun sz => dm_X16_close l hlt dC dI a ac n (v1) s0 hq sz) (cwV 1 hts gi_dm_X16_answer_8 rfl rfl rfl (by decide +kernel) ⟨Nat.le_of_ble_eq_true rfl, Nat.le_of_ble_eq_true rfl⟩) hPc hDc hKc hS hA hN (va_recv hKc hPc (ci := 17) (q0 := 0) rfl rfl) rfl hl.1 rfl (Nat.le_of_ble_eq_true rfl) dX16_answer_170 (fun H locs hP1 hD1 hk1 hS => ?_)
    have hP := hP1
    have hD := hD1.weaken (fun k q _ h => hFc q.1 h)
    exact K _ _ _ _ _ _ dX16_answer_173 rfl (Option.some.inj h).symm hP hD hS
  have h := nd_neg h c33
  by_cases c37 : v0 = 9
  · have h := nd_pos h c37
    refine lv_tableIn (off := 173) (tgt := 174) hx hb dX16_answer_1 (by rw [c37]; decide) (by rw [c37]; decide) (by rw [c37]; decide) (by decide) ?_
    refine lv_aload_n hx hb dX16_answer_174 rfl (lv_at hl 0 rfl) ?_
    refine lv_iload_n hx hb dX16_answer_175 rfl (lv_at hl 2 rfl) ?_
    refine lv_iload_n hx hb dX16_answer_176 rfl (lv_at hl 3 rfl) ?_
    obtain ⟨q38, s39, hq, h⟩ := nd_b2_e h
    have hPc := hP
    have hDc := hD
    have hKc := hK
    have hFc := nd_rs hD hS hA
    refine nd_cVi (As := [.int v1, .int v2]) (rest := []) (q := q38) (w' := dw_X16 a ac s39) ⟨hx, hb, hml, hown, hts⟩ (fun sz => dm_X16_dup l hlt dC dI a ac n (v1) (v2) s0 hq sz) (cwV 2 hts gi_dm_X16_answer_9 rfl rfl rfl (by decide +kernel) ⟨Nat.le_of_ble_eq_true rfl, Nat.le_of_ble_eq_true rfl⟩) hPc hDc hKc hS hA hN (va_recv hKc hPc (ci := 17) (q0 := 0) rfl rfl) rfl hl.1 rfl (Nat.le_of_ble_eq_true rfl) dX16_answer_177 (fun H locs hP1 hD1 hk1 hS => ?_)
    have hP := hP1
    have hD := hD1.weaken (fun k q _ h => hFc q.1 h)
    exact K _ _ _ _ _ _ dX16_answer_180 rfl (Option.some.inj h).symm hP hD hS
  have h := nd_neg h c37
  by_cases c41 : v0 = 10
  · have h := nd_pos h c41
    refine lv_tableIn (off := 180) (tgt := 181) hx hb dX16_answer_1 (by rw [c41]; decide) (by rw [c41]; decide) (by rw [c41]; decide) (by decide) ?_
    refine lv_aload_n hx hb dX16_answer_181 rfl (lv_at hl 0 rfl) ?_
    refine lv_iload_n hx hb dX16_answer_182 rfl (lv_at hl 2 rfl) ?_
    refine lv_iload_n hx hb dX16_answer_183 rfl (lv_at hl 3 rfl) ?_
    obtain ⟨q42, s43, hq, h⟩ := nd_b2_e h
    have hPc := hP
    have hDc := hD
    have hKc := hK
    have hFc := nd_rs hD hS hA
    refine nd_cVi (As := [.int v1, .int v2]) (rest := []) (q := q42) (w' := dw_X16 a ac s43) ⟨hx, hb, hml, hown, hts⟩ (fun sz => dm_X16_open l hlt dC dI a ac n (v1) (v2) s0 hq sz) (cwV 2 hts gi_dm_X16_answer_10 rfl rfl rfl (by decide +kernel) ⟨Nat.le_of_ble_eq_true rfl, Nat.le_of_ble_eq_true rfl⟩) hPc hDc hKc hS hA hN (va_recv hKc hPc (ci := 17) (q0 := 0) rfl rfl) rfl hl.1 rfl (Nat.le_of_ble_eq_true rfl) dX16_answer_184 (fun H locs hP1 hD1 hk1 hS => ?_)
    have hP := hP1
    have hD := hD1.weaken (fun k q _ h => hFc q.1 h)
    exact K _ _ _ _ _ _ dX16_answer_187 rfl (Option.some.inj h).symm hP hD hS
  have h := nd_neg h c41
  by_cases c45 : v0 = 11
  · have h := nd_pos h c45
    refine lv_tableIn (off := 187) (tgt := 188) hx hb dX16_answer_1 (by rw [c45]; decide) (by rw [c45]; decide) (by rw [c45]; decide) (by decide) ?_
    refine lv_aload_n hx hb dX16_answer_188 rfl (lv_at hl 0 rfl) ?_
    refine lv_iload_n hx hb dX16_answer_189 rfl (lv_at hl 2 rfl) ?_
    obtain ⟨q46, s47, hq, h⟩ := nd_b2_e h
    have hPc := hP
    have hDc := hD
    have hKc := hK
    have hFc := nd_rs hD hS hA
    refine nd_cVi (As := [.int v1]) (rest := []) (q := q46) (w' := dw_X16 a ac s47) ⟨hx, hb, hml, hown, hts⟩ (fun sz => dm_X16_unlink l hlt dC dI a ac n (v1) s0 hq sz) (cwV 1 hts gi_dm_X16_answer_11 rfl rfl rfl (by decide +kernel) ⟨Nat.le_of_ble_eq_true rfl, Nat.le_of_ble_eq_true rfl⟩) hPc hDc hKc hS hA hN (va_recv hKc hPc (ci := 17) (q0 := 0) rfl rfl) rfl hl.1 rfl (Nat.le_of_ble_eq_true rfl) dX16_answer_190 (fun H locs hP1 hD1 hk1 hS => ?_)
    have hP := hP1
    have hD := hD1.weaken (fun k q _ h => hFc q.1 h)
    exact K _ _ _ _ _ _ dX16_answer_193 rfl (Option.some.inj h).symm hP hD hS
  have h := nd_neg h c45
  by_cases c49 : v0 = 12
  · have h := nd_pos h c49
    refine lv_tableIn (off := 193) (tgt := 194) hx hb dX16_answer_1 (by rw [c49]; decide) (by rw [c49]; decide) (by rw [c49]; decide) (by decide) ?_
    refine lv_aload_n hx hb dX16_answer_194 rfl (lv_at hl 0 rfl) ?_
    refine lv_iload_n hx hb dX16_answer_195 rfl (lv_at hl 2 rfl) ?_
    refine lv_iload_n hx hb dX16_answer_196 rfl (lv_at hl 3 rfl) ?_
    refine lv_iload hx hb dX16_answer_197 (lv_at hl 4 rfl) ?_
    obtain ⟨q50, s51, hq, h⟩ := nd_b2_e h
    have hPc := hP
    have hDc := hD
    have hKc := hK
    have hFc := nd_rs hD hS hA
    refine nd_cVi (As := [.int v1, .int v2, .int v3]) (rest := []) (q := q50) (w' := dw_X16 a ac s51) ⟨hx, hb, hml, hown, hts⟩ (fun sz => dm_X16_seek l hlt dC dI a ac n (v1) (v2) (v3) s0 hq sz) (cwV 3 hts gi_dm_X16_answer_12 rfl rfl rfl (by decide +kernel) ⟨Nat.le_of_ble_eq_true rfl, Nat.le_of_ble_eq_true rfl⟩) hPc hDc hKc hS hA hN (va_recv hKc hPc (ci := 17) (q0 := 0) rfl rfl) rfl hl.1 rfl (Nat.le_of_ble_eq_true rfl) dX16_answer_199 (fun H locs hP1 hD1 hk1 hS => ?_)
    have hP := hP1
    have hD := hD1.weaken (fun k q _ h => hFc q.1 h)
    exact K _ _ _ _ _ _ dX16_answer_202 rfl (Option.some.inj h).symm hP hD hS
  have h := nd_neg h c49
  by_cases c53 : v0 = 13
  · have h := nd_pos h c53
    refine lv_tableIn (off := 202) (tgt := 203) hx hb dX16_answer_1 (by rw [c53]; decide) (by rw [c53]; decide) (by rw [c53]; decide) (by decide) ?_
    refine lv_aload_n hx hb dX16_answer_203 rfl (lv_at hl 0 rfl) ?_
    refine lv_iload_n hx hb dX16_answer_204 rfl (lv_at hl 2 rfl) ?_
    refine lv_iload_n hx hb dX16_answer_205 rfl (lv_at hl 3 rfl) ?_
    obtain ⟨q54, s55, hq, h⟩ := nd_b2_e h
    have hPc := hP
    have hDc := hD
    have hKc := hK
    have hFc := nd_rs hD hS hA
    refine nd_cVi (As := [.int v1, .int v2]) (rest := []) (q := q54) (w' := dw_X16 a ac s55) ⟨hx, hb, hml, hown, hts⟩ (fun sz => dm_X16_rename l hlt dC dI a ac n (v1) (v2) s0 hq sz) (cwV 2 hts gi_dm_X16_answer_13 rfl rfl rfl (by decide +kernel) ⟨Nat.le_of_ble_eq_true rfl, Nat.le_of_ble_eq_true rfl⟩) hPc hDc hKc hS hA hN (va_recv hKc hPc (ci := 17) (q0 := 0) rfl rfl) rfl hl.1 rfl (Nat.le_of_ble_eq_true rfl) dX16_answer_206 (fun H locs hP1 hD1 hk1 hS => ?_)
    have hP := hP1
    have hD := hD1.weaken (fun k q _ h => hFc q.1 h)
    exact K _ _ _ _ _ _ dX16_answer_209 rfl (Option.some.inj h).symm hP hD hS
  have h := nd_neg h c53
  by_cases c57 : v0 = 14
  · have h := nd_pos h c57
    refine lv_tableIn (off := 209) (tgt := 210) hx hb dX16_answer_1 (by rw [c57]; decide) (by rw [c57]; decide) (by rw [c57]; decide) (by decide) ?_
    refine lv_aload_n hx hb dX16_answer_210 rfl (lv_at hl 0 rfl) ?_
    refine lv_iload_n hx hb dX16_answer_211 rfl (lv_at hl 2 rfl) ?_
    obtain ⟨q58, s59, hq, h⟩ := nd_b2_e h
    have hPc := hP
    have hDc := hD
    have hKc := hK
    have hFc := nd_rs hD hS hA
    refine nd_cVi (As := [.int v1]) (rest := []) (q := q58) (w' := dw_X16 a ac s59) ⟨hx, hb, hml, hown, hts⟩ (fun sz => dm_X16_grow l hlt dC dI a ac n (v1) s0 hq sz) (cwV 1 hts gi_dm_X16_answer_14 rfl rfl rfl (by decide +kernel) ⟨Nat.le_of_ble_eq_true rfl, Nat.le_of_ble_eq_true rfl⟩) hPc hDc hKc hS hA hN (va_recv hKc hPc (ci := 17) (q0 := 0) rfl rfl) rfl hl.1 rfl (Nat.le_of_ble_eq_true rfl) dX16_answer_212 (fun H locs hP1 hD1 hk1 hS => ?_)
    have hP := hP1
    have hD := hD1.weaken (fun k q _ h => hFc q.1 h)
    exact K _ _ _ _ _ _ dX16_answer_215 rfl (Option.some.inj h).symm hP hD hS
  have h := nd_neg h c57
  by_cases c61 : v0 = 15
  · have h := nd_pos h c61
    refine lv_tableIn (off := 215) (tgt := 216) hx hb dX16_answer_1 (by rw [c61]; decide) (by rw [c61]; decide) (by rw [c61]; decide) (by decide) ?_
    refine lv_iconst (v := 0) hx hb dX16_answer_216 (by decide) ?_
    exact K _ _ _ _ _ _ dX16_answer_217 rfl (Option.some.inj h).symm hP hD hS
  have h := nd_neg h c61
  by_cases c62 : v0 = 16
  · have h := nd_pos h c62
    refine lv_tableIn (off := 217) (tgt := 218) hx hb dX16_answer_1 (by rw [c62]; decide) (by rw [c62]; decide) (by rw [c62]; decide) (by decide) ?_
    refine lv_aload_n hx hb dX16_answer_218 rfl (lv_at hl 0 rfl) ?_
    refine lv_iload_n hx hb dX16_answer_219 rfl (lv_at hl 2 rfl) ?_
    refine lv_iload_n hx hb dX16_answer_220 rfl (lv_at hl 3 rfl) ?_
    obtain ⟨q63, s64, hq, h⟩ := nd_b2_e h
    have hPc := hP
    have hDc := hD
    have hKc := hK
    have hFc := nd_rs hD hS hA
    refine nd_cVi (As := [.int v1, .int v2]) (rest := []) (q := q63) (w' := dw_X16 a ac s64) ⟨hx, hb, hml, hown, hts⟩ (fun sz => dm_X16_signal l hlt dC dI a ac n (v1) (v2) s0 hq sz) (cwV 2 hts gi_dm_X16_answer_15 rfl rfl rfl (by decide +kernel) ⟨Nat.le_of_ble_eq_true rfl, Nat.le_of_ble_eq_true rfl⟩) hPc hDc hKc hS hA hN (va_recv hKc hPc (ci := 17) (q0 := 0) rfl rfl) rfl hl.1 rfl (Nat.le_of_ble_eq_true rfl) dX16_answer_221 (fun H locs hP1 hD1 hk1 hS => ?_)
    have hP := hP1
    have hD := hD1.weaken (fun k q _ h => hFc q.1 h)
    exact K _ _ _ _ _ _ dX16_answer_224 rfl (Option.some.inj h).symm hP hD hS
  have h := nd_neg h c62
  by_cases c66 : v0 = 17
  · have h := nd_pos h c66
    refine lv_tableIn (off := 224) (tgt := 225) hx hb dX16_answer_1 (by rw [c66]; decide) (by rw [c66]; decide) (by rw [c66]; decide) (by decide) ?_
    refine lv_aload_n hx hb dX16_answer_225 rfl (lv_at hl 0 rfl) ?_
    refine lv_iload_n hx hb dX16_answer_226 rfl (lv_at hl 2 rfl) ?_
    refine lv_iload_n hx hb dX16_answer_227 rfl (lv_at hl 3 rfl) ?_
    obtain ⟨q67, s68, hq, h⟩ := nd_b2_e h
    have hPc := hP
    have hDc := hD
    have hKc := hK
    have hFc := nd_rs hD hS hA
    refine nd_cVi (As := [.int v1, .int v2]) (rest := []) (q := q67) (w' := dw_X16 a ac s68) ⟨hx, hb, hml, hown, hts⟩ (fun sz => dm_X16_handle l hlt dC dI a ac n (v1) (v2) s0 hq sz) (cwV 2 hts gi_dm_X16_answer_16 rfl rfl rfl (by decide +kernel) ⟨Nat.le_of_ble_eq_true rfl, Nat.le_of_ble_eq_true rfl⟩) hPc hDc hKc hS hA hN (va_recv hKc hPc (ci := 17) (q0 := 0) rfl rfl) rfl hl.1 rfl (Nat.le_of_ble_eq_true rfl) dX16_answer_228 (fun H locs hP1 hD1 hk1 hS => ?_)
    have hP := hP1
    have hD := hD1.weaken (fun k q _ h => hFc q.1 h)
    exact K _ _ _ _ _ _ dX16_answer_231 rfl (Option.some.inj h).symm hP hD hS
  have h := nd_neg h c66
  by_cases c70 : v0 = 18
  · have h := nd_pos h c70
    refine lv_tableIn (off := 231) (tgt := 232) hx hb dX16_answer_1 (by rw [c70]; decide) (by rw [c70]; decide) (by rw [c70]; decide) (by decide) ?_
    refine lv_aload_n hx hb dX16_answer_232 rfl (lv_at hl 0 rfl) ?_
    obtain ⟨q71, s72, hq, h⟩ := nd_b2_e h
    have hPc := hP
    have hDc := hD
    have hKc := hK
    have hFc := nd_rs hD hS hA
    refine nd_cVi (As := []) (rest := []) (q := q71) (w' := dw_X16 a ac s72) ⟨hx, hb, hml, hown, hts⟩ (fun sz => dm_X16_back l hlt dC dI a ac n  s0 hq sz) (cwV 0 hts gi_dm_X16_answer_17 rfl rfl rfl (by decide +kernel) ⟨Nat.le_of_ble_eq_true rfl, Nat.le_of_ble_eq_true rfl⟩) hPc hDc hKc hS hA hN (va_recv hKc hPc (ci := 17) (q0 := 0) rfl rfl) rfl hl.1 rfl (Nat.le_of_ble_eq_true rfl) dX16_answer_233 (fun H locs hP1 hD1 hk1 hS => ?_)
    have hP := hP1
    have hD := hD1.weaken (fun k q _ h => hFc q.1 h)
    exact K _ _ _ _ _ _ dX16_answer_236 rfl (Option.some.inj h).symm hP hD hS
  have h := nd_neg h c70
  by_cases c74 : v0 = 19
  · have h := nd_pos h c74
    refine lv_tableIn (off := 236) (tgt := 237) hx hb dX16_answer_1 (by rw [c74]; decide) (by rw [c74]; decide) (by rw [c74]; decide) (by decide) ?_
    refine lv_aload_n hx hb dX16_answer_237 rfl (lv_at hl 0 rfl) ?_
    refine lv_iload_n hx hb dX16_answer_238 rfl (lv_at hl 2 rfl) ?_
    obtain ⟨q75, s76, hq, h⟩ := nd_b2_e h
    have hPc := hP
    have hDc := hD
    have hKc := hK
    have hFc := nd_rs hD hS hA
    refine nd_cVi (As := [.int v1]) (rest := []) (q := q75) (w' := dw_X16 a ac s76) ⟨hx, hb, hml, hown, hts⟩ (fun sz => dm_X16_sleep l hlt dC dI a ac n (v1) s0 hq sz) (cwV 1 hts gi_dm_X16_answer_18 rfl rfl rfl (by decide +kernel) ⟨Nat.le_of_ble_eq_true rfl, Nat.le_of_ble_eq_true rfl⟩) hPc hDc hKc hS hA hN (va_recv hKc hPc (ci := 17) (q0 := 0) rfl rfl) rfl hl.1 rfl (Nat.le_of_ble_eq_true rfl) dX16_answer_239 (fun H locs hP1 hD1 hk1 hS => ?_)
    have hP := hP1
    have hD := hD1.weaken (fun k q _ h => hFc q.1 h)
    exact K _ _ _ _ _ _ dX16_answer_242 rfl (Option.some.inj h).symm hP hD hS
  have h := nd_neg h c74
  by_cases c78 : v0 = 20
  · have h := nd_pos h c78
    refine lv_tableIn (off := 242) (tgt := 243) hx hb dX16_answer_1 (by rw [c78]; decide) (by rw [c78]; decide) (by rw [c78]; decide) (by decide) ?_
    refine lv_aload_n hx hb dX16_answer_243 rfl (lv_at hl 0 rfl) ?_
    refine va_get (D := (dC, dI)) (ci := 17) (v := .ref (a 11)) (C := RX16) (T := TX16) (N := 56) hx hb hts hi_dm_X16_answer_X16 hown hK hP 0 rfl rfl 19 (by decide) (hts (.fieldLink RX16 42 "TimeMachineModel$Machine" "x" "[I") (List.mem_of_getElem? (i := 60) rfl)) (fun _ h9 => h9) rfl dX16_answer_244 ?_
    refine lv_bipush (v := 32) hx hb dX16_answer_247 (by decide) ?_
    refine lv_aload_n hx hb dX16_answer_249 rfl (lv_at hl 0 rfl) ?_
    refine va_get (D := (dC, dI)) (ci := 17) (v := .int (sI s0.1 12)) (C := RX16) (T := TX16) (N := 56) hx hb hts hi_dm_X16_answer_X16 hown hK hP 0 rfl rfl 51 (by decide) (hts (.fieldLink RX16 232 "TimeMachineModel$Machine" "p" "I") (List.mem_of_getElem? (i := 1) rfl)) (fun _ h9 => h9) rfl dX16_answer_250 ?_
    refine lv_imul hx hb dX16_answer_253 ?_
    refine lv_bipush (v := 11) hx hb dX16_answer_254 (by decide) ?_
    refine lv_iadd hx hb dX16_answer_256 ?_
    refine lv_aload_n hx hb dX16_answer_257 rfl (lv_at hl 0 rfl) ?_
    refine va_get (D := (dC, dI)) (ci := 17) (v := .long (sL s0.1 1)) (C := RX16) (T := TX16) (N := 56) hx hb hts hi_dm_X16_answer_X16 hown hK hP 0 rfl rfl 7 (by decide) (hts (.fieldLink RX16 151 "TimeMachineModel$Machine" "clock" "J") (List.mem_of_getElem? (i := 61) rfl)) (fun _ h9 => h9) rfl dX16_answer_258 ?_
    refine lv_bipush (v := 32) hx hb dX16_answer_261 (by decide) ?_
    refine lv_lshr hx hb dX16_answer_263 rfl ?_
    refine lv_l2i hx hb dX16_answer_264 rfl ?_
    obtain ⟨i79, h⟩ := nd_ck_e h
    refine va_iast (i := ((32 * (sI s0.1 12)) + 11)) (x := ((((sL s0.1 1) : Int64) >>> ((32 : Int32).toInt64 &&& 63)).toInt32)) hx hb hK hP hD hS 11 10 rfl rfl i79 dX16_answer_265 (fun H locs hP hD hS => ?_)
    obtain ⟨s80, es80, h⟩ := nd_let_e h
    have hP : va_P (dC, dI) vwCl (dw_X16 a ac s80) H := by rw [es80]; exact hP
    have hD : va_D A (dw_X16 a ac s80) := by rw [es80]; exact hD
    refine lv_aload_n hx hb dX16_answer_266 rfl (lv_at hl 0 rfl) ?_
    refine va_get (D := (dC, dI)) (ci := 17) (v := .long (sL s80.1 1)) (C := RX16) (T := TX16) (N := 56) hx hb hts hi_dm_X16_answer_X16 hown hK hP 0 rfl rfl 7 (by decide) (hts (.fieldLink RX16 151 "TimeMachineModel$Machine" "clock" "J") (List.mem_of_getElem? (i := 61) rfl)) (fun _ h9 => h9) rfl dX16_answer_267 ?_
    refine lv_l2i hx hb dX16_answer_270 rfl ?_
    exact K _ _ _ _ _ _ dX16_answer_271 rfl (Option.some.inj h).symm hP hD hS
  have h := nd_neg h c78
  by_cases c81 : v0 = 21
  · have h := nd_pos h c81
    refine lv_tableIn (off := 271) (tgt := 272) hx hb dX16_answer_1 (by rw [c81]; decide) (by rw [c81]; decide) (by rw [c81]; decide) (by decide) ?_
    refine lv_aload_n hx hb dX16_answer_272 rfl (lv_at hl 0 rfl) ?_
    obtain ⟨q82, s83, hq, h⟩ := nd_b2_e h
    have hPc := hP
    have hDc := hD
    have hKc := hK
    have hFc := nd_rs hD hS hA
    refine nd_cVi (As := []) (rest := []) (q := q82) (w' := dw_X16 a ac s83) ⟨hx, hb, hml, hown, hts⟩ (fun sz => dm_X16_random l hlt dC dI a ac n  s0 hq sz) (cwV 0 hts gi_dm_X16_answer_19 rfl rfl rfl (by decide +kernel) ⟨Nat.le_of_ble_eq_true rfl, Nat.le_of_ble_eq_true rfl⟩) hPc hDc hKc hS hA hN (va_recv hKc hPc (ci := 17) (q0 := 0) rfl rfl) rfl hl.1 rfl (Nat.le_of_ble_eq_true rfl) dX16_answer_273 (fun H locs hP1 hD1 hk1 hS => ?_)
    have hP := hP1
    have hD := hD1.weaken (fun k q _ h => hFc q.1 h)
    exact K _ _ _ _ _ _ dX16_answer_276 rfl (Option.some.inj h).symm hP hD hS
  have h := nd_neg h c81
  refine lv_tableOut (tgt := 277) hx hb dX16_answer_1 (by have g0 := nv_nei c1 (k := 0) (by decide); have g1 := nv_nei c8 (k := 1) (by decide); have g2 := nv_nei c12 (k := 2) (by decide); have g3 := nv_nei c16 (k := 3) (by decide); have g4 := nv_nei c20 (k := 4) (by decide); have g5 := nv_nei c21 (k := 5) (by decide); have g6 := nv_nei c25 (k := 6) (by decide); have g7 := nv_nei c29 (k := 7) (by decide); have g8 := nv_nei c33 (k := 8) (by decide); have g9 := nv_nei c37 (k := 9) (by decide); have g10 := nv_nei c41 (k := 10) (by decide); have g11 := nv_nei c45 (k := 11) (by decide); have g12 := nv_nei c49 (k := 12) (by decide); have g13 := nv_nei c53 (k := 13) (by decide); have g14 := nv_nei c57 (k := 14) (by decide); have g15 := nv_nei c61 (k := 15) (by decide); have g16 := nv_nei c62 (k := 16) (by decide); have g17 := nv_nei c66 (k := 17) (by decide); have g18 := nv_nei c70 (k := 18) (by decide); have g19 := nv_nei c74 (k := 19) (by decide); have g20 := nv_nei c78 (k := 20) (by decide); have g21 := nv_nei c81 (k := 21) (by decide); omega) (by decide) ?_
  refine lv_bipush (v := (-38)) hx hb dX16_answer_277 (by decide) ?_
  exact K _ _ _ _ _ _ dX16_answer_279 rfl (Option.some.inj h).symm hP hD hS
set_option maxHeartbeats 40000000 in
set_option maxRecDepth 100000 in
theorem dm_X16_answer (l : Launch) (hlt : l.stackTraces = false) (dC : Nat → ClassId) (dI : Nat → Nat → Nat) (a : Nat → Nat) (ac : Nat → ClassId) (n : Nat) (v0 : Int32) (v1 : Int32) (v2 : Int32) (v3 : Int32) (s0 : St × (St)) {r : Int32 × (St × (St))} (h : df_X16_answer n v0 v1 v2 v3 s0 = some r) (sz : Nat) : Met l yX16_answer ow_dm_X16_answer ({ frames := 4, cells := 0, slots := 0, locals := 99 }) (va_Pc [.ref (a 0), .int v0, .int v1, .int v2, .int v3] (fun U => U.heap.size = sz ∧ va_P (dC, dI) vwCl (dw_X16 a ac s0) U.heap ∧ va_K (dC, dI) vwCl (dk_X16 ac) U ∧ va_D (fun _ => True) (dw_X16 a ac s0) ∧ nv_E (va_A (dw_X16 a ac s0) sz) U)) (va_Qi (fun x _ => x = r.1) (fun (_ : Unit) t => va_P (dC, dI) vwCl (dw_X16 a ac r.2) t.heap ∧ va_K (dC, dI) vwCl (dk_X16 ac) t ∧ va_D (va_A (dw_X16 a ac s0) sz) (dw_X16 a ac r.2)) (va_A (dw_X16 a ac s0) sz)) 0 0 (va_A (dw_X16 a ac s0) sz) := by
  refine Met.ofW (cc := cX16_answer) (maxL := 5) (ret := (some .int)) (by decide) rfl ?_
  intro p e s m args below meth c s₁ B hml hv
  obtain ⟨rfl, hsz, hP, hK, hD0, hN⟩ := hv
  have hx := B.exec
  have hb := B.bytes
  have hr := B.returns
  have hts := atoms_spec (ws := ow_dm_X16_answer) B.pre
  have hown : s.vm.findClass RX16 = some m.cls := findClass_of_methodNamed B.named
  have hlocks := B.notSynchronized
  subst hsz
  have hD := hD0.self (sz := s.heap.size)
  generalize hAe : va_A (dw_X16 a ac s0) s.heap.size = A at hD hN ⊢
  have hA : ∀ q : Nat, s.heap.size ≤ q → A q := fun q h => by rw [← hAe]; exact Or.inr h
  have hl := lv_entry ([.ref (a 0), .int v0, .int v1, .int v2, .int v3]) (n := 5) (Nat.le_of_ble_eq_true rfl)
  rw [lg_entry_eq]
  generalize (lg_sl ([.ref (a 0), .int v0, .int v1, .int v2, .int v3]) ++ List.replicate (5 - (lg_sl ([.ref (a 0), .int v0, .int v1, .int v2, .int v3])).length) Slot.unset).toArray = ls at hl ⊢
  have hl : lv_has ls 5 [(0, .ref (a 0)), (1, .int v0), (2, .int v1), (3, .int v2), (4, .int v3)] := hl
  exact db_X16_answer_0 (dC := dC) (dI := dI) (a := a) (ac := ac) (n := n) (r := r) ⟨hlt, hx, hb, hml, hown, hts, hN, hA, hK⟩ (fun pc v τ H locs ls d z er hP hD hS => by subst er; exact W.zret (v := v) hx hb hr z (fun t ht hW => ⟨⟨v, (), rfl, rfl, by rw [ht]; exact hP, va_K.moved hW.alike hK, hD⟩, hS.F ht⟩) hS.2.2 d) v0 v1 v2 v3 s0 _ _ _ h hP hD va_S.rf (lv_sub hl [0, 1, 2, 3, 4] rfl)
def ow_dm_X16_call : List Cond := .code yX16_call cX16_call 3 none :: ([.fieldLink RX16 42 "TimeMachineModel$Machine" "x" "[I", .fieldLink RX16 232 "TimeMachineModel$Machine" "p" "I", .fieldLink RX16 409 "TimeMachineModel$Machine" "outcome" "I", .methodLink RX16 412 yX16_answer, .instanceMethod yX16_answer, .selects RX16 yX16_answer yX16_answer, .initialized RX16, .fieldLink RX16 45 "TimeMachineModel$Machine" "place" "[I", .methodLink RX16 275 yX16_turn, .instanceMethod yX16_turn, .selects RX16 yX16_turn yX16_turn, .fieldLink RX16 13 "TimeMachineModel$Machine" "state" "[I", .fieldLink RX16 31 "TimeMachineModel$Machine" "calling" "[I", .methodLink RX16 294 yX16_trap, .instanceMethod yX16_trap, .selects RX16 yX16_trap yX16_trap] ++ (u_ws RX16 TX16 56 ++ (ow_dm_X16_answer ++ (ow_dm_X16_turn ++ (ow_dm_X16_trap ++ [])))))
theorem gd_dm_X16_call : ∀ w ∈ ow_dm_X16_call, (w.onTables && w.keeps) = true ∨ ∃ ty, w = Cond.arrayClass ty := List.forall_mem_cons.mpr ⟨good_of_word rfl, List.forall_mem_append.mpr ⟨fun w h => good_of_word (List.all_eq_true.mp (by decide +kernel) w h), List.forall_mem_append.mpr ⟨gu_X16, List.forall_mem_append.mpr ⟨gd_dm_X16_answer, List.forall_mem_append.mpr ⟨gd_dm_X16_turn, List.forall_mem_append.mpr ⟨gd_dm_X16_trap, fun _ h => nomatch h⟩⟩⟩⟩⟩⟩
theorem hi_dm_X16_call_X16 : ∀ w ∈ u_ws RX16 TX16 56, w ∈ ow_dm_X16_call := fun w h => List.mem_cons_of_mem _ (List.mem_append_right _ (List.mem_append_left _ h))
theorem gi_dm_X16_call_0 : GoodIn ow_dm_X16_call (wsV RX16 412 RX16 yX16_answer ow_dm_X16_answer) := goodIn_app (goodIn_of _ (by decide +kernel)) (fun w h => ⟨List.mem_cons_of_mem _ (List.mem_append_right _ (List.mem_append_right _ (List.mem_append_left _ h))), gd_dm_X16_answer w h⟩)
theorem gi_dm_X16_call_1 : GoodIn ow_dm_X16_call (wsV RX16 275 RX16 yX16_turn ow_dm_X16_turn) := goodIn_app (goodIn_of _ (by decide +kernel)) (fun w h => ⟨List.mem_cons_of_mem _ (List.mem_append_right _ (List.mem_append_right _ (List.mem_append_right _ (List.mem_append_left _ h)))), gd_dm_X16_turn w h⟩)
theorem gi_dm_X16_call_2 : GoodIn ow_dm_X16_call (wsV RX16 294 RX16 yX16_trap ow_dm_X16_trap) := goodIn_app (goodIn_of _ (by decide +kernel)) (fun w h => ⟨List.mem_cons_of_mem _ (List.mem_append_right _ (List.mem_append_right _ (List.mem_append_right _ (List.mem_append_right _ (List.mem_append_left _ h))))), gd_dm_X16_trap w h⟩)
def dj_X16_call_164 (p : Program) (l : Launch) (e : Env) (s : State) (m : MethodId) (args : Array Value) (below : List Frame) (meth : Method) (c : Code) (Q : State → Prop) (A : Nat → Prop) (dC : Nat → ClassId) (dI : Nat → Nat → Nat) (a : Nat → Nat) (ac : Nat → ClassId) (g : (St × (St)) → Option (St × (St))) (r : St × (St)) : Prop := ∀ (s0 : St × (St)) (H : Heap) (locs : List Loc) (ls : Array Slot), g s0 = some r → va_P (dC, dI) vwCl (dw_X16 a ac s0) H → va_D A (dw_X16 a ac s0) → va_S A s.heap H locs → lv_has ls 3 [] → W p l e (headSpec ow_dm_X16_call ({ frames := 5, cells := 0, slots := 0, locals := 123 })).room s m args below meth c H locs 0 0 Q (F0 m 164 ls [])
def dj_X16_call_0 (p : Program) (l : Launch) (e : Env) (s : State) (m : MethodId) (args : Array Value) (below : List Frame) (meth : Method) (c : Code) (Q : State → Prop) (A : Nat → Prop) (dC : Nat → ClassId) (dI : Nat → Nat → Nat) (a : Nat → Nat) (ac : Nat → ClassId) (g : (St × (St)) → Option (St × (St))) (r : St × (St)) : Prop := ∀ (s0 : St × (St)) (H : Heap) (locs : List Loc) (ls : Array Slot), g s0 = some r → va_P (dC, dI) vwCl (dw_X16 a ac s0) H → va_D A (dw_X16 a ac s0) → va_S A s.heap H locs → lv_has ls 3 [(0, .ref (a 0))] → W p l e (headSpec ow_dm_X16_call ({ frames := 5, cells := 0, slots := 0, locals := 123 })).room s m args below meth c H locs 0 0 Q (F0 m 0 ls [])
set_option maxHeartbeats 40000000 in
set_option maxRecDepth 100000 in
theorem db_X16_call_164 {p : Program} {l : Launch} {e : Env} {s : State} {m : MethodId} {args : Array Value} {below : List Frame} {meth : Method} {c : Code} {Q : State → Prop} {A : Nat → Prop} {dC : Nat → ClassId} {dI : Nat → Nat → Nat} {a : Nat → Nat} {ac : Nat → ClassId} {n : Nat} {r : St × (St)} (C : nd_C p l s m args c A (dC, dI) cX16_call 3 RX16 ow_dm_X16_call (dk_X16 ac)) (K : nd_Kv p l e (headSpec ow_dm_X16_call ({ frames := 5, cells := 0, slots := 0, locals := 123 })).room s m args below meth c Q A (dC, dI) cX16_call (St × (St)) (dw_X16 a ac) r) : dj_X16_call_164 p l e s m args below meth c Q A dC dI a ac (df_X16_call_164 n) r := by
  obtain ⟨hlt, hx, hb, hml, hown, hts, hN, hA, hK⟩ := id C
  intro s0 H locs ls h hP hD hS hl
  unfold df_X16_call_164 at h
  exact K _ _ _ _ _ dX16_call_164 (Option.some.inj h).symm hP hD hS
set_option maxHeartbeats 40000000 in
set_option maxRecDepth 100000 in
theorem db_X16_call_0 {p : Program} {l : Launch} {e : Env} {s : State} {m : MethodId} {args : Array Value} {below : List Frame} {meth : Method} {c : Code} {Q : State → Prop} {A : Nat → Prop} {dC : Nat → ClassId} {dI : Nat → Nat → Nat} {a : Nat → Nat} {ac : Nat → ClassId} {n : Nat} {r : St × (St)} (C : nd_C p l s m args c A (dC, dI) cX16_call 3 RX16 ow_dm_X16_call (dk_X16 ac)) (K : nd_Kv p l e (headSpec ow_dm_X16_call ({ frames := 5, cells := 0, slots := 0, locals := 123 })).room s m args below meth c Q A (dC, dI) cX16_call (St × (St)) (dw_X16 a ac) r) : dj_X16_call_0 p l e s m args below meth c Q A dC dI a ac (df_X16_call_0 n) r := by
  obtain ⟨hlt, hx, hb, hml, hown, hts, hN, hA, hK⟩ := id C
  intro s0 H locs ls h hP hD hS hl
  unfold df_X16_call_0 at h
  refine lv_aload_n hx hb dX16_call_0 rfl (lv_at hl 0 rfl) ?_
  refine va_get (D := (dC, dI)) (ci := 17) (v := .ref (a 11)) (C := RX16) (T := TX16) (N := 56) hx hb hts hi_dm_X16_call_X16 hown hK hP 0 rfl rfl 19 (by decide) (hts (.fieldLink RX16 42 "TimeMachineModel$Machine" "x" "[I") (List.mem_of_getElem? (i := 1) rfl)) (fun _ h9 => h9) rfl dX16_call_1 ?_
  refine lv_bipush (v := 32) hx hb dX16_call_4 (by decide) ?_
  refine lv_aload_n hx hb dX16_call_6 rfl (lv_at hl 0 rfl) ?_
  refine va_get (D := (dC, dI)) (ci := 17) (v := .int (sI s0.1 12)) (C := RX16) (T := TX16) (N := 56) hx hb hts hi_dm_X16_call_X16 hown hK hP 0 rfl rfl 51 (by decide) (hts (.fieldLink RX16 232 "TimeMachineModel$Machine" "p" "I") (List.mem_of_getElem? (i := 2) rfl)) (fun _ h9 => h9) rfl dX16_call_7 ?_
  refine lv_imul hx hb dX16_call_10 ?_
  refine lv_bipush (v := 17) hx hb dX16_call_11 (by decide) ?_
  refine lv_iadd hx hb dX16_call_13 ?_
  obtain ⟨i1, h⟩ := nd_ck_e h
  refine va_iald (i := ((32 * (sI s0.1 12)) + 17)) hx hb hK hP 11 10 rfl rfl i1 dX16_call_14 ?_
  refine lv_topi (fun z2 ez2 => ?_)
  have h := nd_at h ez2
  refine lv_istore_n (lv' := [(1, .int z2), (0, .ref (a 0))]) hx hb dX16_call_15 rfl hl (by decide) rfl (fun ls hl => ?_)
  refine lv_aload_n hx hb dX16_call_16 rfl (lv_at hl 1 rfl) ?_
  refine lv_iconst (v := 0) hx hb dX16_call_17 (by decide) ?_
  refine va_put (D := (dC, dI)) (ci := 17) (v := .int 0) (ty := .int) (C := RX16) (T := TX16) (N := 56) hx hb hts hi_dm_X16_call_X16 tyX16 tyX16_ok nmX16 hown hK hP hD hS 0 rfl rfl 52 (by decide) (hts (.fieldLink RX16 409 "TimeMachineModel$Machine" "outcome" "I") (List.mem_of_getElem? (i := 3) rfl)) (fun _ h9 => h9) rfl (by decide +kernel) rfl rfl (Nat.le_of_ble_eq_true rfl) dX16_call_18 (fun H locs hP hD hS => ?_)
  obtain ⟨s3, es3, h⟩ := nd_let_e h
  have hP : va_P (dC, dI) vwCl (dw_X16 a ac s3) H := by rw [es3]; exact hP
  have hD : va_D A (dw_X16 a ac s3) := by rw [es3]; exact hD
  refine lv_aload_n hx hb dX16_call_21 rfl (lv_at hl 1 rfl) ?_
  refine lv_iload_n hx hb dX16_call_22 rfl (lv_at hl 0 rfl) ?_
  refine lv_aload_n hx hb dX16_call_23 rfl (lv_at hl 1 rfl) ?_
  refine va_get (D := (dC, dI)) (ci := 17) (v := .ref (a 11)) (C := RX16) (T := TX16) (N := 56) hx hb hts hi_dm_X16_call_X16 hown hK hP 0 rfl rfl 19 (by decide) (hts (.fieldLink RX16 42 "TimeMachineModel$Machine" "x" "[I") (List.mem_of_getElem? (i := 1) rfl)) (fun _ h9 => h9) rfl dX16_call_24 ?_
  refine lv_bipush (v := 32) hx hb dX16_call_27 (by decide) ?_
  refine lv_aload_n hx hb dX16_call_29 rfl (lv_at hl 1 rfl) ?_
  refine va_get (D := (dC, dI)) (ci := 17) (v := .int (sI s3.1 12)) (C := RX16) (T := TX16) (N := 56) hx hb hts hi_dm_X16_call_X16 hown hK hP 0 rfl rfl 51 (by decide) (hts (.fieldLink RX16 232 "TimeMachineModel$Machine" "p" "I") (List.mem_of_getElem? (i := 2) rfl)) (fun _ h9 => h9) rfl dX16_call_30 ?_
  refine lv_imul hx hb dX16_call_33 ?_
  refine lv_bipush (v := 10) hx hb dX16_call_34 (by decide) ?_
  refine lv_iadd hx hb dX16_call_36 ?_
  obtain ⟨i4, h⟩ := nd_ck_e h
  refine va_iald (i := ((32 * (sI s3.1 12)) + 10)) hx hb hK hP 11 10 rfl rfl i4 dX16_call_37 ?_
  refine lv_aload_n hx hb dX16_call_38 rfl (lv_at hl 1 rfl) ?_
  refine va_get (D := (dC, dI)) (ci := 17) (v := .ref (a 11)) (C := RX16) (T := TX16) (N := 56) hx hb hts hi_dm_X16_call_X16 hown hK hP 0 rfl rfl 19 (by decide) (hts (.fieldLink RX16 42 "TimeMachineModel$Machine" "x" "[I") (List.mem_of_getElem? (i := 1) rfl)) (fun _ h9 => h9) rfl dX16_call_39 ?_
  refine lv_bipush (v := 32) hx hb dX16_call_42 (by decide) ?_
  refine lv_aload_n hx hb dX16_call_44 rfl (lv_at hl 1 rfl) ?_
  refine va_get (D := (dC, dI)) (ci := 17) (v := .int (sI s3.1 12)) (C := RX16) (T := TX16) (N := 56) hx hb hts hi_dm_X16_call_X16 hown hK hP 0 rfl rfl 51 (by decide) (hts (.fieldLink RX16 232 "TimeMachineModel$Machine" "p" "I") (List.mem_of_getElem? (i := 2) rfl)) (fun _ h9 => h9) rfl dX16_call_45 ?_
  refine lv_imul hx hb dX16_call_48 ?_
  refine lv_bipush (v := 11) hx hb dX16_call_49 (by decide) ?_
  refine lv_iadd hx hb dX16_call_51 ?_
  obtain ⟨i5, h⟩ := nd_ck_e h
  refine va_iald (i := ((32 * (sI s3.1 12)) + 11)) hx hb hK hP 11 10 rfl rfl i5 dX16_call_52 ?_
  refine lv_aload_n hx hb dX16_call_53 rfl (lv_at hl 1 rfl) ?_
  refine va_get (D := (dC, dI)) (ci := 17) (v := .ref (a 11)) (C := RX16) (T := TX16) (N := 56) hx hb hts hi_dm_X16_call_X16 hown hK hP 0 rfl rfl 19 (by decide) (hts (.fieldLink RX16 42 "TimeMachineModel$Machine" "x" "[I") (List.mem_of_getElem? (i := 1) rfl)) (fun _ h9 => h9) rfl dX16_call_54 ?_
  refine lv_bipush (v := 32) hx hb dX16_call_57 (by decide) ?_
  refine lv_aload_n hx hb dX16_call_59 rfl (lv_at hl 1 rfl) ?_
  refine va_get (D := (dC, dI)) (ci := 17) (v := .int (sI s3.1 12)) (C := RX16) (T := TX16) (N := 56) hx hb hts hi_dm_X16_call_X16 hown hK hP 0 rfl rfl 51 (by decide) (hts (.fieldLink RX16 232 "TimeMachineModel$Machine" "p" "I") (List.mem_of_getElem? (i := 2) rfl)) (fun _ h9 => h9) rfl dX16_call_60 ?_
  refine lv_imul hx hb dX16_call_63 ?_
  refine lv_bipush (v := 12) hx hb dX16_call_64 (by decide) ?_
  refine lv_iadd hx hb dX16_call_66 ?_
  obtain ⟨i6, h⟩ := nd_ck_e h
  refine va_iald (i := ((32 * (sI s3.1 12)) + 12)) hx hb hK hP 11 10 rfl rfl i6 dX16_call_67 ?_
  obtain ⟨q7, s8, hq, h⟩ := nd_b2_e h
  have hPc := hP
  have hDc := hD
  have hKc := hK
  have hFc := nd_rs hD hS hA
  refine nd_cVi (As := [.int z2, .int (sR s3.1 9 (Int32.toNatClampNeg ((32 * (sI s3.1 12)) + 10))), .int (sR s3.1 9 (Int32.toNatClampNeg ((32 * (sI s3.1 12)) + 11))), .int (sR s3.1 9 (Int32.toNatClampNeg ((32 * (sI s3.1 12)) + 12)))]) (rest := []) (q := q7) (w' := dw_X16 a ac s8) ⟨hx, hb, hml, hown, hts⟩ (fun sz => dm_X16_answer l hlt dC dI a ac n (z2) ((sR s3.1 9 (Int32.toNatClampNeg ((32 * (sI s3.1 12)) + 10)))) ((sR s3.1 9 (Int32.toNatClampNeg ((32 * (sI s3.1 12)) + 11)))) ((sR s3.1 9 (Int32.toNatClampNeg ((32 * (sI s3.1 12)) + 12)))) s3 hq sz) (cwV 4 hts gi_dm_X16_call_0 rfl rfl rfl (by decide +kernel) ⟨Nat.le_of_ble_eq_true rfl, Nat.le_of_ble_eq_true rfl⟩) hPc hDc hKc hS hA hN (va_recv hKc hPc (ci := 17) (q0 := 0) rfl rfl) rfl hl.1 rfl (Nat.le_of_ble_eq_true rfl) dX16_call_68 (fun H locs hP1 hD1 hk1 hS => ?_)
  have hP := hP1
  have hD := hD1.weaken (fun k q _ h => hFc q.1 h)
  refine lv_istore_n (lv' := [(2, .int q7), (1, .int z2), (0, .ref (a 0))]) hx hb dX16_call_71 rfl hl (by decide) rfl (fun ls hl => ?_)
  refine lv_aload_n hx hb dX16_call_72 rfl (lv_at hl 2 rfl) ?_
  refine va_get (D := (dC, dI)) (ci := 17) (v := .int (sI s8.1 13)) (C := RX16) (T := TX16) (N := 56) hx hb hts hi_dm_X16_call_X16 hown hK hP 0 rfl rfl 52 (by decide) (hts (.fieldLink RX16 409 "TimeMachineModel$Machine" "outcome" "I") (List.mem_of_getElem? (i := 3) rfl)) (fun _ h9 => h9) rfl dX16_call_73 ?_
  refine lv_iconst (v := 2) hx hb dX16_call_76 (by decide) ?_
  refine lv_icmp_ne (tgt := 81) hx hb dX16_call_77 (by decide) (fun c10 => ?_) (fun c10 => ?_)
  · have h := nd_neg h c10
    refine lv_aload_n hx hb dX16_call_81 rfl (lv_at hl 2 rfl) ?_
    refine va_get (D := (dC, dI)) (ci := 17) (v := .int (sI s8.1 13)) (C := RX16) (T := TX16) (N := 56) hx hb hts hi_dm_X16_call_X16 hown hK hP 0 rfl rfl 52 (by decide) (hts (.fieldLink RX16 409 "TimeMachineModel$Machine" "outcome" "I") (List.mem_of_getElem? (i := 3) rfl)) (fun _ h9 => h9) rfl dX16_call_82 ?_
    refine lv_iconst (v := 3) hx hb dX16_call_85 (by decide) ?_
    refine lv_icmp_ne (tgt := 96) hx hb dX16_call_86 (by decide) (fun c11 => ?_) (fun c11 => ?_)
    · have h := nd_neg h c11
      refine lv_aload_n hx hb dX16_call_96 rfl (lv_at hl 2 rfl) ?_
      refine va_get (D := (dC, dI)) (ci := 17) (v := .int (sI s8.1 13)) (C := RX16) (T := TX16) (N := 56) hx hb hts hi_dm_X16_call_X16 hown hK hP 0 rfl rfl 52 (by decide) (hts (.fieldLink RX16 409 "TimeMachineModel$Machine" "outcome" "I") (List.mem_of_getElem? (i := 3) rfl)) (fun _ h9 => h9) rfl dX16_call_97 ?_
      refine lv_iconst (v := 1) hx hb dX16_call_100 (by decide) ?_
      refine lv_icmp_ne (tgt := 125) hx hb dX16_call_101 (by decide) (fun c12 => ?_) (fun c12 => ?_)
      · have h := nd_neg h c12
        refine lv_aload_n hx hb dX16_call_125 rfl (lv_at hl 2 rfl) ?_
        refine va_get (D := (dC, dI)) (ci := 17) (v := .ref (a 11)) (C := RX16) (T := TX16) (N := 56) hx hb hts hi_dm_X16_call_X16 hown hK hP 0 rfl rfl 19 (by decide) (hts (.fieldLink RX16 42 "TimeMachineModel$Machine" "x" "[I") (List.mem_of_getElem? (i := 1) rfl)) (fun _ h9 => h9) rfl dX16_call_126 ?_
        refine lv_bipush (v := 32) hx hb dX16_call_129 (by decide) ?_
        refine lv_aload_n hx hb dX16_call_131 rfl (lv_at hl 2 rfl) ?_
        refine va_get (D := (dC, dI)) (ci := 17) (v := .int (sI s8.1 12)) (C := RX16) (T := TX16) (N := 56) hx hb hts hi_dm_X16_call_X16 hown hK hP 0 rfl rfl 51 (by decide) (hts (.fieldLink RX16 232 "TimeMachineModel$Machine" "p" "I") (List.mem_of_getElem? (i := 2) rfl)) (fun _ h9 => h9) rfl dX16_call_132 ?_
        refine lv_imul hx hb dX16_call_135 ?_
        refine lv_bipush (v := 10) hx hb dX16_call_136 (by decide) ?_
        refine lv_iadd hx hb dX16_call_138 ?_
        refine lv_iload_n hx hb dX16_call_139 rfl (lv_at hl 0 rfl) ?_
        obtain ⟨i13, h⟩ := nd_ck_e h
        refine va_iast (i := ((32 * (sI s8.1 12)) + 10)) (x := q7) hx hb hK hP hD hS 11 10 rfl rfl i13 dX16_call_140 (fun H locs hP hD hS => ?_)
        obtain ⟨s14, es14, h⟩ := nd_let_e h
        have hP : va_P (dC, dI) vwCl (dw_X16 a ac s14) H := by rw [es14]; exact hP
        have hD : va_D A (dw_X16 a ac s14) := by rw [es14]; exact hD
        refine lv_aload_n hx hb dX16_call_141 rfl (lv_at hl 2 rfl) ?_
        refine va_get (D := (dC, dI)) (ci := 17) (v := .ref (a 12)) (C := RX16) (T := TX16) (N := 56) hx hb hts hi_dm_X16_call_X16 hown hK hP 0 rfl rfl 20 (by decide) (hts (.fieldLink RX16 45 "TimeMachineModel$Machine" "place" "[I") (List.mem_of_getElem? (i := 8) rfl)) (fun _ h9 => h9) rfl dX16_call_142 ?_
        refine lv_aload_n hx hb dX16_call_145 rfl (lv_at hl 2 rfl) ?_
        refine va_get (D := (dC, dI)) (ci := 17) (v := .int (sI s14.1 12)) (C := RX16) (T := TX16) (N := 56) hx hb hts hi_dm_X16_call_X16 hown hK hP 0 rfl rfl 51 (by decide) (hts (.fieldLink RX16 232 "TimeMachineModel$Machine" "p" "I") (List.mem_of_getElem? (i := 2) rfl)) (fun _ h9 => h9) rfl dX16_call_146 ?_
        refine lv_dup2_11 hx hb dX16_call_149 rfl rfl ?_
        obtain ⟨i15, h⟩ := nd_ck_e h
        refine va_iald (i := (sI s14.1 12)) hx hb hK hP 12 11 rfl rfl i15 dX16_call_150 ?_
        refine lv_iconst (v := 4) hx hb dX16_call_151 (by decide) ?_
        refine lv_iadd hx hb dX16_call_152 ?_
        obtain ⟨i16, h⟩ := nd_ck_e h
        refine va_iast (i := (sI s14.1 12)) (x := ((sR s14.1 10 (Int32.toNatClampNeg (sI s14.1 12))) + 4)) hx hb hK hP hD hS 12 11 rfl rfl i16 dX16_call_153 (fun H locs hP hD hS => ?_)
        obtain ⟨s17, es17, h⟩ := nd_let_e h
        have hP : va_P (dC, dI) vwCl (dw_X16 a ac s17) H := by rw [es17]; exact hP
        have hD : va_D A (dw_X16 a ac s17) := by rw [es17]; exact hD
        refine lv_iload_n hx hb dX16_call_154 rfl (lv_at hl 1 rfl) ?_
        refine lv_bipush (v := 15) hx hb dX16_call_155 (by decide) ?_
        refine lv_icmp_ne (tgt := 164) hx hb dX16_call_157 (by decide) (fun c18 => ?_) (fun c18 => ?_)
        · have h := nd_neg h c18
          exact (db_X16_call_164 C K)  s17 _ _ _ h hP hD hS (lv_sub hl [] rfl)
        · have h := nd_pos h c18
          refine lv_aload_n hx hb dX16_call_160 rfl (lv_at hl 2 rfl) ?_
          obtain ⟨s20, hq, h⟩ := nd_b1_e h
          have hPc := hP
          have hDc := hD
          have hKc := hK
          have hFc := nd_rs hD hS hA
          refine nd_cVv (As := []) (rest := []) (w' := dw_X16 a ac s20) ⟨hx, hb, hml, hown, hts⟩ (fun sz => dm_X16_turn l hlt dC dI a ac n  s17 hq sz) (cwV 0 hts gi_dm_X16_call_1 rfl rfl rfl (by decide +kernel) ⟨Nat.le_of_ble_eq_true rfl, Nat.le_of_ble_eq_true rfl⟩) hPc hDc hKc hS hA hN (va_recv hKc hPc (ci := 17) (q0 := 0) rfl rfl) rfl hl.1 rfl (Nat.le_of_ble_eq_true rfl) dX16_call_161 (fun H locs hP1 hD1 hk1 hS => ?_)
          have hP := hP1
          have hD := hD1.weaken (fun k q _ h => hFc q.1 h)
          exact (db_X16_call_164 C K)  s20 _ _ _ h hP hD hS (lv_sub hl [] rfl)
      · have h := nd_pos h c12
        refine lv_aload_n hx hb dX16_call_104 rfl (lv_at hl 2 rfl) ?_
        refine va_get (D := (dC, dI)) (ci := 17) (v := .ref (a 2)) (C := RX16) (T := TX16) (N := 56) hx hb hts hi_dm_X16_call_X16 hown hK hP 0 rfl rfl 10 (by decide) (hts (.fieldLink RX16 13 "TimeMachineModel$Machine" "state" "[I") (List.mem_of_getElem? (i := 12) rfl)) (fun _ h9 => h9) rfl dX16_call_105 ?_
        refine lv_aload_n hx hb dX16_call_108 rfl (lv_at hl 2 rfl) ?_
        refine va_get (D := (dC, dI)) (ci := 17) (v := .int (sI s8.1 12)) (C := RX16) (T := TX16) (N := 56) hx hb hts hi_dm_X16_call_X16 hown hK hP 0 rfl rfl 51 (by decide) (hts (.fieldLink RX16 232 "TimeMachineModel$Machine" "p" "I") (List.mem_of_getElem? (i := 2) rfl)) (fun _ h9 => h9) rfl dX16_call_109 ?_
        refine lv_iconst (v := 2) hx hb dX16_call_112 (by decide) ?_
        obtain ⟨i22, h⟩ := nd_ck_e h
        refine va_iast (i := (sI s8.1 12)) (x := 2) hx hb hK hP hD hS 2 1 rfl rfl i22 dX16_call_113 (fun H locs hP hD hS => ?_)
        obtain ⟨s23, es23, h⟩ := nd_let_e h
        have hP : va_P (dC, dI) vwCl (dw_X16 a ac s23) H := by rw [es23]; exact hP
        have hD : va_D A (dw_X16 a ac s23) := by rw [es23]; exact hD
        refine lv_aload_n hx hb dX16_call_114 rfl (lv_at hl 2 rfl) ?_
        refine va_get (D := (dC, dI)) (ci := 17) (v := .ref (a 8)) (C := RX16) (T := TX16) (N := 56) hx hb hts hi_dm_X16_call_X16 hown hK hP 0 rfl rfl 16 (by decide) (hts (.fieldLink RX16 31 "TimeMachineModel$Machine" "calling" "[I") (List.mem_of_getElem? (i := 13) rfl)) (fun _ h9 => h9) rfl dX16_call_115 ?_
        refine lv_aload_n hx hb dX16_call_118 rfl (lv_at hl 2 rfl) ?_
        refine va_get (D := (dC, dI)) (ci := 17) (v := .int (sI s23.1 12)) (C := RX16) (T := TX16) (N := 56) hx hb hts hi_dm_X16_call_X16 hown hK hP 0 rfl rfl 51 (by decide) (hts (.fieldLink RX16 232 "TimeMachineModel$Machine" "p" "I") (List.mem_of_getElem? (i := 2) rfl)) (fun _ h9 => h9) rfl dX16_call_119 ?_
        refine lv_iload_n hx hb dX16_call_122 rfl (lv_at hl 1 rfl) ?_
        obtain ⟨i24, h⟩ := nd_ck_e h
        refine va_iast (i := (sI s23.1 12)) (x := z2) hx hb hK hP hD hS 8 7 rfl rfl i24 dX16_call_123 (fun H locs hP hD hS => ?_)
        obtain ⟨s25, es25, h⟩ := nd_let_e h
        have hP : va_P (dC, dI) vwCl (dw_X16 a ac s25) H := by rw [es25]; exact hP
        have hD : va_D A (dw_X16 a ac s25) := by rw [es25]; exact hD
        exact K _ _ _ _ _ dX16_call_124 (Option.some.inj h).symm hP hD hS
    · have h := nd_pos h c11
      refine lv_aload_n hx hb dX16_call_89 rfl (lv_at hl 2 rfl) ?_
      refine lv_bipush (v := 7) hx hb dX16_call_90 (by decide) ?_
      obtain ⟨s27, hq, h⟩ := nd_b1_e h
      have hPc := hP
      have hDc := hD
      have hKc := hK
      have hFc := nd_rs hD hS hA
      refine nd_cVv (As := [.int 7]) (rest := []) (w' := dw_X16 a ac s27) ⟨hx, hb, hml, hown, hts⟩ (fun sz => dm_X16_trap l hlt dC dI a ac n (7) s8 hq sz) (cwV 1 hts gi_dm_X16_call_2 rfl rfl rfl (by decide +kernel) ⟨Nat.le_of_ble_eq_true rfl, Nat.le_of_ble_eq_true rfl⟩) hPc hDc hKc hS hA hN (va_recv hKc hPc (ci := 17) (q0 := 0) rfl rfl) rfl hl.1 rfl (Nat.le_of_ble_eq_true rfl) dX16_call_92 (fun H locs hP1 hD1 hk1 hS => ?_)
      have hP := hP1
      have hD := hD1.weaken (fun k q _ h => hFc q.1 h)
      exact K _ _ _ _ _ dX16_call_95 (Option.some.inj h).symm hP hD hS
  · have h := nd_pos h c10
    exact K _ _ _ _ _ dX16_call_80 (Option.some.inj h).symm hP hD hS
set_option maxHeartbeats 40000000 in
set_option maxRecDepth 100000 in
theorem dm_X16_call (l : Launch) (hlt : l.stackTraces = false) (dC : Nat → ClassId) (dI : Nat → Nat → Nat) (a : Nat → Nat) (ac : Nat → ClassId) (n : Nat) (s0 : St × (St)) {r : St × (St)} (h : df_X16_call n s0 = some r) (sz : Nat) : Met l yX16_call ow_dm_X16_call ({ frames := 5, cells := 0, slots := 0, locals := 123 }) (va_Pc [.ref (a 0)] (fun U => U.heap.size = sz ∧ va_P (dC, dI) vwCl (dw_X16 a ac s0) U.heap ∧ va_K (dC, dI) vwCl (dk_X16 ac) U ∧ va_D (fun _ => True) (dw_X16 a ac s0) ∧ nv_E (va_A (dw_X16 a ac s0) sz) U)) (va_Qv (fun _ => True) (fun (_ : Unit) t => va_P (dC, dI) vwCl (dw_X16 a ac r) t.heap ∧ va_K (dC, dI) vwCl (dk_X16 ac) t ∧ va_D (va_A (dw_X16 a ac s0) sz) (dw_X16 a ac r)) (va_A (dw_X16 a ac s0) sz)) 0 0 (va_A (dw_X16 a ac s0) sz) := by
  refine Met.ofW (cc := cX16_call) (maxL := 3) (ret := none) (by decide) rfl ?_
  intro p e s m args below meth c s₁ B hml hv
  obtain ⟨rfl, hsz, hP, hK, hD0, hN⟩ := hv
  have hx := B.exec
  have hb := B.bytes
  have hr := B.returns
  have hts := atoms_spec (ws := ow_dm_X16_call) B.pre
  have hown : s.vm.findClass RX16 = some m.cls := findClass_of_methodNamed B.named
  have hlocks := B.notSynchronized
  subst hsz
  have hD := hD0.self (sz := s.heap.size)
  generalize hAe : va_A (dw_X16 a ac s0) s.heap.size = A at hD hN ⊢
  have hA : ∀ q : Nat, s.heap.size ≤ q → A q := fun q h => by rw [← hAe]; exact Or.inr h
  have hl := lv_entry ([.ref (a 0)]) (n := 3) (Nat.le_of_ble_eq_true rfl)
  rw [lg_entry_eq]
  generalize (lg_sl ([.ref (a 0)]) ++ List.replicate (3 - (lg_sl ([.ref (a 0)])).length) Slot.unset).toArray = ls at hl ⊢
  have hl : lv_has ls 3 [(0, .ref (a 0))] := hl
  exact db_X16_call_0 (dC := dC) (dI := dI) (a := a) (ac := ac) (n := n) (r := r) ⟨hlt, hx, hb, hml, hown, hts, hN, hA, hK⟩ (fun pc τ H locs ls d er hP hD hS => by subst er; exact W.vret hx hb hr (fun t ht hW => ⟨⟨(), rfl, trivial, by rw [ht]; exact hP, va_K.moved hW.alike hK, hD⟩, hS.F ht⟩) hS.2.2 d) s0 _ _ _ h hP hD va_S.rf (lv_sub hl [0] rfl)
def ow_dm_X16_tick : List Cond := .code yX16_tick cX16_tick 3 (some .boolean) :: ([.fieldLink RX16 141 "TimeMachineModel$Machine" "current" "I", .fieldLink RX16 232 "TimeMachineModel$Machine" "p" "I", .fieldLink RX16 222 "TimeMachineModel$Machine" "wrote" "Z", .fieldLink RX16 138 "TimeMachineModel$Machine" "ticked" "I", .fieldLink RX16 135 "TimeMachineModel$Machine" "reserved" "I", .fieldLink RX16 132 "TimeMachineModel$Machine" "count" "I", .methodLink RX16 272 yX16_takeable, .instanceMethod yX16_takeable, .selects RX16 yX16_takeable yX16_takeable, .initialized RX16, .methodLink RX16 288 yX16_step, .instanceMethod yX16_step, .selects RX16 yX16_step yX16_step, .methodLink RX16 172 yX16_settle, .instanceMethod yX16_settle, .selects RX16 yX16_settle yX16_settle, .methodLink RX16 294 yX16_trap, .instanceMethod yX16_trap, .selects RX16 yX16_trap yX16_trap, .methodLink RX16 291 yX16_call, .instanceMethod yX16_call, .selects RX16 yX16_call yX16_call, .fieldLink RX16 22 "TimeMachineModel$Machine" "pending" "[I", .fieldLink RX16 54 "TimeMachineModel$Machine" "handler" "[I", .methodLink RX16 285 yX16_enter, .instanceMethod yX16_enter, .selects RX16 yX16_enter yX16_enter, .methodLink RX16 282 yX16_end, .instanceMethod yX16_end, .selects RX16 yX16_end yX16_end] ++ (u_ws RX16 TX16 56 ++ (ow_dm_X16_takeable ++ (ow_dm_X16_step ++ (ow_dm_X16_settle ++ (ow_dm_X16_trap ++ (ow_dm_X16_call ++ (ow_dm_X16_enter ++ (ow_dm_X16_end ++ [])))))))))
theorem gd_dm_X16_tick : ∀ w ∈ ow_dm_X16_tick, (w.onTables && w.keeps) = true ∨ ∃ ty, w = Cond.arrayClass ty := List.forall_mem_cons.mpr ⟨good_of_word rfl, List.forall_mem_append.mpr ⟨fun w h => good_of_word (List.all_eq_true.mp (by decide +kernel) w h), List.forall_mem_append.mpr ⟨gu_X16, List.forall_mem_append.mpr ⟨gd_dm_X16_takeable, List.forall_mem_append.mpr ⟨gd_dm_X16_step, List.forall_mem_append.mpr ⟨gd_dm_X16_settle, List.forall_mem_append.mpr ⟨gd_dm_X16_trap, List.forall_mem_append.mpr ⟨gd_dm_X16_call, List.forall_mem_append.mpr ⟨gd_dm_X16_enter, List.forall_mem_append.mpr ⟨gd_dm_X16_end, fun _ h => nomatch h⟩⟩⟩⟩⟩⟩⟩⟩⟩⟩
theorem hi_dm_X16_tick_X16 : ∀ w ∈ u_ws RX16 TX16 56, w ∈ ow_dm_X16_tick := fun w h => List.mem_cons_of_mem _ (List.mem_append_right _ (List.mem_append_left _ h))
theorem gi_dm_X16_tick_0 : GoodIn ow_dm_X16_tick (wsV RX16 272 RX16 yX16_takeable ow_dm_X16_takeable) := goodIn_app (goodIn_of _ (by decide +kernel)) (fun w h => ⟨List.mem_cons_of_mem _ (List.mem_append_right _ (List.mem_append_right _ (List.mem_append_left _ h))), gd_dm_X16_takeable w h⟩)
theorem gi_dm_X16_tick_1 : GoodIn ow_dm_X16_tick (wsV RX16 288 RX16 yX16_step ow_dm_X16_step) := goodIn_app (goodIn_of _ (by decide +kernel)) (fun w h => ⟨List.mem_cons_of_mem _ (List.mem_append_right _ (List.mem_append_right _ (List.mem_append_right _ (List.mem_append_left _ h)))), gd_dm_X16_step w h⟩)
theorem gi_dm_X16_tick_2 : GoodIn ow_dm_X16_tick (wsV RX16 172 RX16 yX16_settle ow_dm_X16_settle) := goodIn_app (goodIn_of _ (by decide +kernel)) (fun w h => ⟨List.mem_cons_of_mem _ (List.mem_append_right _ (List.mem_append_right _ (List.mem_append_right _ (List.mem_append_right _ (List.mem_append_left _ h))))), gd_dm_X16_settle w h⟩)
theorem gi_dm_X16_tick_3 : GoodIn ow_dm_X16_tick (wsV RX16 294 RX16 yX16_trap ow_dm_X16_trap) := goodIn_app (goodIn_of _ (by decide +kernel)) (fun w h => ⟨List.mem_cons_of_mem _ (List.mem_append_right _ (List.mem_append_right _ (List.mem_append_right _ (List.mem_append_right _ (List.mem_append_right _ (List.mem_append_left _ h)))))), gd_dm_X16_trap w h⟩)
theorem gi_dm_X16_tick_4 : GoodIn ow_dm_X16_tick (wsV RX16 291 RX16 yX16_call ow_dm_X16_call) := goodIn_app (goodIn_of _ (by decide +kernel)) (fun w h => ⟨List.mem_cons_of_mem _ (List.mem_append_right _ (List.mem_append_right _ (List.mem_append_right _ (List.mem_append_right _ (List.mem_append_right _ (List.mem_append_right _ (List.mem_append_left _ h))))))), gd_dm_X16_call w h⟩)
theorem gi_dm_X16_tick_5 : GoodIn ow_dm_X16_tick (wsV RX16 285 RX16 yX16_enter ow_dm_X16_enter) := goodIn_app (goodIn_of _ (by decide +kernel)) (fun w h => ⟨List.mem_cons_of_mem _ (List.mem_append_right _ (List.mem_append_right _ (List.mem_append_right _ (List.mem_append_right _ (List.mem_append_right _ (List.mem_append_right _ (List.mem_append_right _ (List.mem_append_left _ h)))))))), gd_dm_X16_enter w h⟩)
theorem gi_dm_X16_tick_6 : GoodIn ow_dm_X16_tick (wsV RX16 282 RX16 yX16_end ow_dm_X16_end) := goodIn_app (goodIn_of _ (by decide +kernel)) (fun w h => ⟨List.mem_cons_of_mem _ (List.mem_append_right _ (List.mem_append_right _ (List.mem_append_right _ (List.mem_append_right _ (List.mem_append_right _ (List.mem_append_right _ (List.mem_append_right _ (List.mem_append_right _ (List.mem_append_left _ h))))))))), gd_dm_X16_end w h⟩)
def dj_X16_tick_186 (p : Program) (l : Launch) (e : Env) (s : State) (m : MethodId) (args : Array Value) (below : List Frame) (meth : Method) (c : Code) (Q : State → Prop) (A : Nat → Prop) (dC : Nat → ClassId) (dI : Nat → Nat → Nat) (a : Nat → Nat) (ac : Nat → ClassId) (g : (St × (St)) → Option (Int32 × (St × (St)))) (r : Int32 × (St × (St))) : Prop := ∀ (s0 : St × (St)) (H : Heap) (locs : List Loc) (ls : Array Slot), g s0 = some r → va_P (dC, dI) vwCl (dw_X16 a ac s0) H → va_D A (dw_X16 a ac s0) → va_S A s.heap H locs → lv_has ls 3 [(0, .ref (a 0))] → W p l e (headSpec ow_dm_X16_tick ({ frames := 7, cells := 0, slots := 0, locals := 161 })).room s m args below meth c H locs 0 0 Q (F0 m 186 ls [])
def dj_X16_tick_183 (p : Program) (l : Launch) (e : Env) (s : State) (m : MethodId) (args : Array Value) (below : List Frame) (meth : Method) (c : Code) (Q : State → Prop) (A : Nat → Prop) (dC : Nat → ClassId) (dI : Nat → Nat → Nat) (a : Nat → Nat) (ac : Nat → ClassId) (g : Int32 → (St × (St)) → Option (Int32 × (St × (St)))) (r : Int32 × (St × (St))) : Prop := ∀ (y1 : Int32) (s0 : St × (St)) (H : Heap) (locs : List Loc) (ls : Array Slot), g y1 s0 = some r → va_P (dC, dI) vwCl (dw_X16 a ac s0) H → va_D A (dw_X16 a ac s0) → va_S A s.heap H locs → lv_has ls 3 [(0, .ref (a 0))] → W p l e (headSpec ow_dm_X16_tick ({ frames := 7, cells := 0, slots := 0, locals := 161 })).room s m args below meth c H locs 0 0 Q (F0 m 183 ls [.int y1, .ref (a 0)])
def dj_X16_tick_176 (p : Program) (l : Launch) (e : Env) (s : State) (m : MethodId) (args : Array Value) (below : List Frame) (meth : Method) (c : Code) (Q : State → Prop) (A : Nat → Prop) (dC : Nat → ClassId) (dI : Nat → Nat → Nat) (a : Nat → Nat) (ac : Nat → ClassId) (g : (St × (St)) → Option (Int32 × (St × (St)))) (r : Int32 × (St × (St))) : Prop := ∀ (s0 : St × (St)) (H : Heap) (locs : List Loc) (ls : Array Slot), g s0 = some r → va_P (dC, dI) vwCl (dw_X16 a ac s0) H → va_D A (dw_X16 a ac s0) → va_S A s.heap H locs → lv_has ls 3 [(0, .ref (a 0))] → W p l e (headSpec ow_dm_X16_tick ({ frames := 7, cells := 0, slots := 0, locals := 161 })).room s m args below meth c H locs 0 0 Q (F0 m 176 ls [.ref (a 0)])
def dj_X16_tick_33 (p : Program) (l : Launch) (e : Env) (s : State) (m : MethodId) (args : Array Value) (below : List Frame) (meth : Method) (c : Code) (Q : State → Prop) (A : Nat → Prop) (dC : Nat → ClassId) (dI : Nat → Nat → Nat) (a : Nat → Nat) (ac : Nat → ClassId) (g : Int32 → (St × (St)) → Option (Int32 × (St × (St)))) (r : Int32 × (St × (St))) : Prop := ∀ (y1 : Int32) (s0 : St × (St)) (H : Heap) (locs : List Loc) (ls : Array Slot), g y1 s0 = some r → va_P (dC, dI) vwCl (dw_X16 a ac s0) H → va_D A (dw_X16 a ac s0) → va_S A s.heap H locs → lv_has ls 3 [(0, .ref (a 0))] → W p l e (headSpec ow_dm_X16_tick ({ frames := 7, cells := 0, slots := 0, locals := 161 })).room s m args below meth c H locs 0 0 Q (F0 m 33 ls [.int y1, .ref (a 0)])
def dj_X16_tick_0 (p : Program) (l : Launch) (e : Env) (s : State) (m : MethodId) (args : Array Value) (below : List Frame) (meth : Method) (c : Code) (Q : State → Prop) (A : Nat → Prop) (dC : Nat → ClassId) (dI : Nat → Nat → Nat) (a : Nat → Nat) (ac : Nat → ClassId) (g : (St × (St)) → Option (Int32 × (St × (St)))) (r : Int32 × (St × (St))) : Prop := ∀ (s0 : St × (St)) (H : Heap) (locs : List Loc) (ls : Array Slot), g s0 = some r → va_P (dC, dI) vwCl (dw_X16 a ac s0) H → va_D A (dw_X16 a ac s0) → va_S A s.heap H locs → lv_has ls 3 [(0, .ref (a 0))] → W p l e (headSpec ow_dm_X16_tick ({ frames := 7, cells := 0, slots := 0, locals := 161 })).room s m args below meth c H locs 0 0 Q (F0 m 0 ls [])
set_option maxHeartbeats 40000000 in
set_option maxRecDepth 100000 in
theorem db_X16_tick_186 {p : Program} {l : Launch} {e : Env} {s : State} {m : MethodId} {args : Array Value} {below : List Frame} {meth : Method} {c : Code} {Q : State → Prop} {A : Nat → Prop} {dC : Nat → ClassId} {dI : Nat → Nat → Nat} {a : Nat → Nat} {ac : Nat → ClassId} {n : Nat} {r : Int32 × (St × (St))} (C : nd_C p l s m args c A (dC, dI) cX16_tick 3 RX16 ow_dm_X16_tick (dk_X16 ac)) (K : nd_Ki p l e (headSpec ow_dm_X16_tick ({ frames := 7, cells := 0, slots := 0, locals := 161 })).room s m args below meth c Q A (dC, dI) cX16_tick .boolean (St × (St)) (dw_X16 a ac) r) : dj_X16_tick_186 p l e s m args below meth c Q A dC dI a ac (df_X16_tick_186 n) r := by
  obtain ⟨hlt, hx, hb, hml, hown, hts, hN, hA, hK⟩ := id C
  intro s0 H locs ls h hP hD hS hl
  unfold df_X16_tick_186 at h
  refine lv_aload_n hx hb dX16_tick_186 rfl (lv_at hl 0 rfl) ?_
  obtain ⟨s17, hq, h⟩ := nd_b1_e h
  have hPc := hP
  have hDc := hD
  have hKc := hK
  have hFc := nd_rs hD hS hA
  refine nd_cVv (As := []) (rest := []) (w' := dw_X16 a ac s17) ⟨hx, hb, hml, hown, hts⟩ (fun sz => dm_X16_settle l hlt dC dI a ac n  s0 hq sz) (cwV 0 hts gi_dm_X16_tick_2 rfl rfl rfl (by decide +kernel) ⟨Nat.le_of_ble_eq_true rfl, Nat.le_of_ble_eq_true rfl⟩) hPc hDc hKc hS hA hN (va_recv hKc hPc (ci := 17) (q0 := 0) rfl rfl) rfl hl.1 rfl (Nat.le_of_ble_eq_true rfl) dX16_tick_187 (fun H locs hP1 hD1 hk1 hS => ?_)
  have hP := hP1
  have hD := hD1.weaken (fun k q _ h => hFc q.1 h)
  refine lv_aload_n hx hb dX16_tick_190 rfl (lv_at hl 0 rfl) ?_
  refine va_get (D := (dC, dI)) (ci := 17) (v := .int (sI s17.1 16)) (C := RX16) (T := TX16) (N := 56) hx hb hts hi_dm_X16_tick_X16 hown hK hP 0 rfl rfl 55 (by decide) (hts (.fieldLink RX16 222 "TimeMachineModel$Machine" "wrote" "Z") (List.mem_of_getElem? (i := 3) rfl)) (fun _ h9 => h9) rfl dX16_tick_191 ?_
  obtain ⟨n19, h⟩ := nd_z_e ⟨_, rfl⟩ h
  exact K _ _ _ _ _ _ dX16_tick_194 n19 (Option.some.inj h).symm hP hD hS
set_option maxHeartbeats 40000000 in
set_option maxRecDepth 100000 in
theorem db_X16_tick_183 {p : Program} {l : Launch} {e : Env} {s : State} {m : MethodId} {args : Array Value} {below : List Frame} {meth : Method} {c : Code} {Q : State → Prop} {A : Nat → Prop} {dC : Nat → ClassId} {dI : Nat → Nat → Nat} {a : Nat → Nat} {ac : Nat → ClassId} {n : Nat} {r : Int32 × (St × (St))} (C : nd_C p l s m args c A (dC, dI) cX16_tick 3 RX16 ow_dm_X16_tick (dk_X16 ac)) (K : nd_Ki p l e (headSpec ow_dm_X16_tick ({ frames := 7, cells := 0, slots := 0, locals := 161 })).room s m args below meth c Q A (dC, dI) cX16_tick .boolean (St × (St)) (dw_X16 a ac) r) : dj_X16_tick_183 p l e s m args below meth c Q A dC dI a ac (df_X16_tick_183 n) r := by
  obtain ⟨hlt, hx, hb, hml, hown, hts, hN, hA, hK⟩ := id C
  intro y1 s0 H locs ls h hP hD hS hl
  unfold df_X16_tick_183 at h
  obtain ⟨s24, hq, h⟩ := nd_b1_e h
  have hPc := hP
  have hDc := hD
  have hKc := hK
  have hFc := nd_rs hD hS hA
  refine nd_cVv (As := [.int y1]) (rest := []) (w' := dw_X16 a ac s24) ⟨hx, hb, hml, hown, hts⟩ (fun sz => dm_X16_trap l hlt dC dI a ac n (y1) s0 hq sz) (cwV 1 hts gi_dm_X16_tick_3 rfl rfl rfl (by decide +kernel) ⟨Nat.le_of_ble_eq_true rfl, Nat.le_of_ble_eq_true rfl⟩) hPc hDc hKc hS hA hN (va_recv hKc hPc (ci := 17) (q0 := 0) rfl rfl) rfl hl.1 rfl (Nat.le_of_ble_eq_true rfl) dX16_tick_183 (fun H locs hP1 hD1 hk1 hS => ?_)
  have hP := hP1
  have hD := hD1.weaken (fun k q _ h => hFc q.1 h)
  exact (db_X16_tick_186 C K)  s24 _ _ _ h hP hD hS (lv_sub hl [0] rfl)
set_option maxHeartbeats 40000000 in
set_option maxRecDepth 100000 in
theorem db_X16_tick_176 {p : Program} {l : Launch} {e : Env} {s : State} {m : MethodId} {args : Array Value} {below : List Frame} {meth : Method} {c : Code} {Q : State → Prop} {A : Nat → Prop} {dC : Nat → ClassId} {dI : Nat → Nat → Nat} {a : Nat → Nat} {ac : Nat → ClassId} {n : Nat} {r : Int32 × (St × (St))} (C : nd_C p l s m args c A (dC, dI) cX16_tick 3 RX16 ow_dm_X16_tick (dk_X16 ac)) (K : nd_Ki p l e (headSpec ow_dm_X16_tick ({ frames := 7, cells := 0, slots := 0, locals := 161 })).room s m args below meth c Q A (dC, dI) cX16_tick .boolean (St × (St)) (dw_X16 a ac) r) : dj_X16_tick_176 p l e s m args below meth c Q A dC dI a ac (df_X16_tick_176 n) r := by
  obtain ⟨hlt, hx, hb, hml, hown, hts, hN, hA, hK⟩ := id C
  intro s0 H locs ls h hP hD hS hl
  unfold df_X16_tick_176 at h
  refine lv_bipush (v := 7) hx hb dX16_tick_176 (by decide) ?_
  refine lv_goto (tgt := 183) hx hb dX16_tick_178 (by decide) ?_
  exact (db_X16_tick_183 C K) (7) s0 _ _ _ h hP hD hS (lv_sub hl [0] rfl)
set_option maxHeartbeats 40000000 in
set_option maxRecDepth 100000 in
theorem db_X16_tick_33 {p : Program} {l : Launch} {e : Env} {s : State} {m : MethodId} {args : Array Value} {below : List Frame} {meth : Method} {c : Code} {Q : State → Prop} {A : Nat → Prop} {dC : Nat → ClassId} {dI : Nat → Nat → Nat} {a : Nat → Nat} {ac : Nat → ClassId} {n : Nat} {r : Int32 × (St × (St))} (C : nd_C p l s m args c A (dC, dI) cX16_tick 3 RX16 ow_dm_X16_tick (dk_X16 ac)) (K : nd_Ki p l e (headSpec ow_dm_X16_tick ({ frames := 7, cells := 0, slots := 0, locals := 161 })).room s m args below meth c Q A (dC, dI) cX16_tick .boolean (St × (St)) (dw_X16 a ac) r) : dj_X16_tick_33 p l e s m args below meth c Q A dC dI a ac (df_X16_tick_33 n) r := by
  obtain ⟨hlt, hx, hb, hml, hown, hts, hN, hA, hK⟩ := id C
  intro y1 s0 H locs ls h hP hD hS hl
  unfold df_X16_tick_33 at h
  refine va_put (D := (dC, dI)) (ci := 17) (v := .int y1) (ty := .int) (C := RX16) (T := TX16) (N := 56) hx hb hts hi_dm_X16_tick_X16 tyX16 tyX16_ok nmX16 hown hK hP hD hS 0 rfl rfl 5 (by decide) (hts (.fieldLink RX16 135 "TimeMachineModel$Machine" "reserved" "I") (List.mem_of_getElem? (i := 5) rfl)) (fun _ h9 => h9) rfl (by decide +kernel) rfl rfl (Nat.le_of_ble_eq_true rfl) dX16_tick_33 (fun H locs hP hD hS => ?_)
  obtain ⟨s4, es4, h⟩ := nd_let_e h
  have hP : va_P (dC, dI) vwCl (dw_X16 a ac s4) H := by rw [es4]; exact hP
  have hD : va_D A (dw_X16 a ac s4) := by rw [es4]; exact hD
  refine lv_aload_n hx hb dX16_tick_36 rfl (lv_at hl 0 rfl) ?_
  refine lv_aload_n hx hb dX16_tick_37 rfl (lv_at hl 0 rfl) ?_
  refine va_get (D := (dC, dI)) (ci := 17) (v := .int (sI s4.1 12)) (C := RX16) (T := TX16) (N := 56) hx hb hts hi_dm_X16_tick_X16 hown hK hP 0 rfl rfl 51 (by decide) (hts (.fieldLink RX16 232 "TimeMachineModel$Machine" "p" "I") (List.mem_of_getElem? (i := 2) rfl)) (fun _ h9 => h9) rfl dX16_tick_38 ?_
  refine va_put (D := (dC, dI)) (ci := 17) (v := .int (sI s4.1 12)) (ty := .int) (C := RX16) (T := TX16) (N := 56) hx hb hts hi_dm_X16_tick_X16 tyX16 tyX16_ok nmX16 hown hK hP hD hS 0 rfl rfl 4 (by decide) (hts (.fieldLink RX16 138 "TimeMachineModel$Machine" "ticked" "I") (List.mem_of_getElem? (i := 4) rfl)) (fun _ h9 => h9) rfl (by decide +kernel) rfl rfl (Nat.le_of_ble_eq_true rfl) dX16_tick_41 (fun H locs hP hD hS => ?_)
  obtain ⟨s5, es5, h⟩ := nd_let_e h
  have hP : va_P (dC, dI) vwCl (dw_X16 a ac s5) H := by rw [es5]; exact hP
  have hD : va_D A (dw_X16 a ac s5) := by rw [es5]; exact hD
  refine lv_aload_n hx hb dX16_tick_44 rfl (lv_at hl 0 rfl) ?_
  refine lv_dup hx hb dX16_tick_45 rfl ?_
  refine va_get (D := (dC, dI)) (ci := 17) (v := .int (sI s5.1 0)) (C := RX16) (T := TX16) (N := 56) hx hb hts hi_dm_X16_tick_X16 hown hK hP 0 rfl rfl 1 (by decide) (hts (.fieldLink RX16 132 "TimeMachineModel$Machine" "count" "I") (List.mem_of_getElem? (i := 6) rfl)) (fun _ h9 => h9) rfl dX16_tick_46 ?_
  refine lv_iconst (v := 1) hx hb dX16_tick_49 (by decide) ?_
  refine lv_iadd hx hb dX16_tick_50 ?_
  refine va_put (D := (dC, dI)) (ci := 17) (v := .int ((sI s5.1 0) + 1)) (ty := .int) (C := RX16) (T := TX16) (N := 56) hx hb hts hi_dm_X16_tick_X16 tyX16 tyX16_ok nmX16 hown hK hP hD hS 0 rfl rfl 1 (by decide) (hts (.fieldLink RX16 132 "TimeMachineModel$Machine" "count" "I") (List.mem_of_getElem? (i := 6) rfl)) (fun _ h9 => h9) rfl (by decide +kernel) rfl rfl (Nat.le_of_ble_eq_true rfl) dX16_tick_51 (fun H locs hP hD hS => ?_)
  obtain ⟨s6, es6, h⟩ := nd_let_e h
  have hP : va_P (dC, dI) vwCl (dw_X16 a ac s6) H := by rw [es6]; exact hP
  have hD : va_D A (dw_X16 a ac s6) := by rw [es6]; exact hD
  refine lv_aload_n hx hb dX16_tick_54 rfl (lv_at hl 0 rfl) ?_
  refine lv_aload_n hx hb dX16_tick_55 rfl (lv_at hl 0 rfl) ?_
  refine va_get (D := (dC, dI)) (ci := 17) (v := .int (sI s6.1 12)) (C := RX16) (T := TX16) (N := 56) hx hb hts hi_dm_X16_tick_X16 hown hK hP 0 rfl rfl 51 (by decide) (hts (.fieldLink RX16 232 "TimeMachineModel$Machine" "p" "I") (List.mem_of_getElem? (i := 2) rfl)) (fun _ h9 => h9) rfl dX16_tick_56 ?_
  obtain ⟨q7, s8, hq, h⟩ := nd_b2_e h
  have hPc := hP
  have hDc := hD
  have hKc := hK
  have hFc := nd_rs hD hS hA
  refine nd_cVi (As := [.int (sI s6.1 12)]) (rest := []) (q := q7) (w' := dw_X16 a ac s8) ⟨hx, hb, hml, hown, hts⟩ (fun sz => dm_X16_takeable l hlt dC dI a ac n ((sI s6.1 12)) s6 hq sz) (cwV 1 hts gi_dm_X16_tick_0 rfl rfl rfl (by decide +kernel) ⟨Nat.le_of_ble_eq_true rfl, Nat.le_of_ble_eq_true rfl⟩) hPc hDc hKc hS hA hN (va_recv hKc hPc (ci := 17) (q0 := 0) rfl rfl) rfl hl.1 rfl (Nat.le_of_ble_eq_true rfl) dX16_tick_59 (fun H locs hP1 hD1 hk1 hS => ?_)
  have hP := hP1
  have hD := hD1.weaken (fun k q _ h => hFc q.1 h)
  refine lv_istore_n (lv' := [(1, .int q7), (0, .ref (a 0))]) hx hb dX16_tick_62 rfl hl (by decide) rfl (fun ls hl => ?_)
  refine lv_iload_n hx hb dX16_tick_63 rfl (lv_at hl 0 rfl) ?_
  refine lv_if_le (tgt := 125) hx hb dX16_tick_64 (by decide) (fun c10 => ?_) (fun c10 => ?_)
  · have h := nd_pos h c10
    refine lv_aload_n hx hb dX16_tick_125 rfl (lv_at hl 1 rfl) ?_
    obtain ⟨q11, s12, hq, h⟩ := nd_b2_e h
    have hPc := hP
    have hDc := hD
    have hKc := hK
    have hFc := nd_rs hD hS hA
    refine nd_cVi (As := []) (rest := []) (q := q11) (w' := dw_X16 a ac s12) ⟨hx, hb, hml, hown, hts⟩ (fun sz => dm_X16_step l hlt dC dI a ac n  s8 hq sz) (cwV 0 hts gi_dm_X16_tick_1 rfl rfl rfl (by decide +kernel) ⟨Nat.le_of_ble_eq_true rfl, Nat.le_of_ble_eq_true rfl⟩) hPc hDc hKc hS hA hN (va_recv hKc hPc (ci := 17) (q0 := 0) rfl rfl) rfl hl.1 rfl (Nat.le_of_ble_eq_true rfl) dX16_tick_126 (fun H locs hP1 hD1 hk1 hS => ?_)
    have hP := hP1
    have hD := hD1.weaken (fun k q _ h => hFc q.1 h)
    refine lv_istore_n (lv' := [(2, .int q11), (1, .int q7), (0, .ref (a 0))]) hx hb dX16_tick_129 rfl hl (by decide) rfl (fun ls hl => ?_)
    refine lv_iload_n hx hb dX16_tick_130 rfl (lv_at hl 0 rfl) ?_
    refine lv_iconst (v := 3) hx hb dX16_tick_131 (by decide) ?_
    refine lv_icmp_ne (tgt := 142) hx hb dX16_tick_132 (by decide) (fun c14 => ?_) (fun c14 => ?_)
    · have h := nd_neg h c14
      refine lv_iload_n hx hb dX16_tick_142 rfl (lv_at hl 0 rfl) ?_
      refine lv_if_le (tgt := 186) hx hb dX16_tick_143 (by decide) (fun c15 => ?_) (fun c15 => ?_)
      · have h := nd_pos h c15
        exact (db_X16_tick_186 C K)  s12 _ _ _ h hP hD hS (lv_sub hl [2] rfl)
      · have h := nd_neg h c15
        refine lv_aload_n hx hb dX16_tick_146 rfl (lv_at hl 2 rfl) ?_
        refine lv_iload_n hx hb dX16_tick_147 rfl (lv_at hl 0 rfl) ?_
        refine lv_iconst (v := 2) hx hb dX16_tick_148 (by decide) ?_
        refine lv_icmp_ne (tgt := 156) hx hb dX16_tick_149 (by decide) (fun c20 => ?_) (fun c20 => ?_)
        · have h := nd_neg h c20
          refine lv_iload_n hx hb dX16_tick_156 rfl (lv_at hl 0 rfl) ?_
          refine lv_iconst (v := 4) hx hb dX16_tick_157 (by decide) ?_
          refine lv_icmp_ne (tgt := 165) hx hb dX16_tick_158 (by decide) (fun c21 => ?_) (fun c21 => ?_)
          · have h := nd_neg h c21
            refine lv_iload_n hx hb dX16_tick_165 rfl (lv_at hl 0 rfl) ?_
            refine lv_iconst (v := 5) hx hb dX16_tick_166 (by decide) ?_
            refine lv_icmp_eq (tgt := 176) hx hb dX16_tick_167 (by decide) (fun c22 => ?_) (fun c22 => ?_)
            · have h := nd_pos h c22
              exact (db_X16_tick_176 C K)  s12 _ _ _ h hP hD hS (lv_sub hl [2] rfl)
            · have h := nd_neg h c22
              refine lv_iload_n hx hb dX16_tick_170 rfl (lv_at hl 0 rfl) ?_
              refine lv_bipush (v := 8) hx hb dX16_tick_171 (by decide) ?_
              refine lv_icmp_ne (tgt := 181) hx hb dX16_tick_173 (by decide) (fun c26 => ?_) (fun c26 => ?_)
              · have h := nd_neg h c26
                refine lv_bipush (v := 11) hx hb dX16_tick_181 (by decide) ?_
                exact (db_X16_tick_183 C K) (11) s12 _ _ _ h hP hD hS (lv_sub hl [2] rfl)
              · have h := nd_pos h c26
                exact (db_X16_tick_176 C K)  s12 _ _ _ h hP hD hS (lv_sub hl [2] rfl)
          · have h := nd_pos h c21
            refine lv_iconst (v := 5) hx hb dX16_tick_161 (by decide) ?_
            refine lv_goto (tgt := 183) hx hb dX16_tick_162 (by decide) ?_
            exact (db_X16_tick_183 C K) (5) s12 _ _ _ h hP hD hS (lv_sub hl [2] rfl)
        · have h := nd_pos h c20
          refine lv_iconst (v := 4) hx hb dX16_tick_152 (by decide) ?_
          refine lv_goto (tgt := 183) hx hb dX16_tick_153 (by decide) ?_
          exact (db_X16_tick_183 C K) (4) s12 _ _ _ h hP hD hS (lv_sub hl [2] rfl)
    · have h := nd_pos h c14
      refine lv_aload_n hx hb dX16_tick_135 rfl (lv_at hl 2 rfl) ?_
      obtain ⟨s28, hq, h⟩ := nd_b1_e h
      have hPc := hP
      have hDc := hD
      have hKc := hK
      have hFc := nd_rs hD hS hA
      refine nd_cVv (As := []) (rest := []) (w' := dw_X16 a ac s28) ⟨hx, hb, hml, hown, hts⟩ (fun sz => dm_X16_call l hlt dC dI a ac n  s12 hq sz) (cwV 0 hts gi_dm_X16_tick_4 rfl rfl rfl (by decide +kernel) ⟨Nat.le_of_ble_eq_true rfl, Nat.le_of_ble_eq_true rfl⟩) hPc hDc hKc hS hA hN (va_recv hKc hPc (ci := 17) (q0 := 0) rfl rfl) rfl hl.1 rfl (Nat.le_of_ble_eq_true rfl) dX16_tick_136 (fun H locs hP1 hD1 hk1 hS => ?_)
      have hP := hP1
      have hD := hD1.weaken (fun k q _ h => hFc q.1 h)
      refine lv_goto (tgt := 186) hx hb dX16_tick_139 (by decide) ?_
      exact (db_X16_tick_186 C K)  s28 _ _ _ h hP hD hS (lv_sub hl [2] rfl)
  · have h := nd_neg h c10
    refine lv_aload_n hx hb dX16_tick_67 rfl (lv_at hl 1 rfl) ?_
    refine va_get (D := (dC, dI)) (ci := 17) (v := .ref (a 5)) (C := RX16) (T := TX16) (N := 56) hx hb hts hi_dm_X16_tick_X16 hown hK hP 0 rfl rfl 13 (by decide) (hts (.fieldLink RX16 22 "TimeMachineModel$Machine" "pending" "[I") (List.mem_of_getElem? (i := 23) rfl)) (fun _ h9 => h9) rfl dX16_tick_68 ?_
    refine lv_aload_n hx hb dX16_tick_71 rfl (lv_at hl 1 rfl) ?_
    refine va_get (D := (dC, dI)) (ci := 17) (v := .int (sI s8.1 12)) (C := RX16) (T := TX16) (N := 56) hx hb hts hi_dm_X16_tick_X16 hown hK hP 0 rfl rfl 51 (by decide) (hts (.fieldLink RX16 232 "TimeMachineModel$Machine" "p" "I") (List.mem_of_getElem? (i := 2) rfl)) (fun _ h9 => h9) rfl dX16_tick_72 ?_
    refine lv_dup2_11 hx hb dX16_tick_75 rfl rfl ?_
    obtain ⟨i30, h⟩ := nd_ck_e h
    refine va_iald (i := (sI s8.1 12)) hx hb hK hP 5 4 rfl rfl i30 dX16_tick_76 ?_
    refine lv_iconst (v := 1) hx hb dX16_tick_77 (by decide) ?_
    refine lv_iload_n hx hb dX16_tick_78 rfl (lv_at hl 0 rfl) ?_
    refine lv_ishl hx hb dX16_tick_79 ?_
    refine lv_iconst (v := (-1)) hx hb dX16_tick_80 (by decide) ?_
    refine lv_ixor hx hb dX16_tick_81 ?_
    refine lv_iand hx hb dX16_tick_82 ?_
    obtain ⟨i31, h⟩ := nd_ck_e h
    refine va_iast (i := (sI s8.1 12)) (x := ((sR s8.1 4 (Int32.toNatClampNeg (sI s8.1 12))) &&& (((1 : Int32) <<< ((q7 : Int32) &&& 31)) ^^^ (-1)))) hx hb hK hP hD hS 5 4 rfl rfl i31 dX16_tick_83 (fun H locs hP hD hS => ?_)
    obtain ⟨s32, es32, h⟩ := nd_let_e h
    have hP : va_P (dC, dI) vwCl (dw_X16 a ac s32) H := by rw [es32]; exact hP
    have hD : va_D A (dw_X16 a ac s32) := by rw [es32]; exact hD
    refine lv_aload_n hx hb dX16_tick_84 rfl (lv_at hl 1 rfl) ?_
    refine va_get (D := (dC, dI)) (ci := 17) (v := .ref (a 15)) (C := RX16) (T := TX16) (N := 56) hx hb hts hi_dm_X16_tick_X16 hown hK hP 0 rfl rfl 23 (by decide) (hts (.fieldLink RX16 54 "TimeMachineModel$Machine" "handler" "[I") (List.mem_of_getElem? (i := 24) rfl)) (fun _ h9 => h9) rfl dX16_tick_85 ?_
    refine lv_bipush (v := 16) hx hb dX16_tick_88 (by decide) ?_
    refine lv_aload_n hx hb dX16_tick_90 rfl (lv_at hl 1 rfl) ?_
    refine va_get (D := (dC, dI)) (ci := 17) (v := .int (sI s32.1 12)) (C := RX16) (T := TX16) (N := 56) hx hb hts hi_dm_X16_tick_X16 hown hK hP 0 rfl rfl 51 (by decide) (hts (.fieldLink RX16 232 "TimeMachineModel$Machine" "p" "I") (List.mem_of_getElem? (i := 2) rfl)) (fun _ h9 => h9) rfl dX16_tick_91 ?_
    refine lv_imul hx hb dX16_tick_94 ?_
    refine lv_iload_n hx hb dX16_tick_95 rfl (lv_at hl 0 rfl) ?_
    refine lv_iadd hx hb dX16_tick_96 ?_
    obtain ⟨i33, h⟩ := nd_ck_e h
    refine va_iald (i := ((16 * (sI s32.1 12)) + q7)) hx hb hK hP 15 14 rfl rfl i33 dX16_tick_97 ?_
    refine lv_if_ne (tgt := 117) hx hb dX16_tick_98 (by decide) (fun c34 => ?_) (fun c34 => ?_)
    · have h := nd_neg h c34
      refine lv_aload_n hx hb dX16_tick_117 rfl (lv_at hl 1 rfl) ?_
      refine lv_iload_n hx hb dX16_tick_118 rfl (lv_at hl 0 rfl) ?_
      obtain ⟨s36, hq, h⟩ := nd_b1_e h
      have hPc := hP
      have hDc := hD
      have hKc := hK
      have hFc := nd_rs hD hS hA
      refine nd_cVv (As := [.int q7]) (rest := []) (w' := dw_X16 a ac s36) ⟨hx, hb, hml, hown, hts⟩ (fun sz => dm_X16_enter l hlt dC dI a ac n (q7) s32 hq sz) (cwV 1 hts gi_dm_X16_tick_5 rfl rfl rfl (by decide +kernel) ⟨Nat.le_of_ble_eq_true rfl, Nat.le_of_ble_eq_true rfl⟩) hPc hDc hKc hS hA hN (va_recv hKc hPc (ci := 17) (q0 := 0) rfl rfl) rfl hl.1 rfl (Nat.le_of_ble_eq_true rfl) dX16_tick_119 (fun H locs hP1 hD1 hk1 hS => ?_)
      have hP := hP1
      have hD := hD1.weaken (fun k q _ h => hFc q.1 h)
      refine lv_goto (tgt := 186) hx hb dX16_tick_122 (by decide) ?_
      exact (db_X16_tick_186 C K)  s36 _ _ _ h hP hD hS (lv_sub hl [1] rfl)
    · have h := nd_pos h c34
      refine lv_aload_n hx hb dX16_tick_101 rfl (lv_at hl 1 rfl) ?_
      refine lv_aload_n hx hb dX16_tick_102 rfl (lv_at hl 1 rfl) ?_
      refine va_get (D := (dC, dI)) (ci := 17) (v := .int (sI s32.1 12)) (C := RX16) (T := TX16) (N := 56) hx hb hts hi_dm_X16_tick_X16 hown hK hP 0 rfl rfl 51 (by decide) (hts (.fieldLink RX16 232 "TimeMachineModel$Machine" "p" "I") (List.mem_of_getElem? (i := 2) rfl)) (fun _ h9 => h9) rfl dX16_tick_103 ?_
      refine lv_sipush (v := 128) hx hb dX16_tick_106 (by decide) ?_
      refine lv_iload_n hx hb dX16_tick_109 rfl (lv_at hl 0 rfl) ?_
      refine lv_iadd hx hb dX16_tick_110 ?_
      obtain ⟨s39, hq, h⟩ := nd_b1_e h
      have hPc := hP
      have hDc := hD
      have hKc := hK
      have hFc := nd_rs hD hS hA
      refine nd_cVv (As := [.int (sI s32.1 12), .int (128 + q7)]) (rest := []) (w' := dw_X16 a ac s39) ⟨hx, hb, hml, hown, hts⟩ (fun sz => dm_X16_end l hlt dC dI a ac n ((sI s32.1 12)) ((128 + q7)) s32 hq sz) (cwV 2 hts gi_dm_X16_tick_6 rfl rfl rfl (by decide +kernel) ⟨Nat.le_of_ble_eq_true rfl, Nat.le_of_ble_eq_true rfl⟩) hPc hDc hKc hS hA hN (va_recv hKc hPc (ci := 17) (q0 := 0) rfl rfl) rfl hl.1 rfl (Nat.le_of_ble_eq_true rfl) dX16_tick_111 (fun H locs hP1 hD1 hk1 hS => ?_)
      have hP := hP1
      have hD := hD1.weaken (fun k q _ h => hFc q.1 h)
      refine lv_goto (tgt := 186) hx hb dX16_tick_114 (by decide) ?_
      exact (db_X16_tick_186 C K)  s39 _ _ _ h hP hD hS (lv_sub hl [1] rfl)
set_option maxHeartbeats 40000000 in
set_option maxRecDepth 100000 in
theorem db_X16_tick_0 {p : Program} {l : Launch} {e : Env} {s : State} {m : MethodId} {args : Array Value} {below : List Frame} {meth : Method} {c : Code} {Q : State → Prop} {A : Nat → Prop} {dC : Nat → ClassId} {dI : Nat → Nat → Nat} {a : Nat → Nat} {ac : Nat → ClassId} {n : Nat} {r : Int32 × (St × (St))} (C : nd_C p l s m args c A (dC, dI) cX16_tick 3 RX16 ow_dm_X16_tick (dk_X16 ac)) (K : nd_Ki p l e (headSpec ow_dm_X16_tick ({ frames := 7, cells := 0, slots := 0, locals := 161 })).room s m args below meth c Q A (dC, dI) cX16_tick .boolean (St × (St)) (dw_X16 a ac) r) : dj_X16_tick_0 p l e s m args below meth c Q A dC dI a ac (df_X16_tick_0 n) r := by
  obtain ⟨hlt, hx, hb, hml, hown, hts, hN, hA, hK⟩ := id C
  intro s0 H locs ls h hP hD hS hl
  unfold df_X16_tick_0 at h
  refine lv_aload_n hx hb dX16_tick_0 rfl (lv_at hl 0 rfl) ?_
  refine lv_aload_n hx hb dX16_tick_1 rfl (lv_at hl 0 rfl) ?_
  refine va_get (D := (dC, dI)) (ci := 17) (v := .int (sI s0.1 1)) (C := RX16) (T := TX16) (N := 56) hx hb hts hi_dm_X16_tick_X16 hown hK hP 0 rfl rfl 2 (by decide) (hts (.fieldLink RX16 141 "TimeMachineModel$Machine" "current" "I") (List.mem_of_getElem? (i := 1) rfl)) (fun _ h9 => h9) rfl dX16_tick_2 ?_
  refine va_put (D := (dC, dI)) (ci := 17) (v := .int (sI s0.1 1)) (ty := .int) (C := RX16) (T := TX16) (N := 56) hx hb hts hi_dm_X16_tick_X16 tyX16 tyX16_ok nmX16 hown hK hP hD hS 0 rfl rfl 51 (by decide) (hts (.fieldLink RX16 232 "TimeMachineModel$Machine" "p" "I") (List.mem_of_getElem? (i := 2) rfl)) (fun _ h9 => h9) rfl (by decide +kernel) rfl rfl (Nat.le_of_ble_eq_true rfl) dX16_tick_5 (fun H locs hP hD hS => ?_)
  obtain ⟨s1, es1, h⟩ := nd_let_e h
  have hP : va_P (dC, dI) vwCl (dw_X16 a ac s1) H := by rw [es1]; exact hP
  have hD : va_D A (dw_X16 a ac s1) := by rw [es1]; exact hD
  refine lv_aload_n hx hb dX16_tick_8 rfl (lv_at hl 0 rfl) ?_
  refine lv_iconst (v := 0) hx hb dX16_tick_9 (by decide) ?_
  refine va_put (D := (dC, dI)) (ci := 17) (v := .int 0) (ty := .boolean) (C := RX16) (T := TX16) (N := 56) hx hb hts hi_dm_X16_tick_X16 tyX16 tyX16_ok nmX16 hown hK hP hD hS 0 rfl rfl 55 (by decide) (hts (.fieldLink RX16 222 "TimeMachineModel$Machine" "wrote" "Z") (List.mem_of_getElem? (i := 3) rfl)) (fun _ h9 => h9) rfl (by decide +kernel) (by first | rfl | decide) rfl (Nat.le_of_ble_eq_true rfl) dX16_tick_10 (fun H locs hP hD hS => ?_)
  obtain ⟨s2, es2, h⟩ := nd_let_e h
  have hP : va_P (dC, dI) vwCl (dw_X16 a ac s2) H := by rw [es2]; exact hP
  have hD : va_D A (dw_X16 a ac s2) := by rw [es2]; exact hD
  refine lv_aload_n hx hb dX16_tick_13 rfl (lv_at hl 0 rfl) ?_
  refine lv_aload_n hx hb dX16_tick_14 rfl (lv_at hl 0 rfl) ?_
  refine va_get (D := (dC, dI)) (ci := 17) (v := .int (sI s2.1 12)) (C := RX16) (T := TX16) (N := 56) hx hb hts hi_dm_X16_tick_X16 hown hK hP 0 rfl rfl 51 (by decide) (hts (.fieldLink RX16 232 "TimeMachineModel$Machine" "p" "I") (List.mem_of_getElem? (i := 2) rfl)) (fun _ h9 => h9) rfl dX16_tick_15 ?_
  refine lv_aload_n hx hb dX16_tick_18 rfl (lv_at hl 0 rfl) ?_
  refine va_get (D := (dC, dI)) (ci := 17) (v := .int (sI s2.1 3)) (C := RX16) (T := TX16) (N := 56) hx hb hts hi_dm_X16_tick_X16 hown hK hP 0 rfl rfl 4 (by decide) (hts (.fieldLink RX16 138 "TimeMachineModel$Machine" "ticked" "I") (List.mem_of_getElem? (i := 4) rfl)) (fun _ h9 => h9) rfl dX16_tick_19 ?_
  refine lv_icmp_ne (tgt := 32) hx hb dX16_tick_22 (by decide) (fun c3 => ?_) (fun c3 => ?_)
  · have h := nd_neg h c3
    refine lv_iconst (v := (-1)) hx hb dX16_tick_32 (by decide) ?_
    exact (db_X16_tick_33 C K) ((-1)) s2 _ _ _ h hP hD hS (lv_sub hl [0] rfl)
  · have h := nd_pos h c3
    refine lv_aload_n hx hb dX16_tick_25 rfl (lv_at hl 0 rfl) ?_
    refine va_get (D := (dC, dI)) (ci := 17) (v := .int (sI s2.1 4)) (C := RX16) (T := TX16) (N := 56) hx hb hts hi_dm_X16_tick_X16 hown hK hP 0 rfl rfl 5 (by decide) (hts (.fieldLink RX16 135 "TimeMachineModel$Machine" "reserved" "I") (List.mem_of_getElem? (i := 5) rfl)) (fun _ h9 => h9) rfl dX16_tick_26 ?_
    refine lv_goto (tgt := 33) hx hb dX16_tick_29 (by decide) ?_
    exact (db_X16_tick_33 C K) ((sI s2.1 4)) s2 _ _ _ h hP hD hS (lv_sub hl [0] rfl)
set_option maxHeartbeats 40000000 in
set_option maxRecDepth 100000 in
theorem dm_X16_tick (l : Launch) (hlt : l.stackTraces = false) (dC : Nat → ClassId) (dI : Nat → Nat → Nat) (a : Nat → Nat) (ac : Nat → ClassId) (n : Nat) (s0 : St × (St)) {r : Int32 × (St × (St))} (h : df_X16_tick n s0 = some r) (sz : Nat) : Met l yX16_tick ow_dm_X16_tick ({ frames := 7, cells := 0, slots := 0, locals := 161 }) (va_Pc [.ref (a 0)] (fun U => U.heap.size = sz ∧ va_P (dC, dI) vwCl (dw_X16 a ac s0) U.heap ∧ va_K (dC, dI) vwCl (dk_X16 ac) U ∧ va_D (fun _ => True) (dw_X16 a ac s0) ∧ nv_E (va_A (dw_X16 a ac s0) sz) U)) (va_Qi (fun x _ => x = r.1) (fun (_ : Unit) t => va_P (dC, dI) vwCl (dw_X16 a ac r.2) t.heap ∧ va_K (dC, dI) vwCl (dk_X16 ac) t ∧ va_D (va_A (dw_X16 a ac s0) sz) (dw_X16 a ac r.2)) (va_A (dw_X16 a ac s0) sz)) 0 0 (va_A (dw_X16 a ac s0) sz) := by
  refine Met.ofW (cc := cX16_tick) (maxL := 3) (ret := (some .boolean)) (by decide) rfl ?_
  intro p e s m args below meth c s₁ B hml hv
  obtain ⟨rfl, hsz, hP, hK, hD0, hN⟩ := hv
  have hx := B.exec
  have hb := B.bytes
  have hr := B.returns
  have hts := atoms_spec (ws := ow_dm_X16_tick) B.pre
  have hown : s.vm.findClass RX16 = some m.cls := findClass_of_methodNamed B.named
  have hlocks := B.notSynchronized
  subst hsz
  have hD := hD0.self (sz := s.heap.size)
  generalize hAe : va_A (dw_X16 a ac s0) s.heap.size = A at hD hN ⊢
  have hA : ∀ q : Nat, s.heap.size ≤ q → A q := fun q h => by rw [← hAe]; exact Or.inr h
  have hl := lv_entry ([.ref (a 0)]) (n := 3) (Nat.le_of_ble_eq_true rfl)
  rw [lg_entry_eq]
  generalize (lg_sl ([.ref (a 0)]) ++ List.replicate (3 - (lg_sl ([.ref (a 0)])).length) Slot.unset).toArray = ls at hl ⊢
  have hl : lv_has ls 3 [(0, .ref (a 0))] := hl
  exact db_X16_tick_0 (dC := dC) (dI := dI) (a := a) (ac := ac) (n := n) (r := r) ⟨hlt, hx, hb, hml, hown, hts, hN, hA, hK⟩ (fun pc v τ H locs ls d z er hP hD hS => by subst er; exact W.zret (v := v) hx hb hr z (fun t ht hW => ⟨⟨v, (), rfl, rfl, by rw [ht]; exact hP, va_K.moved hW.alike hK, hD⟩, hS.F ht⟩) hS.2.2 d) s0 _ _ _ h hP hD va_S.rf (lv_sub hl [0] rfl)
def ow_dm_X16_register : List Cond := .code yX16_register cX16_register 3 (some .int) :: ([.fieldLink RX16 13 "TimeMachineModel$Machine" "state" "[I", .fieldLink RX16 42 "TimeMachineModel$Machine" "x" "[I", .fieldLink RX16 45 "TimeMachineModel$Machine" "place" "[I"] ++ (u_ws RX16 TX16 56 ++ []))
theorem gd_dm_X16_register : ∀ w ∈ ow_dm_X16_register, (w.onTables && w.keeps) = true ∨ ∃ ty, w = Cond.arrayClass ty := List.forall_mem_cons.mpr ⟨good_of_word rfl, List.forall_mem_append.mpr ⟨fun w h => good_of_word (List.all_eq_true.mp (by decide +kernel) w h), List.forall_mem_append.mpr ⟨gu_X16, fun _ h => nomatch h⟩⟩⟩
theorem hi_dm_X16_register_X16 : ∀ w ∈ u_ws RX16 TX16 56, w ∈ ow_dm_X16_register := fun w h => List.mem_cons_of_mem _ (List.mem_append_right _ (List.mem_append_left _ h))
def dj_X16_register_59 (p : Program) (l : Launch) (e : Env) (s : State) (m : MethodId) (args : Array Value) (below : List Frame) (meth : Method) (c : Code) (Q : State → Prop) (A : Nat → Prop) (dC : Nat → ClassId) (dI : Nat → Nat → Nat) (a : Nat → Nat) (ac : Nat → ClassId) (g : Int32 → (St × (St)) → Option (Int32 × (St × (St)))) (r : Int32 × (St × (St))) : Prop := ∀ (y0 : Int32) (s0 : St × (St)) (H : Heap) (locs : List Loc) (ls : Array Slot), g y0 s0 = some r → va_P (dC, dI) vwCl (dw_X16 a ac s0) H → va_D A (dw_X16 a ac s0) → va_S A s.heap H locs → lv_has ls 3 [] → W p l e (headSpec ow_dm_X16_register ({ frames := 0, cells := 0, slots := 0, locals := 0 })).room s m args below meth c H locs 0 0 Q (F0 m 59 ls [.int y0])
def dj_X16_register_29 (p : Program) (l : Launch) (e : Env) (s : State) (m : MethodId) (args : Array Value) (below : List Frame) (meth : Method) (c : Code) (Q : State → Prop) (A : Nat → Prop) (dC : Nat → ClassId) (dI : Nat → Nat → Nat) (a : Nat → Nat) (ac : Nat → ClassId) (g : (St × (St)) → Option (Int32 × (St × (St)))) (r : Int32 × (St × (St))) : Prop := ∀ (s0 : St × (St)) (H : Heap) (locs : List Loc) (ls : Array Slot), g s0 = some r → va_P (dC, dI) vwCl (dw_X16 a ac s0) H → va_D A (dw_X16 a ac s0) → va_S A s.heap H locs → lv_has ls 3 [] → W p l e (headSpec ow_dm_X16_register ({ frames := 0, cells := 0, slots := 0, locals := 0 })).room s m args below meth c H locs 0 0 Q (F0 m 29 ls [])
def dj_X16_register_0 (p : Program) (l : Launch) (e : Env) (s : State) (m : MethodId) (args : Array Value) (below : List Frame) (meth : Method) (c : Code) (Q : State → Prop) (A : Nat → Prop) (dC : Nat → ClassId) (dI : Nat → Nat → Nat) (a : Nat → Nat) (ac : Nat → ClassId) (g : Int32 → Int32 → (St × (St)) → Option (Int32 × (St × (St)))) (r : Int32 × (St × (St))) : Prop := ∀ (v0 : Int32) (v1 : Int32) (s0 : St × (St)) (H : Heap) (locs : List Loc) (ls : Array Slot), g v0 v1 s0 = some r → va_P (dC, dI) vwCl (dw_X16 a ac s0) H → va_D A (dw_X16 a ac s0) → va_S A s.heap H locs → lv_has ls 3 [(0, .ref (a 0)), (1, .int v0), (2, .int v1)] → W p l e (headSpec ow_dm_X16_register ({ frames := 0, cells := 0, slots := 0, locals := 0 })).room s m args below meth c H locs 0 0 Q (F0 m 0 ls [])
set_option maxHeartbeats 40000000 in
set_option maxRecDepth 100000 in
theorem db_X16_register_59 {p : Program} {l : Launch} {e : Env} {s : State} {m : MethodId} {args : Array Value} {below : List Frame} {meth : Method} {c : Code} {Q : State → Prop} {A : Nat → Prop} {dC : Nat → ClassId} {dI : Nat → Nat → Nat} {a : Nat → Nat} {ac : Nat → ClassId} {n : Nat} {r : Int32 × (St × (St))} (C : nd_C p l s m args c A (dC, dI) cX16_register 3 RX16 ow_dm_X16_register (dk_X16 ac)) (K : nd_Ki p l e (headSpec ow_dm_X16_register ({ frames := 0, cells := 0, slots := 0, locals := 0 })).room s m args below meth c Q A (dC, dI) cX16_register .int (St × (St)) (dw_X16 a ac) r) : dj_X16_register_59 p l e s m args below meth c Q A dC dI a ac (df_X16_register_59 n) r := by
  obtain ⟨hlt, hx, hb, hml, hown, hts, hN, hA, hK⟩ := id C
  intro y0 s0 H locs ls h hP hD hS hl
  unfold df_X16_register_59 at h
  exact K _ _ _ _ _ _ dX16_register_59 rfl (Option.some.inj h).symm hP hD hS
set_option maxHeartbeats 40000000 in
set_option maxRecDepth 100000 in
theorem db_X16_register_29 {p : Program} {l : Launch} {e : Env} {s : State} {m : MethodId} {args : Array Value} {below : List Frame} {meth : Method} {c : Code} {Q : State → Prop} {A : Nat → Prop} {dC : Nat → ClassId} {dI : Nat → Nat → Nat} {a : Nat → Nat} {ac : Nat → ClassId} {n : Nat} {r : Int32 × (St × (St))} (C : nd_C p l s m args c A (dC, dI) cX16_register 3 RX16 ow_dm_X16_register (dk_X16 ac)) (K : nd_Ki p l e (headSpec ow_dm_X16_register ({ frames := 0, cells := 0, slots := 0, locals := 0 })).room s m args below meth c Q A (dC, dI) cX16_register .int (St × (St)) (dw_X16 a ac) r) : dj_X16_register_29 p l e s m args below meth c Q A dC dI a ac (df_X16_register_29 n) r := by
  obtain ⟨hlt, hx, hb, hml, hown, hts, hN, hA, hK⟩ := id C
  intro s0 H locs ls h hP hD hS hl
  unfold df_X16_register_29 at h
  refine lv_iconst (v := 0) hx hb dX16_register_29 (by decide) ?_
  refine lv_goto (tgt := 59) hx hb dX16_register_30 (by decide) ?_
  exact (db_X16_register_59 C K) (0) s0 _ _ _ h hP hD hS (lv_sub hl [] rfl)
set_option maxHeartbeats 40000000 in
set_option maxRecDepth 100000 in
theorem db_X16_register_0 {p : Program} {l : Launch} {e : Env} {s : State} {m : MethodId} {args : Array Value} {below : List Frame} {meth : Method} {c : Code} {Q : State → Prop} {A : Nat → Prop} {dC : Nat → ClassId} {dI : Nat → Nat → Nat} {a : Nat → Nat} {ac : Nat → ClassId} {n : Nat} {r : Int32 × (St × (St))} (C : nd_C p l s m args c A (dC, dI) cX16_register 3 RX16 ow_dm_X16_register (dk_X16 ac)) (K : nd_Ki p l e (headSpec ow_dm_X16_register ({ frames := 0, cells := 0, slots := 0, locals := 0 })).room s m args below meth c Q A (dC, dI) cX16_register .int (St × (St)) (dw_X16 a ac) r) : dj_X16_register_0 p l e s m args below meth c Q A dC dI a ac (df_X16_register_0 n) r := by
  obtain ⟨hlt, hx, hb, hml, hown, hts, hN, hA, hK⟩ := id C
  intro v0 v1 s0 H locs ls h hP hD hS hl
  unfold df_X16_register_0 at h
  refine lv_iload_n hx hb dX16_register_0 rfl (lv_at hl 1 rfl) ?_
  refine lv_if_lt (tgt := 29) hx hb dX16_register_1 (by decide) (fun c1 => ?_) (fun c1 => ?_)
  · have h := nd_pos h c1
    exact (db_X16_register_29 C K)  s0 _ _ _ h hP hD hS (lv_sub hl [] rfl)
  · have h := nd_neg h c1
    refine lv_iload_n hx hb dX16_register_4 rfl (lv_at hl 1 rfl) ?_
    refine lv_bipush (v := 15) hx hb dX16_register_5 (by decide) ?_
    refine lv_icmp_gt (tgt := 29) hx hb dX16_register_7 (by decide) (fun c2 => ?_) (fun c2 => ?_)
    · have h := nd_pos h c2
      exact (db_X16_register_29 C K)  s0 _ _ _ h hP hD hS (lv_sub hl [] rfl)
    · have h := nd_neg h c2
      refine lv_iload_n hx hb dX16_register_10 rfl (lv_at hl 2 rfl) ?_
      refine lv_if_lt (tgt := 29) hx hb dX16_register_11 (by decide) (fun c3 => ?_) (fun c3 => ?_)
      · have h := nd_pos h c3
        exact (db_X16_register_29 C K)  s0 _ _ _ h hP hD hS (lv_sub hl [] rfl)
      · have h := nd_neg h c3
        refine lv_iload_n hx hb dX16_register_14 rfl (lv_at hl 2 rfl) ?_
        refine lv_bipush (v := 32) hx hb dX16_register_15 (by decide) ?_
        refine lv_icmp_gt (tgt := 29) hx hb dX16_register_17 (by decide) (fun c4 => ?_) (fun c4 => ?_)
        · have h := nd_pos h c4
          exact (db_X16_register_29 C K)  s0 _ _ _ h hP hD hS (lv_sub hl [] rfl)
        · have h := nd_neg h c4
          refine lv_aload_n hx hb dX16_register_20 rfl (lv_at hl 0 rfl) ?_
          refine va_get (D := (dC, dI)) (ci := 17) (v := .ref (a 2)) (C := RX16) (T := TX16) (N := 56) hx hb hts hi_dm_X16_register_X16 hown hK hP 0 rfl rfl 10 (by decide) (hts (.fieldLink RX16 13 "TimeMachineModel$Machine" "state" "[I") (List.mem_of_getElem? (i := 1) rfl)) (fun _ h9 => h9) rfl dX16_register_21 ?_
          refine lv_iload_n hx hb dX16_register_24 rfl (lv_at hl 1 rfl) ?_
          obtain ⟨i5, h⟩ := nd_ck_e h
          refine va_iald (i := v0) hx hb hK hP 2 1 rfl rfl i5 dX16_register_25 ?_
          refine lv_if_ne (tgt := 33) hx hb dX16_register_26 (by decide) (fun c6 => ?_) (fun c6 => ?_)
          · have h := nd_neg h c6
            refine lv_iload_n hx hb dX16_register_33 rfl (lv_at hl 2 rfl) ?_
            refine lv_bipush (v := 32) hx hb dX16_register_34 (by decide) ?_
            refine lv_icmp_ne (tgt := 48) hx hb dX16_register_36 (by decide) (fun c7 => ?_) (fun c7 => ?_)
            · have h := nd_neg h c7
              refine lv_aload_n hx hb dX16_register_48 rfl (lv_at hl 0 rfl) ?_
              refine va_get (D := (dC, dI)) (ci := 17) (v := .ref (a 11)) (C := RX16) (T := TX16) (N := 56) hx hb hts hi_dm_X16_register_X16 hown hK hP 0 rfl rfl 19 (by decide) (hts (.fieldLink RX16 42 "TimeMachineModel$Machine" "x" "[I") (List.mem_of_getElem? (i := 2) rfl)) (fun _ h9 => h9) rfl dX16_register_49 ?_
              refine lv_bipush (v := 32) hx hb dX16_register_52 (by decide) ?_
              refine lv_iload_n hx hb dX16_register_54 rfl (lv_at hl 1 rfl) ?_
              refine lv_imul hx hb dX16_register_55 ?_
              refine lv_iload_n hx hb dX16_register_56 rfl (lv_at hl 2 rfl) ?_
              refine lv_iadd hx hb dX16_register_57 ?_
              obtain ⟨i8, h⟩ := nd_ck_e h
              refine va_iald (i := ((32 * v0) + v1)) hx hb hK hP 11 10 rfl rfl i8 dX16_register_58 ?_
              exact (db_X16_register_59 C K) ((sR s0.1 9 (Int32.toNatClampNeg ((32 * v0) + v1)))) s0 _ _ _ h hP hD hS (lv_sub hl [] rfl)
            · have h := nd_pos h c7
              refine lv_aload_n hx hb dX16_register_39 rfl (lv_at hl 0 rfl) ?_
              refine va_get (D := (dC, dI)) (ci := 17) (v := .ref (a 12)) (C := RX16) (T := TX16) (N := 56) hx hb hts hi_dm_X16_register_X16 hown hK hP 0 rfl rfl 20 (by decide) (hts (.fieldLink RX16 45 "TimeMachineModel$Machine" "place" "[I") (List.mem_of_getElem? (i := 3) rfl)) (fun _ h9 => h9) rfl dX16_register_40 ?_
              refine lv_iload_n hx hb dX16_register_43 rfl (lv_at hl 1 rfl) ?_
              obtain ⟨i9, h⟩ := nd_ck_e h
              refine va_iald (i := v0) hx hb hK hP 12 11 rfl rfl i9 dX16_register_44 ?_
              refine lv_goto (tgt := 59) hx hb dX16_register_45 (by decide) ?_
              exact (db_X16_register_59 C K) ((sR s0.1 10 (Int32.toNatClampNeg v0))) s0 _ _ _ h hP hD hS (lv_sub hl [] rfl)
          · have h := nd_pos h c6
            exact (db_X16_register_29 C K)  s0 _ _ _ h hP hD hS (lv_sub hl [] rfl)
set_option maxHeartbeats 40000000 in
set_option maxRecDepth 100000 in
theorem dm_X16_register (l : Launch) (hlt : l.stackTraces = false) (dC : Nat → ClassId) (dI : Nat → Nat → Nat) (a : Nat → Nat) (ac : Nat → ClassId) (n : Nat) (v0 : Int32) (v1 : Int32) (s0 : St × (St)) {r : Int32 × (St × (St))} (h : df_X16_register n v0 v1 s0 = some r) (sz : Nat) : Met l yX16_register ow_dm_X16_register ({ frames := 0, cells := 0, slots := 0, locals := 0 }) (va_Pc [.ref (a 0), .int v0, .int v1] (fun U => U.heap.size = sz ∧ va_P (dC, dI) vwCl (dw_X16 a ac s0) U.heap ∧ va_K (dC, dI) vwCl (dk_X16 ac) U ∧ va_D (fun _ => True) (dw_X16 a ac s0) ∧ nv_E (va_A (dw_X16 a ac s0) sz) U)) (va_Qi (fun x _ => x = r.1) (fun (_ : Unit) t => va_P (dC, dI) vwCl (dw_X16 a ac r.2) t.heap ∧ va_K (dC, dI) vwCl (dk_X16 ac) t ∧ va_D (va_A (dw_X16 a ac s0) sz) (dw_X16 a ac r.2)) (va_A (dw_X16 a ac s0) sz)) 0 0 (va_A (dw_X16 a ac s0) sz) := by
  refine Met.ofW (cc := cX16_register) (maxL := 3) (ret := (some .int)) (by decide) rfl ?_
  intro p e s m args below meth c s₁ B hml hv
  obtain ⟨rfl, hsz, hP, hK, hD0, hN⟩ := hv
  have hx := B.exec
  have hb := B.bytes
  have hr := B.returns
  have hts := atoms_spec (ws := ow_dm_X16_register) B.pre
  have hown : s.vm.findClass RX16 = some m.cls := findClass_of_methodNamed B.named
  have hlocks := B.notSynchronized
  subst hsz
  have hD := hD0.self (sz := s.heap.size)
  generalize hAe : va_A (dw_X16 a ac s0) s.heap.size = A at hD hN ⊢
  have hA : ∀ q : Nat, s.heap.size ≤ q → A q := fun q h => by rw [← hAe]; exact Or.inr h
  have hl := lv_entry ([.ref (a 0), .int v0, .int v1]) (n := 3) (Nat.le_of_ble_eq_true rfl)
  rw [lg_entry_eq]
  generalize (lg_sl ([.ref (a 0), .int v0, .int v1]) ++ List.replicate (3 - (lg_sl ([.ref (a 0), .int v0, .int v1])).length) Slot.unset).toArray = ls at hl ⊢
  have hl : lv_has ls 3 [(0, .ref (a 0)), (1, .int v0), (2, .int v1)] := hl
  exact db_X16_register_0 (dC := dC) (dI := dI) (a := a) (ac := ac) (n := n) (r := r) ⟨hlt, hx, hb, hml, hown, hts, hN, hA, hK⟩ (fun pc v τ H locs ls d z er hP hD hS => by subst er; exact W.zret (v := v) hx hb hr z (fun t ht hW => ⟨⟨v, (), rfl, rfl, by rw [ht]; exact hP, va_K.moved hW.alike hK, hD⟩, hS.F ht⟩) hS.2.2 d) v0 v1 s0 _ _ _ h hP hD va_S.rf (lv_sub hl [0, 1, 2] rfl)
def ow_dm_X16_process : List Cond := .code yX16_process cX16_process 5 (some .int) :: ([.fieldLink RX16 13 "TimeMachineModel$Machine" "state" "[I", .fieldLink RX16 16 "TimeMachineModel$Machine" "parent" "[I", .fieldLink RX16 19 "TimeMachineModel$Machine" "ending" "[I", .fieldLink RX16 22 "TimeMachineModel$Machine" "pending" "[I", .fieldLink RX16 34 "TimeMachineModel$Machine" "within" "[Z", .fieldLink RX16 28 "TimeMachineModel$Machine" "heapEnd" "[I", .fieldLink RX16 31 "TimeMachineModel$Machine" "calling" "[I", .fieldLink RX16 64 "TimeMachineModel$Machine" "frame" "[I"] ++ (u_ws RX16 TX16 56 ++ []))
theorem gd_dm_X16_process : ∀ w ∈ ow_dm_X16_process, (w.onTables && w.keeps) = true ∨ ∃ ty, w = Cond.arrayClass ty := List.forall_mem_cons.mpr ⟨good_of_word rfl, List.forall_mem_append.mpr ⟨fun w h => good_of_word (List.all_eq_true.mp (by decide +kernel) w h), List.forall_mem_append.mpr ⟨gu_X16, fun _ h => nomatch h⟩⟩⟩
theorem hi_dm_X16_process_X16 : ∀ w ∈ u_ws RX16 TX16 56, w ∈ ow_dm_X16_process := fun w h => List.mem_cons_of_mem _ (List.mem_append_right _ (List.mem_append_left _ h))
def dj_X16_process_20 (p : Program) (l : Launch) (e : Env) (s : State) (m : MethodId) (args : Array Value) (below : List Frame) (meth : Method) (c : Code) (Q : State → Prop) (A : Nat → Prop) (dC : Nat → ClassId) (dI : Nat → Nat → Nat) (a : Nat → Nat) (ac : Nat → ClassId) (g : (St × (St)) → Option (Int32 × (St × (St)))) (r : Int32 × (St × (St))) : Prop := ∀ (s0 : St × (St)) (H : Heap) (locs : List Loc) (ls : Array Slot), g s0 = some r → va_P (dC, dI) vwCl (dw_X16 a ac s0) H → va_D A (dw_X16 a ac s0) → va_S A s.heap H locs → lv_has ls 5 [] → W p l e (headSpec ow_dm_X16_process ({ frames := 0, cells := 0, slots := 0, locals := 0 })).room s m args below meth c H locs 0 0 Q (F0 m 20 ls [])
def dj_X16_process_142 (p : Program) (l : Launch) (e : Env) (s : State) (m : MethodId) (args : Array Value) (below : List Frame) (meth : Method) (c : Code) (Q : State → Prop) (A : Nat → Prop) (dC : Nat → ClassId) (dI : Nat → Nat → Nat) (a : Nat → Nat) (ac : Nat → ClassId) (g : Int32 → (St × (St)) → Option (Int32 × (St × (St)))) (r : Int32 × (St × (St))) : Prop := ∀ (y0 : Int32) (s0 : St × (St)) (H : Heap) (locs : List Loc) (ls : Array Slot), g y0 s0 = some r → va_P (dC, dI) vwCl (dw_X16 a ac s0) H → va_D A (dw_X16 a ac s0) → va_S A s.heap H locs → lv_has ls 5 [] → W p l e (headSpec ow_dm_X16_process ({ frames := 0, cells := 0, slots := 0, locals := 0 })).room s m args below meth c H locs 0 0 Q (F0 m 142 ls [.int y0])
def dj_X16_process_164 (p : Program) (l : Launch) (e : Env) (s : State) (m : MethodId) (args : Array Value) (below : List Frame) (meth : Method) (c : Code) (Q : State → Prop) (A : Nat → Prop) (dC : Nat → ClassId) (dI : Nat → Nat → Nat) (a : Nat → Nat) (ac : Nat → ClassId) (g : Int32 → (St × (St)) → Option (Int32 × (St × (St)))) (r : Int32 × (St × (St))) : Prop := ∀ (y0 : Int32) (s0 : St × (St)) (H : Heap) (locs : List Loc) (ls : Array Slot), g y0 s0 = some r → va_P (dC, dI) vwCl (dw_X16 a ac s0) H → va_D A (dw_X16 a ac s0) → va_S A s.heap H locs → lv_has ls 5 [] → W p l e (headSpec ow_dm_X16_process ({ frames := 0, cells := 0, slots := 0, locals := 0 })).room s m args below meth c H locs 0 0 Q (F0 m 164 ls [.int y0])
def dj_X16_process_57 (p : Program) (l : Launch) (e : Env) (s : State) (m : MethodId) (args : Array Value) (below : List Frame) (meth : Method) (c : Code) (Q : State → Prop) (A : Nat → Prop) (dC : Nat → ClassId) (dI : Nat → Nat → Nat) (a : Nat → Nat) (ac : Nat → ClassId) (g : Int32 → Int32 → Int32 → Int32 → (St × (St)) → Option (Int32 × (St × (St)))) (r : Int32 × (St × (St))) : Prop := ∀ (x1 : Int32) (x2 : Int32) (x4 : Int32) (y0 : Int32) (s0 : St × (St)) (H : Heap) (locs : List Loc) (ls : Array Slot), g x1 x2 x4 y0 s0 = some r → va_P (dC, dI) vwCl (dw_X16 a ac s0) H → va_D A (dw_X16 a ac s0) → va_S A s.heap H locs → lv_has ls 5 [(0, .ref (a 0)), (1, .int x1), (2, .int x2), (4, .int x4)] → W p l e (headSpec ow_dm_X16_process ({ frames := 0, cells := 0, slots := 0, locals := 0 })).room s m args below meth c H locs 0 0 Q (F0 m 57 ls [.int y0])
def dj_X16_process_27 (p : Program) (l : Launch) (e : Env) (s : State) (m : MethodId) (args : Array Value) (below : List Frame) (meth : Method) (c : Code) (Q : State → Prop) (A : Nat → Prop) (dC : Nat → ClassId) (dI : Nat → Nat → Nat) (a : Nat → Nat) (ac : Nat → ClassId) (g : Int32 → Int32 → Int32 → Int32 → (St × (St)) → Option (Int32 × (St × (St)))) (r : Int32 × (St × (St))) : Prop := ∀ (x1 : Int32) (x2 : Int32) (x3 : Int32) (x4 : Int32) (s0 : St × (St)) (H : Heap) (locs : List Loc) (ls : Array Slot), g x1 x2 x3 x4 s0 = some r → va_P (dC, dI) vwCl (dw_X16 a ac s0) H → va_D A (dw_X16 a ac s0) → va_S A s.heap H locs → lv_has ls 5 [(0, .ref (a 0)), (1, .int x1), (2, .int x2), (3, .int x3), (4, .int x4)] → W p l e (headSpec ow_dm_X16_process ({ frames := 0, cells := 0, slots := 0, locals := 0 })).room s m args below meth c H locs 0 0 Q (F0 m 27 ls [])
def dj_X16_process_0 (p : Program) (l : Launch) (e : Env) (s : State) (m : MethodId) (args : Array Value) (below : List Frame) (meth : Method) (c : Code) (Q : State → Prop) (A : Nat → Prop) (dC : Nat → ClassId) (dI : Nat → Nat → Nat) (a : Nat → Nat) (ac : Nat → ClassId) (g : Int32 → Int32 → (St × (St)) → Option (Int32 × (St × (St)))) (r : Int32 × (St × (St))) : Prop := ∀ (v0 : Int32) (v1 : Int32) (s0 : St × (St)) (H : Heap) (locs : List Loc) (ls : Array Slot), g v0 v1 s0 = some r → va_P (dC, dI) vwCl (dw_X16 a ac s0) H → va_D A (dw_X16 a ac s0) → va_S A s.heap H locs → lv_has ls 5 [(0, .ref (a 0)), (1, .int v0), (2, .int v1)] → W p l e (headSpec ow_dm_X16_process ({ frames := 0, cells := 0, slots := 0, locals := 0 })).room s m args below meth c H locs 0 0 Q (F0 m 0 ls [])
set_option maxHeartbeats 40000000 in
set_option maxRecDepth 100000 in
theorem db_X16_process_20 {p : Program} {l : Launch} {e : Env} {s : State} {m : MethodId} {args : Array Value} {below : List Frame} {meth : Method} {c : Code} {Q : State → Prop} {A : Nat → Prop} {dC : Nat → ClassId} {dI : Nat → Nat → Nat} {a : Nat → Nat} {ac : Nat → ClassId} {n : Nat} {r : Int32 × (St × (St))} (C : nd_C p l s m args c A (dC, dI) cX16_process 5 RX16 ow_dm_X16_process (dk_X16 ac)) (K : nd_Ki p l e (headSpec ow_dm_X16_process ({ frames := 0, cells := 0, slots := 0, locals := 0 })).room s m args below meth c Q A (dC, dI) cX16_process .int (St × (St)) (dw_X16 a ac) r) : dj_X16_process_20 p l e s m args below meth c Q A dC dI a ac (df_X16_process_20 n) r := by
  obtain ⟨hlt, hx, hb, hml, hown, hts, hN, hA, hK⟩ := id C
  intro s0 H locs ls h hP hD hS hl
  unfold df_X16_process_20 at h
  refine lv_iconst (v := (-1)) hx hb dX16_process_20 (by decide) ?_
  exact K _ _ _ _ _ _ dX16_process_21 rfl (Option.some.inj h).symm hP hD hS
set_option maxHeartbeats 40000000 in
set_option maxRecDepth 100000 in
theorem db_X16_process_142 {p : Program} {l : Launch} {e : Env} {s : State} {m : MethodId} {args : Array Value} {below : List Frame} {meth : Method} {c : Code} {Q : State → Prop} {A : Nat → Prop} {dC : Nat → ClassId} {dI : Nat → Nat → Nat} {a : Nat → Nat} {ac : Nat → ClassId} {n : Nat} {r : Int32 × (St × (St))} (C : nd_C p l s m args c A (dC, dI) cX16_process 5 RX16 ow_dm_X16_process (dk_X16 ac)) (K : nd_Ki p l e (headSpec ow_dm_X16_process ({ frames := 0, cells := 0, slots := 0, locals := 0 })).room s m args below meth c Q A (dC, dI) cX16_process .int (St × (St)) (dw_X16 a ac) r) : dj_X16_process_142 p l e s m args below meth c Q A dC dI a ac (df_X16_process_142 n) r := by
  obtain ⟨hlt, hx, hb, hml, hown, hts, hN, hA, hK⟩ := id C
  intro y0 s0 H locs ls h hP hD hS hl
  unfold df_X16_process_142 at h
  exact K _ _ _ _ _ _ dX16_process_142 rfl (Option.some.inj h).symm hP hD hS
set_option maxHeartbeats 40000000 in
set_option maxRecDepth 100000 in
theorem db_X16_process_164 {p : Program} {l : Launch} {e : Env} {s : State} {m : MethodId} {args : Array Value} {below : List Frame} {meth : Method} {c : Code} {Q : State → Prop} {A : Nat → Prop} {dC : Nat → ClassId} {dI : Nat → Nat → Nat} {a : Nat → Nat} {ac : Nat → ClassId} {n : Nat} {r : Int32 × (St × (St))} (C : nd_C p l s m args c A (dC, dI) cX16_process 5 RX16 ow_dm_X16_process (dk_X16 ac)) (K : nd_Ki p l e (headSpec ow_dm_X16_process ({ frames := 0, cells := 0, slots := 0, locals := 0 })).room s m args below meth c Q A (dC, dI) cX16_process .int (St × (St)) (dw_X16 a ac) r) : dj_X16_process_164 p l e s m args below meth c Q A dC dI a ac (df_X16_process_164 n) r := by
  obtain ⟨hlt, hx, hb, hml, hown, hts, hN, hA, hK⟩ := id C
  intro y0 s0 H locs ls h hP hD hS hl
  unfold df_X16_process_164 at h
  exact K _ _ _ _ _ _ dX16_process_164 rfl (Option.some.inj h).symm hP hD hS
set_option maxHeartbeats 40000000 in
set_option maxRecDepth 100000 in
theorem db_X16_process_57 {p : Program} {l : Launch} {e : Env} {s : State} {m : MethodId} {args : Array Value} {below : List Frame} {meth : Method} {c : Code} {Q : State → Prop} {A : Nat → Prop} {dC : Nat → ClassId} {dI : Nat → Nat → Nat} {a : Nat → Nat} {ac : Nat → ClassId} {n : Nat} {r : Int32 × (St × (St))} (C : nd_C p l s m args c A (dC, dI) cX16_process 5 RX16 ow_dm_X16_process (dk_X16 ac)) (K : nd_Ki p l e (headSpec ow_dm_X16_process ({ frames := 0, cells := 0, slots := 0, locals := 0 })).room s m args below meth c Q A (dC, dI) cX16_process .int (St × (St)) (dw_X16 a ac) r) {g27 : Int32 → Int32 → Int32 → Int32 → (St × (St)) → Option (Int32 × (St × (St)))} (J27 : dj_X16_process_27 p l e s m args below meth c Q A dC dI a ac g27 r) : dj_X16_process_57 p l e s m args below meth c Q A dC dI a ac (df_X16_process_57 n g27) r := by
  obtain ⟨hlt, hx, hb, hml, hown, hts, hN, hA, hK⟩ := id C
  intro x1 x2 x4 y0 s0 H locs ls h hP hD hS hl
  unfold df_X16_process_57 at h
  refine lv_istore_n (lv' := [(3, .int y0), (0, .ref (a 0)), (1, .int x1), (2, .int x2), (4, .int x4)]) hx hb dX16_process_57 rfl hl (by decide) rfl (fun ls hl => ?_)
  obtain ⟨z25, ez25, h⟩ := nd_let_e h
  refine lv_iinc (v := z25) (lv' := [(4, .int z25), (3, .int y0), (0, .ref (a 0)), (1, .int x1), (2, .int x2)]) hx hb dX16_process_58 hl (k := 4) rfl (by rw [ez25]) (by decide) rfl (fun ls hl => ?_)
  refine lv_goto (tgt := 27) hx hb dX16_process_61 (by decide) ?_
  exact (J27) (x1) (x2) (y0) (z25) s0 _ _ _ h hP hD hS (lv_sub hl [2, 3, 4, 1, 0] rfl)
set_option maxHeartbeats 40000000 in
set_option maxRecDepth 100000 in
theorem dB_X16_process_27 {p : Program} {l : Launch} {e : Env} {s : State} {m : MethodId} {args : Array Value} {below : List Frame} {meth : Method} {c : Code} {Q : State → Prop} {A : Nat → Prop} {dC : Nat → ClassId} {dI : Nat → Nat → Nat} {a : Nat → Nat} {ac : Nat → ClassId} {n : Nat} {r : Int32 × (St × (St))} (C : nd_C p l s m args c A (dC, dI) cX16_process 5 RX16 ow_dm_X16_process (dk_X16 ac)) (K : nd_Ki p l e (headSpec ow_dm_X16_process ({ frames := 0, cells := 0, slots := 0, locals := 0 })).room s m args below meth c Q A (dC, dI) cX16_process .int (St × (St)) (dw_X16 a ac) r) {g27 : Int32 → Int32 → Int32 → Int32 → (St × (St)) → Option (Int32 × (St × (St)))} (J27 : dj_X16_process_27 p l e s m args below meth c Q A dC dI a ac g27 r) : dj_X16_process_27 p l e s m args below meth c Q A dC dI a ac (dF_X16_process_27 n g27) r := by
  obtain ⟨hlt, hx, hb, hml, hown, hts, hN, hA, hK⟩ := id C
  intro x1 x2 x3 x4 s0 H locs ls h hP hD hS hl
  unfold dF_X16_process_27 at h
  refine lv_iload hx hb dX16_process_27 (lv_at hl 4 rfl) ?_
  refine lv_bipush (v := 64) hx hb dX16_process_29 (by decide) ?_
  refine lv_icmp_ge (tgt := 64) hx hb dX16_process_31 (by decide) (fun c5 => ?_) (fun c5 => ?_)
  · have h := nd_pos h c5
    refine lv_iload_n hx hb dX16_process_64 rfl (lv_at hl 2 rfl) ?_
    by_cases c6 : x2 = 0
    · have h := nd_pos h c6
      refine lv_tableIn (off := 43) (tgt := 108) hx hb dX16_process_65 (by rw [c6]; decide) (by rw [c6]; decide) (by rw [c6]; decide) (by decide) ?_
      refine lv_aload_n hx hb dX16_process_108 rfl (lv_at hl 0 rfl) ?_
      refine va_get (D := (dC, dI)) (ci := 17) (v := .ref (a 2)) (C := RX16) (T := TX16) (N := 56) hx hb hts hi_dm_X16_process_X16 hown hK hP 0 rfl rfl 10 (by decide) (hts (.fieldLink RX16 13 "TimeMachineModel$Machine" "state" "[I") (List.mem_of_getElem? (i := 1) rfl)) (fun _ h9 => h9) rfl dX16_process_109 ?_
      refine lv_iload_n hx hb dX16_process_112 rfl (lv_at hl 1 rfl) ?_
      obtain ⟨i7, h⟩ := nd_ck_e h
      refine va_iald (i := x1) hx hb hK hP 2 1 rfl rfl i7 dX16_process_113 ?_
      exact K _ _ _ _ _ _ dX16_process_114 rfl (Option.some.inj h).symm hP hD hS
    have h := nd_neg h c6
    by_cases c8 : x2 = 1
    · have h := nd_pos h c8
      refine lv_tableIn (off := 50) (tgt := 115) hx hb dX16_process_65 (by rw [c8]; decide) (by rw [c8]; decide) (by rw [c8]; decide) (by decide) ?_
      refine lv_aload_n hx hb dX16_process_115 rfl (lv_at hl 0 rfl) ?_
      refine va_get (D := (dC, dI)) (ci := 17) (v := .ref (a 3)) (C := RX16) (T := TX16) (N := 56) hx hb hts hi_dm_X16_process_X16 hown hK hP 0 rfl rfl 11 (by decide) (hts (.fieldLink RX16 16 "TimeMachineModel$Machine" "parent" "[I") (List.mem_of_getElem? (i := 2) rfl)) (fun _ h9 => h9) rfl dX16_process_116 ?_
      refine lv_iload_n hx hb dX16_process_119 rfl (lv_at hl 1 rfl) ?_
      obtain ⟨i9, h⟩ := nd_ck_e h
      refine va_iald (i := x1) hx hb hK hP 3 2 rfl rfl i9 dX16_process_120 ?_
      exact K _ _ _ _ _ _ dX16_process_121 rfl (Option.some.inj h).symm hP hD hS
    have h := nd_neg h c8
    by_cases c10 : x2 = 2
    · have h := nd_pos h c10
      refine lv_tableIn (off := 57) (tgt := 122) hx hb dX16_process_65 (by rw [c10]; decide) (by rw [c10]; decide) (by rw [c10]; decide) (by decide) ?_
      refine lv_aload_n hx hb dX16_process_122 rfl (lv_at hl 0 rfl) ?_
      refine va_get (D := (dC, dI)) (ci := 17) (v := .ref (a 2)) (C := RX16) (T := TX16) (N := 56) hx hb hts hi_dm_X16_process_X16 hown hK hP 0 rfl rfl 10 (by decide) (hts (.fieldLink RX16 13 "TimeMachineModel$Machine" "state" "[I") (List.mem_of_getElem? (i := 1) rfl)) (fun _ h9 => h9) rfl dX16_process_123 ?_
      refine lv_iload_n hx hb dX16_process_126 rfl (lv_at hl 1 rfl) ?_
      obtain ⟨i11, h⟩ := nd_ck_e h
      refine va_iald (i := x1) hx hb hK hP 2 1 rfl rfl i11 dX16_process_127 ?_
      refine lv_iconst (v := 3) hx hb dX16_process_128 (by decide) ?_
      refine lv_icmp_ne (tgt := 141) hx hb dX16_process_129 (by decide) (fun c12 => ?_) (fun c12 => ?_)
      · have h := nd_neg h c12
        refine lv_iconst (v := 0) hx hb dX16_process_141 (by decide) ?_
        exact (db_X16_process_142 C K) (0) s0 _ _ _ h hP hD hS (lv_sub hl [] rfl)
      · have h := nd_pos h c12
        refine lv_aload_n hx hb dX16_process_132 rfl (lv_at hl 0 rfl) ?_
        refine va_get (D := (dC, dI)) (ci := 17) (v := .ref (a 4)) (C := RX16) (T := TX16) (N := 56) hx hb hts hi_dm_X16_process_X16 hown hK hP 0 rfl rfl 12 (by decide) (hts (.fieldLink RX16 19 "TimeMachineModel$Machine" "ending" "[I") (List.mem_of_getElem? (i := 3) rfl)) (fun _ h9 => h9) rfl dX16_process_133 ?_
        refine lv_iload_n hx hb dX16_process_136 rfl (lv_at hl 1 rfl) ?_
        obtain ⟨i13, h⟩ := nd_ck_e h
        refine va_iald (i := x1) hx hb hK hP 4 3 rfl rfl i13 dX16_process_137 ?_
        refine lv_goto (tgt := 142) hx hb dX16_process_138 (by decide) ?_
        exact (db_X16_process_142 C K) ((sR s0.1 3 (Int32.toNatClampNeg x1))) s0 _ _ _ h hP hD hS (lv_sub hl [] rfl)
    have h := nd_neg h c10
    by_cases c14 : x2 = 3
    · have h := nd_pos h c14
      refine lv_tableIn (off := 78) (tgt := 143) hx hb dX16_process_65 (by rw [c14]; decide) (by rw [c14]; decide) (by rw [c14]; decide) (by decide) ?_
      refine lv_aload_n hx hb dX16_process_143 rfl (lv_at hl 0 rfl) ?_
      refine va_get (D := (dC, dI)) (ci := 17) (v := .ref (a 5)) (C := RX16) (T := TX16) (N := 56) hx hb hts hi_dm_X16_process_X16 hown hK hP 0 rfl rfl 13 (by decide) (hts (.fieldLink RX16 22 "TimeMachineModel$Machine" "pending" "[I") (List.mem_of_getElem? (i := 4) rfl)) (fun _ h9 => h9) rfl dX16_process_144 ?_
      refine lv_iload_n hx hb dX16_process_147 rfl (lv_at hl 1 rfl) ?_
      obtain ⟨i15, h⟩ := nd_ck_e h
      refine va_iald (i := x1) hx hb hK hP 5 4 rfl rfl i15 dX16_process_148 ?_
      exact K _ _ _ _ _ _ dX16_process_149 rfl (Option.some.inj h).symm hP hD hS
    have h := nd_neg h c14
    by_cases c16 : x2 = 4
    · have h := nd_pos h c16
      refine lv_tableIn (off := 85) (tgt := 150) hx hb dX16_process_65 (by rw [c16]; decide) (by rw [c16]; decide) (by rw [c16]; decide) (by decide) ?_
      refine lv_aload_n hx hb dX16_process_150 rfl (lv_at hl 0 rfl) ?_
      refine va_get (D := (dC, dI)) (ci := 17) (v := .ref (a 9)) (C := RX16) (T := TX16) (N := 56) hx hb hts hi_dm_X16_process_X16 hown hK hP 0 rfl rfl 17 (by decide) (hts (.fieldLink RX16 34 "TimeMachineModel$Machine" "within" "[Z") (List.mem_of_getElem? (i := 5) rfl)) (fun _ h9 => h9) rfl dX16_process_151 ?_
      refine lv_iload_n hx hb dX16_process_154 rfl (lv_at hl 1 rfl) ?_
      obtain ⟨i17, h⟩ := nd_ck_e h
      refine va_zald (i := x1) hx hb hK hP 9 8 rfl rfl i17 dX16_process_155 ?_
      refine lv_if_eq (tgt := 163) hx hb dX16_process_156 (by decide) (fun c18 => ?_) (fun c18 => ?_)
      · have h := nd_pos h c18
        refine lv_iconst (v := 0) hx hb dX16_process_163 (by decide) ?_
        exact (db_X16_process_164 C K) (0) s0 _ _ _ h hP hD hS (lv_sub hl [] rfl)
      · have h := nd_neg h c18
        refine lv_iconst (v := 1) hx hb dX16_process_159 (by decide) ?_
        refine lv_goto (tgt := 164) hx hb dX16_process_160 (by decide) ?_
        exact (db_X16_process_164 C K) (1) s0 _ _ _ h hP hD hS (lv_sub hl [] rfl)
    have h := nd_neg h c16
    by_cases c19 : x2 = 5
    · have h := nd_pos h c19
      refine lv_tableIn (off := 100) (tgt := 165) hx hb dX16_process_65 (by rw [c19]; decide) (by rw [c19]; decide) (by rw [c19]; decide) (by decide) ?_
      refine lv_iload_n hx hb dX16_process_165 rfl (lv_at hl 3 rfl) ?_
      exact K _ _ _ _ _ _ dX16_process_166 rfl (Option.some.inj h).symm hP hD hS
    have h := nd_neg h c19
    by_cases c20 : x2 = 6
    · have h := nd_pos h c20
      refine lv_tableIn (off := 102) (tgt := 167) hx hb dX16_process_65 (by rw [c20]; decide) (by rw [c20]; decide) (by rw [c20]; decide) (by decide) ?_
      refine lv_aload_n hx hb dX16_process_167 rfl (lv_at hl 0 rfl) ?_
      refine va_get (D := (dC, dI)) (ci := 17) (v := .ref (a 7)) (C := RX16) (T := TX16) (N := 56) hx hb hts hi_dm_X16_process_X16 hown hK hP 0 rfl rfl 15 (by decide) (hts (.fieldLink RX16 28 "TimeMachineModel$Machine" "heapEnd" "[I") (List.mem_of_getElem? (i := 6) rfl)) (fun _ h9 => h9) rfl dX16_process_168 ?_
      refine lv_iload_n hx hb dX16_process_171 rfl (lv_at hl 1 rfl) ?_
      obtain ⟨i21, h⟩ := nd_ck_e h
      refine va_iald (i := x1) hx hb hK hP 7 6 rfl rfl i21 dX16_process_172 ?_
      exact K _ _ _ _ _ _ dX16_process_173 rfl (Option.some.inj h).symm hP hD hS
    have h := nd_neg h c20
    refine lv_tableOut (tgt := 174) hx hb dX16_process_65 (by have g0 := nv_nei c6 (k := 0) (by decide); have g1 := nv_nei c8 (k := 1) (by decide); have g2 := nv_nei c10 (k := 2) (by decide); have g3 := nv_nei c14 (k := 3) (by decide); have g4 := nv_nei c16 (k := 4) (by decide); have g5 := nv_nei c19 (k := 5) (by decide); have g6 := nv_nei c20 (k := 6) (by decide); omega) (by decide) ?_
    refine lv_aload_n hx hb dX16_process_174 rfl (lv_at hl 0 rfl) ?_
    refine va_get (D := (dC, dI)) (ci := 17) (v := .ref (a 8)) (C := RX16) (T := TX16) (N := 56) hx hb hts hi_dm_X16_process_X16 hown hK hP 0 rfl rfl 16 (by decide) (hts (.fieldLink RX16 31 "TimeMachineModel$Machine" "calling" "[I") (List.mem_of_getElem? (i := 7) rfl)) (fun _ h9 => h9) rfl dX16_process_175 ?_
    refine lv_iload_n hx hb dX16_process_178 rfl (lv_at hl 1 rfl) ?_
    obtain ⟨i22, h⟩ := nd_ck_e h
    refine va_iald (i := x1) hx hb hK hP 8 7 rfl rfl i22 dX16_process_179 ?_
    exact K _ _ _ _ _ _ dX16_process_180 rfl (Option.some.inj h).symm hP hD hS
  · have h := nd_neg h c5
    refine lv_aload_n hx hb dX16_process_34 rfl (lv_at hl 0 rfl) ?_
    refine va_get (D := (dC, dI)) (ci := 17) (v := .ref (a 18)) (C := RX16) (T := TX16) (N := 56) hx hb hts hi_dm_X16_process_X16 hown hK hP 0 rfl rfl 26 (by decide) (hts (.fieldLink RX16 64 "TimeMachineModel$Machine" "frame" "[I") (List.mem_of_getElem? (i := 8) rfl)) (fun _ h9 => h9) rfl dX16_process_35 ?_
    refine lv_bipush (v := 64) hx hb dX16_process_38 (by decide) ?_
    refine lv_iload_n hx hb dX16_process_40 rfl (lv_at hl 1 rfl) ?_
    refine lv_imul hx hb dX16_process_41 ?_
    refine lv_iload hx hb dX16_process_42 (lv_at hl 4 rfl) ?_
    refine lv_iadd hx hb dX16_process_44 ?_
    obtain ⟨i23, h⟩ := nd_ck_e h
    refine va_iald (i := ((64 * x1) + x4)) hx hb hK hP 18 17 rfl rfl i23 dX16_process_45 ?_
    refine lv_iconst (v := (-1)) hx hb dX16_process_46 (by decide) ?_
    refine lv_icmp_ne (tgt := 54) hx hb dX16_process_47 (by decide) (fun c24 => ?_) (fun c24 => ?_)
    · have h := nd_neg h c24
      refine lv_iload_n hx hb dX16_process_54 rfl (lv_at hl 3 rfl) ?_
      refine lv_iconst (v := 1) hx hb dX16_process_55 (by decide) ?_
      refine lv_iadd hx hb dX16_process_56 ?_
      exact (db_X16_process_57 C K J27) (x1) (x2) (x4) ((x3 + 1)) s0 _ _ _ h hP hD hS (lv_sub hl [0, 1, 2, 4] rfl)
    · have h := nd_pos h c24
      refine lv_iload_n hx hb dX16_process_50 rfl (lv_at hl 3 rfl) ?_
      refine lv_goto (tgt := 57) hx hb dX16_process_51 (by decide) ?_
      exact (db_X16_process_57 C K J27) (x1) (x2) (x4) (x3) s0 _ _ _ h hP hD hS (lv_sub hl [0, 1, 2, 4] rfl)
set_option maxHeartbeats 40000000 in
set_option maxRecDepth 100000 in
theorem db_X16_process_27 {p : Program} {l : Launch} {e : Env} {s : State} {m : MethodId} {args : Array Value} {below : List Frame} {meth : Method} {c : Code} {Q : State → Prop} {A : Nat → Prop} {dC : Nat → ClassId} {dI : Nat → Nat → Nat} {a : Nat → Nat} {ac : Nat → ClassId} {n : Nat} {r : Int32 × (St × (St))} (C : nd_C p l s m args c A (dC, dI) cX16_process 5 RX16 ow_dm_X16_process (dk_X16 ac)) (K : nd_Ki p l e (headSpec ow_dm_X16_process ({ frames := 0, cells := 0, slots := 0, locals := 0 })).room s m args below meth c Q A (dC, dI) cX16_process .int (St × (St)) (dw_X16 a ac) r) (k : Nat) : dj_X16_process_27 p l e s m args below meth c Q A dC dI a ac (df_X16_process_27 n k) r := by
  induction k with
  | zero => intro x1 x2 x3 x4 s0 H locs ls h; exact nomatch (show (none : Option (Int32 × (St × (St)))) = some r from h)
  | succ k ih => exact dB_X16_process_27 C K ih
set_option maxHeartbeats 40000000 in
set_option maxRecDepth 100000 in
theorem db_X16_process_0 {p : Program} {l : Launch} {e : Env} {s : State} {m : MethodId} {args : Array Value} {below : List Frame} {meth : Method} {c : Code} {Q : State → Prop} {A : Nat → Prop} {dC : Nat → ClassId} {dI : Nat → Nat → Nat} {a : Nat → Nat} {ac : Nat → ClassId} {n : Nat} {r : Int32 × (St × (St))} (C : nd_C p l s m args c A (dC, dI) cX16_process 5 RX16 ow_dm_X16_process (dk_X16 ac)) (K : nd_Ki p l e (headSpec ow_dm_X16_process ({ frames := 0, cells := 0, slots := 0, locals := 0 })).room s m args below meth c Q A (dC, dI) cX16_process .int (St × (St)) (dw_X16 a ac) r) : dj_X16_process_0 p l e s m args below meth c Q A dC dI a ac (df_X16_process_0 n) r := by
  obtain ⟨hlt, hx, hb, hml, hown, hts, hN, hA, hK⟩ := id C
  intro v0 v1 s0 H locs ls h hP hD hS hl
  unfold df_X16_process_0 at h
  refine lv_iload_n hx hb dX16_process_0 rfl (lv_at hl 1 rfl) ?_
  refine lv_if_lt (tgt := 20) hx hb dX16_process_1 (by decide) (fun c1 => ?_) (fun c1 => ?_)
  · have h := nd_pos h c1
    exact (db_X16_process_20 C K)  s0 _ _ _ h hP hD hS (lv_sub hl [] rfl)
  · have h := nd_neg h c1
    refine lv_iload_n hx hb dX16_process_4 rfl (lv_at hl 1 rfl) ?_
    refine lv_bipush (v := 15) hx hb dX16_process_5 (by decide) ?_
    refine lv_icmp_gt (tgt := 20) hx hb dX16_process_7 (by decide) (fun c2 => ?_) (fun c2 => ?_)
    · have h := nd_pos h c2
      exact (db_X16_process_20 C K)  s0 _ _ _ h hP hD hS (lv_sub hl [] rfl)
    · have h := nd_neg h c2
      refine lv_iload_n hx hb dX16_process_10 rfl (lv_at hl 2 rfl) ?_
      refine lv_if_lt (tgt := 20) hx hb dX16_process_11 (by decide) (fun c3 => ?_) (fun c3 => ?_)
      · have h := nd_pos h c3
        exact (db_X16_process_20 C K)  s0 _ _ _ h hP hD hS (lv_sub hl [] rfl)
      · have h := nd_neg h c3
        refine lv_iload_n hx hb dX16_process_14 rfl (lv_at hl 2 rfl) ?_
        refine lv_bipush (v := 7) hx hb dX16_process_15 (by decide) ?_
        refine lv_icmp_le (tgt := 22) hx hb dX16_process_17 (by decide) (fun c4 => ?_) (fun c4 => ?_)
        · have h := nd_pos h c4
          refine lv_iconst (v := 0) hx hb dX16_process_22 (by decide) ?_
          refine lv_istore_n (lv' := [(3, .int 0), (0, .ref (a 0)), (1, .int v0), (2, .int v1)]) hx hb dX16_process_23 rfl hl (by decide) rfl (fun ls hl => ?_)
          refine lv_iconst (v := 0) hx hb dX16_process_24 (by decide) ?_
          refine lv_istore (lv' := [(4, .int 0), (3, .int 0), (0, .ref (a 0)), (1, .int v0), (2, .int v1)]) hx hb dX16_process_25 hl (by decide) rfl (fun ls hl => ?_)
          exact (db_X16_process_27 C K n) (v0) (v1) (0) (0) s0 _ _ _ h hP hD hS (lv_sub hl [2, 3, 4, 1, 0] rfl)
        · have h := nd_neg h c4
          exact (db_X16_process_20 C K)  s0 _ _ _ h hP hD hS (lv_sub hl [] rfl)
