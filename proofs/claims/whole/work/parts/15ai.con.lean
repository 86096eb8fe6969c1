set_option maxHeartbeats 40000000 in
set_option maxRecDepth 100000 in
theorem dB_X16_fork_2 {p : Program} {l : Launch} {e : Env} {s : State} {m : MethodId} {args : Array Value} {below : List Frame} {meth : Method} {c : Code} {Q : State → Prop} {A : Nat → Prop} {dC : Nat → ClassId} {dI : Nat → Nat → Nat} {a : Nat → Nat} {ac : Nat → ClassId} {n : Nat} {r : Int32 × (St × (St))} (C : nd_C p l s m args c A (dC, dI) cX16_fork 3 RX16 ow_dm_X16_fork (dk_X16 ac)) (K : nd_Ki p l e (headSpec ow_dm_X16_fork ({ frames := 1, cells := 0, slots := 0, locals := 22 })).room s m args below meth c Q A (dC, dI) cX16_fork .int (St × (St)) (dw_X16 a ac) r) {g2 : Int32 → (St × (St)) → Option (Int32 × (St × (St)))} (J2 : dj_X16_fork_2 p l e s m args below meth c Q A dC dI a ac g2 r) : dj_X16_fork_2 p l e s m args below meth c Q A dC dI a ac (dF_X16_fork_2 n g2) r := by
  obtain ⟨hlt, hx, hb, hml, hown, hts, hN, hA, hK⟩ := id C
  intro x1 s0 H locs ls h hP hD hS hl
  unfold dF_X16_fork_2 at h
  refine lv_iload_n hx hb dX16_fork_2 rfl (lv_at hl 1 rfl) ?_
  refine lv_bipush (v := 16) hx hb dX16_fork_3 (by decide) ?_
  refine lv_icmp_ge (tgt := 23) hx hb dX16_fork_5 (by decide) (fun c1 => ?_) (fun c1 => ?_)
  · have h := nd_pos h c1
    exact (db_X16_fork_23 C K) (x1) s0 _ _ _ h hP hD hS (lv_sub hl [0, 1] rfl)
  · have h := nd_neg h c1
    refine lv_aload_n hx hb dX16_fork_8 rfl (lv_at hl 0 rfl) ?_
    refine va_get (D := (dC, dI)) (ci := 17) (v := .ref (a 2)) (C := RX16) (T := TX16) (N := 56) hx hb hts hi_dm_X16_fork_X16 hown hK hP 0 rfl rfl 10 (by decide) (hts (.fieldLink RX16 13 "TimeMachineModel$Machine" "state" "[I") (List.mem_of_getElem? (i := 5) rfl)) (fun _ h9 => h9) rfl dX16_fork_9 ?_
    refine lv_iload_n hx hb dX16_fork_12 rfl (lv_at hl 1 rfl) ?_
    obtain ⟨i59, h⟩ := nd_ck_e h
    refine va_iald (i := x1) hx hb hK hP 2 1 rfl rfl i59 dX16_fork_13 ?_
    refine lv_if_eq (tgt := 23) hx hb dX16_fork_14 (by decide) (fun c60 => ?_) (fun c60 => ?_)
    · have h := nd_pos h c60
      exact (db_X16_fork_23 C K) (x1) s0 _ _ _ h hP hD hS (lv_sub hl [0, 1] rfl)
    · have h := nd_neg h c60
      obtain ⟨z61, ez61, h⟩ := nd_let_e h
      refine lv_iinc (v := z61) (lv' := [(1, .int z61), (0, .ref (a 0))]) hx hb dX16_fork_17 hl (k := 1) rfl (by rw [ez61]) (by decide) rfl (fun ls hl => ?_)
      refine lv_goto (tgt := 2) hx hb dX16_fork_20 (by decide) ?_
      exact (J2) (z61) s0 _ _ _ h hP hD hS (lv_sub hl [1, 0] rfl)
set_option maxHeartbeats 40000000 in
set_option maxRecDepth 100000 in
theorem db_X16_fork_2 {p : Program} {l : Launch} {e : Env} {s : State} {m : MethodId} {args : Array Value} {below : List Frame} {meth : Method} {c : Code} {Q : State → Prop} {A : Nat → Prop} {dC : Nat → ClassId} {dI : Nat → Nat → Nat} {a : Nat → Nat} {ac : Nat → ClassId} {n : Nat} {r : Int32 × (St × (St))} (C : nd_C p l s m args c A (dC, dI) cX16_fork 3 RX16 ow_dm_X16_fork (dk_X16 ac)) (K : nd_Ki p l e (headSpec ow_dm_X16_fork ({ frames := 1, cells := 0, slots := 0, locals := 22 })).room s m args below meth c Q A (dC, dI) cX16_fork .int (St × (St)) (dw_X16 a ac) r) (k : Nat) : dj_X16_fork_2 p l e s m args below meth c Q A dC dI a ac (df_X16_fork_2 n k) r := by
  induction k with
  | zero => intro x1 s0 H locs ls h; exact nomatch (show (none : Option (Int32 × (St × (St)))) = some r from h)
  | succ k ih => exact dB_X16_fork_2 C K ih
set_option maxHeartbeats 40000000 in
set_option maxRecDepth 100000 in
theorem db_X16_fork_0 {p : Program} {l : Launch} {e : Env} {s : State} {m : MethodId} {args : Array Value} {below : List Frame} {meth : Method} {c : Code} {Q : State → Prop} {A : Nat → Prop} {dC : Nat → ClassId} {dI : Nat → Nat → Nat} {a : Nat → Nat} {ac : Nat → ClassId} {n : Nat} {r : Int32 × (St × (St))} (C : nd_C p l s m args c A (dC, dI) cX16_fork 3 RX16 ow_dm_X16_fork (dk_X16 ac)) (K : nd_Ki p l e (headSpec ow_dm_X16_fork ({ frames := 1, cells := 0, slots := 0, locals := 22 })).room s m args below meth c Q A (dC, dI) cX16_fork .int (St × (St)) (dw_X16 a ac) r) : dj_X16_fork_0 p l e s m args below meth c Q A dC dI a ac (df_X16_fork_0 n) r := by
  obtain ⟨hlt, hx, hb, hml, hown, hts, hN, hA, hK⟩ := id C
  intro s0 H locs ls h hP hD hS hl
  unfold df_X16_fork_0 at h
  refine lv_iconst (v := 0) hx hb dX16_fork_0 (by decide) ?_
  refine lv_istore_n (lv' := [(1, .int 0), (0, .ref (a 0))]) hx hb dX16_fork_1 rfl hl (by decide) rfl (fun ls hl => ?_)
  exact (db_X16_fork_2 C K n) (0) s0 _ _ _ h hP hD hS (lv_sub hl [1, 0] rfl)
set_option maxHeartbeats 40000000 in
set_option maxRecDepth 100000 in
theorem dm_X16_fork (l : Launch) (hlt : l.stackTraces = false) (dC : Nat → ClassId) (dI : Nat → Nat → Nat) (a : Nat → Nat) (ac : Nat → ClassId) (n : Nat) (s0 : St × (St)) {r : Int32 × (St × (St))} (h : df_X16_fork n s0 = some r) (sz : Nat) : Met l yX16_fork ow_dm_X16_fork ({ frames := 1, cells := 0, slots := 0, locals := 22 }) (va_Pc [.ref (a 0)] (fun U => U.heap.size = sz ∧ va_P (dC, dI) vwCl (dw_X16 a ac s0) U.heap ∧ va_K (dC, dI) vwCl (dk_X16 ac) U ∧ va_D (fun _ => True) (dw_X16 a ac s0) ∧ nv_E (va_A (dw_X16 a ac s0) sz) U)) (va_Qi (fun x _ => x = r.1) (fun (_ : Unit) t => va_P (dC, dI) vwCl (dw_X16 a ac r.2) t.heap ∧ va_K (dC, dI) vwCl (dk_X16 ac) t ∧ va_D (va_A (dw_X16 a ac s0) sz) (dw_X16 a ac r.2)) (va_A (dw_X16 a ac s0) sz)) 0 0 (va_A (dw_X16 a ac s0) sz) := by
  refine Met.ofW (cc := cX16_fork) (maxL := 3) (ret := (some .int)) (by decide) rfl ?_
  intro p e s m args below meth c s₁ B hml hv
  obtain ⟨rfl, hsz, hP, hK, hD0, hN⟩ := hv
  have hx := B.exec
  have hb := B.bytes
  have hr := B.returns
  have hts := atoms_spec (ws := ow_dm_X16_fork) B.pre
  have hown : s.vm.findClass RX16 = some m.cls := findClass_of_methodNamed B.named
  have hlocks := B.notSynchronized
  subst hsz
  have hD := hD0.self (sz := s.heap.size)
  generalize hAe : va_A (dw_X16 a ac s0) s.heap.size = A at hD hN ⊢
  have hA : ∀ q : Nat, s.heap.size ≤ q → A q := fun q h => by rw [← hAe]; exact Or.inr h
  have hl := lv_entry ([.ref (a 0)]) (n := 3) (Nat.le_of_ble_eq_true rfl)
  rw [lg_entry_eq]
  generalize (lg_sl ([.ref (a 0)]) ++ List.replicate (3 - (lg_sl ([.ref (a 0)])).length) Slot.unset).toArray = ls at hl ⊢
  have hl : lv_has ls 3 [(0, .ref (a 0))] := hl
  exact db_X16_fork_0 (dC := dC) (dI := dI) (a := a) (ac := ac) (n := n) (r := r) ⟨hlt, hx, hb, hml, hown, hts, hN, hA, hK⟩ (fun pc v τ H locs ls d z er hP hD hS => by subst er; exact W.zret (v := v) hx hb hr z (fun t ht hW => ⟨⟨v, (), rfl, rfl, by rw [ht]; exact hP, va_K.moved hW.alike hK, hD⟩, hS.F ht⟩) hS.2.2 d) s0 _ _ _ h hP hD va_S.rf (lv_sub hl [0] rfl)
def ow_dm_X16_exec : List Cond := .code yX16_exec cX16_exec 3 (some .int) :: ([.fieldLink RX16 118 "TimeMachineModel$Machine" "programs" "LTimeMachineModel$Programs;", .methodLink RX16 475 yX16_pagesOf, .instanceMethod yX16_pagesOf, .selects RX16 yX16_pagesOf yX16_pagesOf, .initialized RX16, .methodLink RX16 397 yX16_hasFrames, .instanceMethod yX16_hasFrames, .selects RX16 yX16_hasFrames yX16_hasFrames, .fieldLink RX16 232 "TimeMachineModel$Machine" "p" "I", .methodLink RX16 255 yX16_leaveAll, .instanceMethod yX16_leaveAll, .selects RX16 yX16_leaveAll yX16_leaveAll, .methodLink RX16 164 yX16_load, .instanceMethod yX16_load, .selects RX16 yX16_load yX16_load, .fieldLink RX16 34 "TimeMachineModel$Machine" "within" "[Z", .fieldLink RX16 38 "TimeMachineModel$Machine" "since" "[J", .constantLong RX16 175 (-1), .fieldLink RX16 135 "TimeMachineModel$Machine" "reserved" "I", .methodLink RX16 415 yX16_tell, .instanceMethod yX16_tell, .selects RX16 yX16_tell yX16_tell, .fieldLink RX16 54 "TimeMachineModel$Machine" "handler" "[I"] ++ (u_ws RX16 TX16 56 ++ (u_ws RX17 TX17 5 ++ (ow_dm_X16_pagesOf ++ (ow_dm_X16_hasFrames ++ (ow_dm_X16_leaveAll ++ (ow_dm_X16_load ++ (ow_dm_X16_tell ++ []))))))))
theorem gd_dm_X16_exec : ∀ w ∈ ow_dm_X16_exec, (w.onTables && w.keeps) = true ∨ ∃ ty, w = Cond.arrayClass ty := List.forall_mem_cons.mpr ⟨good_of_word rfl, List.forall_mem_append.mpr ⟨fun w h => good_of_word (List.all_eq_true.mp (by decide +kernel) w h), List.forall_mem_append.mpr ⟨gu_X16, List.forall_mem_append.mpr ⟨gu_X17, List.forall_mem_append.mpr ⟨gd_dm_X16_pagesOf, List.forall_mem_append.mpr ⟨gd_dm_X16_hasFrames, List.forall_mem_append.mpr ⟨gd_dm_X16_leaveAll, List.forall_mem_append.mpr ⟨gd_dm_X16_load, List.forall_mem_append.mpr ⟨gd_dm_X16_tell, fun _ h => nomatch h⟩⟩⟩⟩⟩⟩⟩⟩⟩
theorem hi_dm_X16_exec_X16 : ∀ w ∈ u_ws RX16 TX16 56, w ∈ ow_dm_X16_exec := fun w h => List.mem_cons_of_mem _ (List.mem_append_right _ (List.mem_append_left _ h))
theorem hi_dm_X16_exec_X17 : ∀ w ∈ u_ws RX17 TX17 5, w ∈ ow_dm_X16_exec := fun w h => List.mem_cons_of_mem _ (List.mem_append_right _ (List.mem_append_right _ (List.mem_append_left _ h)))
theorem gi_dm_X16_exec_0 : GoodIn ow_dm_X16_exec (wsV RX16 475 RX16 yX16_pagesOf ow_dm_X16_pagesOf) := goodIn_app (goodIn_of _ (by decide +kernel)) (fun w h => ⟨List.mem_cons_of_mem _ (List.mem_append_right _ (List.mem_append_right _ (List.mem_append_right _ (List.mem_append_left _ h)))), gd_dm_X16_pagesOf w h⟩)
theorem gi_dm_X16_exec_1 : GoodIn ow_dm_X16_exec (wsV RX16 397 RX16 yX16_hasFrames ow_dm_X16_hasFrames) := goodIn_app (goodIn_of _ (by decide +kernel)) (fun w h => ⟨List.mem_cons_of_mem _ (List.mem_append_right _ (List.mem_append_right _ (List.mem_append_right _ (List.mem_append_right _ (List.mem_append_left _ h))))), gd_dm_X16_hasFrames w h⟩)
theorem gi_dm_X16_exec_2 : GoodIn ow_dm_X16_exec (wsV RX16 255 RX16 yX16_leaveAll ow_dm_X16_leaveAll) := goodIn_app (goodIn_of _ (by decide +kernel)) (fun w h => ⟨List.mem_cons_of_mem _ (List.mem_append_right _ (List.mem_append_right _ (List.mem_append_right _ (List.mem_append_right _ (List.mem_append_right _ (List.mem_append_left _ h)))))), gd_dm_X16_leaveAll w h⟩)
theorem gi_dm_X16_exec_3 : GoodIn ow_dm_X16_exec (wsV RX16 164 RX16 yX16_load ow_dm_X16_load) := goodIn_app (goodIn_of _ (by decide +kernel)) (fun w h => ⟨List.mem_cons_of_mem _ (List.mem_append_right _ (List.mem_append_right _ (List.mem_append_right _ (List.mem_append_right _ (List.mem_append_right _ (List.mem_append_right _ (List.mem_append_left _ h))))))), gd_dm_X16_load w h⟩)
theorem gi_dm_X16_exec_4 : GoodIn ow_dm_X16_exec (wsV RX16 415 RX16 yX16_tell ow_dm_X16_tell) := goodIn_app (goodIn_of _ (by decide +kernel)) (fun w h => ⟨List.mem_cons_of_mem _ (List.mem_append_right _ (List.mem_append_right _ (List.mem_append_right _ (List.mem_append_right _ (List.mem_append_right _ (List.mem_append_right _ (List.mem_append_right _ (List.mem_append_left _ h)))))))), gd_dm_X16_tell w h⟩)
def dj_X16_exec_21 (p : Program) (l : Launch) (e : Env) (s : State) (m : MethodId) (args : Array Value) (below : List Frame) (meth : Method) (c : Code) (Q : State → Prop) (A : Nat → Prop) (dC : Nat → ClassId) (dI : Nat → Nat → Nat) (a : Nat → Nat) (ac : Nat → ClassId) (g : (St × (St)) → Option (Int32 × (St × (St)))) (r : Int32 × (St × (St))) : Prop := ∀ (s0 : St × (St)) (H : Heap) (locs : List Loc) (ls : Array Slot), g s0 = some r → va_P (dC, dI) vwCl (dw_X16 a ac s0) H → va_D A (dw_X16 a ac s0) → va_S A s.heap H locs → lv_has ls 3 [] → W p l e (headSpec ow_dm_X16_exec ({ frames := 3, cells := 0, slots := 0, locals := 70 })).room s m args below meth c H locs 0 0 Q (F0 m 21 ls [])
def dj_X16_exec_58 (p : Program) (l : Launch) (e : Env) (s : State) (m : MethodId) (args : Array Value) (below : List Frame) (meth : Method) (c : Code) (Q : State → Prop) (A : Nat → Prop) (dC : Nat → ClassId) (dI : Nat → Nat → Nat) (a : Nat → Nat) (ac : Nat → ClassId) (g : Int32 → (St × (St)) → Option (Int32 × (St × (St)))) (r : Int32 × (St × (St))) : Prop := ∀ (x2 : Int32) (s0 : St × (St)) (H : Heap) (locs : List Loc) (ls : Array Slot), g x2 s0 = some r → va_P (dC, dI) vwCl (dw_X16 a ac s0) H → va_D A (dw_X16 a ac s0) → va_S A s.heap H locs → lv_has ls 3 [(0, .ref (a 0)), (2, .int x2)] → W p l e (headSpec ow_dm_X16_exec ({ frames := 3, cells := 0, slots := 0, locals := 70 })).room s m args below meth c H locs 0 0 Q (F0 m 58 ls [])
def dj_X16_exec_0 (p : Program) (l : Launch) (e : Env) (s : State) (m : MethodId) (args : Array Value) (below : List Frame) (meth : Method) (c : Code) (Q : State → Prop) (A : Nat → Prop) (dC : Nat → ClassId) (dI : Nat → Nat → Nat) (a : Nat → Nat) (ac : Nat → ClassId) (g : Int32 → (St × (St)) → Option (Int32 × (St × (St)))) (r : Int32 × (St × (St))) : Prop := ∀ (v0 : Int32) (s0 : St × (St)) (H : Heap) (locs : List Loc) (ls : Array Slot), g v0 s0 = some r → va_P (dC, dI) vwCl (dw_X16 a ac s0) H → va_D A (dw_X16 a ac s0) → va_S A s.heap H locs → lv_has ls 3 [(0, .ref (a 0)), (1, .int v0)] → W p l e (headSpec ow_dm_X16_exec ({ frames := 3, cells := 0, slots := 0, locals := 70 })).room s m args below meth c H locs 0 0 Q (F0 m 0 ls [])
set_option maxHeartbeats 40000000 in
set_option maxRecDepth 100000 in
theorem db_X16_exec_21 {p : Program} {l : Launch} {e : Env} {s : State} {m : MethodId} {args : Array Value} {below : List Frame} {meth : Method} {c : Code} {Q : State → Prop} {A : Nat → Prop} {dC : Nat → ClassId} {dI : Nat → Nat → Nat} {a : Nat → Nat} {ac : Nat → ClassId} {n : Nat} {r : Int32 × (St × (St))} (C : nd_C p l s m args c A (dC, dI) cX16_exec 3 RX16 ow_dm_X16_exec (dk_X16 ac)) (K : nd_Ki p l e (headSpec ow_dm_X16_exec ({ frames := 3, cells := 0, slots := 0, locals := 70 })).room s m args below meth c Q A (dC, dI) cX16_exec .int (St × (St)) (dw_X16 a ac) r) : dj_X16_exec_21 p l e s m args below meth c Q A dC dI a ac (df_X16_exec_21 n) r := by
  obtain ⟨hlt, hx, hb, hml, hown, hts, hN, hA, hK⟩ := id C
  intro s0 H locs ls h hP hD hS hl
  unfold df_X16_exec_21 at h
  refine lv_bipush (v := (-2)) hx hb dX16_exec_21 (by decide) ?_
  exact K _ _ _ _ _ _ dX16_exec_23 rfl (Option.some.inj h).symm hP hD hS
set_option maxHeartbeats 40000000 in
set_option maxRecDepth 100000 in
theorem dB_X16_exec_58 {p : Program} {l : Launch} {e : Env} {s : State} {m : MethodId} {args : Array Value} {below : List Frame} {meth : Method} {c : Code} {Q : State → Prop} {A : Nat → Prop} {dC : Nat → ClassId} {dI : Nat → Nat → Nat} {a : Nat → Nat} {ac : Nat → ClassId} {n : Nat} {r : Int32 × (St × (St))} (C : nd_C p l s m args c A (dC, dI) cX16_exec 3 RX16 ow_dm_X16_exec (dk_X16 ac)) (K : nd_Ki p l e (headSpec ow_dm_X16_exec ({ frames := 3, cells := 0, slots := 0, locals := 70 })).room s m args below meth c Q A (dC, dI) cX16_exec .int (St × (St)) (dw_X16 a ac) r) {g58 : Int32 → (St × (St)) → Option (Int32 × (St × (St)))} (J58 : dj_X16_exec_58 p l e s m args below meth c Q A dC dI a ac g58 r) : dj_X16_exec_58 p l e s m args below meth c Q A dC dI a ac (dF_X16_exec_58 n g58) r := by
  obtain ⟨hlt, hx, hb, hml, hown, hts, hN, hA, hK⟩ := id C
  intro x2 s0 H locs ls h hP hD hS hl
  unfold dF_X16_exec_58 at h
  refine lv_iload_n hx hb dX16_exec_58 rfl (lv_at hl 1 rfl) ?_
  refine lv_bipush (v := 16) hx hb dX16_exec_59 (by decide) ?_
  refine lv_icmp_ge (tgt := 85) hx hb dX16_exec_61 (by decide) (fun c18 => ?_) (fun c18 => ?_)
  · have h := nd_pos h c18
    refine lv_aload_n hx hb dX16_exec_85 rfl (lv_at hl 0 rfl) ?_
    refine va_get (D := (dC, dI)) (ci := 17) (v := .ref (a 9)) (C := RX16) (T := TX16) (N := 56) hx hb hts hi_dm_X16_exec_X16 hown hK hP 0 rfl rfl 17 (by decide) (hts (.fieldLink RX16 34 "TimeMachineModel$Machine" "within" "[Z") (List.mem_of_getElem? (i := 16) rfl)) (fun _ h9 => h9) rfl dX16_exec_86 ?_
    refine lv_aload_n hx hb dX16_exec_89 rfl (lv_at hl 0 rfl) ?_
    refine va_get (D := (dC, dI)) (ci := 17) (v := .int (sI s0.1 12)) (C := RX16) (T := TX16) (N := 56) hx hb hts hi_dm_X16_exec_X16 hown hK hP 0 rfl rfl 51 (by decide) (hts (.fieldLink RX16 232 "TimeMachineModel$Machine" "p" "I") (List.mem_of_getElem? (i := 9) rfl)) (fun _ h9 => h9) rfl dX16_exec_90 ?_
    refine lv_iconst (v := 0) hx hb dX16_exec_93 (by decide) ?_
    obtain ⟨i19, h⟩ := nd_ck_e h
    refine va_zast (i := (sI s0.1 12)) (x := 0) hx hb hK hP hD hS 9 8 rfl rfl i19 dX16_exec_94 (fun H locs hP hD hS => ?_)
    obtain ⟨s20, es20, h⟩ := nd_let_e h
    have hP : va_P (dC, dI) vwCl (dw_X16 a ac s20) H := by rw [es20]; exact hP
    have hD : va_D A (dw_X16 a ac s20) := by rw [es20]; exact hD
    refine lv_aload_n hx hb dX16_exec_95 rfl (lv_at hl 0 rfl) ?_
    refine va_get (D := (dC, dI)) (ci := 17) (v := .ref (a 10)) (C := RX16) (T := TX16) (N := 56) hx hb hts hi_dm_X16_exec_X16 hown hK hP 0 rfl rfl 18 (by decide) (hts (.fieldLink RX16 38 "TimeMachineModel$Machine" "since" "[J") (List.mem_of_getElem? (i := 17) rfl)) (fun _ h9 => h9) rfl dX16_exec_96 ?_
    refine lv_aload_n hx hb dX16_exec_99 rfl (lv_at hl 0 rfl) ?_
    refine va_get (D := (dC, dI)) (ci := 17) (v := .int (sI s20.1 12)) (C := RX16) (T := TX16) (N := 56) hx hb hts hi_dm_X16_exec_X16 hown hK hP 0 rfl rfl 51 (by decide) (hts (.fieldLink RX16 232 "TimeMachineModel$Machine" "p" "I") (List.mem_of_getElem? (i := 9) rfl)) (fun _ h9 => h9) rfl dX16_exec_100 ?_
    refine lv_ldc2 hx hb hown (hts (.constantLong RX16 175 (-1)) (List.mem_of_getElem? (i := 18) rfl)) dX16_exec_103 ?_
    obtain ⟨i21, h⟩ := nd_ck_e h
    refine va_last (i := (sI s20.1 12)) (x := (-1)) hx hb hK hP hD hS 10 9 rfl rfl i21 dX16_exec_106 (fun H locs hP hD hS => ?_)
    obtain ⟨s22, es22, h⟩ := nd_let_e h
    have hP : va_P (dC, dI) vwCl (dw_X16 a ac s22) H := by rw [es22]; exact hP
    have hD : va_D A (dw_X16 a ac s22) := by rw [es22]; exact hD
    refine lv_aload_n hx hb dX16_exec_107 rfl (lv_at hl 0 rfl) ?_
    refine lv_iconst (v := (-1)) hx hb dX16_exec_108 (by decide) ?_
    refine va_put (D := (dC, dI)) (ci := 17) (v := .int (-1)) (ty := .int) (C := RX16) (T := TX16) (N := 56) hx hb hts hi_dm_X16_exec_X16 tyX16 tyX16_ok nmX16 hown hK hP hD hS 0 rfl rfl 5 (by decide) (hts (.fieldLink RX16 135 "TimeMachineModel$Machine" "reserved" "I") (List.mem_of_getElem? (i := 19) rfl)) (fun _ h9 => h9) rfl (by decide +kernel) rfl rfl (Nat.le_of_ble_eq_true rfl) dX16_exec_109 (fun H locs hP hD hS => ?_)
    obtain ⟨s23, es23, h⟩ := nd_let_e h
    have hP : va_P (dC, dI) vwCl (dw_X16 a ac s23) H := by rw [es23]; exact hP
    have hD : va_D A (dw_X16 a ac s23) := by rw [es23]; exact hD
    refine lv_aload_n hx hb dX16_exec_112 rfl (lv_at hl 0 rfl) ?_
    refine lv_iconst (v := 2) hx hb dX16_exec_113 (by decide) ?_
    obtain ⟨q24, s25, hq, h⟩ := nd_b2_e h
    have hPc := hP
    have hDc := hD
    have hKc := hK
    have hFc := nd_rs hD hS hA
    refine nd_cVi (As := [.int 2]) (rest := []) (q := q24) (w' := dw_X16 a ac s25) ⟨hx, hb, hml, hown, hts⟩ (fun sz => dm_X16_tell l hlt dC dI a ac n (2) s23 hq sz) (cwV 1 hts gi_dm_X16_exec_4 rfl rfl rfl (by decide +kernel) ⟨Nat.le_of_ble_eq_true rfl, Nat.le_of_ble_eq_true rfl⟩) hPc hDc hKc hS hA hN (va_recv hKc hPc (ci := 17) (q0 := 0) rfl rfl) rfl hl.1 rfl (Nat.le_of_ble_eq_true rfl) dX16_exec_114 (fun H locs hP1 hD1 hk1 hS => ?_)
    have hP := hP1
    have hD := hD1.weaken (fun k q _ h => hFc q.1 h)
    exact K _ _ _ _ _ _ dX16_exec_117 rfl (Option.some.inj h).symm hP hD hS
  · have h := nd_neg h c18
    refine lv_aload_n hx hb dX16_exec_64 rfl (lv_at hl 0 rfl) ?_
    refine va_get (D := (dC, dI)) (ci := 17) (v := .ref (a 15)) (C := RX16) (T := TX16) (N := 56) hx hb hts hi_dm_X16_exec_X16 hown hK hP 0 rfl rfl 23 (by decide) (hts (.fieldLink RX16 54 "TimeMachineModel$Machine" "handler" "[I") (List.mem_of_getElem? (i := 23) rfl)) (fun _ h9 => h9) rfl dX16_exec_65 ?_
    refine lv_bipush (v := 16) hx hb dX16_exec_68 (by decide) ?_
    refine lv_aload_n hx hb dX16_exec_70 rfl (lv_at hl 0 rfl) ?_
    refine va_get (D := (dC, dI)) (ci := 17) (v := .int (sI s0.1 12)) (C := RX16) (T := TX16) (N := 56) hx hb hts hi_dm_X16_exec_X16 hown hK hP 0 rfl rfl 51 (by decide) (hts (.fieldLink RX16 232 "TimeMachineModel$Machine" "p" "I") (List.mem_of_getElem? (i := 9) rfl)) (fun _ h9 => h9) rfl dX16_exec_71 ?_
    refine lv_imul hx hb dX16_exec_74 ?_
    refine lv_iload_n hx hb dX16_exec_75 rfl (lv_at hl 1 rfl) ?_
    refine lv_iadd hx hb dX16_exec_76 ?_
    refine lv_iconst (v := 0) hx hb dX16_exec_77 (by decide) ?_
    obtain ⟨i27, h⟩ := nd_ck_e h
    refine va_iast (i := ((16 * (sI s0.1 12)) + x2)) (x := 0) hx hb hK hP hD hS 15 14 rfl rfl i27 dX16_exec_78 (fun H locs hP hD hS => ?_)
    obtain ⟨s28, es28, h⟩ := nd_let_e h
    have hP : va_P (dC, dI) vwCl (dw_X16 a ac s28) H := by rw [es28]; exact hP
    have hD : va_D A (dw_X16 a ac s28) := by rw [es28]; exact hD
    obtain ⟨z29, ez29, h⟩ := nd_let_e h
    refine lv_iinc (v := z29) (lv' := [(2, .int z29), (0, .ref (a 0))]) hx hb dX16_exec_79 hl (k := 1) rfl (by rw [ez29]) (by decide) rfl (fun ls hl => ?_)
    refine lv_goto (tgt := 58) hx hb dX16_exec_82 (by decide) ?_
    exact (J58) (z29) s28 _ _ _ h hP hD hS (lv_sub hl [1, 0] rfl)
set_option maxHeartbeats 40000000 in
set_option maxRecDepth 100000 in
theorem db_X16_exec_58 {p : Program} {l : Launch} {e : Env} {s : State} {m : MethodId} {args : Array Value} {below : List Frame} {meth : Method} {c : Code} {Q : State → Prop} {A : Nat → Prop} {dC : Nat → ClassId} {dI : Nat → Nat → Nat} {a : Nat → Nat} {ac : Nat → ClassId} {n : Nat} {r : Int32 × (St × (St))} (C : nd_C p l s m args c A (dC, dI) cX16_exec 3 RX16 ow_dm_X16_exec (dk_X16 ac)) (K : nd_Ki p l e (headSpec ow_dm_X16_exec ({ frames := 3, cells := 0, slots := 0, locals := 70 })).room s m args below meth c Q A (dC, dI) cX16_exec .int (St × (St)) (dw_X16 a ac) r) (k : Nat) : dj_X16_exec_58 p l e s m args below meth c Q A dC dI a ac (df_X16_exec_58 n k) r := by
  induction k with
  | zero => intro x2 s0 H locs ls h; exact nomatch (show (none : Option (Int32 × (St × (St)))) = some r from h)
  | succ k ih => exact dB_X16_exec_58 C K ih
set_option maxHeartbeats 40000000 in
set_option maxRecDepth 100000 in
theorem db_X16_exec_0 {p : Program} {l : Launch} {e : Env} {s : State} {m : MethodId} {args : Array Value} {below : List Frame} {meth : Method} {c : Code} {Q : State → Prop} {A : Nat → Prop} {dC : Nat → ClassId} {dI : Nat → Nat → Nat} {a : Nat → Nat} {ac : Nat → ClassId} {n : Nat} {r : Int32 × (St × (St))} (C : nd_C p l s m args c A (dC, dI) cX16_exec 3 RX16 ow_dm_X16_exec (dk_X16 ac)) (K : nd_Ki p l e (headSpec ow_dm_X16_exec ({ frames := 3, cells := 0, slots := 0, locals := 70 })).room s m args below meth c Q A (dC, dI) cX16_exec .int (St × (St)) (dw_X16 a ac) r) : dj_X16_exec_0 p l e s m args below meth c Q A dC dI a ac (df_X16_exec_0 n) r := by
  obtain ⟨hlt, hx, hb, hml, hown, hts, hN, hA, hK⟩ := id C
  intro v0 s0 H locs ls h hP hD hS hl
  unfold df_X16_exec_0 at h
  refine lv_iload_n hx hb dX16_exec_0 rfl (lv_at hl 1 rfl) ?_
  refine lv_if_lt (tgt := 21) hx hb dX16_exec_1 (by decide) (fun c1 => ?_) (fun c1 => ?_)
  · have h := nd_pos h c1
    exact (db_X16_exec_21 C K)  s0 _ _ _ h hP hD hS (lv_sub hl [] rfl)
  · have h := nd_neg h c1
    refine lv_iload_n hx hb dX16_exec_4 rfl (lv_at hl 1 rfl) ?_
    refine lv_iconst (v := 3) hx hb dX16_exec_5 (by decide) ?_
    refine lv_icmp_gt (tgt := 21) hx hb dX16_exec_6 (by decide) (fun c2 => ?_) (fun c2 => ?_)
    · have h := nd_pos h c2
      exact (db_X16_exec_21 C K)  s0 _ _ _ h hP hD hS (lv_sub hl [] rfl)
    · have h := nd_neg h c2
      refine lv_aload_n hx hb dX16_exec_9 rfl (lv_at hl 0 rfl) ?_
      refine va_get (D := (dC, dI)) (ci := 17) (v := .ref (a 36)) (C := RX16) (T := TX16) (N := 56) hx hb hts hi_dm_X16_exec_X16 hown hK hP 0 rfl rfl 0 (by decide) (hts (.fieldLink RX16 118 "TimeMachineModel$Machine" "programs" "LTimeMachineModel$Programs;") (List.mem_of_getElem? (i := 1) rfl)) (fun _ h9 => h9) rfl dX16_exec_10 ?_
      refine va_getN (D := (dC, dI)) (ci := 18) (v := .ref (a 37)) (C := RX17) (T := TX17) (N := 5) hx hb hts hi_dm_X16_exec_X17 hown hK hP 36 rfl rfl 0 (by decide) (va_Nw.use rfl (hN.1 ("TimeMachineModel$Machine", 472, "TimeMachineModel$Programs", "assembled", "[Z", "TimeMachineModel") (by decide))) (fun _ h9 => h9) rfl dX16_exec_13 ?_
      refine lv_iload_n hx hb dX16_exec_16 rfl (lv_at hl 1 rfl) ?_
      obtain ⟨i3, h⟩ := nd_ck_e h
      refine va_zald (i := v0) hx hb hK hP 37 35 rfl rfl i3 dX16_exec_17 ?_
      refine lv_if_ne (tgt := 24) hx hb dX16_exec_18 (by decide) (fun c4 => ?_) (fun c4 => ?_)
      · have h := nd_neg h c4
        refine lv_aload_n hx hb dX16_exec_24 rfl (lv_at hl 0 rfl) ?_
        refine lv_aload_n hx hb dX16_exec_25 rfl (lv_at hl 0 rfl) ?_
        refine lv_iload_n hx hb dX16_exec_26 rfl (lv_at hl 1 rfl) ?_
        obtain ⟨q5, s6, hq, h⟩ := nd_b2_e h
        have hPc := hP
        have hDc := hD
        have hKc := hK
        have hFc := nd_rs hD hS hA
        refine nd_cVi (As := [.int v0]) (rest := [.ref (a 0)]) (q := q5) (w' := dw_X16 a ac s6) ⟨hx, hb, hml, hown, hts⟩ (fun sz => dm_X16_pagesOf l hlt dC dI a ac n (v0) s0 hq sz) (cwV 1 hts gi_dm_X16_exec_0 rfl rfl rfl (by decide +kernel) ⟨Nat.le_of_ble_eq_true rfl, Nat.le_of_ble_eq_true rfl⟩) hPc hDc hKc hS hA hN (va_recv hKc hPc (ci := 17) (q0 := 0) rfl rfl) rfl hl.1 rfl (Nat.le_of_ble_eq_true rfl) dX16_exec_27 (fun H locs hP1 hD1 hk1 hS => ?_)
        have hP := hP1
        have hD := hD1.weaken (fun k q _ h => hFc q.1 h)
        obtain ⟨q8, s9, hq, h⟩ := nd_b2_e h
        have hPc := hP
        have hDc := hD
        have hKc := hK
        have hFc := nd_rs hD hS hA
        refine nd_cVi (As := [.int q5]) (rest := []) (q := q8) (w' := dw_X16 a ac s9) ⟨hx, hb, hml, hown, hts⟩ (fun sz => dm_X16_hasFrames l hlt dC dI a ac n (q5) s6 hq sz) (cwV 1 hts gi_dm_X16_exec_1 rfl rfl rfl (by decide +kernel) ⟨Nat.le_of_ble_eq_true rfl, Nat.le_of_ble_eq_true rfl⟩) hPc hDc hKc hS hA hN (va_recv hKc hPc (ci := 17) (q0 := 0) rfl rfl) rfl hl.1 rfl (Nat.le_of_ble_eq_true rfl) dX16_exec_30 (fun H locs hP1 hD1 hk1 hS => ?_)
        have hP := hP1
        have hD := hD1.weaken (fun k q _ h => hFc q.1 h)
        refine lv_if_ne (tgt := 39) hx hb dX16_exec_33 (by decide) (fun c11 => ?_) (fun c11 => ?_)
        · have h := nd_neg h c11
          refine lv_aload_n hx hb dX16_exec_39 rfl (lv_at hl 0 rfl) ?_
          refine lv_aload_n hx hb dX16_exec_40 rfl (lv_at hl 0 rfl) ?_
          refine va_get (D := (dC, dI)) (ci := 17) (v := .int (sI s9.1 12)) (C := RX16) (T := TX16) (N := 56) hx hb hts hi_dm_X16_exec_X16 hown hK hP 0 rfl rfl 51 (by decide) (hts (.fieldLink RX16 232 "TimeMachineModel$Machine" "p" "I") (List.mem_of_getElem? (i := 9) rfl)) (fun _ h9 => h9) rfl dX16_exec_41 ?_
          obtain ⟨s13, hq, h⟩ := nd_b1_e h
          have hPc := hP
          have hDc := hD
          have hKc := hK
          have hFc := nd_rs hD hS hA
          refine nd_cVv (As := [.int (sI s9.1 12)]) (rest := []) (w' := dw_X16 a ac s13) ⟨hx, hb, hml, hown, hts⟩ (fun sz => dm_X16_leaveAll l hlt dC dI a ac n ((sI s9.1 12)) s9 hq sz) (cwV 1 hts gi_dm_X16_exec_2 rfl rfl rfl (by decide +kernel) ⟨Nat.le_of_ble_eq_true rfl, Nat.le_of_ble_eq_true rfl⟩) hPc hDc hKc hS hA hN (va_recv hKc hPc (ci := 17) (q0 := 0) rfl rfl) rfl hl.1 rfl (Nat.le_of_ble_eq_true rfl) dX16_exec_44 (fun H locs hP1 hD1 hk1 hS => ?_)
          have hP := hP1
          have hD := hD1.weaken (fun k q _ h => hFc q.1 h)
          refine lv_aload_n hx hb dX16_exec_47 rfl (lv_at hl 0 rfl) ?_
          refine lv_aload_n hx hb dX16_exec_48 rfl (lv_at hl 0 rfl) ?_
          refine va_get (D := (dC, dI)) (ci := 17) (v := .int (sI s13.1 12)) (C := RX16) (T := TX16) (N := 56) hx hb hts hi_dm_X16_exec_X16 hown hK hP 0 rfl rfl 51 (by decide) (hts (.fieldLink RX16 232 "TimeMachineModel$Machine" "p" "I") (List.mem_of_getElem? (i := 9) rfl)) (fun _ h9 => h9) rfl dX16_exec_49 ?_
          refine lv_iload_n hx hb dX16_exec_52 rfl (lv_at hl 1 rfl) ?_
          obtain ⟨s16, hq, h⟩ := nd_b1_e h
          have hPc := hP
          have hDc := hD
          have hKc := hK
          have hFc := nd_rs hD hS hA
          refine nd_cVv (As := [.int (sI s13.1 12), .int v0]) (rest := []) (w' := dw_X16 a ac s16) ⟨hx, hb, hml, hown, hts⟩ (fun sz => dm_X16_load l hlt dC dI a ac n ((sI s13.1 12)) (v0) s13 hq sz) (cwV 2 hts gi_dm_X16_exec_3 rfl rfl rfl (by decide +kernel) ⟨Nat.le_of_ble_eq_true rfl, Nat.le_of_ble_eq_true rfl⟩) hPc hDc hKc hS hA hN (va_recv hKc hPc (ci := 17) (q0 := 0) rfl rfl) rfl hl.1 rfl (Nat.le_of_ble_eq_true rfl) dX16_exec_53 (fun H locs hP1 hD1 hk1 hS => ?_)
          have hP := hP1
          have hD := hD1.weaken (fun k q _ h => hFc q.1 h)
          refine lv_iconst (v := 0) hx hb dX16_exec_56 (by decide) ?_
          refine lv_istore_n (lv' := [(2, .int 0), (0, .ref (a 0)), (1, .int v0)]) hx hb dX16_exec_57 rfl hl (by decide) rfl (fun ls hl => ?_)
          exact (db_X16_exec_58 C K n) (0) s16 _ _ _ h hP hD hS (lv_sub hl [1, 0] rfl)
        · have h := nd_pos h c11
          refine lv_bipush (v := (-4)) hx hb dX16_exec_36 (by decide) ?_
          exact K _ _ _ _ _ _ dX16_exec_38 rfl (Option.some.inj h).symm hP hD hS
      · have h := nd_pos h c4
        exact (db_X16_exec_21 C K)  s0 _ _ _ h hP hD hS (lv_sub hl [] rfl)
set_option maxHeartbeats 40000000 in
set_option maxRecDepth 100000 in
theorem dm_X16_exec (l : Launch) (hlt : l.stackTraces = false) (dC : Nat → ClassId) (dI : Nat → Nat → Nat) (a : Nat → Nat) (ac : Nat → ClassId) (n : Nat) (v0 : Int32) (s0 : St × (St)) {r : Int32 × (St × (St))} (h : df_X16_exec n v0 s0 = some r) (sz : Nat) : Met l yX16_exec ow_dm_X16_exec ({ frames := 3, cells := 0, slots := 0, locals := 70 }) (va_Pc [.ref (a 0), .int v0] (fun U => U.heap.size = sz ∧ va_P (dC, dI) vwCl (dw_X16 a ac s0) U.heap ∧ va_K (dC, dI) vwCl (dk_X16 ac) U ∧ va_D (fun _ => True) (dw_X16 a ac s0) ∧ nv_E (va_A (dw_X16 a ac s0) sz) U)) (va_Qi (fun x _ => x = r.1) (fun (_ : Unit) t => va_P (dC, dI) vwCl (dw_X16 a ac r.2) t.heap ∧ va_K (dC, dI) vwCl (dk_X16 ac) t ∧ va_D (va_A (dw_X16 a ac s0) sz) (dw_X16 a ac r.2)) (va_A (dw_X16 a ac s0) sz)) 0 0 (va_A (dw_X16 a ac s0) sz) := by
  refine Met.ofW (cc := cX16_exec) (maxL := 3) (ret := (some .int)) (by decide) rfl ?_
  intro p e s m args below meth c s₁ B hml hv
  obtain ⟨rfl, hsz, hP, hK, hD0, hN⟩ := hv
  have hx := B.exec
  have hb := B.bytes
  have hr := B.returns
  have hts := atoms_spec (ws := ow_dm_X16_exec) B.pre
  have hown : s.vm.findClass RX16 = some m.cls := findClass_of_methodNamed B.named
  have hlocks := B.notSynchronized
  subst hsz
  have hD := hD0.self (sz := s.heap.size)
  generalize hAe : va_A (dw_X16 a ac s0) s.heap.size = A at hD hN ⊢
  have hA : ∀ q : Nat, s.heap.size ≤ q → A q := fun q h => by rw [← hAe]; exact Or.inr h
  have hl := lv_entry ([.ref (a 0), .int v0]) (n := 3) (Nat.le_of_ble_eq_true rfl)
  rw [lg_entry_eq]
  generalize (lg_sl ([.ref (a 0), .int v0]) ++ List.replicate (3 - (lg_sl ([.ref (a 0), .int v0])).length) Slot.unset).toArray = ls at hl ⊢
  have hl : lv_has ls 3 [(0, .ref (a 0)), (1, .int v0)] := hl
  exact db_X16_exec_0 (dC := dC) (dI := dI) (a := a) (ac := ac) (n := n) (r := r) ⟨hlt, hx, hb, hml, hown, hts, hN, hA, hK⟩ (fun pc v τ H locs ls d z er hP hD hS => by subst er; exact W.zret (v := v) hx hb hr z (fun t ht hW => ⟨⟨v, (), rfl, rfl, by rw [ht]; exact hP, va_K.moved hW.alike hK, hD⟩, hS.F ht⟩) hS.2.2 d) v0 s0 _ _ _ h hP hD va_S.rf (lv_sub hl [0, 1] rfl)
def ow_dm_X16_waitFor : List Cond := .code yX16_waitFor cX16_waitFor 3 (some .int) :: ([.fieldLink RX16 232 "TimeMachineModel$Machine" "p" "I", .methodLink RX16 260 yX16_child, .instanceMethod yX16_child, .selects RX16 yX16_child yX16_child, .initialized RX16, .fieldLink RX16 19 "TimeMachineModel$Machine" "ending" "[I", .methodLink RX16 160 yX16_begin, .instanceMethod yX16_begin, .selects RX16 yX16_begin yX16_begin, .methodLink RX16 415 yX16_tell, .instanceMethod yX16_tell, .selects RX16 yX16_tell yX16_tell] ++ (u_ws RX16 TX16 56 ++ (ow_dm_X16_child ++ (ow_dm_X16_begin ++ (ow_dm_X16_tell ++ [])))))
theorem gd_dm_X16_waitFor : ∀ w ∈ ow_dm_X16_waitFor, (w.onTables && w.keeps) = true ∨ ∃ ty, w = Cond.arrayClass ty := List.forall_mem_cons.mpr ⟨good_of_word rfl, List.forall_mem_append.mpr ⟨fun w h => good_of_word (List.all_eq_true.mp (by decide +kernel) w h), List.forall_mem_append.mpr ⟨gu_X16, List.forall_mem_append.mpr ⟨gd_dm_X16_child, List.forall_mem_append.mpr ⟨gd_dm_X16_begin, List.forall_mem_append.mpr ⟨gd_dm_X16_tell, fun _ h => nomatch h⟩⟩⟩⟩⟩⟩
theorem hi_dm_X16_waitFor_X16 : ∀ w ∈ u_ws RX16 TX16 56, w ∈ ow_dm_X16_waitFor := fun w h => List.mem_cons_of_mem _ (List.mem_append_right _ (List.mem_append_left _ h))
theorem gi_dm_X16_waitFor_0 : GoodIn ow_dm_X16_waitFor (wsV RX16 260 RX16 yX16_child ow_dm_X16_child) := goodIn_app (goodIn_of _ (by decide +kernel)) (fun w h => ⟨List.mem_cons_of_mem _ (List.mem_append_right _ (List.mem_append_right _ (List.mem_append_left _ h))), gd_dm_X16_child w h⟩)
theorem gi_dm_X16_waitFor_1 : GoodIn ow_dm_X16_waitFor (wsV RX16 160 RX16 yX16_begin ow_dm_X16_begin) := goodIn_app (goodIn_of _ (by decide +kernel)) (fun w h => ⟨List.mem_cons_of_mem _ (List.mem_append_right _ (List.mem_append_right _ (List.mem_append_right _ (List.mem_append_left _ h)))), gd_dm_X16_begin w h⟩)
theorem gi_dm_X16_waitFor_2 : GoodIn ow_dm_X16_waitFor (wsV RX16 415 RX16 yX16_tell ow_dm_X16_tell) := goodIn_app (goodIn_of _ (by decide +kernel)) (fun w h => ⟨List.mem_cons_of_mem _ (List.mem_append_right _ (List.mem_append_right _ (List.mem_append_right _ (List.mem_append_right _ (List.mem_append_left _ h))))), gd_dm_X16_tell w h⟩)
def dj_X16_waitFor_0 (p : Program) (l : Launch) (e : Env) (s : State) (m : MethodId) (args : Array Value) (below : List Frame) (meth : Method) (c : Code) (Q : State → Prop) (A : Nat → Prop) (dC : Nat → ClassId) (dI : Nat → Nat → Nat) (a : Nat → Nat) (ac : Nat → ClassId) (g : (St × (St)) → Option (Int32 × (St × (St)))) (r : Int32 × (St × (St))) : Prop := ∀ (s0 : St × (St)) (H : Heap) (locs : List Loc) (ls : Array Slot), g s0 = some r → va_P (dC, dI) vwCl (dw_X16 a ac s0) H → va_D A (dw_X16 a ac s0) → va_S A s.heap H locs → lv_has ls 3 [(0, .ref (a 0))] → W p l e (headSpec ow_dm_X16_waitFor ({ frames := 1, cells := 0, slots := 0, locals := 23 })).room s m args below meth c H locs 0 0 Q (F0 m 0 ls [])
set_option maxHeartbeats 40000000 in
set_option maxRecDepth 100000 in
theorem db_X16_waitFor_0 {p : Program} {l : Launch} {e : Env} {s : State} {m : MethodId} {args : Array Value} {below : List Frame} {meth : Method} {c : Code} {Q : State → Prop} {A : Nat → Prop} {dC : Nat → ClassId} {dI : Nat → Nat → Nat} {a : Nat → Nat} {ac : Nat → ClassId} {n : Nat} {r : Int32 × (St × (St))} (C : nd_C p l s m args c A (dC, dI) cX16_waitFor 3 RX16 ow_dm_X16_waitFor (dk_X16 ac)) (K : nd_Ki p l e (headSpec ow_dm_X16_waitFor ({ frames := 1, cells := 0, slots := 0, locals := 23 })).room s m args below meth c Q A (dC, dI) cX16_waitFor .int (St × (St)) (dw_X16 a ac) r) : dj_X16_waitFor_0 p l e s m args below meth c Q A dC dI a ac (df_X16_waitFor_0 n) r := by
  obtain ⟨hlt, hx, hb, hml, hown, hts, hN, hA, hK⟩ := id C
  intro s0 H locs ls h hP hD hS hl
  unfold df_X16_waitFor_0 at h
  refine lv_aload_n hx hb dX16_waitFor_0 rfl (lv_at hl 0 rfl) ?_
  refine lv_aload_n hx hb dX16_waitFor_1 rfl (lv_at hl 0 rfl) ?_
  refine va_get (D := (dC, dI)) (ci := 17) (v := .int (sI s0.1 12)) (C := RX16) (T := TX16) (N := 56) hx hb hts hi_dm_X16_waitFor_X16 hown hK hP 0 rfl rfl 51 (by decide) (hts (.fieldLink RX16 232 "TimeMachineModel$Machine" "p" "I") (List.mem_of_getElem? (i := 1) rfl)) (fun _ h9 => h9) rfl dX16_waitFor_2 ?_
  refine lv_iconst (v := 0) hx hb dX16_waitFor_5 (by decide) ?_
  obtain ⟨q1, s2, hq, h⟩ := nd_b2_e h
  have hPc := hP
  have hDc := hD
  have hKc := hK
  have hFc := nd_rs hD hS hA
  refine nd_cVi (As := [.int (sI s0.1 12), .int 0]) (rest := []) (q := q1) (w' := dw_X16 a ac s2) ⟨hx, hb, hml, hown, hts⟩ (fun sz => dm_X16_child l hlt dC dI a ac n ((sI s0.1 12)) (0) s0 hq sz) (cwV 2 hts gi_dm_X16_waitFor_0 rfl rfl rfl (by decide +kernel) ⟨Nat.le_of_ble_eq_true rfl, Nat.le_of_ble_eq_true rfl⟩) hPc hDc hKc hS hA hN (va_recv hKc hPc (ci := 17) (q0 := 0) rfl rfl) rfl hl.1 rfl (Nat.le_of_ble_eq_true rfl) dX16_waitFor_6 (fun H locs hP1 hD1 hk1 hS => ?_)
  have hP := hP1
  have hD := hD1.weaken (fun k q _ h => hFc q.1 h)
  refine lv_iconst (v := (-1)) hx hb dX16_waitFor_9 (by decide) ?_
  refine lv_icmp_ne (tgt := 16) hx hb dX16_waitFor_10 (by decide) (fun c4 => ?_) (fun c4 => ?_)
  · have h := nd_neg h c4
    refine lv_aload_n hx hb dX16_waitFor_16 rfl (lv_at hl 0 rfl) ?_
    refine lv_aload_n hx hb dX16_waitFor_17 rfl (lv_at hl 0 rfl) ?_
    refine va_get (D := (dC, dI)) (ci := 17) (v := .int (sI s2.1 12)) (C := RX16) (T := TX16) (N := 56) hx hb hts hi_dm_X16_waitFor_X16 hown hK hP 0 rfl rfl 51 (by decide) (hts (.fieldLink RX16 232 "TimeMachineModel$Machine" "p" "I") (List.mem_of_getElem? (i := 1) rfl)) (fun _ h9 => h9) rfl dX16_waitFor_18 ?_
    refine lv_iconst (v := 1) hx hb dX16_waitFor_21 (by decide) ?_
    obtain ⟨q5, s6, hq, h⟩ := nd_b2_e h
    have hPc := hP
    have hDc := hD
    have hKc := hK
    have hFc := nd_rs hD hS hA
    refine nd_cVi (As := [.int (sI s2.1 12), .int 1]) (rest := []) (q := q5) (w' := dw_X16 a ac s6) ⟨hx, hb, hml, hown, hts⟩ (fun sz => dm_X16_child l hlt dC dI a ac n ((sI s2.1 12)) (1) s2 hq sz) (cwV 2 hts gi_dm_X16_waitFor_0 rfl rfl rfl (by decide +kernel) ⟨Nat.le_of_ble_eq_true rfl, Nat.le_of_ble_eq_true rfl⟩) hPc hDc hKc hS hA hN (va_recv hKc hPc (ci := 17) (q0 := 0) rfl rfl) rfl hl.1 rfl (Nat.le_of_ble_eq_true rfl) dX16_waitFor_22 (fun H locs hP1 hD1 hk1 hS => ?_)
    have hP := hP1
    have hD := hD1.weaken (fun k q _ h => hFc q.1 h)
    refine lv_istore_n (lv' := [(1, .int q5), (0, .ref (a 0))]) hx hb dX16_waitFor_25 rfl hl (by decide) rfl (fun ls hl => ?_)
    refine lv_iload_n hx hb dX16_waitFor_26 rfl (lv_at hl 0 rfl) ?_
    refine lv_iconst (v := (-1)) hx hb dX16_waitFor_27 (by decide) ?_
    refine lv_icmp_ne (tgt := 37) hx hb dX16_waitFor_28 (by decide) (fun c8 => ?_) (fun c8 => ?_)
    · have h := nd_neg h c8
      refine lv_aload_n hx hb dX16_waitFor_37 rfl (lv_at hl 1 rfl) ?_
      refine va_get (D := (dC, dI)) (ci := 17) (v := .ref (a 4)) (C := RX16) (T := TX16) (N := 56) hx hb hts hi_dm_X16_waitFor_X16 hown hK hP 0 rfl rfl 12 (by decide) (hts (.fieldLink RX16 19 "TimeMachineModel$Machine" "ending" "[I") (List.mem_of_getElem? (i := 6) rfl)) (fun _ h9 => h9) rfl dX16_waitFor_38 ?_
      refine lv_iload_n hx hb dX16_waitFor_41 rfl (lv_at hl 0 rfl) ?_
      obtain ⟨i9, h⟩ := nd_ck_e h
      refine va_iald (i := q5) hx hb hK hP 4 3 rfl rfl i9 dX16_waitFor_42 ?_
      refine lv_topi (fun z10 ez10 => ?_)
      have h := nd_at h ez10
      refine lv_istore_n (lv' := [(2, .int z10), (1, .int q5), (0, .ref (a 0))]) hx hb dX16_waitFor_43 rfl hl (by decide) rfl (fun ls hl => ?_)
      refine lv_aload_n hx hb dX16_waitFor_44 rfl (lv_at hl 2 rfl) ?_
      refine lv_iload_n hx hb dX16_waitFor_45 rfl (lv_at hl 1 rfl) ?_
      obtain ⟨s12, hq, h⟩ := nd_b1_e h
      have hPc := hP
      have hDc := hD
      have hKc := hK
      have hFc := nd_rs hD hS hA
      refine nd_cVv (As := [.int q5]) (rest := []) (w' := dw_X16 a ac s12) ⟨hx, hb, hml, hown, hts⟩ (fun sz => dm_X16_begin l hlt dC dI a ac n (q5) s6 hq sz) (cwV 1 hts gi_dm_X16_waitFor_1 rfl rfl rfl (by decide +kernel) ⟨Nat.le_of_ble_eq_true rfl, Nat.le_of_ble_eq_true rfl⟩) hPc hDc hKc hS hA hN (va_recv hKc hPc (ci := 17) (q0 := 0) rfl rfl) rfl hl.1 rfl (Nat.le_of_ble_eq_true rfl) dX16_waitFor_46 (fun H locs hP1 hD1 hk1 hS => ?_)
      have hP := hP1
      have hD := hD1.weaken (fun k q _ h => hFc q.1 h)
      refine lv_iload_n hx hb dX16_waitFor_49 rfl (lv_at hl 1 rfl) ?_
      refine lv_sipush (v := 256) hx hb dX16_waitFor_50 (by decide) ?_
      refine lv_iload_n hx hb dX16_waitFor_53 rfl (lv_at hl 0 rfl) ?_
      refine lv_imul hx hb dX16_waitFor_54 ?_
      refine lv_iadd hx hb dX16_waitFor_55 ?_
      exact K _ _ _ _ _ _ dX16_waitFor_56 rfl (Option.some.inj h).symm hP hD hS
    · have h := nd_pos h c8
      refine lv_aload_n hx hb dX16_waitFor_31 rfl (lv_at hl 1 rfl) ?_
      refine lv_iconst (v := 1) hx hb dX16_waitFor_32 (by decide) ?_
      obtain ⟨q14, s15, hq, h⟩ := nd_b2_e h
      have hPc := hP
      have hDc := hD
      have hKc := hK
      have hFc := nd_rs hD hS hA
      refine nd_cVi (As := [.int 1]) (rest := []) (q := q14) (w' := dw_X16 a ac s15) ⟨hx, hb, hml, hown, hts⟩ (fun sz => dm_X16_tell l hlt dC dI a ac n (1) s6 hq sz) (cwV 1 hts gi_dm_X16_waitFor_2 rfl rfl rfl (by decide +kernel) ⟨Nat.le_of_ble_eq_true rfl, Nat.le_of_ble_eq_true rfl⟩) hPc hDc hKc hS hA hN (va_recv hKc hPc (ci := 17) (q0 := 0) rfl rfl) rfl hl.1 rfl (Nat.le_of_ble_eq_true rfl) dX16_waitFor_33 (fun H locs hP1 hD1 hk1 hS => ?_)
      have hP := hP1
      have hD := hD1.weaken (fun k q _ h => hFc q.1 h)
      exact K _ _ _ _ _ _ dX16_waitFor_36 rfl (Option.some.inj h).symm hP hD hS
  · have h := nd_pos h c4
    refine lv_bipush (v := (-10)) hx hb dX16_waitFor_13 (by decide) ?_
    exact K _ _ _ _ _ _ dX16_waitFor_15 rfl (Option.some.inj h).symm hP hD hS
set_option maxHeartbeats 40000000 in
set_option maxRecDepth 100000 in
theorem dm_X16_waitFor (l : Launch) (hlt : l.stackTraces = false) (dC : Nat → ClassId) (dI : Nat → Nat → Nat) (a : Nat → Nat) (ac : Nat → ClassId) (n : Nat) (s0 : St × (St)) {r : Int32 × (St × (St))} (h : df_X16_waitFor n s0 = some r) (sz : Nat) : Met l yX16_waitFor ow_dm_X16_waitFor ({ frames := 1, cells := 0, slots := 0, locals := 23 }) (va_Pc [.ref (a 0)] (fun U => U.heap.size = sz ∧ va_P (dC, dI) vwCl (dw_X16 a ac s0) U.heap ∧ va_K (dC, dI) vwCl (dk_X16 ac) U ∧ va_D (fun _ => True) (dw_X16 a ac s0) ∧ nv_E (va_A (dw_X16 a ac s0) sz) U)) (va_Qi (fun x _ => x = r.1) (fun (_ : Unit) t => va_P (dC, dI) vwCl (dw_X16 a ac r.2) t.heap ∧ va_K (dC, dI) vwCl (dk_X16 ac) t ∧ va_D (va_A (dw_X16 a ac s0) sz) (dw_X16 a ac r.2)) (va_A (dw_X16 a ac s0) sz)) 0 0 (va_A (dw_X16 a ac s0) sz) := by
  refine Met.ofW (cc := cX16_waitFor) (maxL := 3) (ret := (some .int)) (by decide) rfl ?_
  intro p e s m args below meth c s₁ B hml hv
  obtain ⟨rfl, hsz, hP, hK, hD0, hN⟩ := hv
  have hx := B.exec
  have hb := B.bytes
  have hr := B.returns
  have hts := atoms_spec (ws := ow_dm_X16_waitFor) B.pre
  have hown : s.vm.findClass RX16 = some m.cls := findClass_of_methodNamed B.named
  have hlocks := B.notSynchronized
  subst hsz
  have hD := hD0.self (sz := s.heap.size)
  generalize hAe : va_A (dw_X16 a ac s0) s.heap.size = A at hD hN ⊢
  have hA : ∀ q : Nat, s.heap.size ≤ q → A q := fun q h => by rw [← hAe]; exact Or.inr h
  have hl := lv_entry ([.ref (a 0)]) (n := 3) (Nat.le_of_ble_eq_true rfl)
  rw [lg_entry_eq]
  generalize (lg_sl ([.ref (a 0)]) ++ List.replicate (3 - (lg_sl ([.ref (a 0)])).length) Slot.unset).toArray = ls at hl ⊢
  have hl : lv_has ls 3 [(0, .ref (a 0))] := hl
  exact db_X16_waitFor_0 (dC := dC) (dI := dI) (a := a) (ac := ac) (n := n) (r := r) ⟨hlt, hx, hb, hml, hown, hts, hN, hA, hK⟩ (fun pc v τ H locs ls d z er hP hD hS => by subst er; exact W.zret (v := v) hx hb hr z (fun t ht hW => ⟨⟨v, (), rfl, rfl, by rw [ht]; exact hP, va_K.moved hW.alike hK, hD⟩, hS.F ht⟩) hS.2.2 d) s0 _ _ _ h hP hD va_S.rf (lv_sub hl [0] rfl)
def ow_dm_X16_pipe : List Cond := .code yX16_pipe cX16_pipe 6 (some .int) :: ([.fieldLink RX16 232 "TimeMachineModel$Machine" "p" "I", .methodLink RX16 478 yX16_mayAll, .instanceMethod yX16_mayAll, .selects RX16 yX16_mayAll yX16_mayAll, .initialized RX16, .methodLink RX16 482 yX16_freeDescriptors, .instanceMethod yX16_freeDescriptors, .selects RX16 yX16_freeDescriptors yX16_freeDescriptors, .methodLink RX16 485 yX16_openings, .instanceMethod yX16_openings, .selects RX16 yX16_openings yX16_openings, .methodLink RX16 394 yX16_wanted, .instanceMethod yX16_wanted, .selects RX16 yX16_wanted yX16_wanted, .methodLink RX16 397 yX16_hasFrames, .instanceMethod yX16_hasFrames, .selects RX16 yX16_hasFrames yX16_hasFrames, .fieldLink RX16 85 "TimeMachineModel$Machine" "isPipe" "[Z", .fieldLink RX16 94 "TimeMachineModel$Machine" "piped" "[I", .methodLink RX16 168 yX16_opening, .instanceMethod yX16_opening, .selects RX16 yX16_opening yX16_opening, .methodLink RX16 488 yX16_give, .instanceMethod yX16_give, .selects RX16 yX16_give yX16_give, .methodLink RX16 400 yX16_write, .instanceMethod yX16_write, .selects RX16 yX16_write yX16_write, .methodLink RX16 415 yX16_tell, .instanceMethod yX16_tell, .selects RX16 yX16_tell yX16_tell] ++ (u_ws RX16 TX16 56 ++ (ow_dm_X16_mayAll ++ (ow_dm_X16_freeDescriptors ++ (ow_dm_X16_openings ++ (ow_dm_X16_wanted ++ (ow_dm_X16_hasFrames ++ (ow_dm_X16_opening ++ (ow_dm_X16_give ++ (ow_dm_X16_write ++ (ow_dm_X16_tell ++ [])))))))))))
theorem gd_dm_X16_pipe : ∀ w ∈ ow_dm_X16_pipe, (w.onTables && w.keeps) = true ∨ ∃ ty, w = Cond.arrayClass ty := List.forall_mem_cons.mpr ⟨good_of_word rfl, List.forall_mem_append.mpr ⟨fun w h => good_of_word (List.all_eq_true.mp (by decide +kernel) w h), List.forall_mem_append.mpr ⟨gu_X16, List.forall_mem_append.mpr ⟨gd_dm_X16_mayAll, List.forall_mem_append.mpr ⟨gd_dm_X16_freeDescriptors, List.forall_mem_append.mpr ⟨gd_dm_X16_openings, List.forall_mem_append.mpr ⟨gd_dm_X16_wanted, List.forall_mem_append.mpr ⟨gd_dm_X16_hasFrames, List.forall_mem_append.mpr ⟨gd_dm_X16_opening, List.forall_mem_append.mpr ⟨gd_dm_X16_give, List.forall_mem_append.mpr ⟨gd_dm_X16_write, List.forall_mem_append.mpr ⟨gd_dm_X16_tell, fun _ h => nomatch h⟩⟩⟩⟩⟩⟩⟩⟩⟩⟩⟩⟩
theorem hi_dm_X16_pipe_X16 : ∀ w ∈ u_ws RX16 TX16 56, w ∈ ow_dm_X16_pipe := fun w h => List.mem_cons_of_mem _ (List.mem_append_right _ (List.mem_append_left _ h))
theorem gi_dm_X16_pipe_0 : GoodIn ow_dm_X16_pipe (wsV RX16 478 RX16 yX16_mayAll ow_dm_X16_mayAll) := goodIn_app (goodIn_of _ (by decide +kernel)) (fun w h => ⟨List.mem_cons_of_mem _ (List.mem_append_right _ (List.mem_append_right _ (List.mem_append_left _ h))), gd_dm_X16_mayAll w h⟩)
theorem gi_dm_X16_pipe_1 : GoodIn ow_dm_X16_pipe (wsV RX16 482 RX16 yX16_freeDescriptors ow_dm_X16_freeDescriptors) := goodIn_app (goodIn_of _ (by decide +kernel)) (fun w h => ⟨List.mem_cons_of_mem _ (List.mem_append_right _ (List.mem_append_right _ (List.mem_append_right _ (List.mem_append_left _ h)))), gd_dm_X16_freeDescriptors w h⟩)
theorem gi_dm_X16_pipe_2 : GoodIn ow_dm_X16_pipe (wsV RX16 485 RX16 yX16_openings ow_dm_X16_openings) := goodIn_app (goodIn_of _ (by decide +kernel)) (fun w h => ⟨List.mem_cons_of_mem _ (List.mem_append_right _ (List.mem_append_right _ (List.mem_append_right _ (List.mem_append_right _ (List.mem_append_left _ h))))), gd_dm_X16_openings w h⟩)
theorem gi_dm_X16_pipe_3 : GoodIn ow_dm_X16_pipe (wsV RX16 394 RX16 yX16_wanted ow_dm_X16_wanted) := goodIn_app (goodIn_of _ (by decide +kernel)) (fun w h => ⟨List.mem_cons_of_mem _ (List.mem_append_right _ (List.mem_append_right _ (List.mem_append_right _ (List.mem_append_right _ (List.mem_append_right _ (List.mem_append_left _ h)))))), gd_dm_X16_wanted w h⟩)
theorem gi_dm_X16_pipe_4 : GoodIn ow_dm_X16_pipe (wsV RX16 397 RX16 yX16_hasFrames ow_dm_X16_hasFrames) := goodIn_app (goodIn_of _ (by decide +kernel)) (fun w h => ⟨List.mem_cons_of_mem _ (List.mem_append_right _ (List.mem_append_right _ (List.mem_append_right _ (List.mem_append_right _ (List.mem_append_right _ (List.mem_append_right _ (List.mem_append_left _ h))))))), gd_dm_X16_hasFrames w h⟩)
theorem gi_dm_X16_pipe_5 : GoodIn ow_dm_X16_pipe (wsV RX16 168 RX16 yX16_opening ow_dm_X16_opening) := goodIn_app (goodIn_of _ (by decide +kernel)) (fun w h => ⟨List.mem_cons_of_mem _ (List.mem_append_right _ (List.mem_append_right _ (List.mem_append_right _ (List.mem_append_right _ (List.mem_append_right _ (List.mem_append_right _ (List.mem_append_right _ (List.mem_append_left _ h)))))))), gd_dm_X16_opening w h⟩)
theorem gi_dm_X16_pipe_6 : GoodIn ow_dm_X16_pipe (wsV RX16 488 RX16 yX16_give ow_dm_X16_give) := goodIn_app (goodIn_of _ (by decide +kernel)) (fun w h => ⟨List.mem_cons_of_mem _ (List.mem_append_right _ (List.mem_append_right _ (List.mem_append_right _ (List.mem_append_right _ (List.mem_append_right _ (List.mem_append_right _ (List.mem_append_right _ (List.mem_append_right _ (List.mem_append_left _ h))))))))), gd_dm_X16_give w h⟩)
theorem gi_dm_X16_pipe_7 : GoodIn ow_dm_X16_pipe (wsV RX16 400 RX16 yX16_write ow_dm_X16_write) := goodIn_app (goodIn_of _ (by decide +kernel)) (fun w h => ⟨List.mem_cons_of_mem _ (List.mem_append_right _ (List.mem_append_right _ (List.mem_append_right _ (List.mem_append_right _ (List.mem_append_right _ (List.mem_append_right _ (List.mem_append_right _ (List.mem_append_right _ (List.mem_append_right _ (List.mem_append_left _ h)))))))))), gd_dm_X16_write w h⟩)
theorem gi_dm_X16_pipe_8 : GoodIn ow_dm_X16_pipe (wsV RX16 415 RX16 yX16_tell ow_dm_X16_tell) := goodIn_app (goodIn_of _ (by decide +kernel)) (fun w h => ⟨List.mem_cons_of_mem _ (List.mem_append_right _ (List.mem_append_right _ (List.mem_append_right _ (List.mem_append_right _ (List.mem_append_right _ (List.mem_append_right _ (List.mem_append_right _ (List.mem_append_right _ (List.mem_append_right _ (List.mem_append_right _ (List.mem_append_left _ h))))))))))), gd_dm_X16_tell w h⟩)
def dj_X16_pipe_73 (p : Program) (l : Launch) (e : Env) (s : State) (m : MethodId) (args : Array Value) (below : List Frame) (meth : Method) (c : Code) (Q : State → Prop) (A : Nat → Prop) (dC : Nat → ClassId) (dI : Nat → Nat → Nat) (a : Nat → Nat) (ac : Nat → ClassId) (g : (St × (St)) → Option (Int32 × (St × (St)))) (r : Int32 × (St × (St))) : Prop := ∀ (s0 : St × (St)) (H : Heap) (locs : List Loc) (ls : Array Slot), g s0 = some r → va_P (dC, dI) vwCl (dw_X16 a ac s0) H → va_D A (dw_X16 a ac s0) → va_S A s.heap H locs → lv_has ls 6 [] → W p l e (headSpec ow_dm_X16_pipe ({ frames := 3, cells := 0, slots := 0, locals := 71 })).room s m args below meth c H locs 0 0 Q (F0 m 73 ls [])
def dj_X16_pipe_170 (p : Program) (l : Launch) (e : Env) (s : State) (m : MethodId) (args : Array Value) (below : List Frame) (meth : Method) (c : Code) (Q : State → Prop) (A : Nat → Prop) (dC : Nat → ClassId) (dI : Nat → Nat → Nat) (a : Nat → Nat) (ac : Nat → ClassId) (g : Int32 → Int32 → Int32 → Int32 → Int32 → Int32 → Int32 → (St × (St)) → Option (Int32 × (St × (St)))) (r : Int32 × (St × (St))) : Prop := ∀ (x1 : Int32) (x3 : Int32) (x4 : Int32) (x5 : Int32) (y1 : Int32) (y2 : Int32) (y3 : Int32) (s0 : St × (St)) (H : Heap) (locs : List Loc) (ls : Array Slot), g x1 x3 x4 x5 y1 y2 y3 s0 = some r → va_P (dC, dI) vwCl (dw_X16 a ac s0) H → va_D A (dw_X16 a ac s0) → va_S A s.heap H locs → lv_has ls 6 [(0, .ref (a 0)), (1, .int x1), (3, .int x3), (4, .int x4), (5, .int x5)] → W p l e (headSpec ow_dm_X16_pipe ({ frames := 3, cells := 0, slots := 0, locals := 71 })).room s m args below meth c H locs 0 0 Q (F0 m 170 ls [.int y3, .int y2, .int y1, .ref (a 0)])
def dj_X16_pipe_142 (p : Program) (l : Launch) (e : Env) (s : State) (m : MethodId) (args : Array Value) (below : List Frame) (meth : Method) (c : Code) (Q : State → Prop) (A : Nat → Prop) (dC : Nat → ClassId) (dI : Nat → Nat → Nat) (a : Nat → Nat) (ac : Nat → ClassId) (g : Int32 → Int32 → Int32 → Int32 → (St × (St)) → Option (Int32 × (St × (St)))) (r : Int32 × (St × (St))) : Prop := ∀ (x1 : Int32) (x3 : Int32) (x4 : Int32) (x5 : Int32) (s0 : St × (St)) (H : Heap) (locs : List Loc) (ls : Array Slot), g x1 x3 x4 x5 s0 = some r → va_P (dC, dI) vwCl (dw_X16 a ac s0) H → va_D A (dw_X16 a ac s0) → va_S A s.heap H locs → lv_has ls 6 [(0, .ref (a 0)), (1, .int x1), (3, .int x3), (4, .int x4), (5, .int x5)] → W p l e (headSpec ow_dm_X16_pipe ({ frames := 3, cells := 0, slots := 0, locals := 71 })).room s m args below meth c H locs 0 0 Q (F0 m 142 ls [])
def dj_X16_pipe_50 (p : Program) (l : Launch) (e : Env) (s : State) (m : MethodId) (args : Array Value) (below : List Frame) (meth : Method) (c : Code) (Q : State → Prop) (A : Nat → Prop) (dC : Nat → ClassId) (dI : Nat → Nat → Nat) (a : Nat → Nat) (ac : Nat → ClassId) (g : Int32 → Int32 → (St × (St)) → Option (Int32 × (St × (St)))) (r : Int32 × (St × (St))) : Prop := ∀ (x1 : Int32) (x2 : Int32) (s0 : St × (St)) (H : Heap) (locs : List Loc) (ls : Array Slot), g x1 x2 s0 = some r → va_P (dC, dI) vwCl (dw_X16 a ac s0) H → va_D A (dw_X16 a ac s0) → va_S A s.heap H locs → lv_has ls 6 [(0, .ref (a 0)), (1, .int x1), (2, .int x2)] → W p l e (headSpec ow_dm_X16_pipe ({ frames := 3, cells := 0, slots := 0, locals := 71 })).room s m args below meth c H locs 0 0 Q (F0 m 50 ls [])
def dj_X16_pipe_29 (p : Program) (l : Launch) (e : Env) (s : State) (m : MethodId) (args : Array Value) (below : List Frame) (meth : Method) (c : Code) (Q : State → Prop) (A : Nat → Prop) (dC : Nat → ClassId) (dI : Nat → Nat → Nat) (a : Nat → Nat) (ac : Nat → ClassId) (g : Int32 → Int32 → (St × (St)) → Option (Int32 × (St × (St)))) (r : Int32 × (St × (St))) : Prop := ∀ (x1 : Int32) (x2 : Int32) (s0 : St × (St)) (H : Heap) (locs : List Loc) (ls : Array Slot), g x1 x2 s0 = some r → va_P (dC, dI) vwCl (dw_X16 a ac s0) H → va_D A (dw_X16 a ac s0) → va_S A s.heap H locs → lv_has ls 6 [(0, .ref (a 0)), (1, .int x1), (2, .int x2)] → W p l e (headSpec ow_dm_X16_pipe ({ frames := 3, cells := 0, slots := 0, locals := 71 })).room s m args below meth c H locs 0 0 Q (F0 m 29 ls [])
def dj_X16_pipe_0 (p : Program) (l : Launch) (e : Env) (s : State) (m : MethodId) (args : Array Value) (below : List Frame) (meth : Method) (c : Code) (Q : State → Prop) (A : Nat → Prop) (dC : Nat → ClassId) (dI : Nat → Nat → Nat) (a : Nat → Nat) (ac : Nat → ClassId) (g : Int32 → (St × (St)) → Option (Int32 × (St × (St)))) (r : Int32 × (St × (St))) : Prop := ∀ (v0 : Int32) (s0 : St × (St)) (H : Heap) (locs : List Loc) (ls : Array Slot), g v0 s0 = some r → va_P (dC, dI) vwCl (dw_X16 a ac s0) H → va_D A (dw_X16 a ac s0) → va_S A s.heap H locs → lv_has ls 6 [(0, .ref (a 0)), (1, .int v0)] → W p l e (headSpec ow_dm_X16_pipe ({ frames := 3, cells := 0, slots := 0, locals := 71 })).room s m args below meth c H locs 0 0 Q (F0 m 0 ls [])
set_option maxHeartbeats 40000000 in
set_option maxRecDepth 100000 in
theorem db_X16_pipe_73 {p : Program} {l : Launch} {e : Env} {s : State} {m : MethodId} {args : Array Value} {below : List Frame} {meth : Method} {c : Code} {Q : State → Prop} {A : Nat → Prop} {dC : Nat → ClassId} {dI : Nat → Nat → Nat} {a : Nat → Nat} {ac : Nat → ClassId} {n : Nat} {r : Int32 × (St × (St))} (C : nd_C p l s m args c A (dC, dI) cX16_pipe 6 RX16 ow_dm_X16_pipe (dk_X16 ac)) (K : nd_Ki p l e (headSpec ow_dm_X16_pipe ({ frames := 3, cells := 0, slots := 0, locals := 71 })).room s m args below meth c Q A (dC, dI) cX16_pipe .int (St × (St)) (dw_X16 a ac) r) : dj_X16_pipe_73 p l e s m args below meth c Q A dC dI a ac (df_X16_pipe_73 n) r := by
  obtain ⟨hlt, hx, hb, hml, hown, hts, hN, hA, hK⟩ := id C
  intro s0 H locs ls h hP hD hS hl
  unfold df_X16_pipe_73 at h
  refine lv_bipush (v := (-4)) hx hb dX16_pipe_73 (by decide) ?_
  exact K _ _ _ _ _ _ dX16_pipe_75 rfl (Option.some.inj h).symm hP hD hS
set_option maxHeartbeats 40000000 in
set_option maxRecDepth 100000 in
theorem db_X16_pipe_170 {p : Program} {l : Launch} {e : Env} {s : State} {m : MethodId} {args : Array Value} {below : List Frame} {meth : Method} {c : Code} {Q : State → Prop} {A : Nat → Prop} {dC : Nat → ClassId} {dI : Nat → Nat → Nat} {a : Nat → Nat} {ac : Nat → ClassId} {n : Nat} {r : Int32 × (St × (St))} (C : nd_C p l s m args c A (dC, dI) cX16_pipe 6 RX16 ow_dm_X16_pipe (dk_X16 ac)) (K : nd_Ki p l e (headSpec ow_dm_X16_pipe ({ frames := 3, cells := 0, slots := 0, locals := 71 })).room s m args below meth c Q A (dC, dI) cX16_pipe .int (St × (St)) (dw_X16 a ac) r) {g142 : Int32 → Int32 → Int32 → Int32 → (St × (St)) → Option (Int32 × (St × (St)))} (J142 : dj_X16_pipe_142 p l e s m args below meth c Q A dC dI a ac g142 r) : dj_X16_pipe_170 p l e s m args below meth c Q A dC dI a ac (df_X16_pipe_170 n g142) r := by
  obtain ⟨hlt, hx, hb, hml, hown, hts, hN, hA, hK⟩ := id C
  intro x1 x3 x4 x5 y1 y2 y3 s0 H locs ls h hP hD hS hl
  unfold df_X16_pipe_170 at h
  refine lv_bipush (v := 8) hx hb dX16_pipe_170 (by decide) ?_
  refine lv_iload hx hb dX16_pipe_172 (lv_at hl 4 rfl) ?_
  refine lv_iconst (v := 4) hx hb dX16_pipe_174 (by decide) ?_
  refine lv_irem hx hb dX16_pipe_175 (by decide) ?_
  refine lv_imul hx hb dX16_pipe_176 ?_
  refine lv_ishr hx hb dX16_pipe_177 ?_
  obtain ⟨s42, hq, h⟩ := nd_b1_e h
  have hPc := hP
  have hDc := hD
  have hKc := hK
  have hFc := nd_rs hD hS hA
  refine nd_cVv (As := [.int y1, .int y2, .int ((y3 : Int32) >>> (((8 * ((x5 : Int32) - x5 / 4 * 4)) : Int32) &&& 31))]) (rest := []) (w' := dw_X16 a ac s42) ⟨hx, hb, hml, hown, hts⟩ (fun sz => dm_X16_write l hlt dC dI a ac n (y1) (y2) (((y3 : Int32) >>> (((8 * ((x5 : Int32) - x5 / 4 * 4)) : Int32) &&& 31))) s0 hq sz) (cwV 3 hts gi_dm_X16_pipe_7 rfl rfl rfl (by decide +kernel) ⟨Nat.le_of_ble_eq_true rfl, Nat.le_of_ble_eq_true rfl⟩) hPc hDc hKc hS hA hN (va_recv hKc hPc (ci := 17) (q0 := 0) rfl rfl) rfl hl.1 rfl (Nat.le_of_ble_eq_true rfl) dX16_pipe_178 (fun H locs hP1 hD1 hk1 hS => ?_)
  have hP := hP1
  have hD := hD1.weaken (fun k q _ h => hFc q.1 h)
  obtain ⟨z44, ez44, h⟩ := nd_let_e h
  refine lv_iinc (v := z44) (lv' := [(5, .int z44), (0, .ref (a 0)), (1, .int x1), (3, .int x3), (4, .int x4)]) hx hb dX16_pipe_181 hl (k := 4) rfl (by rw [ez44]) (by decide) rfl (fun ls hl => ?_)
  refine lv_goto (tgt := 142) hx hb dX16_pipe_184 (by decide) ?_
  exact (J142) (x1) (x3) (x4) (z44) s42 _ _ _ h hP hD hS (lv_sub hl [1, 2, 3, 4, 0] rfl)
set_option maxHeartbeats 40000000 in
set_option maxRecDepth 100000 in
theorem dB_X16_pipe_142 {p : Program} {l : Launch} {e : Env} {s : State} {m : MethodId} {args : Array Value} {below : List Frame} {meth : Method} {c : Code} {Q : State → Prop} {A : Nat → Prop} {dC : Nat → ClassId} {dI : Nat → Nat → Nat} {a : Nat → Nat} {ac : Nat → ClassId} {n : Nat} {r : Int32 × (St × (St))} (C : nd_C p l s m args c A (dC, dI) cX16_pipe 6 RX16 ow_dm_X16_pipe (dk_X16 ac)) (K : nd_Ki p l e (headSpec ow_dm_X16_pipe ({ frames := 3, cells := 0, slots := 0, locals := 71 })).room s m args below meth c Q A (dC, dI) cX16_pipe .int (St × (St)) (dw_X16 a ac) r) {g142 : Int32 → Int32 → Int32 → Int32 → (St × (St)) → Option (Int32 × (St × (St)))} (J142 : dj_X16_pipe_142 p l e s m args below meth c Q A dC dI a ac g142 r) : dj_X16_pipe_142 p l e s m args below meth c Q A dC dI a ac (dF_X16_pipe_142 n g142) r := by
  obtain ⟨hlt, hx, hb, hml, hown, hts, hN, hA, hK⟩ := id C
  intro x1 x3 x4 x5 s0 H locs ls h hP hD hS hl
  unfold dF_X16_pipe_142 at h
  refine lv_iload hx hb dX16_pipe_142 (lv_at hl 4 rfl) ?_
  refine lv_bipush (v := 8) hx hb dX16_pipe_144 (by decide) ?_
  refine lv_icmp_ge (tgt := 187) hx hb dX16_pipe_146 (by decide) (fun c39 => ?_) (fun c39 => ?_)
  · have h := nd_pos h c39
    refine lv_iconst (v := 0) hx hb dX16_pipe_187 (by decide) ?_
    exact K _ _ _ _ _ _ dX16_pipe_188 rfl (Option.some.inj h).symm hP hD hS
  · have h := nd_neg h c39
    refine lv_aload_n hx hb dX16_pipe_149 rfl (lv_at hl 0 rfl) ?_
    refine lv_aload_n hx hb dX16_pipe_150 rfl (lv_at hl 0 rfl) ?_
    refine va_get (D := (dC, dI)) (ci := 17) (v := .int (sI s0.1 12)) (C := RX16) (T := TX16) (N := 56) hx hb hts hi_dm_X16_pipe_X16 hown hK hP 0 rfl rfl 51 (by decide) (hts (.fieldLink RX16 232 "TimeMachineModel$Machine" "p" "I") (List.mem_of_getElem? (i := 1) rfl)) (fun _ h9 => h9) rfl dX16_pipe_151 ?_
    refine lv_iload_n hx hb dX16_pipe_154 rfl (lv_at hl 1 rfl) ?_
    refine lv_iload hx hb dX16_pipe_155 (lv_at hl 4 rfl) ?_
    refine lv_iadd hx hb dX16_pipe_157 ?_
    refine lv_iload hx hb dX16_pipe_158 (lv_at hl 4 rfl) ?_
    refine lv_iconst (v := 4) hx hb dX16_pipe_160 (by decide) ?_
    refine lv_icmp_ge (tgt := 168) hx hb dX16_pipe_161 (by decide) (fun c40 => ?_) (fun c40 => ?_)
    · have h := nd_pos h c40
      refine lv_iload hx hb dX16_pipe_168 (lv_at hl 3 rfl) ?_
      exact (db_X16_pipe_170 C K J142) (x1) (x3) (x4) (x5) ((sI s0.1 12)) ((x1 + x5)) (x4) s0 _ _ _ h hP hD hS (lv_sub hl [0, 1, 2, 3, 4] rfl)
    · have h := nd_neg h c40
      refine lv_iload_n hx hb dX16_pipe_164 rfl (lv_at hl 2 rfl) ?_
      refine lv_goto (tgt := 170) hx hb dX16_pipe_165 (by decide) ?_
      exact (db_X16_pipe_170 C K J142) (x1) (x3) (x4) (x5) ((sI s0.1 12)) ((x1 + x5)) (x3) s0 _ _ _ h hP hD hS (lv_sub hl [0, 1, 2, 3, 4] rfl)
set_option maxHeartbeats 40000000 in
set_option maxRecDepth 100000 in
theorem db_X16_pipe_142 {p : Program} {l : Launch} {e : Env} {s : State} {m : MethodId} {args : Array Value} {below : List Frame} {meth : Method} {c : Code} {Q : State → Prop} {A : Nat → Prop} {dC : Nat → ClassId} {dI : Nat → Nat → Nat} {a : Nat → Nat} {ac : Nat → ClassId} {n : Nat} {r : Int32 × (St × (St))} (C : nd_C p l s m args c A (dC, dI) cX16_pipe 6 RX16 ow_dm_X16_pipe (dk_X16 ac)) (K : nd_Ki p l e (headSpec ow_dm_X16_pipe ({ frames := 3, cells := 0, slots := 0, locals := 71 })).room s m args below meth c Q A (dC, dI) cX16_pipe .int (St × (St)) (dw_X16 a ac) r) (k : Nat) : dj_X16_pipe_142 p l e s m args below meth c Q A dC dI a ac (df_X16_pipe_142 n k) r := by
  induction k with
  | zero => intro x1 x3 x4 x5 s0 H locs ls h; exact nomatch (show (none : Option (Int32 × (St × (St)))) = some r from h)
  | succ k ih => exact dB_X16_pipe_142 C K ih
set_option maxHeartbeats 40000000 in
set_option maxRecDepth 100000 in
theorem db_X16_pipe_50 {p : Program} {l : Launch} {e : Env} {s : State} {m : MethodId} {args : Array Value} {below : List Frame} {meth : Method} {c : Code} {Q : State → Prop} {A : Nat → Prop} {dC : Nat → ClassId} {dI : Nat → Nat → Nat} {a : Nat → Nat} {ac : Nat → ClassId} {n : Nat} {r : Int32 × (St × (St))} (C : nd_C p l s m args c A (dC, dI) cX16_pipe 6 RX16 ow_dm_X16_pipe (dk_X16 ac)) (K : nd_Ki p l e (headSpec ow_dm_X16_pipe ({ frames := 3, cells := 0, slots := 0, locals := 71 })).room s m args below meth c Q A (dC, dI) cX16_pipe .int (St × (St)) (dw_X16 a ac) r) : dj_X16_pipe_50 p l e s m args below meth c Q A dC dI a ac (df_X16_pipe_50 n) r := by
  obtain ⟨hlt, hx, hb, hml, hown, hts, hN, hA, hK⟩ := id C
  intro x1 x2 s0 H locs ls h hP hD hS hl
  unfold df_X16_pipe_50 at h
  refine lv_aload_n hx hb dX16_pipe_50 rfl (lv_at hl 0 rfl) ?_
  obtain ⟨q7, s8, hq, h⟩ := nd_b2_e h
  have hPc := hP
  have hDc := hD
  have hKc := hK
  have hFc := nd_rs hD hS hA
  refine nd_cVi (As := []) (rest := []) (q := q7) (w' := dw_X16 a ac s8) ⟨hx, hb, hml, hown, hts⟩ (fun sz => dm_X16_freeDescriptors l hlt dC dI a ac n  s0 hq sz) (cwV 0 hts gi_dm_X16_pipe_1 rfl rfl rfl (by decide +kernel) ⟨Nat.le_of_ble_eq_true rfl, Nat.le_of_ble_eq_true rfl⟩) hPc hDc hKc hS hA hN (va_recv hKc hPc (ci := 17) (q0 := 0) rfl rfl) rfl hl.1 rfl (Nat.le_of_ble_eq_true rfl) dX16_pipe_51 (fun H locs hP1 hD1 hk1 hS => ?_)
  have hP := hP1
  have hD := hD1.weaken (fun k q _ h => hFc q.1 h)
  refine lv_iconst (v := 2) hx hb dX16_pipe_54 (by decide) ?_
  refine lv_icmp_lt (tgt := 73) hx hb dX16_pipe_55 (by decide) (fun c10 => ?_) (fun c10 => ?_)
  · have h := nd_pos h c10
    exact (db_X16_pipe_73 C K)  s8 _ _ _ h hP hD hS (lv_sub hl [] rfl)
  · have h := nd_neg h c10
    refine lv_aload_n hx hb dX16_pipe_58 rfl (lv_at hl 0 rfl) ?_
    obtain ⟨q11, s12, hq, h⟩ := nd_b2_e h
    have hPc := hP
    have hDc := hD
    have hKc := hK
    have hFc := nd_rs hD hS hA
    refine nd_cVi (As := []) (rest := []) (q := q11) (w' := dw_X16 a ac s12) ⟨hx, hb, hml, hown, hts⟩ (fun sz => dm_X16_openings l hlt dC dI a ac n  s8 hq sz) (cwV 0 hts gi_dm_X16_pipe_2 rfl rfl rfl (by decide +kernel) ⟨Nat.le_of_ble_eq_true rfl, Nat.le_of_ble_eq_true rfl⟩) hPc hDc hKc hS hA hN (va_recv hKc hPc (ci := 17) (q0 := 0) rfl rfl) rfl hl.1 rfl (Nat.le_of_ble_eq_true rfl) dX16_pipe_59 (fun H locs hP1 hD1 hk1 hS => ?_)
    have hP := hP1
    have hD := hD1.weaken (fun k q _ h => hFc q.1 h)
    refine lv_bipush (v := 46) hx hb dX16_pipe_62 (by decide) ?_
    refine lv_icmp_gt (tgt := 73) hx hb dX16_pipe_64 (by decide) (fun c14 => ?_) (fun c14 => ?_)
    · have h := nd_pos h c14
      exact (db_X16_pipe_73 C K)  s12 _ _ _ h hP hD hS (lv_sub hl [] rfl)
    · have h := nd_neg h c14
      refine lv_iload_n hx hb dX16_pipe_67 rfl (lv_at hl 2 rfl) ?_
      refine lv_bipush (v := 8) hx hb dX16_pipe_68 (by decide) ?_
      refine lv_icmp_ne (tgt := 76) hx hb dX16_pipe_70 (by decide) (fun c15 => ?_) (fun c15 => ?_)
      · have h := nd_neg h c15
        refine lv_aload_n hx hb dX16_pipe_76 rfl (lv_at hl 0 rfl) ?_
        refine lv_aload_n hx hb dX16_pipe_77 rfl (lv_at hl 0 rfl) ?_
        refine lv_aload_n hx hb dX16_pipe_78 rfl (lv_at hl 0 rfl) ?_
        refine va_get (D := (dC, dI)) (ci := 17) (v := .int (sI s12.1 12)) (C := RX16) (T := TX16) (N := 56) hx hb hts hi_dm_X16_pipe_X16 hown hK hP 0 rfl rfl 51 (by decide) (hts (.fieldLink RX16 232 "TimeMachineModel$Machine" "p" "I") (List.mem_of_getElem? (i := 1) rfl)) (fun _ h9 => h9) rfl dX16_pipe_79 ?_
        refine lv_iload_n hx hb dX16_pipe_82 rfl (lv_at hl 1 rfl) ?_
        refine lv_bipush (v := 8) hx hb dX16_pipe_83 (by decide) ?_
        obtain ⟨q16, s17, hq, h⟩ := nd_b2_e h
        have hPc := hP
        have hDc := hD
        have hKc := hK
        have hFc := nd_rs hD hS hA
        refine nd_cVi (As := [.int (sI s12.1 12), .int x1, .int 8]) (rest := [.ref (a 0)]) (q := q16) (w' := dw_X16 a ac s17) ⟨hx, hb, hml, hown, hts⟩ (fun sz => dm_X16_wanted l hlt dC dI a ac n ((sI s12.1 12)) (x1) (8) s12 hq sz) (cwV 3 hts gi_dm_X16_pipe_3 rfl rfl rfl (by decide +kernel) ⟨Nat.le_of_ble_eq_true rfl, Nat.le_of_ble_eq_true rfl⟩) hPc hDc hKc hS hA hN (va_recv hKc hPc (ci := 17) (q0 := 0) rfl rfl) rfl hl.1 rfl (Nat.le_of_ble_eq_true rfl) dX16_pipe_85 (fun H locs hP1 hD1 hk1 hS => ?_)
        have hP := hP1
        have hD := hD1.weaken (fun k q _ h => hFc q.1 h)
        obtain ⟨q19, s20, hq, h⟩ := nd_b2_e h
        have hPc := hP
        have hDc := hD
        have hKc := hK
        have hFc := nd_rs hD hS hA
        refine nd_cVi (As := [.int q16]) (rest := []) (q := q19) (w' := dw_X16 a ac s20) ⟨hx, hb, hml, hown, hts⟩ (fun sz => dm_X16_hasFrames l hlt dC dI a ac n (q16) s17 hq sz) (cwV 1 hts gi_dm_X16_pipe_4 rfl rfl rfl (by decide +kernel) ⟨Nat.le_of_ble_eq_true rfl, Nat.le_of_ble_eq_true rfl⟩) hPc hDc hKc hS hA hN (va_recv hKc hPc (ci := 17) (q0 := 0) rfl rfl) rfl hl.1 rfl (Nat.le_of_ble_eq_true rfl) dX16_pipe_88 (fun H locs hP1 hD1 hk1 hS => ?_)
        have hP := hP1
        have hD := hD1.weaken (fun k q _ h => hFc q.1 h)
        refine lv_if_ne (tgt := 100) hx hb dX16_pipe_91 (by decide) (fun c22 => ?_) (fun c22 => ?_)
        · have h := nd_neg h c22
          refine lv_aload_n hx hb dX16_pipe_100 rfl (lv_at hl 0 rfl) ?_
          refine va_get (D := (dC, dI)) (ci := 17) (v := .ref (a 25)) (C := RX16) (T := TX16) (N := 56) hx hb hts hi_dm_X16_pipe_X16 hown hK hP 0 rfl rfl 34 (by decide) (hts (.fieldLink RX16 85 "TimeMachineModel$Machine" "isPipe" "[Z") (List.mem_of_getElem? (i := 18) rfl)) (fun _ h9 => h9) rfl dX16_pipe_101 ?_
          refine lv_iload_n hx hb dX16_pipe_104 rfl (lv_at hl 2 rfl) ?_
          refine lv_iconst (v := 1) hx hb dX16_pipe_105 (by decide) ?_
          obtain ⟨i23, h⟩ := nd_ck_e h
          refine va_zast (i := x2) (x := 1) hx hb hK hP hD hS 25 24 rfl rfl i23 dX16_pipe_106 (fun H locs hP hD hS => ?_)
          obtain ⟨s24, es24, h⟩ := nd_let_e h
          have hP : va_P (dC, dI) vwCl (dw_X16 a ac s24) H := by rw [es24]; exact hP
          have hD : va_D A (dw_X16 a ac s24) := by rw [es24]; exact hD
          refine lv_aload_n hx hb dX16_pipe_107 rfl (lv_at hl 0 rfl) ?_
          refine va_get (D := (dC, dI)) (ci := 17) (v := .ref (a 28)) (C := RX16) (T := TX16) (N := 56) hx hb hts hi_dm_X16_pipe_X16 hown hK hP 0 rfl rfl 37 (by decide) (hts (.fieldLink RX16 94 "TimeMachineModel$Machine" "piped" "[I") (List.mem_of_getElem? (i := 19) rfl)) (fun _ h9 => h9) rfl dX16_pipe_108 ?_
          refine lv_iload_n hx hb dX16_pipe_111 rfl (lv_at hl 2 rfl) ?_
          refine lv_iconst (v := 0) hx hb dX16_pipe_112 (by decide) ?_
          obtain ⟨i25, h⟩ := nd_ck_e h
          refine va_iast (i := x2) (x := 0) hx hb hK hP hD hS 28 27 rfl rfl i25 dX16_pipe_113 (fun H locs hP hD hS => ?_)
          obtain ⟨s26, es26, h⟩ := nd_let_e h
          have hP : va_P (dC, dI) vwCl (dw_X16 a ac s26) H := by rw [es26]; exact hP
          have hD : va_D A (dw_X16 a ac s26) := by rw [es26]; exact hD
          refine lv_aload_n hx hb dX16_pipe_114 rfl (lv_at hl 0 rfl) ?_
          refine lv_aload_n hx hb dX16_pipe_115 rfl (lv_at hl 0 rfl) ?_
          refine lv_iconst (v := 1) hx hb dX16_pipe_116 (by decide) ?_
          refine lv_iload_n hx hb dX16_pipe_117 rfl (lv_at hl 2 rfl) ?_
          refine lv_iconst (v := 1) hx hb dX16_pipe_118 (by decide) ?_
          obtain ⟨q27, s28, hq, h⟩ := nd_b2_e h
          have hPc := hP
          have hDc := hD
          have hKc := hK
          have hFc := nd_rs hD hS hA
          refine nd_cVi (As := [.int 1, .int x2, .int 1]) (rest := [.ref (a 0)]) (q := q27) (w' := dw_X16 a ac s28) ⟨hx, hb, hml, hown, hts⟩ (fun sz => dm_X16_opening l hlt dC dI a ac n (1) (x2) (1) s26 hq sz) (cwV 3 hts gi_dm_X16_pipe_5 rfl rfl rfl (by decide +kernel) ⟨Nat.le_of_ble_eq_true rfl, Nat.le_of_ble_eq_true rfl⟩) hPc hDc hKc hS hA hN (va_recv hKc hPc (ci := 17) (q0 := 0) rfl rfl) rfl hl.1 rfl (Nat.le_of_ble_eq_true rfl) dX16_pipe_119 (fun H locs hP1 hD1 hk1 hS => ?_)
          have hP := hP1
          have hD := hD1.weaken (fun k q _ h => hFc q.1 h)
          obtain ⟨q30, s31, hq, h⟩ := nd_b2_e h
          have hPc := hP
          have hDc := hD
          have hKc := hK
          have hFc := nd_rs hD hS hA
          refine nd_cVi (As := [.int q27]) (rest := []) (q := q30) (w' := dw_X16 a ac s31) ⟨hx, hb, hml, hown, hts⟩ (fun sz => dm_X16_give l hlt dC dI a ac n (q27) s28 hq sz) (cwV 1 hts gi_dm_X16_pipe_6 rfl rfl rfl (by decide +kernel) ⟨Nat.le_of_ble_eq_true rfl, Nat.le_of_ble_eq_true rfl⟩) hPc hDc hKc hS hA hN (va_recv hKc hPc (ci := 17) (q0 := 0) rfl rfl) rfl hl.1 rfl (Nat.le_of_ble_eq_true rfl) dX16_pipe_122 (fun H locs hP1 hD1 hk1 hS => ?_)
          have hP := hP1
          have hD := hD1.weaken (fun k q _ h => hFc q.1 h)
          refine lv_istore_n (lv' := [(3, .int q30), (0, .ref (a 0)), (1, .int x1), (2, .int x2)]) hx hb dX16_pipe_125 rfl hl (by decide) rfl (fun ls hl => ?_)
          refine lv_aload_n hx hb dX16_pipe_126 rfl (lv_at hl 1 rfl) ?_
          refine lv_aload_n hx hb dX16_pipe_127 rfl (lv_at hl 1 rfl) ?_
          refine lv_iconst (v := 2) hx hb dX16_pipe_128 (by decide) ?_
          refine lv_iload_n hx hb dX16_pipe_129 rfl (lv_at hl 3 rfl) ?_
          refine lv_iconst (v := 2) hx hb dX16_pipe_130 (by decide) ?_
          obtain ⟨q33, s34, hq, h⟩ := nd_b2_e h
          have hPc := hP
          have hDc := hD
          have hKc := hK
          have hFc := nd_rs hD hS hA
          refine nd_cVi (As := [.int 2, .int x2, .int 2]) (rest := [.ref (a 0)]) (q := q33) (w' := dw_X16 a ac s34) ⟨hx, hb, hml, hown, hts⟩ (fun sz => dm_X16_opening l hlt dC dI a ac n (2) (x2) (2) s31 hq sz) (cwV 3 hts gi_dm_X16_pipe_5 rfl rfl rfl (by decide +kernel) ⟨Nat.le_of_ble_eq_true rfl, Nat.le_of_ble_eq_true rfl⟩) hPc hDc hKc hS hA hN (va_recv hKc hPc (ci := 17) (q0 := 0) rfl rfl) rfl hl.1 rfl (Nat.le_of_ble_eq_true rfl) dX16_pipe_131 (fun H locs hP1 hD1 hk1 hS => ?_)
          have hP := hP1
          have hD := hD1.weaken (fun k q _ h => hFc q.1 h)
          obtain ⟨q36, s37, hq, h⟩ := nd_b2_e h
          have hPc := hP
          have hDc := hD
          have hKc := hK
          have hFc := nd_rs hD hS hA
          refine nd_cVi (As := [.int q33]) (rest := []) (q := q36) (w' := dw_X16 a ac s37) ⟨hx, hb, hml, hown, hts⟩ (fun sz => dm_X16_give l hlt dC dI a ac n (q33) s34 hq sz) (cwV 1 hts gi_dm_X16_pipe_6 rfl rfl rfl (by decide +kernel) ⟨Nat.le_of_ble_eq_true rfl, Nat.le_of_ble_eq_true rfl⟩) hPc hDc hKc hS hA hN (va_recv hKc hPc (ci := 17) (q0 := 0) rfl rfl) rfl hl.1 rfl (Nat.le_of_ble_eq_true rfl) dX16_pipe_134 (fun H locs hP1 hD1 hk1 hS => ?_)
          have hP := hP1
          have hD := hD1.weaken (fun k q _ h => hFc q.1 h)
          refine lv_istore (lv' := [(4, .int q36), (3, .int q30), (0, .ref (a 0)), (1, .int x1), (2, .int x2)]) hx hb dX16_pipe_137 hl (by decide) rfl (fun ls hl => ?_)
          refine lv_iconst (v := 0) hx hb dX16_pipe_139 (by decide) ?_
          refine lv_istore (lv' := [(5, .int 0), (4, .int q36), (3, .int q30), (0, .ref (a 0)), (1, .int x1), (2, .int x2)]) hx hb dX16_pipe_140 hl (by decide) rfl (fun ls hl => ?_)
          exact (db_X16_pipe_142 C K n) (x1) (q30) (q36) (0) s37 _ _ _ h hP hD hS (lv_sub hl [3, 4, 2, 1, 0] rfl)
        · have h := nd_pos h c22
          refine lv_aload_n hx hb dX16_pipe_94 rfl (lv_at hl 0 rfl) ?_
          refine lv_iconst (v := 3) hx hb dX16_pipe_95 (by decide) ?_
          obtain ⟨q45, s46, hq, h⟩ := nd_b2_e h
          have hPc := hP
          have hDc := hD
          have hKc := hK
          have hFc := nd_rs hD hS hA
          refine nd_cVi (As := [.int 3]) (rest := []) (q := q45) (w' := dw_X16 a ac s46) ⟨hx, hb, hml, hown, hts⟩ (fun sz => dm_X16_tell l hlt dC dI a ac n (3) s20 hq sz) (cwV 1 hts gi_dm_X16_pipe_8 rfl rfl rfl (by decide +kernel) ⟨Nat.le_of_ble_eq_true rfl, Nat.le_of_ble_eq_true rfl⟩) hPc hDc hKc hS hA hN (va_recv hKc hPc (ci := 17) (q0 := 0) rfl rfl) rfl hl.1 rfl (Nat.le_of_ble_eq_true rfl) dX16_pipe_96 (fun H locs hP1 hD1 hk1 hS => ?_)
          have hP := hP1
          have hD := hD1.weaken (fun k q _ h => hFc q.1 h)
          exact K _ _ _ _ _ _ dX16_pipe_99 rfl (Option.some.inj h).symm hP hD hS
      · have h := nd_pos h c15
        exact (db_X16_pipe_73 C K)  s12 _ _ _ h hP hD hS (lv_sub hl [] rfl)
set_option maxHeartbeats 40000000 in
set_option maxRecDepth 100000 in
theorem dB_X16_pipe_29 {p : Program} {l : Launch} {e : Env} {s : State} {m : MethodId} {args : Array Value} {below : List Frame} {meth : Method} {c : Code} {Q : State → Prop} {A : Nat → Prop} {dC : Nat → ClassId} {dI : Nat → Nat → Nat} {a : Nat → Nat} {ac : Nat → ClassId} {n : Nat} {r : Int32 × (St × (St))} (C : nd_C p l s m args c A (dC, dI) cX16_pipe 6 RX16 ow_dm_X16_pipe (dk_X16 ac)) (K : nd_Ki p l e (headSpec ow_dm_X16_pipe ({ frames := 3, cells := 0, slots := 0, locals := 71 })).room s m args below meth c Q A (dC, dI) cX16_pipe .int (St × (St)) (dw_X16 a ac) r) {g29 : Int32 → Int32 → (St × (St)) → Option (Int32 × (St × (St)))} (J29 : dj_X16_pipe_29 p l e s m args below meth c Q A dC dI a ac g29 r) : dj_X16_pipe_29 p l e s m args below meth c Q A dC dI a ac (dF_X16_pipe_29 n g29) r := by
  obtain ⟨hlt, hx, hb, hml, hown, hts, hN, hA, hK⟩ := id C
  intro x1 x2 s0 H locs ls h hP hD hS hl
  unfold dF_X16_pipe_29 at h
  refine lv_iload_n hx hb dX16_pipe_29 rfl (lv_at hl 2 rfl) ?_
  refine lv_bipush (v := 8) hx hb dX16_pipe_30 (by decide) ?_
  refine lv_icmp_ge (tgt := 50) hx hb dX16_pipe_32 (by decide) (fun c6 => ?_) (fun c6 => ?_)
  · have h := nd_pos h c6
    exact (db_X16_pipe_50 C K) (x1) (x2) s0 _ _ _ h hP hD hS (lv_sub hl [0, 1, 2] rfl)
  · have h := nd_neg h c6
    refine lv_aload_n hx hb dX16_pipe_35 rfl (lv_at hl 0 rfl) ?_
    refine va_get (D := (dC, dI)) (ci := 17) (v := .ref (a 25)) (C := RX16) (T := TX16) (N := 56) hx hb hts hi_dm_X16_pipe_X16 hown hK hP 0 rfl rfl 34 (by decide) (hts (.fieldLink RX16 85 "TimeMachineModel$Machine" "isPipe" "[Z") (List.mem_of_getElem? (i := 18) rfl)) (fun _ h9 => h9) rfl dX16_pipe_36 ?_
    refine lv_iload_n hx hb dX16_pipe_39 rfl (lv_at hl 2 rfl) ?_
    obtain ⟨i48, h⟩ := nd_ck_e h
    refine va_zald (i := x2) hx hb hK hP 25 24 rfl rfl i48 dX16_pipe_40 ?_
    refine lv_if_eq (tgt := 50) hx hb dX16_pipe_41 (by decide) (fun c49 => ?_) (fun c49 => ?_)
    · have h := nd_pos h c49
      exact (db_X16_pipe_50 C K) (x1) (x2) s0 _ _ _ h hP hD hS (lv_sub hl [0, 1, 2] rfl)
    · have h := nd_neg h c49
      obtain ⟨z50, ez50, h⟩ := nd_let_e h
      refine lv_iinc (v := z50) (lv' := [(2, .int z50), (0, .ref (a 0)), (1, .int x1)]) hx hb dX16_pipe_44 hl (k := 2) rfl (by rw [ez50]) (by decide) rfl (fun ls hl => ?_)
      refine lv_goto (tgt := 29) hx hb dX16_pipe_47 (by decide) ?_
      exact (J29) (x1) (z50) s0 _ _ _ h hP hD hS (lv_sub hl [1, 2, 0] rfl)
set_option maxHeartbeats 40000000 in
set_option maxRecDepth 100000 in
theorem db_X16_pipe_29 {p : Program} {l : Launch} {e : Env} {s : State} {m : MethodId} {args : Array Value} {below : List Frame} {meth : Method} {c : Code} {Q : State → Prop} {A : Nat → Prop} {dC : Nat → ClassId} {dI : Nat → Nat → Nat} {a : Nat → Nat} {ac : Nat → ClassId} {n : Nat} {r : Int32 × (St × (St))} (C : nd_C p l s m args c A (dC, dI) cX16_pipe 6 RX16 ow_dm_X16_pipe (dk_X16 ac)) (K : nd_Ki p l e (headSpec ow_dm_X16_pipe ({ frames := 3, cells := 0, slots := 0, locals := 71 })).room s m args below meth c Q A (dC, dI) cX16_pipe .int (St × (St)) (dw_X16 a ac) r) (k : Nat) : dj_X16_pipe_29 p l e s m args below meth c Q A dC dI a ac (df_X16_pipe_29 n k) r := by
  induction k with
  | zero => intro x1 x2 s0 H locs ls h; exact nomatch (show (none : Option (Int32 × (St × (St)))) = some r from h)
  | succ k ih => exact dB_X16_pipe_29 C K ih
set_option maxHeartbeats 40000000 in
set_option maxRecDepth 100000 in
theorem db_X16_pipe_0 {p : Program} {l : Launch} {e : Env} {s : State} {m : MethodId} {args : Array Value} {below : List Frame} {meth : Method} {c : Code} {Q : State → Prop} {A : Nat → Prop} {dC : Nat → ClassId} {dI : Nat → Nat → Nat} {a : Nat → Nat} {ac : Nat → ClassId} {n : Nat} {r : Int32 × (St × (St))} (C : nd_C p l s m args c A (dC, dI) cX16_pipe 6 RX16 ow_dm_X16_pipe (dk_X16 ac)) (K : nd_Ki p l e (headSpec ow_dm_X16_pipe ({ frames := 3, cells := 0, slots := 0, locals := 71 })).room s m args below meth c Q A (dC, dI) cX16_pipe .int (St × (St)) (dw_X16 a ac) r) : dj_X16_pipe_0 p l e s m args below meth c Q A dC dI a ac (df_X16_pipe_0 n) r := by
  obtain ⟨hlt, hx, hb, hml, hown, hts, hN, hA, hK⟩ := id C
  intro v0 s0 H locs ls h hP hD hS hl
  unfold df_X16_pipe_0 at h
  refine lv_iload_n hx hb dX16_pipe_0 rfl (lv_at hl 1 rfl) ?_
  refine lv_iconst (v := 4) hx hb dX16_pipe_1 (by decide) ?_
  refine lv_irem hx hb dX16_pipe_2 (by decide) ?_
  refine lv_if_eq (tgt := 9) hx hb dX16_pipe_3 (by decide) (fun c1 => ?_) (fun c1 => ?_)
  · have h := nd_pos h c1
    refine lv_aload_n hx hb dX16_pipe_9 rfl (lv_at hl 0 rfl) ?_
    refine lv_aload_n hx hb dX16_pipe_10 rfl (lv_at hl 0 rfl) ?_
    refine va_get (D := (dC, dI)) (ci := 17) (v := .int (sI s0.1 12)) (C := RX16) (T := TX16) (N := 56) hx hb hts hi_dm_X16_pipe_X16 hown hK hP 0 rfl rfl 51 (by decide) (hts (.fieldLink RX16 232 "TimeMachineModel$Machine" "p" "I") (List.mem_of_getElem? (i := 1) rfl)) (fun _ h9 => h9) rfl dX16_pipe_11 ?_
    refine lv_iload_n hx hb dX16_pipe_14 rfl (lv_at hl 1 rfl) ?_
    refine lv_bipush (v := 8) hx hb dX16_pipe_15 (by decide) ?_
    refine lv_iconst (v := 2) hx hb dX16_pipe_17 (by decide) ?_
    obtain ⟨q2, s3, hq, h⟩ := nd_b2_e h
    have hPc := hP
    have hDc := hD
    have hKc := hK
    have hFc := nd_rs hD hS hA
    refine nd_cVi (As := [.int (sI s0.1 12), .int v0, .int 8, .int 2]) (rest := []) (q := q2) (w' := dw_X16 a ac s3) ⟨hx, hb, hml, hown, hts⟩ (fun sz => dm_X16_mayAll l hlt dC dI a ac n ((sI s0.1 12)) (v0) (8) (2) s0 hq sz) (cwV 4 hts gi_dm_X16_pipe_0 rfl rfl rfl (by decide +kernel) ⟨Nat.le_of_ble_eq_true rfl, Nat.le_of_ble_eq_true rfl⟩) hPc hDc hKc hS hA hN (va_recv hKc hPc (ci := 17) (q0 := 0) rfl rfl) rfl hl.1 rfl (Nat.le_of_ble_eq_true rfl) dX16_pipe_18 (fun H locs hP1 hD1 hk1 hS => ?_)
    have hP := hP1
    have hD := hD1.weaken (fun k q _ h => hFc q.1 h)
    refine lv_if_ne (tgt := 27) hx hb dX16_pipe_21 (by decide) (fun c5 => ?_) (fun c5 => ?_)
    · have h := nd_neg h c5
      refine lv_iconst (v := 0) hx hb dX16_pipe_27 (by decide) ?_
      refine lv_istore_n (lv' := [(2, .int 0), (0, .ref (a 0)), (1, .int v0)]) hx hb dX16_pipe_28 rfl hl (by decide) rfl (fun ls hl => ?_)
      exact (db_X16_pipe_29 C K n) (v0) (0) s3 _ _ _ h hP hD hS (lv_sub hl [1, 2, 0] rfl)
    · have h := nd_pos h c5
      refine lv_bipush (v := (-14)) hx hb dX16_pipe_24 (by decide) ?_
      exact K _ _ _ _ _ _ dX16_pipe_26 rfl (Option.some.inj h).symm hP hD hS
  · have h := nd_neg h c1
    refine lv_bipush (v := (-22)) hx hb dX16_pipe_6 (by decide) ?_
    exact K _ _ _ _ _ _ dX16_pipe_8 rfl (Option.some.inj h).symm hP hD hS
set_option maxHeartbeats 40000000 in
set_option maxRecDepth 100000 in
theorem dm_X16_pipe (l : Launch) (hlt : l.stackTraces = false) (dC : Nat → ClassId) (dI : Nat → Nat → Nat) (a : Nat → Nat) (ac : Nat → ClassId) (n : Nat) (v0 : Int32) (s0 : St × (St)) {r : Int32 × (St × (St))} (h : df_X16_pipe n v0 s0 = some r) (sz : Nat) : Met l yX16_pipe ow_dm_X16_pipe ({ frames := 3, cells := 0, slots := 0, locals := 71 }) (va_Pc [.ref (a 0), .int v0] (fun U => U.heap.size = sz ∧ va_P (dC, dI) vwCl (dw_X16 a ac s0) U.heap ∧ va_K (dC, dI) vwCl (dk_X16 ac) U ∧ va_D (fun _ => True) (dw_X16 a ac s0) ∧ nv_E (va_A (dw_X16 a ac s0) sz) U)) (va_Qi (fun x _ => x = r.1) (fun (_ : Unit) t => va_P (dC, dI) vwCl (dw_X16 a ac r.2) t.heap ∧ va_K (dC, dI) vwCl (dk_X16 ac) t ∧ va_D (va_A (dw_X16 a ac s0) sz) (dw_X16 a ac r.2)) (va_A (dw_X16 a ac s0) sz)) 0 0 (va_A (dw_X16 a ac s0) sz) := by
  refine Met.ofW (cc := cX16_pipe) (maxL := 6) (ret := (some .int)) (by decide) rfl ?_
  intro p e s m args below meth c s₁ B hml hv
  obtain ⟨rfl, hsz, hP, hK, hD0, hN⟩ := hv
  have hx := B.exec
  have hb := B.bytes
  have hr := B.returns
  have hts := atoms_spec (ws := ow_dm_X16_pipe) B.pre
  have hown : s.vm.findClass RX16 = some m.cls := findClass_of_methodNamed B.named
  have hlocks := B.notSynchronized
  subst hsz
  have hD := hD0.self (sz := s.heap.size)
  generalize hAe : va_A (dw_X16 a ac s0) s.heap.size = A at hD hN ⊢
  have hA : ∀ q : Nat, s.heap.size ≤ q → A q := fun q h => by rw [← hAe]; exact Or.inr h
  have hl := lv_entry ([.ref (a 0), .int v0]) (n := 6) (Nat.le_of_ble_eq_true rfl)
  rw [lg_entry_eq]
  generalize (lg_sl ([.ref (a 0), .int v0]) ++ List.replicate (6 - (lg_sl ([.ref (a 0), .int v0])).length) Slot.unset).toArray = ls at hl ⊢
  have hl : lv_has ls 6 [(0, .ref (a 0)), (1, .int v0)] := hl
  exact db_X16_pipe_0 (dC := dC) (dI := dI) (a := a) (ac := ac) (n := n) (r := r) ⟨hlt, hx, hb, hml, hown, hts, hN, hA, hK⟩ (fun pc v τ H locs ls d z er hP hD hS => by subst er; exact W.zret (v := v) hx hb hr z (fun t ht hW => ⟨⟨v, (), rfl, rfl, by rw [ht]; exact hP, va_K.moved hW.alike hK, hD⟩, hS.F ht⟩) hS.2.2 d) v0 s0 _ _ _ h hP hD va_S.rf (lv_sub hl [0, 1] rfl)
def ow_dm_X16_comes : List Cond := .code yX16_comes cX16_comes 4 (some .int) :: ([.fieldLink RX16 73 "TimeMachineModel$Machine" "kind" "[I", .fieldLink RX16 122 "TimeMachineModel$Machine" "typed" "I", .fieldLink RX16 109 "TimeMachineModel$Machine" "typedBytes" "[I", .fieldLink RX16 100 "TimeMachineModel$Machine" "length" "[I", .fieldLink RX16 76 "TimeMachineModel$Machine" "thing" "[I", .fieldLink RX16 79 "TimeMachineModel$Machine" "position" "[I", .fieldLink RX16 94 "TimeMachineModel$Machine" "piped" "[I"] ++ (u_ws RX16 TX16 56 ++ []))
theorem gd_dm_X16_comes : ∀ w ∈ ow_dm_X16_comes, (w.onTables && w.keeps) = true ∨ ∃ ty, w = Cond.arrayClass ty := List.forall_mem_cons.mpr ⟨good_of_word rfl, List.forall_mem_append.mpr ⟨fun w h => good_of_word (List.all_eq_true.mp (by decide +kernel) w h), List.forall_mem_append.mpr ⟨gu_X16, fun _ h => nomatch h⟩⟩⟩
theorem hi_dm_X16_comes_X16 : ∀ w ∈ u_ws RX16 TX16 56, w ∈ ow_dm_X16_comes := fun w h => List.mem_cons_of_mem _ (List.mem_append_right _ (List.mem_append_left _ h))
def dj_X16_comes_152 (p : Program) (l : Launch) (e : Env) (s : State) (m : MethodId) (args : Array Value) (below : List Frame) (meth : Method) (c : Code) (Q : State → Prop) (A : Nat → Prop) (dC : Nat → ClassId) (dI : Nat → Nat → Nat) (a : Nat → Nat) (ac : Nat → ClassId) (g : Int32 → (St × (St)) → Option (Int32 × (St × (St)))) (r : Int32 × (St × (St))) : Prop := ∀ (x3 : Int32) (s0 : St × (St)) (H : Heap) (locs : List Loc) (ls : Array Slot), g x3 s0 = some r → va_P (dC, dI) vwCl (dw_X16 a ac s0) H → va_D A (dw_X16 a ac s0) → va_S A s.heap H locs → lv_has ls 4 [(3, .int x3)] → W p l e (headSpec ow_dm_X16_comes ({ frames := 0, cells := 0, slots := 0, locals := 0 })).room s m args below meth c H locs 0 0 Q (F0 m 152 ls [])
def dj_X16_comes_123 (p : Program) (l : Launch) (e : Env) (s : State) (m : MethodId) (args : Array Value) (below : List Frame) (meth : Method) (c : Code) (Q : State → Prop) (A : Nat → Prop) (dC : Nat → ClassId) (dI : Nat → Nat → Nat) (a : Nat → Nat) (ac : Nat → ClassId) (g : Int32 → Int32 → (St × (St)) → Option (Int32 × (St × (St)))) (r : Int32 × (St × (St))) : Prop := ∀ (x2 : Int32) (x3 : Int32) (s0 : St × (St)) (H : Heap) (locs : List Loc) (ls : Array Slot), g x2 x3 s0 = some r → va_P (dC, dI) vwCl (dw_X16 a ac s0) H → va_D A (dw_X16 a ac s0) → va_S A s.heap H locs → lv_has ls 4 [(0, .ref (a 0)), (2, .int x2), (3, .int x3)] → W p l e (headSpec ow_dm_X16_comes ({ frames := 0, cells := 0, slots := 0, locals := 0 })).room s m args below meth c H locs 0 0 Q (F0 m 123 ls [])
def dj_X16_comes_120 (p : Program) (l : Launch) (e : Env) (s : State) (m : MethodId) (args : Array Value) (below : List Frame) (meth : Method) (c : Code) (Q : State → Prop) (A : Nat → Prop) (dC : Nat → ClassId) (dI : Nat → Nat → Nat) (a : Nat → Nat) (ac : Nat → ClassId) (g : Int32 → (St × (St)) → Option (Int32 × (St × (St)))) (r : Int32 × (St × (St))) : Prop := ∀ (y0 : Int32) (s0 : St × (St)) (H : Heap) (locs : List Loc) (ls : Array Slot), g y0 s0 = some r → va_P (dC, dI) vwCl (dw_X16 a ac s0) H → va_D A (dw_X16 a ac s0) → va_S A s.heap H locs → lv_has ls 4 [] → W p l e (headSpec ow_dm_X16_comes ({ frames := 0, cells := 0, slots := 0, locals := 0 })).room s m args below meth c H locs 0 0 Q (F0 m 120 ls [.int y0])
def dj_X16_comes_40 (p : Program) (l : Launch) (e : Env) (s : State) (m : MethodId) (args : Array Value) (below : List Frame) (meth : Method) (c : Code) (Q : State → Prop) (A : Nat → Prop) (dC : Nat → ClassId) (dI : Nat → Nat → Nat) (a : Nat → Nat) (ac : Nat → ClassId) (g : Int32 → (St × (St)) → Option (Int32 × (St × (St)))) (r : Int32 × (St × (St))) : Prop := ∀ (y0 : Int32) (s0 : St × (St)) (H : Heap) (locs : List Loc) (ls : Array Slot), g y0 s0 = some r → va_P (dC, dI) vwCl (dw_X16 a ac s0) H → va_D A (dw_X16 a ac s0) → va_S A s.heap H locs → lv_has ls 4 [] → W p l e (headSpec ow_dm_X16_comes ({ frames := 0, cells := 0, slots := 0, locals := 0 })).room s m args below meth c H locs 0 0 Q (F0 m 40 ls [.int y0])
def dj_X16_comes_0 (p : Program) (l : Launch) (e : Env) (s : State) (m : MethodId) (args : Array Value) (below : List Frame) (meth : Method) (c : Code) (Q : State → Prop) (A : Nat → Prop) (dC : Nat → ClassId) (dI : Nat → Nat → Nat) (a : Nat → Nat) (ac : Nat → ClassId) (g : Int32 → Int32 → (St × (St)) → Option (Int32 × (St × (St)))) (r : Int32 × (St × (St))) : Prop := ∀ (v0 : Int32) (v1 : Int32) (s0 : St × (St)) (H : Heap) (locs : List Loc) (ls : Array Slot), g v0 v1 s0 = some r → va_P (dC, dI) vwCl (dw_X16 a ac s0) H → va_D A (dw_X16 a ac s0) → va_S A s.heap H locs → lv_has ls 4 [(0, .ref (a 0)), (1, .int v0), (2, .int v1)] → W p l e (headSpec ow_dm_X16_comes ({ frames := 0, cells := 0, slots := 0, locals := 0 })).room s m args below meth c H locs 0 0 Q (F0 m 0 ls [])
set_option maxHeartbeats 40000000 in
set_option maxRecDepth 100000 in
theorem db_X16_comes_152 {p : Program} {l : Launch} {e : Env} {s : State} {m : MethodId} {args : Array Value} {below : List Frame} {meth : Method} {c : Code} {Q : State → Prop} {A : Nat → Prop} {dC : Nat → ClassId} {dI : Nat → Nat → Nat} {a : Nat → Nat} {ac : Nat → ClassId} {n : Nat} {r : Int32 × (St × (St))} (C : nd_C p l s m args c A (dC, dI) cX16_comes 4 RX16 ow_dm_X16_comes (dk_X16 ac)) (K : nd_Ki p l e (headSpec ow_dm_X16_comes ({ frames := 0, cells := 0, slots := 0, locals := 0 })).room s m args below meth c Q A (dC, dI) cX16_comes .int (St × (St)) (dw_X16 a ac) r) : dj_X16_comes_152 p l e s m args below meth c Q A dC dI a ac (df_X16_comes_152 n) r := by
  obtain ⟨hlt, hx, hb, hml, hown, hts, hN, hA, hK⟩ := id C
  intro x3 s0 H locs ls h hP hD hS hl
  unfold df_X16_comes_152 at h
  refine lv_iload_n hx hb dX16_comes_152 rfl (lv_at hl 0 rfl) ?_
  exact K _ _ _ _ _ _ dX16_comes_153 rfl (Option.some.inj h).symm hP hD hS
set_option maxHeartbeats 40000000 in
set_option maxRecDepth 100000 in
theorem dB_X16_comes_123 {p : Program} {l : Launch} {e : Env} {s : State} {m : MethodId} {args : Array Value} {below : List Frame} {meth : Method} {c : Code} {Q : State → Prop} {A : Nat → Prop} {dC : Nat → ClassId} {dI : Nat → Nat → Nat} {a : Nat → Nat} {ac : Nat → ClassId} {n : Nat} {r : Int32 × (St × (St))} (C : nd_C p l s m args c A (dC, dI) cX16_comes 4 RX16 ow_dm_X16_comes (dk_X16 ac)) (K : nd_Ki p l e (headSpec ow_dm_X16_comes ({ frames := 0, cells := 0, slots := 0, locals := 0 })).room s m args below meth c Q A (dC, dI) cX16_comes .int (St × (St)) (dw_X16 a ac) r) {g123 : Int32 → Int32 → (St × (St)) → Option (Int32 × (St × (St)))} (J123 : dj_X16_comes_123 p l e s m args below meth c Q A dC dI a ac g123 r) : dj_X16_comes_123 p l e s m args below meth c Q A dC dI a ac (dF_X16_comes_123 n g123) r := by
  obtain ⟨hlt, hx, hb, hml, hown, hts, hN, hA, hK⟩ := id C
  intro x2 x3 s0 H locs ls h hP hD hS hl
  unfold dF_X16_comes_123 at h
  refine lv_iload_n hx hb dX16_comes_123 rfl (lv_at hl 2 rfl) ?_
  refine lv_iload_n hx hb dX16_comes_124 rfl (lv_at hl 1 rfl) ?_
  refine lv_icmp_ge (tgt := 152) hx hb dX16_comes_125 (by decide) (fun c5 => ?_) (fun c5 => ?_)
  · have h := nd_pos h c5
    exact (db_X16_comes_152 C K) (x3) s0 _ _ _ h hP hD hS (lv_sub hl [2] rfl)
  · have h := nd_neg h c5
    refine lv_iload_n hx hb dX16_comes_128 rfl (lv_at hl 2 rfl) ?_
    refine lv_aload_n hx hb dX16_comes_129 rfl (lv_at hl 0 rfl) ?_
    refine va_get (D := (dC, dI)) (ci := 17) (v := .int (sI s0.1 7)) (C := RX16) (T := TX16) (N := 56) hx hb hts hi_dm_X16_comes_X16 hown hK hP 0 rfl rfl 42 (by decide) (hts (.fieldLink RX16 122 "TimeMachineModel$Machine" "typed" "I") (List.mem_of_getElem? (i := 2) rfl)) (fun _ h9 => h9) rfl dX16_comes_130 ?_
    refine lv_icmp_ge (tgt := 152) hx hb dX16_comes_133 (by decide) (fun c6 => ?_) (fun c6 => ?_)
    · have h := nd_pos h c6
      exact (db_X16_comes_152 C K) (x3) s0 _ _ _ h hP hD hS (lv_sub hl [2] rfl)
    · have h := nd_neg h c6
      refine lv_aload_n hx hb dX16_comes_136 rfl (lv_at hl 0 rfl) ?_
      refine va_get (D := (dC, dI)) (ci := 17) (v := .ref (a 33)) (C := RX16) (T := TX16) (N := 56) hx hb hts hi_dm_X16_comes_X16 hown hK hP 0 rfl rfl 43 (by decide) (hts (.fieldLink RX16 109 "TimeMachineModel$Machine" "typedBytes" "[I") (List.mem_of_getElem? (i := 3) rfl)) (fun _ h9 => h9) rfl dX16_comes_137 ?_
      refine lv_iload_n hx hb dX16_comes_140 rfl (lv_at hl 2 rfl) ?_
      obtain ⟨i7, h⟩ := nd_ck_e h
      refine va_iald (i := x3) hx hb hK hP 33 32 rfl rfl i7 dX16_comes_141 ?_
      refine lv_iconst (v := 4) hx hb dX16_comes_142 (by decide) ?_
      refine lv_icmp_eq (tgt := 152) hx hb dX16_comes_143 (by decide) (fun c8 => ?_) (fun c8 => ?_)
      · have h := nd_pos h c8
        exact (db_X16_comes_152 C K) (x3) s0 _ _ _ h hP hD hS (lv_sub hl [2] rfl)
      · have h := nd_neg h c8
        obtain ⟨z9, ez9, h⟩ := nd_let_e h
        refine lv_iinc (v := z9) (lv' := [(3, .int z9), (0, .ref (a 0)), (2, .int x2)]) hx hb dX16_comes_146 hl (k := 2) rfl (by rw [ez9]) (by decide) rfl (fun ls hl => ?_)
        refine lv_goto (tgt := 123) hx hb dX16_comes_149 (by decide) ?_
        exact (J123) (x2) (z9) s0 _ _ _ h hP hD hS (lv_sub hl [1, 2, 0] rfl)
set_option maxHeartbeats 40000000 in
set_option maxRecDepth 100000 in
theorem db_X16_comes_123 {p : Program} {l : Launch} {e : Env} {s : State} {m : MethodId} {args : Array Value} {below : List Frame} {meth : Method} {c : Code} {Q : State → Prop} {A : Nat → Prop} {dC : Nat → ClassId} {dI : Nat → Nat → Nat} {a : Nat → Nat} {ac : Nat → ClassId} {n : Nat} {r : Int32 × (St × (St))} (C : nd_C p l s m args c A (dC, dI) cX16_comes 4 RX16 ow_dm_X16_comes (dk_X16 ac)) (K : nd_Ki p l e (headSpec ow_dm_X16_comes ({ frames := 0, cells := 0, slots := 0, locals := 0 })).room s m args below meth c Q A (dC, dI) cX16_comes .int (St × (St)) (dw_X16 a ac) r) (k : Nat) : dj_X16_comes_123 p l e s m args below meth c Q A dC dI a ac (df_X16_comes_123 n k) r := by
  induction k with
  | zero => intro x2 x3 s0 H locs ls h; exact nomatch (show (none : Option (Int32 × (St × (St)))) = some r from h)
  | succ k ih => exact dB_X16_comes_123 C K ih
set_option maxHeartbeats 40000000 in
set_option maxRecDepth 100000 in
theorem db_X16_comes_120 {p : Program} {l : Launch} {e : Env} {s : State} {m : MethodId} {args : Array Value} {below : List Frame} {meth : Method} {c : Code} {Q : State → Prop} {A : Nat → Prop} {dC : Nat → ClassId} {dI : Nat → Nat → Nat} {a : Nat → Nat} {ac : Nat → ClassId} {n : Nat} {r : Int32 × (St × (St))} (C : nd_C p l s m args c A (dC, dI) cX16_comes 4 RX16 ow_dm_X16_comes (dk_X16 ac)) (K : nd_Ki p l e (headSpec ow_dm_X16_comes ({ frames := 0, cells := 0, slots := 0, locals := 0 })).room s m args below meth c Q A (dC, dI) cX16_comes .int (St × (St)) (dw_X16 a ac) r) : dj_X16_comes_120 p l e s m args below meth c Q A dC dI a ac (df_X16_comes_120 n) r := by
  obtain ⟨hlt, hx, hb, hml, hown, hts, hN, hA, hK⟩ := id C
  intro y0 s0 H locs ls h hP hD hS hl
  unfold df_X16_comes_120 at h
  exact K _ _ _ _ _ _ dX16_comes_120 rfl (Option.some.inj h).symm hP hD hS
set_option maxHeartbeats 40000000 in
set_option maxRecDepth 100000 in
theorem db_X16_comes_40 {p : Program} {l : Launch} {e : Env} {s : State} {m : MethodId} {args : Array Value} {below : List Frame} {meth : Method} {c : Code} {Q : State → Prop} {A : Nat → Prop} {dC : Nat → ClassId} {dI : Nat → Nat → Nat} {a : Nat → Nat} {ac : Nat → ClassId} {n : Nat} {r : Int32 × (St × (St))} (C : nd_C p l s m args c A (dC, dI) cX16_comes 4 RX16 ow_dm_X16_comes (dk_X16 ac)) (K : nd_Ki p l e (headSpec ow_dm_X16_comes ({ frames := 0, cells := 0, slots := 0, locals := 0 })).room s m args below meth c Q A (dC, dI) cX16_comes .int (St × (St)) (dw_X16 a ac) r) : dj_X16_comes_40 p l e s m args below meth c Q A dC dI a ac (df_X16_comes_40 n) r := by
  obtain ⟨hlt, hx, hb, hml, hown, hts, hN, hA, hK⟩ := id C
  intro y0 s0 H locs ls h hP hD hS hl
  unfold df_X16_comes_40 at h
  exact K _ _ _ _ _ _ dX16_comes_40 rfl (Option.some.inj h).symm hP hD hS
set_option maxHeartbeats 40000000 in
set_option maxRecDepth 100000 in
theorem db_X16_comes_0 {p : Program} {l : Launch} {e : Env} {s : State} {m : MethodId} {args : Array Value} {below : List Frame} {meth : Method} {c : Code} {Q : State → Prop} {A : Nat → Prop} {dC : Nat → ClassId} {dI : Nat → Nat → Nat} {a : Nat → Nat} {ac : Nat → ClassId} {n : Nat} {r : Int32 × (St × (St))} (C : nd_C p l s m args c A (dC, dI) cX16_comes 4 RX16 ow_dm_X16_comes (dk_X16 ac)) (K : nd_Ki p l e (headSpec ow_dm_X16_comes ({ frames := 0, cells := 0, slots := 0, locals := 0 })).room s m args below meth c Q A (dC, dI) cX16_comes .int (St × (St)) (dw_X16 a ac) r) : dj_X16_comes_0 p l e s m args below meth c Q A dC dI a ac (df_X16_comes_0 n) r := by
  obtain ⟨hlt, hx, hb, hml, hown, hts, hN, hA, hK⟩ := id C
  intro v0 v1 s0 H locs ls h hP hD hS hl
  unfold df_X16_comes_0 at h
  refine lv_aload_n hx hb dX16_comes_0 rfl (lv_at hl 0 rfl) ?_
  refine va_get (D := (dC, dI)) (ci := 17) (v := .ref (a 21)) (C := RX16) (T := TX16) (N := 56) hx hb hts hi_dm_X16_comes_X16 hown hK hP 0 rfl rfl 30 (by decide) (hts (.fieldLink RX16 73 "TimeMachineModel$Machine" "kind" "[I") (List.mem_of_getElem? (i := 1) rfl)) (fun _ h9 => h9) rfl dX16_comes_1 ?_
  refine lv_iload_n hx hb dX16_comes_4 rfl (lv_at hl 1 rfl) ?_
  obtain ⟨i1, h⟩ := nd_ck_e h
  refine va_iald (i := v0) hx hb hK hP 21 20 rfl rfl i1 dX16_comes_5 ?_
  refine lv_iconst (v := 1) hx hb dX16_comes_6 (by decide) ?_
  refine lv_icmp_ne (tgt := 41) hx hb dX16_comes_7 (by decide) (fun c2 => ?_) (fun c2 => ?_)
  · have h := nd_neg h c2
    refine lv_aload_n hx hb dX16_comes_41 rfl (lv_at hl 0 rfl) ?_
    refine va_get (D := (dC, dI)) (ci := 17) (v := .ref (a 21)) (C := RX16) (T := TX16) (N := 56) hx hb hts hi_dm_X16_comes_X16 hown hK hP 0 rfl rfl 30 (by decide) (hts (.fieldLink RX16 73 "TimeMachineModel$Machine" "kind" "[I") (List.mem_of_getElem? (i := 1) rfl)) (fun _ h9 => h9) rfl dX16_comes_42 ?_
    refine lv_iload_n hx hb dX16_comes_45 rfl (lv_at hl 1 rfl) ?_
    obtain ⟨i3, h⟩ := nd_ck_e h
    refine va_iald (i := v0) hx hb hK hP 21 20 rfl rfl i3 dX16_comes_46 ?_
    refine lv_iconst (v := 3) hx hb dX16_comes_47 (by decide) ?_
    refine lv_icmp_ne (tgt := 121) hx hb dX16_comes_48 (by decide) (fun c4 => ?_) (fun c4 => ?_)
    · have h := nd_neg h c4
      refine lv_iconst (v := 0) hx hb dX16_comes_121 (by decide) ?_
      refine lv_istore_n (lv' := [(3, .int 0), (0, .ref (a 0)), (1, .int v0), (2, .int v1)]) hx hb dX16_comes_122 rfl hl (by decide) rfl (fun ls hl => ?_)
      exact (db_X16_comes_123 C K n) (v1) (0) s0 _ _ _ h hP hD hS (lv_sub hl [1, 3, 0] rfl)
    · have h := nd_pos h c4
      refine lv_aload_n hx hb dX16_comes_51 rfl (lv_at hl 0 rfl) ?_
      refine va_get (D := (dC, dI)) (ci := 17) (v := .ref (a 30)) (C := RX16) (T := TX16) (N := 56) hx hb hts hi_dm_X16_comes_X16 hown hK hP 0 rfl rfl 39 (by decide) (hts (.fieldLink RX16 100 "TimeMachineModel$Machine" "length" "[I") (List.mem_of_getElem? (i := 4) rfl)) (fun _ h9 => h9) rfl dX16_comes_52 ?_
      refine lv_aload_n hx hb dX16_comes_55 rfl (lv_at hl 0 rfl) ?_
      refine va_get (D := (dC, dI)) (ci := 17) (v := .ref (a 22)) (C := RX16) (T := TX16) (N := 56) hx hb hts hi_dm_X16_comes_X16 hown hK hP 0 rfl rfl 31 (by decide) (hts (.fieldLink RX16 76 "TimeMachineModel$Machine" "thing" "[I") (List.mem_of_getElem? (i := 5) rfl)) (fun _ h9 => h9) rfl dX16_comes_56 ?_
      refine lv_iload_n hx hb dX16_comes_59 rfl (lv_at hl 1 rfl) ?_
      obtain ⟨i10, h⟩ := nd_ck_e h
      refine va_iald (i := v0) hx hb hK hP 22 21 rfl rfl i10 dX16_comes_60 ?_
      obtain ⟨i11, h⟩ := nd_ck_e h
      refine va_iald (i := (sR s0.1 20 (Int32.toNatClampNeg v0))) hx hb hK hP 30 29 rfl rfl i11 dX16_comes_61 ?_
      refine lv_aload_n hx hb dX16_comes_62 rfl (lv_at hl 0 rfl) ?_
      refine va_get (D := (dC, dI)) (ci := 17) (v := .ref (a 23)) (C := RX16) (T := TX16) (N := 56) hx hb hts hi_dm_X16_comes_X16 hown hK hP 0 rfl rfl 32 (by decide) (hts (.fieldLink RX16 79 "TimeMachineModel$Machine" "position" "[I") (List.mem_of_getElem? (i := 6) rfl)) (fun _ h9 => h9) rfl dX16_comes_63 ?_
      refine lv_iload_n hx hb dX16_comes_66 rfl (lv_at hl 1 rfl) ?_
      obtain ⟨i12, h⟩ := nd_ck_e h
      refine va_iald (i := v0) hx hb hK hP 23 22 rfl rfl i12 dX16_comes_67 ?_
      refine lv_isub hx hb dX16_comes_68 ?_
      refine lv_if_ge (tgt := 76) hx hb dX16_comes_69 (by decide) (fun c13 => ?_) (fun c13 => ?_)
      · have h := nd_pos h c13
        refine lv_aload_n hx hb dX16_comes_76 rfl (lv_at hl 0 rfl) ?_
        refine va_get (D := (dC, dI)) (ci := 17) (v := .ref (a 30)) (C := RX16) (T := TX16) (N := 56) hx hb hts hi_dm_X16_comes_X16 hown hK hP 0 rfl rfl 39 (by decide) (hts (.fieldLink RX16 100 "TimeMachineModel$Machine" "length" "[I") (List.mem_of_getElem? (i := 4) rfl)) (fun _ h9 => h9) rfl dX16_comes_77 ?_
        refine lv_aload_n hx hb dX16_comes_80 rfl (lv_at hl 0 rfl) ?_
        refine va_get (D := (dC, dI)) (ci := 17) (v := .ref (a 22)) (C := RX16) (T := TX16) (N := 56) hx hb hts hi_dm_X16_comes_X16 hown hK hP 0 rfl rfl 31 (by decide) (hts (.fieldLink RX16 76 "TimeMachineModel$Machine" "thing" "[I") (List.mem_of_getElem? (i := 5) rfl)) (fun _ h9 => h9) rfl dX16_comes_81 ?_
        refine lv_iload_n hx hb dX16_comes_84 rfl (lv_at hl 1 rfl) ?_
        obtain ⟨i14, h⟩ := nd_ck_e h
        refine va_iald (i := v0) hx hb hK hP 22 21 rfl rfl i14 dX16_comes_85 ?_
        obtain ⟨i15, h⟩ := nd_ck_e h
        refine va_iald (i := (sR s0.1 20 (Int32.toNatClampNeg v0))) hx hb hK hP 30 29 rfl rfl i15 dX16_comes_86 ?_
        refine lv_aload_n hx hb dX16_comes_87 rfl (lv_at hl 0 rfl) ?_
        refine va_get (D := (dC, dI)) (ci := 17) (v := .ref (a 23)) (C := RX16) (T := TX16) (N := 56) hx hb hts hi_dm_X16_comes_X16 hown hK hP 0 rfl rfl 32 (by decide) (hts (.fieldLink RX16 79 "TimeMachineModel$Machine" "position" "[I") (List.mem_of_getElem? (i := 6) rfl)) (fun _ h9 => h9) rfl dX16_comes_88 ?_
        refine lv_iload_n hx hb dX16_comes_91 rfl (lv_at hl 1 rfl) ?_
        obtain ⟨i16, h⟩ := nd_ck_e h
        refine va_iald (i := v0) hx hb hK hP 23 22 rfl rfl i16 dX16_comes_92 ?_
        refine lv_isub hx hb dX16_comes_93 ?_
        refine lv_iload_n hx hb dX16_comes_94 rfl (lv_at hl 2 rfl) ?_
        refine lv_icmp_ge (tgt := 119) hx hb dX16_comes_95 (by decide) (fun c17 => ?_) (fun c17 => ?_)
        · have h := nd_pos h c17
          refine lv_iload_n hx hb dX16_comes_119 rfl (lv_at hl 2 rfl) ?_
          exact (db_X16_comes_120 C K) (v1) s0 _ _ _ h hP hD hS (lv_sub hl [] rfl)
        · have h := nd_neg h c17
          refine lv_aload_n hx hb dX16_comes_98 rfl (lv_at hl 0 rfl) ?_
          refine va_get (D := (dC, dI)) (ci := 17) (v := .ref (a 30)) (C := RX16) (T := TX16) (N := 56) hx hb hts hi_dm_X16_comes_X16 hown hK hP 0 rfl rfl 39 (by decide) (hts (.fieldLink RX16 100 "TimeMachineModel$Machine" "length" "[I") (List.mem_of_getElem? (i := 4) rfl)) (fun _ h9 => h9) rfl dX16_comes_99 ?_
          refine lv_aload_n hx hb dX16_comes_102 rfl (lv_at hl 0 rfl) ?_
          refine va_get (D := (dC, dI)) (ci := 17) (v := .ref (a 22)) (C := RX16) (T := TX16) (N := 56) hx hb hts hi_dm_X16_comes_X16 hown hK hP 0 rfl rfl 31 (by decide) (hts (.fieldLink RX16 76 "TimeMachineModel$Machine" "thing" "[I") (List.mem_of_getElem? (i := 5) rfl)) (fun _ h9 => h9) rfl dX16_comes_103 ?_
          refine lv_iload_n hx hb dX16_comes_106 rfl (lv_at hl 1 rfl) ?_
          obtain ⟨i18, h⟩ := nd_ck_e h
          refine va_iald (i := v0) hx hb hK hP 22 21 rfl rfl i18 dX16_comes_107 ?_
          obtain ⟨i19, h⟩ := nd_ck_e h
          refine va_iald (i := (sR s0.1 20 (Int32.toNatClampNeg v0))) hx hb hK hP 30 29 rfl rfl i19 dX16_comes_108 ?_
          refine lv_aload_n hx hb dX16_comes_109 rfl (lv_at hl 0 rfl) ?_
          refine va_get (D := (dC, dI)) (ci := 17) (v := .ref (a 23)) (C := RX16) (T := TX16) (N := 56) hx hb hts hi_dm_X16_comes_X16 hown hK hP 0 rfl rfl 32 (by decide) (hts (.fieldLink RX16 79 "TimeMachineModel$Machine" "position" "[I") (List.mem_of_getElem? (i := 6) rfl)) (fun _ h9 => h9) rfl dX16_comes_110 ?_
          refine lv_iload_n hx hb dX16_comes_113 rfl (lv_at hl 1 rfl) ?_
          obtain ⟨i20, h⟩ := nd_ck_e h
          refine va_iald (i := v0) hx hb hK hP 23 22 rfl rfl i20 dX16_comes_114 ?_
          refine lv_isub hx hb dX16_comes_115 ?_
          refine lv_goto (tgt := 120) hx hb dX16_comes_116 (by decide) ?_
          exact (db_X16_comes_120 C K) (((sR s0.1 28 (Int32.toNatClampNeg (sR s0.1 20 (Int32.toNatClampNeg v0)))) - (sR s0.1 21 (Int32.toNatClampNeg v0)))) s0 _ _ _ h hP hD hS (lv_sub hl [] rfl)
      · have h := nd_neg h c13
        refine lv_iconst (v := 0) hx hb dX16_comes_72 (by decide) ?_
        refine lv_goto (tgt := 120) hx hb dX16_comes_73 (by decide) ?_
        exact (db_X16_comes_120 C K) (0) s0 _ _ _ h hP hD hS (lv_sub hl [] rfl)
  · have h := nd_pos h c2
    refine lv_aload_n hx hb dX16_comes_10 rfl (lv_at hl 0 rfl) ?_
    refine va_get (D := (dC, dI)) (ci := 17) (v := .ref (a 28)) (C := RX16) (T := TX16) (N := 56) hx hb hts hi_dm_X16_comes_X16 hown hK hP 0 rfl rfl 37 (by decide) (hts (.fieldLink RX16 94 "TimeMachineModel$Machine" "piped" "[I") (List.mem_of_getElem? (i := 7) rfl)) (fun _ h9 => h9) rfl dX16_comes_11 ?_
    refine lv_aload_n hx hb dX16_comes_14 rfl (lv_at hl 0 rfl) ?_
    refine va_get (D := (dC, dI)) (ci := 17) (v := .ref (a 22)) (C := RX16) (T := TX16) (N := 56) hx hb hts hi_dm_X16_comes_X16 hown hK hP 0 rfl rfl 31 (by decide) (hts (.fieldLink RX16 76 "TimeMachineModel$Machine" "thing" "[I") (List.mem_of_getElem? (i := 5) rfl)) (fun _ h9 => h9) rfl dX16_comes_15 ?_
    refine lv_iload_n hx hb dX16_comes_18 rfl (lv_at hl 1 rfl) ?_
    obtain ⟨i21, h⟩ := nd_ck_e h
    refine va_iald (i := v0) hx hb hK hP 22 21 rfl rfl i21 dX16_comes_19 ?_
    obtain ⟨i22, h⟩ := nd_ck_e h
    refine va_iald (i := (sR s0.1 20 (Int32.toNatClampNeg v0))) hx hb hK hP 28 27 rfl rfl i22 dX16_comes_20 ?_
    refine lv_iload_n hx hb dX16_comes_21 rfl (lv_at hl 2 rfl) ?_
    refine lv_icmp_ge (tgt := 39) hx hb dX16_comes_22 (by decide) (fun c23 => ?_) (fun c23 => ?_)
    · have h := nd_pos h c23
      refine lv_iload_n hx hb dX16_comes_39 rfl (lv_at hl 2 rfl) ?_
      exact (db_X16_comes_40 C K) (v1) s0 _ _ _ h hP hD hS (lv_sub hl [] rfl)
    · have h := nd_neg h c23
      refine lv_aload_n hx hb dX16_comes_25 rfl (lv_at hl 0 rfl) ?_
      refine va_get (D := (dC, dI)) (ci := 17) (v := .ref (a 28)) (C := RX16) (T := TX16) (N := 56) hx hb hts hi_dm_X16_comes_X16 hown hK hP 0 rfl rfl 37 (by decide) (hts (.fieldLink RX16 94 "TimeMachineModel$Machine" "piped" "[I") (List.mem_of_getElem? (i := 7) rfl)) (fun _ h9 => h9) rfl dX16_comes_26 ?_
      refine lv_aload_n hx hb dX16_comes_29 rfl (lv_at hl 0 rfl) ?_
      refine va_get (D := (dC, dI)) (ci := 17) (v := .ref (a 22)) (C := RX16) (T := TX16) (N := 56) hx hb hts hi_dm_X16_comes_X16 hown hK hP 0 rfl rfl 31 (by decide) (hts (.fieldLink RX16 76 "TimeMachineModel$Machine" "thing" "[I") (List.mem_of_getElem? (i := 5) rfl)) (fun _ h9 => h9) rfl dX16_comes_30 ?_
      refine lv_iload_n hx hb dX16_comes_33 rfl (lv_at hl 1 rfl) ?_
      obtain ⟨i24, h⟩ := nd_ck_e h
      refine va_iald (i := v0) hx hb hK hP 22 21 rfl rfl i24 dX16_comes_34 ?_
      obtain ⟨i25, h⟩ := nd_ck_e h
      refine va_iald (i := (sR s0.1 20 (Int32.toNatClampNeg v0))) hx hb hK hP 28 27 rfl rfl i25 dX16_comes_35 ?_
      refine lv_goto (tgt := 40) hx hb dX16_comes_36 (by decide) ?_
      exact (db_X16_comes_40 C K) ((sR s0.1 26 (Int32.toNatClampNeg (sR s0.1 20 (Int32.toNatClampNeg v0))))) s0 _ _ _ h hP hD hS (lv_sub hl [] rfl)
set_option maxHeartbeats 40000000 in
set_option maxRecDepth 100000 in
theorem dm_X16_comes (l : Launch) (hlt : l.stackTraces = false) (dC : Nat → ClassId) (dI : Nat → Nat → Nat) (a : Nat → Nat) (ac : Nat → ClassId) (n : Nat) (v0 : Int32) (v1 : Int32) (s0 : St × (St)) {r : Int32 × (St × (St))} (h : df_X16_comes n v0 v1 s0 = some r) (sz : Nat) : Met l yX16_comes ow_dm_X16_comes ({ frames := 0, cells := 0, slots := 0, locals := 0 }) (va_Pc [.ref (a 0), .int v0, .int v1] (fun U => U.heap.size = sz ∧ va_P (dC, dI) vwCl (dw_X16 a ac s0) U.heap ∧ va_K (dC, dI) vwCl (dk_X16 ac) U ∧ va_D (fun _ => True) (dw_X16 a ac s0) ∧ nv_E (va_A (dw_X16 a ac s0) sz) U)) (va_Qi (fun x _ => x = r.1) (fun (_ : Unit) t => va_P (dC, dI) vwCl (dw_X16 a ac r.2) t.heap ∧ va_K (dC, dI) vwCl (dk_X16 ac) t ∧ va_D (va_A (dw_X16 a ac s0) sz) (dw_X16 a ac r.2)) (va_A (dw_X16 a ac s0) sz)) 0 0 (va_A (dw_X16 a ac s0) sz) := by
  refine Met.ofW (cc := cX16_comes) (maxL := 4) (ret := (some .int)) (by decide) rfl ?_
  intro p e s m args below meth c s₁ B hml hv
  obtain ⟨rfl, hsz, hP, hK, hD0, hN⟩ := hv
  have hx := B.exec
  have hb := B.bytes
  have hr := B.returns
  have hts := atoms_spec (ws := ow_dm_X16_comes) B.pre
  have hown : s.vm.findClass RX16 = some m.cls := findClass_of_methodNamed B.named
  have hlocks := B.notSynchronized
  subst hsz
  have hD := hD0.self (sz := s.heap.size)
  generalize hAe : va_A (dw_X16 a ac s0) s.heap.size = A at hD hN ⊢
  have hA : ∀ q : Nat, s.heap.size ≤ q → A q := fun q h => by rw [← hAe]; exact Or.inr h
  have hl := lv_entry ([.ref (a 0), .int v0, .int v1]) (n := 4) (Nat.le_of_ble_eq_true rfl)
  rw [lg_entry_eq]
  generalize (lg_sl ([.ref (a 0), .int v0, .int v1]) ++ List.replicate (4 - (lg_sl ([.ref (a 0), .int v0, .int v1])).length) Slot.unset).toArray = ls at hl ⊢
  have hl : lv_has ls 4 [(0, .ref (a 0)), (1, .int v0), (2, .int v1)] := hl
  exact db_X16_comes_0 (dC := dC) (dI := dI) (a := a) (ac := ac) (n := n) (r := r) ⟨hlt, hx, hb, hml, hown, hts, hN, hA, hK⟩ (fun pc v τ H locs ls d z er hP hD hS => by subst er; exact W.zret (v := v) hx hb hr z (fun t ht hW => ⟨⟨v, (), rfl, rfl, by rw [ht]; exact hP, va_K.moved hW.alike hK, hD⟩, hS.F ht⟩) hS.2.2 d) v0 v1 s0 _ _ _ h hP hD va_S.rf (lv_sub hl [0, 1, 2] rfl)
def ow_dm_X16_read : List Cond := .code yX16_read cX16_read 9 (some .int) :: ([.fieldLink RX16 232 "TimeMachineModel$Machine" "p" "I", .methodLink RX16 478 yX16_mayAll, .instanceMethod yX16_mayAll, .selects RX16 yX16_mayAll yX16_mayAll, .initialized RX16, .methodLink RX16 491 yX16_openingOf, .instanceMethod yX16_openingOf, .selects RX16 yX16_openingOf yX16_openingOf, .fieldLink RX16 82 "TimeMachineModel$Machine" "right" "[I", .methodLink RX16 264 yX16_waits, .instanceMethod yX16_waits, .selects RX16 yX16_waits yX16_waits, .methodLink RX16 494 yX16_comes, .instanceMethod yX16_comes, .selects RX16 yX16_comes yX16_comes, .methodLink RX16 394 yX16_wanted, .instanceMethod yX16_wanted, .selects RX16 yX16_wanted yX16_wanted, .methodLink RX16 397 yX16_hasFrames, .instanceMethod yX16_hasFrames, .selects RX16 yX16_hasFrames yX16_hasFrames, .fieldLink RX16 76 "TimeMachineModel$Machine" "thing" "[I", .fieldLink RX16 73 "TimeMachineModel$Machine" "kind" "[I", .fieldLink RX16 122 "TimeMachineModel$Machine" "typed" "I", .fieldLink RX16 109 "TimeMachineModel$Machine" "typedBytes" "[I", .fieldLink RX16 79 "TimeMachineModel$Machine" "position" "[I", .fieldLink RX16 94 "TimeMachineModel$Machine" "piped" "[I", .fieldLink RX16 97 "TimeMachineModel$Machine" "pipeBytes" "[I", .methodLink RX16 400 yX16_write, .instanceMethod yX16_write, .selects RX16 yX16_write yX16_write, .fieldLink RX16 103 "TimeMachineModel$Machine" "fileBytes" "[I", .methodLink RX16 415 yX16_tell, .instanceMethod yX16_tell, .selects RX16 yX16_tell yX16_tell] ++ (u_ws RX16 TX16 56 ++ (ow_dm_X16_mayAll ++ (ow_dm_X16_openingOf ++ (ow_dm_X16_waits ++ (ow_dm_X16_comes ++ (ow_dm_X16_wanted ++ (ow_dm_X16_hasFrames ++ (ow_dm_X16_write ++ (ow_dm_X16_tell ++ []))))))))))
theorem gd_dm_X16_read : ∀ w ∈ ow_dm_X16_read, (w.onTables && w.keeps) = true ∨ ∃ ty, w = Cond.arrayClass ty := List.forall_mem_cons.mpr ⟨good_of_word rfl, List.forall_mem_append.mpr ⟨fun w h => good_of_word (List.all_eq_true.mp (by decide +kernel) w h), List.forall_mem_append.mpr ⟨gu_X16, List.forall_mem_append.mpr ⟨gd_dm_X16_mayAll, List.forall_mem_append.mpr ⟨gd_dm_X16_openingOf, List.forall_mem_append.mpr ⟨gd_dm_X16_waits, List.forall_mem_append.mpr ⟨gd_dm_X16_comes, List.forall_mem_append.mpr ⟨gd_dm_X16_wanted, List.forall_mem_append.mpr ⟨gd_dm_X16_hasFrames, List.forall_mem_append.mpr ⟨gd_dm_X16_write, List.forall_mem_append.mpr ⟨gd_dm_X16_tell, fun _ h => nomatch h⟩⟩⟩⟩⟩⟩⟩⟩⟩⟩⟩
theorem hi_dm_X16_read_X16 : ∀ w ∈ u_ws RX16 TX16 56, w ∈ ow_dm_X16_read := fun w h => List.mem_cons_of_mem _ (List.mem_append_right _ (List.mem_append_left _ h))
theorem gi_dm_X16_read_0 : GoodIn ow_dm_X16_read (wsV RX16 478 RX16 yX16_mayAll ow_dm_X16_mayAll) := goodIn_app (goodIn_of _ (by decide +kernel)) (fun w h => ⟨List.mem_cons_of_mem _ (List.mem_append_right _ (List.mem_append_right _ (List.mem_append_left _ h))), gd_dm_X16_mayAll w h⟩)
theorem gi_dm_X16_read_1 : GoodIn ow_dm_X16_read (wsV RX16 491 RX16 yX16_openingOf ow_dm_X16_openingOf) := goodIn_app (goodIn_of _ (by decide +kernel)) (fun w h => ⟨List.mem_cons_of_mem _ (List.mem_append_right _ (List.mem_append_right _ (List.mem_append_right _ (List.mem_append_left _ h)))), gd_dm_X16_openingOf w h⟩)
theorem gi_dm_X16_read_2 : GoodIn ow_dm_X16_read (wsV RX16 264 RX16 yX16_waits ow_dm_X16_waits) := goodIn_app (goodIn_of _ (by decide +kernel)) (fun w h => ⟨List.mem_cons_of_mem _ (List.mem_append_right _ (List.mem_append_right _ (List.mem_append_right _ (List.mem_append_right _ (List.mem_append_left _ h))))), gd_dm_X16_waits w h⟩)
theorem gi_dm_X16_read_3 : GoodIn ow_dm_X16_read (wsV RX16 494 RX16 yX16_comes ow_dm_X16_comes) := goodIn_app (goodIn_of _ (by decide +kernel)) (fun w h => ⟨List.mem_cons_of_mem _ (List.mem_append_right _ (List.mem_append_right _ (List.mem_append_right _ (List.mem_append_right _ (List.mem_append_right _ (List.mem_append_left _ h)))))), gd_dm_X16_comes w h⟩)
theorem gi_dm_X16_read_4 : GoodIn ow_dm_X16_read (wsV RX16 394 RX16 yX16_wanted ow_dm_X16_wanted) := goodIn_app (goodIn_of _ (by decide +kernel)) (fun w h => ⟨List.mem_cons_of_mem _ (List.mem_append_right _ (List.mem_append_right _ (List.mem_append_right _ (List.mem_append_right _ (List.mem_append_right _ (List.mem_append_right _ (List.mem_append_left _ h))))))), gd_dm_X16_wanted w h⟩)
theorem gi_dm_X16_read_5 : GoodIn ow_dm_X16_read (wsV RX16 397 RX16 yX16_hasFrames ow_dm_X16_hasFrames) := goodIn_app (goodIn_of _ (by decide +kernel)) (fun w h => ⟨List.mem_cons_of_mem _ (List.mem_append_right _ (List.mem_append_right _ (List.mem_append_right _ (List.mem_append_right _ (List.mem_append_right _ (List.mem_append_right _ (List.mem_append_right _ (List.mem_append_left _ h)))))))), gd_dm_X16_hasFrames w h⟩)
theorem gi_dm_X16_read_6 : GoodIn ow_dm_X16_read (wsV RX16 400 RX16 yX16_write ow_dm_X16_write) := goodIn_app (goodIn_of _ (by decide +kernel)) (fun w h => ⟨List.mem_cons_of_mem _ (List.mem_append_right _ (List.mem_append_right _ (List.mem_append_right _ (List.mem_append_right _ (List.mem_append_right _ (List.mem_append_right _ (List.mem_append_right _ (List.mem_append_right _ (List.mem_append_left _ h))))))))), gd_dm_X16_write w h⟩)
theorem gi_dm_X16_read_7 : GoodIn ow_dm_X16_read (wsV RX16 415 RX16 yX16_tell ow_dm_X16_tell) := goodIn_app (goodIn_of _ (by decide +kernel)) (fun w h => ⟨List.mem_cons_of_mem _ (List.mem_append_right _ (List.mem_append_right _ (List.mem_append_right _ (List.mem_append_right _ (List.mem_append_right _ (List.mem_append_right _ (List.mem_append_right _ (List.mem_append_right _ (List.mem_append_right _ (List.mem_append_left _ h)))))))))), gd_dm_X16_tell w h⟩)
def dj_X16_read_11 (p : Program) (l : Launch) (e : Env) (s : State) (m : MethodId) (args : Array Value) (below : List Frame) (meth : Method) (c : Code) (Q : State → Prop) (A : Nat → Prop) (dC : Nat → ClassId) (dI : Nat → Nat → Nat) (a : Nat → Nat) (ac : Nat → ClassId) (g : (St × (St)) → Option (Int32 × (St × (St)))) (r : Int32 × (St × (St))) : Prop := ∀ (s0 : St × (St)) (H : Heap) (locs : List Loc) (ls : Array Slot), g s0 = some r → va_P (dC, dI) vwCl (dw_X16 a ac s0) H → va_D A (dw_X16 a ac s0) → va_S A s.heap H locs → lv_has ls 9 [] → W p l e (headSpec ow_dm_X16_read ({ frames := 3, cells := 0, slots := 0, locals := 71 })).room s m args below meth c H locs 0 0 Q (F0 m 11 ls [])
def dj_X16_read_60 (p : Program) (l : Launch) (e : Env) (s : State) (m : MethodId) (args : Array Value) (below : List Frame) (meth : Method) (c : Code) (Q : State → Prop) (A : Nat → Prop) (dC : Nat → ClassId) (dI : Nat → Nat → Nat) (a : Nat → Nat) (ac : Nat → ClassId) (g : (St × (St)) → Option (Int32 × (St × (St)))) (r : Int32 × (St × (St))) : Prop := ∀ (s0 : St × (St)) (H : Heap) (locs : List Loc) (ls : Array Slot), g s0 = some r → va_P (dC, dI) vwCl (dw_X16 a ac s0) H → va_D A (dw_X16 a ac s0) → va_S A s.heap H locs → lv_has ls 9 [] → W p l e (headSpec ow_dm_X16_read ({ frames := 3, cells := 0, slots := 0, locals := 71 })).room s m args below meth c H locs 0 0 Q (F0 m 60 ls [])
def dj_X16_read_398 (p : Program) (l : Launch) (e : Env) (s : State) (m : MethodId) (args : Array Value) (below : List Frame) (meth : Method) (c : Code) (Q : State → Prop) (A : Nat → Prop) (dC : Nat → ClassId) (dI : Nat → Nat → Nat) (a : Nat → Nat) (ac : Nat → ClassId) (g : Int32 → (St × (St)) → Option (Int32 × (St × (St)))) (r : Int32 × (St × (St))) : Prop := ∀ (x5 : Int32) (s0 : St × (St)) (H : Heap) (locs : List Loc) (ls : Array Slot), g x5 s0 = some r → va_P (dC, dI) vwCl (dw_X16 a ac s0) H → va_D A (dw_X16 a ac s0) → va_S A s.heap H locs → lv_has ls 9 [(5, .int x5)] → W p l e (headSpec ow_dm_X16_read ({ frames := 3, cells := 0, slots := 0, locals := 71 })).room s m args below meth c H locs 0 0 Q (F0 m 398 ls [])
def dj_X16_read_355 (p : Program) (l : Launch) (e : Env) (s : State) (m : MethodId) (args : Array Value) (below : List Frame) (meth : Method) (c : Code) (Q : State → Prop) (A : Nat → Prop) (dC : Nat → ClassId) (dI : Nat → Nat → Nat) (a : Nat → Nat) (ac : Nat → ClassId) (g : Int32 → Int32 → Int32 → (St × (St)) → Option (Int32 × (St × (St)))) (r : Int32 × (St × (St))) : Prop := ∀ (x5 : Int32) (x7 : Int32) (x8 : Int32) (s0 : St × (St)) (H : Heap) (locs : List Loc) (ls : Array Slot), g x5 x7 x8 s0 = some r → va_P (dC, dI) vwCl (dw_X16 a ac s0) H → va_D A (dw_X16 a ac s0) → va_S A s.heap H locs → lv_has ls 9 [(0, .ref (a 0)), (5, .int x5), (7, .int x7), (8, .int x8)] → W p l e (headSpec ow_dm_X16_read ({ frames := 3, cells := 0, slots := 0, locals := 71 })).room s m args below meth c H locs 0 0 Q (F0 m 355 ls [])
def dj_X16_read_349 (p : Program) (l : Launch) (e : Env) (s : State) (m : MethodId) (args : Array Value) (below : List Frame) (meth : Method) (c : Code) (Q : State → Prop) (A : Nat → Prop) (dC : Nat → ClassId) (dI : Nat → Nat → Nat) (a : Nat → Nat) (ac : Nat → ClassId) (g : Int32 → Int32 → (St × (St)) → Option (Int32 × (St × (St)))) (r : Int32 × (St × (St))) : Prop := ∀ (x5 : Int32) (y0 : Int32) (s0 : St × (St)) (H : Heap) (locs : List Loc) (ls : Array Slot), g x5 y0 s0 = some r → va_P (dC, dI) vwCl (dw_X16 a ac s0) H → va_D A (dw_X16 a ac s0) → va_S A s.heap H locs → lv_has ls 9 [(0, .ref (a 0)), (5, .int x5)] → W p l e (headSpec ow_dm_X16_read ({ frames := 3, cells := 0, slots := 0, locals := 71 })).room s m args below meth c H locs 0 0 Q (F0 m 349 ls [.int y0])
def dj_X16_read_347 (p : Program) (l : Launch) (e : Env) (s : State) (m : MethodId) (args : Array Value) (below : List Frame) (meth : Method) (c : Code) (Q : State → Prop) (A : Nat → Prop) (dC : Nat → ClassId) (dI : Nat → Nat → Nat) (a : Nat → Nat) (ac : Nat → ClassId) (g : Int32 → (St × (St)) → Option (Int32 × (St × (St)))) (r : Int32 × (St × (St))) : Prop := ∀ (x5 : Int32) (s0 : St × (St)) (H : Heap) (locs : List Loc) (ls : Array Slot), g x5 s0 = some r → va_P (dC, dI) vwCl (dw_X16 a ac s0) H → va_D A (dw_X16 a ac s0) → va_S A s.heap H locs → lv_has ls 9 [(0, .ref (a 0)), (5, .int x5)] → W p l e (headSpec ow_dm_X16_read ({ frames := 3, cells := 0, slots := 0, locals := 71 })).room s m args below meth c H locs 0 0 Q (F0 m 347 ls [])
def dj_X16_read_235 (p : Program) (l : Launch) (e : Env) (s : State) (m : MethodId) (args : Array Value) (below : List Frame) (meth : Method) (c : Code) (Q : State → Prop) (A : Nat → Prop) (dC : Nat → ClassId) (dI : Nat → Nat → Nat) (a : Nat → Nat) (ac : Nat → ClassId) (g : Int32 → Int32 → Int32 → (St × (St)) → Option (Int32 × (St × (St)))) (r : Int32 × (St × (St))) : Prop := ∀ (x5 : Int32) (x6 : Int32) (x7 : Int32) (s0 : St × (St)) (H : Heap) (locs : List Loc) (ls : Array Slot), g x5 x6 x7 s0 = some r → va_P (dC, dI) vwCl (dw_X16 a ac s0) H → va_D A (dw_X16 a ac s0) → va_S A s.heap H locs → lv_has ls 9 [(0, .ref (a 0)), (5, .int x5), (6, .int x6), (7, .int x7)] → W p l e (headSpec ow_dm_X16_read ({ frames := 3, cells := 0, slots := 0, locals := 71 })).room s m args below meth c H locs 0 0 Q (F0 m 235 ls [])
def dj_X16_read_211 (p : Program) (l : Launch) (e : Env) (s : State) (m : MethodId) (args : Array Value) (below : List Frame) (meth : Method) (c : Code) (Q : State → Prop) (A : Nat → Prop) (dC : Nat → ClassId) (dI : Nat → Nat → Nat) (a : Nat → Nat) (ac : Nat → ClassId) (g : Int32 → Int32 → Int32 → Int32 → Int32 → Int32 → Int32 → Int32 → Int32 → (St × (St)) → Option (Int32 × (St × (St)))) (r : Int32 × (St × (St))) : Prop := ∀ (x2 : Int32) (x3 : Int32) (x4 : Int32) (x5 : Int32) (x6 : Int32) (x7 : Int32) (y1 : Int32) (y2 : Int32) (y3 : Int32) (s0 : St × (St)) (H : Heap) (locs : List Loc) (ls : Array Slot), g x2 x3 x4 x5 x6 x7 y1 y2 y3 s0 = some r → va_P (dC, dI) vwCl (dw_X16 a ac s0) H → va_D A (dw_X16 a ac s0) → va_S A s.heap H locs → lv_has ls 9 [(0, .ref (a 0)), (2, .int x2), (3, .int x3), (4, .int x4), (5, .int x5), (6, .int x6), (7, .int x7)] → W p l e (headSpec ow_dm_X16_read ({ frames := 3, cells := 0, slots := 0, locals := 71 })).room s m args below meth c H locs 0 0 Q (F0 m 211 ls [.int y3, .int y2, .int y1, .ref (a 0)])
def dj_X16_read_124 (p : Program) (l : Launch) (e : Env) (s : State) (m : MethodId) (args : Array Value) (below : List Frame) (meth : Method) (c : Code) (Q : State → Prop) (A : Nat → Prop) (dC : Nat → ClassId) (dI : Nat → Nat → Nat) (a : Nat → Nat) (ac : Nat → ClassId) (g : Int32 → Int32 → Int32 → Int32 → Int32 → Int32 → (St × (St)) → Option (Int32 × (St × (St)))) (r : Int32 × (St × (St))) : Prop := ∀ (x2 : Int32) (x3 : Int32) (x4 : Int32) (x5 : Int32) (x6 : Int32) (x7 : Int32) (s0 : St × (St)) (H : Heap) (locs : List Loc) (ls : Array Slot), g x2 x3 x4 x5 x6 x7 s0 = some r → va_P (dC, dI) vwCl (dw_X16 a ac s0) H → va_D A (dw_X16 a ac s0) → va_S A s.heap H locs → lv_has ls 9 [(0, .ref (a 0)), (2, .int x2), (3, .int x3), (4, .int x4), (5, .int x5), (6, .int x6), (7, .int x7)] → W p l e (headSpec ow_dm_X16_read ({ frames := 3, cells := 0, slots := 0, locals := 71 })).room s m args below meth c H locs 0 0 Q (F0 m 124 ls [])
def dj_X16_read_0 (p : Program) (l : Launch) (e : Env) (s : State) (m : MethodId) (args : Array Value) (below : List Frame) (meth : Method) (c : Code) (Q : State → Prop) (A : Nat → Prop) (dC : Nat → ClassId) (dI : Nat → Nat → Nat) (a : Nat → Nat) (ac : Nat → ClassId) (g : Int32 → Int32 → Int32 → (St × (St)) → Option (Int32 × (St × (St)))) (r : Int32 × (St × (St))) : Prop := ∀ (v0 : Int32) (v1 : Int32) (v2 : Int32) (s0 : St × (St)) (H : Heap) (locs : List Loc) (ls : Array Slot), g v0 v1 v2 s0 = some r → va_P (dC, dI) vwCl (dw_X16 a ac s0) H → va_D A (dw_X16 a ac s0) → va_S A s.heap H locs → lv_has ls 9 [(0, .ref (a 0)), (1, .int v0), (2, .int v1), (3, .int v2)] → W p l e (headSpec ow_dm_X16_read ({ frames := 3, cells := 0, slots := 0, locals := 71 })).room s m args below meth c H locs 0 0 Q (F0 m 0 ls [])
set_option maxHeartbeats 40000000 in
set_option maxRecDepth 100000 in
theorem db_X16_read_11 {p : Program} {l : Launch} {e : Env} {s : State} {m : MethodId} {args : Array Value} {below : List Frame} {meth : Method} {c : Code} {Q : State → Prop} {A : Nat → Prop} {dC : Nat → ClassId} {dI : Nat → Nat → Nat} {a : Nat → Nat} {ac : Nat → ClassId} {n : Nat} {r : Int32 × (St × (St))} (C : nd_C p l s m args c A (dC, dI) cX16_read 9 RX16 ow_dm_X16_read (dk_X16 ac)) (K : nd_Ki p l e (headSpec ow_dm_X16_read ({ frames := 3, cells := 0, slots := 0, locals := 71 })).room s m args below meth c Q A (dC, dI) cX16_read .int (St × (St)) (dw_X16 a ac) r) : dj_X16_read_11 p l e s m args below meth c Q A dC dI a ac (df_X16_read_11 n) r := by
  obtain ⟨hlt, hx, hb, hml, hown, hts, hN, hA, hK⟩ := id C
  intro s0 H locs ls h hP hD hS hl
  unfold df_X16_read_11 at h
  refine lv_bipush (v := (-22)) hx hb dX16_read_11 (by decide) ?_
  exact K _ _ _ _ _ _ dX16_read_13 rfl (Option.some.inj h).symm hP hD hS
set_option maxHeartbeats 40000000 in
set_option maxRecDepth 100000 in
theorem db_X16_read_60 {p : Program} {l : Launch} {e : Env} {s : State} {m : MethodId} {args : Array Value} {below : List Frame} {meth : Method} {c : Code} {Q : State → Prop} {A : Nat → Prop} {dC : Nat → ClassId} {dI : Nat → Nat → Nat} {a : Nat → Nat} {ac : Nat → ClassId} {n : Nat} {r : Int32 × (St × (St))} (C : nd_C p l s m args c A (dC, dI) cX16_read 9 RX16 ow_dm_X16_read (dk_X16 ac)) (K : nd_Ki p l e (headSpec ow_dm_X16_read ({ frames := 3, cells := 0, slots := 0, locals := 71 })).room s m args below meth c Q A (dC, dI) cX16_read .int (St × (St)) (dw_X16 a ac) r) : dj_X16_read_60 p l e s m args below meth c Q A dC dI a ac (df_X16_read_60 n) r := by
  obtain ⟨hlt, hx, hb, hml, hown, hts, hN, hA, hK⟩ := id C
  intro s0 H locs ls h hP hD hS hl
  unfold df_X16_read_60 at h
  refine lv_iconst (v := (-1)) hx hb dX16_read_60 (by decide) ?_
  exact K _ _ _ _ _ _ dX16_read_61 rfl (Option.some.inj h).symm hP hD hS
set_option maxHeartbeats 40000000 in
set_option maxRecDepth 100000 in
theorem db_X16_read_398 {p : Program} {l : Launch} {e : Env} {s : State} {m : MethodId} {args : Array Value} {below : List Frame} {meth : Method} {c : Code} {Q : State → Prop} {A : Nat → Prop} {dC : Nat → ClassId} {dI : Nat → Nat → Nat} {a : Nat → Nat} {ac : Nat → ClassId} {n : Nat} {r : Int32 × (St × (St))} (C : nd_C p l s m args c A (dC, dI) cX16_read 9 RX16 ow_dm_X16_read (dk_X16 ac)) (K : nd_Ki p l e (headSpec ow_dm_X16_read ({ frames := 3, cells := 0, slots := 0, locals := 71 })).room s m args below meth c Q A (dC, dI) cX16_read .int (St × (St)) (dw_X16 a ac) r) : dj_X16_read_398 p l e s m args below meth c Q A dC dI a ac (df_X16_read_398 n) r := by
  obtain ⟨hlt, hx, hb, hml, hown, hts, hN, hA, hK⟩ := id C
  intro x5 s0 H locs ls h hP hD hS hl
  unfold df_X16_read_398 at h
  refine lv_iload hx hb dX16_read_398 (lv_at hl 0 rfl) ?_
  exact K _ _ _ _ _ _ dX16_read_400 rfl (Option.some.inj h).symm hP hD hS
set_option maxHeartbeats 40000000 in
set_option maxRecDepth 100000 in
theorem dB_X16_read_355 {p : Program} {l : Launch} {e : Env} {s : State} {m : MethodId} {args : Array Value} {below : List Frame} {meth : Method} {c : Code} {Q : State → Prop} {A : Nat → Prop} {dC : Nat → ClassId} {dI : Nat → Nat → Nat} {a : Nat → Nat} {ac : Nat → ClassId} {n : Nat} {r : Int32 × (St × (St))} (C : nd_C p l s m args c A (dC, dI) cX16_read 9 RX16 ow_dm_X16_read (dk_X16 ac)) (K : nd_Ki p l e (headSpec ow_dm_X16_read ({ frames := 3, cells := 0, slots := 0, locals := 71 })).room s m args below meth c Q A (dC, dI) cX16_read .int (St × (St)) (dw_X16 a ac) r) {g355 : Int32 → Int32 → Int32 → (St × (St)) → Option (Int32 × (St × (St)))} (J355 : dj_X16_read_355 p l e s m args below meth c Q A dC dI a ac g355 r) : dj_X16_read_355 p l e s m args below meth c Q A dC dI a ac (dF_X16_read_355 n g355) r := by
  obtain ⟨hlt, hx, hb, hml, hown, hts, hN, hA, hK⟩ := id C
  intro x5 x7 x8 s0 H locs ls h hP hD hS hl
  unfold dF_X16_read_355 at h
  refine lv_iload hx hb dX16_read_355 (lv_at hl 3 rfl) ?_
  refine lv_aload_n hx hb dX16_read_357 rfl (lv_at hl 0 rfl) ?_
  refine va_get (D := (dC, dI)) (ci := 17) (v := .int (sI s0.1 7)) (C := RX16) (T := TX16) (N := 56) hx hb hts hi_dm_X16_read_X16 hown hK hP 0 rfl rfl 42 (by decide) (hts (.fieldLink RX16 122 "TimeMachineModel$Machine" "typed" "I") (List.mem_of_getElem? (i := 24) rfl)) (fun _ h9 => h9) rfl dX16_read_358 ?_
  refine lv_icmp_ge (tgt := 387) hx hb dX16_read_361 (by decide) (fun c35 => ?_) (fun c35 => ?_)
  · have h := nd_pos h c35
    refine lv_aload_n hx hb dX16_read_387 rfl (lv_at hl 0 rfl) ?_
    refine lv_dup hx hb dX16_read_388 rfl ?_
    refine va_get (D := (dC, dI)) (ci := 17) (v := .int (sI s0.1 7)) (C := RX16) (T := TX16) (N := 56) hx hb hts hi_dm_X16_read_X16 hown hK hP 0 rfl rfl 42 (by decide) (hts (.fieldLink RX16 122 "TimeMachineModel$Machine" "typed" "I") (List.mem_of_getElem? (i := 24) rfl)) (fun _ h9 => h9) rfl dX16_read_389 ?_
    refine lv_iload hx hb dX16_read_392 (lv_at hl 2 rfl) ?_
    refine lv_isub hx hb dX16_read_394 ?_
    refine va_put (D := (dC, dI)) (ci := 17) (v := .int ((sI s0.1 7) - x7)) (ty := .int) (C := RX16) (T := TX16) (N := 56) hx hb hts hi_dm_X16_read_X16 tyX16 tyX16_ok nmX16 hown hK hP hD hS 0 rfl rfl 42 (by decide) (hts (.fieldLink RX16 122 "TimeMachineModel$Machine" "typed" "I") (List.mem_of_getElem? (i := 24) rfl)) (fun _ h9 => h9) rfl (by decide +kernel) rfl rfl (Nat.le_of_ble_eq_true rfl) dX16_read_395 (fun H locs hP hD hS => ?_)
    obtain ⟨s36, es36, h⟩ := nd_let_e h
    have hP : va_P (dC, dI) vwCl (dw_X16 a ac s36) H := by rw [es36]; exact hP
    have hD : va_D A (dw_X16 a ac s36) := by rw [es36]; exact hD
    exact (db_X16_read_398 C K) (x5) s36 _ _ _ h hP hD hS (lv_sub hl [1] rfl)
  · have h := nd_neg h c35
    refine lv_aload_n hx hb dX16_read_364 rfl (lv_at hl 0 rfl) ?_
    refine va_get (D := (dC, dI)) (ci := 17) (v := .ref (a 33)) (C := RX16) (T := TX16) (N := 56) hx hb hts hi_dm_X16_read_X16 hown hK hP 0 rfl rfl 43 (by decide) (hts (.fieldLink RX16 109 "TimeMachineModel$Machine" "typedBytes" "[I") (List.mem_of_getElem? (i := 25) rfl)) (fun _ h9 => h9) rfl dX16_read_365 ?_
    refine lv_iload hx hb dX16_read_368 (lv_at hl 3 rfl) ?_
    refine lv_iload hx hb dX16_read_370 (lv_at hl 2 rfl) ?_
    refine lv_isub hx hb dX16_read_372 ?_
    refine lv_aload_n hx hb dX16_read_373 rfl (lv_at hl 0 rfl) ?_
    refine va_get (D := (dC, dI)) (ci := 17) (v := .ref (a 33)) (C := RX16) (T := TX16) (N := 56) hx hb hts hi_dm_X16_read_X16 hown hK hP 0 rfl rfl 43 (by decide) (hts (.fieldLink RX16 109 "TimeMachineModel$Machine" "typedBytes" "[I") (List.mem_of_getElem? (i := 25) rfl)) (fun _ h9 => h9) rfl dX16_read_374 ?_
    refine lv_iload hx hb dX16_read_377 (lv_at hl 3 rfl) ?_
    obtain ⟨i37, h⟩ := nd_ck_e h
    refine va_iald (i := x8) hx hb hK hP 33 32 rfl rfl i37 dX16_read_379 ?_
    obtain ⟨i38, h⟩ := nd_ck_e h
    refine va_iast (i := (x8 - x7)) (x := (sR s0.1 31 (Int32.toNatClampNeg x8))) hx hb hK hP hD hS 33 32 rfl rfl i38 dX16_read_380 (fun H locs hP hD hS => ?_)
    obtain ⟨s39, es39, h⟩ := nd_let_e h
    have hP : va_P (dC, dI) vwCl (dw_X16 a ac s39) H := by rw [es39]; exact hP
    have hD : va_D A (dw_X16 a ac s39) := by rw [es39]; exact hD
    obtain ⟨z40, ez40, h⟩ := nd_let_e h
    refine lv_iinc (v := z40) (lv' := [(8, .int z40), (0, .ref (a 0)), (5, .int x5), (7, .int x7)]) hx hb dX16_read_381 hl (k := 3) rfl (by rw [ez40]) (by decide) rfl (fun ls hl => ?_)
    refine lv_goto (tgt := 355) hx hb dX16_read_384 (by decide) ?_
    exact (J355) (x5) (x7) (z40) s39 _ _ _ h hP hD hS (lv_sub hl [1, 2, 3, 0] rfl)
set_option maxHeartbeats 40000000 in
set_option maxRecDepth 100000 in
theorem db_X16_read_355 {p : Program} {l : Launch} {e : Env} {s : State} {m : MethodId} {args : Array Value} {below : List Frame} {meth : Method} {c : Code} {Q : State → Prop} {A : Nat → Prop} {dC : Nat → ClassId} {dI : Nat → Nat → Nat} {a : Nat → Nat} {ac : Nat → ClassId} {n : Nat} {r : Int32 × (St × (St))} (C : nd_C p l s m args c A (dC, dI) cX16_read 9 RX16 ow_dm_X16_read (dk_X16 ac)) (K : nd_Ki p l e (headSpec ow_dm_X16_read ({ frames := 3, cells := 0, slots := 0, locals := 71 })).room s m args below meth c Q A (dC, dI) cX16_read .int (St × (St)) (dw_X16 a ac) r) (k : Nat) : dj_X16_read_355 p l e s m args below meth c Q A dC dI a ac (df_X16_read_355 n k) r := by
  induction k with
  | zero => intro x5 x7 x8 s0 H locs ls h; exact nomatch (show (none : Option (Int32 × (St × (St)))) = some r from h)
  | succ k ih => exact dB_X16_read_355 C K ih
set_option maxHeartbeats 40000000 in
set_option maxRecDepth 100000 in
theorem db_X16_read_349 {p : Program} {l : Launch} {e : Env} {s : State} {m : MethodId} {args : Array Value} {below : List Frame} {meth : Method} {c : Code} {Q : State → Prop} {A : Nat → Prop} {dC : Nat → ClassId} {dI : Nat → Nat → Nat} {a : Nat → Nat} {ac : Nat → ClassId} {n : Nat} {r : Int32 × (St × (St))} (C : nd_C p l s m args c A (dC, dI) cX16_read 9 RX16 ow_dm_X16_read (dk_X16 ac)) (K : nd_Ki p l e (headSpec ow_dm_X16_read ({ frames := 3, cells := 0, slots := 0, locals := 71 })).room s m args below meth c Q A (dC, dI) cX16_read .int (St × (St)) (dw_X16 a ac) r) : dj_X16_read_349 p l e s m args below meth c Q A dC dI a ac (df_X16_read_349 n) r := by
  obtain ⟨hlt, hx, hb, hml, hown, hts, hN, hA, hK⟩ := id C
  intro x5 y0 s0 H locs ls h hP hD hS hl
  unfold df_X16_read_349 at h
  refine lv_istore (lv' := [(7, .int y0), (0, .ref (a 0)), (5, .int x5)]) hx hb dX16_read_349 hl (by decide) rfl (fun ls hl => ?_)
  refine lv_iload hx hb dX16_read_351 (lv_at hl 0 rfl) ?_
  refine lv_istore (lv' := [(8, .int y0), (7, .int y0), (0, .ref (a 0)), (5, .int x5)]) hx hb dX16_read_353 hl (by decide) rfl (fun ls hl => ?_)
  exact (db_X16_read_355 C K n) (x5) (y0) (y0) s0 _ _ _ h hP hD hS (lv_sub hl [2, 3, 1, 0] rfl)
set_option maxHeartbeats 40000000 in
set_option maxRecDepth 100000 in
theorem db_X16_read_347 {p : Program} {l : Launch} {e : Env} {s : State} {m : MethodId} {args : Array Value} {below : List Frame} {meth : Method} {c : Code} {Q : State → Prop} {A : Nat → Prop} {dC : Nat → ClassId} {dI : Nat → Nat → Nat} {a : Nat → Nat} {ac : Nat → ClassId} {n : Nat} {r : Int32 × (St × (St))} (C : nd_C p l s m args c A (dC, dI) cX16_read 9 RX16 ow_dm_X16_read (dk_X16 ac)) (K : nd_Ki p l e (headSpec ow_dm_X16_read ({ frames := 3, cells := 0, slots := 0, locals := 71 })).room s m args below meth c Q A (dC, dI) cX16_read .int (St × (St)) (dw_X16 a ac) r) : dj_X16_read_347 p l e s m args below meth c Q A dC dI a ac (df_X16_read_347 n) r := by
  obtain ⟨hlt, hx, hb, hml, hown, hts, hN, hA, hK⟩ := id C
  intro x5 s0 H locs ls h hP hD hS hl
  unfold df_X16_read_347 at h
  refine lv_iload hx hb dX16_read_347 (lv_at hl 1 rfl) ?_
  exact (db_X16_read_349 C K) (x5) (x5) s0 _ _ _ h hP hD hS (lv_sub hl [0, 1] rfl)
set_option maxHeartbeats 40000000 in
set_option maxRecDepth 100000 in
theorem dB_X16_read_235 {p : Program} {l : Launch} {e : Env} {s : State} {m : MethodId} {args : Array Value} {below : List Frame} {meth : Method} {c : Code} {Q : State → Prop} {A : Nat → Prop} {dC : Nat → ClassId} {dI : Nat → Nat → Nat} {a : Nat → Nat} {ac : Nat → ClassId} {n : Nat} {r : Int32 × (St × (St))} (C : nd_C p l s m args c A (dC, dI) cX16_read 9 RX16 ow_dm_X16_read (dk_X16 ac)) (K : nd_Ki p l e (headSpec ow_dm_X16_read ({ frames := 3, cells := 0, slots := 0, locals := 71 })).room s m args below meth c Q A (dC, dI) cX16_read .int (St × (St)) (dw_X16 a ac) r) {g235 : Int32 → Int32 → Int32 → (St × (St)) → Option (Int32 × (St × (St)))} (J235 : dj_X16_read_235 p l e s m args below meth c Q A dC dI a ac g235 r) : dj_X16_read_235 p l e s m args below meth c Q A dC dI a ac (dF_X16_read_235 n g235) r := by
  obtain ⟨hlt, hx, hb, hml, hown, hts, hN, hA, hK⟩ := id C
  intro x5 x6 x7 s0 H locs ls h hP hD hS hl
  unfold dF_X16_read_235 at h
  refine lv_iload hx hb dX16_read_235 (lv_at hl 3 rfl) ?_
  refine lv_aload_n hx hb dX16_read_237 rfl (lv_at hl 0 rfl) ?_
  refine va_get (D := (dC, dI)) (ci := 17) (v := .ref (a 28)) (C := RX16) (T := TX16) (N := 56) hx hb hts hi_dm_X16_read_X16 hown hK hP 0 rfl rfl 37 (by decide) (hts (.fieldLink RX16 94 "TimeMachineModel$Machine" "piped" "[I") (List.mem_of_getElem? (i := 27) rfl)) (fun _ h9 => h9) rfl dX16_read_238 ?_
  refine lv_iload hx hb dX16_read_241 (lv_at hl 2 rfl) ?_
  obtain ⟨i45, h⟩ := nd_ck_e h
  refine va_iald (i := x6) hx hb hK hP 28 27 rfl rfl i45 dX16_read_243 ?_
  refine lv_icmp_ge (tgt := 284) hx hb dX16_read_244 (by decide) (fun c46 => ?_) (fun c46 => ?_)
  · have h := nd_pos h c46
    refine lv_aload_n hx hb dX16_read_284 rfl (lv_at hl 0 rfl) ?_
    refine va_get (D := (dC, dI)) (ci := 17) (v := .ref (a 28)) (C := RX16) (T := TX16) (N := 56) hx hb hts hi_dm_X16_read_X16 hown hK hP 0 rfl rfl 37 (by decide) (hts (.fieldLink RX16 94 "TimeMachineModel$Machine" "piped" "[I") (List.mem_of_getElem? (i := 27) rfl)) (fun _ h9 => h9) rfl dX16_read_285 ?_
    refine lv_iload hx hb dX16_read_288 (lv_at hl 2 rfl) ?_
    refine lv_dup2_11 hx hb dX16_read_290 rfl rfl ?_
    obtain ⟨i47, h⟩ := nd_ck_e h
    refine va_iald (i := x6) hx hb hK hP 28 27 rfl rfl i47 dX16_read_291 ?_
    refine lv_iload hx hb dX16_read_292 (lv_at hl 1 rfl) ?_
    refine lv_isub hx hb dX16_read_294 ?_
    obtain ⟨i48, h⟩ := nd_ck_e h
    refine va_iast (i := x6) (x := ((sR s0.1 26 (Int32.toNatClampNeg x6)) - x5)) hx hb hK hP hD hS 28 27 rfl rfl i48 dX16_read_295 (fun H locs hP hD hS => ?_)
    obtain ⟨s49, es49, h⟩ := nd_let_e h
    have hP : va_P (dC, dI) vwCl (dw_X16 a ac s49) H := by rw [es49]; exact hP
    have hD : va_D A (dw_X16 a ac s49) := by rw [es49]; exact hD
    refine lv_goto (tgt := 398) hx hb dX16_read_296 (by decide) ?_
    exact (db_X16_read_398 C K) (x5) s49 _ _ _ h hP hD hS (lv_sub hl [1] rfl)
  · have h := nd_neg h c46
    refine lv_aload_n hx hb dX16_read_247 rfl (lv_at hl 0 rfl) ?_
    refine va_get (D := (dC, dI)) (ci := 17) (v := .ref (a 29)) (C := RX16) (T := TX16) (N := 56) hx hb hts hi_dm_X16_read_X16 hown hK hP 0 rfl rfl 38 (by decide) (hts (.fieldLink RX16 97 "TimeMachineModel$Machine" "pipeBytes" "[I") (List.mem_of_getElem? (i := 28) rfl)) (fun _ h9 => h9) rfl dX16_read_248 ?_
    refine lv_sipush (v := 512) hx hb dX16_read_251 (by decide) ?_
    refine lv_iload hx hb dX16_read_254 (lv_at hl 2 rfl) ?_
    refine lv_imul hx hb dX16_read_256 ?_
    refine lv_iload hx hb dX16_read_257 (lv_at hl 3 rfl) ?_
    refine lv_iadd hx hb dX16_read_259 ?_
    refine lv_iload hx hb dX16_read_260 (lv_at hl 1 rfl) ?_
    refine lv_isub hx hb dX16_read_262 ?_
    refine lv_aload_n hx hb dX16_read_263 rfl (lv_at hl 0 rfl) ?_
    refine va_get (D := (dC, dI)) (ci := 17) (v := .ref (a 29)) (C := RX16) (T := TX16) (N := 56) hx hb hts hi_dm_X16_read_X16 hown hK hP 0 rfl rfl 38 (by decide) (hts (.fieldLink RX16 97 "TimeMachineModel$Machine" "pipeBytes" "[I") (List.mem_of_getElem? (i := 28) rfl)) (fun _ h9 => h9) rfl dX16_read_264 ?_
    refine lv_sipush (v := 512) hx hb dX16_read_267 (by decide) ?_
    refine lv_iload hx hb dX16_read_270 (lv_at hl 2 rfl) ?_
    refine lv_imul hx hb dX16_read_272 ?_
    refine lv_iload hx hb dX16_read_273 (lv_at hl 3 rfl) ?_
    refine lv_iadd hx hb dX16_read_275 ?_
    obtain ⟨i50, h⟩ := nd_ck_e h
    refine va_iald (i := ((512 * x6) + x7)) hx hb hK hP 29 28 rfl rfl i50 dX16_read_276 ?_
    obtain ⟨i51, h⟩ := nd_ck_e h
    refine va_iast (i := (((512 * x6) + x7) - x5)) (x := (sR s0.1 27 (Int32.toNatClampNeg ((512 * x6) + x7)))) hx hb hK hP hD hS 29 28 rfl rfl i51 dX16_read_277 (fun H locs hP hD hS => ?_)
    obtain ⟨s52, es52, h⟩ := nd_let_e h
    have hP : va_P (dC, dI) vwCl (dw_X16 a ac s52) H := by rw [es52]; exact hP
    have hD : va_D A (dw_X16 a ac s52) := by rw [es52]; exact hD
    obtain ⟨z53, ez53, h⟩ := nd_let_e h
    refine lv_iinc (v := z53) (lv' := [(7, .int z53), (0, .ref (a 0)), (5, .int x5), (6, .int x6)]) hx hb dX16_read_278 hl (k := 3) rfl (by rw [ez53]) (by decide) rfl (fun ls hl => ?_)
    refine lv_goto (tgt := 235) hx hb dX16_read_281 (by decide) ?_
    exact (J235) (x5) (x6) (z53) s52 _ _ _ h hP hD hS (lv_sub hl [1, 2, 3, 0] rfl)
set_option maxHeartbeats 40000000 in
set_option maxRecDepth 100000 in
theorem db_X16_read_235 {p : Program} {l : Launch} {e : Env} {s : State} {m : MethodId} {args : Array Value} {below : List Frame} {meth : Method} {c : Code} {Q : State → Prop} {A : Nat → Prop} {dC : Nat → ClassId} {dI : Nat → Nat → Nat} {a : Nat → Nat} {ac : Nat → ClassId} {n : Nat} {r : Int32 × (St × (St))} (C : nd_C p l s m args c A (dC, dI) cX16_read 9 RX16 ow_dm_X16_read (dk_X16 ac)) (K : nd_Ki p l e (headSpec ow_dm_X16_read ({ frames := 3, cells := 0, slots := 0, locals := 71 })).room s m args below meth c Q A (dC, dI) cX16_read .int (St × (St)) (dw_X16 a ac) r) (k : Nat) : dj_X16_read_235 p l e s m args below meth c Q A dC dI a ac (df_X16_read_235 n k) r := by
  induction k with
  | zero => intro x5 x6 x7 s0 H locs ls h; exact nomatch (show (none : Option (Int32 × (St × (St)))) = some r from h)
  | succ k ih => exact dB_X16_read_235 C K ih
set_option maxHeartbeats 40000000 in
set_option maxRecDepth 100000 in
theorem db_X16_read_211 {p : Program} {l : Launch} {e : Env} {s : State} {m : MethodId} {args : Array Value} {below : List Frame} {meth : Method} {c : Code} {Q : State → Prop} {A : Nat → Prop} {dC : Nat → ClassId} {dI : Nat → Nat → Nat} {a : Nat → Nat} {ac : Nat → ClassId} {n : Nat} {r : Int32 × (St × (St))} (C : nd_C p l s m args c A (dC, dI) cX16_read 9 RX16 ow_dm_X16_read (dk_X16 ac)) (K : nd_Ki p l e (headSpec ow_dm_X16_read ({ frames := 3, cells := 0, slots := 0, locals := 71 })).room s m args below meth c Q A (dC, dI) cX16_read .int (St × (St)) (dw_X16 a ac) r) {g124 : Int32 → Int32 → Int32 → Int32 → Int32 → Int32 → (St × (St)) → Option (Int32 × (St × (St)))} (J124 : dj_X16_read_124 p l e s m args below meth c Q A dC dI a ac g124 r) : dj_X16_read_211 p l e s m args below meth c Q A dC dI a ac (df_X16_read_211 n g124) r := by
  obtain ⟨hlt, hx, hb, hml, hown, hts, hN, hA, hK⟩ := id C
  intro x2 x3 x4 x5 x6 x7 y1 y2 y3 s0 H locs ls h hP hD hS hl
  unfold df_X16_read_211 at h
  obtain ⟨s60, hq, h⟩ := nd_b1_e h
  have hPc := hP
  have hDc := hD
  have hKc := hK
  have hFc := nd_rs hD hS hA
  refine nd_cVv (As := [.int y1, .int y2, .int y3]) (rest := []) (w' := dw_X16 a ac s60) ⟨hx, hb, hml, hown, hts⟩ (fun sz => dm_X16_write l hlt dC dI a ac n (y1) (y2) (y3) s0 hq sz) (cwV 3 hts gi_dm_X16_read_6 rfl rfl rfl (by decide +kernel) ⟨Nat.le_of_ble_eq_true rfl, Nat.le_of_ble_eq_true rfl⟩) hPc hDc hKc hS hA hN (va_recv hKc hPc (ci := 17) (q0 := 0) rfl rfl) rfl hl.1 rfl (Nat.le_of_ble_eq_true rfl) dX16_read_211 (fun H locs hP1 hD1 hk1 hS => ?_)
  have hP := hP1
  have hD := hD1.weaken (fun k q _ h => hFc q.1 h)
  obtain ⟨z62, ez62, h⟩ := nd_let_e h
  refine lv_iinc (v := z62) (lv' := [(7, .int z62), (0, .ref (a 0)), (2, .int x2), (3, .int x3), (4, .int x4), (5, .int x5), (6, .int x6)]) hx hb dX16_read_214 hl (k := 6) rfl (by rw [ez62]) (by decide) rfl (fun ls hl => ?_)
  refine lv_goto (tgt := 124) hx hb dX16_read_217 (by decide) ?_
  exact (J124) (x2) (x3) (x4) (x5) (x6) (z62) s60 _ _ _ h hP hD hS (lv_sub hl [1, 2, 3, 4, 5, 6, 0] rfl)
set_option maxHeartbeats 40000000 in
set_option maxRecDepth 100000 in
theorem dB_X16_read_124 {p : Program} {l : Launch} {e : Env} {s : State} {m : MethodId} {args : Array Value} {below : List Frame} {meth : Method} {c : Code} {Q : State → Prop} {A : Nat → Prop} {dC : Nat → ClassId} {dI : Nat → Nat → Nat} {a : Nat → Nat} {ac : Nat → ClassId} {n : Nat} {r : Int32 × (St × (St))} (C : nd_C p l s m args c A (dC, dI) cX16_read 9 RX16 ow_dm_X16_read (dk_X16 ac)) (K : nd_Ki p l e (headSpec ow_dm_X16_read ({ frames := 3, cells := 0, slots := 0, locals := 71 })).room s m args below meth c Q A (dC, dI) cX16_read .int (St × (St)) (dw_X16 a ac) r) {g124 : Int32 → Int32 → Int32 → Int32 → Int32 → Int32 → (St × (St)) → Option (Int32 × (St × (St)))} (J124 : dj_X16_read_124 p l e s m args below meth c Q A dC dI a ac g124 r) : dj_X16_read_124 p l e s m args below meth c Q A dC dI a ac (dF_X16_read_124 n g124) r := by
  obtain ⟨hlt, hx, hb, hml, hown, hts, hN, hA, hK⟩ := id C
  intro x2 x3 x4 x5 x6 x7 s0 H locs ls h hP hD hS hl
  unfold dF_X16_read_124 at h
  refine lv_iload hx hb dX16_read_124 (lv_at hl 6 rfl) ?_
  refine lv_iload hx hb dX16_read_126 (lv_at hl 4 rfl) ?_
  refine lv_icmp_ge (tgt := 220) hx hb dX16_read_128 (by decide) (fun c29 => ?_) (fun c29 => ?_)
  · have h := nd_pos h c29
    refine lv_aload_n hx hb dX16_read_220 rfl (lv_at hl 0 rfl) ?_
    refine va_get (D := (dC, dI)) (ci := 17) (v := .ref (a 21)) (C := RX16) (T := TX16) (N := 56) hx hb hts hi_dm_X16_read_X16 hown hK hP 0 rfl rfl 30 (by decide) (hts (.fieldLink RX16 73 "TimeMachineModel$Machine" "kind" "[I") (List.mem_of_getElem? (i := 23) rfl)) (fun _ h9 => h9) rfl dX16_read_221 ?_
    refine lv_iload hx hb dX16_read_224 (lv_at hl 3 rfl) ?_
    obtain ⟨i30, h⟩ := nd_ck_e h
    refine va_iald (i := x4) hx hb hK hP 21 20 rfl rfl i30 dX16_read_226 ?_
    refine lv_iconst (v := 1) hx hb dX16_read_227 (by decide) ?_
    refine lv_icmp_ne (tgt := 299) hx hb dX16_read_228 (by decide) (fun c31 => ?_) (fun c31 => ?_)
    · have h := nd_neg h c31
      refine lv_aload_n hx hb dX16_read_299 rfl (lv_at hl 0 rfl) ?_
      refine va_get (D := (dC, dI)) (ci := 17) (v := .ref (a 21)) (C := RX16) (T := TX16) (N := 56) hx hb hts hi_dm_X16_read_X16 hown hK hP 0 rfl rfl 30 (by decide) (hts (.fieldLink RX16 73 "TimeMachineModel$Machine" "kind" "[I") (List.mem_of_getElem? (i := 23) rfl)) (fun _ h9 => h9) rfl dX16_read_300 ?_
      refine lv_iload hx hb dX16_read_303 (lv_at hl 3 rfl) ?_
      obtain ⟨i32, h⟩ := nd_ck_e h
      refine va_iald (i := x4) hx hb hK hP 21 20 rfl rfl i32 dX16_read_305 ?_
      refine lv_iconst (v := 3) hx hb dX16_read_306 (by decide) ?_
      refine lv_icmp_ne (tgt := 325) hx hb dX16_read_307 (by decide) (fun c33 => ?_) (fun c33 => ?_)
      · have h := nd_neg h c33
        refine lv_iload hx hb dX16_read_325 (lv_at hl 4 rfl) ?_
        refine lv_iload_n hx hb dX16_read_327 rfl (lv_at hl 2 rfl) ?_
        refine lv_icmp_ge (tgt := 347) hx hb dX16_read_328 (by decide) (fun c34 => ?_) (fun c34 => ?_)
        · have h := nd_pos h c34
          exact (db_X16_read_347 C K) (x5) s0 _ _ _ h hP hD hS (lv_sub hl [0, 4] rfl)
        · have h := nd_neg h c34
          refine lv_iload hx hb dX16_read_331 (lv_at hl 4 rfl) ?_
          refine lv_aload_n hx hb dX16_read_333 rfl (lv_at hl 0 rfl) ?_
          refine va_get (D := (dC, dI)) (ci := 17) (v := .int (sI s0.1 7)) (C := RX16) (T := TX16) (N := 56) hx hb hts hi_dm_X16_read_X16 hown hK hP 0 rfl rfl 42 (by decide) (hts (.fieldLink RX16 122 "TimeMachineModel$Machine" "typed" "I") (List.mem_of_getElem? (i := 24) rfl)) (fun _ h9 => h9) rfl dX16_read_334 ?_
          refine lv_icmp_ge (tgt := 347) hx hb dX16_read_337 (by decide) (fun c41 => ?_) (fun c41 => ?_)
          · have h := nd_pos h c41
            exact (db_X16_read_347 C K) (x5) s0 _ _ _ h hP hD hS (lv_sub hl [0, 4] rfl)
          · have h := nd_neg h c41
            refine lv_iload hx hb dX16_read_340 (lv_at hl 4 rfl) ?_
            refine lv_iconst (v := 1) hx hb dX16_read_342 (by decide) ?_
            refine lv_iadd hx hb dX16_read_343 ?_
            refine lv_goto (tgt := 349) hx hb dX16_read_344 (by decide) ?_
            exact (db_X16_read_349 C K) (x5) ((x5 + 1)) s0 _ _ _ h hP hD hS (lv_sub hl [0, 4] rfl)
      · have h := nd_pos h c33
        refine lv_aload_n hx hb dX16_read_310 rfl (lv_at hl 0 rfl) ?_
        refine va_get (D := (dC, dI)) (ci := 17) (v := .ref (a 23)) (C := RX16) (T := TX16) (N := 56) hx hb hts hi_dm_X16_read_X16 hown hK hP 0 rfl rfl 32 (by decide) (hts (.fieldLink RX16 79 "TimeMachineModel$Machine" "position" "[I") (List.mem_of_getElem? (i := 26) rfl)) (fun _ h9 => h9) rfl dX16_read_311 ?_
        refine lv_iload hx hb dX16_read_314 (lv_at hl 3 rfl) ?_
        refine lv_dup2_11 hx hb dX16_read_316 rfl rfl ?_
        obtain ⟨i42, h⟩ := nd_ck_e h
        refine va_iald (i := x4) hx hb hK hP 23 22 rfl rfl i42 dX16_read_317 ?_
        refine lv_iload hx hb dX16_read_318 (lv_at hl 4 rfl) ?_
        refine lv_iadd hx hb dX16_read_320 ?_
        obtain ⟨i43, h⟩ := nd_ck_e h
        refine va_iast (i := x4) (x := ((sR s0.1 21 (Int32.toNatClampNeg x4)) + x5)) hx hb hK hP hD hS 23 22 rfl rfl i43 dX16_read_321 (fun H locs hP hD hS => ?_)
        obtain ⟨s44, es44, h⟩ := nd_let_e h
        have hP : va_P (dC, dI) vwCl (dw_X16 a ac s44) H := by rw [es44]; exact hP
        have hD : va_D A (dw_X16 a ac s44) := by rw [es44]; exact hD
        refine lv_goto (tgt := 398) hx hb dX16_read_322 (by decide) ?_
        exact (db_X16_read_398 C K) (x5) s44 _ _ _ h hP hD hS (lv_sub hl [4] rfl)
    · have h := nd_pos h c31
      refine lv_iload hx hb dX16_read_231 (lv_at hl 4 rfl) ?_
      refine lv_istore (lv' := [(7, .int x5), (0, .ref (a 0)), (2, .int x2), (3, .int x3), (4, .int x4), (5, .int x5), (6, .int x6)]) hx hb dX16_read_233 hl (by decide) rfl (fun ls hl => ?_)
      exact (db_X16_read_235 C K n) (x5) (x6) (x5) s0 _ _ _ h hP hD hS (lv_sub hl [1, 5, 6, 0] rfl)
  · have h := nd_neg h c29
    refine lv_aload_n hx hb dX16_read_131 rfl (lv_at hl 0 rfl) ?_
    refine lv_aload_n hx hb dX16_read_132 rfl (lv_at hl 0 rfl) ?_
    refine va_get (D := (dC, dI)) (ci := 17) (v := .int (sI s0.1 12)) (C := RX16) (T := TX16) (N := 56) hx hb hts hi_dm_X16_read_X16 hown hK hP 0 rfl rfl 51 (by decide) (hts (.fieldLink RX16 232 "TimeMachineModel$Machine" "p" "I") (List.mem_of_getElem? (i := 1) rfl)) (fun _ h9 => h9) rfl dX16_read_133 ?_
    refine lv_iload_n hx hb dX16_read_136 rfl (lv_at hl 1 rfl) ?_
    refine lv_iload hx hb dX16_read_137 (lv_at hl 6 rfl) ?_
    refine lv_iadd hx hb dX16_read_139 ?_
    refine lv_aload_n hx hb dX16_read_140 rfl (lv_at hl 0 rfl) ?_
    refine va_get (D := (dC, dI)) (ci := 17) (v := .ref (a 21)) (C := RX16) (T := TX16) (N := 56) hx hb hts hi_dm_X16_read_X16 hown hK hP 0 rfl rfl 30 (by decide) (hts (.fieldLink RX16 73 "TimeMachineModel$Machine" "kind" "[I") (List.mem_of_getElem? (i := 23) rfl)) (fun _ h9 => h9) rfl dX16_read_141 ?_
    refine lv_iload hx hb dX16_read_144 (lv_at hl 3 rfl) ?_
    obtain ⟨i54, h⟩ := nd_ck_e h
    refine va_iald (i := x4) hx hb hK hP 21 20 rfl rfl i54 dX16_read_146 ?_
    refine lv_iconst (v := 1) hx hb dX16_read_147 (by decide) ?_
    refine lv_icmp_ne (tgt := 168) hx hb dX16_read_148 (by decide) (fun c55 => ?_) (fun c55 => ?_)
    · have h := nd_neg h c55
      refine lv_aload_n hx hb dX16_read_168 rfl (lv_at hl 0 rfl) ?_
      refine va_get (D := (dC, dI)) (ci := 17) (v := .ref (a 21)) (C := RX16) (T := TX16) (N := 56) hx hb hts hi_dm_X16_read_X16 hown hK hP 0 rfl rfl 30 (by decide) (hts (.fieldLink RX16 73 "TimeMachineModel$Machine" "kind" "[I") (List.mem_of_getElem? (i := 23) rfl)) (fun _ h9 => h9) rfl dX16_read_169 ?_
      refine lv_iload hx hb dX16_read_172 (lv_at hl 3 rfl) ?_
      obtain ⟨i56, h⟩ := nd_ck_e h
      refine va_iald (i := x4) hx hb hK hP 21 20 rfl rfl i56 dX16_read_174 ?_
      refine lv_iconst (v := 3) hx hb dX16_read_175 (by decide) ?_
      refine lv_icmp_ne (tgt := 204) hx hb dX16_read_176 (by decide) (fun c57 => ?_) (fun c57 => ?_)
      · have h := nd_neg h c57
        refine lv_aload_n hx hb dX16_read_204 rfl (lv_at hl 0 rfl) ?_
        refine va_get (D := (dC, dI)) (ci := 17) (v := .ref (a 33)) (C := RX16) (T := TX16) (N := 56) hx hb hts hi_dm_X16_read_X16 hown hK hP 0 rfl rfl 43 (by decide) (hts (.fieldLink RX16 109 "TimeMachineModel$Machine" "typedBytes" "[I") (List.mem_of_getElem? (i := 25) rfl)) (fun _ h9 => h9) rfl dX16_read_205 ?_
        refine lv_iload hx hb dX16_read_208 (lv_at hl 6 rfl) ?_
        obtain ⟨i58, h⟩ := nd_ck_e h
        refine va_iald (i := x7) hx hb hK hP 33 32 rfl rfl i58 dX16_read_210 ?_
        exact (db_X16_read_211 C K J124) (x2) (x3) (x4) (x5) (x6) (x7) ((sI s0.1 12)) ((x2 + x7)) ((sR s0.1 31 (Int32.toNatClampNeg x7))) s0 _ _ _ h hP hD hS (lv_sub hl [0, 1, 2, 3, 4, 5, 6] rfl)
      · have h := nd_pos h c57
        refine lv_aload_n hx hb dX16_read_179 rfl (lv_at hl 0 rfl) ?_
        refine va_get (D := (dC, dI)) (ci := 17) (v := .ref (a 31)) (C := RX16) (T := TX16) (N := 56) hx hb hts hi_dm_X16_read_X16 hown hK hP 0 rfl rfl 40 (by decide) (hts (.fieldLink RX16 103 "TimeMachineModel$Machine" "fileBytes" "[I") (List.mem_of_getElem? (i := 32) rfl)) (fun _ h9 => h9) rfl dX16_read_180 ?_
        refine lv_sipush (v := 512) hx hb dX16_read_183 (by decide) ?_
        refine lv_iload hx hb dX16_read_186 (lv_at hl 5 rfl) ?_
        refine lv_imul hx hb dX16_read_188 ?_
        refine lv_aload_n hx hb dX16_read_189 rfl (lv_at hl 0 rfl) ?_
        refine va_get (D := (dC, dI)) (ci := 17) (v := .ref (a 23)) (C := RX16) (T := TX16) (N := 56) hx hb hts hi_dm_X16_read_X16 hown hK hP 0 rfl rfl 32 (by decide) (hts (.fieldLink RX16 79 "TimeMachineModel$Machine" "position" "[I") (List.mem_of_getElem? (i := 26) rfl)) (fun _ h9 => h9) rfl dX16_read_190 ?_
        refine lv_iload hx hb dX16_read_193 (lv_at hl 3 rfl) ?_
        obtain ⟨i63, h⟩ := nd_ck_e h
        refine va_iald (i := x4) hx hb hK hP 23 22 rfl rfl i63 dX16_read_195 ?_
        refine lv_iadd hx hb dX16_read_196 ?_
        refine lv_iload hx hb dX16_read_197 (lv_at hl 6 rfl) ?_
        refine lv_iadd hx hb dX16_read_199 ?_
        obtain ⟨i64, h⟩ := nd_ck_e h
        refine va_iald (i := (((512 * x6) + (sR s0.1 21 (Int32.toNatClampNeg x4))) + x7)) hx hb hK hP 31 30 rfl rfl i64 dX16_read_200 ?_
        refine lv_goto (tgt := 211) hx hb dX16_read_201 (by decide) ?_
        exact (db_X16_read_211 C K J124) (x2) (x3) (x4) (x5) (x6) (x7) ((sI s0.1 12)) ((x2 + x7)) ((sR s0.1 29 (Int32.toNatClampNeg (((512 * x6) + (sR s0.1 21 (Int32.toNatClampNeg x4))) + x7)))) s0 _ _ _ h hP hD hS (lv_sub hl [0, 1, 2, 3, 4, 5, 6] rfl)
    · have h := nd_pos h c55
      refine lv_aload_n hx hb dX16_read_151 rfl (lv_at hl 0 rfl) ?_
      refine va_get (D := (dC, dI)) (ci := 17) (v := .ref (a 29)) (C := RX16) (T := TX16) (N := 56) hx hb hts hi_dm_X16_read_X16 hown hK hP 0 rfl rfl 38 (by decide) (hts (.fieldLink RX16 97 "TimeMachineModel$Machine" "pipeBytes" "[I") (List.mem_of_getElem? (i := 28) rfl)) (fun _ h9 => h9) rfl dX16_read_152 ?_
      refine lv_sipush (v := 512) hx hb dX16_read_155 (by decide) ?_
      refine lv_iload hx hb dX16_read_158 (lv_at hl 5 rfl) ?_
      refine lv_imul hx hb dX16_read_160 ?_
      refine lv_iload hx hb dX16_read_161 (lv_at hl 6 rfl) ?_
      refine lv_iadd hx hb dX16_read_163 ?_
      obtain ⟨i65, h⟩ := nd_ck_e h
      refine va_iald (i := ((512 * x6) + x7)) hx hb hK hP 29 28 rfl rfl i65 dX16_read_164 ?_
      refine lv_goto (tgt := 211) hx hb dX16_read_165 (by decide) ?_
      exact (db_X16_read_211 C K J124) (x2) (x3) (x4) (x5) (x6) (x7) ((sI s0.1 12)) ((x2 + x7)) ((sR s0.1 27 (Int32.toNatClampNeg ((512 * x6) + x7)))) s0 _ _ _ h hP hD hS (lv_sub hl [0, 1, 2, 3, 4, 5, 6] rfl)
set_option maxHeartbeats 40000000 in
set_option maxRecDepth 100000 in
theorem db_X16_read_124 {p : Program} {l : Launch} {e : Env} {s : State} {m : MethodId} {args : Array Value} {below : List Frame} {meth : Method} {c : Code} {Q : State → Prop} {A : Nat → Prop} {dC : Nat → ClassId} {dI : Nat → Nat → Nat} {a : Nat → Nat} {ac : Nat → ClassId} {n : Nat} {r : Int32 × (St × (St))} (C : nd_C p l s m args c A (dC, dI) cX16_read 9 RX16 ow_dm_X16_read (dk_X16 ac)) (K : nd_Ki p l e (headSpec ow_dm_X16_read ({ frames := 3, cells := 0, slots := 0, locals := 71 })).room s m args below meth c Q A (dC, dI) cX16_read .int (St × (St)) (dw_X16 a ac) r) (k : Nat) : dj_X16_read_124 p l e s m args below meth c Q A dC dI a ac (df_X16_read_124 n k) r := by
  induction k with
  | zero => intro x2 x3 x4 x5 x6 x7 s0 H locs ls h; exact nomatch (show (none : Option (Int32 × (St × (St)))) = some r from h)
  | succ k ih => exact dB_X16_read_124 C K ih
set_option maxHeartbeats 40000000 in
set_option maxRecDepth 100000 in
theorem db_X16_read_0 {p : Program} {l : Launch} {e : Env} {s : State} {m : MethodId} {args : Array Value} {below : List Frame} {meth : Method} {c : Code} {Q : State → Prop} {A : Nat → Prop} {dC : Nat → ClassId} {dI : Nat → Nat → Nat} {a : Nat → Nat} {ac : Nat → ClassId} {n : Nat} {r : Int32 × (St × (St))} (C : nd_C p l s m args c A (dC, dI) cX16_read 9 RX16 ow_dm_X16_read (dk_X16 ac)) (K : nd_Ki p l e (headSpec ow_dm_X16_read ({ frames := 3, cells := 0, slots := 0, locals := 71 })).room s m args below meth c Q A (dC, dI) cX16_read .int (St × (St)) (dw_X16 a ac) r) : dj_X16_read_0 p l e s m args below meth c Q A dC dI a ac (df_X16_read_0 n) r := by
  obtain ⟨hlt, hx, hb, hml, hown, hts, hN, hA, hK⟩ := id C
  intro v0 v1 v2 s0 H locs ls h hP hD hS hl
  unfold df_X16_read_0 at h
  refine lv_iload_n hx hb dX16_read_0 rfl (lv_at hl 3 rfl) ?_
  refine lv_if_lt (tgt := 11) hx hb dX16_read_1 (by decide) (fun c1 => ?_) (fun c1 => ?_)
  · have h := nd_pos h c1
    exact (db_X16_read_11 C K)  s0 _ _ _ h hP hD hS (lv_sub hl [] rfl)
  · have h := nd_neg h c1
    refine lv_iload_n hx hb dX16_read_4 rfl (lv_at hl 3 rfl) ?_
    refine lv_sipush (v := 512) hx hb dX16_read_5 (by decide) ?_
    refine lv_icmp_le (tgt := 14) hx hb dX16_read_8 (by decide) (fun c2 => ?_) (fun c2 => ?_)
    · have h := nd_pos h c2
      refine lv_aload_n hx hb dX16_read_14 rfl (lv_at hl 0 rfl) ?_
      refine lv_aload_n hx hb dX16_read_15 rfl (lv_at hl 0 rfl) ?_
      refine va_get (D := (dC, dI)) (ci := 17) (v := .int (sI s0.1 12)) (C := RX16) (T := TX16) (N := 56) hx hb hts hi_dm_X16_read_X16 hown hK hP 0 rfl rfl 51 (by decide) (hts (.fieldLink RX16 232 "TimeMachineModel$Machine" "p" "I") (List.mem_of_getElem? (i := 1) rfl)) (fun _ h9 => h9) rfl dX16_read_16 ?_
      refine lv_iload_n hx hb dX16_read_19 rfl (lv_at hl 2 rfl) ?_
      refine lv_iload_n hx hb dX16_read_20 rfl (lv_at hl 3 rfl) ?_
      refine lv_iconst (v := 2) hx hb dX16_read_21 (by decide) ?_
      obtain ⟨q3, s4, hq, h⟩ := nd_b2_e h
      have hPc := hP
      have hDc := hD
      have hKc := hK
      have hFc := nd_rs hD hS hA
      refine nd_cVi (As := [.int (sI s0.1 12), .int v1, .int v2, .int 2]) (rest := []) (q := q3) (w' := dw_X16 a ac s4) ⟨hx, hb, hml, hown, hts⟩ (fun sz => dm_X16_mayAll l hlt dC dI a ac n ((sI s0.1 12)) (v1) (v2) (2) s0 hq sz) (cwV 4 hts gi_dm_X16_read_0 rfl rfl rfl (by decide +kernel) ⟨Nat.le_of_ble_eq_true rfl, Nat.le_of_ble_eq_true rfl⟩) hPc hDc hKc hS hA hN (va_recv hKc hPc (ci := 17) (q0 := 0) rfl rfl) rfl hl.1 rfl (Nat.le_of_ble_eq_true rfl) dX16_read_22 (fun H locs hP1 hD1 hk1 hS => ?_)
      have hP := hP1
      have hD := hD1.weaken (fun k q _ h => hFc q.1 h)
      refine lv_if_ne (tgt := 31) hx hb dX16_read_25 (by decide) (fun c6 => ?_) (fun c6 => ?_)
      · have h := nd_neg h c6
        refine lv_aload_n hx hb dX16_read_31 rfl (lv_at hl 0 rfl) ?_
        refine lv_aload_n hx hb dX16_read_32 rfl (lv_at hl 0 rfl) ?_
        refine va_get (D := (dC, dI)) (ci := 17) (v := .int (sI s4.1 12)) (C := RX16) (T := TX16) (N := 56) hx hb hts hi_dm_X16_read_X16 hown hK hP 0 rfl rfl 51 (by decide) (hts (.fieldLink RX16 232 "TimeMachineModel$Machine" "p" "I") (List.mem_of_getElem? (i := 1) rfl)) (fun _ h9 => h9) rfl dX16_read_33 ?_
        refine lv_iload_n hx hb dX16_read_36 rfl (lv_at hl 1 rfl) ?_
        obtain ⟨q7, s8, hq, h⟩ := nd_b2_e h
        have hPc := hP
        have hDc := hD
        have hKc := hK
        have hFc := nd_rs hD hS hA
        refine nd_cVi (As := [.int (sI s4.1 12), .int v0]) (rest := []) (q := q7) (w' := dw_X16 a ac s8) ⟨hx, hb, hml, hown, hts⟩ (fun sz => dm_X16_openingOf l hlt dC dI a ac n ((sI s4.1 12)) (v0) s4 hq sz) (cwV 2 hts gi_dm_X16_read_1 rfl rfl rfl (by decide +kernel) ⟨Nat.le_of_ble_eq_true rfl, Nat.le_of_ble_eq_true rfl⟩) hPc hDc hKc hS hA hN (va_recv hKc hPc (ci := 17) (q0 := 0) rfl rfl) rfl hl.1 rfl (Nat.le_of_ble_eq_true rfl) dX16_read_37 (fun H locs hP1 hD1 hk1 hS => ?_)
        have hP := hP1
        have hD := hD1.weaken (fun k q _ h => hFc q.1 h)
        refine lv_istore (lv' := [(4, .int q7), (0, .ref (a 0)), (1, .int v0), (2, .int v1), (3, .int v2)]) hx hb dX16_read_40 hl (by decide) rfl (fun ls hl => ?_)
        refine lv_iload hx hb dX16_read_42 (lv_at hl 0 rfl) ?_
        refine lv_iconst (v := (-1)) hx hb dX16_read_44 (by decide) ?_
        refine lv_icmp_eq (tgt := 60) hx hb dX16_read_45 (by decide) (fun c10 => ?_) (fun c10 => ?_)
        · have h := nd_pos h c10
          exact (db_X16_read_60 C K)  s8 _ _ _ h hP hD hS (lv_sub hl [] rfl)
        · have h := nd_neg h c10
          refine lv_aload_n hx hb dX16_read_48 rfl (lv_at hl 1 rfl) ?_
          refine va_get (D := (dC, dI)) (ci := 17) (v := .ref (a 24)) (C := RX16) (T := TX16) (N := 56) hx hb hts hi_dm_X16_read_X16 hown hK hP 0 rfl rfl 33 (by decide) (hts (.fieldLink RX16 82 "TimeMachineModel$Machine" "right" "[I") (List.mem_of_getElem? (i := 9) rfl)) (fun _ h9 => h9) rfl dX16_read_49 ?_
          refine lv_iload hx hb dX16_read_52 (lv_at hl 0 rfl) ?_
          obtain ⟨i11, h⟩ := nd_ck_e h
          refine va_iald (i := q7) hx hb hK hP 24 23 rfl rfl i11 dX16_read_54 ?_
          refine lv_iconst (v := 1) hx hb dX16_read_55 (by decide) ?_
          refine lv_iand hx hb dX16_read_56 ?_
          refine lv_if_ne (tgt := 62) hx hb dX16_read_57 (by decide) (fun c12 => ?_) (fun c12 => ?_)
          · have h := nd_neg h c12
            refine lv_aload_n hx hb dX16_read_62 rfl (lv_at hl 1 rfl) ?_
            refine lv_iload hx hb dX16_read_63 (lv_at hl 0 rfl) ?_
            refine lv_iconst (v := 1) hx hb dX16_read_65 (by decide) ?_
            refine lv_iload_n hx hb dX16_read_66 rfl (lv_at hl 4 rfl) ?_
            obtain ⟨q13, s14, hq, h⟩ := nd_b2_e h
            have hPc := hP
            have hDc := hD
            have hKc := hK
            have hFc := nd_rs hD hS hA
            refine nd_cVi (As := [.int q7, .int 1, .int v2]) (rest := []) (q := q13) (w' := dw_X16 a ac s14) ⟨hx, hb, hml, hown, hts⟩ (fun sz => dm_X16_waits l hlt dC dI a ac n (q7) (1) (v2) s8 hq sz) (cwV 3 hts gi_dm_X16_read_2 rfl rfl rfl (by decide +kernel) ⟨Nat.le_of_ble_eq_true rfl, Nat.le_of_ble_eq_true rfl⟩) hPc hDc hKc hS hA hN (va_recv hKc hPc (ci := 17) (q0 := 0) rfl rfl) rfl hl.1 rfl (Nat.le_of_ble_eq_true rfl) dX16_read_67 (fun H locs hP1 hD1 hk1 hS => ?_)
            have hP := hP1
            have hD := hD1.weaken (fun k q _ h => hFc q.1 h)
            refine lv_if_eq (tgt := 79) hx hb dX16_read_70 (by decide) (fun c16 => ?_) (fun c16 => ?_)
            · have h := nd_pos h c16
              refine lv_aload_n hx hb dX16_read_79 rfl (lv_at hl 1 rfl) ?_
              refine lv_iload hx hb dX16_read_80 (lv_at hl 0 rfl) ?_
              refine lv_iload_n hx hb dX16_read_82 rfl (lv_at hl 4 rfl) ?_
              obtain ⟨q17, s18, hq, h⟩ := nd_b2_e h
              have hPc := hP
              have hDc := hD
              have hKc := hK
              have hFc := nd_rs hD hS hA
              refine nd_cVi (As := [.int q7, .int v2]) (rest := []) (q := q17) (w' := dw_X16 a ac s18) ⟨hx, hb, hml, hown, hts⟩ (fun sz => dm_X16_comes l hlt dC dI a ac n (q7) (v2) s14 hq sz) (cwV 2 hts gi_dm_X16_read_3 rfl rfl rfl (by decide +kernel) ⟨Nat.le_of_ble_eq_true rfl, Nat.le_of_ble_eq_true rfl⟩) hPc hDc hKc hS hA hN (va_recv hKc hPc (ci := 17) (q0 := 0) rfl rfl) rfl hl.1 rfl (Nat.le_of_ble_eq_true rfl) dX16_read_83 (fun H locs hP1 hD1 hk1 hS => ?_)
              have hP := hP1
              have hD := hD1.weaken (fun k q _ h => hFc q.1 h)
              refine lv_istore (lv' := [(5, .int q17), (4, .int q7), (0, .ref (a 0)), (1, .int v0), (2, .int v1), (3, .int v2)]) hx hb dX16_read_86 hl (by decide) rfl (fun ls hl => ?_)
              refine lv_aload_n hx hb dX16_read_88 rfl (lv_at hl 2 rfl) ?_
              refine lv_aload_n hx hb dX16_read_89 rfl (lv_at hl 2 rfl) ?_
              refine lv_aload_n hx hb dX16_read_90 rfl (lv_at hl 2 rfl) ?_
              refine va_get (D := (dC, dI)) (ci := 17) (v := .int (sI s18.1 12)) (C := RX16) (T := TX16) (N := 56) hx hb hts hi_dm_X16_read_X16 hown hK hP 0 rfl rfl 51 (by decide) (hts (.fieldLink RX16 232 "TimeMachineModel$Machine" "p" "I") (List.mem_of_getElem? (i := 1) rfl)) (fun _ h9 => h9) rfl dX16_read_91 ?_
              refine lv_iload_n hx hb dX16_read_94 rfl (lv_at hl 4 rfl) ?_
              refine lv_iload hx hb dX16_read_95 (lv_at hl 0 rfl) ?_
              obtain ⟨q20, s21, hq, h⟩ := nd_b2_e h
              have hPc := hP
              have hDc := hD
              have hKc := hK
              have hFc := nd_rs hD hS hA
              refine nd_cVi (As := [.int (sI s18.1 12), .int v1, .int q17]) (rest := [.ref (a 0)]) (q := q20) (w' := dw_X16 a ac s21) ⟨hx, hb, hml, hown, hts⟩ (fun sz => dm_X16_wanted l hlt dC dI a ac n ((sI s18.1 12)) (v1) (q17) s18 hq sz) (cwV 3 hts gi_dm_X16_read_4 rfl rfl rfl (by decide +kernel) ⟨Nat.le_of_ble_eq_true rfl, Nat.le_of_ble_eq_true rfl⟩) hPc hDc hKc hS hA hN (va_recv hKc hPc (ci := 17) (q0 := 0) rfl rfl) rfl hl.1 rfl (Nat.le_of_ble_eq_true rfl) dX16_read_97 (fun H locs hP1 hD1 hk1 hS => ?_)
              have hP := hP1
              have hD := hD1.weaken (fun k q _ h => hFc q.1 h)
              obtain ⟨q23, s24, hq, h⟩ := nd_b2_e h
              have hPc := hP
              have hDc := hD
              have hKc := hK
              have hFc := nd_rs hD hS hA
              refine nd_cVi (As := [.int q20]) (rest := []) (q := q23) (w' := dw_X16 a ac s24) ⟨hx, hb, hml, hown, hts⟩ (fun sz => dm_X16_hasFrames l hlt dC dI a ac n (q20) s21 hq sz) (cwV 1 hts gi_dm_X16_read_5 rfl rfl rfl (by decide +kernel) ⟨Nat.le_of_ble_eq_true rfl, Nat.le_of_ble_eq_true rfl⟩) hPc hDc hKc hS hA hN (va_recv hKc hPc (ci := 17) (q0 := 0) rfl rfl) rfl hl.1 rfl (Nat.le_of_ble_eq_true rfl) dX16_read_100 (fun H locs hP1 hD1 hk1 hS => ?_)
              have hP := hP1
              have hD := hD1.weaken (fun k q _ h => hFc q.1 h)
              refine lv_if_ne (tgt := 112) hx hb dX16_read_103 (by decide) (fun c26 => ?_) (fun c26 => ?_)
              · have h := nd_neg h c26
                refine lv_aload_n hx hb dX16_read_112 rfl (lv_at hl 2 rfl) ?_
                refine va_get (D := (dC, dI)) (ci := 17) (v := .ref (a 22)) (C := RX16) (T := TX16) (N := 56) hx hb hts hi_dm_X16_read_X16 hown hK hP 0 rfl rfl 31 (by decide) (hts (.fieldLink RX16 76 "TimeMachineModel$Machine" "thing" "[I") (List.mem_of_getElem? (i := 22) rfl)) (fun _ h9 => h9) rfl dX16_read_113 ?_
                refine lv_iload hx hb dX16_read_116 (lv_at hl 1 rfl) ?_
                obtain ⟨i27, h⟩ := nd_ck_e h
                refine va_iald (i := q7) hx hb hK hP 22 21 rfl rfl i27 dX16_read_118 ?_
                refine lv_topi (fun z28 ez28 => ?_)
                have h := nd_at h ez28
                refine lv_istore (lv' := [(6, .int z28), (5, .int q17), (4, .int q7), (0, .ref (a 0)), (1, .int v0), (2, .int v1), (3, .int v2)]) hx hb dX16_read_119 hl (by decide) rfl (fun ls hl => ?_)
                refine lv_iconst (v := 0) hx hb dX16_read_121 (by decide) ?_
                refine lv_istore (lv' := [(7, .int 0), (6, .int z28), (5, .int q17), (4, .int q7), (0, .ref (a 0)), (1, .int v0), (2, .int v1), (3, .int v2)]) hx hb dX16_read_122 hl (by decide) rfl (fun ls hl => ?_)
                exact (db_X16_read_124 C K n) (v1) (v2) (q7) (q17) (z28) (0) s24 _ _ _ h hP hD hS (lv_sub hl [4, 6, 7, 3, 2, 1, 0] rfl)
              · have h := nd_pos h c26
                refine lv_aload_n hx hb dX16_read_106 rfl (lv_at hl 2 rfl) ?_
                refine lv_iconst (v := 3) hx hb dX16_read_107 (by decide) ?_
                obtain ⟨q66, s67, hq, h⟩ := nd_b2_e h
                have hPc := hP
                have hDc := hD
                have hKc := hK
                have hFc := nd_rs hD hS hA
                refine nd_cVi (As := [.int 3]) (rest := []) (q := q66) (w' := dw_X16 a ac s67) ⟨hx, hb, hml, hown, hts⟩ (fun sz => dm_X16_tell l hlt dC dI a ac n (3) s24 hq sz) (cwV 1 hts gi_dm_X16_read_7 rfl rfl rfl (by decide +kernel) ⟨Nat.le_of_ble_eq_true rfl, Nat.le_of_ble_eq_true rfl⟩) hPc hDc hKc hS hA hN (va_recv hKc hPc (ci := 17) (q0 := 0) rfl rfl) rfl hl.1 rfl (Nat.le_of_ble_eq_true rfl) dX16_read_108 (fun H locs hP1 hD1 hk1 hS => ?_)
                have hP := hP1
                have hD := hD1.weaken (fun k q _ h => hFc q.1 h)
                exact K _ _ _ _ _ _ dX16_read_111 rfl (Option.some.inj h).symm hP hD hS
            · have h := nd_neg h c16
              refine lv_aload_n hx hb dX16_read_73 rfl (lv_at hl 1 rfl) ?_
              refine lv_iconst (v := 1) hx hb dX16_read_74 (by decide) ?_
              obtain ⟨q69, s70, hq, h⟩ := nd_b2_e h
              have hPc := hP
              have hDc := hD
              have hKc := hK
              have hFc := nd_rs hD hS hA
              refine nd_cVi (As := [.int 1]) (rest := []) (q := q69) (w' := dw_X16 a ac s70) ⟨hx, hb, hml, hown, hts⟩ (fun sz => dm_X16_tell l hlt dC dI a ac n (1) s14 hq sz) (cwV 1 hts gi_dm_X16_read_7 rfl rfl rfl (by decide +kernel) ⟨Nat.le_of_ble_eq_true rfl, Nat.le_of_ble_eq_true rfl⟩) hPc hDc hKc hS hA hN (va_recv hKc hPc (ci := 17) (q0 := 0) rfl rfl) rfl hl.1 rfl (Nat.le_of_ble_eq_true rfl) dX16_read_75 (fun H locs hP1 hD1 hk1 hS => ?_)
              have hP := hP1
              have hD := hD1.weaken (fun k q _ h => hFc q.1 h)
              exact K _ _ _ _ _ _ dX16_read_78 rfl (Option.some.inj h).symm hP hD hS
          · have h := nd_pos h c12
            exact (db_X16_read_60 C K)  s8 _ _ _ h hP hD hS (lv_sub hl [] rfl)
      · have h := nd_pos h c6
        refine lv_bipush (v := (-14)) hx hb dX16_read_28 (by decide) ?_
        exact K _ _ _ _ _ _ dX16_read_30 rfl (Option.some.inj h).symm hP hD hS
    · have h := nd_neg h c2
      exact (db_X16_read_11 C K)  s0 _ _ _ h hP hD hS (lv_sub hl [] rfl)
set_option maxHeartbeats 40000000 in
set_option maxRecDepth 100000 in
theorem dm_X16_read (l : Launch) (hlt : l.stackTraces = false) (dC : Nat → ClassId) (dI : Nat → Nat → Nat) (a : Nat → Nat) (ac : Nat → ClassId) (n : Nat) (v0 : Int32) (v1 : Int32) (v2 : Int32) (s0 : St × (St)) {r : Int32 × (St × (St))} (h : df_X16_read n v0 v1 v2 s0 = some r) (sz : Nat) : Met l yX16_read ow_dm_X16_read ({ frames := 3, cells := 0, slots := 0, locals := 71 }) (va_Pc [.ref (a 0), .int v0, .int v1, .int v2] (fun U => U.heap.size = sz ∧ va_P (dC, dI) vwCl (dw_X16 a ac s0) U.heap ∧ va_K (dC, dI) vwCl (dk_X16 ac) U ∧ va_D (fun _ => True) (dw_X16 a ac s0) ∧ nv_E (va_A (dw_X16 a ac s0) sz) U)) (va_Qi (fun x _ => x = r.1) (fun (_ : Unit) t => va_P (dC, dI) vwCl (dw_X16 a ac r.2) t.heap ∧ va_K (dC, dI) vwCl (dk_X16 ac) t ∧ va_D (va_A (dw_X16 a ac s0) sz) (dw_X16 a ac r.2)) (va_A (dw_X16 a ac s0) sz)) 0 0 (va_A (dw_X16 a ac s0) sz) := by
  refine Met.ofW (cc := cX16_read) (maxL := 9) (ret := (some .int)) (by decide) rfl ?_
  intro p e s m args below meth c s₁ B hml hv
  obtain ⟨rfl, hsz, hP, hK, hD0, hN⟩ := hv
  have hx := B.exec
  have hb := B.bytes
  have hr := B.returns
  have hts := atoms_spec (ws := ow_dm_X16_read) B.pre
  have hown : s.vm.findClass RX16 = some m.cls := findClass_of_methodNamed B.named
  have hlocks := B.notSynchronized
  subst hsz
  have hD := hD0.self (sz := s.heap.size)
  generalize hAe : va_A (dw_X16 a ac s0) s.heap.size = A at hD hN ⊢
  have hA : ∀ q : Nat, s.heap.size ≤ q → A q := fun q h => by rw [← hAe]; exact Or.inr h
  have hl := lv_entry ([.ref (a 0), .int v0, .int v1, .int v2]) (n := 9) (Nat.le_of_ble_eq_true rfl)
  rw [lg_entry_eq]
  generalize (lg_sl ([.ref (a 0), .int v0, .int v1, .int v2]) ++ List.replicate (9 - (lg_sl ([.ref (a 0), .int v0, .int v1, .int v2])).length) Slot.unset).toArray = ls at hl ⊢
  have hl : lv_has ls 9 [(0, .ref (a 0)), (1, .int v0), (2, .int v1), (3, .int v2)] := hl
  exact db_X16_read_0 (dC := dC) (dI := dI) (a := a) (ac := ac) (n := n) (r := r) ⟨hlt, hx, hb, hml, hown, hts, hN, hA, hK⟩ (fun pc v τ H locs ls d z er hP hD hS => by subst er; exact W.zret (v := v) hx hb hr z (fun t ht hW => ⟨⟨v, (), rfl, rfl, by rw [ht]; exact hP, va_K.moved hW.alike hK, hD⟩, hS.F ht⟩) hS.2.2 d) v0 v1 v2 s0 _ _ _ h hP hD va_S.rf (lv_sub hl [0, 1, 2, 3] rfl)
