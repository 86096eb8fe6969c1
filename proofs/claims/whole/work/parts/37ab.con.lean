set_option maxHeartbeats 40000000 in
set_option maxRecDepth 100000 in
theorem dm_X2_takeOperand (l : Launch) (hlt : l.stackTraces = false) (dC : Nat → ClassId) (dI : Nat → Nat → Nat) (a : Nat → Nat) (ac : Nat → ClassId) (n : Nat) (s0 : St × (St)) {r : Int32 × (St × (St))} (h : df_X2_takeOperand n (a 0) s0 = some r) (sz : Nat) : Met l yX2_takeOperand ow_dm_X2_takeOperand ({ frames := 8, cells := 0, slots := 0, locals := 175 }) (va_Pc [.ref (a 1)] (fun U => U.heap.size = sz ∧ va_P (dC, dI) vwCl (dw_X2s a ac s0) U.heap ∧ va_K (dC, dI) vwCl (dk_X2s ac) U ∧ va_D (fun _ => True) (dw_X2s a ac s0) ∧ nv_E dI (va_A (dw_X2s a ac s0) sz) U)) (va_Qi (fun x _ => x = r.1) (fun (_ : Unit) t => va_P (dC, dI) vwCl (dw_X2s a ac r.2) t.heap ∧ va_K (dC, dI) vwCl (dk_X2s ac) t ∧ va_D (va_A (dw_X2s a ac s0) sz) (dw_X2s a ac r.2)) (va_A (dw_X2s a ac s0) sz)) 0 0 (va_A (dw_X2s a ac s0) sz) := by
  refine Met.ofW (cc := cX2_takeOperand) (maxL := 2) (ret := (some .boolean)) (by decide) rfl ?_
  intro p e s m args below meth c s₁ B hml hv
  obtain ⟨rfl, hsz, hP, hK, hD0, hN⟩ := hv
  have hx := B.exec
  have hb := B.bytes
  have hr := B.returns
  have hts := atoms_spec (ws := ow_dm_X2_takeOperand) B.pre
  have hown : s.vm.findClass RX2 = some m.cls := findClass_of_methodNamed B.named
  have hlocks := B.notSynchronized
  subst hsz
  have hD := hD0.self (sz := s.heap.size)
  generalize hAe : va_A (dw_X2s a ac s0) s.heap.size = A at hD hN ⊢
  have hA : ∀ q : Nat, s.heap.size ≤ q → A q := fun q h => by rw [← hAe]; exact Or.inr h
  have hl := lv_entry ([.ref (a 1)]) (n := 2) (Nat.le_of_ble_eq_true rfl)
  rw [lg_entry_eq]
  generalize (lg_sl ([.ref (a 1)]) ++ List.replicate (2 - (lg_sl ([.ref (a 1)])).length) Slot.unset).toArray = ls at hl ⊢
  have hl : lv_has ls 2 [(0, .ref (a 1))] := hl
  exact db_X2_takeOperand_0 (dC := dC) (dI := dI) (a := a) (ac := ac) (n := n) (r := r) ⟨hlt, hx, hb, hml, hown, hts, hN, hA, hK⟩ (fun pc v τ H locs ls d z er hP hD hS => by subst er; exact W.zret (v := v) hx hb hr z (fun t ht hW => ⟨⟨v, (), rfl, rfl, by rw [ht]; exact hP, va_K.moved hW.alike hK, hD⟩, hS.F ht⟩) hS.2.2 d) s0 _ _ _ h hP hD va_S.rf (lv_sub hl [0] rfl)
def ow_dm_X2_read : List Cond := Cond.code yX2_read cX2_read 4 none :: ([Cond.methodLink RX2 70 yX2_next, Cond.instanceMethod yX2_next, Cond.selects RX2 yX2_next yX2_next, Cond.initialized RX2, Cond.fieldLink RX2 64 "TimeMachine$Condition" "fault" "I", Cond.fieldLink RX2 77 "TimeMachine$Condition" "kind" "I", Cond.methodLink RX2 87 yX2_takeOperator, Cond.instanceMethod yX2_takeOperator, Cond.selects RX2 yX2_takeOperator yX2_takeOperator, Cond.methodLink RX2 80 yX2_popTo, Cond.instanceMethod yX2_popTo, Cond.selects RX2 yX2_popTo yX2_popTo, Cond.fieldLink RX2 55 "TimeMachine$Condition" "top" "I", Cond.methodLink RX2 84 yX2_blame, Cond.instanceMethod yX2_blame, Cond.selects RX2 yX2_blame yX2_blame, Cond.methodLink RX2 73 yX2_takeOperand, Cond.instanceMethod yX2_takeOperand, Cond.selects RX2 yX2_takeOperand yX2_takeOperand] ++ (u_ws RX2 TX2 20 ++ (ow_dm_X2_next ++ (ow_dm_X2_takeOperator ++ (ow_dm_X2_popTo ++ (ow_dm_X2_blame ++ (ow_dm_X2_takeOperand ++ [])))))))
theorem gd_dm_X2_read : ∀ w ∈ ow_dm_X2_read, (w.onTables && w.keeps) = true ∨ ∃ ty, w = Cond.arrayClass ty := List.forall_mem_cons.mpr ⟨good_of_word rfl, List.forall_mem_append.mpr ⟨fun w h => good_of_word (List.all_eq_true.mp (by decide +kernel) w h), List.forall_mem_append.mpr ⟨gu_X2, List.forall_mem_append.mpr ⟨gd_dm_X2_next, List.forall_mem_append.mpr ⟨gd_dm_X2_takeOperator, List.forall_mem_append.mpr ⟨gd_dm_X2_popTo, List.forall_mem_append.mpr ⟨gd_dm_X2_blame, List.forall_mem_append.mpr ⟨gd_dm_X2_takeOperand, fun _ h => nomatch h⟩⟩⟩⟩⟩⟩⟩⟩
theorem hi_dm_X2_read_X2 : ∀ w ∈ u_ws RX2 TX2 20, w ∈ ow_dm_X2_read := fun w h => List.mem_cons_of_mem _ (List.mem_append_right _ (List.mem_append_left _ h))
theorem gi_dm_X2_read_0 : GoodIn ow_dm_X2_read (wsV RX2 70 RX2 yX2_next ow_dm_X2_next) := goodIn_app (goodIn_of _ (by decide +kernel)) (fun w h => ⟨List.mem_cons_of_mem _ (List.mem_append_right _ (List.mem_append_right _ (List.mem_append_left _ h))), gd_dm_X2_next w h⟩)
theorem gi_dm_X2_read_1 : GoodIn ow_dm_X2_read (wsV RX2 87 RX2 yX2_takeOperator ow_dm_X2_takeOperator) := goodIn_app (goodIn_of _ (by decide +kernel)) (fun w h => ⟨List.mem_cons_of_mem _ (List.mem_append_right _ (List.mem_append_right _ (List.mem_append_right _ (List.mem_append_left _ h)))), gd_dm_X2_takeOperator w h⟩)
theorem gi_dm_X2_read_2 : GoodIn ow_dm_X2_read (wsV RX2 80 RX2 yX2_popTo ow_dm_X2_popTo) := goodIn_app (goodIn_of _ (by decide +kernel)) (fun w h => ⟨List.mem_cons_of_mem _ (List.mem_append_right _ (List.mem_append_right _ (List.mem_append_right _ (List.mem_append_right _ (List.mem_append_left _ h))))), gd_dm_X2_popTo w h⟩)
theorem gi_dm_X2_read_3 : GoodIn ow_dm_X2_read (wsV RX2 84 RX2 yX2_blame ow_dm_X2_blame) := goodIn_app (goodIn_of _ (by decide +kernel)) (fun w h => ⟨List.mem_cons_of_mem _ (List.mem_append_right _ (List.mem_append_right _ (List.mem_append_right _ (List.mem_append_right _ (List.mem_append_right _ (List.mem_append_left _ h)))))), gd_dm_X2_blame w h⟩)
theorem gi_dm_X2_read_4 : GoodIn ow_dm_X2_read (wsV RX2 73 RX2 yX2_takeOperand ow_dm_X2_takeOperand) := goodIn_app (goodIn_of _ (by decide +kernel)) (fun w h => ⟨List.mem_cons_of_mem _ (List.mem_append_right _ (List.mem_append_right _ (List.mem_append_right _ (List.mem_append_right _ (List.mem_append_right _ (List.mem_append_right _ (List.mem_append_left _ h))))))), gd_dm_X2_takeOperand w h⟩)
def dj_X2_read_78 (p : Program) (l : Launch) (e : Env) (s : State) (m : MethodId) (args : Array Value) (below : List Frame) (meth : Method) (c : Code) (Q : State → Prop) (A : Nat → Prop) (dC : Nat → ClassId) (dI : Nat → Nat → Nat) (a : Nat → Nat) (ac : Nat → ClassId) (g : (St × (St)) → Option (St × (St))) (r : St × (St)) : Prop := ∀ (s0 : St × (St)) (H : Heap) (locs : List Loc) (ls : Array Slot), g s0 = some r → va_P (dC, dI) vwCl (dw_X2s a ac s0) H → va_D A (dw_X2s a ac s0) → va_S A s.heap H locs → lv_has ls 4 [] → W p l e (headSpec ow_dm_X2_read ({ frames := 9, cells := 0, slots := 0, locals := 196 })).room s m args below meth c H locs 0 0 Q (F0 m 78 ls [])
def dj_X2_read_72 (p : Program) (l : Launch) (e : Env) (s : State) (m : MethodId) (args : Array Value) (below : List Frame) (meth : Method) (c : Code) (Q : State → Prop) (A : Nat → Prop) (dC : Nat → ClassId) (dI : Nat → Nat → Nat) (a : Nat → Nat) (ac : Nat → ClassId) (g : Int32 → Int32 → Int32 → (St × (St)) → Option (St × (St))) (r : St × (St)) : Prop := ∀ (x1 : Int32) (x2 : Int32) (x3 : Int32) (s0 : St × (St)) (H : Heap) (locs : List Loc) (ls : Array Slot), g x1 x2 x3 s0 = some r → va_P (dC, dI) vwCl (dw_X2s a ac s0) H → va_D A (dw_X2s a ac s0) → va_S A s.heap H locs → lv_has ls 4 [(0, .ref (a 1)), (1, .int x1), (2, .int x2), (3, .int x3)] → W p l e (headSpec ow_dm_X2_read ({ frames := 9, cells := 0, slots := 0, locals := 196 })).room s m args below meth c H locs 0 0 Q (F0 m 72 ls [])
def dj_X2_read_11 (p : Program) (l : Launch) (e : Env) (s : State) (m : MethodId) (args : Array Value) (below : List Frame) (meth : Method) (c : Code) (Q : State → Prop) (A : Nat → Prop) (dC : Nat → ClassId) (dI : Nat → Nat → Nat) (a : Nat → Nat) (ac : Nat → ClassId) (g : Int32 → Int32 → Int32 → (St × (St)) → Option (St × (St))) (r : St × (St)) : Prop := ∀ (x1 : Int32) (x2 : Int32) (x3 : Int32) (s0 : St × (St)) (H : Heap) (locs : List Loc) (ls : Array Slot), g x1 x2 x3 s0 = some r → va_P (dC, dI) vwCl (dw_X2s a ac s0) H → va_D A (dw_X2s a ac s0) → va_S A s.heap H locs → lv_has ls 4 [(0, .ref (a 1)), (1, .int x1), (2, .int x2), (3, .int x3)] → W p l e (headSpec ow_dm_X2_read ({ frames := 9, cells := 0, slots := 0, locals := 196 })).room s m args below meth c H locs 0 0 Q (F0 m 11 ls [])
def dj_X2_read_0 (p : Program) (l : Launch) (e : Env) (s : State) (m : MethodId) (args : Array Value) (below : List Frame) (meth : Method) (c : Code) (Q : State → Prop) (A : Nat → Prop) (dC : Nat → ClassId) (dI : Nat → Nat → Nat) (a : Nat → Nat) (ac : Nat → ClassId) (g : (St × (St)) → Option (St × (St))) (r : St × (St)) : Prop := ∀ (s0 : St × (St)) (H : Heap) (locs : List Loc) (ls : Array Slot), g s0 = some r → va_P (dC, dI) vwCl (dw_X2s a ac s0) H → va_D A (dw_X2s a ac s0) → va_S A s.heap H locs → lv_has ls 4 [(0, .ref (a 1))] → W p l e (headSpec ow_dm_X2_read ({ frames := 9, cells := 0, slots := 0, locals := 196 })).room s m args below meth c H locs 0 0 Q (F0 m 0 ls [])
set_option maxHeartbeats 40000000 in
set_option maxRecDepth 100000 in
theorem db_X2_read_78 {p : Program} {l : Launch} {e : Env} {s : State} {m : MethodId} {args : Array Value} {below : List Frame} {meth : Method} {c : Code} {Q : State → Prop} {A : Nat → Prop} {dC : Nat → ClassId} {dI : Nat → Nat → Nat} {a : Nat → Nat} {ac : Nat → ClassId} {n : Nat} {r : St × (St)} (C : nd_C p l s m args c A (dC, dI) cX2_read 4 RX2 ow_dm_X2_read (dk_X2s ac)) (K : nd_Kv p l e (headSpec ow_dm_X2_read ({ frames := 9, cells := 0, slots := 0, locals := 196 })).room s m args below meth c Q A (dC, dI) cX2_read (St × (St)) (dw_X2s a ac) r) : dj_X2_read_78 p l e s m args below meth c Q A dC dI a ac (df_X2_read_78 n (a 0)) r := by
  obtain ⟨hlt, hx, hb, hml, hown, hts, hN, hA, hK⟩ := id C
  intro s0 H locs ls h hP hD hS hl
  unfold df_X2_read_78 at h
  exact K _ _ _ _ _ dX2_read_78 (Option.some.inj h).symm hP hD hS
set_option maxHeartbeats 40000000 in
set_option maxRecDepth 100000 in
theorem db_X2_read_72 {p : Program} {l : Launch} {e : Env} {s : State} {m : MethodId} {args : Array Value} {below : List Frame} {meth : Method} {c : Code} {Q : State → Prop} {A : Nat → Prop} {dC : Nat → ClassId} {dI : Nat → Nat → Nat} {a : Nat → Nat} {ac : Nat → ClassId} {n : Nat} {r : St × (St)} (C : nd_C p l s m args c A (dC, dI) cX2_read 4 RX2 ow_dm_X2_read (dk_X2s ac)) (K : nd_Kv p l e (headSpec ow_dm_X2_read ({ frames := 9, cells := 0, slots := 0, locals := 196 })).room s m args below meth c Q A (dC, dI) cX2_read (St × (St)) (dw_X2s a ac) r) {g11 : Int32 → Int32 → Int32 → (St × (St)) → Option (St × (St))} (J11 : dj_X2_read_11 p l e s m args below meth c Q A dC dI a ac g11 r) : dj_X2_read_72 p l e s m args below meth c Q A dC dI a ac (df_X2_read_72 n (a 0) g11) r := by
  obtain ⟨hlt, hx, hb, hml, hown, hts, hN, hA, hK⟩ := id C
  intro x1 x2 x3 s0 H locs ls h hP hD hS hl
  unfold df_X2_read_72 at h
  obtain ⟨z12, ez12, h⟩ := nd_let_e h
  refine lv_iinc (v := z12) (lv' := [(3, .int z12), (0, .ref (a 1)), (1, .int x1), (2, .int x2)]) hx hb dX2_read_72 hl (k := 3) rfl (by rw [ez12]) (by decide) rfl (fun ls hl => ?_)
  refine lv_goto (tgt := 11) hx hb dX2_read_75 (by decide) ?_
  exact (J11) (x1) (x2) (z12) s0 _ _ _ h hP hD hS (lv_sub hl [1, 2, 3, 0] rfl)
set_option maxHeartbeats 40000000 in
set_option maxRecDepth 100000 in
theorem dB_X2_read_11 {p : Program} {l : Launch} {e : Env} {s : State} {m : MethodId} {args : Array Value} {below : List Frame} {meth : Method} {c : Code} {Q : State → Prop} {A : Nat → Prop} {dC : Nat → ClassId} {dI : Nat → Nat → Nat} {a : Nat → Nat} {ac : Nat → ClassId} {n : Nat} {r : St × (St)} (C : nd_C p l s m args c A (dC, dI) cX2_read 4 RX2 ow_dm_X2_read (dk_X2s ac)) (K : nd_Kv p l e (headSpec ow_dm_X2_read ({ frames := 9, cells := 0, slots := 0, locals := 196 })).room s m args below meth c Q A (dC, dI) cX2_read (St × (St)) (dw_X2s a ac) r) {g11 : Int32 → Int32 → Int32 → (St × (St)) → Option (St × (St))} (J11 : dj_X2_read_11 p l e s m args below meth c Q A dC dI a ac g11 r) : dj_X2_read_11 p l e s m args below meth c Q A dC dI a ac (dF_X2_read_11 n (a 0) g11) r := by
  obtain ⟨hlt, hx, hb, hml, hown, hts, hN, hA, hK⟩ := id C
  intro x1 x2 x3 s0 H locs ls h hP hD hS hl
  unfold dF_X2_read_11 at h
  refine lv_iload_n hx hb dX2_read_11 rfl (lv_at hl 3 rfl) ?_
  refine lv_if_le (tgt := 78) hx hb dX2_read_12 (by decide) (fun c4 => ?_) (fun c4 => ?_)
  · have h := nd_pos h c4
    exact (db_X2_read_78 C K)  s0 _ _ _ h hP hD hS (lv_sub hl [] rfl)
  · have h := nd_neg h c4
    refine lv_iload_n hx hb dX2_read_15 rfl (lv_at hl 2 rfl) ?_
    refine lv_if_eq (tgt := 78) hx hb dX2_read_16 (by decide) (fun c5 => ?_) (fun c5 => ?_)
    · have h := nd_pos h c5
      exact (db_X2_read_78 C K)  s0 _ _ _ h hP hD hS (lv_sub hl [] rfl)
    · have h := nd_neg h c5
      refine lv_aload_n hx hb dX2_read_19 rfl (lv_at hl 0 rfl) ?_
      refine va_get (D := (dC, dI)) (ci := 3) (v := .int (sI s0.2 8)) (C := RX2) (T := TX2) (N := 20) hx hb hts hi_dm_X2_read_X2 hown hK hP 1 rfl rfl 18 (by decide) (hts (.fieldLink RX2 64 "TimeMachine$Condition" "fault" "I") (List.mem_of_getElem? (i := 5) rfl)) (fun _ h9 => h9) rfl dX2_read_20 ?_
      refine lv_if_ne (tgt := 78) hx hb dX2_read_23 (by decide) (fun c6 => ?_) (fun c6 => ?_)
      · have h := nd_neg h c6
        exact (db_X2_read_78 C K)  s0 _ _ _ h hP hD hS (lv_sub hl [] rfl)
      · have h := nd_pos h c6
        refine lv_iload_n hx hb dX2_read_26 rfl (lv_at hl 1 rfl) ?_
        refine lv_if_eq (tgt := 38) hx hb dX2_read_27 (by decide) (fun c7 => ?_) (fun c7 => ?_)
        · have h := nd_pos h c7
          refine lv_aload_n hx hb dX2_read_38 rfl (lv_at hl 0 rfl) ?_
          refine va_get (D := (dC, dI)) (ci := 3) (v := .int (sI s0.2 6)) (C := RX2) (T := TX2) (N := 20) hx hb hts hi_dm_X2_read_X2 hown hK hP 1 rfl rfl 15 (by decide) (hts (.fieldLink RX2 77 "TimeMachine$Condition" "kind" "I") (List.mem_of_getElem? (i := 6) rfl)) (fun _ h9 => h9) rfl dX2_read_39 ?_
          refine lv_if_ne (tgt := 67) hx hb dX2_read_42 (by decide) (fun c8 => ?_) (fun c8 => ?_)
          · have h := nd_neg h c8
            refine lv_aload_n hx hb dX2_read_67 rfl (lv_at hl 0 rfl) ?_
            obtain ⟨q9, s10, hq, h⟩ := nd_b2_e h
            have hPc := hP
            have hDc := hD
            have hKc := hK
            have hFc := nd_rs hD hS hA
            refine nd_cVi (As := []) (rest := []) (q := q9) (w' := dw_X2s a ac s10) ⟨hx, hb, hml, hown, hts⟩ (fun sz => dm_X2_takeOperator l hlt dC dI a ac n  s0 hq sz) (cwV 0 hts gi_dm_X2_read_1 rfl rfl rfl (by decide +kernel) ⟨Nat.le_of_ble_eq_true rfl, Nat.le_of_ble_eq_true rfl⟩) hPc hDc hKc hS hA hN (va_recv hKc hPc (ci := 3) (q0 := 1) rfl rfl) rfl hl.1 rfl (Nat.le_of_ble_eq_true rfl) dX2_read_68 (fun H locs hP1 hD1 hk1 hS => ?_)
            have hP := hP1
            have hD := hD1.weaken (fun k q _ h => hFc q.1 h)
            refine lv_istore_n (lv' := [(1, .int q9), (0, .ref (a 1)), (2, .int x2), (3, .int x3)]) hx hb dX2_read_71 rfl hl (by decide) rfl (fun ls hl => ?_)
            exact (db_X2_read_72 C K J11) (q9) (x2) (x3) s10 _ _ _ h hP hD hS (lv_sub hl [1, 0, 2, 3] rfl)
          · have h := nd_pos h c8
            refine lv_iconst (v := 0) hx hb dX2_read_45 (by decide) ?_
            refine lv_istore_n (lv' := [(2, .int 0), (0, .ref (a 1)), (1, .int x1), (3, .int x3)]) hx hb dX2_read_46 rfl hl (by decide) rfl (fun ls hl => ?_)
            refine lv_aload_n hx hb dX2_read_47 rfl (lv_at hl 1 rfl) ?_
            refine lv_iconst (v := 0) hx hb dX2_read_48 (by decide) ?_
            obtain ⟨s14, hq, h⟩ := nd_b1_e h
            have hPc := dp_X2s_1 hP
            have hDc := dd_X2s_1 hD
            have hKc := dy_X2s_1 hK
            have hFc := nd_rs hDc hS hA
            have hzA : ∀ q : Nat, H.size ≤ q → A q := fun q h => hA q (Nat.le_trans hS.1 h)
            refine nd_cVv (As := [.int 0]) (rest := []) (w' := dw_X2c (fun k => a (k + 1)) (fun k => ac (k + 1)) s14) ⟨hx, hb, hml, hown, hts⟩ (fun sz => dm_X2_popTo l hlt dC dI (fun k => a (k + 1)) (fun k => ac (k + 1)) n (0) s0.2 hq sz) (cwV 1 hts gi_dm_X2_read_2 rfl rfl rfl (by decide +kernel) ⟨Nat.le_of_ble_eq_true rfl, Nat.le_of_ble_eq_true rfl⟩) hPc hDc hKc hS hA hN (va_recv hKc hPc (ci := 3) (q0 := 0) rfl rfl) rfl hl.1 rfl (Nat.le_of_ble_eq_true rfl) dX2_read_49 (fun H locs hP1 hD1 hk1 hS => ?_)
            obtain ⟨hP, hD⟩ := dn_X2s_1 hP hD hzA hk1 hP1 hD1
            obtain ⟨s16, es16, h⟩ := nd_let_e h
            have hP : va_P (dC, dI) vwCl (dw_X2s a ac s16) H := by rw [es16]; exact hP
            have hD : va_D A (dw_X2s a ac s16) := by rw [es16]; exact hD
            refine lv_aload_n hx hb dX2_read_52 rfl (lv_at hl 1 rfl) ?_
            refine va_get (D := (dC, dI)) (ci := 3) (v := .int (sI s16.2 1)) (C := RX2) (T := TX2) (N := 20) hx hb hts hi_dm_X2_read_X2 hown hK hP 1 rfl rfl 4 (by decide) (hts (.fieldLink RX2 55 "TimeMachine$Condition" "top" "I") (List.mem_of_getElem? (i := 13) rfl)) (fun _ h9 => h9) rfl dX2_read_53 ?_
            refine lv_if_le (tgt := 72) hx hb dX2_read_56 (by decide) (fun c17 => ?_) (fun c17 => ?_)
            · have h := nd_pos h c17
              exact (db_X2_read_72 C K J11) (x1) (0) (x3) s16 _ _ _ h hP hD hS (lv_sub hl [1, 2, 0, 3] rfl)
            · have h := nd_neg h c17
              refine lv_aload_n hx hb dX2_read_59 rfl (lv_at hl 1 rfl) ?_
              refine lv_iconst (v := 1) hx hb dX2_read_60 (by decide) ?_
              obtain ⟨s19, hq, h⟩ := nd_b1_e h
              have hPc := dp_X2s_1 hP
              have hDc := dd_X2s_1 hD
              have hKc := dy_X2s_1 hK
              have hFc := nd_rs hDc hS hA
              have hzA : ∀ q : Nat, H.size ≤ q → A q := fun q h => hA q (Nat.le_trans hS.1 h)
              refine nd_cVv (As := [.int 1]) (rest := []) (w' := dw_X2c (fun k => a (k + 1)) (fun k => ac (k + 1)) s19) ⟨hx, hb, hml, hown, hts⟩ (fun sz => dm_X2_blame l hlt dC dI (fun k => a (k + 1)) (fun k => ac (k + 1)) n (1) s16.2 hq sz) (cwV 1 hts gi_dm_X2_read_3 rfl rfl rfl (by decide +kernel) ⟨Nat.le_of_ble_eq_true rfl, Nat.le_of_ble_eq_true rfl⟩) hPc hDc hKc hS hA hN (va_recv hKc hPc (ci := 3) (q0 := 0) rfl rfl) rfl hl.1 rfl (Nat.le_of_ble_eq_true rfl) dX2_read_61 (fun H locs hP1 hD1 hk1 hS => ?_)
              obtain ⟨hP, hD⟩ := dn_X2s_1 hP hD hzA hk1 hP1 hD1
              obtain ⟨s21, es21, h⟩ := nd_let_e h
              have hP : va_P (dC, dI) vwCl (dw_X2s a ac s21) H := by rw [es21]; exact hP
              have hD : va_D A (dw_X2s a ac s21) := by rw [es21]; exact hD
              refine lv_goto (tgt := 72) hx hb dX2_read_64 (by decide) ?_
              exact (db_X2_read_72 C K J11) (x1) (0) (x3) s21 _ _ _ h hP hD hS (lv_sub hl [1, 2, 0, 3] rfl)
        · have h := nd_neg h c7
          refine lv_aload_n hx hb dX2_read_30 rfl (lv_at hl 0 rfl) ?_
          obtain ⟨q22, s23, hq, h⟩ := nd_b2_e h
          have hPc := hP
          have hDc := hD
          have hKc := hK
          have hFc := nd_rs hD hS hA
          refine nd_cVi (As := []) (rest := []) (q := q22) (w' := dw_X2s a ac s23) ⟨hx, hb, hml, hown, hts⟩ (fun sz => dm_X2_takeOperand l hlt dC dI a ac n  s0 hq sz) (cwV 0 hts gi_dm_X2_read_4 rfl rfl rfl (by decide +kernel) ⟨Nat.le_of_ble_eq_true rfl, Nat.le_of_ble_eq_true rfl⟩) hPc hDc hKc hS hA hN (va_recv hKc hPc (ci := 3) (q0 := 1) rfl rfl) rfl hl.1 rfl (Nat.le_of_ble_eq_true rfl) dX2_read_31 (fun H locs hP1 hD1 hk1 hS => ?_)
          have hP := hP1
          have hD := hD1.weaken (fun k q _ h => hFc q.1 h)
          refine lv_istore_n (lv' := [(1, .int q22), (0, .ref (a 1)), (2, .int x2), (3, .int x3)]) hx hb dX2_read_34 rfl hl (by decide) rfl (fun ls hl => ?_)
          refine lv_goto (tgt := 72) hx hb dX2_read_35 (by decide) ?_
          exact (db_X2_read_72 C K J11) (q22) (x2) (x3) s23 _ _ _ h hP hD hS (lv_sub hl [1, 0, 2, 3] rfl)
set_option maxHeartbeats 40000000 in
set_option maxRecDepth 100000 in
theorem db_X2_read_11 {p : Program} {l : Launch} {e : Env} {s : State} {m : MethodId} {args : Array Value} {below : List Frame} {meth : Method} {c : Code} {Q : State → Prop} {A : Nat → Prop} {dC : Nat → ClassId} {dI : Nat → Nat → Nat} {a : Nat → Nat} {ac : Nat → ClassId} {n : Nat} {r : St × (St)} (C : nd_C p l s m args c A (dC, dI) cX2_read 4 RX2 ow_dm_X2_read (dk_X2s ac)) (K : nd_Kv p l e (headSpec ow_dm_X2_read ({ frames := 9, cells := 0, slots := 0, locals := 196 })).room s m args below meth c Q A (dC, dI) cX2_read (St × (St)) (dw_X2s a ac) r) (k : Nat) : dj_X2_read_11 p l e s m args below meth c Q A dC dI a ac (df_X2_read_11 n (a 0) k) r := by
  induction k with
  | zero => intro x1 x2 x3 s0 H locs ls h; exact nomatch (show (none : Option (St × (St))) = some r from h)
  | succ k ih => exact dB_X2_read_11 C K ih
set_option maxHeartbeats 40000000 in
set_option maxRecDepth 100000 in
theorem db_X2_read_0 {p : Program} {l : Launch} {e : Env} {s : State} {m : MethodId} {args : Array Value} {below : List Frame} {meth : Method} {c : Code} {Q : State → Prop} {A : Nat → Prop} {dC : Nat → ClassId} {dI : Nat → Nat → Nat} {a : Nat → Nat} {ac : Nat → ClassId} {n : Nat} {r : St × (St)} (C : nd_C p l s m args c A (dC, dI) cX2_read 4 RX2 ow_dm_X2_read (dk_X2s ac)) (K : nd_Kv p l e (headSpec ow_dm_X2_read ({ frames := 9, cells := 0, slots := 0, locals := 196 })).room s m args below meth c Q A (dC, dI) cX2_read (St × (St)) (dw_X2s a ac) r) : dj_X2_read_0 p l e s m args below meth c Q A dC dI a ac (df_X2_read_0 n (a 0)) r := by
  obtain ⟨hlt, hx, hb, hml, hown, hts, hN, hA, hK⟩ := id C
  intro s0 H locs ls h hP hD hS hl
  unfold df_X2_read_0 at h
  refine lv_iconst (v := 1) hx hb dX2_read_0 (by decide) ?_
  refine lv_istore_n (lv' := [(1, .int 1), (0, .ref (a 1))]) hx hb dX2_read_1 rfl hl (by decide) rfl (fun ls hl => ?_)
  refine lv_iconst (v := 1) hx hb dX2_read_2 (by decide) ?_
  refine lv_istore_n (lv' := [(2, .int 1), (1, .int 1), (0, .ref (a 1))]) hx hb dX2_read_3 rfl hl (by decide) rfl (fun ls hl => ?_)
  refine lv_aload_n hx hb dX2_read_4 rfl (lv_at hl 2 rfl) ?_
  obtain ⟨s2, hq, h⟩ := nd_b1_e h
  have hPc := hP
  have hDc := hD
  have hKc := hK
  have hFc := nd_rs hD hS hA
  refine nd_cVv (As := []) (rest := []) (w' := dw_X2s a ac s2) ⟨hx, hb, hml, hown, hts⟩ (fun sz => dm_X2_next l hlt dC dI a ac n  s0 hq sz) (cwV 0 hts gi_dm_X2_read_0 rfl rfl rfl (by decide +kernel) ⟨Nat.le_of_ble_eq_true rfl, Nat.le_of_ble_eq_true rfl⟩) hPc hDc hKc hS hA hN (va_recv hKc hPc (ci := 3) (q0 := 1) rfl rfl) rfl hl.1 rfl (Nat.le_of_ble_eq_true rfl) dX2_read_5 (fun H locs hP1 hD1 hk1 hS => ?_)
  have hP := hP1
  have hD := hD1.weaken (fun k q _ h => hFc q.1 h)
  refine lv_bipush (v := 121) hx hb dX2_read_8 (by decide) ?_
  refine lv_istore_n (lv' := [(3, .int 121), (2, .int 1), (1, .int 1), (0, .ref (a 1))]) hx hb dX2_read_10 rfl hl (by decide) rfl (fun ls hl => ?_)
  exact (db_X2_read_11 C K n) (1) (1) (121) s2 _ _ _ h hP hD hS (lv_sub hl [3, 2, 1, 0] rfl)
set_option maxHeartbeats 40000000 in
set_option maxRecDepth 100000 in
theorem dm_X2_read (l : Launch) (hlt : l.stackTraces = false) (dC : Nat → ClassId) (dI : Nat → Nat → Nat) (a : Nat → Nat) (ac : Nat → ClassId) (n : Nat) (s0 : St × (St)) {r : St × (St)} (h : df_X2_read n (a 0) s0 = some r) (sz : Nat) : Met l yX2_read ow_dm_X2_read ({ frames := 9, cells := 0, slots := 0, locals := 196 }) (va_Pc [.ref (a 1)] (fun U => U.heap.size = sz ∧ va_P (dC, dI) vwCl (dw_X2s a ac s0) U.heap ∧ va_K (dC, dI) vwCl (dk_X2s ac) U ∧ va_D (fun _ => True) (dw_X2s a ac s0) ∧ nv_E dI (va_A (dw_X2s a ac s0) sz) U)) (va_Qv (fun _ => True) (fun (_ : Unit) t => va_P (dC, dI) vwCl (dw_X2s a ac r) t.heap ∧ va_K (dC, dI) vwCl (dk_X2s ac) t ∧ va_D (va_A (dw_X2s a ac s0) sz) (dw_X2s a ac r)) (va_A (dw_X2s a ac s0) sz)) 0 0 (va_A (dw_X2s a ac s0) sz) := by
  refine Met.ofW (cc := cX2_read) (maxL := 4) (ret := none) (by decide) rfl ?_
  intro p e s m args below meth c s₁ B hml hv
  obtain ⟨rfl, hsz, hP, hK, hD0, hN⟩ := hv
  have hx := B.exec
  have hb := B.bytes
  have hr := B.returns
  have hts := atoms_spec (ws := ow_dm_X2_read) B.pre
  have hown : s.vm.findClass RX2 = some m.cls := findClass_of_methodNamed B.named
  have hlocks := B.notSynchronized
  subst hsz
  have hD := hD0.self (sz := s.heap.size)
  generalize hAe : va_A (dw_X2s a ac s0) s.heap.size = A at hD hN ⊢
  have hA : ∀ q : Nat, s.heap.size ≤ q → A q := fun q h => by rw [← hAe]; exact Or.inr h
  have hl := lv_entry ([.ref (a 1)]) (n := 4) (Nat.le_of_ble_eq_true rfl)
  rw [lg_entry_eq]
  generalize (lg_sl ([.ref (a 1)]) ++ List.replicate (4 - (lg_sl ([.ref (a 1)])).length) Slot.unset).toArray = ls at hl ⊢
  have hl : lv_has ls 4 [(0, .ref (a 1))] := hl
  exact db_X2_read_0 (dC := dC) (dI := dI) (a := a) (ac := ac) (n := n) (r := r) ⟨hlt, hx, hb, hml, hown, hts, hN, hA, hK⟩ (fun pc τ H locs ls d er hP hD hS => by subst er; exact W.vret hx hb hr (fun t ht hW => ⟨⟨(), rfl, trivial, by rw [ht]; exact hP, va_K.moved hW.alike hK, hD⟩, hS.F ht⟩) hS.2.2 d) s0 _ _ _ h hP hD va_S.rf (lv_sub hl [0] rfl)
def ow_dm_X2_compile : List Cond := Cond.code yX2_compile cX2_compile 4 (some .int) :: ([Cond.fieldLink RX2 35 "TimeMachine$Condition" "source" "[B", Cond.methodLink RX2 39 Lib.Math.min.name, Cond.static Lib.Math.min.name, Cond.initialized "java/lang/Math", Cond.code Lib.Math.min.name Lib.Math.min.code 2 (some .int), Cond.fieldLink RX2 45 "TimeMachine$Condition" "stop" "I", Cond.fieldLink RX2 49 "TimeMachine$Condition" "at" "I", Cond.fieldLink RX2 52 "TimeMachine$Condition" "codes" "I", Cond.fieldLink RX2 55 "TimeMachine$Condition" "top" "I", Cond.fieldLink RX2 58 "TimeMachine$Condition" "olds" "I", Cond.fieldLink RX2 61 "TimeMachine$Condition" "parts" "I", Cond.fieldLink RX2 64 "TimeMachine$Condition" "fault" "I", Cond.methodLink RX2 67 yX2_read, Cond.instanceMethod yX2_read, Cond.selects RX2 yX2_read yX2_read, Cond.initialized RX2] ++ (u_ws RX2 TX2 20 ++ (ow_dm_X2_read ++ [])))
theorem gd_dm_X2_compile : ∀ w ∈ ow_dm_X2_compile, (w.onTables && w.keeps) = true ∨ ∃ ty, w = Cond.arrayClass ty := List.forall_mem_cons.mpr ⟨good_of_word rfl, List.forall_mem_append.mpr ⟨fun w h => good_of_word (List.all_eq_true.mp (by decide +kernel) w h), List.forall_mem_append.mpr ⟨gu_X2, List.forall_mem_append.mpr ⟨gd_dm_X2_read, fun _ h => nomatch h⟩⟩⟩⟩
theorem hi_dm_X2_compile_X2 : ∀ w ∈ u_ws RX2 TX2 20, w ∈ ow_dm_X2_compile := fun w h => List.mem_cons_of_mem _ (List.mem_append_right _ (List.mem_append_left _ h))
theorem gi_dm_X2_compile_0 : GoodIn ow_dm_X2_compile (wsV RX2 67 RX2 yX2_read ow_dm_X2_read) := goodIn_app (goodIn_of _ (by decide +kernel)) (fun w h => ⟨List.mem_cons_of_mem _ (List.mem_append_right _ (List.mem_append_right _ (List.mem_append_left _ h))), gd_dm_X2_read w h⟩)
def dj_X2_compile_47 (p : Program) (l : Launch) (e : Env) (s : State) (m : MethodId) (args : Array Value) (below : List Frame) (meth : Method) (c : Code) (Q : State → Prop) (A : Nat → Prop) (dC : Nat → ClassId) (dI : Nat → Nat → Nat) (a : Nat → Nat) (ac : Nat → ClassId) (g : Int32 → (St × (St)) → Option (Int32 × (St × (St)))) (r : Int32 × (St × (St))) : Prop := ∀ (x3 : Int32) (s0 : St × (St)) (H : Heap) (locs : List Loc) (ls : Array Slot), g x3 s0 = some r → va_P (dC, dI) vwCl (dw_X2s a ac s0) H → va_D A (dw_X2s a ac s0) → va_S A s.heap H locs → lv_has ls 4 [(3, .int x3)] → W p l e (headSpec ow_dm_X2_compile ({ frames := 10, cells := 0, slots := 0, locals := 219 })).room s m args below meth c H locs 0 0 Q (F0 m 47 ls [])
def dj_X2_compile_17 (p : Program) (l : Launch) (e : Env) (s : State) (m : MethodId) (args : Array Value) (below : List Frame) (meth : Method) (c : Code) (Q : State → Prop) (A : Nat → Prop) (dC : Nat → ClassId) (dI : Nat → Nat → Nat) (a : Nat → Nat) (ac : Nat → ClassId) (g : Int32 → (St × (St)) → Option (Int32 × (St × (St)))) (r : Int32 × (St × (St))) : Prop := ∀ (x3 : Int32) (s0 : St × (St)) (H : Heap) (locs : List Loc) (ls : Array Slot), g x3 s0 = some r → va_P (dC, dI) vwCl (dw_X2s a ac s0) H → va_D A (dw_X2s a ac s0) → va_S A s.heap H locs → lv_has ls 4 [(0, .ref (a 1)), (1, .ref (a 0)), (3, .int x3)] → W p l e (headSpec ow_dm_X2_compile ({ frames := 10, cells := 0, slots := 0, locals := 219 })).room s m args below meth c H locs 0 0 Q (F0 m 17 ls [])
def dj_X2_compile_0 (p : Program) (l : Launch) (e : Env) (s : State) (m : MethodId) (args : Array Value) (below : List Frame) (meth : Method) (c : Code) (Q : State → Prop) (A : Nat → Prop) (dC : Nat → ClassId) (dI : Nat → Nat → Nat) (a : Nat → Nat) (ac : Nat → ClassId) (g : Int32 → (St × (St)) → Option (Int32 × (St × (St)))) (r : Int32 × (St × (St))) : Prop := ∀ (v1 : Int32) (s0 : St × (St)) (H : Heap) (locs : List Loc) (ls : Array Slot), g v1 s0 = some r → va_P (dC, dI) vwCl (dw_X2s a ac s0) H → va_D A (dw_X2s a ac s0) → va_S A s.heap H locs → lv_has ls 4 [(0, .ref (a 1)), (1, .ref (a 0)), (2, .int v1)] → W p l e (headSpec ow_dm_X2_compile ({ frames := 10, cells := 0, slots := 0, locals := 219 })).room s m args below meth c H locs 0 0 Q (F0 m 0 ls [])
set_option maxHeartbeats 40000000 in
set_option maxRecDepth 100000 in
theorem db_X2_compile_47 {p : Program} {l : Launch} {e : Env} {s : State} {m : MethodId} {args : Array Value} {below : List Frame} {meth : Method} {c : Code} {Q : State → Prop} {A : Nat → Prop} {dC : Nat → ClassId} {dI : Nat → Nat → Nat} {a : Nat → Nat} {ac : Nat → ClassId} {n : Nat} {r : Int32 × (St × (St))} (C : nd_C p l s m args c A (dC, dI) cX2_compile 4 RX2 ow_dm_X2_compile (dk_X2s ac)) (K : nd_Ki p l e (headSpec ow_dm_X2_compile ({ frames := 10, cells := 0, slots := 0, locals := 219 })).room s m args below meth c Q A (dC, dI) cX2_compile .int (St × (St)) (dw_X2s a ac) r) : dj_X2_compile_47 p l e s m args below meth c Q A dC dI a ac (df_X2_compile_47 n (a 0)) r := by
  obtain ⟨hlt, hx, hb, hml, hown, hts, hN, hA, hK⟩ := id C
  intro x3 s0 H locs ls h hP hD hS hl
  unfold df_X2_compile_47 at h
  refine lv_iconst (v := 1) hx hb dX2_compile_47 (by decide) ?_
  refine lv_bipush (v := 8) hx hb dX2_compile_48 (by decide) ?_
  refine lv_iload_n hx hb dX2_compile_50 rfl (lv_at hl 0 rfl) ?_
  refine lv_imul hx hb dX2_compile_51 ?_
  refine lv_iadd hx hb dX2_compile_52 ?_
  exact K _ _ _ _ _ _ dX2_compile_53 rfl (Option.some.inj h).symm hP hD hS
set_option maxHeartbeats 40000000 in
set_option maxRecDepth 100000 in
theorem dB_X2_compile_17 {p : Program} {l : Launch} {e : Env} {s : State} {m : MethodId} {args : Array Value} {below : List Frame} {meth : Method} {c : Code} {Q : State → Prop} {A : Nat → Prop} {dC : Nat → ClassId} {dI : Nat → Nat → Nat} {a : Nat → Nat} {ac : Nat → ClassId} {n : Nat} {r : Int32 × (St × (St))} (C : nd_C p l s m args c A (dC, dI) cX2_compile 4 RX2 ow_dm_X2_compile (dk_X2s ac)) (K : nd_Ki p l e (headSpec ow_dm_X2_compile ({ frames := 10, cells := 0, slots := 0, locals := 219 })).room s m args below meth c Q A (dC, dI) cX2_compile .int (St × (St)) (dw_X2s a ac) r) {g17 : Int32 → (St × (St)) → Option (Int32 × (St × (St)))} (J17 : dj_X2_compile_17 p l e s m args below meth c Q A dC dI a ac g17 r) : dj_X2_compile_17 p l e s m args below meth c Q A dC dI a ac (dF_X2_compile_17 n (a 0) g17) r := by
  obtain ⟨hlt, hx, hb, hml, hown, hts, hN, hA, hK⟩ := id C
  intro x3 s0 H locs ls h hP hD hS hl
  unfold dF_X2_compile_17 at h
  refine lv_iload_n hx hb dX2_compile_17 rfl (lv_at hl 2 rfl) ?_
  refine lv_aload_n hx hb dX2_compile_18 rfl (lv_at hl 0 rfl) ?_
  refine va_get (D := (dC, dI)) (ci := 3) (v := .int (sI s0.2 4)) (C := RX2) (T := TX2) (N := 20) hx hb hts hi_dm_X2_compile_X2 hown hK hP 1 rfl rfl 13 (by decide) (hts (.fieldLink RX2 45 "TimeMachine$Condition" "stop" "I") (List.mem_of_getElem? (i := 6) rfl)) (fun _ h9 => h9) rfl dX2_compile_19 ?_
  refine lv_icmp_ge (tgt := 60) hx hb dX2_compile_22 (by decide) (fun c3 => ?_) (fun c3 => ?_)
  · have h := nd_pos h c3
    refine lv_aload_n hx hb dX2_compile_60 rfl (lv_at hl 0 rfl) ?_
    refine lv_iconst (v := 0) hx hb dX2_compile_61 (by decide) ?_
    refine va_put (D := (dC, dI)) (ci := 3) (v := .int 0) (ty := .int) (C := RX2) (T := TX2) (N := 20) hx hb hts hi_dm_X2_compile_X2 tyX2 tyX2_ok nmX2 hown hK hP hD hS 1 rfl rfl 14 (by decide) (hts (.fieldLink RX2 49 "TimeMachine$Condition" "at" "I") (List.mem_of_getElem? (i := 7) rfl)) (fun _ h9 => h9) rfl (by decide +kernel) rfl rfl (Nat.le_of_ble_eq_true rfl) dX2_compile_62 (fun H locs hP hD hS => ?_)
    obtain ⟨s4, es4, h⟩ := nd_let_e h
    have hP : va_P (dC, dI) vwCl (dw_X2s a ac s4) H := by rw [es4]; exact hP
    have hD : va_D A (dw_X2s a ac s4) := by rw [es4]; exact hD
    refine lv_aload_n hx hb dX2_compile_65 rfl (lv_at hl 0 rfl) ?_
    refine lv_iconst (v := 0) hx hb dX2_compile_66 (by decide) ?_
    refine va_put (D := (dC, dI)) (ci := 3) (v := .int 0) (ty := .int) (C := RX2) (T := TX2) (N := 20) hx hb hts hi_dm_X2_compile_X2 tyX2 tyX2_ok nmX2 hown hK hP hD hS 1 rfl rfl 2 (by decide) (hts (.fieldLink RX2 52 "TimeMachine$Condition" "codes" "I") (List.mem_of_getElem? (i := 8) rfl)) (fun _ h9 => h9) rfl (by decide +kernel) rfl rfl (Nat.le_of_ble_eq_true rfl) dX2_compile_67 (fun H locs hP hD hS => ?_)
    obtain ⟨s5, es5, h⟩ := nd_let_e h
    have hP : va_P (dC, dI) vwCl (dw_X2s a ac s5) H := by rw [es5]; exact hP
    have hD : va_D A (dw_X2s a ac s5) := by rw [es5]; exact hD
    refine lv_aload_n hx hb dX2_compile_70 rfl (lv_at hl 0 rfl) ?_
    refine lv_iconst (v := 0) hx hb dX2_compile_71 (by decide) ?_
    refine va_put (D := (dC, dI)) (ci := 3) (v := .int 0) (ty := .int) (C := RX2) (T := TX2) (N := 20) hx hb hts hi_dm_X2_compile_X2 tyX2 tyX2_ok nmX2 hown hK hP hD hS 1 rfl rfl 4 (by decide) (hts (.fieldLink RX2 55 "TimeMachine$Condition" "top" "I") (List.mem_of_getElem? (i := 9) rfl)) (fun _ h9 => h9) rfl (by decide +kernel) rfl rfl (Nat.le_of_ble_eq_true rfl) dX2_compile_72 (fun H locs hP hD hS => ?_)
    obtain ⟨s6, es6, h⟩ := nd_let_e h
    have hP : va_P (dC, dI) vwCl (dw_X2s a ac s6) H := by rw [es6]; exact hP
    have hD : va_D A (dw_X2s a ac s6) := by rw [es6]; exact hD
    refine lv_aload_n hx hb dX2_compile_75 rfl (lv_at hl 0 rfl) ?_
    refine lv_iconst (v := 0) hx hb dX2_compile_76 (by decide) ?_
    refine va_put (D := (dC, dI)) (ci := 3) (v := .int 0) (ty := .int) (C := RX2) (T := TX2) (N := 20) hx hb hts hi_dm_X2_compile_X2 tyX2 tyX2_ok nmX2 hown hK hP hD hS 1 rfl rfl 10 (by decide) (hts (.fieldLink RX2 58 "TimeMachine$Condition" "olds" "I") (List.mem_of_getElem? (i := 10) rfl)) (fun _ h9 => h9) rfl (by decide +kernel) rfl rfl (Nat.le_of_ble_eq_true rfl) dX2_compile_77 (fun H locs hP hD hS => ?_)
    obtain ⟨s7, es7, h⟩ := nd_let_e h
    have hP : va_P (dC, dI) vwCl (dw_X2s a ac s7) H := by rw [es7]; exact hP
    have hD : va_D A (dw_X2s a ac s7) := by rw [es7]; exact hD
    refine lv_aload_n hx hb dX2_compile_80 rfl (lv_at hl 0 rfl) ?_
    refine lv_iconst (v := 0) hx hb dX2_compile_81 (by decide) ?_
    refine va_put (D := (dC, dI)) (ci := 3) (v := .int 0) (ty := .int) (C := RX2) (T := TX2) (N := 20) hx hb hts hi_dm_X2_compile_X2 tyX2 tyX2_ok nmX2 hown hK hP hD hS 1 rfl rfl 19 (by decide) (hts (.fieldLink RX2 61 "TimeMachine$Condition" "parts" "I") (List.mem_of_getElem? (i := 11) rfl)) (fun _ h9 => h9) rfl (by decide +kernel) rfl rfl (Nat.le_of_ble_eq_true rfl) dX2_compile_82 (fun H locs hP hD hS => ?_)
    obtain ⟨s8, es8, h⟩ := nd_let_e h
    have hP : va_P (dC, dI) vwCl (dw_X2s a ac s8) H := by rw [es8]; exact hP
    have hD : va_D A (dw_X2s a ac s8) := by rw [es8]; exact hD
    refine lv_aload_n hx hb dX2_compile_85 rfl (lv_at hl 0 rfl) ?_
    refine lv_iconst (v := 0) hx hb dX2_compile_86 (by decide) ?_
    refine va_put (D := (dC, dI)) (ci := 3) (v := .int 0) (ty := .int) (C := RX2) (T := TX2) (N := 20) hx hb hts hi_dm_X2_compile_X2 tyX2 tyX2_ok nmX2 hown hK hP hD hS 1 rfl rfl 18 (by decide) (hts (.fieldLink RX2 64 "TimeMachine$Condition" "fault" "I") (List.mem_of_getElem? (i := 12) rfl)) (fun _ h9 => h9) rfl (by decide +kernel) rfl rfl (Nat.le_of_ble_eq_true rfl) dX2_compile_87 (fun H locs hP hD hS => ?_)
    obtain ⟨s9, es9, h⟩ := nd_let_e h
    have hP : va_P (dC, dI) vwCl (dw_X2s a ac s9) H := by rw [es9]; exact hP
    have hD : va_D A (dw_X2s a ac s9) := by rw [es9]; exact hD
    refine lv_aload_n hx hb dX2_compile_90 rfl (lv_at hl 0 rfl) ?_
    obtain ⟨s11, hq, h⟩ := nd_b1_e h
    have hPc := hP
    have hDc := hD
    have hKc := hK
    have hFc := nd_rs hD hS hA
    refine nd_cVv (As := []) (rest := []) (w' := dw_X2s a ac s11) ⟨hx, hb, hml, hown, hts⟩ (fun sz => dm_X2_read l hlt dC dI a ac n  s9 hq sz) (cwV 0 hts gi_dm_X2_compile_0 rfl rfl rfl (by decide +kernel) ⟨Nat.le_of_ble_eq_true rfl, Nat.le_of_ble_eq_true rfl⟩) hPc hDc hKc hS hA hN (va_recv hKc hPc (ci := 3) (q0 := 1) rfl rfl) rfl hl.1 rfl (Nat.le_of_ble_eq_true rfl) dX2_compile_91 (fun H locs hP1 hD1 hk1 hS => ?_)
    have hP := hP1
    have hD := hD1.weaken (fun k q _ h => hFc q.1 h)
    refine lv_aload_n hx hb dX2_compile_94 rfl (lv_at hl 0 rfl) ?_
    refine va_get (D := (dC, dI)) (ci := 3) (v := .int (sI s11.2 8)) (C := RX2) (T := TX2) (N := 20) hx hb hts hi_dm_X2_compile_X2 hown hK hP 1 rfl rfl 18 (by decide) (hts (.fieldLink RX2 64 "TimeMachine$Condition" "fault" "I") (List.mem_of_getElem? (i := 12) rfl)) (fun _ h9 => h9) rfl dX2_compile_95 ?_
    exact K _ _ _ _ _ _ dX2_compile_98 rfl (Option.some.inj h).symm hP hD hS
  · have h := nd_neg h c3
    refine lv_iload_n hx hb dX2_compile_25 rfl (lv_at hl 2 rfl) ?_
    refine lv_bipush (v := 120) hx hb dX2_compile_26 (by decide) ?_
    refine lv_icmp_ge (tgt := 47) hx hb dX2_compile_28 (by decide) (fun c13 => ?_) (fun c13 => ?_)
    · have h := nd_pos h c13
      exact (db_X2_compile_47 C K) (x3) s0 _ _ _ h hP hD hS (lv_sub hl [2] rfl)
    · have h := nd_neg h c13
      refine lv_aload_n hx hb dX2_compile_31 rfl (lv_at hl 1 rfl) ?_
      refine lv_iload_n hx hb dX2_compile_32 rfl (lv_at hl 2 rfl) ?_
      obtain ⟨i14, h⟩ := nd_ck_e h
      refine va_bald (i := x3) hx hb hK hP 0 0 rfl rfl i14 dX2_compile_33 ?_
      refine lv_bipush (v := 32) hx hb dX2_compile_34 (by decide) ?_
      refine lv_icmp_lt (tgt := 47) hx hb dX2_compile_36 (by decide) (fun c15 => ?_) (fun c15 => ?_)
      · have h := nd_pos h c15
        exact (db_X2_compile_47 C K) (x3) s0 _ _ _ h hP hD hS (lv_sub hl [2] rfl)
      · have h := nd_neg h c15
        refine lv_aload_n hx hb dX2_compile_39 rfl (lv_at hl 1 rfl) ?_
        refine lv_iload_n hx hb dX2_compile_40 rfl (lv_at hl 2 rfl) ?_
        obtain ⟨i16, h⟩ := nd_ck_e h
        refine va_bald (i := x3) hx hb hK hP 0 0 rfl rfl i16 dX2_compile_41 ?_
        refine lv_bipush (v := 126) hx hb dX2_compile_42 (by decide) ?_
        refine lv_icmp_le (tgt := 54) hx hb dX2_compile_44 (by decide) (fun c17 => ?_) (fun c17 => ?_)
        · have h := nd_pos h c17
          obtain ⟨z18, ez18, h⟩ := nd_let_e h
          refine lv_iinc (v := z18) (lv' := [(3, .int z18), (0, .ref (a 1)), (1, .ref (a 0))]) hx hb dX2_compile_54 hl (k := 2) rfl (by rw [ez18]) (by decide) rfl (fun ls hl => ?_)
          refine lv_goto (tgt := 17) hx hb dX2_compile_57 (by decide) ?_
          exact (J17) (z18) s0 _ _ _ h hP hD hS (lv_sub hl [1, 2, 0] rfl)
        · have h := nd_neg h c17
          exact (db_X2_compile_47 C K) (x3) s0 _ _ _ h hP hD hS (lv_sub hl [2] rfl)
set_option maxHeartbeats 40000000 in
set_option maxRecDepth 100000 in
theorem db_X2_compile_17 {p : Program} {l : Launch} {e : Env} {s : State} {m : MethodId} {args : Array Value} {below : List Frame} {meth : Method} {c : Code} {Q : State → Prop} {A : Nat → Prop} {dC : Nat → ClassId} {dI : Nat → Nat → Nat} {a : Nat → Nat} {ac : Nat → ClassId} {n : Nat} {r : Int32 × (St × (St))} (C : nd_C p l s m args c A (dC, dI) cX2_compile 4 RX2 ow_dm_X2_compile (dk_X2s ac)) (K : nd_Ki p l e (headSpec ow_dm_X2_compile ({ frames := 10, cells := 0, slots := 0, locals := 219 })).room s m args below meth c Q A (dC, dI) cX2_compile .int (St × (St)) (dw_X2s a ac) r) (k : Nat) : dj_X2_compile_17 p l e s m args below meth c Q A dC dI a ac (df_X2_compile_17 n (a 0) k) r := by
  induction k with
  | zero => intro x3 s0 H locs ls h; exact nomatch (show (none : Option (Int32 × (St × (St)))) = some r from h)
  | succ k ih => exact dB_X2_compile_17 C K ih
set_option maxHeartbeats 40000000 in
set_option maxRecDepth 100000 in
theorem db_X2_compile_0 {p : Program} {l : Launch} {e : Env} {s : State} {m : MethodId} {args : Array Value} {below : List Frame} {meth : Method} {c : Code} {Q : State → Prop} {A : Nat → Prop} {dC : Nat → ClassId} {dI : Nat → Nat → Nat} {a : Nat → Nat} {ac : Nat → ClassId} {n : Nat} {r : Int32 × (St × (St))} (C : nd_C p l s m args c A (dC, dI) cX2_compile 4 RX2 ow_dm_X2_compile (dk_X2s ac)) (K : nd_Ki p l e (headSpec ow_dm_X2_compile ({ frames := 10, cells := 0, slots := 0, locals := 219 })).room s m args below meth c Q A (dC, dI) cX2_compile .int (St × (St)) (dw_X2s a ac) r) : dj_X2_compile_0 p l e s m args below meth c Q A dC dI a ac (df_X2_compile_0 n (a 0)) r := by
  obtain ⟨hlt, hx, hb, hml, hown, hts, hN, hA, hK⟩ := id C
  intro v1 s0 H locs ls h hP hD hS hl
  unfold df_X2_compile_0 at h
  refine lv_aload_n hx hb dX2_compile_0 rfl (lv_at hl 0 rfl) ?_
  refine lv_aload_n hx hb dX2_compile_1 rfl (lv_at hl 1 rfl) ?_
  refine va_put (D := (dC, dI)) (ci := 3) (v := .ref (a 0)) (ty := .array .byte) (C := RX2) (T := TX2) (N := 20) hx hb hts hi_dm_X2_compile_X2 tyX2 tyX2_ok nmX2 hown hK hP hD hS 1 rfl rfl 12 (by decide) (hts (.fieldLink RX2 35 "TimeMachine$Condition" "source" "[B") (List.mem_of_getElem? (i := 1) rfl)) (fun _ h9 => h9) rfl (by decide +kernel) rfl rfl (Nat.le_of_ble_eq_true rfl) dX2_compile_2 (fun H locs hP hD hS => ?_)
  obtain ⟨s1, es1, h⟩ := nd_let_e h
  have hP : va_P (dC, dI) vwCl (dw_X2s a ac s1) H := by rw [es1]; exact hP
  have hD : va_D A (dw_X2s a ac s1) := by rw [es1]; exact hD
  refine lv_aload_n hx hb dX2_compile_5 rfl (lv_at hl 0 rfl) ?_
  refine lv_iload_n hx hb dX2_compile_6 rfl (lv_at hl 2 rfl) ?_
  refine lv_aload_n hx hb dX2_compile_7 rfl (lv_at hl 1 rfl) ?_
  refine va_alen (v := 32768) hx hb hK hP 0 0 rfl rfl (show Int32.ofNat 32768 = 32768 by decide) dX2_compile_8 ?_
  refine va_mmin hx hb (by rw [hml]; exact hl.1.symm) hown (hts (.methodLink RX2 39 Lib.Math.min.name) (List.mem_of_getElem? (i := 2) rfl)) (hts (.static Lib.Math.min.name) (List.mem_of_getElem? (i := 3) rfl)) (hts (.initialized "java/lang/Math") (List.mem_of_getElem? (i := 4) rfl)) (hts (.code Lib.Math.min.name Lib.Math.min.code 2 (some .int)) (List.mem_of_getElem? (i := 5) rfl)) (Nat.le_of_ble_eq_true rfl) (Nat.le_of_ble_eq_true rfl) (by decide +kernel) (by decide +kernel) dX2_compile_9 ?_
  refine va_put (D := (dC, dI)) (ci := 3) (v := .int (if (32768 : Int32) < v1 then 32768 else v1)) (ty := .int) (C := RX2) (T := TX2) (N := 20) hx hb hts hi_dm_X2_compile_X2 tyX2 tyX2_ok nmX2 hown hK hP hD hS 1 rfl rfl 13 (by decide) (hts (.fieldLink RX2 45 "TimeMachine$Condition" "stop" "I") (List.mem_of_getElem? (i := 6) rfl)) (fun _ h9 => h9) rfl (by decide +kernel) rfl rfl (Nat.le_of_ble_eq_true rfl) dX2_compile_12 (fun H locs hP hD hS => ?_)
  obtain ⟨s2, es2, h⟩ := nd_let_e h
  have hP : va_P (dC, dI) vwCl (dw_X2s a ac s2) H := by rw [es2]; exact hP
  have hD : va_D A (dw_X2s a ac s2) := by rw [es2]; exact hD
  refine lv_iconst (v := 0) hx hb dX2_compile_15 (by decide) ?_
  refine lv_istore_n (lv' := [(3, .int 0), (0, .ref (a 1)), (1, .ref (a 0)), (2, .int v1)]) hx hb dX2_compile_16 rfl hl (by decide) rfl (fun ls hl => ?_)
  exact (db_X2_compile_17 C K n) (0) s2 _ _ _ h hP hD hS (lv_sub hl [1, 2, 0] rfl)
set_option maxHeartbeats 40000000 in
set_option maxRecDepth 100000 in
theorem dm_X2_compile (l : Launch) (hlt : l.stackTraces = false) (dC : Nat → ClassId) (dI : Nat → Nat → Nat) (a : Nat → Nat) (ac : Nat → ClassId) (n : Nat) (v1 : Int32) (s0 : St × (St)) {r : Int32 × (St × (St))} (h : df_X2_compile n (a 0) v1 s0 = some r) (sz : Nat) : Met l yX2_compile ow_dm_X2_compile ({ frames := 10, cells := 0, slots := 0, locals := 219 }) (va_Pc [.ref (a 1), .ref (a 0), .int v1] (fun U => U.heap.size = sz ∧ va_P (dC, dI) vwCl (dw_X2s a ac s0) U.heap ∧ va_K (dC, dI) vwCl (dk_X2s ac) U ∧ va_D (fun _ => True) (dw_X2s a ac s0) ∧ nv_E dI (va_A (dw_X2s a ac s0) sz) U)) (va_Qi (fun x _ => x = r.1) (fun (_ : Unit) t => va_P (dC, dI) vwCl (dw_X2s a ac r.2) t.heap ∧ va_K (dC, dI) vwCl (dk_X2s ac) t ∧ va_D (va_A (dw_X2s a ac s0) sz) (dw_X2s a ac r.2)) (va_A (dw_X2s a ac s0) sz)) 0 0 (va_A (dw_X2s a ac s0) sz) := by
  refine Met.ofW (cc := cX2_compile) (maxL := 4) (ret := (some .int)) (by decide) rfl ?_
  intro p e s m args below meth c s₁ B hml hv
  obtain ⟨rfl, hsz, hP, hK, hD0, hN⟩ := hv
  have hx := B.exec
  have hb := B.bytes
  have hr := B.returns
  have hts := atoms_spec (ws := ow_dm_X2_compile) B.pre
  have hown : s.vm.findClass RX2 = some m.cls := findClass_of_methodNamed B.named
  have hlocks := B.notSynchronized
  subst hsz
  have hD := hD0.self (sz := s.heap.size)
  generalize hAe : va_A (dw_X2s a ac s0) s.heap.size = A at hD hN ⊢
  have hA : ∀ q : Nat, s.heap.size ≤ q → A q := fun q h => by rw [← hAe]; exact Or.inr h
  have hl := lv_entry ([.ref (a 1), .ref (a 0), .int v1]) (n := 4) (Nat.le_of_ble_eq_true rfl)
  rw [lg_entry_eq]
  generalize (lg_sl ([.ref (a 1), .ref (a 0), .int v1]) ++ List.replicate (4 - (lg_sl ([.ref (a 1), .ref (a 0), .int v1])).length) Slot.unset).toArray = ls at hl ⊢
  have hl : lv_has ls 4 [(0, .ref (a 1)), (1, .ref (a 0)), (2, .int v1)] := hl
  exact db_X2_compile_0 (dC := dC) (dI := dI) (a := a) (ac := ac) (n := n) (r := r) ⟨hlt, hx, hb, hml, hown, hts, hN, hA, hK⟩ (fun pc v τ H locs ls d z er hP hD hS => by subst er; exact W.zret (v := v) hx hb hr z (fun t ht hW => ⟨⟨v, (), rfl, rfl, by rw [ht]; exact hP, va_K.moved hW.alike hK, hD⟩, hS.F ht⟩) hS.2.2 d) v1 s0 _ _ _ h hP hD va_S.rf (lv_sub hl [0, 1, 2] rfl)
def ow_dm_X2_inSpace : List Cond := Cond.code yX2_inSpace cX2_inSpace 8 (some .long) :: ([Cond.fieldLink RX2 221 "TimeMachine$Machine" "current" "I", Cond.fieldLink RX2 199 "TimeMachine$Condition" "failed" "Z", Cond.constantLong RX2 233 (65536), Cond.methodLink RX2 235 yX6_may, Cond.instanceMethod yX6_may, Cond.selects RX6 yX6_may yX6_may, Cond.initialized RX6, Cond.methodLink RX2 245 yX6_byteAt, Cond.instanceMethod yX6_byteAt, Cond.selects RX6 yX6_byteAt yX6_byteAt, Cond.methodLink RX2 242 yX6_halfAt, Cond.instanceMethod yX6_halfAt, Cond.selects RX6 yX6_halfAt yX6_halfAt, Cond.methodLink RX2 239 yX6_wordAt, Cond.instanceMethod yX6_wordAt, Cond.selects RX6 yX6_wordAt yX6_wordAt] ++ (u_ws RX6 TX6 20 ++ (u_ws RX2 TX2 20 ++ (ow_dm_X6_may ++ (ow_dm_X6_byteAt ++ (ow_dm_X6_halfAt ++ (ow_dm_X6_wordAt ++ [])))))))
theorem gd_dm_X2_inSpace : ∀ w ∈ ow_dm_X2_inSpace, (w.onTables && w.keeps) = true ∨ ∃ ty, w = Cond.arrayClass ty := List.forall_mem_cons.mpr ⟨good_of_word rfl, List.forall_mem_append.mpr ⟨fun w h => good_of_word (List.all_eq_true.mp (by decide +kernel) w h), List.forall_mem_append.mpr ⟨gu_X6, List.forall_mem_append.mpr ⟨gu_X2, List.forall_mem_append.mpr ⟨gd_dm_X6_may, List.forall_mem_append.mpr ⟨gd_dm_X6_byteAt, List.forall_mem_append.mpr ⟨gd_dm_X6_halfAt, List.forall_mem_append.mpr ⟨gd_dm_X6_wordAt, fun _ h => nomatch h⟩⟩⟩⟩⟩⟩⟩⟩
theorem hi_dm_X2_inSpace_X6 : ∀ w ∈ u_ws RX6 TX6 20, w ∈ ow_dm_X2_inSpace := fun w h => List.mem_cons_of_mem _ (List.mem_append_right _ (List.mem_append_left _ h))
theorem hi_dm_X2_inSpace_X2 : ∀ w ∈ u_ws RX2 TX2 20, w ∈ ow_dm_X2_inSpace := fun w h => List.mem_cons_of_mem _ (List.mem_append_right _ (List.mem_append_right _ (List.mem_append_left _ h)))
theorem gi_dm_X2_inSpace_0 : GoodIn ow_dm_X2_inSpace (wsV RX2 235 RX6 yX6_may ow_dm_X6_may) := goodIn_app (goodIn_of _ (by decide +kernel)) (fun w h => ⟨List.mem_cons_of_mem _ (List.mem_append_right _ (List.mem_append_right _ (List.mem_append_right _ (List.mem_append_left _ h)))), gd_dm_X6_may w h⟩)
theorem gi_dm_X2_inSpace_1 : GoodIn ow_dm_X2_inSpace (wsV RX2 245 RX6 yX6_byteAt ow_dm_X6_byteAt) := goodIn_app (goodIn_of _ (by decide +kernel)) (fun w h => ⟨List.mem_cons_of_mem _ (List.mem_append_right _ (List.mem_append_right _ (List.mem_append_right _ (List.mem_append_right _ (List.mem_append_left _ h))))), gd_dm_X6_byteAt w h⟩)
theorem gi_dm_X2_inSpace_2 : GoodIn ow_dm_X2_inSpace (wsV RX2 242 RX6 yX6_halfAt ow_dm_X6_halfAt) := goodIn_app (goodIn_of _ (by decide +kernel)) (fun w h => ⟨List.mem_cons_of_mem _ (List.mem_append_right _ (List.mem_append_right _ (List.mem_append_right _ (List.mem_append_right _ (List.mem_append_right _ (List.mem_append_left _ h)))))), gd_dm_X6_halfAt w h⟩)
theorem gi_dm_X2_inSpace_3 : GoodIn ow_dm_X2_inSpace (wsV RX2 239 RX6 yX6_wordAt ow_dm_X6_wordAt) := goodIn_app (goodIn_of _ (by decide +kernel)) (fun w h => ⟨List.mem_cons_of_mem _ (List.mem_append_right _ (List.mem_append_right _ (List.mem_append_right _ (List.mem_append_right _ (List.mem_append_right _ (List.mem_append_right _ (List.mem_append_left _ h))))))), gd_dm_X6_wordAt w h⟩)
def dj_X2_inSpace_71 (p : Program) (l : Launch) (e : Env) (s : State) (m : MethodId) (args : Array Value) (below : List Frame) (meth : Method) (c : Code) (Q : State → Prop) (A : Nat → Prop) (dC : Nat → ClassId) (dI : Nat → Nat → Nat) (a : Nat → Nat) (ac : Nat → ClassId) (g : (St × (St) × (St × (St))) → Option (Int64 × (St × (St) × (St × (St))))) (r : Int64 × (St × (St) × (St × (St)))) : Prop := ∀ (s0 : St × (St) × (St × (St))) (H : Heap) (locs : List Loc) (ls : Array Slot), g s0 = some r → va_P (dC, dI) vwCl (dw_X2m a ac s0) H → va_D A (dw_X2m a ac s0) → va_S A s.heap H locs → lv_has ls 8 [(0, .ref (a 0))] → W p l e (headSpec ow_dm_X2_inSpace ({ frames := 1, cells := 0, slots := 0, locals := 23 })).room s m args below meth c H locs 0 0 Q (F0 m 71 ls [])
def dj_X2_inSpace_128 (p : Program) (l : Launch) (e : Env) (s : State) (m : MethodId) (args : Array Value) (below : List Frame) (meth : Method) (c : Code) (Q : State → Prop) (A : Nat → Prop) (dC : Nat → ClassId) (dI : Nat → Nat → Nat) (a : Nat → Nat) (ac : Nat → ClassId) (g : Int64 → (St × (St) × (St × (St))) → Option (Int64 × (St × (St) × (St × (St))))) (r : Int64 × (St × (St) × (St × (St)))) : Prop := ∀ (y0 : Int64) (s0 : St × (St) × (St × (St))) (H : Heap) (locs : List Loc) (ls : Array Slot), g y0 s0 = some r → va_P (dC, dI) vwCl (dw_X2m a ac s0) H → va_D A (dw_X2m a ac s0) → va_S A s.heap H locs → lv_has ls 8 [] → W p l e (headSpec ow_dm_X2_inSpace ({ frames := 1, cells := 0, slots := 0, locals := 23 })).room s m args below meth c H locs 0 0 Q (F0 m 128 ls [.long y0])
def dj_X2_inSpace_27 (p : Program) (l : Launch) (e : Env) (s : State) (m : MethodId) (args : Array Value) (below : List Frame) (meth : Method) (c : Code) (Q : State → Prop) (A : Nat → Prop) (dC : Nat → ClassId) (dI : Nat → Nat → Nat) (a : Nat → Nat) (ac : Nat → ClassId) (g : Int64 → Int32 → Int32 → (St × (St) × (St × (St))) → Option (Int64 × (St × (St) × (St × (St))))) (r : Int64 × (St × (St) × (St × (St)))) : Prop := ∀ (x3 : Int64) (x5 : Int32) (y0 : Int32) (s0 : St × (St) × (St × (St))) (H : Heap) (locs : List Loc) (ls : Array Slot), g x3 x5 y0 s0 = some r → va_P (dC, dI) vwCl (dw_X2m a ac s0) H → va_D A (dw_X2m a ac s0) → va_S A s.heap H locs → lv_has ls 8 [(0, .ref (a 0)), (1, .ref (a 9)), (3, .long x3), (5, .int x5)] → W p l e (headSpec ow_dm_X2_inSpace ({ frames := 1, cells := 0, slots := 0, locals := 23 })).room s m args below meth c H locs 0 0 Q (F0 m 27 ls [.int y0])
def dj_X2_inSpace_0 (p : Program) (l : Launch) (e : Env) (s : State) (m : MethodId) (args : Array Value) (below : List Frame) (meth : Method) (c : Code) (Q : State → Prop) (A : Nat → Prop) (dC : Nat → ClassId) (dI : Nat → Nat → Nat) (a : Nat → Nat) (ac : Nat → ClassId) (g : Int32 → Int64 → (St × (St) × (St × (St))) → Option (Int64 × (St × (St) × (St × (St))))) (r : Int64 × (St × (St) × (St × (St)))) : Prop := ∀ (v1 : Int32) (v2 : Int64) (s0 : St × (St) × (St × (St))) (H : Heap) (locs : List Loc) (ls : Array Slot), g v1 v2 s0 = some r → va_P (dC, dI) vwCl (dw_X2m a ac s0) H → va_D A (dw_X2m a ac s0) → va_S A s.heap H locs → lv_has ls 8 [(0, .ref (a 0)), (1, .ref (a 9)), (2, .int v1), (3, .long v2)] → W p l e (headSpec ow_dm_X2_inSpace ({ frames := 1, cells := 0, slots := 0, locals := 23 })).room s m args below meth c H locs 0 0 Q (F0 m 0 ls [])
set_option maxHeartbeats 40000000 in
set_option maxRecDepth 100000 in
theorem db_X2_inSpace_71 {p : Program} {l : Launch} {e : Env} {s : State} {m : MethodId} {args : Array Value} {below : List Frame} {meth : Method} {c : Code} {Q : State → Prop} {A : Nat → Prop} {dC : Nat → ClassId} {dI : Nat → Nat → Nat} {a : Nat → Nat} {ac : Nat → ClassId} {n : Nat} {r : Int64 × (St × (St) × (St × (St)))} (C : nd_C p l s m args c A (dC, dI) cX2_inSpace 8 RX2 ow_dm_X2_inSpace (dk_X2m ac)) (K : nd_Kl p l e (headSpec ow_dm_X2_inSpace ({ frames := 1, cells := 0, slots := 0, locals := 23 })).room s m args below meth c Q A (dC, dI) cX2_inSpace (St × (St) × (St × (St))) (dw_X2m a ac) r) : dj_X2_inSpace_71 p l e s m args below meth c Q A dC dI a ac (df_X2_inSpace_71 n) r := by
  obtain ⟨hlt, hx, hb, hml, hown, hts, hN, hA, hK⟩ := id C
  intro s0 H locs ls h hP hD hS hl
  unfold df_X2_inSpace_71 at h
  refine lv_aload_n hx hb dX2_inSpace_71 rfl (lv_at hl 0 rfl) ?_
  refine lv_iconst (v := 1) hx hb dX2_inSpace_72 (by decide) ?_
  refine va_put (D := (dC, dI)) (ci := 3) (v := .int 1) (ty := .boolean) (C := RX2) (T := TX2) (N := 20) hx hb hts hi_dm_X2_inSpace_X2 tyX2 tyX2_ok nmX2 hown hK hP hD hS 0 rfl rfl 11 (by decide) (hts (.fieldLink RX2 199 "TimeMachine$Condition" "failed" "Z") (List.mem_of_getElem? (i := 2) rfl)) (fun _ h9 => h9) rfl (by decide +kernel) (by first | rfl | decide) rfl (Nat.le_of_ble_eq_true rfl) dX2_inSpace_73 (fun H locs hP hD hS => ?_)
  obtain ⟨s5, es5, h⟩ := nd_let_e h
  have hP : va_P (dC, dI) vwCl (dw_X2m a ac s5) H := by rw [es5]; exact hP
  have hD : va_D A (dw_X2m a ac s5) := by rw [es5]; exact hD
  refine lv_lconst (v := 0) hx hb dX2_inSpace_76 (by decide) ?_
  exact K _ _ _ _ _ _ dX2_inSpace_77 (Option.some.inj h).symm hP hD hS
set_option maxHeartbeats 40000000 in
set_option maxRecDepth 100000 in
theorem db_X2_inSpace_128 {p : Program} {l : Launch} {e : Env} {s : State} {m : MethodId} {args : Array Value} {below : List Frame} {meth : Method} {c : Code} {Q : State → Prop} {A : Nat → Prop} {dC : Nat → ClassId} {dI : Nat → Nat → Nat} {a : Nat → Nat} {ac : Nat → ClassId} {n : Nat} {r : Int64 × (St × (St) × (St × (St)))} (C : nd_C p l s m args c A (dC, dI) cX2_inSpace 8 RX2 ow_dm_X2_inSpace (dk_X2m ac)) (K : nd_Kl p l e (headSpec ow_dm_X2_inSpace ({ frames := 1, cells := 0, slots := 0, locals := 23 })).room s m args below meth c Q A (dC, dI) cX2_inSpace (St × (St) × (St × (St))) (dw_X2m a ac) r) : dj_X2_inSpace_128 p l e s m args below meth c Q A dC dI a ac (df_X2_inSpace_128 n) r := by
  obtain ⟨hlt, hx, hb, hml, hown, hts, hN, hA, hK⟩ := id C
  intro y0 s0 H locs ls h hP hD hS hl
  unfold df_X2_inSpace_128 at h
  exact K _ _ _ _ _ _ dX2_inSpace_128 (Option.some.inj h).symm hP hD hS
set_option maxHeartbeats 40000000 in
set_option maxRecDepth 100000 in
theorem db_X2_inSpace_27 {p : Program} {l : Launch} {e : Env} {s : State} {m : MethodId} {args : Array Value} {below : List Frame} {meth : Method} {c : Code} {Q : State → Prop} {A : Nat → Prop} {dC : Nat → ClassId} {dI : Nat → Nat → Nat} {a : Nat → Nat} {ac : Nat → ClassId} {n : Nat} {r : Int64 × (St × (St) × (St × (St)))} (C : nd_C p l s m args c A (dC, dI) cX2_inSpace 8 RX2 ow_dm_X2_inSpace (dk_X2m ac)) (K : nd_Kl p l e (headSpec ow_dm_X2_inSpace ({ frames := 1, cells := 0, slots := 0, locals := 23 })).room s m args below meth c Q A (dC, dI) cX2_inSpace (St × (St) × (St × (St))) (dw_X2m a ac) r) : dj_X2_inSpace_27 p l e s m args below meth c Q A dC dI a ac (df_X2_inSpace_27 n) r := by
  obtain ⟨hlt, hx, hb, hml, hown, hts, hN, hA, hK⟩ := id C
  intro x3 x5 y0 s0 H locs ls h hP hD hS hl
  unfold df_X2_inSpace_27 at h
  refine lv_istore (lv' := [(6, .int y0), (0, .ref (a 0)), (1, .ref (a 9)), (3, .long x3), (5, .int x5)]) hx hb dX2_inSpace_27 hl (by decide) rfl (fun ls hl => ?_)
  refine lv_iload hx hb dX2_inSpace_29 (lv_at hl 4 rfl) ?_
  refine lv_if_lt (tgt := 71) hx hb dX2_inSpace_31 (by decide) (fun c4 => ?_) (fun c4 => ?_)
  · have h := nd_pos h c4
    exact (db_X2_inSpace_71 C K)  s0 _ _ _ h hP hD hS (lv_sub hl [1] rfl)
  · have h := nd_neg h c4
    refine lv_lload_n hx hb dX2_inSpace_34 rfl (lv_at hl 3 rfl) ?_
    refine lv_lconst (v := 0) hx hb dX2_inSpace_35 (by decide) ?_
    refine W.lcmp hx hb dX2_inSpace_36 ?_
    refine lv_if_lt (tgt := 71) hx hb dX2_inSpace_37 (by decide) (fun c6 => ?_) (fun c6 => ?_)
    · have h := nd_pos h c6
      exact (db_X2_inSpace_71 C K)  s0 _ _ _ h hP hD hS (lv_sub hl [1] rfl)
    · have h := nd_neg h c6
      refine lv_lload_n hx hb dX2_inSpace_40 rfl (lv_at hl 3 rfl) ?_
      refine lv_ldc2 hx hb hown (hts (.constantLong RX2 233 (65536)) (List.mem_of_getElem? (i := 3) rfl)) dX2_inSpace_41 ?_
      refine W.lcmp hx hb dX2_inSpace_44 ?_
      refine lv_if_ge (tgt := 71) hx hb dX2_inSpace_45 (by decide) (fun c7 => ?_) (fun c7 => ?_)
      · have h := nd_pos h c7
        exact (db_X2_inSpace_71 C K)  s0 _ _ _ h hP hD hS (lv_sub hl [1] rfl)
      · have h := nd_neg h c7
        refine lv_lload_n hx hb dX2_inSpace_48 rfl (lv_at hl 3 rfl) ?_
        refine lv_iload hx hb dX2_inSpace_49 (lv_at hl 0 rfl) ?_
        refine lv_i2l hx hb dX2_inSpace_51 rfl ?_
        obtain ⟨i8, h⟩ := nd_nz_e h
        refine lv_lrem hx hb dX2_inSpace_52 i8 ?_
        refine lv_lconst (v := 0) hx hb dX2_inSpace_53 (by decide) ?_
        refine W.lcmp hx hb dX2_inSpace_54 ?_
        refine lv_if_ne (tgt := 71) hx hb dX2_inSpace_55 (by decide) (fun c9 => ?_) (fun c9 => ?_)
        · have h := nd_neg h c9
          exact (db_X2_inSpace_71 C K)  s0 _ _ _ h hP hD hS (lv_sub hl [1] rfl)
        · have h := nd_pos h c9
          refine lv_aload_n hx hb dX2_inSpace_58 rfl (lv_at hl 2 rfl) ?_
          refine lv_iload hx hb dX2_inSpace_59 (lv_at hl 4 rfl) ?_
          refine lv_lload_n hx hb dX2_inSpace_61 rfl (lv_at hl 3 rfl) ?_
          refine lv_l2i hx hb dX2_inSpace_62 rfl ?_
          refine lv_bipush (v := 7) hx hb dX2_inSpace_63 (by decide) ?_
          obtain ⟨q10, s11, hq, h⟩ := nd_b2_e h
          have hPc := dp_X2m_9 hP
          have hDc := dd_X2m_9 hD
          have hKc := dy_X2m_9 hK
          have hFc := nd_rs hDc hS hA
          have hzA : ∀ q : Nat, H.size ≤ q → A q := fun q h => hA q (Nat.le_trans hS.1 h)
          refine nd_cVi (As := [.int x5, .int (x3.toInt32), .int 7]) (rest := []) (q := q10) (w' := dw_X6 (fun k => a (k + 9)) (fun k => ac (k + 9)) s11) ⟨hx, hb, hml, hown, hts⟩ (fun sz => dm_X6_may l hlt dC dI (fun k => a (k + 9)) (fun k => ac (k + 9)) n (x5) ((x3.toInt32)) (7) s0.2.2 hq sz) (cwV 3 hts gi_dm_X2_inSpace_0 rfl rfl rfl (by decide +kernel) ⟨Nat.le_of_ble_eq_true rfl, Nat.le_of_ble_eq_true rfl⟩) hPc hDc hKc hS hA hN (va_recv hKc hPc (ci := 7) (q0 := 0) rfl rfl) rfl hl.1 rfl (Nat.le_of_ble_eq_true rfl) dX2_inSpace_65 (fun H locs hP1 hD1 hk1 hS => ?_)
          obtain ⟨hP, hD⟩ := dn_X2m_9 hP hD hzA hk1 hP1 hD1
          obtain ⟨s13, es13, h⟩ := nd_let_e h
          have hP : va_P (dC, dI) vwCl (dw_X2m a ac s13) H := by rw [es13]; exact hP
          have hD : va_D A (dw_X2m a ac s13) := by rw [es13]; exact hD
          refine lv_if_ne (tgt := 78) hx hb dX2_inSpace_68 (by decide) (fun c14 => ?_) (fun c14 => ?_)
          · have h := nd_neg h c14
            refine lv_lload_n hx hb dX2_inSpace_78 rfl (lv_at hl 3 rfl) ?_
            refine lv_l2i hx hb dX2_inSpace_79 rfl ?_
            refine lv_topi (fun z15 ez15 => ?_)
            have h := nd_at h ez15
            refine lv_istore (lv' := [(7, .int z15), (6, .int y0), (0, .ref (a 0)), (1, .ref (a 9)), (3, .long x3), (5, .int x5)]) hx hb dX2_inSpace_80 hl (by decide) rfl (fun ls hl => ?_)
            refine lv_iload hx hb dX2_inSpace_82 (lv_at hl 1 rfl) ?_
            refine lv_iconst (v := 4) hx hb dX2_inSpace_84 (by decide) ?_
            refine lv_icmp_ne (tgt := 100) hx hb dX2_inSpace_85 (by decide) (fun c16 => ?_) (fun c16 => ?_)
            · have h := nd_neg h c16
              refine lv_iload hx hb dX2_inSpace_100 (lv_at hl 1 rfl) ?_
              refine lv_iconst (v := 2) hx hb dX2_inSpace_102 (by decide) ?_
              refine lv_icmp_ne (tgt := 119) hx hb dX2_inSpace_103 (by decide) (fun c17 => ?_) (fun c17 => ?_)
              · have h := nd_neg h c17
                refine lv_aload_n hx hb dX2_inSpace_119 rfl (lv_at hl 3 rfl) ?_
                refine lv_iload hx hb dX2_inSpace_120 (lv_at hl 5 rfl) ?_
                refine lv_iload hx hb dX2_inSpace_122 (lv_at hl 0 rfl) ?_
                obtain ⟨q18, s19, hq, h⟩ := nd_b2_e h
                have hPc := dp_X2m_9 hP
                have hDc := dd_X2m_9 hD
                have hKc := dy_X2m_9 hK
                have hFc := nd_rs hDc hS hA
                have hzA : ∀ q : Nat, H.size ≤ q → A q := fun q h => hA q (Nat.le_trans hS.1 h)
                refine nd_cVi (As := [.int x5, .int z15]) (rest := []) (q := q18) (w' := dw_X6 (fun k => a (k + 9)) (fun k => ac (k + 9)) s19) ⟨hx, hb, hml, hown, hts⟩ (fun sz => dm_X6_byteAt l hlt dC dI (fun k => a (k + 9)) (fun k => ac (k + 9)) n (x5) (z15) s13.2.2 hq sz) (cwV 2 hts gi_dm_X2_inSpace_1 rfl rfl rfl (by decide +kernel) ⟨Nat.le_of_ble_eq_true rfl, Nat.le_of_ble_eq_true rfl⟩) hPc hDc hKc hS hA hN (va_recv hKc hPc (ci := 7) (q0 := 0) rfl rfl) rfl hl.1 rfl (Nat.le_of_ble_eq_true rfl) dX2_inSpace_124 (fun H locs hP1 hD1 hk1 hS => ?_)
                obtain ⟨hP, hD⟩ := dn_X2m_9 hP hD hzA hk1 hP1 hD1
                obtain ⟨s21, es21, h⟩ := nd_let_e h
                have hP : va_P (dC, dI) vwCl (dw_X2m a ac s21) H := by rw [es21]; exact hP
                have hD : va_D A (dw_X2m a ac s21) := by rw [es21]; exact hD
                refine lv_i2l hx hb dX2_inSpace_127 rfl ?_
                exact (db_X2_inSpace_128 C K) ((q18.toInt64)) s21 _ _ _ h hP hD hS (lv_sub hl [] rfl)
              · have h := nd_pos h c17
                refine lv_aload_n hx hb dX2_inSpace_106 rfl (lv_at hl 3 rfl) ?_
                refine lv_iload hx hb dX2_inSpace_107 (lv_at hl 5 rfl) ?_
                refine lv_iload hx hb dX2_inSpace_109 (lv_at hl 0 rfl) ?_
                obtain ⟨q22, s23, hq, h⟩ := nd_b2_e h
                have hPc := dp_X2m_9 hP
                have hDc := dd_X2m_9 hD
                have hKc := dy_X2m_9 hK
                have hFc := nd_rs hDc hS hA
                have hzA : ∀ q : Nat, H.size ≤ q → A q := fun q h => hA q (Nat.le_trans hS.1 h)
                refine nd_cVi (As := [.int x5, .int z15]) (rest := []) (q := q22) (w' := dw_X6 (fun k => a (k + 9)) (fun k => ac (k + 9)) s23) ⟨hx, hb, hml, hown, hts⟩ (fun sz => dm_X6_halfAt l hlt dC dI (fun k => a (k + 9)) (fun k => ac (k + 9)) n (x5) (z15) s13.2.2 hq sz) (cwV 2 hts gi_dm_X2_inSpace_2 rfl rfl rfl (by decide +kernel) ⟨Nat.le_of_ble_eq_true rfl, Nat.le_of_ble_eq_true rfl⟩) hPc hDc hKc hS hA hN (va_recv hKc hPc (ci := 7) (q0 := 0) rfl rfl) rfl hl.1 rfl (Nat.le_of_ble_eq_true rfl) dX2_inSpace_111 (fun H locs hP1 hD1 hk1 hS => ?_)
                obtain ⟨hP, hD⟩ := dn_X2m_9 hP hD hzA hk1 hP1 hD1
                obtain ⟨s25, es25, h⟩ := nd_let_e h
                have hP : va_P (dC, dI) vwCl (dw_X2m a ac s25) H := by rw [es25]; exact hP
                have hD : va_D A (dw_X2m a ac s25) := by rw [es25]; exact hD
                refine lv_i2s hx hb dX2_inSpace_114 rfl ?_
                refine lv_i2l hx hb dX2_inSpace_115 rfl ?_
                refine lv_goto (tgt := 128) hx hb dX2_inSpace_116 (by decide) ?_
                exact (db_X2_inSpace_128 C K) ((((q22.toInt16.toInt32) : Int32).toInt64)) s25 _ _ _ h hP hD hS (lv_sub hl [] rfl)
            · have h := nd_pos h c16
              refine lv_aload_n hx hb dX2_inSpace_88 rfl (lv_at hl 3 rfl) ?_
              refine lv_iload hx hb dX2_inSpace_89 (lv_at hl 5 rfl) ?_
              refine lv_iload hx hb dX2_inSpace_91 (lv_at hl 0 rfl) ?_
              obtain ⟨q26, s27, hq, h⟩ := nd_b2_e h
              have hPc := dp_X2m_9 hP
              have hDc := dd_X2m_9 hD
              have hKc := dy_X2m_9 hK
              have hFc := nd_rs hDc hS hA
              have hzA : ∀ q : Nat, H.size ≤ q → A q := fun q h => hA q (Nat.le_trans hS.1 h)
              refine nd_cVi (As := [.int x5, .int z15]) (rest := []) (q := q26) (w' := dw_X6 (fun k => a (k + 9)) (fun k => ac (k + 9)) s27) ⟨hx, hb, hml, hown, hts⟩ (fun sz => dm_X6_wordAt l hlt dC dI (fun k => a (k + 9)) (fun k => ac (k + 9)) n (x5) (z15) s13.2.2 hq sz) (cwV 2 hts gi_dm_X2_inSpace_3 rfl rfl rfl (by decide +kernel) ⟨Nat.le_of_ble_eq_true rfl, Nat.le_of_ble_eq_true rfl⟩) hPc hDc hKc hS hA hN (va_recv hKc hPc (ci := 7) (q0 := 0) rfl rfl) rfl hl.1 rfl (Nat.le_of_ble_eq_true rfl) dX2_inSpace_93 (fun H locs hP1 hD1 hk1 hS => ?_)
              obtain ⟨hP, hD⟩ := dn_X2m_9 hP hD hzA hk1 hP1 hD1
              obtain ⟨s29, es29, h⟩ := nd_let_e h
              have hP : va_P (dC, dI) vwCl (dw_X2m a ac s29) H := by rw [es29]; exact hP
              have hD : va_D A (dw_X2m a ac s29) := by rw [es29]; exact hD
              refine lv_i2l hx hb dX2_inSpace_96 rfl ?_
              refine lv_goto (tgt := 128) hx hb dX2_inSpace_97 (by decide) ?_
              exact (db_X2_inSpace_128 C K) ((q26.toInt64)) s29 _ _ _ h hP hD hS (lv_sub hl [] rfl)
          · have h := nd_pos h c14
            exact (db_X2_inSpace_71 C K)  s13 _ _ _ h hP hD hS (lv_sub hl [1] rfl)
set_option maxHeartbeats 40000000 in
set_option maxRecDepth 100000 in
theorem db_X2_inSpace_0 {p : Program} {l : Launch} {e : Env} {s : State} {m : MethodId} {args : Array Value} {below : List Frame} {meth : Method} {c : Code} {Q : State → Prop} {A : Nat → Prop} {dC : Nat → ClassId} {dI : Nat → Nat → Nat} {a : Nat → Nat} {ac : Nat → ClassId} {n : Nat} {r : Int64 × (St × (St) × (St × (St)))} (C : nd_C p l s m args c A (dC, dI) cX2_inSpace 8 RX2 ow_dm_X2_inSpace (dk_X2m ac)) (K : nd_Kl p l e (headSpec ow_dm_X2_inSpace ({ frames := 1, cells := 0, slots := 0, locals := 23 })).room s m args below meth c Q A (dC, dI) cX2_inSpace (St × (St) × (St × (St))) (dw_X2m a ac) r) : dj_X2_inSpace_0 p l e s m args below meth c Q A dC dI a ac (df_X2_inSpace_0 n) r := by
  obtain ⟨hlt, hx, hb, hml, hown, hts, hN, hA, hK⟩ := id C
  intro v1 v2 s0 H locs ls h hP hD hS hl
  unfold df_X2_inSpace_0 at h
  refine lv_aload_n hx hb dX2_inSpace_0 rfl (lv_at hl 1 rfl) ?_
  refine va_get (D := (dC, dI)) (ci := 7) (v := .int (sI s0.2.2.1 3)) (C := RX6) (T := TX6) (N := 20) hx hb hts hi_dm_X2_inSpace_X6 hown hK hP 9 rfl rfl 13 (by decide) (hts (.fieldLink RX2 221 "TimeMachine$Machine" "current" "I") (List.mem_of_getElem? (i := 1) rfl)) (fun _ h9 => h9) rfl dX2_inSpace_1 ?_
  refine lv_topi (fun z1 ez1 => ?_)
  have h := nd_at h ez1
  refine lv_istore (lv' := [(5, .int z1), (0, .ref (a 0)), (1, .ref (a 9)), (2, .int v1), (3, .long v2)]) hx hb dX2_inSpace_4 hl (by decide) rfl (fun ls hl => ?_)
  refine lv_iload_n hx hb dX2_inSpace_6 rfl (lv_at hl 3 rfl) ?_
  refine lv_bipush (v := 25) hx hb dX2_inSpace_7 (by decide) ?_
  refine lv_icmp_ne (tgt := 16) hx hb dX2_inSpace_9 (by decide) (fun c2 => ?_) (fun c2 => ?_)
  · have h := nd_neg h c2
    refine lv_iload_n hx hb dX2_inSpace_16 rfl (lv_at hl 3 rfl) ?_
    refine lv_bipush (v := 26) hx hb dX2_inSpace_17 (by decide) ?_
    refine lv_icmp_ne (tgt := 26) hx hb dX2_inSpace_19 (by decide) (fun c3 => ?_) (fun c3 => ?_)
    · have h := nd_neg h c3
      refine lv_iconst (v := 1) hx hb dX2_inSpace_26 (by decide) ?_
      exact (db_X2_inSpace_27 C K) (v2) (z1) (1) s0 _ _ _ h hP hD hS (lv_sub hl [1, 2, 4, 0] rfl)
    · have h := nd_pos h c3
      refine lv_iconst (v := 2) hx hb dX2_inSpace_22 (by decide) ?_
      refine lv_goto (tgt := 27) hx hb dX2_inSpace_23 (by decide) ?_
      exact (db_X2_inSpace_27 C K) (v2) (z1) (2) s0 _ _ _ h hP hD hS (lv_sub hl [1, 2, 4, 0] rfl)
  · have h := nd_pos h c2
    refine lv_iconst (v := 4) hx hb dX2_inSpace_12 (by decide) ?_
    refine lv_goto (tgt := 27) hx hb dX2_inSpace_13 (by decide) ?_
    exact (db_X2_inSpace_27 C K) (v2) (z1) (4) s0 _ _ _ h hP hD hS (lv_sub hl [1, 2, 4, 0] rfl)
set_option maxHeartbeats 40000000 in
set_option maxRecDepth 100000 in
theorem dm_X2_inSpace (l : Launch) (hlt : l.stackTraces = false) (dC : Nat → ClassId) (dI : Nat → Nat → Nat) (a : Nat → Nat) (ac : Nat → ClassId) (n : Nat) (v1 : Int32) (v2 : Int64) (s0 : St × (St) × (St × (St))) {r : Int64 × (St × (St) × (St × (St)))} (h : df_X2_inSpace n v1 v2 s0 = some r) (sz : Nat) : Met l yX2_inSpace ow_dm_X2_inSpace ({ frames := 1, cells := 0, slots := 0, locals := 23 }) (va_Pc [.ref (a 0), .ref (a 9), .int v1, .long v2] (fun U => U.heap.size = sz ∧ va_P (dC, dI) vwCl (dw_X2m a ac s0) U.heap ∧ va_K (dC, dI) vwCl (dk_X2m ac) U ∧ va_D (fun _ => True) (dw_X2m a ac s0) ∧ nv_E dI (va_A (dw_X2m a ac s0) sz) U)) (va_Ql (fun x _ => x = r.1) (fun (_ : Unit) t => va_P (dC, dI) vwCl (dw_X2m a ac r.2) t.heap ∧ va_K (dC, dI) vwCl (dk_X2m ac) t ∧ va_D (va_A (dw_X2m a ac s0) sz) (dw_X2m a ac r.2)) (va_A (dw_X2m a ac s0) sz)) 0 0 (va_A (dw_X2m a ac s0) sz) := by
  refine Met.ofW (cc := cX2_inSpace) (maxL := 8) (ret := (some .long)) (by decide) rfl ?_
  intro p e s m args below meth c s₁ B hml hv
  obtain ⟨rfl, hsz, hP, hK, hD0, hN⟩ := hv
  have hx := B.exec
  have hb := B.bytes
  have hr := B.returns
  have hts := atoms_spec (ws := ow_dm_X2_inSpace) B.pre
  have hown : s.vm.findClass RX2 = some m.cls := findClass_of_methodNamed B.named
  have hlocks := B.notSynchronized
  subst hsz
  have hD := hD0.self (sz := s.heap.size)
  generalize hAe : va_A (dw_X2m a ac s0) s.heap.size = A at hD hN ⊢
  have hA : ∀ q : Nat, s.heap.size ≤ q → A q := fun q h => by rw [← hAe]; exact Or.inr h
  have hl := lv_entry ([.ref (a 0), .ref (a 9), .int v1, .long v2]) (n := 8) (Nat.le_of_ble_eq_true rfl)
  rw [lg_entry_eq]
  generalize (lg_sl ([.ref (a 0), .ref (a 9), .int v1, .long v2]) ++ List.replicate (8 - (lg_sl ([.ref (a 0), .ref (a 9), .int v1, .long v2])).length) Slot.unset).toArray = ls at hl ⊢
  have hl : lv_has ls 8 [(0, .ref (a 0)), (1, .ref (a 9)), (2, .int v1), (3, .long v2)] := hl
  exact db_X2_inSpace_0 (dC := dC) (dI := dI) (a := a) (ac := ac) (n := n) (r := r) ⟨hlt, hx, hb, hml, hown, hts, hN, hA, hK⟩ (fun pc v τ H locs ls d er hP hD hS => by subst er; exact W.lret (v := v) hx hb hr (fun t ht hW => ⟨⟨v, (), rfl, rfl, by rw [ht]; exact hP, va_K.moved hW.alike hK, hD⟩, hS.F ht⟩) hS.2.2 d) v1 v2 s0 _ _ _ h hP hD va_S.rf (lv_sub hl [0, 1, 2, 3] rfl)
def ow_dm_X2_single : List Cond := Cond.code yX2_single cX2_single 6 (some .long) :: ([Cond.constantLong RX2 227 (-1), Cond.fieldLink RX2 32 "TimeMachine$Condition" "oldValue" "[J", Cond.methodLink RX2 229 yX2_inSpace, Cond.instanceMethod yX2_inSpace, Cond.selects RX2 yX2_inSpace yX2_inSpace, Cond.initialized RX2] ++ (u_ws RX2 TX2 20 ++ (ow_dm_X2_inSpace ++ [])))
theorem gd_dm_X2_single : ∀ w ∈ ow_dm_X2_single, (w.onTables && w.keeps) = true ∨ ∃ ty, w = Cond.arrayClass ty := List.forall_mem_cons.mpr ⟨good_of_word rfl, List.forall_mem_append.mpr ⟨fun w h => good_of_word (List.all_eq_true.mp (by decide +kernel) w h), List.forall_mem_append.mpr ⟨gu_X2, List.forall_mem_append.mpr ⟨gd_dm_X2_inSpace, fun _ h => nomatch h⟩⟩⟩⟩
theorem hi_dm_X2_single_X2 : ∀ w ∈ u_ws RX2 TX2 20, w ∈ ow_dm_X2_single := fun w h => List.mem_cons_of_mem _ (List.mem_append_right _ (List.mem_append_left _ h))
theorem gi_dm_X2_single_0 : GoodIn ow_dm_X2_single (wsV RX2 229 RX2 yX2_inSpace ow_dm_X2_inSpace) := goodIn_app (goodIn_of _ (by decide +kernel)) (fun w h => ⟨List.mem_cons_of_mem _ (List.mem_append_right _ (List.mem_append_right _ (List.mem_append_left _ h))), gd_dm_X2_inSpace w h⟩)
def dj_X2_single_64 (p : Program) (l : Launch) (e : Env) (s : State) (m : MethodId) (args : Array Value) (below : List Frame) (meth : Method) (c : Code) (Q : State → Prop) (A : Nat → Prop) (dC : Nat → ClassId) (dI : Nat → Nat → Nat) (a : Nat → Nat) (ac : Nat → ClassId) (g : Int64 → (St × (St) × (St × (St))) → Option (Int64 × (St × (St) × (St × (St))))) (r : Int64 × (St × (St) × (St × (St)))) : Prop := ∀ (y0 : Int64) (s0 : St × (St) × (St × (St))) (H : Heap) (locs : List Loc) (ls : Array Slot), g y0 s0 = some r → va_P (dC, dI) vwCl (dw_X2m a ac s0) H → va_D A (dw_X2m a ac s0) → va_S A s.heap H locs → lv_has ls 6 [] → W p l e (headSpec ow_dm_X2_single ({ frames := 2, cells := 0, slots := 0, locals := 50 })).room s m args below meth c H locs 0 0 Q (F0 m 64 ls [.long y0])
def dj_X2_single_106 (p : Program) (l : Launch) (e : Env) (s : State) (m : MethodId) (args : Array Value) (below : List Frame) (meth : Method) (c : Code) (Q : State → Prop) (A : Nat → Prop) (dC : Nat → ClassId) (dI : Nat → Nat → Nat) (a : Nat → Nat) (ac : Nat → ClassId) (g : Int64 → (St × (St) × (St × (St))) → Option (Int64 × (St × (St) × (St × (St))))) (r : Int64 × (St × (St) × (St × (St)))) : Prop := ∀ (y0 : Int64) (s0 : St × (St) × (St × (St))) (H : Heap) (locs : List Loc) (ls : Array Slot), g y0 s0 = some r → va_P (dC, dI) vwCl (dw_X2m a ac s0) H → va_D A (dw_X2m a ac s0) → va_S A s.heap H locs → lv_has ls 6 [] → W p l e (headSpec ow_dm_X2_single ({ frames := 2, cells := 0, slots := 0, locals := 50 })).room s m args below meth c H locs 0 0 Q (F0 m 106 ls [.long y0])
def dj_X2_single_88 (p : Program) (l : Launch) (e : Env) (s : State) (m : MethodId) (args : Array Value) (below : List Frame) (meth : Method) (c : Code) (Q : State → Prop) (A : Nat → Prop) (dC : Nat → ClassId) (dI : Nat → Nat → Nat) (a : Nat → Nat) (ac : Nat → ClassId) (g : Int64 → (St × (St) × (St × (St))) → Option (Int64 × (St × (St) × (St × (St))))) (r : Int64 × (St × (St) × (St × (St)))) : Prop := ∀ (y0 : Int64) (s0 : St × (St) × (St × (St))) (H : Heap) (locs : List Loc) (ls : Array Slot), g y0 s0 = some r → va_P (dC, dI) vwCl (dw_X2m a ac s0) H → va_D A (dw_X2m a ac s0) → va_S A s.heap H locs → lv_has ls 6 [] → W p l e (headSpec ow_dm_X2_single ({ frames := 2, cells := 0, slots := 0, locals := 50 })).room s m args below meth c H locs 0 0 Q (F0 m 88 ls [.long y0])
def dj_X2_single_0 (p : Program) (l : Launch) (e : Env) (s : State) (m : MethodId) (args : Array Value) (below : List Frame) (meth : Method) (c : Code) (Q : State → Prop) (A : Nat → Prop) (dC : Nat → ClassId) (dI : Nat → Nat → Nat) (a : Nat → Nat) (ac : Nat → ClassId) (g : Int32 → Int32 → Int64 → (St × (St) × (St × (St))) → Option (Int64 × (St × (St) × (St × (St))))) (r : Int64 × (St × (St) × (St × (St)))) : Prop := ∀ (v1 : Int32) (v2 : Int32) (v3 : Int64) (s0 : St × (St) × (St × (St))) (H : Heap) (locs : List Loc) (ls : Array Slot), g v1 v2 v3 s0 = some r → va_P (dC, dI) vwCl (dw_X2m a ac s0) H → va_D A (dw_X2m a ac s0) → va_S A s.heap H locs → lv_has ls 6 [(0, .ref (a 0)), (1, .ref (a 9)), (2, .int v1), (3, .int v2), (4, .long v3)] → W p l e (headSpec ow_dm_X2_single ({ frames := 2, cells := 0, slots := 0, locals := 50 })).room s m args below meth c H locs 0 0 Q (F0 m 0 ls [])
set_option maxHeartbeats 40000000 in
set_option maxRecDepth 100000 in
theorem db_X2_single_64 {p : Program} {l : Launch} {e : Env} {s : State} {m : MethodId} {args : Array Value} {below : List Frame} {meth : Method} {c : Code} {Q : State → Prop} {A : Nat → Prop} {dC : Nat → ClassId} {dI : Nat → Nat → Nat} {a : Nat → Nat} {ac : Nat → ClassId} {n : Nat} {r : Int64 × (St × (St) × (St × (St)))} (C : nd_C p l s m args c A (dC, dI) cX2_single 6 RX2 ow_dm_X2_single (dk_X2m ac)) (K : nd_Kl p l e (headSpec ow_dm_X2_single ({ frames := 2, cells := 0, slots := 0, locals := 50 })).room s m args below meth c Q A (dC, dI) cX2_single (St × (St) × (St × (St))) (dw_X2m a ac) r) : dj_X2_single_64 p l e s m args below meth c Q A dC dI a ac (df_X2_single_64 n) r := by
  obtain ⟨hlt, hx, hb, hml, hown, hts, hN, hA, hK⟩ := id C
  intro y0 s0 H locs ls h hP hD hS hl
  unfold df_X2_single_64 at h
  exact K _ _ _ _ _ _ dX2_single_64 (Option.some.inj h).symm hP hD hS
set_option maxHeartbeats 40000000 in
set_option maxRecDepth 100000 in
theorem db_X2_single_106 {p : Program} {l : Launch} {e : Env} {s : State} {m : MethodId} {args : Array Value} {below : List Frame} {meth : Method} {c : Code} {Q : State → Prop} {A : Nat → Prop} {dC : Nat → ClassId} {dI : Nat → Nat → Nat} {a : Nat → Nat} {ac : Nat → ClassId} {n : Nat} {r : Int64 × (St × (St) × (St × (St)))} (C : nd_C p l s m args c A (dC, dI) cX2_single 6 RX2 ow_dm_X2_single (dk_X2m ac)) (K : nd_Kl p l e (headSpec ow_dm_X2_single ({ frames := 2, cells := 0, slots := 0, locals := 50 })).room s m args below meth c Q A (dC, dI) cX2_single (St × (St) × (St × (St))) (dw_X2m a ac) r) : dj_X2_single_106 p l e s m args below meth c Q A dC dI a ac (df_X2_single_106 n) r := by
  obtain ⟨hlt, hx, hb, hml, hown, hts, hN, hA, hK⟩ := id C
  intro y0 s0 H locs ls h hP hD hS hl
  unfold df_X2_single_106 at h
  exact K _ _ _ _ _ _ dX2_single_106 (Option.some.inj h).symm hP hD hS
set_option maxHeartbeats 40000000 in
set_option maxRecDepth 100000 in
theorem db_X2_single_88 {p : Program} {l : Launch} {e : Env} {s : State} {m : MethodId} {args : Array Value} {below : List Frame} {meth : Method} {c : Code} {Q : State → Prop} {A : Nat → Prop} {dC : Nat → ClassId} {dI : Nat → Nat → Nat} {a : Nat → Nat} {ac : Nat → ClassId} {n : Nat} {r : Int64 × (St × (St) × (St × (St)))} (C : nd_C p l s m args c A (dC, dI) cX2_single 6 RX2 ow_dm_X2_single (dk_X2m ac)) (K : nd_Kl p l e (headSpec ow_dm_X2_single ({ frames := 2, cells := 0, slots := 0, locals := 50 })).room s m args below meth c Q A (dC, dI) cX2_single (St × (St) × (St × (St))) (dw_X2m a ac) r) : dj_X2_single_88 p l e s m args below meth c Q A dC dI a ac (df_X2_single_88 n) r := by
  obtain ⟨hlt, hx, hb, hml, hown, hts, hN, hA, hK⟩ := id C
  intro y0 s0 H locs ls h hP hD hS hl
  unfold df_X2_single_88 at h
  exact K _ _ _ _ _ _ dX2_single_88 (Option.some.inj h).symm hP hD hS
set_option maxHeartbeats 40000000 in
set_option maxRecDepth 100000 in
theorem db_X2_single_0 {p : Program} {l : Launch} {e : Env} {s : State} {m : MethodId} {args : Array Value} {below : List Frame} {meth : Method} {c : Code} {Q : State → Prop} {A : Nat → Prop} {dC : Nat → ClassId} {dI : Nat → Nat → Nat} {a : Nat → Nat} {ac : Nat → ClassId} {n : Nat} {r : Int64 × (St × (St) × (St × (St)))} (C : nd_C p l s m args c A (dC, dI) cX2_single 6 RX2 ow_dm_X2_single (dk_X2m ac)) (K : nd_Kl p l e (headSpec ow_dm_X2_single ({ frames := 2, cells := 0, slots := 0, locals := 50 })).room s m args below meth c Q A (dC, dI) cX2_single (St × (St) × (St × (St))) (dw_X2m a ac) r) : dj_X2_single_0 p l e s m args below meth c Q A dC dI a ac (df_X2_single_0 n) r := by
  obtain ⟨hlt, hx, hb, hml, hown, hts, hN, hA, hK⟩ := id C
  intro v1 v2 v3 s0 H locs ls h hP hD hS hl
  unfold df_X2_single_0 at h
  refine lv_iload_n hx hb dX2_single_0 rfl (lv_at hl 2 rfl) ?_
  by_cases c1 : v1 = 19
  · have h := nd_pos h c1
    refine lv_lookup (off := 51) (tgt := 52) hx hb dX2_single_1 (by decide) (by rw [c1]; decide) (by decide) ?_
    refine lv_lload hx hb dX2_single_52 (lv_at hl 4 rfl) ?_
    refine lv_lconst (v := 0) hx hb dX2_single_54 (by decide) ?_
    refine W.lcmp hx hb dX2_single_55 ?_
    refine lv_if_ne (tgt := 63) hx hb dX2_single_56 (by decide) (fun c2 => ?_) (fun c2 => ?_)
    · have h := nd_neg h c2
      refine lv_lconst (v := 0) hx hb dX2_single_63 (by decide) ?_
      exact (db_X2_single_64 C K) (0) s0 _ _ _ h hP hD hS (lv_sub hl [] rfl)
    · have h := nd_pos h c2
      refine lv_lconst (v := 1) hx hb dX2_single_59 (by decide) ?_
      refine lv_goto (tgt := 64) hx hb dX2_single_60 (by decide) ?_
      exact (db_X2_single_64 C K) (1) s0 _ _ _ h hP hD hS (lv_sub hl [] rfl)
  have h := nd_neg h c1
  by_cases c3 : v1 = 20
  · have h := nd_pos h c3
    refine lv_lookup (off := 64) (tgt := 65) hx hb dX2_single_1 (by decide) (by rw [c3]; decide) (by decide) ?_
    refine lv_lload hx hb dX2_single_65 (lv_at hl 4 rfl) ?_
    refine lv_lneg hx hb dX2_single_67 ?_
    exact K _ _ _ _ _ _ dX2_single_68 (Option.some.inj h).symm hP hD hS
  have h := nd_neg h c3
  by_cases c4 : v1 = 21
  · have h := nd_pos h c4
    refine lv_lookup (off := 68) (tgt := 69) hx hb dX2_single_1 (by decide) (by rw [c4]; decide) (by decide) ?_
    refine lv_lload hx hb dX2_single_69 (lv_at hl 4 rfl) ?_
    refine lv_ldc2 hx hb hown (hts (.constantLong RX2 227 (-1)) (List.mem_of_getElem? (i := 1) rfl)) dX2_single_71 ?_
    refine lv_lxor hx hb dX2_single_74 ?_
    exact K _ _ _ _ _ _ dX2_single_75 (Option.some.inj h).symm hP hD hS
  have h := nd_neg h c4
  by_cases c5 : v1 = 24
  · have h := nd_pos h c5
    refine lv_lookup (off := 88) (tgt := 89) hx hb dX2_single_1 (by decide) (by rw [c5]; decide) (by decide) ?_
    refine lv_lload hx hb dX2_single_89 (lv_at hl 4 rfl) ?_
    refine lv_aload_n hx hb dX2_single_91 rfl (lv_at hl 0 rfl) ?_
    refine va_get (D := (dC, dI)) (ci := 3) (v := .ref (a 8)) (C := RX2) (T := TX2) (N := 20) hx hb hts hi_dm_X2_single_X2 hown hK hP 0 rfl rfl 9 (by decide) (hts (.fieldLink RX2 32 "TimeMachine$Condition" "oldValue" "[J") (List.mem_of_getElem? (i := 2) rfl)) (fun _ h9 => h9) rfl dX2_single_92 ?_
    refine lv_iload_n hx hb dX2_single_95 rfl (lv_at hl 3 rfl) ?_
    obtain ⟨i6, h⟩ := nd_ck_e h
    refine va_lald (i := v2) hx hb hK hP 8 7 rfl rfl i6 dX2_single_96 ?_
    refine W.lcmp hx hb dX2_single_97 ?_
    refine lv_if_eq (tgt := 105) hx hb dX2_single_98 (by decide) (fun c7 => ?_) (fun c7 => ?_)
    · have h := nd_pos h c7
      refine lv_lconst (v := 0) hx hb dX2_single_105 (by decide) ?_
      exact (db_X2_single_106 C K) (0) s0 _ _ _ h hP hD hS (lv_sub hl [] rfl)
    · have h := nd_neg h c7
      refine lv_lconst (v := 1) hx hb dX2_single_101 (by decide) ?_
      refine lv_goto (tgt := 106) hx hb dX2_single_102 (by decide) ?_
      exact (db_X2_single_106 C K) (1) s0 _ _ _ h hP hD hS (lv_sub hl [] rfl)
  have h := nd_neg h c5
  by_cases c8 : v1 = 36
  · have h := nd_pos h c8
    refine lv_lookup (off := 75) (tgt := 76) hx hb dX2_single_1 (by decide) (by rw [c8]; decide) (by decide) ?_
    refine lv_lload hx hb dX2_single_76 (lv_at hl 4 rfl) ?_
    refine lv_lconst (v := 0) hx hb dX2_single_78 (by decide) ?_
    refine W.lcmp hx hb dX2_single_79 ?_
    refine lv_if_eq (tgt := 87) hx hb dX2_single_80 (by decide) (fun c9 => ?_) (fun c9 => ?_)
    · have h := nd_pos h c9
      refine lv_lconst (v := 0) hx hb dX2_single_87 (by decide) ?_
      exact (db_X2_single_88 C K) (0) s0 _ _ _ h hP hD hS (lv_sub hl [] rfl)
    · have h := nd_neg h c9
      refine lv_lconst (v := 1) hx hb dX2_single_83 (by decide) ?_
      refine lv_goto (tgt := 88) hx hb dX2_single_84 (by decide) ?_
      exact (db_X2_single_88 C K) (1) s0 _ _ _ h hP hD hS (lv_sub hl [] rfl)
  have h := nd_neg h c8
  refine lv_lookup (off := 106) (tgt := 107) hx hb dX2_single_1 (by decide) (show Op.lookupswitch.offset [(19, 51), (20, 64), (21, 68), (24, 88), (36, 75)] 106 (v1 : Int32).toInt = 106 by rw [lv_osw c1 (by decide), lv_osw c3 (by decide), lv_osw c4 (by decide), lv_osw c5 (by decide), lv_osw c8 (by decide)] <;> rfl) (by decide) ?_
  refine lv_aload_n hx hb dX2_single_107 rfl (lv_at hl 0 rfl) ?_
  refine lv_aload_n hx hb dX2_single_108 rfl (lv_at hl 1 rfl) ?_
  refine lv_iload_n hx hb dX2_single_109 rfl (lv_at hl 2 rfl) ?_
  refine lv_lload hx hb dX2_single_110 (lv_at hl 4 rfl) ?_
  obtain ⟨q10, s11, hq, h⟩ := nd_b2_e h
  have hPc := hP
  have hDc := hD
  have hKc := hK
  have hFc := nd_rs hD hS hA
  refine nd_cVl (As := [.ref (a 9), .int v1, .long v3]) (rest := []) (q := q10) (w' := dw_X2m a ac s11) ⟨hx, hb, hml, hown, hts⟩ (fun sz => dm_X2_inSpace l hlt dC dI a ac n (v1) (v3) s0 hq sz) (cwV 3 hts gi_dm_X2_single_0 rfl rfl rfl (by decide +kernel) ⟨Nat.le_of_ble_eq_true rfl, Nat.le_of_ble_eq_true rfl⟩) hPc hDc hKc hS hA hN (va_recv hKc hPc (ci := 3) (q0 := 0) rfl rfl) rfl hl.1 rfl (Nat.le_of_ble_eq_true rfl) dX2_single_112 (fun H locs hP1 hD1 hk1 hS => ?_)
  have hP := hP1
  have hD := hD1.weaken (fun k q _ h => hFc q.1 h)
  exact K _ _ _ _ _ _ dX2_single_115 (Option.some.inj h).symm hP hD hS
set_option maxHeartbeats 40000000 in
set_option maxRecDepth 100000 in
theorem dm_X2_single (l : Launch) (hlt : l.stackTraces = false) (dC : Nat → ClassId) (dI : Nat → Nat → Nat) (a : Nat → Nat) (ac : Nat → ClassId) (n : Nat) (v1 : Int32) (v2 : Int32) (v3 : Int64) (s0 : St × (St) × (St × (St))) {r : Int64 × (St × (St) × (St × (St)))} (h : df_X2_single n v1 v2 v3 s0 = some r) (sz : Nat) : Met l yX2_single ow_dm_X2_single ({ frames := 2, cells := 0, slots := 0, locals := 50 }) (va_Pc [.ref (a 0), .ref (a 9), .int v1, .int v2, .long v3] (fun U => U.heap.size = sz ∧ va_P (dC, dI) vwCl (dw_X2m a ac s0) U.heap ∧ va_K (dC, dI) vwCl (dk_X2m ac) U ∧ va_D (fun _ => True) (dw_X2m a ac s0) ∧ nv_E dI (va_A (dw_X2m a ac s0) sz) U)) (va_Ql (fun x _ => x = r.1) (fun (_ : Unit) t => va_P (dC, dI) vwCl (dw_X2m a ac r.2) t.heap ∧ va_K (dC, dI) vwCl (dk_X2m ac) t ∧ va_D (va_A (dw_X2m a ac s0) sz) (dw_X2m a ac r.2)) (va_A (dw_X2m a ac s0) sz)) 0 0 (va_A (dw_X2m a ac s0) sz) := by
  refine Met.ofW (cc := cX2_single) (maxL := 6) (ret := (some .long)) (by decide) rfl ?_
  intro p e s m args below meth c s₁ B hml hv
  obtain ⟨rfl, hsz, hP, hK, hD0, hN⟩ := hv
  have hx := B.exec
  have hb := B.bytes
  have hr := B.returns
  have hts := atoms_spec (ws := ow_dm_X2_single) B.pre
  have hown : s.vm.findClass RX2 = some m.cls := findClass_of_methodNamed B.named
  have hlocks := B.notSynchronized
  subst hsz
  have hD := hD0.self (sz := s.heap.size)
  generalize hAe : va_A (dw_X2m a ac s0) s.heap.size = A at hD hN ⊢
  have hA : ∀ q : Nat, s.heap.size ≤ q → A q := fun q h => by rw [← hAe]; exact Or.inr h
  have hl := lv_entry ([.ref (a 0), .ref (a 9), .int v1, .int v2, .long v3]) (n := 6) (Nat.le_of_ble_eq_true rfl)
  rw [lg_entry_eq]
  generalize (lg_sl ([.ref (a 0), .ref (a 9), .int v1, .int v2, .long v3]) ++ List.replicate (6 - (lg_sl ([.ref (a 0), .ref (a 9), .int v1, .int v2, .long v3])).length) Slot.unset).toArray = ls at hl ⊢
  have hl : lv_has ls 6 [(0, .ref (a 0)), (1, .ref (a 9)), (2, .int v1), (3, .int v2), (4, .long v3)] := hl
  exact db_X2_single_0 (dC := dC) (dI := dI) (a := a) (ac := ac) (n := n) (r := r) ⟨hlt, hx, hb, hml, hown, hts, hN, hA, hK⟩ (fun pc v τ H locs ls d er hP hD hS => by subst er; exact W.lret (v := v) hx hb hr (fun t ht hW => ⟨⟨v, (), rfl, rfl, by rw [ht]; exact hP, va_K.moved hW.alike hK, hD⟩, hS.F ht⟩) hS.2.2 d) v1 v2 v3 s0 _ _ _ h hP hD va_S.rf (lv_sub hl [0, 1, 2, 3, 4] rfl)
def ow_dm_X2_reckoned : List Cond := Cond.code yX2_reckoned cX2_reckoned 6 (some .long) :: ([Cond.fieldLink RX2 199 "TimeMachine$Condition" "failed" "Z"] ++ (u_ws RX2 TX2 20 ++ []))
theorem gd_dm_X2_reckoned : ∀ w ∈ ow_dm_X2_reckoned, (w.onTables && w.keeps) = true ∨ ∃ ty, w = Cond.arrayClass ty := List.forall_mem_cons.mpr ⟨good_of_word rfl, List.forall_mem_append.mpr ⟨fun w h => good_of_word (List.all_eq_true.mp (by decide +kernel) w h), List.forall_mem_append.mpr ⟨gu_X2, fun _ h => nomatch h⟩⟩⟩
theorem hi_dm_X2_reckoned_X2 : ∀ w ∈ u_ws RX2 TX2 20, w ∈ ow_dm_X2_reckoned := fun w h => List.mem_cons_of_mem _ (List.mem_append_right _ (List.mem_append_left _ h))
def dj_X2_reckoned_94 (p : Program) (l : Launch) (e : Env) (s : State) (m : MethodId) (args : Array Value) (below : List Frame) (meth : Method) (c : Code) (Q : State → Prop) (A : Nat → Prop) (dC : Nat → ClassId) (dI : Nat → Nat → Nat) (a : Nat → Nat) (ac : Nat → ClassId) (g : Int64 → (St) → Option (Int64 × (St))) (r : Int64 × (St)) : Prop := ∀ (y0 : Int64) (s0 : St) (H : Heap) (locs : List Loc) (ls : Array Slot), g y0 s0 = some r → va_P (dC, dI) vwCl (dw_X2c a ac s0) H → va_D A (dw_X2c a ac s0) → va_S A s.heap H locs → lv_has ls 6 [] → W p l e (headSpec ow_dm_X2_reckoned ({ frames := 0, cells := 0, slots := 0, locals := 0 })).room s m args below meth c H locs 0 0 Q (F0 m 94 ls [.long y0])
def dj_X2_reckoned_0 (p : Program) (l : Launch) (e : Env) (s : State) (m : MethodId) (args : Array Value) (below : List Frame) (meth : Method) (c : Code) (Q : State → Prop) (A : Nat → Prop) (dC : Nat → ClassId) (dI : Nat → Nat → Nat) (a : Nat → Nat) (ac : Nat → ClassId) (g : Int32 → Int64 → Int64 → (St) → Option (Int64 × (St))) (r : Int64 × (St)) : Prop := ∀ (v0 : Int32) (v1 : Int64) (v2 : Int64) (s0 : St) (H : Heap) (locs : List Loc) (ls : Array Slot), g v0 v1 v2 s0 = some r → va_P (dC, dI) vwCl (dw_X2c a ac s0) H → va_D A (dw_X2c a ac s0) → va_S A s.heap H locs → lv_has ls 6 [(0, .ref (a 0)), (1, .int v0), (2, .long v1), (4, .long v2)] → W p l e (headSpec ow_dm_X2_reckoned ({ frames := 0, cells := 0, slots := 0, locals := 0 })).room s m args below meth c H locs 0 0 Q (F0 m 0 ls [])
set_option maxHeartbeats 40000000 in
set_option maxRecDepth 100000 in
theorem db_X2_reckoned_94 {p : Program} {l : Launch} {e : Env} {s : State} {m : MethodId} {args : Array Value} {below : List Frame} {meth : Method} {c : Code} {Q : State → Prop} {A : Nat → Prop} {dC : Nat → ClassId} {dI : Nat → Nat → Nat} {a : Nat → Nat} {ac : Nat → ClassId} {n : Nat} {r : Int64 × (St)} (C : nd_C p l s m args c A (dC, dI) cX2_reckoned 6 RX2 ow_dm_X2_reckoned (dk_X2c ac)) (K : nd_Kl p l e (headSpec ow_dm_X2_reckoned ({ frames := 0, cells := 0, slots := 0, locals := 0 })).room s m args below meth c Q A (dC, dI) cX2_reckoned (St) (dw_X2c a ac) r) : dj_X2_reckoned_94 p l e s m args below meth c Q A dC dI a ac (df_X2_reckoned_94 n) r := by
  obtain ⟨hlt, hx, hb, hml, hown, hts, hN, hA, hK⟩ := id C
  intro y0 s0 H locs ls h hP hD hS hl
  unfold df_X2_reckoned_94 at h
  exact K _ _ _ _ _ _ dX2_reckoned_94 (Option.some.inj h).symm hP hD hS
set_option maxHeartbeats 40000000 in
set_option maxRecDepth 100000 in
theorem db_X2_reckoned_0 {p : Program} {l : Launch} {e : Env} {s : State} {m : MethodId} {args : Array Value} {below : List Frame} {meth : Method} {c : Code} {Q : State → Prop} {A : Nat → Prop} {dC : Nat → ClassId} {dI : Nat → Nat → Nat} {a : Nat → Nat} {ac : Nat → ClassId} {n : Nat} {r : Int64 × (St)} (C : nd_C p l s m args c A (dC, dI) cX2_reckoned 6 RX2 ow_dm_X2_reckoned (dk_X2c ac)) (K : nd_Kl p l e (headSpec ow_dm_X2_reckoned ({ frames := 0, cells := 0, slots := 0, locals := 0 })).room s m args below meth c Q A (dC, dI) cX2_reckoned (St) (dw_X2c a ac) r) : dj_X2_reckoned_0 p l e s m args below meth c Q A dC dI a ac (df_X2_reckoned_0 n) r := by
  obtain ⟨hlt, hx, hb, hml, hown, hts, hN, hA, hK⟩ := id C
  intro v0 v1 v2 s0 H locs ls h hP hD hS hl
  unfold df_X2_reckoned_0 at h
  refine lv_iload_n hx hb dX2_reckoned_0 rfl (lv_at hl 1 rfl) ?_
  by_cases c1 : v0 = 12
  · have h := nd_pos h c1
    refine lv_tableIn (off := 35) (tgt := 36) hx hb dX2_reckoned_1 (by rw [c1]; decide) (by rw [c1]; decide) (by rw [c1]; decide) (by decide) ?_
    refine lv_lload_n hx hb dX2_reckoned_36 rfl (lv_at hl 2 rfl) ?_
    refine lv_lload hx hb dX2_reckoned_37 (lv_at hl 3 rfl) ?_
    refine lv_l2i hx hb dX2_reckoned_39 rfl ?_
    refine lv_lshl hx hb dX2_reckoned_40 rfl ?_
    exact K _ _ _ _ _ _ dX2_reckoned_41 (Option.some.inj h).symm hP hD hS
  have h := nd_neg h c1
  by_cases c2 : v0 = 13
  · have h := nd_pos h c2
    refine lv_tableIn (off := 41) (tgt := 42) hx hb dX2_reckoned_1 (by rw [c2]; decide) (by rw [c2]; decide) (by rw [c2]; decide) (by decide) ?_
    refine lv_lload_n hx hb dX2_reckoned_42 rfl (lv_at hl 2 rfl) ?_
    refine lv_lload hx hb dX2_reckoned_43 (lv_at hl 3 rfl) ?_
    refine lv_l2i hx hb dX2_reckoned_45 rfl ?_
    refine lv_lshr hx hb dX2_reckoned_46 rfl ?_
    exact K _ _ _ _ _ _ dX2_reckoned_47 (Option.some.inj h).symm hP hD hS
  have h := nd_neg h c2
  by_cases c3 : v0 = 14
  · have h := nd_pos h c3
    refine lv_tableIn (off := 47) (tgt := 48) hx hb dX2_reckoned_1 (by rw [c3]; decide) (by rw [c3]; decide) (by rw [c3]; decide) (by decide) ?_
    refine lv_lload_n hx hb dX2_reckoned_48 rfl (lv_at hl 2 rfl) ?_
    refine lv_lload hx hb dX2_reckoned_49 (lv_at hl 3 rfl) ?_
    refine lv_ladd hx hb dX2_reckoned_51 ?_
    exact K _ _ _ _ _ _ dX2_reckoned_52 (Option.some.inj h).symm hP hD hS
  have h := nd_neg h c3
  by_cases c4 : v0 = 15
  · have h := nd_pos h c4
    refine lv_tableIn (off := 52) (tgt := 53) hx hb dX2_reckoned_1 (by rw [c4]; decide) (by rw [c4]; decide) (by rw [c4]; decide) (by decide) ?_
    refine lv_lload_n hx hb dX2_reckoned_53 rfl (lv_at hl 2 rfl) ?_
    refine lv_lload hx hb dX2_reckoned_54 (lv_at hl 3 rfl) ?_
    refine lv_lsub hx hb dX2_reckoned_56 ?_
    exact K _ _ _ _ _ _ dX2_reckoned_57 (Option.some.inj h).symm hP hD hS
  have h := nd_neg h c4
  by_cases c5 : v0 = 16
  · have h := nd_pos h c5
    refine lv_tableIn (off := 57) (tgt := 58) hx hb dX2_reckoned_1 (by rw [c5]; decide) (by rw [c5]; decide) (by rw [c5]; decide) (by decide) ?_
    refine lv_lload_n hx hb dX2_reckoned_58 rfl (lv_at hl 2 rfl) ?_
    refine lv_lload hx hb dX2_reckoned_59 (lv_at hl 3 rfl) ?_
    refine lv_lmul hx hb dX2_reckoned_61 ?_
    exact K _ _ _ _ _ _ dX2_reckoned_62 (Option.some.inj h).symm hP hD hS
  have h := nd_neg h c5
  refine lv_tableOut (tgt := 63) hx hb dX2_reckoned_1 (by have g0 := nv_nei c1 (k := 12) (by decide); have g1 := nv_nei c2 (k := 13) (by decide); have g2 := nv_nei c3 (k := 14) (by decide); have g3 := nv_nei c4 (k := 15) (by decide); have g4 := nv_nei c5 (k := 16) (by decide); omega) (by decide) ?_
  refine lv_lload hx hb dX2_reckoned_63 (lv_at hl 3 rfl) ?_
  refine lv_lconst (v := 0) hx hb dX2_reckoned_65 (by decide) ?_
  refine W.lcmp hx hb dX2_reckoned_66 ?_
  refine lv_if_ne (tgt := 77) hx hb dX2_reckoned_67 (by decide) (fun c6 => ?_) (fun c6 => ?_)
  · have h := nd_neg h c6
    refine lv_iload_n hx hb dX2_reckoned_77 rfl (lv_at hl 1 rfl) ?_
    refine lv_bipush (v := 17) hx hb dX2_reckoned_78 (by decide) ?_
    refine lv_icmp_ne (tgt := 90) hx hb dX2_reckoned_80 (by decide) (fun c7 => ?_) (fun c7 => ?_)
    · have h := nd_neg h c7
      refine lv_lload_n hx hb dX2_reckoned_90 rfl (lv_at hl 2 rfl) ?_
      refine lv_lload hx hb dX2_reckoned_91 (lv_at hl 3 rfl) ?_
      obtain ⟨i8, h⟩ := nd_nz_e h
      refine lv_lrem hx hb dX2_reckoned_93 i8 ?_
      exact (db_X2_reckoned_94 C K) (((v1 : Int64) - v1 / v2 * v2)) s0 _ _ _ h hP hD hS (lv_sub hl [] rfl)
    · have h := nd_pos h c7
      refine lv_lload_n hx hb dX2_reckoned_83 rfl (lv_at hl 2 rfl) ?_
      refine lv_lload hx hb dX2_reckoned_84 (lv_at hl 3 rfl) ?_
      obtain ⟨i9, h⟩ := nd_nz_e h
      refine lv_ldiv hx hb dX2_reckoned_86 i9 ?_
      refine lv_goto (tgt := 94) hx hb dX2_reckoned_87 (by decide) ?_
      exact (db_X2_reckoned_94 C K) (((v1 : Int64) / v2)) s0 _ _ _ h hP hD hS (lv_sub hl [] rfl)
  · have h := nd_pos h c6
    refine lv_aload_n hx hb dX2_reckoned_70 rfl (lv_at hl 0 rfl) ?_
    refine lv_iconst (v := 1) hx hb dX2_reckoned_71 (by decide) ?_
    refine va_put (D := (dC, dI)) (ci := 3) (v := .int 1) (ty := .boolean) (C := RX2) (T := TX2) (N := 20) hx hb hts hi_dm_X2_reckoned_X2 tyX2 tyX2_ok nmX2 hown hK hP hD hS 0 rfl rfl 11 (by decide) (hts (.fieldLink RX2 199 "TimeMachine$Condition" "failed" "Z") (List.mem_of_getElem? (i := 1) rfl)) (fun _ h9 => h9) rfl (by decide +kernel) (by first | rfl | decide) rfl (Nat.le_of_ble_eq_true rfl) dX2_reckoned_72 (fun H locs hP hD hS => ?_)
    obtain ⟨s10, es10, h⟩ := nd_let_e h
    have hP : va_P (dC, dI) vwCl (dw_X2c a ac s10) H := by rw [es10]; exact hP
    have hD : va_D A (dw_X2c a ac s10) := by rw [es10]; exact hD
    refine lv_lconst (v := 0) hx hb dX2_reckoned_75 (by decide) ?_
    exact K _ _ _ _ _ _ dX2_reckoned_76 (Option.some.inj h).symm hP hD hS
set_option maxHeartbeats 40000000 in
set_option maxRecDepth 100000 in
theorem dm_X2_reckoned (l : Launch) (hlt : l.stackTraces = false) (dC : Nat → ClassId) (dI : Nat → Nat → Nat) (a : Nat → Nat) (ac : Nat → ClassId) (n : Nat) (v0 : Int32) (v1 : Int64) (v2 : Int64) (s0 : St) {r : Int64 × (St)} (h : df_X2_reckoned n v0 v1 v2 s0 = some r) (sz : Nat) : Met l yX2_reckoned ow_dm_X2_reckoned ({ frames := 0, cells := 0, slots := 0, locals := 0 }) (va_Pc [.ref (a 0), .int v0, .long v1, .long v2] (fun U => U.heap.size = sz ∧ va_P (dC, dI) vwCl (dw_X2c a ac s0) U.heap ∧ va_K (dC, dI) vwCl (dk_X2c ac) U ∧ va_D (fun _ => True) (dw_X2c a ac s0) ∧ nv_E dI (va_A (dw_X2c a ac s0) sz) U)) (va_Ql (fun x _ => x = r.1) (fun (_ : Unit) t => va_P (dC, dI) vwCl (dw_X2c a ac r.2) t.heap ∧ va_K (dC, dI) vwCl (dk_X2c ac) t ∧ va_D (va_A (dw_X2c a ac s0) sz) (dw_X2c a ac r.2)) (va_A (dw_X2c a ac s0) sz)) 0 0 (va_A (dw_X2c a ac s0) sz) := by
  refine Met.ofW (cc := cX2_reckoned) (maxL := 6) (ret := (some .long)) (by decide) rfl ?_
  intro p e s m args below meth c s₁ B hml hv
  obtain ⟨rfl, hsz, hP, hK, hD0, hN⟩ := hv
  have hx := B.exec
  have hb := B.bytes
  have hr := B.returns
  have hts := atoms_spec (ws := ow_dm_X2_reckoned) B.pre
  have hown : s.vm.findClass RX2 = some m.cls := findClass_of_methodNamed B.named
  have hlocks := B.notSynchronized
  subst hsz
  have hD := hD0.self (sz := s.heap.size)
  generalize hAe : va_A (dw_X2c a ac s0) s.heap.size = A at hD hN ⊢
  have hA : ∀ q : Nat, s.heap.size ≤ q → A q := fun q h => by rw [← hAe]; exact Or.inr h
  have hl := lv_entry ([.ref (a 0), .int v0, .long v1, .long v2]) (n := 6) (Nat.le_of_ble_eq_true rfl)
  rw [lg_entry_eq]
  generalize (lg_sl ([.ref (a 0), .int v0, .long v1, .long v2]) ++ List.replicate (6 - (lg_sl ([.ref (a 0), .int v0, .long v1, .long v2])).length) Slot.unset).toArray = ls at hl ⊢
  have hl : lv_has ls 6 [(0, .ref (a 0)), (1, .int v0), (2, .long v1), (4, .long v2)] := hl
  exact db_X2_reckoned_0 (dC := dC) (dI := dI) (a := a) (ac := ac) (n := n) (r := r) ⟨hlt, hx, hb, hml, hown, hts, hN, hA, hK⟩ (fun pc v τ H locs ls d er hP hD hS => by subst er; exact W.lret (v := v) hx hb hr (fun t ht hW => ⟨⟨v, (), rfl, rfl, by rw [ht]; exact hP, va_K.moved hW.alike hK, hD⟩, hS.F ht⟩) hS.2.2 d) v0 v1 v2 s0 _ _ _ h hP hD va_S.rf (lv_sub hl [0, 1, 2, 3] rfl)
def ow_dm_X2_joined : List Cond := Cond.code yX2_joined cX2_joined 6 (some .long) :: ([Cond.methodLink RX2 248 yX2_reckoned, Cond.instanceMethod yX2_reckoned, Cond.selects RX2 yX2_reckoned yX2_reckoned, Cond.initialized RX2] ++ (ow_dm_X2_reckoned ++ []))
theorem gd_dm_X2_joined : ∀ w ∈ ow_dm_X2_joined, (w.onTables && w.keeps) = true ∨ ∃ ty, w = Cond.arrayClass ty := List.forall_mem_cons.mpr ⟨good_of_word rfl, List.forall_mem_append.mpr ⟨fun w h => good_of_word (List.all_eq_true.mp (by decide +kernel) w h), List.forall_mem_append.mpr ⟨gd_dm_X2_reckoned, fun _ h => nomatch h⟩⟩⟩
theorem gi_dm_X2_joined_0 : GoodIn ow_dm_X2_joined (wsV RX2 248 RX2 yX2_reckoned ow_dm_X2_reckoned) := goodIn_app (goodIn_of _ (by decide +kernel)) (fun w h => ⟨List.mem_cons_of_mem _ (List.mem_append_right _ (List.mem_append_left _ h)), gd_dm_X2_reckoned w h⟩)
def dj_X2_joined_64 (p : Program) (l : Launch) (e : Env) (s : State) (m : MethodId) (args : Array Value) (below : List Frame) (meth : Method) (c : Code) (Q : State → Prop) (A : Nat → Prop) (dC : Nat → ClassId) (dI : Nat → Nat → Nat) (a : Nat → Nat) (ac : Nat → ClassId) (g : Int64 → (St) → Option (Int64 × (St))) (r : Int64 × (St)) : Prop := ∀ (y0 : Int64) (s0 : St) (H : Heap) (locs : List Loc) (ls : Array Slot), g y0 s0 = some r → va_P (dC, dI) vwCl (dw_X2c a ac s0) H → va_D A (dw_X2c a ac s0) → va_S A s.heap H locs → lv_has ls 6 [] → W p l e (headSpec ow_dm_X2_joined ({ frames := 1, cells := 0, slots := 0, locals := 25 })).room s m args below meth c H locs 0 0 Q (F0 m 64 ls [.long y0])
def dj_X2_joined_77 (p : Program) (l : Launch) (e : Env) (s : State) (m : MethodId) (args : Array Value) (below : List Frame) (meth : Method) (c : Code) (Q : State → Prop) (A : Nat → Prop) (dC : Nat → ClassId) (dI : Nat → Nat → Nat) (a : Nat → Nat) (ac : Nat → ClassId) (g : Int64 → (St) → Option (Int64 × (St))) (r : Int64 × (St)) : Prop := ∀ (y0 : Int64) (s0 : St) (H : Heap) (locs : List Loc) (ls : Array Slot), g y0 s0 = some r → va_P (dC, dI) vwCl (dw_X2c a ac s0) H → va_D A (dw_X2c a ac s0) → va_S A s.heap H locs → lv_has ls 6 [] → W p l e (headSpec ow_dm_X2_joined ({ frames := 1, cells := 0, slots := 0, locals := 25 })).room s m args below meth c H locs 0 0 Q (F0 m 77 ls [.long y0])
def dj_X2_joined_90 (p : Program) (l : Launch) (e : Env) (s : State) (m : MethodId) (args : Array Value) (below : List Frame) (meth : Method) (c : Code) (Q : State → Prop) (A : Nat → Prop) (dC : Nat → ClassId) (dI : Nat → Nat → Nat) (a : Nat → Nat) (ac : Nat → ClassId) (g : Int64 → (St) → Option (Int64 × (St))) (r : Int64 × (St)) : Prop := ∀ (y0 : Int64) (s0 : St) (H : Heap) (locs : List Loc) (ls : Array Slot), g y0 s0 = some r → va_P (dC, dI) vwCl (dw_X2c a ac s0) H → va_D A (dw_X2c a ac s0) → va_S A s.heap H locs → lv_has ls 6 [] → W p l e (headSpec ow_dm_X2_joined ({ frames := 1, cells := 0, slots := 0, locals := 25 })).room s m args below meth c H locs 0 0 Q (F0 m 90 ls [.long y0])
def dj_X2_joined_103 (p : Program) (l : Launch) (e : Env) (s : State) (m : MethodId) (args : Array Value) (below : List Frame) (meth : Method) (c : Code) (Q : State → Prop) (A : Nat → Prop) (dC : Nat → ClassId) (dI : Nat → Nat → Nat) (a : Nat → Nat) (ac : Nat → ClassId) (g : Int64 → (St) → Option (Int64 × (St))) (r : Int64 × (St)) : Prop := ∀ (y0 : Int64) (s0 : St) (H : Heap) (locs : List Loc) (ls : Array Slot), g y0 s0 = some r → va_P (dC, dI) vwCl (dw_X2c a ac s0) H → va_D A (dw_X2c a ac s0) → va_S A s.heap H locs → lv_has ls 6 [] → W p l e (headSpec ow_dm_X2_joined ({ frames := 1, cells := 0, slots := 0, locals := 25 })).room s m args below meth c H locs 0 0 Q (F0 m 103 ls [.long y0])
def dj_X2_joined_116 (p : Program) (l : Launch) (e : Env) (s : State) (m : MethodId) (args : Array Value) (below : List Frame) (meth : Method) (c : Code) (Q : State → Prop) (A : Nat → Prop) (dC : Nat → ClassId) (dI : Nat → Nat → Nat) (a : Nat → Nat) (ac : Nat → ClassId) (g : Int64 → (St) → Option (Int64 × (St))) (r : Int64 × (St)) : Prop := ∀ (y0 : Int64) (s0 : St) (H : Heap) (locs : List Loc) (ls : Array Slot), g y0 s0 = some r → va_P (dC, dI) vwCl (dw_X2c a ac s0) H → va_D A (dw_X2c a ac s0) → va_S A s.heap H locs → lv_has ls 6 [] → W p l e (headSpec ow_dm_X2_joined ({ frames := 1, cells := 0, slots := 0, locals := 25 })).room s m args below meth c H locs 0 0 Q (F0 m 116 ls [.long y0])
def dj_X2_joined_129 (p : Program) (l : Launch) (e : Env) (s : State) (m : MethodId) (args : Array Value) (below : List Frame) (meth : Method) (c : Code) (Q : State → Prop) (A : Nat → Prop) (dC : Nat → ClassId) (dI : Nat → Nat → Nat) (a : Nat → Nat) (ac : Nat → ClassId) (g : Int64 → (St) → Option (Int64 × (St))) (r : Int64 × (St)) : Prop := ∀ (y0 : Int64) (s0 : St) (H : Heap) (locs : List Loc) (ls : Array Slot), g y0 s0 = some r → va_P (dC, dI) vwCl (dw_X2c a ac s0) H → va_D A (dw_X2c a ac s0) → va_S A s.heap H locs → lv_has ls 6 [] → W p l e (headSpec ow_dm_X2_joined ({ frames := 1, cells := 0, slots := 0, locals := 25 })).room s m args below meth c H locs 0 0 Q (F0 m 129 ls [.long y0])
def dj_X2_joined_0 (p : Program) (l : Launch) (e : Env) (s : State) (m : MethodId) (args : Array Value) (below : List Frame) (meth : Method) (c : Code) (Q : State → Prop) (A : Nat → Prop) (dC : Nat → ClassId) (dI : Nat → Nat → Nat) (a : Nat → Nat) (ac : Nat → ClassId) (g : Int32 → Int64 → Int64 → (St) → Option (Int64 × (St))) (r : Int64 × (St)) : Prop := ∀ (v0 : Int32) (v1 : Int64) (v2 : Int64) (s0 : St) (H : Heap) (locs : List Loc) (ls : Array Slot), g v0 v1 v2 s0 = some r → va_P (dC, dI) vwCl (dw_X2c a ac s0) H → va_D A (dw_X2c a ac s0) → va_S A s.heap H locs → lv_has ls 6 [(0, .ref (a 0)), (1, .int v0), (2, .long v1), (4, .long v2)] → W p l e (headSpec ow_dm_X2_joined ({ frames := 1, cells := 0, slots := 0, locals := 25 })).room s m args below meth c H locs 0 0 Q (F0 m 0 ls [])
set_option maxHeartbeats 40000000 in
set_option maxRecDepth 100000 in
theorem db_X2_joined_64 {p : Program} {l : Launch} {e : Env} {s : State} {m : MethodId} {args : Array Value} {below : List Frame} {meth : Method} {c : Code} {Q : State → Prop} {A : Nat → Prop} {dC : Nat → ClassId} {dI : Nat → Nat → Nat} {a : Nat → Nat} {ac : Nat → ClassId} {n : Nat} {r : Int64 × (St)} (C : nd_C p l s m args c A (dC, dI) cX2_joined 6 RX2 ow_dm_X2_joined (dk_X2c ac)) (K : nd_Kl p l e (headSpec ow_dm_X2_joined ({ frames := 1, cells := 0, slots := 0, locals := 25 })).room s m args below meth c Q A (dC, dI) cX2_joined (St) (dw_X2c a ac) r) : dj_X2_joined_64 p l e s m args below meth c Q A dC dI a ac (df_X2_joined_64 n) r := by
  obtain ⟨hlt, hx, hb, hml, hown, hts, hN, hA, hK⟩ := id C
  intro y0 s0 H locs ls h hP hD hS hl
  unfold df_X2_joined_64 at h
  exact K _ _ _ _ _ _ dX2_joined_64 (Option.some.inj h).symm hP hD hS
set_option maxHeartbeats 40000000 in
set_option maxRecDepth 100000 in
theorem db_X2_joined_77 {p : Program} {l : Launch} {e : Env} {s : State} {m : MethodId} {args : Array Value} {below : List Frame} {meth : Method} {c : Code} {Q : State → Prop} {A : Nat → Prop} {dC : Nat → ClassId} {dI : Nat → Nat → Nat} {a : Nat → Nat} {ac : Nat → ClassId} {n : Nat} {r : Int64 × (St)} (C : nd_C p l s m args c A (dC, dI) cX2_joined 6 RX2 ow_dm_X2_joined (dk_X2c ac)) (K : nd_Kl p l e (headSpec ow_dm_X2_joined ({ frames := 1, cells := 0, slots := 0, locals := 25 })).room s m args below meth c Q A (dC, dI) cX2_joined (St) (dw_X2c a ac) r) : dj_X2_joined_77 p l e s m args below meth c Q A dC dI a ac (df_X2_joined_77 n) r := by
  obtain ⟨hlt, hx, hb, hml, hown, hts, hN, hA, hK⟩ := id C
  intro y0 s0 H locs ls h hP hD hS hl
  unfold df_X2_joined_77 at h
  exact K _ _ _ _ _ _ dX2_joined_77 (Option.some.inj h).symm hP hD hS
set_option maxHeartbeats 40000000 in
set_option maxRecDepth 100000 in
theorem db_X2_joined_90 {p : Program} {l : Launch} {e : Env} {s : State} {m : MethodId} {args : Array Value} {below : List Frame} {meth : Method} {c : Code} {Q : State → Prop} {A : Nat → Prop} {dC : Nat → ClassId} {dI : Nat → Nat → Nat} {a : Nat → Nat} {ac : Nat → ClassId} {n : Nat} {r : Int64 × (St)} (C : nd_C p l s m args c A (dC, dI) cX2_joined 6 RX2 ow_dm_X2_joined (dk_X2c ac)) (K : nd_Kl p l e (headSpec ow_dm_X2_joined ({ frames := 1, cells := 0, slots := 0, locals := 25 })).room s m args below meth c Q A (dC, dI) cX2_joined (St) (dw_X2c a ac) r) : dj_X2_joined_90 p l e s m args below meth c Q A dC dI a ac (df_X2_joined_90 n) r := by
  obtain ⟨hlt, hx, hb, hml, hown, hts, hN, hA, hK⟩ := id C
  intro y0 s0 H locs ls h hP hD hS hl
  unfold df_X2_joined_90 at h
  exact K _ _ _ _ _ _ dX2_joined_90 (Option.some.inj h).symm hP hD hS
set_option maxHeartbeats 40000000 in
set_option maxRecDepth 100000 in
theorem db_X2_joined_103 {p : Program} {l : Launch} {e : Env} {s : State} {m : MethodId} {args : Array Value} {below : List Frame} {meth : Method} {c : Code} {Q : State → Prop} {A : Nat → Prop} {dC : Nat → ClassId} {dI : Nat → Nat → Nat} {a : Nat → Nat} {ac : Nat → ClassId} {n : Nat} {r : Int64 × (St)} (C : nd_C p l s m args c A (dC, dI) cX2_joined 6 RX2 ow_dm_X2_joined (dk_X2c ac)) (K : nd_Kl p l e (headSpec ow_dm_X2_joined ({ frames := 1, cells := 0, slots := 0, locals := 25 })).room s m args below meth c Q A (dC, dI) cX2_joined (St) (dw_X2c a ac) r) : dj_X2_joined_103 p l e s m args below meth c Q A dC dI a ac (df_X2_joined_103 n) r := by
  obtain ⟨hlt, hx, hb, hml, hown, hts, hN, hA, hK⟩ := id C
  intro y0 s0 H locs ls h hP hD hS hl
  unfold df_X2_joined_103 at h
  exact K _ _ _ _ _ _ dX2_joined_103 (Option.some.inj h).symm hP hD hS
set_option maxHeartbeats 40000000 in
set_option maxRecDepth 100000 in
theorem db_X2_joined_116 {p : Program} {l : Launch} {e : Env} {s : State} {m : MethodId} {args : Array Value} {below : List Frame} {meth : Method} {c : Code} {Q : State → Prop} {A : Nat → Prop} {dC : Nat → ClassId} {dI : Nat → Nat → Nat} {a : Nat → Nat} {ac : Nat → ClassId} {n : Nat} {r : Int64 × (St)} (C : nd_C p l s m args c A (dC, dI) cX2_joined 6 RX2 ow_dm_X2_joined (dk_X2c ac)) (K : nd_Kl p l e (headSpec ow_dm_X2_joined ({ frames := 1, cells := 0, slots := 0, locals := 25 })).room s m args below meth c Q A (dC, dI) cX2_joined (St) (dw_X2c a ac) r) : dj_X2_joined_116 p l e s m args below meth c Q A dC dI a ac (df_X2_joined_116 n) r := by
  obtain ⟨hlt, hx, hb, hml, hown, hts, hN, hA, hK⟩ := id C
  intro y0 s0 H locs ls h hP hD hS hl
  unfold df_X2_joined_116 at h
  exact K _ _ _ _ _ _ dX2_joined_116 (Option.some.inj h).symm hP hD hS
set_option maxHeartbeats 40000000 in
set_option maxRecDepth 100000 in
theorem db_X2_joined_129 {p : Program} {l : Launch} {e : Env} {s : State} {m : MethodId} {args : Array Value} {below : List Frame} {meth : Method} {c : Code} {Q : State → Prop} {A : Nat → Prop} {dC : Nat → ClassId} {dI : Nat → Nat → Nat} {a : Nat → Nat} {ac : Nat → ClassId} {n : Nat} {r : Int64 × (St)} (C : nd_C p l s m args c A (dC, dI) cX2_joined 6 RX2 ow_dm_X2_joined (dk_X2c ac)) (K : nd_Kl p l e (headSpec ow_dm_X2_joined ({ frames := 1, cells := 0, slots := 0, locals := 25 })).room s m args below meth c Q A (dC, dI) cX2_joined (St) (dw_X2c a ac) r) : dj_X2_joined_129 p l e s m args below meth c Q A dC dI a ac (df_X2_joined_129 n) r := by
  obtain ⟨hlt, hx, hb, hml, hown, hts, hN, hA, hK⟩ := id C
  intro y0 s0 H locs ls h hP hD hS hl
  unfold df_X2_joined_129 at h
  exact K _ _ _ _ _ _ dX2_joined_129 (Option.some.inj h).symm hP hD hS
set_option maxHeartbeats 40000000 in
set_option maxRecDepth 100000 in
theorem db_X2_joined_0 {p : Program} {l : Launch} {e : Env} {s : State} {m : MethodId} {args : Array Value} {below : List Frame} {meth : Method} {c : Code} {Q : State → Prop} {A : Nat → Prop} {dC : Nat → ClassId} {dI : Nat → Nat → Nat} {a : Nat → Nat} {ac : Nat → ClassId} {n : Nat} {r : Int64 × (St)} (C : nd_C p l s m args c A (dC, dI) cX2_joined 6 RX2 ow_dm_X2_joined (dk_X2c ac)) (K : nd_Kl p l e (headSpec ow_dm_X2_joined ({ frames := 1, cells := 0, slots := 0, locals := 25 })).room s m args below meth c Q A (dC, dI) cX2_joined (St) (dw_X2c a ac) r) : dj_X2_joined_0 p l e s m args below meth c Q A dC dI a ac (df_X2_joined_0 n) r := by
  obtain ⟨hlt, hx, hb, hml, hown, hts, hN, hA, hK⟩ := id C
  intro v0 v1 v2 s0 H locs ls h hP hD hS hl
  unfold df_X2_joined_0 at h
  refine lv_iload_n hx hb dX2_joined_0 rfl (lv_at hl 1 rfl) ?_
  by_cases c1 : v0 = 3
  · have h := nd_pos h c1
    refine lv_tableIn (off := 51) (tgt := 52) hx hb dX2_joined_1 (by rw [c1]; decide) (by rw [c1]; decide) (by rw [c1]; decide) (by decide) ?_
    refine lv_lload_n hx hb dX2_joined_52 rfl (lv_at hl 2 rfl) ?_
    refine lv_lload hx hb dX2_joined_53 (lv_at hl 3 rfl) ?_
    refine W.lcmp hx hb dX2_joined_55 ?_
    refine lv_if_ne (tgt := 63) hx hb dX2_joined_56 (by decide) (fun c2 => ?_) (fun c2 => ?_)
    · have h := nd_neg h c2
      refine lv_lconst (v := 0) hx hb dX2_joined_63 (by decide) ?_
      exact (db_X2_joined_64 C K) (0) s0 _ _ _ h hP hD hS (lv_sub hl [] rfl)
    · have h := nd_pos h c2
      refine lv_lconst (v := 1) hx hb dX2_joined_59 (by decide) ?_
      refine lv_goto (tgt := 64) hx hb dX2_joined_60 (by decide) ?_
      exact (db_X2_joined_64 C K) (1) s0 _ _ _ h hP hD hS (lv_sub hl [] rfl)
  have h := nd_neg h c1
  by_cases c3 : v0 = 4
  · have h := nd_pos h c3
    refine lv_tableIn (off := 64) (tgt := 65) hx hb dX2_joined_1 (by rw [c3]; decide) (by rw [c3]; decide) (by rw [c3]; decide) (by decide) ?_
    refine lv_lload_n hx hb dX2_joined_65 rfl (lv_at hl 2 rfl) ?_
    refine lv_lload hx hb dX2_joined_66 (lv_at hl 3 rfl) ?_
    refine W.lcmp hx hb dX2_joined_68 ?_
    refine lv_if_eq (tgt := 76) hx hb dX2_joined_69 (by decide) (fun c4 => ?_) (fun c4 => ?_)
    · have h := nd_pos h c4
      refine lv_lconst (v := 0) hx hb dX2_joined_76 (by decide) ?_
      exact (db_X2_joined_77 C K) (0) s0 _ _ _ h hP hD hS (lv_sub hl [] rfl)
    · have h := nd_neg h c4
      refine lv_lconst (v := 1) hx hb dX2_joined_72 (by decide) ?_
      refine lv_goto (tgt := 77) hx hb dX2_joined_73 (by decide) ?_
      exact (db_X2_joined_77 C K) (1) s0 _ _ _ h hP hD hS (lv_sub hl [] rfl)
  have h := nd_neg h c3
  by_cases c5 : v0 = 5
  · have h := nd_pos h c5
    refine lv_tableIn (off := 77) (tgt := 78) hx hb dX2_joined_1 (by rw [c5]; decide) (by rw [c5]; decide) (by rw [c5]; decide) (by decide) ?_
    refine lv_lload_n hx hb dX2_joined_78 rfl (lv_at hl 2 rfl) ?_
    refine lv_lload hx hb dX2_joined_79 (lv_at hl 3 rfl) ?_
    refine W.lcmp hx hb dX2_joined_81 ?_
    refine lv_if_ge (tgt := 89) hx hb dX2_joined_82 (by decide) (fun c6 => ?_) (fun c6 => ?_)
    · have h := nd_pos h c6
      refine lv_lconst (v := 0) hx hb dX2_joined_89 (by decide) ?_
      exact (db_X2_joined_90 C K) (0) s0 _ _ _ h hP hD hS (lv_sub hl [] rfl)
    · have h := nd_neg h c6
      refine lv_lconst (v := 1) hx hb dX2_joined_85 (by decide) ?_
      refine lv_goto (tgt := 90) hx hb dX2_joined_86 (by decide) ?_
      exact (db_X2_joined_90 C K) (1) s0 _ _ _ h hP hD hS (lv_sub hl [] rfl)
  have h := nd_neg h c5
  by_cases c7 : v0 = 6
  · have h := nd_pos h c7
    refine lv_tableIn (off := 90) (tgt := 91) hx hb dX2_joined_1 (by rw [c7]; decide) (by rw [c7]; decide) (by rw [c7]; decide) (by decide) ?_
    refine lv_lload_n hx hb dX2_joined_91 rfl (lv_at hl 2 rfl) ?_
    refine lv_lload hx hb dX2_joined_92 (lv_at hl 3 rfl) ?_
    refine W.lcmp hx hb dX2_joined_94 ?_
    refine lv_if_gt (tgt := 102) hx hb dX2_joined_95 (by decide) (fun c8 => ?_) (fun c8 => ?_)
    · have h := nd_pos h c8
      refine lv_lconst (v := 0) hx hb dX2_joined_102 (by decide) ?_
      exact (db_X2_joined_103 C K) (0) s0 _ _ _ h hP hD hS (lv_sub hl [] rfl)
    · have h := nd_neg h c8
      refine lv_lconst (v := 1) hx hb dX2_joined_98 (by decide) ?_
      refine lv_goto (tgt := 103) hx hb dX2_joined_99 (by decide) ?_
      exact (db_X2_joined_103 C K) (1) s0 _ _ _ h hP hD hS (lv_sub hl [] rfl)
  have h := nd_neg h c7
  by_cases c9 : v0 = 7
  · have h := nd_pos h c9
    refine lv_tableIn (off := 103) (tgt := 104) hx hb dX2_joined_1 (by rw [c9]; decide) (by rw [c9]; decide) (by rw [c9]; decide) (by decide) ?_
    refine lv_lload_n hx hb dX2_joined_104 rfl (lv_at hl 2 rfl) ?_
    refine lv_lload hx hb dX2_joined_105 (lv_at hl 3 rfl) ?_
    refine W.lcmp hx hb dX2_joined_107 ?_
    refine lv_if_le (tgt := 115) hx hb dX2_joined_108 (by decide) (fun c10 => ?_) (fun c10 => ?_)
    · have h := nd_pos h c10
      refine lv_lconst (v := 0) hx hb dX2_joined_115 (by decide) ?_
      exact (db_X2_joined_116 C K) (0) s0 _ _ _ h hP hD hS (lv_sub hl [] rfl)
    · have h := nd_neg h c10
      refine lv_lconst (v := 1) hx hb dX2_joined_111 (by decide) ?_
      refine lv_goto (tgt := 116) hx hb dX2_joined_112 (by decide) ?_
      exact (db_X2_joined_116 C K) (1) s0 _ _ _ h hP hD hS (lv_sub hl [] rfl)
  have h := nd_neg h c9
  by_cases c11 : v0 = 8
  · have h := nd_pos h c11
    refine lv_tableIn (off := 116) (tgt := 117) hx hb dX2_joined_1 (by rw [c11]; decide) (by rw [c11]; decide) (by rw [c11]; decide) (by decide) ?_
    refine lv_lload_n hx hb dX2_joined_117 rfl (lv_at hl 2 rfl) ?_
    refine lv_lload hx hb dX2_joined_118 (lv_at hl 3 rfl) ?_
    refine W.lcmp hx hb dX2_joined_120 ?_
    refine lv_if_lt (tgt := 128) hx hb dX2_joined_121 (by decide) (fun c12 => ?_) (fun c12 => ?_)
    · have h := nd_pos h c12
      refine lv_lconst (v := 0) hx hb dX2_joined_128 (by decide) ?_
      exact (db_X2_joined_129 C K) (0) s0 _ _ _ h hP hD hS (lv_sub hl [] rfl)
    · have h := nd_neg h c12
      refine lv_lconst (v := 1) hx hb dX2_joined_124 (by decide) ?_
      refine lv_goto (tgt := 129) hx hb dX2_joined_125 (by decide) ?_
      exact (db_X2_joined_129 C K) (1) s0 _ _ _ h hP hD hS (lv_sub hl [] rfl)
  have h := nd_neg h c11
  by_cases c13 : v0 = 9
  · have h := nd_pos h c13
    refine lv_tableIn (off := 129) (tgt := 130) hx hb dX2_joined_1 (by rw [c13]; decide) (by rw [c13]; decide) (by rw [c13]; decide) (by decide) ?_
    refine lv_lload_n hx hb dX2_joined_130 rfl (lv_at hl 2 rfl) ?_
    refine lv_lload hx hb dX2_joined_131 (lv_at hl 3 rfl) ?_
    refine lv_lor hx hb dX2_joined_133 ?_
    exact K _ _ _ _ _ _ dX2_joined_134 (Option.some.inj h).symm hP hD hS
  have h := nd_neg h c13
  by_cases c14 : v0 = 10
  · have h := nd_pos h c14
    refine lv_tableIn (off := 134) (tgt := 135) hx hb dX2_joined_1 (by rw [c14]; decide) (by rw [c14]; decide) (by rw [c14]; decide) (by decide) ?_
    refine lv_lload_n hx hb dX2_joined_135 rfl (lv_at hl 2 rfl) ?_
    refine lv_lload hx hb dX2_joined_136 (lv_at hl 3 rfl) ?_
    refine lv_lxor hx hb dX2_joined_138 ?_
    exact K _ _ _ _ _ _ dX2_joined_139 (Option.some.inj h).symm hP hD hS
  have h := nd_neg h c14
  by_cases c15 : v0 = 11
  · have h := nd_pos h c15
    refine lv_tableIn (off := 139) (tgt := 140) hx hb dX2_joined_1 (by rw [c15]; decide) (by rw [c15]; decide) (by rw [c15]; decide) (by decide) ?_
    refine lv_lload_n hx hb dX2_joined_140 rfl (lv_at hl 2 rfl) ?_
    refine lv_lload hx hb dX2_joined_141 (lv_at hl 3 rfl) ?_
    refine lv_land hx hb dX2_joined_143 ?_
    exact K _ _ _ _ _ _ dX2_joined_144 (Option.some.inj h).symm hP hD hS
  have h := nd_neg h c15
  refine lv_tableOut (tgt := 145) hx hb dX2_joined_1 (by have g0 := nv_nei c1 (k := 3) (by decide); have g1 := nv_nei c3 (k := 4) (by decide); have g2 := nv_nei c5 (k := 5) (by decide); have g3 := nv_nei c7 (k := 6) (by decide); have g4 := nv_nei c9 (k := 7) (by decide); have g5 := nv_nei c11 (k := 8) (by decide); have g6 := nv_nei c13 (k := 9) (by decide); have g7 := nv_nei c14 (k := 10) (by decide); have g8 := nv_nei c15 (k := 11) (by decide); omega) (by decide) ?_
  refine lv_aload_n hx hb dX2_joined_145 rfl (lv_at hl 0 rfl) ?_
  refine lv_iload_n hx hb dX2_joined_146 rfl (lv_at hl 1 rfl) ?_
  refine lv_lload_n hx hb dX2_joined_147 rfl (lv_at hl 2 rfl) ?_
  refine lv_lload hx hb dX2_joined_148 (lv_at hl 3 rfl) ?_
  obtain ⟨q16, s17, hq, h⟩ := nd_b2_e h
  have hPc := hP
  have hDc := hD
  have hKc := hK
  have hFc := nd_rs hD hS hA
  refine nd_cVl (As := [.int v0, .long v1, .long v2]) (rest := []) (q := q16) (w' := dw_X2c a ac s17) ⟨hx, hb, hml, hown, hts⟩ (fun sz => dm_X2_reckoned l hlt dC dI a ac n (v0) (v1) (v2) s0 hq sz) (cwV 3 hts gi_dm_X2_joined_0 rfl rfl rfl (by decide +kernel) ⟨Nat.le_of_ble_eq_true rfl, Nat.le_of_ble_eq_true rfl⟩) hPc hDc hKc hS hA hN (va_recv hKc hPc (ci := 3) (q0 := 0) rfl rfl) rfl hl.1 rfl (Nat.le_of_ble_eq_true rfl) dX2_joined_150 (fun H locs hP1 hD1 hk1 hS => ?_)
  have hP := hP1
  have hD := hD1.weaken (fun k q _ h => hFc q.1 h)
  exact K _ _ _ _ _ _ dX2_joined_153 (Option.some.inj h).symm hP hD hS
set_option maxHeartbeats 40000000 in
set_option maxRecDepth 100000 in
theorem dm_X2_joined (l : Launch) (hlt : l.stackTraces = false) (dC : Nat → ClassId) (dI : Nat → Nat → Nat) (a : Nat → Nat) (ac : Nat → ClassId) (n : Nat) (v0 : Int32) (v1 : Int64) (v2 : Int64) (s0 : St) {r : Int64 × (St)} (h : df_X2_joined n v0 v1 v2 s0 = some r) (sz : Nat) : Met l yX2_joined ow_dm_X2_joined ({ frames := 1, cells := 0, slots := 0, locals := 25 }) (va_Pc [.ref (a 0), .int v0, .long v1, .long v2] (fun U => U.heap.size = sz ∧ va_P (dC, dI) vwCl (dw_X2c a ac s0) U.heap ∧ va_K (dC, dI) vwCl (dk_X2c ac) U ∧ va_D (fun _ => True) (dw_X2c a ac s0) ∧ nv_E dI (va_A (dw_X2c a ac s0) sz) U)) (va_Ql (fun x _ => x = r.1) (fun (_ : Unit) t => va_P (dC, dI) vwCl (dw_X2c a ac r.2) t.heap ∧ va_K (dC, dI) vwCl (dk_X2c ac) t ∧ va_D (va_A (dw_X2c a ac s0) sz) (dw_X2c a ac r.2)) (va_A (dw_X2c a ac s0) sz)) 0 0 (va_A (dw_X2c a ac s0) sz) := by
  refine Met.ofW (cc := cX2_joined) (maxL := 6) (ret := (some .long)) (by decide) rfl ?_
  intro p e s m args below meth c s₁ B hml hv
  obtain ⟨rfl, hsz, hP, hK, hD0, hN⟩ := hv
  have hx := B.exec
  have hb := B.bytes
  have hr := B.returns
  have hts := atoms_spec (ws := ow_dm_X2_joined) B.pre
  have hown : s.vm.findClass RX2 = some m.cls := findClass_of_methodNamed B.named
  have hlocks := B.notSynchronized
  subst hsz
  have hD := hD0.self (sz := s.heap.size)
  generalize hAe : va_A (dw_X2c a ac s0) s.heap.size = A at hD hN ⊢
  have hA : ∀ q : Nat, s.heap.size ≤ q → A q := fun q h => by rw [← hAe]; exact Or.inr h
  have hl := lv_entry ([.ref (a 0), .int v0, .long v1, .long v2]) (n := 6) (Nat.le_of_ble_eq_true rfl)
  rw [lg_entry_eq]
  generalize (lg_sl ([.ref (a 0), .int v0, .long v1, .long v2]) ++ List.replicate (6 - (lg_sl ([.ref (a 0), .int v0, .long v1, .long v2])).length) Slot.unset).toArray = ls at hl ⊢
  have hl : lv_has ls 6 [(0, .ref (a 0)), (1, .int v0), (2, .long v1), (4, .long v2)] := hl
  exact db_X2_joined_0 (dC := dC) (dI := dI) (a := a) (ac := ac) (n := n) (r := r) ⟨hlt, hx, hb, hml, hown, hts, hN, hA, hK⟩ (fun pc v τ H locs ls d er hP hD hS => by subst er; exact W.lret (v := v) hx hb hr (fun t ht hW => ⟨⟨v, (), rfl, rfl, by rw [ht]; exact hP, va_K.moved hW.alike hK, hD⟩, hS.F ht⟩) hS.2.2 d) v0 v1 v2 s0 _ _ _ h hP hD va_S.rf (lv_sub hl [0, 1, 2, 3] rfl)
def ow_dm_X2_put : List Cond := Cond.code yX2_put cX2_put 3 none :: ([Cond.fieldLink RX2 55 "TimeMachine$Condition" "top" "I", Cond.fieldLink RX2 17 "TimeMachine$Condition" "stack" "[J"] ++ (u_ws RX2 TX2 20 ++ []))
theorem gd_dm_X2_put : ∀ w ∈ ow_dm_X2_put, (w.onTables && w.keeps) = true ∨ ∃ ty, w = Cond.arrayClass ty := List.forall_mem_cons.mpr ⟨good_of_word rfl, List.forall_mem_append.mpr ⟨fun w h => good_of_word (List.all_eq_true.mp (by decide +kernel) w h), List.forall_mem_append.mpr ⟨gu_X2, fun _ h => nomatch h⟩⟩⟩
theorem hi_dm_X2_put_X2 : ∀ w ∈ u_ws RX2 TX2 20, w ∈ ow_dm_X2_put := fun w h => List.mem_cons_of_mem _ (List.mem_append_right _ (List.mem_append_left _ h))
def dj_X2_put_32 (p : Program) (l : Launch) (e : Env) (s : State) (m : MethodId) (args : Array Value) (below : List Frame) (meth : Method) (c : Code) (Q : State → Prop) (A : Nat → Prop) (dC : Nat → ClassId) (dI : Nat → Nat → Nat) (a : Nat → Nat) (ac : Nat → ClassId) (g : (St) → Option (St)) (r : St) : Prop := ∀ (s0 : St) (H : Heap) (locs : List Loc) (ls : Array Slot), g s0 = some r → va_P (dC, dI) vwCl (dw_X2c a ac s0) H → va_D A (dw_X2c a ac s0) → va_S A s.heap H locs → lv_has ls 3 [] → W p l e (headSpec ow_dm_X2_put ({ frames := 0, cells := 0, slots := 0, locals := 0 })).room s m args below meth c H locs 0 0 Q (F0 m 32 ls [])
def dj_X2_put_0 (p : Program) (l : Launch) (e : Env) (s : State) (m : MethodId) (args : Array Value) (below : List Frame) (meth : Method) (c : Code) (Q : State → Prop) (A : Nat → Prop) (dC : Nat → ClassId) (dI : Nat → Nat → Nat) (a : Nat → Nat) (ac : Nat → ClassId) (g : Int64 → (St) → Option (St)) (r : St) : Prop := ∀ (v0 : Int64) (s0 : St) (H : Heap) (locs : List Loc) (ls : Array Slot), g v0 s0 = some r → va_P (dC, dI) vwCl (dw_X2c a ac s0) H → va_D A (dw_X2c a ac s0) → va_S A s.heap H locs → lv_has ls 3 [(0, .ref (a 0)), (1, .long v0)] → W p l e (headSpec ow_dm_X2_put ({ frames := 0, cells := 0, slots := 0, locals := 0 })).room s m args below meth c H locs 0 0 Q (F0 m 0 ls [])
set_option maxHeartbeats 40000000 in
set_option maxRecDepth 100000 in
theorem db_X2_put_32 {p : Program} {l : Launch} {e : Env} {s : State} {m : MethodId} {args : Array Value} {below : List Frame} {meth : Method} {c : Code} {Q : State → Prop} {A : Nat → Prop} {dC : Nat → ClassId} {dI : Nat → Nat → Nat} {a : Nat → Nat} {ac : Nat → ClassId} {n : Nat} {r : St} (C : nd_C p l s m args c A (dC, dI) cX2_put 3 RX2 ow_dm_X2_put (dk_X2c ac)) (K : nd_Kv p l e (headSpec ow_dm_X2_put ({ frames := 0, cells := 0, slots := 0, locals := 0 })).room s m args below meth c Q A (dC, dI) cX2_put (St) (dw_X2c a ac) r) : dj_X2_put_32 p l e s m args below meth c Q A dC dI a ac (df_X2_put_32 n) r := by
  obtain ⟨hlt, hx, hb, hml, hown, hts, hN, hA, hK⟩ := id C
  intro s0 H locs ls h hP hD hS hl
  unfold df_X2_put_32 at h
  exact K _ _ _ _ _ dX2_put_32 (Option.some.inj h).symm hP hD hS
set_option maxHeartbeats 40000000 in
set_option maxRecDepth 100000 in
theorem db_X2_put_0 {p : Program} {l : Launch} {e : Env} {s : State} {m : MethodId} {args : Array Value} {below : List Frame} {meth : Method} {c : Code} {Q : State → Prop} {A : Nat → Prop} {dC : Nat → ClassId} {dI : Nat → Nat → Nat} {a : Nat → Nat} {ac : Nat → ClassId} {n : Nat} {r : St} (C : nd_C p l s m args c A (dC, dI) cX2_put 3 RX2 ow_dm_X2_put (dk_X2c ac)) (K : nd_Kv p l e (headSpec ow_dm_X2_put ({ frames := 0, cells := 0, slots := 0, locals := 0 })).room s m args below meth c Q A (dC, dI) cX2_put (St) (dw_X2c a ac) r) : dj_X2_put_0 p l e s m args below meth c Q A dC dI a ac (df_X2_put_0 n) r := by
  obtain ⟨hlt, hx, hb, hml, hown, hts, hN, hA, hK⟩ := id C
  intro v0 s0 H locs ls h hP hD hS hl
  unfold df_X2_put_0 at h
  refine lv_aload_n hx hb dX2_put_0 rfl (lv_at hl 0 rfl) ?_
  refine va_get (D := (dC, dI)) (ci := 3) (v := .int (sI s0 1)) (C := RX2) (T := TX2) (N := 20) hx hb hts hi_dm_X2_put_X2 hown hK hP 0 rfl rfl 4 (by decide) (hts (.fieldLink RX2 55 "TimeMachine$Condition" "top" "I") (List.mem_of_getElem? (i := 1) rfl)) (fun _ h9 => h9) rfl dX2_put_1 ?_
  refine lv_aload_n hx hb dX2_put_4 rfl (lv_at hl 0 rfl) ?_
  refine va_get (D := (dC, dI)) (ci := 3) (v := .ref (a 3)) (C := RX2) (T := TX2) (N := 20) hx hb hts hi_dm_X2_put_X2 hown hK hP 0 rfl rfl 3 (by decide) (hts (.fieldLink RX2 17 "TimeMachine$Condition" "stack" "[J") (List.mem_of_getElem? (i := 2) rfl)) (fun _ h9 => h9) rfl dX2_put_5 ?_
  refine va_alen (v := 41) hx hb hK hP 3 2 rfl rfl (show Int32.ofNat 41 = 41 by decide) dX2_put_8 ?_
  refine lv_icmp_ge (tgt := 32) hx hb dX2_put_9 (by decide) (fun c1 => ?_) (fun c1 => ?_)
  · have h := nd_pos h c1
    exact (db_X2_put_32 C K)  s0 _ _ _ h hP hD hS (lv_sub hl [] rfl)
  · have h := nd_neg h c1
    refine lv_aload_n hx hb dX2_put_12 rfl (lv_at hl 0 rfl) ?_
    refine va_get (D := (dC, dI)) (ci := 3) (v := .ref (a 3)) (C := RX2) (T := TX2) (N := 20) hx hb hts hi_dm_X2_put_X2 hown hK hP 0 rfl rfl 3 (by decide) (hts (.fieldLink RX2 17 "TimeMachine$Condition" "stack" "[J") (List.mem_of_getElem? (i := 2) rfl)) (fun _ h9 => h9) rfl dX2_put_13 ?_
    refine lv_aload_n hx hb dX2_put_16 rfl (lv_at hl 0 rfl) ?_
    refine va_get (D := (dC, dI)) (ci := 3) (v := .int (sI s0 1)) (C := RX2) (T := TX2) (N := 20) hx hb hts hi_dm_X2_put_X2 hown hK hP 0 rfl rfl 4 (by decide) (hts (.fieldLink RX2 55 "TimeMachine$Condition" "top" "I") (List.mem_of_getElem? (i := 1) rfl)) (fun _ h9 => h9) rfl dX2_put_17 ?_
    refine lv_lload_n hx hb dX2_put_20 rfl (lv_at hl 1 rfl) ?_
    obtain ⟨i2, h⟩ := nd_ck_e h
    refine va_last (i := (sI s0 1)) (x := v0) hx hb hK hP hD hS 3 2 rfl rfl i2 dX2_put_21 (fun H locs hP hD hS => ?_)
    obtain ⟨s3, es3, h⟩ := nd_let_e h
    have hP : va_P (dC, dI) vwCl (dw_X2c a ac s3) H := by rw [es3]; exact hP
    have hD : va_D A (dw_X2c a ac s3) := by rw [es3]; exact hD
    refine lv_aload_n hx hb dX2_put_22 rfl (lv_at hl 0 rfl) ?_
    refine lv_dup hx hb dX2_put_23 rfl ?_
    refine va_get (D := (dC, dI)) (ci := 3) (v := .int (sI s3 1)) (C := RX2) (T := TX2) (N := 20) hx hb hts hi_dm_X2_put_X2 hown hK hP 0 rfl rfl 4 (by decide) (hts (.fieldLink RX2 55 "TimeMachine$Condition" "top" "I") (List.mem_of_getElem? (i := 1) rfl)) (fun _ h9 => h9) rfl dX2_put_24 ?_
    refine lv_iconst (v := 1) hx hb dX2_put_27 (by decide) ?_
    refine lv_iadd hx hb dX2_put_28 ?_
    refine va_put (D := (dC, dI)) (ci := 3) (v := .int ((sI s3 1) + 1)) (ty := .int) (C := RX2) (T := TX2) (N := 20) hx hb hts hi_dm_X2_put_X2 tyX2 tyX2_ok nmX2 hown hK hP hD hS 0 rfl rfl 4 (by decide) (hts (.fieldLink RX2 55 "TimeMachine$Condition" "top" "I") (List.mem_of_getElem? (i := 1) rfl)) (fun _ h9 => h9) rfl (by decide +kernel) rfl rfl (Nat.le_of_ble_eq_true rfl) dX2_put_29 (fun H locs hP hD hS => ?_)
    obtain ⟨s4, es4, h⟩ := nd_let_e h
    have hP : va_P (dC, dI) vwCl (dw_X2c a ac s4) H := by rw [es4]; exact hP
    have hD : va_D A (dw_X2c a ac s4) := by rw [es4]; exact hD
    exact (db_X2_put_32 C K)  s4 _ _ _ h hP hD hS (lv_sub hl [] rfl)
set_option maxHeartbeats 40000000 in
set_option maxRecDepth 100000 in
theorem dm_X2_put (l : Launch) (hlt : l.stackTraces = false) (dC : Nat → ClassId) (dI : Nat → Nat → Nat) (a : Nat → Nat) (ac : Nat → ClassId) (n : Nat) (v0 : Int64) (s0 : St) {r : St} (h : df_X2_put n v0 s0 = some r) (sz : Nat) : Met l yX2_put ow_dm_X2_put ({ frames := 0, cells := 0, slots := 0, locals := 0 }) (va_Pc [.ref (a 0), .long v0] (fun U => U.heap.size = sz ∧ va_P (dC, dI) vwCl (dw_X2c a ac s0) U.heap ∧ va_K (dC, dI) vwCl (dk_X2c ac) U ∧ va_D (fun _ => True) (dw_X2c a ac s0) ∧ nv_E dI (va_A (dw_X2c a ac s0) sz) U)) (va_Qv (fun _ => True) (fun (_ : Unit) t => va_P (dC, dI) vwCl (dw_X2c a ac r) t.heap ∧ va_K (dC, dI) vwCl (dk_X2c ac) t ∧ va_D (va_A (dw_X2c a ac s0) sz) (dw_X2c a ac r)) (va_A (dw_X2c a ac s0) sz)) 0 0 (va_A (dw_X2c a ac s0) sz) := by
  refine Met.ofW (cc := cX2_put) (maxL := 3) (ret := none) (by decide) rfl ?_
  intro p e s m args below meth c s₁ B hml hv
  obtain ⟨rfl, hsz, hP, hK, hD0, hN⟩ := hv
  have hx := B.exec
  have hb := B.bytes
  have hr := B.returns
  have hts := atoms_spec (ws := ow_dm_X2_put) B.pre
  have hown : s.vm.findClass RX2 = some m.cls := findClass_of_methodNamed B.named
  have hlocks := B.notSynchronized
  subst hsz
  have hD := hD0.self (sz := s.heap.size)
  generalize hAe : va_A (dw_X2c a ac s0) s.heap.size = A at hD hN ⊢
  have hA : ∀ q : Nat, s.heap.size ≤ q → A q := fun q h => by rw [← hAe]; exact Or.inr h
  have hl := lv_entry ([.ref (a 0), .long v0]) (n := 3) (Nat.le_of_ble_eq_true rfl)
  rw [lg_entry_eq]
  generalize (lg_sl ([.ref (a 0), .long v0]) ++ List.replicate (3 - (lg_sl ([.ref (a 0), .long v0])).length) Slot.unset).toArray = ls at hl ⊢
  have hl : lv_has ls 3 [(0, .ref (a 0)), (1, .long v0)] := hl
  exact db_X2_put_0 (dC := dC) (dI := dI) (a := a) (ac := ac) (n := n) (r := r) ⟨hlt, hx, hb, hml, hown, hts, hN, hA, hK⟩ (fun pc τ H locs ls d er hP hD hS => by subst er; exact W.vret hx hb hr (fun t ht hW => ⟨⟨(), rfl, trivial, by rw [ht]; exact hP, va_K.moved hW.alike hK, hD⟩, hS.F ht⟩) hS.2.2 d) v0 s0 _ _ _ h hP hD va_S.rf (lv_sub hl [0, 1] rfl)
def ow_dm_X2_operand : List Cond := Cond.code yX2_operand cX2_operand 5 (some .long) :: ([Cond.fieldLink RX2 221 "TimeMachine$Machine" "current" "I", Cond.methodLink RX2 224 yX6_registerOf, Cond.instanceMethod yX6_registerOf, Cond.selects RX6 yX6_registerOf yX6_registerOf, Cond.initialized RX6] ++ (u_ws RX6 TX6 20 ++ (ow_dm_X6_registerOf ++ [])))
theorem gd_dm_X2_operand : ∀ w ∈ ow_dm_X2_operand, (w.onTables && w.keeps) = true ∨ ∃ ty, w = Cond.arrayClass ty := List.forall_mem_cons.mpr ⟨good_of_word rfl, List.forall_mem_append.mpr ⟨fun w h => good_of_word (List.all_eq_true.mp (by decide +kernel) w h), List.forall_mem_append.mpr ⟨gu_X6, List.forall_mem_append.mpr ⟨gd_dm_X6_registerOf, fun _ h => nomatch h⟩⟩⟩⟩
theorem hi_dm_X2_operand_X6 : ∀ w ∈ u_ws RX6 TX6 20, w ∈ ow_dm_X2_operand := fun w h => List.mem_cons_of_mem _ (List.mem_append_right _ (List.mem_append_left _ h))
theorem gi_dm_X2_operand_0 : GoodIn ow_dm_X2_operand (wsV RX2 224 RX6 yX6_registerOf ow_dm_X6_registerOf) := goodIn_app (goodIn_of _ (by decide +kernel)) (fun w h => ⟨List.mem_cons_of_mem _ (List.mem_append_right _ (List.mem_append_right _ (List.mem_append_left _ h))), gd_dm_X6_registerOf w h⟩)
def dj_X2_operand_50 (p : Program) (l : Launch) (e : Env) (s : State) (m : MethodId) (args : Array Value) (below : List Frame) (meth : Method) (c : Code) (Q : State → Prop) (A : Nat → Prop) (dC : Nat → ClassId) (dI : Nat → Nat → Nat) (a : Nat → Nat) (ac : Nat → ClassId) (g : Int64 → (St × (St)) → Option (Int64 × (St × (St)))) (r : Int64 × (St × (St))) : Prop := ∀ (y0 : Int64) (s0 : St × (St)) (H : Heap) (locs : List Loc) (ls : Array Slot), g y0 s0 = some r → va_P (dC, dI) vwCl (dw_X6 a ac s0) H → va_D A (dw_X6 a ac s0) → va_S A s.heap H locs → lv_has ls 5 [] → W p l e (headSpec ow_dm_X2_operand ({ frames := 2, cells := 0, slots := 0, locals := 43 })).room s m args below meth c H locs 0 0 Q (F0 m 50 ls [.long y0])
def dj_X2_operand_0 (p : Program) (l : Launch) (e : Env) (s : State) (m : MethodId) (args : Array Value) (below : List Frame) (meth : Method) (c : Code) (Q : State → Prop) (A : Nat → Prop) (dC : Nat → ClassId) (dI : Nat → Nat → Nat) (a : Nat → Nat) (ac : Nat → ClassId) (g : Int32 → Int32 → Int64 → (St × (St)) → Option (Int64 × (St × (St)))) (r : Int64 × (St × (St))) : Prop := ∀ (v1 : Int32) (v2 : Int32) (v3 : Int64) (s0 : St × (St)) (H : Heap) (locs : List Loc) (ls : Array Slot), g v1 v2 v3 s0 = some r → va_P (dC, dI) vwCl (dw_X6 a ac s0) H → va_D A (dw_X6 a ac s0) → va_S A s.heap H locs → lv_has ls 5 [(0, .ref (a 0)), (1, .int v1), (2, .int v2), (3, .long v3)] → W p l e (headSpec ow_dm_X2_operand ({ frames := 2, cells := 0, slots := 0, locals := 43 })).room s m args below meth c H locs 0 0 Q (F0 m 0 ls [])
set_option maxHeartbeats 40000000 in
set_option maxRecDepth 100000 in
theorem db_X2_operand_50 {p : Program} {l : Launch} {e : Env} {s : State} {m : MethodId} {args : Array Value} {below : List Frame} {meth : Method} {c : Code} {Q : State → Prop} {A : Nat → Prop} {dC : Nat → ClassId} {dI : Nat → Nat → Nat} {a : Nat → Nat} {ac : Nat → ClassId} {n : Nat} {r : Int64 × (St × (St))} (C : nd_C p l s m args c A (dC, dI) cX2_operand 5 RX2 ow_dm_X2_operand (dk_X6 ac)) (K : nd_Kl p l e (headSpec ow_dm_X2_operand ({ frames := 2, cells := 0, slots := 0, locals := 43 })).room s m args below meth c Q A (dC, dI) cX2_operand (St × (St)) (dw_X6 a ac) r) : dj_X2_operand_50 p l e s m args below meth c Q A dC dI a ac (df_X2_operand_50 n) r := by
  obtain ⟨hlt, hx, hb, hml, hown, hts, hN, hA, hK⟩ := id C
  intro y0 s0 H locs ls h hP hD hS hl
  unfold df_X2_operand_50 at h
  exact K _ _ _ _ _ _ dX2_operand_50 (Option.some.inj h).symm hP hD hS
set_option maxHeartbeats 40000000 in
set_option maxRecDepth 100000 in
theorem db_X2_operand_0 {p : Program} {l : Launch} {e : Env} {s : State} {m : MethodId} {args : Array Value} {below : List Frame} {meth : Method} {c : Code} {Q : State → Prop} {A : Nat → Prop} {dC : Nat → ClassId} {dI : Nat → Nat → Nat} {a : Nat → Nat} {ac : Nat → ClassId} {n : Nat} {r : Int64 × (St × (St))} (C : nd_C p l s m args c A (dC, dI) cX2_operand 5 RX2 ow_dm_X2_operand (dk_X6 ac)) (K : nd_Kl p l e (headSpec ow_dm_X2_operand ({ frames := 2, cells := 0, slots := 0, locals := 43 })).room s m args below meth c Q A (dC, dI) cX2_operand (St × (St)) (dw_X6 a ac) r) : dj_X2_operand_0 p l e s m args below meth c Q A dC dI a ac (df_X2_operand_0 n) r := by
  obtain ⟨hlt, hx, hb, hml, hown, hts, hN, hA, hK⟩ := id C
  intro v1 v2 v3 s0 H locs ls h hP hD hS hl
  unfold df_X2_operand_0 at h
  refine lv_iload_n hx hb dX2_operand_0 rfl (lv_at hl 2 rfl) ?_
  by_cases c1 : v2 = 31
  · have h := nd_pos h c1
    refine lv_tableIn (off := 27) (tgt := 28) hx hb dX2_operand_1 (by rw [c1]; decide) (by rw [c1]; decide) (by rw [c1]; decide) (by decide) ?_
    refine lv_aload_n hx hb dX2_operand_28 rfl (lv_at hl 0 rfl) ?_
    refine va_get (D := (dC, dI)) (ci := 7) (v := .int (sI s0.1 3)) (C := RX6) (T := TX6) (N := 20) hx hb hts hi_dm_X2_operand_X6 hown hK hP 0 rfl rfl 13 (by decide) (hts (.fieldLink RX2 221 "TimeMachine$Machine" "current" "I") (List.mem_of_getElem? (i := 1) rfl)) (fun _ h9 => h9) rfl dX2_operand_29 ?_
    refine lv_if_ge (tgt := 39) hx hb dX2_operand_32 (by decide) (fun c2 => ?_) (fun c2 => ?_)
    · have h := nd_pos h c2
      refine lv_aload_n hx hb dX2_operand_39 rfl (lv_at hl 0 rfl) ?_
      refine lv_aload_n hx hb dX2_operand_40 rfl (lv_at hl 0 rfl) ?_
      refine va_get (D := (dC, dI)) (ci := 7) (v := .int (sI s0.1 3)) (C := RX6) (T := TX6) (N := 20) hx hb hts hi_dm_X2_operand_X6 hown hK hP 0 rfl rfl 13 (by decide) (hts (.fieldLink RX2 221 "TimeMachine$Machine" "current" "I") (List.mem_of_getElem? (i := 1) rfl)) (fun _ h9 => h9) rfl dX2_operand_41 ?_
      refine lv_lload_n hx hb dX2_operand_44 rfl (lv_at hl 3 rfl) ?_
      refine lv_l2i hx hb dX2_operand_45 rfl ?_
      obtain ⟨q3, s4, hq, h⟩ := nd_b2_e h
      have hPc := hP
      have hDc := hD
      have hKc := hK
      have hFc := nd_rs hD hS hA
      refine nd_cVi (As := [.int (sI s0.1 3), .int (v3.toInt32)]) (rest := []) (q := q3) (w' := dw_X6 a ac s4) ⟨hx, hb, hml, hown, hts⟩ (fun sz => dm_X6_registerOf l hlt dC dI a ac n ((sI s0.1 3)) ((v3.toInt32)) s0 hq sz) (cwV 2 hts gi_dm_X2_operand_0 rfl rfl rfl (by decide +kernel) ⟨Nat.le_of_ble_eq_true rfl, Nat.le_of_ble_eq_true rfl⟩) hPc hDc hKc hS hA hN (va_recv hKc hPc (ci := 7) (q0 := 0) rfl rfl) rfl hl.1 rfl (Nat.le_of_ble_eq_true rfl) dX2_operand_46 (fun H locs hP1 hD1 hk1 hS => ?_)
      have hP := hP1
      have hD := hD1.weaken (fun k q _ h => hFc q.1 h)
      refine lv_i2l hx hb dX2_operand_49 rfl ?_
      exact (db_X2_operand_50 C K) ((q3.toInt64)) s4 _ _ _ h hP hD hS (lv_sub hl [] rfl)
    · have h := nd_neg h c2
      refine lv_lconst (v := 0) hx hb dX2_operand_35 (by decide) ?_
      refine lv_goto (tgt := 50) hx hb dX2_operand_36 (by decide) ?_
      exact (db_X2_operand_50 C K) (0) s0 _ _ _ h hP hD hS (lv_sub hl [] rfl)
  have h := nd_neg h c1
  by_cases c6 : v2 = 32
  · have h := nd_pos h c6
    refine lv_tableIn (off := 50) (tgt := 51) hx hb dX2_operand_1 (by rw [c6]; decide) (by rw [c6]; decide) (by rw [c6]; decide) (by decide) ?_
    refine lv_aload_n hx hb dX2_operand_51 rfl (lv_at hl 0 rfl) ?_
    refine va_get (D := (dC, dI)) (ci := 7) (v := .int (sI s0.1 3)) (C := RX6) (T := TX6) (N := 20) hx hb hts hi_dm_X2_operand_X6 hown hK hP 0 rfl rfl 13 (by decide) (hts (.fieldLink RX2 221 "TimeMachine$Machine" "current" "I") (List.mem_of_getElem? (i := 1) rfl)) (fun _ h9 => h9) rfl dX2_operand_52 ?_
    refine lv_i2l hx hb dX2_operand_55 rfl ?_
    exact K _ _ _ _ _ _ dX2_operand_56 (Option.some.inj h).symm hP hD hS
  have h := nd_neg h c6
  by_cases c7 : v2 = 33
  · have h := nd_pos h c7
    refine lv_tableIn (off := 56) (tgt := 57) hx hb dX2_operand_1 (by rw [c7]; decide) (by rw [c7]; decide) (by rw [c7]; decide) (by decide) ?_
    refine lv_iload_n hx hb dX2_operand_57 rfl (lv_at hl 1 rfl) ?_
    refine lv_i2l hx hb dX2_operand_58 rfl ?_
    exact K _ _ _ _ _ _ dX2_operand_59 (Option.some.inj h).symm hP hD hS
  have h := nd_neg h c7
  refine lv_tableOut (tgt := 60) hx hb dX2_operand_1 (by have g0 := nv_nei c1 (k := 31) (by decide); have g1 := nv_nei c6 (k := 32) (by decide); have g2 := nv_nei c7 (k := 33) (by decide); omega) (by decide) ?_
  refine lv_lload_n hx hb dX2_operand_60 rfl (lv_at hl 3 rfl) ?_
  exact K _ _ _ _ _ _ dX2_operand_61 (Option.some.inj h).symm hP hD hS
set_option maxHeartbeats 40000000 in
set_option maxRecDepth 100000 in
theorem dm_X2_operand (l : Launch) (hlt : l.stackTraces = false) (dC : Nat → ClassId) (dI : Nat → Nat → Nat) (a : Nat → Nat) (ac : Nat → ClassId) (n : Nat) (v1 : Int32) (v2 : Int32) (v3 : Int64) (s0 : St × (St)) {r : Int64 × (St × (St))} (h : df_X2_operand n v1 v2 v3 s0 = some r) (sz : Nat) : Met l yX2_operand ow_dm_X2_operand ({ frames := 2, cells := 0, slots := 0, locals := 43 }) (va_Pc [.ref (a 0), .int v1, .int v2, .long v3] (fun U => U.heap.size = sz ∧ va_P (dC, dI) vwCl (dw_X6 a ac s0) U.heap ∧ va_K (dC, dI) vwCl (dk_X6 ac) U ∧ va_D (fun _ => True) (dw_X6 a ac s0) ∧ nv_E dI (va_A (dw_X6 a ac s0) sz) U)) (va_Ql (fun x _ => x = r.1) (fun (_ : Unit) t => va_P (dC, dI) vwCl (dw_X6 a ac r.2) t.heap ∧ va_K (dC, dI) vwCl (dk_X6 ac) t ∧ va_D (va_A (dw_X6 a ac s0) sz) (dw_X6 a ac r.2)) (va_A (dw_X6 a ac s0) sz)) 0 0 (va_A (dw_X6 a ac s0) sz) := by
  refine Met.ofW (cc := cX2_operand) (maxL := 5) (ret := (some .long)) (by decide) rfl ?_
  intro p e s m args below meth c s₁ B hml hv
  obtain ⟨rfl, hsz, hP, hK, hD0, hN⟩ := hv
  have hx := B.exec
  have hb := B.bytes
  have hr := B.returns
  have hts := atoms_spec (ws := ow_dm_X2_operand) B.pre
  have hown : s.vm.findClass RX2 = some m.cls := findClass_of_methodNamed B.named
  have hlocks := B.notSynchronized
  subst hsz
  have hD := hD0.self (sz := s.heap.size)
  generalize hAe : va_A (dw_X6 a ac s0) s.heap.size = A at hD hN ⊢
  have hA : ∀ q : Nat, s.heap.size ≤ q → A q := fun q h => by rw [← hAe]; exact Or.inr h
  have hl := lv_entry ([.ref (a 0), .int v1, .int v2, .long v3]) (n := 5) (Nat.le_of_ble_eq_true rfl)
  rw [lg_entry_eq]
  generalize (lg_sl ([.ref (a 0), .int v1, .int v2, .long v3]) ++ List.replicate (5 - (lg_sl ([.ref (a 0), .int v1, .int v2, .long v3])).length) Slot.unset).toArray = ls at hl ⊢
  have hl : lv_has ls 5 [(0, .ref (a 0)), (1, .int v1), (2, .int v2), (3, .long v3)] := hl
  exact db_X2_operand_0 (dC := dC) (dI := dI) (a := a) (ac := ac) (n := n) (r := r) ⟨hlt, hx, hb, hml, hown, hts, hN, hA, hK⟩ (fun pc v τ H locs ls d er hP hD hS => by subst er; exact W.lret (v := v) hx hb hr (fun t ht hW => ⟨⟨v, (), rfl, rfl, by rw [ht]; exact hP, va_K.moved hW.alike hK, hD⟩, hS.F ht⟩) hS.2.2 d) v1 v2 v3 s0 _ _ _ h hP hD va_S.rf (lv_sub hl [0, 1, 2, 3] rfl)
def ow_dm_X2_evaluate : List Cond := Cond.code yX2_evaluate cX2_evaluate 8 (some .long) :: ([Cond.fieldLink RX2 199 "TimeMachine$Condition" "failed" "Z", Cond.fieldLink RX2 55 "TimeMachine$Condition" "top" "I", Cond.fieldLink RX2 17 "TimeMachine$Condition" "stack" "[J", Cond.fieldLink RX2 9 "TimeMachine$Condition" "code" "[I", Cond.fieldLink RX2 13 "TimeMachine$Condition" "argument" "[J", Cond.methodLink RX2 211 Lib.Math.max.name, Cond.static Lib.Math.max.name, Cond.initialized "java/lang/Math", Cond.code Lib.Math.max.name Lib.Math.max.code 2 (some .int), Cond.methodLink RX2 218 yX2_single, Cond.instanceMethod yX2_single, Cond.selects RX2 yX2_single yX2_single, Cond.initialized RX2, Cond.methodLink RX2 214 yX2_joined, Cond.instanceMethod yX2_joined, Cond.selects RX2 yX2_joined yX2_joined, Cond.fieldLink RX2 32 "TimeMachine$Condition" "oldValue" "[J", Cond.methodLink RX2 207 yX2_put, Cond.instanceMethod yX2_put, Cond.selects RX2 yX2_put yX2_put, Cond.fieldLink RX2 29 "TimeMachine$Condition" "oldTo" "[I", Cond.methodLink RX2 203 yX2_operand, Cond.static yX2_operand] ++ (u_ws RX2 TX2 20 ++ (ow_dm_X2_single ++ (ow_dm_X2_joined ++ (ow_dm_X2_put ++ (ow_dm_X2_operand ++ []))))))
theorem gd_dm_X2_evaluate : ∀ w ∈ ow_dm_X2_evaluate, (w.onTables && w.keeps) = true ∨ ∃ ty, w = Cond.arrayClass ty := List.forall_mem_cons.mpr ⟨good_of_word rfl, List.forall_mem_append.mpr ⟨fun w h => good_of_word (List.all_eq_true.mp (by decide +kernel) w h), List.forall_mem_append.mpr ⟨gu_X2, List.forall_mem_append.mpr ⟨gd_dm_X2_single, List.forall_mem_append.mpr ⟨gd_dm_X2_joined, List.forall_mem_append.mpr ⟨gd_dm_X2_put, List.forall_mem_append.mpr ⟨gd_dm_X2_operand, fun _ h => nomatch h⟩⟩⟩⟩⟩⟩⟩
theorem hi_dm_X2_evaluate_X2 : ∀ w ∈ u_ws RX2 TX2 20, w ∈ ow_dm_X2_evaluate := fun w h => List.mem_cons_of_mem _ (List.mem_append_right _ (List.mem_append_left _ h))
theorem gi_dm_X2_evaluate_0 : GoodIn ow_dm_X2_evaluate (wsV RX2 218 RX2 yX2_single ow_dm_X2_single) := goodIn_app (goodIn_of _ (by decide +kernel)) (fun w h => ⟨List.mem_cons_of_mem _ (List.mem_append_right _ (List.mem_append_right _ (List.mem_append_left _ h))), gd_dm_X2_single w h⟩)
theorem gi_dm_X2_evaluate_1 : GoodIn ow_dm_X2_evaluate (wsV RX2 214 RX2 yX2_joined ow_dm_X2_joined) := goodIn_app (goodIn_of _ (by decide +kernel)) (fun w h => ⟨List.mem_cons_of_mem _ (List.mem_append_right _ (List.mem_append_right _ (List.mem_append_right _ (List.mem_append_left _ h)))), gd_dm_X2_joined w h⟩)
theorem gi_dm_X2_evaluate_2 : GoodIn ow_dm_X2_evaluate (wsV RX2 207 RX2 yX2_put ow_dm_X2_put) := goodIn_app (goodIn_of _ (by decide +kernel)) (fun w h => ⟨List.mem_cons_of_mem _ (List.mem_append_right _ (List.mem_append_right _ (List.mem_append_right _ (List.mem_append_right _ (List.mem_append_left _ h))))), gd_dm_X2_put w h⟩)
theorem gi_dm_X2_evaluate_3 : GoodIn ow_dm_X2_evaluate (wsS RX2 203 yX2_operand ow_dm_X2_operand) := goodIn_app (goodIn_of _ (by decide +kernel)) (fun w h => ⟨List.mem_cons_of_mem _ (List.mem_append_right _ (List.mem_append_right _ (List.mem_append_right _ (List.mem_append_right _ (List.mem_append_right _ (List.mem_append_left _ h)))))), gd_dm_X2_operand w h⟩)
def dj_X2_evaluate_372 (p : Program) (l : Launch) (e : Env) (s : State) (m : MethodId) (args : Array Value) (below : List Frame) (meth : Method) (c : Code) (Q : State → Prop) (A : Nat → Prop) (dC : Nat → ClassId) (dI : Nat → Nat → Nat) (a : Nat → Nat) (ac : Nat → ClassId) (g : Int64 → (St × (St) × (St × (St))) → Option (Int64 × (St × (St) × (St × (St))))) (r : Int64 × (St × (St) × (St × (St)))) : Prop := ∀ (y0 : Int64) (s0 : St × (St) × (St × (St))) (H : Heap) (locs : List Loc) (ls : Array Slot), g y0 s0 = some r → va_P (dC, dI) vwCl (dw_X2m a ac s0) H → va_D A (dw_X2m a ac s0) → va_S A s.heap H locs → lv_has ls 8 [] → W p l e (headSpec ow_dm_X2_evaluate ({ frames := 3, cells := 0, slots := 0, locals := 75 })).room s m args below meth c H locs 0 0 Q (F0 m 372 ls [.long y0])
def dj_X2_evaluate_355 (p : Program) (l : Launch) (e : Env) (s : State) (m : MethodId) (args : Array Value) (below : List Frame) (meth : Method) (c : Code) (Q : State → Prop) (A : Nat → Prop) (dC : Nat → ClassId) (dI : Nat → Nat → Nat) (a : Nat → Nat) (ac : Nat → ClassId) (g : (St × (St) × (St × (St))) → Option (Int64 × (St × (St) × (St × (St))))) (r : Int64 × (St × (St) × (St × (St)))) : Prop := ∀ (s0 : St × (St) × (St × (St))) (H : Heap) (locs : List Loc) (ls : Array Slot), g s0 = some r → va_P (dC, dI) vwCl (dw_X2m a ac s0) H → va_D A (dw_X2m a ac s0) → va_S A s.heap H locs → lv_has ls 8 [(0, .ref (a 0))] → W p l e (headSpec ow_dm_X2_evaluate ({ frames := 3, cells := 0, slots := 0, locals := 75 })).room s m args below meth c H locs 0 0 Q (F0 m 355 ls [])
def dj_X2_evaluate_349 (p : Program) (l : Launch) (e : Env) (s : State) (m : MethodId) (args : Array Value) (below : List Frame) (meth : Method) (c : Code) (Q : State → Prop) (A : Nat → Prop) (dC : Nat → ClassId) (dI : Nat → Nat → Nat) (a : Nat → Nat) (ac : Nat → ClassId) (g : Int32 → Int32 → Int32 → (St × (St) × (St × (St))) → Option (Int64 × (St × (St) × (St × (St))))) (r : Int64 × (St × (St) × (St × (St)))) : Prop := ∀ (x2 : Int32) (x4 : Int32) (x5 : Int32) (s0 : St × (St) × (St × (St))) (H : Heap) (locs : List Loc) (ls : Array Slot), g x2 x4 x5 s0 = some r → va_P (dC, dI) vwCl (dw_X2m a ac s0) H → va_D A (dw_X2m a ac s0) → va_S A s.heap H locs → lv_has ls 8 [(0, .ref (a 0)), (1, .ref (a 9)), (2, .int x2), (4, .int x4), (5, .int x5)] → W p l e (headSpec ow_dm_X2_evaluate ({ frames := 3, cells := 0, slots := 0, locals := 75 })).room s m args below meth c H locs 0 0 Q (F0 m 349 ls [])
def dj_X2_evaluate_141 (p : Program) (l : Launch) (e : Env) (s : State) (m : MethodId) (args : Array Value) (below : List Frame) (meth : Method) (c : Code) (Q : State → Prop) (A : Nat → Prop) (dC : Nat → ClassId) (dI : Nat → Nat → Nat) (a : Nat → Nat) (ac : Nat → ClassId) (g : Int32 → Int32 → Int32 → (St × (St) × (St × (St))) → Option (Int64 × (St × (St) × (St × (St))))) (r : Int64 × (St × (St) × (St × (St)))) : Prop := ∀ (x2 : Int32) (x4 : Int32) (x5 : Int32) (s0 : St × (St) × (St × (St))) (H : Heap) (locs : List Loc) (ls : Array Slot), g x2 x4 x5 s0 = some r → va_P (dC, dI) vwCl (dw_X2m a ac s0) H → va_D A (dw_X2m a ac s0) → va_S A s.heap H locs → lv_has ls 8 [(0, .ref (a 0)), (1, .ref (a 9)), (2, .int x2), (4, .int x4), (5, .int x5)] → W p l e (headSpec ow_dm_X2_evaluate ({ frames := 3, cells := 0, slots := 0, locals := 75 })).room s m args below meth c H locs 0 0 Q (F0 m 141 ls [])
def dj_X2_evaluate_221 (p : Program) (l : Launch) (e : Env) (s : State) (m : MethodId) (args : Array Value) (below : List Frame) (meth : Method) (c : Code) (Q : State → Prop) (A : Nat → Prop) (dC : Nat → ClassId) (dI : Nat → Nat → Nat) (a : Nat → Nat) (ac : Nat → ClassId) (g : Int32 → Int32 → Int32 → Int32 → Int64 → (St × (St) × (St × (St))) → Option (Int64 × (St × (St) × (St × (St))))) (r : Int64 × (St × (St) × (St × (St)))) : Prop := ∀ (x2 : Int32) (x4 : Int32) (x5 : Int32) (y1 : Int32) (y2 : Int64) (s0 : St × (St) × (St × (St))) (H : Heap) (locs : List Loc) (ls : Array Slot), g x2 x4 x5 y1 y2 s0 = some r → va_P (dC, dI) vwCl (dw_X2m a ac s0) H → va_D A (dw_X2m a ac s0) → va_S A s.heap H locs → lv_has ls 8 [(0, .ref (a 0)), (1, .ref (a 9)), (2, .int x2), (4, .int x4), (5, .int x5)] → W p l e (headSpec ow_dm_X2_evaluate ({ frames := 3, cells := 0, slots := 0, locals := 75 })).room s m args below meth c H locs 0 0 Q (F0 m 221 ls [.long y2, .int y1, .ref (a 3)])
def dj_X2_evaluate_196 (p : Program) (l : Launch) (e : Env) (s : State) (m : MethodId) (args : Array Value) (below : List Frame) (meth : Method) (c : Code) (Q : State → Prop) (A : Nat → Prop) (dC : Nat → ClassId) (dI : Nat → Nat → Nat) (a : Nat → Nat) (ac : Nat → ClassId) (g : Int32 → Int32 → Int32 → Int32 → Int32 → Int32 → (St × (St) × (St × (St))) → Option (Int64 × (St × (St) × (St × (St))))) (r : Int64 × (St × (St) × (St × (St)))) : Prop := ∀ (x2 : Int32) (x4 : Int32) (x5 : Int32) (x6 : Int32) (y0 : Int32) (y1 : Int32) (s0 : St × (St) × (St × (St))) (H : Heap) (locs : List Loc) (ls : Array Slot), g x2 x4 x5 x6 y0 y1 s0 = some r → va_P (dC, dI) vwCl (dw_X2m a ac s0) H → va_D A (dw_X2m a ac s0) → va_S A s.heap H locs → lv_has ls 8 [(0, .ref (a 0)), (1, .ref (a 9)), (2, .int x2), (4, .int x4), (5, .int x5), (6, .int x6)] → W p l e (headSpec ow_dm_X2_evaluate ({ frames := 3, cells := 0, slots := 0, locals := 75 })).room s m args below meth c H locs 0 0 Q (F0 m 196 ls [.int y1, .int y0])
def dj_X2_evaluate_184 (p : Program) (l : Launch) (e : Env) (s : State) (m : MethodId) (args : Array Value) (below : List Frame) (meth : Method) (c : Code) (Q : State → Prop) (A : Nat → Prop) (dC : Nat → ClassId) (dI : Nat → Nat → Nat) (a : Nat → Nat) (ac : Nat → ClassId) (g : Int32 → Int32 → Int32 → Int32 → Int32 → (St × (St) × (St × (St))) → Option (Int64 × (St × (St) × (St × (St))))) (r : Int64 × (St × (St) × (St × (St)))) : Prop := ∀ (x2 : Int32) (x4 : Int32) (x5 : Int32) (x6 : Int32) (y0 : Int32) (s0 : St × (St) × (St × (St))) (H : Heap) (locs : List Loc) (ls : Array Slot), g x2 x4 x5 x6 y0 s0 = some r → va_P (dC, dI) vwCl (dw_X2m a ac s0) H → va_D A (dw_X2m a ac s0) → va_S A s.heap H locs → lv_has ls 8 [(0, .ref (a 0)), (1, .ref (a 9)), (2, .int x2), (4, .int x4), (5, .int x5), (6, .int x6)] → W p l e (headSpec ow_dm_X2_evaluate ({ frames := 3, cells := 0, slots := 0, locals := 75 })).room s m args below meth c H locs 0 0 Q (F0 m 184 ls [.int y0])
def dj_X2_evaluate_163 (p : Program) (l : Launch) (e : Env) (s : State) (m : MethodId) (args : Array Value) (below : List Frame) (meth : Method) (c : Code) (Q : State → Prop) (A : Nat → Prop) (dC : Nat → ClassId) (dI : Nat → Nat → Nat) (a : Nat → Nat) (ac : Nat → ClassId) (g : Int32 → Int32 → Int32 → Int32 → (St × (St) × (St × (St))) → Option (Int64 × (St × (St) × (St × (St))))) (r : Int64 × (St × (St) × (St × (St)))) : Prop := ∀ (x2 : Int32) (x4 : Int32) (x5 : Int32) (x6 : Int32) (s0 : St × (St) × (St × (St))) (H : Heap) (locs : List Loc) (ls : Array Slot), g x2 x4 x5 x6 s0 = some r → va_P (dC, dI) vwCl (dw_X2m a ac s0) H → va_D A (dw_X2m a ac s0) → va_S A s.heap H locs → lv_has ls 8 [(0, .ref (a 0)), (1, .ref (a 9)), (2, .int x2), (4, .int x4), (5, .int x5), (6, .int x6)] → W p l e (headSpec ow_dm_X2_evaluate ({ frames := 3, cells := 0, slots := 0, locals := 75 })).room s m args below meth c H locs 0 0 Q (F0 m 163 ls [])
def dj_X2_evaluate_149 (p : Program) (l : Launch) (e : Env) (s : State) (m : MethodId) (args : Array Value) (below : List Frame) (meth : Method) (c : Code) (Q : State → Prop) (A : Nat → Prop) (dC : Nat → ClassId) (dI : Nat → Nat → Nat) (a : Nat → Nat) (ac : Nat → ClassId) (g : Int32 → Int32 → Int32 → Int32 → (St × (St) × (St × (St))) → Option (Int64 × (St × (St) × (St × (St))))) (r : Int64 × (St × (St) × (St × (St)))) : Prop := ∀ (x2 : Int32) (x4 : Int32) (x5 : Int32) (x6 : Int32) (s0 : St × (St) × (St × (St))) (H : Heap) (locs : List Loc) (ls : Array Slot), g x2 x4 x5 x6 s0 = some r → va_P (dC, dI) vwCl (dw_X2m a ac s0) H → va_D A (dw_X2m a ac s0) → va_S A s.heap H locs → lv_has ls 8 [(0, .ref (a 0)), (1, .ref (a 9)), (2, .int x2), (4, .int x4), (5, .int x5), (6, .int x6)] → W p l e (headSpec ow_dm_X2_evaluate ({ frames := 3, cells := 0, slots := 0, locals := 75 })).room s m args below meth c H locs 0 0 Q (F0 m 149 ls [])
def dj_X2_evaluate_71 (p : Program) (l : Launch) (e : Env) (s : State) (m : MethodId) (args : Array Value) (below : List Frame) (meth : Method) (c : Code) (Q : State → Prop) (A : Nat → Prop) (dC : Nat → ClassId) (dI : Nat → Nat → Nat) (a : Nat → Nat) (ac : Nat → ClassId) (g : Int32 → Int32 → Int32 → Int32 → (St × (St) × (St × (St))) → Option (Int64 × (St × (St) × (St × (St))))) (r : Int64 × (St × (St) × (St × (St)))) : Prop := ∀ (x2 : Int32) (x4 : Int32) (x5 : Int32) (x6 : Int32) (s0 : St × (St) × (St × (St))) (H : Heap) (locs : List Loc) (ls : Array Slot), g x2 x4 x5 x6 s0 = some r → va_P (dC, dI) vwCl (dw_X2m a ac s0) H → va_D A (dw_X2m a ac s0) → va_S A s.heap H locs → lv_has ls 8 [(0, .ref (a 0)), (1, .ref (a 9)), (2, .int x2), (4, .int x4), (5, .int x5), (6, .int x6)] → W p l e (headSpec ow_dm_X2_evaluate ({ frames := 3, cells := 0, slots := 0, locals := 75 })).room s m args below meth c H locs 0 0 Q (F0 m 71 ls [])
def dj_X2_evaluate_13 (p : Program) (l : Launch) (e : Env) (s : State) (m : MethodId) (args : Array Value) (below : List Frame) (meth : Method) (c : Code) (Q : State → Prop) (A : Nat → Prop) (dC : Nat → ClassId) (dI : Nat → Nat → Nat) (a : Nat → Nat) (ac : Nat → ClassId) (g : Int32 → Int32 → Int32 → (St × (St) × (St × (St))) → Option (Int64 × (St × (St) × (St × (St))))) (r : Int64 × (St × (St) × (St × (St)))) : Prop := ∀ (x2 : Int32) (x4 : Int32) (x5 : Int32) (s0 : St × (St) × (St × (St))) (H : Heap) (locs : List Loc) (ls : Array Slot), g x2 x4 x5 s0 = some r → va_P (dC, dI) vwCl (dw_X2m a ac s0) H → va_D A (dw_X2m a ac s0) → va_S A s.heap H locs → lv_has ls 8 [(0, .ref (a 0)), (1, .ref (a 9)), (2, .int x2), (4, .int x4), (5, .int x5)] → W p l e (headSpec ow_dm_X2_evaluate ({ frames := 3, cells := 0, slots := 0, locals := 75 })).room s m args below meth c H locs 0 0 Q (F0 m 13 ls [])
def dj_X2_evaluate_0 (p : Program) (l : Launch) (e : Env) (s : State) (m : MethodId) (args : Array Value) (below : List Frame) (meth : Method) (c : Code) (Q : State → Prop) (A : Nat → Prop) (dC : Nat → ClassId) (dI : Nat → Nat → Nat) (a : Nat → Nat) (ac : Nat → ClassId) (g : Int32 → Int32 → Int32 → (St × (St) × (St × (St))) → Option (Int64 × (St × (St) × (St × (St))))) (r : Int64 × (St × (St) × (St × (St)))) : Prop := ∀ (v1 : Int32) (v2 : Int32) (v3 : Int32) (s0 : St × (St) × (St × (St))) (H : Heap) (locs : List Loc) (ls : Array Slot), g v1 v2 v3 s0 = some r → va_P (dC, dI) vwCl (dw_X2m a ac s0) H → va_D A (dw_X2m a ac s0) → va_S A s.heap H locs → lv_has ls 8 [(0, .ref (a 0)), (1, .ref (a 9)), (2, .int v1), (3, .int v2), (4, .int v3)] → W p l e (headSpec ow_dm_X2_evaluate ({ frames := 3, cells := 0, slots := 0, locals := 75 })).room s m args below meth c H locs 0 0 Q (F0 m 0 ls [])
set_option maxHeartbeats 40000000 in
set_option maxRecDepth 100000 in
theorem db_X2_evaluate_372 {p : Program} {l : Launch} {e : Env} {s : State} {m : MethodId} {args : Array Value} {below : List Frame} {meth : Method} {c : Code} {Q : State → Prop} {A : Nat → Prop} {dC : Nat → ClassId} {dI : Nat → Nat → Nat} {a : Nat → Nat} {ac : Nat → ClassId} {n : Nat} {r : Int64 × (St × (St) × (St × (St)))} (C : nd_C p l s m args c A (dC, dI) cX2_evaluate 8 RX2 ow_dm_X2_evaluate (dk_X2m ac)) (K : nd_Kl p l e (headSpec ow_dm_X2_evaluate ({ frames := 3, cells := 0, slots := 0, locals := 75 })).room s m args below meth c Q A (dC, dI) cX2_evaluate (St × (St) × (St × (St))) (dw_X2m a ac) r) : dj_X2_evaluate_372 p l e s m args below meth c Q A dC dI a ac (df_X2_evaluate_372 n) r := by
  obtain ⟨hlt, hx, hb, hml, hown, hts, hN, hA, hK⟩ := id C
  intro y0 s0 H locs ls h hP hD hS hl
  unfold df_X2_evaluate_372 at h
  exact K _ _ _ _ _ _ dX2_evaluate_372 (Option.some.inj h).symm hP hD hS
set_option maxHeartbeats 40000000 in
set_option maxRecDepth 100000 in
theorem db_X2_evaluate_355 {p : Program} {l : Launch} {e : Env} {s : State} {m : MethodId} {args : Array Value} {below : List Frame} {meth : Method} {c : Code} {Q : State → Prop} {A : Nat → Prop} {dC : Nat → ClassId} {dI : Nat → Nat → Nat} {a : Nat → Nat} {ac : Nat → ClassId} {n : Nat} {r : Int64 × (St × (St) × (St × (St)))} (C : nd_C p l s m args c A (dC, dI) cX2_evaluate 8 RX2 ow_dm_X2_evaluate (dk_X2m ac)) (K : nd_Kl p l e (headSpec ow_dm_X2_evaluate ({ frames := 3, cells := 0, slots := 0, locals := 75 })).room s m args below meth c Q A (dC, dI) cX2_evaluate (St × (St) × (St × (St))) (dw_X2m a ac) r) : dj_X2_evaluate_355 p l e s m args below meth c Q A dC dI a ac (df_X2_evaluate_355 n) r := by
  obtain ⟨hlt, hx, hb, hml, hown, hts, hN, hA, hK⟩ := id C
  intro s0 H locs ls h hP hD hS hl
  unfold df_X2_evaluate_355 at h
  refine lv_aload_n hx hb dX2_evaluate_355 rfl (lv_at hl 0 rfl) ?_
  refine va_get (D := (dC, dI)) (ci := 3) (v := .int (sI s0.2.1 1)) (C := RX2) (T := TX2) (N := 20) hx hb hts hi_dm_X2_evaluate_X2 hown hK hP 0 rfl rfl 4 (by decide) (hts (.fieldLink RX2 55 "TimeMachine$Condition" "top" "I") (List.mem_of_getElem? (i := 2) rfl)) (fun _ h9 => h9) rfl dX2_evaluate_356 ?_
  refine lv_if_le (tgt := 371) hx hb dX2_evaluate_359 (by decide) (fun c4 => ?_) (fun c4 => ?_)
  · have h := nd_pos h c4
    refine lv_lconst (v := 0) hx hb dX2_evaluate_371 (by decide) ?_
    exact (db_X2_evaluate_372 C K) (0) s0 _ _ _ h hP hD hS (lv_sub hl [] rfl)
  · have h := nd_neg h c4
    refine lv_aload_n hx hb dX2_evaluate_362 rfl (lv_at hl 0 rfl) ?_
    refine va_get (D := (dC, dI)) (ci := 3) (v := .ref (a 3)) (C := RX2) (T := TX2) (N := 20) hx hb hts hi_dm_X2_evaluate_X2 hown hK hP 0 rfl rfl 3 (by decide) (hts (.fieldLink RX2 17 "TimeMachine$Condition" "stack" "[J") (List.mem_of_getElem? (i := 3) rfl)) (fun _ h9 => h9) rfl dX2_evaluate_363 ?_
    refine lv_iconst (v := 0) hx hb dX2_evaluate_366 (by decide) ?_
    refine va_lald (i := 0) hx hb hK hP 3 2 rfl rfl (vp_in_iff.mpr ⟨by decide, by decide⟩) dX2_evaluate_367 ?_
    refine lv_goto (tgt := 372) hx hb dX2_evaluate_368 (by decide) ?_
    exact (db_X2_evaluate_372 C K) ((sQ s0.2.1 1 (Int32.toNatClampNeg 0))) s0 _ _ _ h hP hD hS (lv_sub hl [] rfl)
set_option maxHeartbeats 40000000 in
set_option maxRecDepth 100000 in
theorem db_X2_evaluate_349 {p : Program} {l : Launch} {e : Env} {s : State} {m : MethodId} {args : Array Value} {below : List Frame} {meth : Method} {c : Code} {Q : State → Prop} {A : Nat → Prop} {dC : Nat → ClassId} {dI : Nat → Nat → Nat} {a : Nat → Nat} {ac : Nat → ClassId} {n : Nat} {r : Int64 × (St × (St) × (St × (St)))} (C : nd_C p l s m args c A (dC, dI) cX2_evaluate 8 RX2 ow_dm_X2_evaluate (dk_X2m ac)) (K : nd_Kl p l e (headSpec ow_dm_X2_evaluate ({ frames := 3, cells := 0, slots := 0, locals := 75 })).room s m args below meth c Q A (dC, dI) cX2_evaluate (St × (St) × (St × (St))) (dw_X2m a ac) r) {g13 : Int32 → Int32 → Int32 → (St × (St) × (St × (St))) → Option (Int64 × (St × (St) × (St × (St))))} (J13 : dj_X2_evaluate_13 p l e s m args below meth c Q A dC dI a ac g13 r) : dj_X2_evaluate_349 p l e s m args below meth c Q A dC dI a ac (df_X2_evaluate_349 n g13) r := by
  obtain ⟨hlt, hx, hb, hml, hown, hts, hN, hA, hK⟩ := id C
  intro x2 x4 x5 s0 H locs ls h hP hD hS hl
  unfold df_X2_evaluate_349 at h
  obtain ⟨z12, ez12, h⟩ := nd_let_e h
  refine lv_iinc (v := z12) (lv' := [(5, .int z12), (0, .ref (a 0)), (1, .ref (a 9)), (2, .int x2), (4, .int x4)]) hx hb dX2_evaluate_349 hl (k := 4) rfl (by rw [ez12]) (by decide) rfl (fun ls hl => ?_)
  refine lv_goto (tgt := 13) hx hb dX2_evaluate_352 (by decide) ?_
  exact (J13) (x2) (x4) (z12) s0 _ _ _ h hP hD hS (lv_sub hl [1, 2, 3, 4, 0] rfl)
set_option maxHeartbeats 40000000 in
set_option maxRecDepth 100000 in
theorem db_X2_evaluate_141 {p : Program} {l : Launch} {e : Env} {s : State} {m : MethodId} {args : Array Value} {below : List Frame} {meth : Method} {c : Code} {Q : State → Prop} {A : Nat → Prop} {dC : Nat → ClassId} {dI : Nat → Nat → Nat} {a : Nat → Nat} {ac : Nat → ClassId} {n : Nat} {r : Int64 × (St × (St) × (St × (St)))} (C : nd_C p l s m args c A (dC, dI) cX2_evaluate 8 RX2 ow_dm_X2_evaluate (dk_X2m ac)) (K : nd_Kl p l e (headSpec ow_dm_X2_evaluate ({ frames := 3, cells := 0, slots := 0, locals := 75 })).room s m args below meth c Q A (dC, dI) cX2_evaluate (St × (St) × (St × (St))) (dw_X2m a ac) r) {g13 : Int32 → Int32 → Int32 → (St × (St) × (St × (St))) → Option (Int64 × (St × (St) × (St × (St))))} (J13 : dj_X2_evaluate_13 p l e s m args below meth c Q A dC dI a ac g13 r) : dj_X2_evaluate_141 p l e s m args below meth c Q A dC dI a ac (df_X2_evaluate_141 n g13) r := by
  obtain ⟨hlt, hx, hb, hml, hown, hts, hN, hA, hK⟩ := id C
  intro x2 x4 x5 s0 H locs ls h hP hD hS hl
  unfold df_X2_evaluate_141 at h
  refine lv_aload_n hx hb dX2_evaluate_141 rfl (lv_at hl 0 rfl) ?_
  refine lv_iconst (v := 1) hx hb dX2_evaluate_142 (by decide) ?_
  refine va_put (D := (dC, dI)) (ci := 3) (v := .int 1) (ty := .boolean) (C := RX2) (T := TX2) (N := 20) hx hb hts hi_dm_X2_evaluate_X2 tyX2 tyX2_ok nmX2 hown hK hP hD hS 0 rfl rfl 11 (by decide) (hts (.fieldLink RX2 199 "TimeMachine$Condition" "failed" "Z") (List.mem_of_getElem? (i := 1) rfl)) (fun _ h9 => h9) rfl (by decide +kernel) (by first | rfl | decide) rfl (Nat.le_of_ble_eq_true rfl) dX2_evaluate_143 (fun H locs hP hD hS => ?_)
  obtain ⟨s11, es11, h⟩ := nd_let_e h
  have hP : va_P (dC, dI) vwCl (dw_X2m a ac s11) H := by rw [es11]; exact hP
  have hD : va_D A (dw_X2m a ac s11) := by rw [es11]; exact hD
  refine lv_goto (tgt := 349) hx hb dX2_evaluate_146 (by decide) ?_
  exact (db_X2_evaluate_349 C K J13) (x2) (x4) (x5) s11 _ _ _ h hP hD hS (lv_sub hl [0, 1, 2, 3, 4] rfl)
set_option maxHeartbeats 40000000 in
set_option maxRecDepth 100000 in
theorem db_X2_evaluate_221 {p : Program} {l : Launch} {e : Env} {s : State} {m : MethodId} {args : Array Value} {below : List Frame} {meth : Method} {c : Code} {Q : State → Prop} {A : Nat → Prop} {dC : Nat → ClassId} {dI : Nat → Nat → Nat} {a : Nat → Nat} {ac : Nat → ClassId} {n : Nat} {r : Int64 × (St × (St) × (St × (St)))} (C : nd_C p l s m args c A (dC, dI) cX2_evaluate 8 RX2 ow_dm_X2_evaluate (dk_X2m ac)) (K : nd_Kl p l e (headSpec ow_dm_X2_evaluate ({ frames := 3, cells := 0, slots := 0, locals := 75 })).room s m args below meth c Q A (dC, dI) cX2_evaluate (St × (St) × (St × (St))) (dw_X2m a ac) r) {g13 : Int32 → Int32 → Int32 → (St × (St) × (St × (St))) → Option (Int64 × (St × (St) × (St × (St))))} (J13 : dj_X2_evaluate_13 p l e s m args below meth c Q A dC dI a ac g13 r) : dj_X2_evaluate_221 p l e s m args below meth c Q A dC dI a ac (df_X2_evaluate_221 n g13) r := by
  obtain ⟨hlt, hx, hb, hml, hown, hts, hN, hA, hK⟩ := id C
  intro x2 x4 x5 y1 y2 s0 H locs ls h hP hD hS hl
  unfold df_X2_evaluate_221 at h
  obtain ⟨i21, h⟩ := nd_ck_e h
  refine va_last (i := y1) (x := y2) hx hb hK hP hD hS 3 2 rfl rfl i21 dX2_evaluate_221 (fun H locs hP hD hS => ?_)
  obtain ⟨s22, es22, h⟩ := nd_let_e h
  have hP : va_P (dC, dI) vwCl (dw_X2m a ac s22) H := by rw [es22]; exact hP
  have hD : va_D A (dw_X2m a ac s22) := by rw [es22]; exact hD
  refine lv_iload hx hb dX2_evaluate_222 (lv_at hl 4 rfl) ?_
  refine lv_aload_n hx hb dX2_evaluate_224 rfl (lv_at hl 0 rfl) ?_
  refine va_get (D := (dC, dI)) (ci := 3) (v := .ref (a 2)) (C := RX2) (T := TX2) (N := 20) hx hb hts hi_dm_X2_evaluate_X2 hown hK hP 0 rfl rfl 1 (by decide) (hts (.fieldLink RX2 13 "TimeMachine$Condition" "argument" "[J") (List.mem_of_getElem? (i := 5) rfl)) (fun _ h9 => h9) rfl dX2_evaluate_225 ?_
  refine lv_iload hx hb dX2_evaluate_228 (lv_at hl 4 rfl) ?_
  obtain ⟨i23, h⟩ := nd_ck_e h
  refine va_lald (i := x5) hx hb hK hP 2 1 rfl rfl i23 dX2_evaluate_230 ?_
  refine lv_l2i hx hb dX2_evaluate_231 rfl ?_
  refine lv_iconst (v := 1) hx hb dX2_evaluate_232 (by decide) ?_
  refine lv_isub hx hb dX2_evaluate_233 ?_
  refine va_mmax hx hb (by rw [hml]; exact hl.1.symm) hown (hts (.methodLink RX2 211 Lib.Math.max.name) (List.mem_of_getElem? (i := 6) rfl)) (hts (.static Lib.Math.max.name) (List.mem_of_getElem? (i := 7) rfl)) (hts (.initialized "java/lang/Math") (List.mem_of_getElem? (i := 8) rfl)) (hts (.code Lib.Math.max.name Lib.Math.max.code 2 (some .int)) (List.mem_of_getElem? (i := 9) rfl)) (Nat.le_of_ble_eq_true rfl) (Nat.le_of_ble_eq_true rfl) (by decide +kernel) (by decide +kernel) dX2_evaluate_234 ?_
  refine lv_topi (fun z24 ez24 => ?_)
  have h := nd_at h ez24
  refine lv_istore (lv' := [(5, .int z24), (0, .ref (a 0)), (1, .ref (a 9)), (2, .int x2), (4, .int x4)]) hx hb dX2_evaluate_237 hl (by decide) rfl (fun ls hl => ?_)
  refine lv_goto (tgt := 349) hx hb dX2_evaluate_239 (by decide) ?_
  exact (db_X2_evaluate_349 C K J13) (x2) (x4) (z24) s22 _ _ _ h hP hD hS (lv_sub hl [1, 2, 3, 4, 0] rfl)
set_option maxHeartbeats 40000000 in
set_option maxRecDepth 100000 in
theorem db_X2_evaluate_196 {p : Program} {l : Launch} {e : Env} {s : State} {m : MethodId} {args : Array Value} {below : List Frame} {meth : Method} {c : Code} {Q : State → Prop} {A : Nat → Prop} {dC : Nat → ClassId} {dI : Nat → Nat → Nat} {a : Nat → Nat} {ac : Nat → ClassId} {n : Nat} {r : Int64 × (St × (St) × (St × (St)))} (C : nd_C p l s m args c A (dC, dI) cX2_evaluate 8 RX2 ow_dm_X2_evaluate (dk_X2m ac)) (K : nd_Kl p l e (headSpec ow_dm_X2_evaluate ({ frames := 3, cells := 0, slots := 0, locals := 75 })).room s m args below meth c Q A (dC, dI) cX2_evaluate (St × (St) × (St × (St))) (dw_X2m a ac) r) {g13 : Int32 → Int32 → Int32 → (St × (St) × (St × (St))) → Option (Int64 × (St × (St) × (St × (St))))} (J13 : dj_X2_evaluate_13 p l e s m args below meth c Q A dC dI a ac g13 r) : dj_X2_evaluate_196 p l e s m args below meth c Q A dC dI a ac (df_X2_evaluate_196 n g13) r := by
  obtain ⟨hlt, hx, hb, hml, hown, hts, hN, hA, hK⟩ := id C
  intro x2 x4 x5 x6 y0 y1 s0 H locs ls h hP hD hS hl
  unfold df_X2_evaluate_196 at h
  refine lv_icmp_ne (tgt := 242) hx hb dX2_evaluate_196 (by decide) (fun c18 => ?_) (fun c18 => ?_)
  · have h := nd_neg h c18
    refine lv_aload_n hx hb dX2_evaluate_242 rfl (lv_at hl 0 rfl) ?_
    refine lv_dup hx hb dX2_evaluate_243 rfl ?_
    refine va_get (D := (dC, dI)) (ci := 3) (v := .int (sI s0.2.1 1)) (C := RX2) (T := TX2) (N := 20) hx hb hts hi_dm_X2_evaluate_X2 hown hK hP 0 rfl rfl 4 (by decide) (hts (.fieldLink RX2 55 "TimeMachine$Condition" "top" "I") (List.mem_of_getElem? (i := 2) rfl)) (fun _ h9 => h9) rfl dX2_evaluate_244 ?_
    refine lv_iconst (v := 1) hx hb dX2_evaluate_247 (by decide) ?_
    refine lv_isub hx hb dX2_evaluate_248 ?_
    refine va_put (D := (dC, dI)) (ci := 3) (v := .int ((sI s0.2.1 1) - 1)) (ty := .int) (C := RX2) (T := TX2) (N := 20) hx hb hts hi_dm_X2_evaluate_X2 tyX2 tyX2_ok nmX2 hown hK hP hD hS 0 rfl rfl 4 (by decide) (hts (.fieldLink RX2 55 "TimeMachine$Condition" "top" "I") (List.mem_of_getElem? (i := 2) rfl)) (fun _ h9 => h9) rfl (by decide +kernel) rfl rfl (Nat.le_of_ble_eq_true rfl) dX2_evaluate_249 (fun H locs hP hD hS => ?_)
    obtain ⟨s19, es19, h⟩ := nd_let_e h
    have hP : va_P (dC, dI) vwCl (dw_X2m a ac s19) H := by rw [es19]; exact hP
    have hD : va_D A (dw_X2m a ac s19) := by rw [es19]; exact hD
    refine lv_goto (tgt := 349) hx hb dX2_evaluate_252 (by decide) ?_
    exact (db_X2_evaluate_349 C K J13) (x2) (x4) (x5) s19 _ _ _ h hP hD hS (lv_sub hl [0, 1, 2, 3, 4] rfl)
  · have h := nd_pos h c18
    refine lv_aload_n hx hb dX2_evaluate_199 rfl (lv_at hl 0 rfl) ?_
    refine va_get (D := (dC, dI)) (ci := 3) (v := .ref (a 3)) (C := RX2) (T := TX2) (N := 20) hx hb hts hi_dm_X2_evaluate_X2 hown hK hP 0 rfl rfl 3 (by decide) (hts (.fieldLink RX2 17 "TimeMachine$Condition" "stack" "[J") (List.mem_of_getElem? (i := 3) rfl)) (fun _ h9 => h9) rfl dX2_evaluate_200 ?_
    refine lv_aload_n hx hb dX2_evaluate_203 rfl (lv_at hl 0 rfl) ?_
    refine va_get (D := (dC, dI)) (ci := 3) (v := .int (sI s0.2.1 1)) (C := RX2) (T := TX2) (N := 20) hx hb hts hi_dm_X2_evaluate_X2 hown hK hP 0 rfl rfl 4 (by decide) (hts (.fieldLink RX2 55 "TimeMachine$Condition" "top" "I") (List.mem_of_getElem? (i := 2) rfl)) (fun _ h9 => h9) rfl dX2_evaluate_204 ?_
    refine lv_iconst (v := 1) hx hb dX2_evaluate_207 (by decide) ?_
    refine lv_isub hx hb dX2_evaluate_208 ?_
    refine lv_iload hx hb dX2_evaluate_209 (lv_at hl 5 rfl) ?_
    refine lv_bipush (v := 35) hx hb dX2_evaluate_211 (by decide) ?_
    refine lv_icmp_ne (tgt := 220) hx hb dX2_evaluate_213 (by decide) (fun c20 => ?_) (fun c20 => ?_)
    · have h := nd_neg h c20
      refine lv_lconst (v := 0) hx hb dX2_evaluate_220 (by decide) ?_
      exact (db_X2_evaluate_221 C K J13) (x2) (x4) (x5) (((sI s0.2.1 1) - 1)) (0) s0 _ _ _ h hP hD hS (lv_sub hl [0, 1, 2, 3, 4] rfl)
    · have h := nd_pos h c20
      refine lv_lconst (v := 1) hx hb dX2_evaluate_216 (by decide) ?_
      refine lv_goto (tgt := 221) hx hb dX2_evaluate_217 (by decide) ?_
      exact (db_X2_evaluate_221 C K J13) (x2) (x4) (x5) (((sI s0.2.1 1) - 1)) (1) s0 _ _ _ h hP hD hS (lv_sub hl [0, 1, 2, 3, 4] rfl)
set_option maxHeartbeats 40000000 in
set_option maxRecDepth 100000 in
theorem db_X2_evaluate_184 {p : Program} {l : Launch} {e : Env} {s : State} {m : MethodId} {args : Array Value} {below : List Frame} {meth : Method} {c : Code} {Q : State → Prop} {A : Nat → Prop} {dC : Nat → ClassId} {dI : Nat → Nat → Nat} {a : Nat → Nat} {ac : Nat → ClassId} {n : Nat} {r : Int64 × (St × (St) × (St × (St)))} (C : nd_C p l s m args c A (dC, dI) cX2_evaluate 8 RX2 ow_dm_X2_evaluate (dk_X2m ac)) (K : nd_Kl p l e (headSpec ow_dm_X2_evaluate ({ frames := 3, cells := 0, slots := 0, locals := 75 })).room s m args below meth c Q A (dC, dI) cX2_evaluate (St × (St) × (St × (St))) (dw_X2m a ac) r) {g13 : Int32 → Int32 → Int32 → (St × (St) × (St × (St))) → Option (Int64 × (St × (St) × (St × (St))))} (J13 : dj_X2_evaluate_13 p l e s m args below meth c Q A dC dI a ac g13 r) : dj_X2_evaluate_184 p l e s m args below meth c Q A dC dI a ac (df_X2_evaluate_184 n g13) r := by
  obtain ⟨hlt, hx, hb, hml, hown, hts, hN, hA, hK⟩ := id C
  intro x2 x4 x5 x6 y0 s0 H locs ls h hP hD hS hl
  unfold df_X2_evaluate_184 at h
  refine lv_iload hx hb dX2_evaluate_184 (lv_at hl 5 rfl) ?_
  refine lv_bipush (v := 35) hx hb dX2_evaluate_186 (by decide) ?_
  refine lv_icmp_ne (tgt := 195) hx hb dX2_evaluate_188 (by decide) (fun c17 => ?_) (fun c17 => ?_)
  · have h := nd_neg h c17
    refine lv_iconst (v := 0) hx hb dX2_evaluate_195 (by decide) ?_
    exact (db_X2_evaluate_196 C K J13) (x2) (x4) (x5) (x6) (y0) (0) s0 _ _ _ h hP hD hS (lv_sub hl [0, 1, 2, 3, 4, 5] rfl)
  · have h := nd_pos h c17
    refine lv_iconst (v := 1) hx hb dX2_evaluate_191 (by decide) ?_
    refine lv_goto (tgt := 196) hx hb dX2_evaluate_192 (by decide) ?_
    exact (db_X2_evaluate_196 C K J13) (x2) (x4) (x5) (x6) (y0) (1) s0 _ _ _ h hP hD hS (lv_sub hl [0, 1, 2, 3, 4, 5] rfl)
set_option maxHeartbeats 40000000 in
set_option maxRecDepth 100000 in
theorem db_X2_evaluate_163 {p : Program} {l : Launch} {e : Env} {s : State} {m : MethodId} {args : Array Value} {below : List Frame} {meth : Method} {c : Code} {Q : State → Prop} {A : Nat → Prop} {dC : Nat → ClassId} {dI : Nat → Nat → Nat} {a : Nat → Nat} {ac : Nat → ClassId} {n : Nat} {r : Int64 × (St × (St) × (St × (St)))} (C : nd_C p l s m args c A (dC, dI) cX2_evaluate 8 RX2 ow_dm_X2_evaluate (dk_X2m ac)) (K : nd_Kl p l e (headSpec ow_dm_X2_evaluate ({ frames := 3, cells := 0, slots := 0, locals := 75 })).room s m args below meth c Q A (dC, dI) cX2_evaluate (St × (St) × (St × (St))) (dw_X2m a ac) r) {g13 : Int32 → Int32 → Int32 → (St × (St) × (St × (St))) → Option (Int64 × (St × (St) × (St × (St))))} (J13 : dj_X2_evaluate_13 p l e s m args below meth c Q A dC dI a ac g13 r) : dj_X2_evaluate_163 p l e s m args below meth c Q A dC dI a ac (df_X2_evaluate_163 n g13) r := by
  obtain ⟨hlt, hx, hb, hml, hown, hts, hN, hA, hK⟩ := id C
  intro x2 x4 x5 x6 s0 H locs ls h hP hD hS hl
  unfold df_X2_evaluate_163 at h
  refine lv_aload_n hx hb dX2_evaluate_163 rfl (lv_at hl 0 rfl) ?_
  refine va_get (D := (dC, dI)) (ci := 3) (v := .ref (a 3)) (C := RX2) (T := TX2) (N := 20) hx hb hts hi_dm_X2_evaluate_X2 hown hK hP 0 rfl rfl 3 (by decide) (hts (.fieldLink RX2 17 "TimeMachine$Condition" "stack" "[J") (List.mem_of_getElem? (i := 3) rfl)) (fun _ h9 => h9) rfl dX2_evaluate_164 ?_
  refine lv_aload_n hx hb dX2_evaluate_167 rfl (lv_at hl 0 rfl) ?_
  refine va_get (D := (dC, dI)) (ci := 3) (v := .int (sI s0.2.1 1)) (C := RX2) (T := TX2) (N := 20) hx hb hts hi_dm_X2_evaluate_X2 hown hK hP 0 rfl rfl 4 (by decide) (hts (.fieldLink RX2 55 "TimeMachine$Condition" "top" "I") (List.mem_of_getElem? (i := 2) rfl)) (fun _ h9 => h9) rfl dX2_evaluate_168 ?_
  refine lv_iconst (v := 1) hx hb dX2_evaluate_171 (by decide) ?_
  refine lv_isub hx hb dX2_evaluate_172 ?_
  obtain ⟨i15, h⟩ := nd_ck_e h
  refine va_lald (i := ((sI s0.2.1 1) - 1)) hx hb hK hP 3 2 rfl rfl i15 dX2_evaluate_173 ?_
  refine lv_lconst (v := 0) hx hb dX2_evaluate_174 (by decide) ?_
  refine W.lcmp hx hb dX2_evaluate_175 ?_
  refine lv_if_eq (tgt := 183) hx hb dX2_evaluate_176 (by decide) (fun c16 => ?_) (fun c16 => ?_)
  · have h := nd_pos h c16
    refine lv_iconst (v := 0) hx hb dX2_evaluate_183 (by decide) ?_
    exact (db_X2_evaluate_184 C K J13) (x2) (x4) (x5) (x6) (0) s0 _ _ _ h hP hD hS (lv_sub hl [0, 1, 2, 3, 4, 5] rfl)
  · have h := nd_neg h c16
    refine lv_iconst (v := 1) hx hb dX2_evaluate_179 (by decide) ?_
    refine lv_goto (tgt := 184) hx hb dX2_evaluate_180 (by decide) ?_
    exact (db_X2_evaluate_184 C K J13) (x2) (x4) (x5) (x6) (1) s0 _ _ _ h hP hD hS (lv_sub hl [0, 1, 2, 3, 4, 5] rfl)
set_option maxHeartbeats 40000000 in
set_option maxRecDepth 100000 in
theorem db_X2_evaluate_149 {p : Program} {l : Launch} {e : Env} {s : State} {m : MethodId} {args : Array Value} {below : List Frame} {meth : Method} {c : Code} {Q : State → Prop} {A : Nat → Prop} {dC : Nat → ClassId} {dI : Nat → Nat → Nat} {a : Nat → Nat} {ac : Nat → ClassId} {n : Nat} {r : Int64 × (St × (St) × (St × (St)))} (C : nd_C p l s m args c A (dC, dI) cX2_evaluate 8 RX2 ow_dm_X2_evaluate (dk_X2m ac)) (K : nd_Kl p l e (headSpec ow_dm_X2_evaluate ({ frames := 3, cells := 0, slots := 0, locals := 75 })).room s m args below meth c Q A (dC, dI) cX2_evaluate (St × (St) × (St × (St))) (dw_X2m a ac) r) {g13 : Int32 → Int32 → Int32 → (St × (St) × (St × (St))) → Option (Int64 × (St × (St) × (St × (St))))} (J13 : dj_X2_evaluate_13 p l e s m args below meth c Q A dC dI a ac g13 r) : dj_X2_evaluate_149 p l e s m args below meth c Q A dC dI a ac (df_X2_evaluate_149 n g13) r := by
  obtain ⟨hlt, hx, hb, hml, hown, hts, hN, hA, hK⟩ := id C
  intro x2 x4 x5 x6 s0 H locs ls h hP hD hS hl
  unfold df_X2_evaluate_149 at h
  refine lv_iload hx hb dX2_evaluate_149 (lv_at hl 5 rfl) ?_
  refine lv_bipush (v := 35) hx hb dX2_evaluate_151 (by decide) ?_
  refine lv_icmp_eq (tgt := 163) hx hb dX2_evaluate_153 (by decide) (fun c14 => ?_) (fun c14 => ?_)
  · have h := nd_pos h c14
    exact (db_X2_evaluate_163 C K J13) (x2) (x4) (x5) (x6) s0 _ _ _ h hP hD hS (lv_sub hl [0, 1, 2, 3, 4, 5] rfl)
  · have h := nd_neg h c14
    refine lv_iload hx hb dX2_evaluate_156 (lv_at hl 5 rfl) ?_
    refine lv_bipush (v := 34) hx hb dX2_evaluate_158 (by decide) ?_
    refine lv_icmp_ne (tgt := 255) hx hb dX2_evaluate_160 (by decide) (fun c25 => ?_) (fun c25 => ?_)
    · have h := nd_neg h c25
      refine lv_iload hx hb dX2_evaluate_255 (lv_at hl 5 rfl) ?_
      refine lv_bipush (v := 19) hx hb dX2_evaluate_257 (by decide) ?_
      refine lv_icmp_ge (tgt := 312) hx hb dX2_evaluate_259 (by decide) (fun c26 => ?_) (fun c26 => ?_)
      · have h := nd_pos h c26
        refine lv_aload_n hx hb dX2_evaluate_312 rfl (lv_at hl 0 rfl) ?_
        refine va_get (D := (dC, dI)) (ci := 3) (v := .ref (a 3)) (C := RX2) (T := TX2) (N := 20) hx hb hts hi_dm_X2_evaluate_X2 hown hK hP 0 rfl rfl 3 (by decide) (hts (.fieldLink RX2 17 "TimeMachine$Condition" "stack" "[J") (List.mem_of_getElem? (i := 3) rfl)) (fun _ h9 => h9) rfl dX2_evaluate_313 ?_
        refine lv_aload_n hx hb dX2_evaluate_316 rfl (lv_at hl 0 rfl) ?_
        refine va_get (D := (dC, dI)) (ci := 3) (v := .int (sI s0.2.1 1)) (C := RX2) (T := TX2) (N := 20) hx hb hts hi_dm_X2_evaluate_X2 hown hK hP 0 rfl rfl 4 (by decide) (hts (.fieldLink RX2 55 "TimeMachine$Condition" "top" "I") (List.mem_of_getElem? (i := 2) rfl)) (fun _ h9 => h9) rfl dX2_evaluate_317 ?_
        refine lv_iconst (v := 1) hx hb dX2_evaluate_320 (by decide) ?_
        refine lv_isub hx hb dX2_evaluate_321 ?_
        refine lv_aload_n hx hb dX2_evaluate_322 rfl (lv_at hl 0 rfl) ?_
        refine lv_aload_n hx hb dX2_evaluate_323 rfl (lv_at hl 1 rfl) ?_
        refine lv_iload hx hb dX2_evaluate_324 (lv_at hl 5 rfl) ?_
        refine lv_aload_n hx hb dX2_evaluate_326 rfl (lv_at hl 0 rfl) ?_
        refine va_get (D := (dC, dI)) (ci := 3) (v := .ref (a 2)) (C := RX2) (T := TX2) (N := 20) hx hb hts hi_dm_X2_evaluate_X2 hown hK hP 0 rfl rfl 1 (by decide) (hts (.fieldLink RX2 13 "TimeMachine$Condition" "argument" "[J") (List.mem_of_getElem? (i := 5) rfl)) (fun _ h9 => h9) rfl dX2_evaluate_327 ?_
        refine lv_iload hx hb dX2_evaluate_330 (lv_at hl 4 rfl) ?_
        obtain ⟨i27, h⟩ := nd_ck_e h
        refine va_lald (i := x5) hx hb hK hP 2 1 rfl rfl i27 dX2_evaluate_332 ?_
        refine lv_l2i hx hb dX2_evaluate_333 rfl ?_
        refine lv_aload_n hx hb dX2_evaluate_334 rfl (lv_at hl 0 rfl) ?_
        refine va_get (D := (dC, dI)) (ci := 3) (v := .ref (a 3)) (C := RX2) (T := TX2) (N := 20) hx hb hts hi_dm_X2_evaluate_X2 hown hK hP 0 rfl rfl 3 (by decide) (hts (.fieldLink RX2 17 "TimeMachine$Condition" "stack" "[J") (List.mem_of_getElem? (i := 3) rfl)) (fun _ h9 => h9) rfl dX2_evaluate_335 ?_
        refine lv_aload_n hx hb dX2_evaluate_338 rfl (lv_at hl 0 rfl) ?_
        refine va_get (D := (dC, dI)) (ci := 3) (v := .int (sI s0.2.1 1)) (C := RX2) (T := TX2) (N := 20) hx hb hts hi_dm_X2_evaluate_X2 hown hK hP 0 rfl rfl 4 (by decide) (hts (.fieldLink RX2 55 "TimeMachine$Condition" "top" "I") (List.mem_of_getElem? (i := 2) rfl)) (fun _ h9 => h9) rfl dX2_evaluate_339 ?_
        refine lv_iconst (v := 1) hx hb dX2_evaluate_342 (by decide) ?_
        refine lv_isub hx hb dX2_evaluate_343 ?_
        obtain ⟨i28, h⟩ := nd_ck_e h
        refine va_lald (i := ((sI s0.2.1 1) - 1)) hx hb hK hP 3 2 rfl rfl i28 dX2_evaluate_344 ?_
        obtain ⟨q29, s30, hq, h⟩ := nd_b2_e h
        have hPc := hP
        have hDc := hD
        have hKc := hK
        have hFc := nd_rs hD hS hA
        refine nd_cVl (As := [.ref (a 9), .int x6, .int ((sQ s0.2.1 0 (Int32.toNatClampNeg x5)).toInt32), .long (sQ s0.2.1 1 (Int32.toNatClampNeg ((sI s0.2.1 1) - 1)))]) (rest := [.int ((sI s0.2.1 1) - 1), .ref (a 3)]) (q := q29) (w' := dw_X2m a ac s30) ⟨hx, hb, hml, hown, hts⟩ (fun sz => dm_X2_single l hlt dC dI a ac n (x6) (((sQ s0.2.1 0 (Int32.toNatClampNeg x5)).toInt32)) ((sQ s0.2.1 1 (Int32.toNatClampNeg ((sI s0.2.1 1) - 1)))) s0 hq sz) (cwV 4 hts gi_dm_X2_evaluate_0 rfl rfl rfl (by decide +kernel) ⟨Nat.le_of_ble_eq_true rfl, Nat.le_of_ble_eq_true rfl⟩) hPc hDc hKc hS hA hN (va_recv hKc hPc (ci := 3) (q0 := 0) rfl rfl) rfl hl.1 rfl (Nat.le_of_ble_eq_true rfl) dX2_evaluate_345 (fun H locs hP1 hD1 hk1 hS => ?_)
        have hP := hP1
        have hD := hD1.weaken (fun k q _ h => hFc q.1 h)
        obtain ⟨i32, h⟩ := nd_ck_e h
        refine va_last (i := ((sI s0.2.1 1) - 1)) (x := q29) hx hb hK hP hD hS 3 2 rfl rfl i32 dX2_evaluate_348 (fun H locs hP hD hS => ?_)
        obtain ⟨s33, es33, h⟩ := nd_let_e h
        have hP : va_P (dC, dI) vwCl (dw_X2m a ac s33) H := by rw [es33]; exact hP
        have hD : va_D A (dw_X2m a ac s33) := by rw [es33]; exact hD
        exact (db_X2_evaluate_349 C K J13) (x2) (x4) (x5) s33 _ _ _ h hP hD hS (lv_sub hl [0, 1, 2, 3, 4] rfl)
      · have h := nd_neg h c26
        refine lv_aload_n hx hb dX2_evaluate_262 rfl (lv_at hl 0 rfl) ?_
        refine lv_dup hx hb dX2_evaluate_263 rfl ?_
        refine va_get (D := (dC, dI)) (ci := 3) (v := .int (sI s0.2.1 1)) (C := RX2) (T := TX2) (N := 20) hx hb hts hi_dm_X2_evaluate_X2 hown hK hP 0 rfl rfl 4 (by decide) (hts (.fieldLink RX2 55 "TimeMachine$Condition" "top" "I") (List.mem_of_getElem? (i := 2) rfl)) (fun _ h9 => h9) rfl dX2_evaluate_264 ?_
        refine lv_iconst (v := 1) hx hb dX2_evaluate_267 (by decide) ?_
        refine lv_isub hx hb dX2_evaluate_268 ?_
        refine va_put (D := (dC, dI)) (ci := 3) (v := .int ((sI s0.2.1 1) - 1)) (ty := .int) (C := RX2) (T := TX2) (N := 20) hx hb hts hi_dm_X2_evaluate_X2 tyX2 tyX2_ok nmX2 hown hK hP hD hS 0 rfl rfl 4 (by decide) (hts (.fieldLink RX2 55 "TimeMachine$Condition" "top" "I") (List.mem_of_getElem? (i := 2) rfl)) (fun _ h9 => h9) rfl (by decide +kernel) rfl rfl (Nat.le_of_ble_eq_true rfl) dX2_evaluate_269 (fun H locs hP hD hS => ?_)
        obtain ⟨s34, es34, h⟩ := nd_let_e h
        have hP : va_P (dC, dI) vwCl (dw_X2m a ac s34) H := by rw [es34]; exact hP
        have hD : va_D A (dw_X2m a ac s34) := by rw [es34]; exact hD
        refine lv_aload_n hx hb dX2_evaluate_272 rfl (lv_at hl 0 rfl) ?_
        refine va_get (D := (dC, dI)) (ci := 3) (v := .ref (a 3)) (C := RX2) (T := TX2) (N := 20) hx hb hts hi_dm_X2_evaluate_X2 hown hK hP 0 rfl rfl 3 (by decide) (hts (.fieldLink RX2 17 "TimeMachine$Condition" "stack" "[J") (List.mem_of_getElem? (i := 3) rfl)) (fun _ h9 => h9) rfl dX2_evaluate_273 ?_
        refine lv_aload_n hx hb dX2_evaluate_276 rfl (lv_at hl 0 rfl) ?_
        refine va_get (D := (dC, dI)) (ci := 3) (v := .int (sI s34.2.1 1)) (C := RX2) (T := TX2) (N := 20) hx hb hts hi_dm_X2_evaluate_X2 hown hK hP 0 rfl rfl 4 (by decide) (hts (.fieldLink RX2 55 "TimeMachine$Condition" "top" "I") (List.mem_of_getElem? (i := 2) rfl)) (fun _ h9 => h9) rfl dX2_evaluate_277 ?_
        refine lv_iconst (v := 1) hx hb dX2_evaluate_280 (by decide) ?_
        refine lv_isub hx hb dX2_evaluate_281 ?_
        refine lv_aload_n hx hb dX2_evaluate_282 rfl (lv_at hl 0 rfl) ?_
        refine lv_iload hx hb dX2_evaluate_283 (lv_at hl 5 rfl) ?_
        refine lv_aload_n hx hb dX2_evaluate_285 rfl (lv_at hl 0 rfl) ?_
        refine va_get (D := (dC, dI)) (ci := 3) (v := .ref (a 3)) (C := RX2) (T := TX2) (N := 20) hx hb hts hi_dm_X2_evaluate_X2 hown hK hP 0 rfl rfl 3 (by decide) (hts (.fieldLink RX2 17 "TimeMachine$Condition" "stack" "[J") (List.mem_of_getElem? (i := 3) rfl)) (fun _ h9 => h9) rfl dX2_evaluate_286 ?_
        refine lv_aload_n hx hb dX2_evaluate_289 rfl (lv_at hl 0 rfl) ?_
        refine va_get (D := (dC, dI)) (ci := 3) (v := .int (sI s34.2.1 1)) (C := RX2) (T := TX2) (N := 20) hx hb hts hi_dm_X2_evaluate_X2 hown hK hP 0 rfl rfl 4 (by decide) (hts (.fieldLink RX2 55 "TimeMachine$Condition" "top" "I") (List.mem_of_getElem? (i := 2) rfl)) (fun _ h9 => h9) rfl dX2_evaluate_290 ?_
        refine lv_iconst (v := 1) hx hb dX2_evaluate_293 (by decide) ?_
        refine lv_isub hx hb dX2_evaluate_294 ?_
        obtain ⟨i35, h⟩ := nd_ck_e h
        refine va_lald (i := ((sI s34.2.1 1) - 1)) hx hb hK hP 3 2 rfl rfl i35 dX2_evaluate_295 ?_
        refine lv_aload_n hx hb dX2_evaluate_296 rfl (lv_at hl 0 rfl) ?_
        refine va_get (D := (dC, dI)) (ci := 3) (v := .ref (a 3)) (C := RX2) (T := TX2) (N := 20) hx hb hts hi_dm_X2_evaluate_X2 hown hK hP 0 rfl rfl 3 (by decide) (hts (.fieldLink RX2 17 "TimeMachine$Condition" "stack" "[J") (List.mem_of_getElem? (i := 3) rfl)) (fun _ h9 => h9) rfl dX2_evaluate_297 ?_
        refine lv_aload_n hx hb dX2_evaluate_300 rfl (lv_at hl 0 rfl) ?_
        refine va_get (D := (dC, dI)) (ci := 3) (v := .int (sI s34.2.1 1)) (C := RX2) (T := TX2) (N := 20) hx hb hts hi_dm_X2_evaluate_X2 hown hK hP 0 rfl rfl 4 (by decide) (hts (.fieldLink RX2 55 "TimeMachine$Condition" "top" "I") (List.mem_of_getElem? (i := 2) rfl)) (fun _ h9 => h9) rfl dX2_evaluate_301 ?_
        obtain ⟨i36, h⟩ := nd_ck_e h
        refine va_lald (i := (sI s34.2.1 1)) hx hb hK hP 3 2 rfl rfl i36 dX2_evaluate_304 ?_
        obtain ⟨q37, s38, hq, h⟩ := nd_b2_e h
        have hPc := dp_X2m_0 hP
        have hDc := dd_X2m_0 hD
        have hKc := dy_X2m_0 hK
        have hFc := nd_rs hDc hS hA
        have hzA : ∀ q : Nat, H.size ≤ q → A q := fun q h => hA q (Nat.le_trans hS.1 h)
        refine nd_cVl (As := [.int x6, .long (sQ s34.2.1 1 (Int32.toNatClampNeg ((sI s34.2.1 1) - 1))), .long (sQ s34.2.1 1 (Int32.toNatClampNeg (sI s34.2.1 1)))]) (rest := [.int ((sI s34.2.1 1) - 1), .ref (a 3)]) (q := q37) (w' := dw_X2c (fun k => a (k + 0)) (fun k => ac (k + 0)) s38) ⟨hx, hb, hml, hown, hts⟩ (fun sz => dm_X2_joined l hlt dC dI (fun k => a (k + 0)) (fun k => ac (k + 0)) n (x6) ((sQ s34.2.1 1 (Int32.toNatClampNeg ((sI s34.2.1 1) - 1)))) ((sQ s34.2.1 1 (Int32.toNatClampNeg (sI s34.2.1 1)))) s34.2.1 hq sz) (cwV 3 hts gi_dm_X2_evaluate_1 rfl rfl rfl (by decide +kernel) ⟨Nat.le_of_ble_eq_true rfl, Nat.le_of_ble_eq_true rfl⟩) hPc hDc hKc hS hA hN (va_recv hKc hPc (ci := 3) (q0 := 0) rfl rfl) rfl hl.1 rfl (Nat.le_of_ble_eq_true rfl) dX2_evaluate_305 (fun H locs hP1 hD1 hk1 hS => ?_)
        obtain ⟨hP, hD⟩ := dn_X2m_0 hP hD hzA hk1 hP1 hD1
        obtain ⟨s40, es40, h⟩ := nd_let_e h
        have hP : va_P (dC, dI) vwCl (dw_X2m a ac s40) H := by rw [es40]; exact hP
        have hD : va_D A (dw_X2m a ac s40) := by rw [es40]; exact hD
        obtain ⟨i41, h⟩ := nd_ck_e h
        refine va_last (i := ((sI s34.2.1 1) - 1)) (x := q37) hx hb hK hP hD hS 3 2 rfl rfl i41 dX2_evaluate_308 (fun H locs hP hD hS => ?_)
        obtain ⟨s42, es42, h⟩ := nd_let_e h
        have hP : va_P (dC, dI) vwCl (dw_X2m a ac s42) H := by rw [es42]; exact hP
        have hD : va_D A (dw_X2m a ac s42) := by rw [es42]; exact hD
        refine lv_goto (tgt := 349) hx hb dX2_evaluate_309 (by decide) ?_
        exact (db_X2_evaluate_349 C K J13) (x2) (x4) (x5) s42 _ _ _ h hP hD hS (lv_sub hl [0, 1, 2, 3, 4] rfl)
    · have h := nd_pos h c25
      exact (db_X2_evaluate_163 C K J13) (x2) (x4) (x5) (x6) s0 _ _ _ h hP hD hS (lv_sub hl [0, 1, 2, 3, 4, 5] rfl)
set_option maxHeartbeats 40000000 in
set_option maxRecDepth 100000 in
theorem db_X2_evaluate_71 {p : Program} {l : Launch} {e : Env} {s : State} {m : MethodId} {args : Array Value} {below : List Frame} {meth : Method} {c : Code} {Q : State → Prop} {A : Nat → Prop} {dC : Nat → ClassId} {dI : Nat → Nat → Nat} {a : Nat → Nat} {ac : Nat → ClassId} {n : Nat} {r : Int64 × (St × (St) × (St × (St)))} (C : nd_C p l s m args c A (dC, dI) cX2_evaluate 8 RX2 ow_dm_X2_evaluate (dk_X2m ac)) (K : nd_Kl p l e (headSpec ow_dm_X2_evaluate ({ frames := 3, cells := 0, slots := 0, locals := 75 })).room s m args below meth c Q A (dC, dI) cX2_evaluate (St × (St) × (St × (St))) (dw_X2m a ac) r) {g13 : Int32 → Int32 → Int32 → (St × (St) × (St × (St))) → Option (Int64 × (St × (St) × (St × (St))))} (J13 : dj_X2_evaluate_13 p l e s m args below meth c Q A dC dI a ac g13 r) : dj_X2_evaluate_71 p l e s m args below meth c Q A dC dI a ac (df_X2_evaluate_71 n g13) r := by
  obtain ⟨hlt, hx, hb, hml, hown, hts, hN, hA, hK⟩ := id C
  intro x2 x4 x5 x6 s0 H locs ls h hP hD hS hl
  unfold df_X2_evaluate_71 at h
  refine lv_iload hx hb dX2_evaluate_71 (lv_at hl 5 rfl) ?_
  refine lv_bipush (v := 23) hx hb dX2_evaluate_73 (by decide) ?_
  refine lv_icmp_ne (tgt := 118) hx hb dX2_evaluate_75 (by decide) (fun c9 => ?_) (fun c9 => ?_)
  · have h := nd_neg h c9
    refine lv_aload_n hx hb dX2_evaluate_118 rfl (lv_at hl 0 rfl) ?_
    refine va_get (D := (dC, dI)) (ci := 3) (v := .int (sI s0.2.1 1)) (C := RX2) (T := TX2) (N := 20) hx hb hts hi_dm_X2_evaluate_X2 hown hK hP 0 rfl rfl 4 (by decide) (hts (.fieldLink RX2 55 "TimeMachine$Condition" "top" "I") (List.mem_of_getElem? (i := 2) rfl)) (fun _ h9 => h9) rfl dX2_evaluate_119 ?_
    refine lv_iconst (v := 1) hx hb dX2_evaluate_122 (by decide) ?_
    refine lv_icmp_lt (tgt := 141) hx hb dX2_evaluate_123 (by decide) (fun c10 => ?_) (fun c10 => ?_)
    · have h := nd_pos h c10
      exact (db_X2_evaluate_141 C K J13) (x2) (x4) (x5) s0 _ _ _ h hP hD hS (lv_sub hl [0, 1, 2, 3, 4] rfl)
    · have h := nd_neg h c10
      refine lv_iload hx hb dX2_evaluate_126 (lv_at hl 5 rfl) ?_
      refine lv_bipush (v := 19) hx hb dX2_evaluate_128 (by decide) ?_
      refine lv_icmp_ge (tgt := 149) hx hb dX2_evaluate_130 (by decide) (fun c13 => ?_) (fun c13 => ?_)
      · have h := nd_pos h c13
        exact (db_X2_evaluate_149 C K J13) (x2) (x4) (x5) (x6) s0 _ _ _ h hP hD hS (lv_sub hl [0, 1, 2, 3, 4, 5] rfl)
      · have h := nd_neg h c13
        refine lv_aload_n hx hb dX2_evaluate_133 rfl (lv_at hl 0 rfl) ?_
        refine va_get (D := (dC, dI)) (ci := 3) (v := .int (sI s0.2.1 1)) (C := RX2) (T := TX2) (N := 20) hx hb hts hi_dm_X2_evaluate_X2 hown hK hP 0 rfl rfl 4 (by decide) (hts (.fieldLink RX2 55 "TimeMachine$Condition" "top" "I") (List.mem_of_getElem? (i := 2) rfl)) (fun _ h9 => h9) rfl dX2_evaluate_134 ?_
        refine lv_iconst (v := 2) hx hb dX2_evaluate_137 (by decide) ?_
        refine lv_icmp_ge (tgt := 149) hx hb dX2_evaluate_138 (by decide) (fun c43 => ?_) (fun c43 => ?_)
        · have h := nd_pos h c43
          exact (db_X2_evaluate_149 C K J13) (x2) (x4) (x5) (x6) s0 _ _ _ h hP hD hS (lv_sub hl [0, 1, 2, 3, 4, 5] rfl)
        · have h := nd_neg h c43
          exact (db_X2_evaluate_141 C K J13) (x2) (x4) (x5) s0 _ _ _ h hP hD hS (lv_sub hl [0, 1, 2, 3, 4] rfl)
  · have h := nd_pos h c9
    refine lv_aload_n hx hb dX2_evaluate_78 rfl (lv_at hl 0 rfl) ?_
    refine va_get (D := (dC, dI)) (ci := 3) (v := .ref (a 2)) (C := RX2) (T := TX2) (N := 20) hx hb hts hi_dm_X2_evaluate_X2 hown hK hP 0 rfl rfl 1 (by decide) (hts (.fieldLink RX2 13 "TimeMachine$Condition" "argument" "[J") (List.mem_of_getElem? (i := 5) rfl)) (fun _ h9 => h9) rfl dX2_evaluate_79 ?_
    refine lv_iload hx hb dX2_evaluate_82 (lv_at hl 4 rfl) ?_
    obtain ⟨i44, h⟩ := nd_ck_e h
    refine va_lald (i := x5) hx hb hK hP 2 1 rfl rfl i44 dX2_evaluate_84 ?_
    refine lv_l2i hx hb dX2_evaluate_85 rfl ?_
    refine lv_topi (fun z45 ez45 => ?_)
    have h := nd_at h ez45
    refine lv_istore (lv' := [(7, .int z45), (0, .ref (a 0)), (1, .ref (a 9)), (2, .int x2), (4, .int x4), (5, .int x5), (6, .int x6)]) hx hb dX2_evaluate_86 hl (by decide) rfl (fun ls hl => ?_)
    refine lv_aload_n hx hb dX2_evaluate_88 rfl (lv_at hl 1 rfl) ?_
    refine lv_aload_n hx hb dX2_evaluate_89 rfl (lv_at hl 1 rfl) ?_
    refine va_get (D := (dC, dI)) (ci := 3) (v := .ref (a 8)) (C := RX2) (T := TX2) (N := 20) hx hb hts hi_dm_X2_evaluate_X2 hown hK hP 0 rfl rfl 9 (by decide) (hts (.fieldLink RX2 32 "TimeMachine$Condition" "oldValue" "[J") (List.mem_of_getElem? (i := 17) rfl)) (fun _ h9 => h9) rfl dX2_evaluate_90 ?_
    refine lv_iload hx hb dX2_evaluate_93 (lv_at hl 0 rfl) ?_
    obtain ⟨i46, h⟩ := nd_ck_e h
    refine va_lald (i := z45) hx hb hK hP 8 7 rfl rfl i46 dX2_evaluate_95 ?_
    obtain ⟨s48, hq, h⟩ := nd_b1_e h
    have hPc := dp_X2m_0 hP
    have hDc := dd_X2m_0 hD
    have hKc := dy_X2m_0 hK
    have hFc := nd_rs hDc hS hA
    have hzA : ∀ q : Nat, H.size ≤ q → A q := fun q h => hA q (Nat.le_trans hS.1 h)
    refine nd_cVv (As := [.long (sQ s0.2.1 2 (Int32.toNatClampNeg z45))]) (rest := []) (w' := dw_X2c (fun k => a (k + 0)) (fun k => ac (k + 0)) s48) ⟨hx, hb, hml, hown, hts⟩ (fun sz => dm_X2_put l hlt dC dI (fun k => a (k + 0)) (fun k => ac (k + 0)) n ((sQ s0.2.1 2 (Int32.toNatClampNeg z45))) s0.2.1 hq sz) (cwV 1 hts gi_dm_X2_evaluate_2 rfl rfl rfl (by decide +kernel) ⟨Nat.le_of_ble_eq_true rfl, Nat.le_of_ble_eq_true rfl⟩) hPc hDc hKc hS hA hN (va_recv hKc hPc (ci := 3) (q0 := 0) rfl rfl) rfl hl.1 rfl (Nat.le_of_ble_eq_true rfl) dX2_evaluate_96 (fun H locs hP1 hD1 hk1 hS => ?_)
    obtain ⟨hP, hD⟩ := dn_X2m_0 hP hD hzA hk1 hP1 hD1
    obtain ⟨s50, es50, h⟩ := nd_let_e h
    have hP : va_P (dC, dI) vwCl (dw_X2m a ac s50) H := by rw [es50]; exact hP
    have hD : va_D A (dw_X2m a ac s50) := by rw [es50]; exact hD
    refine lv_iload hx hb dX2_evaluate_99 (lv_at hl 5 rfl) ?_
    refine lv_aload_n hx hb dX2_evaluate_101 rfl (lv_at hl 1 rfl) ?_
    refine va_get (D := (dC, dI)) (ci := 3) (v := .ref (a 7)) (C := RX2) (T := TX2) (N := 20) hx hb hts hi_dm_X2_evaluate_X2 hown hK hP 0 rfl rfl 8 (by decide) (hts (.fieldLink RX2 29 "TimeMachine$Condition" "oldTo" "[I") (List.mem_of_getElem? (i := 21) rfl)) (fun _ h9 => h9) rfl dX2_evaluate_102 ?_
    refine lv_iload hx hb dX2_evaluate_105 (lv_at hl 0 rfl) ?_
    obtain ⟨i51, h⟩ := nd_ck_e h
    refine va_iald (i := z45) hx hb hK hP 7 6 rfl rfl i51 dX2_evaluate_107 ?_
    refine lv_iconst (v := 1) hx hb dX2_evaluate_108 (by decide) ?_
    refine lv_isub hx hb dX2_evaluate_109 ?_
    refine va_mmax hx hb (by rw [hml]; exact hl.1.symm) hown (hts (.methodLink RX2 211 Lib.Math.max.name) (List.mem_of_getElem? (i := 6) rfl)) (hts (.static Lib.Math.max.name) (List.mem_of_getElem? (i := 7) rfl)) (hts (.initialized "java/lang/Math") (List.mem_of_getElem? (i := 8) rfl)) (hts (.code Lib.Math.max.name Lib.Math.max.code 2 (some .int)) (List.mem_of_getElem? (i := 9) rfl)) (Nat.le_of_ble_eq_true rfl) (Nat.le_of_ble_eq_true rfl) (by decide +kernel) (by decide +kernel) dX2_evaluate_110 ?_
    refine lv_topi (fun z52 ez52 => ?_)
    have h := nd_at h ez52
    refine lv_istore (lv' := [(5, .int z52), (7, .int z45), (0, .ref (a 0)), (1, .ref (a 9)), (2, .int x2), (4, .int x4), (6, .int x6)]) hx hb dX2_evaluate_113 hl (by decide) rfl (fun ls hl => ?_)
    refine lv_goto (tgt := 349) hx hb dX2_evaluate_115 (by decide) ?_
    exact (db_X2_evaluate_349 C K J13) (x2) (x4) (z52) s50 _ _ _ h hP hD hS (lv_sub hl [2, 3, 4, 5, 0] rfl)
set_option maxHeartbeats 40000000 in
set_option maxRecDepth 100000 in
theorem dB_X2_evaluate_13 {p : Program} {l : Launch} {e : Env} {s : State} {m : MethodId} {args : Array Value} {below : List Frame} {meth : Method} {c : Code} {Q : State → Prop} {A : Nat → Prop} {dC : Nat → ClassId} {dI : Nat → Nat → Nat} {a : Nat → Nat} {ac : Nat → ClassId} {n : Nat} {r : Int64 × (St × (St) × (St × (St)))} (C : nd_C p l s m args c A (dC, dI) cX2_evaluate 8 RX2 ow_dm_X2_evaluate (dk_X2m ac)) (K : nd_Kl p l e (headSpec ow_dm_X2_evaluate ({ frames := 3, cells := 0, slots := 0, locals := 75 })).room s m args below meth c Q A (dC, dI) cX2_evaluate (St × (St) × (St × (St))) (dw_X2m a ac) r) {g13 : Int32 → Int32 → Int32 → (St × (St) × (St × (St))) → Option (Int64 × (St × (St) × (St × (St))))} (J13 : dj_X2_evaluate_13 p l e s m args below meth c Q A dC dI a ac g13 r) : dj_X2_evaluate_13 p l e s m args below meth c Q A dC dI a ac (dF_X2_evaluate_13 n g13) r := by
  obtain ⟨hlt, hx, hb, hml, hown, hts, hN, hA, hK⟩ := id C
  intro x2 x4 x5 s0 H locs ls h hP hD hS hl
  unfold dF_X2_evaluate_13 at h
  refine lv_iload hx hb dX2_evaluate_13 (lv_at hl 4 rfl) ?_
  refine lv_iload hx hb dX2_evaluate_15 (lv_at hl 3 rfl) ?_
  refine lv_icmp_ge (tgt := 355) hx hb dX2_evaluate_17 (by decide) (fun c3 => ?_) (fun c3 => ?_)
  · have h := nd_pos h c3
    exact (db_X2_evaluate_355 C K)  s0 _ _ _ h hP hD hS (lv_sub hl [0] rfl)
  · have h := nd_neg h c3
    refine lv_aload_n hx hb dX2_evaluate_20 rfl (lv_at hl 0 rfl) ?_
    refine va_get (D := (dC, dI)) (ci := 3) (v := .int (sI s0.2.1 3)) (C := RX2) (T := TX2) (N := 20) hx hb hts hi_dm_X2_evaluate_X2 hown hK hP 0 rfl rfl 11 (by decide) (hts (.fieldLink RX2 199 "TimeMachine$Condition" "failed" "Z") (List.mem_of_getElem? (i := 1) rfl)) (fun _ h9 => h9) rfl dX2_evaluate_21 ?_
    refine lv_if_ne (tgt := 355) hx hb dX2_evaluate_24 (by decide) (fun c5 => ?_) (fun c5 => ?_)
    · have h := nd_neg h c5
      exact (db_X2_evaluate_355 C K)  s0 _ _ _ h hP hD hS (lv_sub hl [0] rfl)
    · have h := nd_pos h c5
      refine lv_aload_n hx hb dX2_evaluate_27 rfl (lv_at hl 0 rfl) ?_
      refine va_get (D := (dC, dI)) (ci := 3) (v := .ref (a 1)) (C := RX2) (T := TX2) (N := 20) hx hb hts hi_dm_X2_evaluate_X2 hown hK hP 0 rfl rfl 0 (by decide) (hts (.fieldLink RX2 9 "TimeMachine$Condition" "code" "[I") (List.mem_of_getElem? (i := 4) rfl)) (fun _ h9 => h9) rfl dX2_evaluate_28 ?_
      refine lv_iload hx hb dX2_evaluate_31 (lv_at hl 4 rfl) ?_
      obtain ⟨i6, h⟩ := nd_ck_e h
      refine va_iald (i := x5) hx hb hK hP 1 0 rfl rfl i6 dX2_evaluate_33 ?_
      refine lv_topi (fun z7 ez7 => ?_)
      have h := nd_at h ez7
      refine lv_istore (lv' := [(6, .int z7), (0, .ref (a 0)), (1, .ref (a 9)), (2, .int x2), (4, .int x4), (5, .int x5)]) hx hb dX2_evaluate_34 hl (by decide) rfl (fun ls hl => ?_)
      refine lv_iload hx hb dX2_evaluate_36 (lv_at hl 0 rfl) ?_
      refine lv_bipush (v := 30) hx hb dX2_evaluate_38 (by decide) ?_
      refine lv_icmp_lt (tgt := 71) hx hb dX2_evaluate_40 (by decide) (fun c8 => ?_) (fun c8 => ?_)
      · have h := nd_pos h c8
        exact (db_X2_evaluate_71 C K J13) (x2) (x4) (x5) (z7) s0 _ _ _ h hP hD hS (lv_sub hl [1, 2, 3, 4, 5, 0] rfl)
      · have h := nd_neg h c8
        refine lv_iload hx hb dX2_evaluate_43 (lv_at hl 0 rfl) ?_
        refine lv_bipush (v := 33) hx hb dX2_evaluate_45 (by decide) ?_
        refine lv_icmp_gt (tgt := 71) hx hb dX2_evaluate_47 (by decide) (fun c53 => ?_) (fun c53 => ?_)
        · have h := nd_pos h c53
          exact (db_X2_evaluate_71 C K J13) (x2) (x4) (x5) (z7) s0 _ _ _ h hP hD hS (lv_sub hl [1, 2, 3, 4, 5, 0] rfl)
        · have h := nd_neg h c53
          refine lv_aload_n hx hb dX2_evaluate_50 rfl (lv_at hl 1 rfl) ?_
          refine lv_aload_n hx hb dX2_evaluate_51 rfl (lv_at hl 2 rfl) ?_
          refine lv_iload_n hx hb dX2_evaluate_52 rfl (lv_at hl 3 rfl) ?_
          refine lv_iload hx hb dX2_evaluate_53 (lv_at hl 0 rfl) ?_
          refine lv_aload_n hx hb dX2_evaluate_55 rfl (lv_at hl 1 rfl) ?_
          refine va_get (D := (dC, dI)) (ci := 3) (v := .ref (a 2)) (C := RX2) (T := TX2) (N := 20) hx hb hts hi_dm_X2_evaluate_X2 hown hK hP 0 rfl rfl 1 (by decide) (hts (.fieldLink RX2 13 "TimeMachine$Condition" "argument" "[J") (List.mem_of_getElem? (i := 5) rfl)) (fun _ h9 => h9) rfl dX2_evaluate_56 ?_
          refine lv_iload hx hb dX2_evaluate_59 (lv_at hl 5 rfl) ?_
          obtain ⟨i54, h⟩ := nd_ck_e h
          refine va_lald (i := x5) hx hb hK hP 2 1 rfl rfl i54 dX2_evaluate_61 ?_
          obtain ⟨q55, s56, hq, h⟩ := nd_b2_e h
          have hPc := dp_X2m_9 hP
          have hDc := dd_X2m_9 hD
          have hKc := dy_X2m_9 hK
          have hFc := nd_rs hDc hS hA
          have hzA : ∀ q : Nat, H.size ≤ q → A q := fun q h => hA q (Nat.le_trans hS.1 h)
          refine nd_cSl (As := [.ref (a 9), .int x2, .int z7, .long (sQ s0.2.1 0 (Int32.toNatClampNeg x5))]) (rest := [.ref (a 0)]) (q := q55) (w' := dw_X6 (fun k => a (k + 9)) (fun k => ac (k + 9)) s56) ⟨hx, hb, hml, hown, hts⟩ (fun sz => dm_X2_operand l hlt dC dI (fun k => a (k + 9)) (fun k => ac (k + 9)) n (x2) (z7) ((sQ s0.2.1 0 (Int32.toNatClampNeg x5))) s0.2.2 hq sz) (cwS 4 hts gi_dm_X2_evaluate_3 rfl rfl rfl (by decide +kernel) ⟨Nat.le_of_ble_eq_true rfl, Nat.le_of_ble_eq_true rfl⟩) hPc hDc hKc hS hA hN rfl hl.1 rfl (Nat.le_of_ble_eq_true rfl) dX2_evaluate_62 (fun H locs hP1 hD1 hk1 hS => ?_)
          obtain ⟨hP, hD⟩ := dn_X2m_9 hP hD hzA hk1 hP1 hD1
          obtain ⟨s58, es58, h⟩ := nd_let_e h
          have hP : va_P (dC, dI) vwCl (dw_X2m a ac s58) H := by rw [es58]; exact hP
          have hD : va_D A (dw_X2m a ac s58) := by rw [es58]; exact hD
          obtain ⟨s60, hq, h⟩ := nd_b1_e h
          have hPc := dp_X2m_0 hP
          have hDc := dd_X2m_0 hD
          have hKc := dy_X2m_0 hK
          have hFc := nd_rs hDc hS hA
          have hzA : ∀ q : Nat, H.size ≤ q → A q := fun q h => hA q (Nat.le_trans hS.1 h)
          refine nd_cVv (As := [.long q55]) (rest := []) (w' := dw_X2c (fun k => a (k + 0)) (fun k => ac (k + 0)) s60) ⟨hx, hb, hml, hown, hts⟩ (fun sz => dm_X2_put l hlt dC dI (fun k => a (k + 0)) (fun k => ac (k + 0)) n (q55) s58.2.1 hq sz) (cwV 1 hts gi_dm_X2_evaluate_2 rfl rfl rfl (by decide +kernel) ⟨Nat.le_of_ble_eq_true rfl, Nat.le_of_ble_eq_true rfl⟩) hPc hDc hKc hS hA hN (va_recv hKc hPc (ci := 3) (q0 := 0) rfl rfl) rfl hl.1 rfl (Nat.le_of_ble_eq_true rfl) dX2_evaluate_65 (fun H locs hP1 hD1 hk1 hS => ?_)
          obtain ⟨hP, hD⟩ := dn_X2m_0 hP hD hzA hk1 hP1 hD1
          obtain ⟨s62, es62, h⟩ := nd_let_e h
          have hP : va_P (dC, dI) vwCl (dw_X2m a ac s62) H := by rw [es62]; exact hP
          have hD : va_D A (dw_X2m a ac s62) := by rw [es62]; exact hD
          refine lv_goto (tgt := 349) hx hb dX2_evaluate_68 (by decide) ?_
          exact (db_X2_evaluate_349 C K J13) (x2) (x4) (x5) s62 _ _ _ h hP hD hS (lv_sub hl [1, 2, 3, 4, 5] rfl)
set_option maxHeartbeats 40000000 in
set_option maxRecDepth 100000 in
theorem db_X2_evaluate_13 {p : Program} {l : Launch} {e : Env} {s : State} {m : MethodId} {args : Array Value} {below : List Frame} {meth : Method} {c : Code} {Q : State → Prop} {A : Nat → Prop} {dC : Nat → ClassId} {dI : Nat → Nat → Nat} {a : Nat → Nat} {ac : Nat → ClassId} {n : Nat} {r : Int64 × (St × (St) × (St × (St)))} (C : nd_C p l s m args c A (dC, dI) cX2_evaluate 8 RX2 ow_dm_X2_evaluate (dk_X2m ac)) (K : nd_Kl p l e (headSpec ow_dm_X2_evaluate ({ frames := 3, cells := 0, slots := 0, locals := 75 })).room s m args below meth c Q A (dC, dI) cX2_evaluate (St × (St) × (St × (St))) (dw_X2m a ac) r) (k : Nat) : dj_X2_evaluate_13 p l e s m args below meth c Q A dC dI a ac (df_X2_evaluate_13 n k) r := by
  induction k with
  | zero => intro x2 x4 x5 s0 H locs ls h; exact nomatch (show (none : Option (Int64 × (St × (St) × (St × (St))))) = some r from h)
  | succ k ih => exact dB_X2_evaluate_13 C K ih
set_option maxHeartbeats 40000000 in
set_option maxRecDepth 100000 in
theorem db_X2_evaluate_0 {p : Program} {l : Launch} {e : Env} {s : State} {m : MethodId} {args : Array Value} {below : List Frame} {meth : Method} {c : Code} {Q : State → Prop} {A : Nat → Prop} {dC : Nat → ClassId} {dI : Nat → Nat → Nat} {a : Nat → Nat} {ac : Nat → ClassId} {n : Nat} {r : Int64 × (St × (St) × (St × (St)))} (C : nd_C p l s m args c A (dC, dI) cX2_evaluate 8 RX2 ow_dm_X2_evaluate (dk_X2m ac)) (K : nd_Kl p l e (headSpec ow_dm_X2_evaluate ({ frames := 3, cells := 0, slots := 0, locals := 75 })).room s m args below meth c Q A (dC, dI) cX2_evaluate (St × (St) × (St × (St))) (dw_X2m a ac) r) : dj_X2_evaluate_0 p l e s m args below meth c Q A dC dI a ac (df_X2_evaluate_0 n) r := by
  obtain ⟨hlt, hx, hb, hml, hown, hts, hN, hA, hK⟩ := id C
  intro v1 v2 v3 s0 H locs ls h hP hD hS hl
  unfold df_X2_evaluate_0 at h
  refine lv_aload_n hx hb dX2_evaluate_0 rfl (lv_at hl 0 rfl) ?_
  refine lv_iconst (v := 0) hx hb dX2_evaluate_1 (by decide) ?_
  refine va_put (D := (dC, dI)) (ci := 3) (v := .int 0) (ty := .boolean) (C := RX2) (T := TX2) (N := 20) hx hb hts hi_dm_X2_evaluate_X2 tyX2 tyX2_ok nmX2 hown hK hP hD hS 0 rfl rfl 11 (by decide) (hts (.fieldLink RX2 199 "TimeMachine$Condition" "failed" "Z") (List.mem_of_getElem? (i := 1) rfl)) (fun _ h9 => h9) rfl (by decide +kernel) (by first | rfl | decide) rfl (Nat.le_of_ble_eq_true rfl) dX2_evaluate_2 (fun H locs hP hD hS => ?_)
  obtain ⟨s1, es1, h⟩ := nd_let_e h
  have hP : va_P (dC, dI) vwCl (dw_X2m a ac s1) H := by rw [es1]; exact hP
  have hD : va_D A (dw_X2m a ac s1) := by rw [es1]; exact hD
  refine lv_aload_n hx hb dX2_evaluate_5 rfl (lv_at hl 0 rfl) ?_
  refine lv_iconst (v := 0) hx hb dX2_evaluate_6 (by decide) ?_
  refine va_put (D := (dC, dI)) (ci := 3) (v := .int 0) (ty := .int) (C := RX2) (T := TX2) (N := 20) hx hb hts hi_dm_X2_evaluate_X2 tyX2 tyX2_ok nmX2 hown hK hP hD hS 0 rfl rfl 4 (by decide) (hts (.fieldLink RX2 55 "TimeMachine$Condition" "top" "I") (List.mem_of_getElem? (i := 2) rfl)) (fun _ h9 => h9) rfl (by decide +kernel) rfl rfl (Nat.le_of_ble_eq_true rfl) dX2_evaluate_7 (fun H locs hP hD hS => ?_)
  obtain ⟨s2, es2, h⟩ := nd_let_e h
  have hP : va_P (dC, dI) vwCl (dw_X2m a ac s2) H := by rw [es2]; exact hP
  have hD : va_D A (dw_X2m a ac s2) := by rw [es2]; exact hD
  refine lv_iload_n hx hb dX2_evaluate_10 rfl (lv_at hl 3 rfl) ?_
  refine lv_istore (lv' := [(5, .int v2), (0, .ref (a 0)), (1, .ref (a 9)), (2, .int v1), (3, .int v2), (4, .int v3)]) hx hb dX2_evaluate_11 hl (by decide) rfl (fun ls hl => ?_)
  exact (db_X2_evaluate_13 C K n) (v1) (v3) (v2) s2 _ _ _ h hP hD hS (lv_sub hl [1, 2, 3, 5, 0] rfl)
set_option maxHeartbeats 40000000 in
set_option maxRecDepth 100000 in
theorem dm_X2_evaluate (l : Launch) (hlt : l.stackTraces = false) (dC : Nat → ClassId) (dI : Nat → Nat → Nat) (a : Nat → Nat) (ac : Nat → ClassId) (n : Nat) (v1 : Int32) (v2 : Int32) (v3 : Int32) (s0 : St × (St) × (St × (St))) {r : Int64 × (St × (St) × (St × (St)))} (h : df_X2_evaluate n v1 v2 v3 s0 = some r) (sz : Nat) : Met l yX2_evaluate ow_dm_X2_evaluate ({ frames := 3, cells := 0, slots := 0, locals := 75 }) (va_Pc [.ref (a 0), .ref (a 9), .int v1, .int v2, .int v3] (fun U => U.heap.size = sz ∧ va_P (dC, dI) vwCl (dw_X2m a ac s0) U.heap ∧ va_K (dC, dI) vwCl (dk_X2m ac) U ∧ va_D (fun _ => True) (dw_X2m a ac s0) ∧ nv_E dI (va_A (dw_X2m a ac s0) sz) U)) (va_Ql (fun x _ => x = r.1) (fun (_ : Unit) t => va_P (dC, dI) vwCl (dw_X2m a ac r.2) t.heap ∧ va_K (dC, dI) vwCl (dk_X2m ac) t ∧ va_D (va_A (dw_X2m a ac s0) sz) (dw_X2m a ac r.2)) (va_A (dw_X2m a ac s0) sz)) 0 0 (va_A (dw_X2m a ac s0) sz) := by
  refine Met.ofW (cc := cX2_evaluate) (maxL := 8) (ret := (some .long)) (by decide) rfl ?_
  intro p e s m args below meth c s₁ B hml hv
  obtain ⟨rfl, hsz, hP, hK, hD0, hN⟩ := hv
  have hx := B.exec
  have hb := B.bytes
  have hr := B.returns
  have hts := atoms_spec (ws := ow_dm_X2_evaluate) B.pre
  have hown : s.vm.findClass RX2 = some m.cls := findClass_of_methodNamed B.named
  have hlocks := B.notSynchronized
  subst hsz
  have hD := hD0.self (sz := s.heap.size)
  generalize hAe : va_A (dw_X2m a ac s0) s.heap.size = A at hD hN ⊢
  have hA : ∀ q : Nat, s.heap.size ≤ q → A q := fun q h => by rw [← hAe]; exact Or.inr h
  have hl := lv_entry ([.ref (a 0), .ref (a 9), .int v1, .int v2, .int v3]) (n := 8) (Nat.le_of_ble_eq_true rfl)
  rw [lg_entry_eq]
  generalize (lg_sl ([.ref (a 0), .ref (a 9), .int v1, .int v2, .int v3]) ++ List.replicate (8 - (lg_sl ([.ref (a 0), .ref (a 9), .int v1, .int v2, .int v3])).length) Slot.unset).toArray = ls at hl ⊢
  have hl : lv_has ls 8 [(0, .ref (a 0)), (1, .ref (a 9)), (2, .int v1), (3, .int v2), (4, .int v3)] := hl
  exact db_X2_evaluate_0 (dC := dC) (dI := dI) (a := a) (ac := ac) (n := n) (r := r) ⟨hlt, hx, hb, hml, hown, hts, hN, hA, hK⟩ (fun pc v τ H locs ls d er hP hD hS => by subst er; exact W.lret (v := v) hx hb hr (fun t ht hW => ⟨⟨v, (), rfl, rfl, by rw [ht]; exact hP, va_K.moved hW.alike hK, hD⟩, hS.F ht⟩) hS.2.2 d) v1 v2 v3 s0 _ _ _ h hP hD va_S.rf (lv_sub hl [0, 1, 2, 3, 4] rfl)
def ow_dm_X2_worth : List Cond := Cond.code yX2_worth cX2_worth 5 (some .long) :: ([Cond.fieldLink RX2 52 "TimeMachine$Condition" "codes" "I", Cond.methodLink RX2 195 yX2_evaluate, Cond.instanceMethod yX2_evaluate, Cond.selects RX2 yX2_evaluate yX2_evaluate, Cond.initialized RX2, Cond.fieldLink RX2 199 "TimeMachine$Condition" "failed" "Z"] ++ (u_ws RX2 TX2 20 ++ (ow_dm_X2_evaluate ++ [])))
theorem gd_dm_X2_worth : ∀ w ∈ ow_dm_X2_worth, (w.onTables && w.keeps) = true ∨ ∃ ty, w = Cond.arrayClass ty := List.forall_mem_cons.mpr ⟨good_of_word rfl, List.forall_mem_append.mpr ⟨fun w h => good_of_word (List.all_eq_true.mp (by decide +kernel) w h), List.forall_mem_append.mpr ⟨gu_X2, List.forall_mem_append.mpr ⟨gd_dm_X2_evaluate, fun _ h => nomatch h⟩⟩⟩⟩
theorem hi_dm_X2_worth_X2 : ∀ w ∈ u_ws RX2 TX2 20, w ∈ ow_dm_X2_worth := fun w h => List.mem_cons_of_mem _ (List.mem_append_right _ (List.mem_append_left _ h))
theorem gi_dm_X2_worth_0 : GoodIn ow_dm_X2_worth (wsV RX2 195 RX2 yX2_evaluate ow_dm_X2_evaluate) := goodIn_app (goodIn_of _ (by decide +kernel)) (fun w h => ⟨List.mem_cons_of_mem _ (List.mem_append_right _ (List.mem_append_right _ (List.mem_append_left _ h))), gd_dm_X2_evaluate w h⟩)
def dj_X2_worth_24 (p : Program) (l : Launch) (e : Env) (s : State) (m : MethodId) (args : Array Value) (below : List Frame) (meth : Method) (c : Code) (Q : State → Prop) (A : Nat → Prop) (dC : Nat → ClassId) (dI : Nat → Nat → Nat) (a : Nat → Nat) (ac : Nat → ClassId) (g : Int64 → (St × (St) × (St × (St))) → Option (Int64 × (St × (St) × (St × (St))))) (r : Int64 × (St × (St) × (St × (St)))) : Prop := ∀ (y0 : Int64) (s0 : St × (St) × (St × (St))) (H : Heap) (locs : List Loc) (ls : Array Slot), g y0 s0 = some r → va_P (dC, dI) vwCl (dw_X2m a ac s0) H → va_D A (dw_X2m a ac s0) → va_S A s.heap H locs → lv_has ls 5 [] → W p l e (headSpec ow_dm_X2_worth ({ frames := 4, cells := 0, slots := 0, locals := 102 })).room s m args below meth c H locs 0 0 Q (F0 m 24 ls [.long y0])
def dj_X2_worth_0 (p : Program) (l : Launch) (e : Env) (s : State) (m : MethodId) (args : Array Value) (below : List Frame) (meth : Method) (c : Code) (Q : State → Prop) (A : Nat → Prop) (dC : Nat → ClassId) (dI : Nat → Nat → Nat) (a : Nat → Nat) (ac : Nat → ClassId) (g : Int32 → (St × (St) × (St × (St))) → Option (Int64 × (St × (St) × (St × (St))))) (r : Int64 × (St × (St) × (St × (St)))) : Prop := ∀ (v1 : Int32) (s0 : St × (St) × (St × (St))) (H : Heap) (locs : List Loc) (ls : Array Slot), g v1 s0 = some r → va_P (dC, dI) vwCl (dw_X2m a ac s0) H → va_D A (dw_X2m a ac s0) → va_S A s.heap H locs → lv_has ls 5 [(0, .ref (a 0)), (1, .ref (a 9)), (2, .int v1)] → W p l e (headSpec ow_dm_X2_worth ({ frames := 4, cells := 0, slots := 0, locals := 102 })).room s m args below meth c H locs 0 0 Q (F0 m 0 ls [])
set_option maxHeartbeats 40000000 in
set_option maxRecDepth 100000 in
theorem db_X2_worth_24 {p : Program} {l : Launch} {e : Env} {s : State} {m : MethodId} {args : Array Value} {below : List Frame} {meth : Method} {c : Code} {Q : State → Prop} {A : Nat → Prop} {dC : Nat → ClassId} {dI : Nat → Nat → Nat} {a : Nat → Nat} {ac : Nat → ClassId} {n : Nat} {r : Int64 × (St × (St) × (St × (St)))} (C : nd_C p l s m args c A (dC, dI) cX2_worth 5 RX2 ow_dm_X2_worth (dk_X2m ac)) (K : nd_Kl p l e (headSpec ow_dm_X2_worth ({ frames := 4, cells := 0, slots := 0, locals := 102 })).room s m args below meth c Q A (dC, dI) cX2_worth (St × (St) × (St × (St))) (dw_X2m a ac) r) : dj_X2_worth_24 p l e s m args below meth c Q A dC dI a ac (df_X2_worth_24 n) r := by
  obtain ⟨hlt, hx, hb, hml, hown, hts, hN, hA, hK⟩ := id C
  intro y0 s0 H locs ls h hP hD hS hl
  unfold df_X2_worth_24 at h
  exact K _ _ _ _ _ _ dX2_worth_24 (Option.some.inj h).symm hP hD hS
set_option maxHeartbeats 40000000 in
set_option maxRecDepth 100000 in
theorem db_X2_worth_0 {p : Program} {l : Launch} {e : Env} {s : State} {m : MethodId} {args : Array Value} {below : List Frame} {meth : Method} {c : Code} {Q : State → Prop} {A : Nat → Prop} {dC : Nat → ClassId} {dI : Nat → Nat → Nat} {a : Nat → Nat} {ac : Nat → ClassId} {n : Nat} {r : Int64 × (St × (St) × (St × (St)))} (C : nd_C p l s m args c A (dC, dI) cX2_worth 5 RX2 ow_dm_X2_worth (dk_X2m ac)) (K : nd_Kl p l e (headSpec ow_dm_X2_worth ({ frames := 4, cells := 0, slots := 0, locals := 102 })).room s m args below meth c Q A (dC, dI) cX2_worth (St × (St) × (St × (St))) (dw_X2m a ac) r) : dj_X2_worth_0 p l e s m args below meth c Q A dC dI a ac (df_X2_worth_0 n) r := by
  obtain ⟨hlt, hx, hb, hml, hown, hts, hN, hA, hK⟩ := id C
  intro v1 s0 H locs ls h hP hD hS hl
  unfold df_X2_worth_0 at h
  refine lv_aload_n hx hb dX2_worth_0 rfl (lv_at hl 0 rfl) ?_
  refine lv_aload_n hx hb dX2_worth_1 rfl (lv_at hl 1 rfl) ?_
  refine lv_iload_n hx hb dX2_worth_2 rfl (lv_at hl 2 rfl) ?_
  refine lv_iconst (v := 0) hx hb dX2_worth_3 (by decide) ?_
  refine lv_aload_n hx hb dX2_worth_4 rfl (lv_at hl 0 rfl) ?_
  refine va_get (D := (dC, dI)) (ci := 3) (v := .int (sI s0.2.1 0)) (C := RX2) (T := TX2) (N := 20) hx hb hts hi_dm_X2_worth_X2 hown hK hP 0 rfl rfl 2 (by decide) (hts (.fieldLink RX2 52 "TimeMachine$Condition" "codes" "I") (List.mem_of_getElem? (i := 1) rfl)) (fun _ h9 => h9) rfl dX2_worth_5 ?_
  obtain ⟨q1, s2, hq, h⟩ := nd_b2_e h
  have hPc := hP
  have hDc := hD
  have hKc := hK
  have hFc := nd_rs hD hS hA
  refine nd_cVl (As := [.ref (a 9), .int v1, .int 0, .int (sI s0.2.1 0)]) (rest := []) (q := q1) (w' := dw_X2m a ac s2) ⟨hx, hb, hml, hown, hts⟩ (fun sz => dm_X2_evaluate l hlt dC dI a ac n (v1) (0) ((sI s0.2.1 0)) s0 hq sz) (cwV 4 hts gi_dm_X2_worth_0 rfl rfl rfl (by decide +kernel) ⟨Nat.le_of_ble_eq_true rfl, Nat.le_of_ble_eq_true rfl⟩) hPc hDc hKc hS hA hN (va_recv hKc hPc (ci := 3) (q0 := 0) rfl rfl) rfl hl.1 rfl (Nat.le_of_ble_eq_true rfl) dX2_worth_8 (fun H locs hP1 hD1 hk1 hS => ?_)
  have hP := hP1
  have hD := hD1.weaken (fun k q _ h => hFc q.1 h)
  refine lv_lstore_n (lv' := [(3, .long q1), (0, .ref (a 0)), (1, .ref (a 9)), (2, .int v1)]) hx hb dX2_worth_11 rfl hl (by decide) rfl (fun ls hl => ?_)
  refine lv_aload_n hx hb dX2_worth_12 rfl (lv_at hl 1 rfl) ?_
  refine va_get (D := (dC, dI)) (ci := 3) (v := .int (sI s2.2.1 3)) (C := RX2) (T := TX2) (N := 20) hx hb hts hi_dm_X2_worth_X2 hown hK hP 0 rfl rfl 11 (by decide) (hts (.fieldLink RX2 199 "TimeMachine$Condition" "failed" "Z") (List.mem_of_getElem? (i := 6) rfl)) (fun _ h9 => h9) rfl dX2_worth_13 ?_
  refine lv_if_eq (tgt := 23) hx hb dX2_worth_16 (by decide) (fun c4 => ?_) (fun c4 => ?_)
  · have h := nd_pos h c4
    refine lv_lload_n hx hb dX2_worth_23 rfl (lv_at hl 0 rfl) ?_
    exact (db_X2_worth_24 C K) (q1) s2 _ _ _ h hP hD hS (lv_sub hl [] rfl)
  · have h := nd_neg h c4
    refine lv_lconst (v := 0) hx hb dX2_worth_19 (by decide) ?_
    refine lv_goto (tgt := 24) hx hb dX2_worth_20 (by decide) ?_
    exact (db_X2_worth_24 C K) (0) s2 _ _ _ h hP hD hS (lv_sub hl [] rfl)
set_option maxHeartbeats 40000000 in
set_option maxRecDepth 100000 in
theorem dm_X2_worth (l : Launch) (hlt : l.stackTraces = false) (dC : Nat → ClassId) (dI : Nat → Nat → Nat) (a : Nat → Nat) (ac : Nat → ClassId) (n : Nat) (v1 : Int32) (s0 : St × (St) × (St × (St))) {r : Int64 × (St × (St) × (St × (St)))} (h : df_X2_worth n v1 s0 = some r) (sz : Nat) : Met l yX2_worth ow_dm_X2_worth ({ frames := 4, cells := 0, slots := 0, locals := 102 }) (va_Pc [.ref (a 0), .ref (a 9), .int v1] (fun U => U.heap.size = sz ∧ va_P (dC, dI) vwCl (dw_X2m a ac s0) U.heap ∧ va_K (dC, dI) vwCl (dk_X2m ac) U ∧ va_D (fun _ => True) (dw_X2m a ac s0) ∧ nv_E dI (va_A (dw_X2m a ac s0) sz) U)) (va_Ql (fun x _ => x = r.1) (fun (_ : Unit) t => va_P (dC, dI) vwCl (dw_X2m a ac r.2) t.heap ∧ va_K (dC, dI) vwCl (dk_X2m ac) t ∧ va_D (va_A (dw_X2m a ac s0) sz) (dw_X2m a ac r.2)) (va_A (dw_X2m a ac s0) sz)) 0 0 (va_A (dw_X2m a ac s0) sz) := by
  refine Met.ofW (cc := cX2_worth) (maxL := 5) (ret := (some .long)) (by decide) rfl ?_
  intro p e s m args below meth c s₁ B hml hv
  obtain ⟨rfl, hsz, hP, hK, hD0, hN⟩ := hv
  have hx := B.exec
  have hb := B.bytes
  have hr := B.returns
  have hts := atoms_spec (ws := ow_dm_X2_worth) B.pre
  have hown : s.vm.findClass RX2 = some m.cls := findClass_of_methodNamed B.named
  have hlocks := B.notSynchronized
  subst hsz
  have hD := hD0.self (sz := s.heap.size)
  generalize hAe : va_A (dw_X2m a ac s0) s.heap.size = A at hD hN ⊢
  have hA : ∀ q : Nat, s.heap.size ≤ q → A q := fun q h => by rw [← hAe]; exact Or.inr h
  have hl := lv_entry ([.ref (a 0), .ref (a 9), .int v1]) (n := 5) (Nat.le_of_ble_eq_true rfl)
  rw [lg_entry_eq]
  generalize (lg_sl ([.ref (a 0), .ref (a 9), .int v1]) ++ List.replicate (5 - (lg_sl ([.ref (a 0), .ref (a 9), .int v1])).length) Slot.unset).toArray = ls at hl ⊢
  have hl : lv_has ls 5 [(0, .ref (a 0)), (1, .ref (a 9)), (2, .int v1)] := hl
  exact db_X2_worth_0 (dC := dC) (dI := dI) (a := a) (ac := ac) (n := n) (r := r) ⟨hlt, hx, hb, hml, hown, hts, hN, hA, hK⟩ (fun pc v τ H locs ls d er hP hD hS => by subst er; exact W.lret (v := v) hx hb hr (fun t ht hW => ⟨⟨v, (), rfl, rfl, by rw [ht]; exact hP, va_K.moved hW.alike hK, hD⟩, hS.F ht⟩) hS.2.2 d) v1 s0 _ _ _ h hP hD va_S.rf (lv_sub hl [0, 1, 2] rfl)
def ow_dm_X2_remember : List Cond := Cond.code yX2_remember cX2_remember 6 none :: ([Cond.fieldLink RX2 58 "TimeMachine$Condition" "olds" "I", Cond.fieldLink RX2 26 "TimeMachine$Condition" "oldFrom" "[I", Cond.fieldLink RX2 29 "TimeMachine$Condition" "oldTo" "[I", Cond.methodLink RX2 195 yX2_evaluate, Cond.instanceMethod yX2_evaluate, Cond.selects RX2 yX2_evaluate yX2_evaluate, Cond.initialized RX2, Cond.fieldLink RX2 32 "TimeMachine$Condition" "oldValue" "[J", Cond.fieldLink RX2 199 "TimeMachine$Condition" "failed" "Z"] ++ (u_ws RX2 TX2 20 ++ (ow_dm_X2_evaluate ++ [])))
theorem gd_dm_X2_remember : ∀ w ∈ ow_dm_X2_remember, (w.onTables && w.keeps) = true ∨ ∃ ty, w = Cond.arrayClass ty := List.forall_mem_cons.mpr ⟨good_of_word rfl, List.forall_mem_append.mpr ⟨fun w h => good_of_word (List.all_eq_true.mp (by decide +kernel) w h), List.forall_mem_append.mpr ⟨gu_X2, List.forall_mem_append.mpr ⟨gd_dm_X2_evaluate, fun _ h => nomatch h⟩⟩⟩⟩
theorem hi_dm_X2_remember_X2 : ∀ w ∈ u_ws RX2 TX2 20, w ∈ ow_dm_X2_remember := fun w h => List.mem_cons_of_mem _ (List.mem_append_right _ (List.mem_append_left _ h))
theorem gi_dm_X2_remember_0 : GoodIn ow_dm_X2_remember (wsV RX2 195 RX2 yX2_evaluate ow_dm_X2_evaluate) := goodIn_app (goodIn_of _ (by decide +kernel)) (fun w h => ⟨List.mem_cons_of_mem _ (List.mem_append_right _ (List.mem_append_right _ (List.mem_append_left _ h))), gd_dm_X2_evaluate w h⟩)
def dj_X2_remember_48 (p : Program) (l : Launch) (e : Env) (s : State) (m : MethodId) (args : Array Value) (below : List Frame) (meth : Method) (c : Code) (Q : State → Prop) (A : Nat → Prop) (dC : Nat → ClassId) (dI : Nat → Nat → Nat) (a : Nat → Nat) (ac : Nat → ClassId) (g : Int32 → Int32 → Int32 → Int64 → (St × (St) × (St × (St))) → Option (St × (St) × (St × (St)))) (r : St × (St) × (St × (St))) : Prop := ∀ (x2 : Int32) (x3 : Int32) (y1 : Int32) (y2 : Int64) (s0 : St × (St) × (St × (St))) (H : Heap) (locs : List Loc) (ls : Array Slot), g x2 x3 y1 y2 s0 = some r → va_P (dC, dI) vwCl (dw_X2m a ac s0) H → va_D A (dw_X2m a ac s0) → va_S A s.heap H locs → lv_has ls 6 [(0, .ref (a 0)), (1, .ref (a 9)), (2, .int x2), (3, .int x3)] → W p l e (headSpec ow_dm_X2_remember ({ frames := 4, cells := 0, slots := 0, locals := 102 })).room s m args below meth c H locs 0 0 Q (F0 m 48 ls [.long y2, .int y1, .ref (a 8)])
def dj_X2_remember_2 (p : Program) (l : Launch) (e : Env) (s : State) (m : MethodId) (args : Array Value) (below : List Frame) (meth : Method) (c : Code) (Q : State → Prop) (A : Nat → Prop) (dC : Nat → ClassId) (dI : Nat → Nat → Nat) (a : Nat → Nat) (ac : Nat → ClassId) (g : Int32 → Int32 → (St × (St) × (St × (St))) → Option (St × (St) × (St × (St)))) (r : St × (St) × (St × (St))) : Prop := ∀ (x2 : Int32) (x3 : Int32) (s0 : St × (St) × (St × (St))) (H : Heap) (locs : List Loc) (ls : Array Slot), g x2 x3 s0 = some r → va_P (dC, dI) vwCl (dw_X2m a ac s0) H → va_D A (dw_X2m a ac s0) → va_S A s.heap H locs → lv_has ls 6 [(0, .ref (a 0)), (1, .ref (a 9)), (2, .int x2), (3, .int x3)] → W p l e (headSpec ow_dm_X2_remember ({ frames := 4, cells := 0, slots := 0, locals := 102 })).room s m args below meth c H locs 0 0 Q (F0 m 2 ls [])
def dj_X2_remember_0 (p : Program) (l : Launch) (e : Env) (s : State) (m : MethodId) (args : Array Value) (below : List Frame) (meth : Method) (c : Code) (Q : State → Prop) (A : Nat → Prop) (dC : Nat → ClassId) (dI : Nat → Nat → Nat) (a : Nat → Nat) (ac : Nat → ClassId) (g : Int32 → (St × (St) × (St × (St))) → Option (St × (St) × (St × (St)))) (r : St × (St) × (St × (St))) : Prop := ∀ (v1 : Int32) (s0 : St × (St) × (St × (St))) (H : Heap) (locs : List Loc) (ls : Array Slot), g v1 s0 = some r → va_P (dC, dI) vwCl (dw_X2m a ac s0) H → va_D A (dw_X2m a ac s0) → va_S A s.heap H locs → lv_has ls 6 [(0, .ref (a 0)), (1, .ref (a 9)), (2, .int v1)] → W p l e (headSpec ow_dm_X2_remember ({ frames := 4, cells := 0, slots := 0, locals := 102 })).room s m args below meth c H locs 0 0 Q (F0 m 0 ls [])
set_option maxHeartbeats 40000000 in
set_option maxRecDepth 100000 in
theorem db_X2_remember_48 {p : Program} {l : Launch} {e : Env} {s : State} {m : MethodId} {args : Array Value} {below : List Frame} {meth : Method} {c : Code} {Q : State → Prop} {A : Nat → Prop} {dC : Nat → ClassId} {dI : Nat → Nat → Nat} {a : Nat → Nat} {ac : Nat → ClassId} {n : Nat} {r : St × (St) × (St × (St))} (C : nd_C p l s m args c A (dC, dI) cX2_remember 6 RX2 ow_dm_X2_remember (dk_X2m ac)) (K : nd_Kv p l e (headSpec ow_dm_X2_remember ({ frames := 4, cells := 0, slots := 0, locals := 102 })).room s m args below meth c Q A (dC, dI) cX2_remember (St × (St) × (St × (St))) (dw_X2m a ac) r) {g2 : Int32 → Int32 → (St × (St) × (St × (St))) → Option (St × (St) × (St × (St)))} (J2 : dj_X2_remember_2 p l e s m args below meth c Q A dC dI a ac g2 r) : dj_X2_remember_48 p l e s m args below meth c Q A dC dI a ac (df_X2_remember_48 n g2) r := by
  obtain ⟨hlt, hx, hb, hml, hown, hts, hN, hA, hK⟩ := id C
  intro x2 x3 y1 y2 s0 H locs ls h hP hD hS hl
  unfold df_X2_remember_48 at h
  obtain ⟨i8, h⟩ := nd_ck_e h
  refine va_last (i := y1) (x := y2) hx hb hK hP hD hS 8 7 rfl rfl i8 dX2_remember_48 (fun H locs hP hD hS => ?_)
  obtain ⟨s9, es9, h⟩ := nd_let_e h
  have hP : va_P (dC, dI) vwCl (dw_X2m a ac s9) H := by rw [es9]; exact hP
  have hD : va_D A (dw_X2m a ac s9) := by rw [es9]; exact hD
  obtain ⟨z10, ez10, h⟩ := nd_let_e h
  refine lv_iinc (v := z10) (lv' := [(3, .int z10), (0, .ref (a 0)), (1, .ref (a 9)), (2, .int x2)]) hx hb dX2_remember_49 hl (k := 3) rfl (by rw [ez10]) (by decide) rfl (fun ls hl => ?_)
  refine lv_goto (tgt := 2) hx hb dX2_remember_52 (by decide) ?_
  exact (J2) (x2) (z10) s9 _ _ _ h hP hD hS (lv_sub hl [1, 2, 3, 0] rfl)
set_option maxHeartbeats 40000000 in
set_option maxRecDepth 100000 in
theorem dB_X2_remember_2 {p : Program} {l : Launch} {e : Env} {s : State} {m : MethodId} {args : Array Value} {below : List Frame} {meth : Method} {c : Code} {Q : State → Prop} {A : Nat → Prop} {dC : Nat → ClassId} {dI : Nat → Nat → Nat} {a : Nat → Nat} {ac : Nat → ClassId} {n : Nat} {r : St × (St) × (St × (St))} (C : nd_C p l s m args c A (dC, dI) cX2_remember 6 RX2 ow_dm_X2_remember (dk_X2m ac)) (K : nd_Kv p l e (headSpec ow_dm_X2_remember ({ frames := 4, cells := 0, slots := 0, locals := 102 })).room s m args below meth c Q A (dC, dI) cX2_remember (St × (St) × (St × (St))) (dw_X2m a ac) r) {g2 : Int32 → Int32 → (St × (St) × (St × (St))) → Option (St × (St) × (St × (St)))} (J2 : dj_X2_remember_2 p l e s m args below meth c Q A dC dI a ac g2 r) : dj_X2_remember_2 p l e s m args below meth c Q A dC dI a ac (dF_X2_remember_2 n g2) r := by
  obtain ⟨hlt, hx, hb, hml, hown, hts, hN, hA, hK⟩ := id C
  intro x2 x3 s0 H locs ls h hP hD hS hl
  unfold dF_X2_remember_2 at h
  refine lv_iload_n hx hb dX2_remember_2 rfl (lv_at hl 3 rfl) ?_
  refine lv_aload_n hx hb dX2_remember_3 rfl (lv_at hl 0 rfl) ?_
  refine va_get (D := (dC, dI)) (ci := 3) (v := .int (sI s0.2.1 2)) (C := RX2) (T := TX2) (N := 20) hx hb hts hi_dm_X2_remember_X2 hown hK hP 0 rfl rfl 10 (by decide) (hts (.fieldLink RX2 58 "TimeMachine$Condition" "olds" "I") (List.mem_of_getElem? (i := 1) rfl)) (fun _ h9 => h9) rfl dX2_remember_4 ?_
  refine lv_icmp_ge (tgt := 55) hx hb dX2_remember_7 (by decide) (fun c1 => ?_) (fun c1 => ?_)
  · have h := nd_pos h c1
    exact K _ _ _ _ _ dX2_remember_55 (Option.some.inj h).symm hP hD hS
  · have h := nd_neg h c1
    refine lv_aload_n hx hb dX2_remember_10 rfl (lv_at hl 0 rfl) ?_
    refine lv_aload_n hx hb dX2_remember_11 rfl (lv_at hl 1 rfl) ?_
    refine lv_iload_n hx hb dX2_remember_12 rfl (lv_at hl 2 rfl) ?_
    refine lv_aload_n hx hb dX2_remember_13 rfl (lv_at hl 0 rfl) ?_
    refine va_get (D := (dC, dI)) (ci := 3) (v := .ref (a 6)) (C := RX2) (T := TX2) (N := 20) hx hb hts hi_dm_X2_remember_X2 hown hK hP 0 rfl rfl 7 (by decide) (hts (.fieldLink RX2 26 "TimeMachine$Condition" "oldFrom" "[I") (List.mem_of_getElem? (i := 2) rfl)) (fun _ h9 => h9) rfl dX2_remember_14 ?_
    refine lv_iload_n hx hb dX2_remember_17 rfl (lv_at hl 3 rfl) ?_
    obtain ⟨i2, h⟩ := nd_ck_e h
    refine va_iald (i := x3) hx hb hK hP 6 5 rfl rfl i2 dX2_remember_18 ?_
    refine lv_aload_n hx hb dX2_remember_19 rfl (lv_at hl 0 rfl) ?_
    refine va_get (D := (dC, dI)) (ci := 3) (v := .ref (a 7)) (C := RX2) (T := TX2) (N := 20) hx hb hts hi_dm_X2_remember_X2 hown hK hP 0 rfl rfl 8 (by decide) (hts (.fieldLink RX2 29 "TimeMachine$Condition" "oldTo" "[I") (List.mem_of_getElem? (i := 3) rfl)) (fun _ h9 => h9) rfl dX2_remember_20 ?_
    refine lv_iload_n hx hb dX2_remember_23 rfl (lv_at hl 3 rfl) ?_
    obtain ⟨i3, h⟩ := nd_ck_e h
    refine va_iald (i := x3) hx hb hK hP 7 6 rfl rfl i3 dX2_remember_24 ?_
    obtain ⟨q4, s5, hq, h⟩ := nd_b2_e h
    have hPc := hP
    have hDc := hD
    have hKc := hK
    have hFc := nd_rs hD hS hA
    refine nd_cVl (As := [.ref (a 9), .int x2, .int (sR s0.2.1 3 (Int32.toNatClampNeg x3)), .int (sR s0.2.1 4 (Int32.toNatClampNeg x3))]) (rest := []) (q := q4) (w' := dw_X2m a ac s5) ⟨hx, hb, hml, hown, hts⟩ (fun sz => dm_X2_evaluate l hlt dC dI a ac n (x2) ((sR s0.2.1 3 (Int32.toNatClampNeg x3))) ((sR s0.2.1 4 (Int32.toNatClampNeg x3))) s0 hq sz) (cwV 4 hts gi_dm_X2_remember_0 rfl rfl rfl (by decide +kernel) ⟨Nat.le_of_ble_eq_true rfl, Nat.le_of_ble_eq_true rfl⟩) hPc hDc hKc hS hA hN (va_recv hKc hPc (ci := 3) (q0 := 0) rfl rfl) rfl hl.1 rfl (Nat.le_of_ble_eq_true rfl) dX2_remember_25 (fun H locs hP1 hD1 hk1 hS => ?_)
    have hP := hP1
    have hD := hD1.weaken (fun k q _ h => hFc q.1 h)
    refine lv_lstore (lv' := [(4, .long q4), (0, .ref (a 0)), (1, .ref (a 9)), (2, .int x2), (3, .int x3)]) hx hb dX2_remember_28 hl (by decide) rfl (fun ls hl => ?_)
    refine lv_aload_n hx hb dX2_remember_30 rfl (lv_at hl 1 rfl) ?_
    refine va_get (D := (dC, dI)) (ci := 3) (v := .ref (a 8)) (C := RX2) (T := TX2) (N := 20) hx hb hts hi_dm_X2_remember_X2 hown hK hP 0 rfl rfl 9 (by decide) (hts (.fieldLink RX2 32 "TimeMachine$Condition" "oldValue" "[J") (List.mem_of_getElem? (i := 8) rfl)) (fun _ h9 => h9) rfl dX2_remember_31 ?_
    refine lv_iload_n hx hb dX2_remember_34 rfl (lv_at hl 4 rfl) ?_
    refine lv_aload_n hx hb dX2_remember_35 rfl (lv_at hl 1 rfl) ?_
    refine va_get (D := (dC, dI)) (ci := 3) (v := .int (sI s5.2.1 3)) (C := RX2) (T := TX2) (N := 20) hx hb hts hi_dm_X2_remember_X2 hown hK hP 0 rfl rfl 11 (by decide) (hts (.fieldLink RX2 199 "TimeMachine$Condition" "failed" "Z") (List.mem_of_getElem? (i := 9) rfl)) (fun _ h9 => h9) rfl dX2_remember_36 ?_
    refine lv_if_eq (tgt := 46) hx hb dX2_remember_39 (by decide) (fun c7 => ?_) (fun c7 => ?_)
    · have h := nd_pos h c7
      refine lv_lload hx hb dX2_remember_46 (lv_at hl 0 rfl) ?_
      exact (db_X2_remember_48 C K J2) (x2) (x3) (x3) (q4) s5 _ _ _ h hP hD hS (lv_sub hl [1, 2, 3, 4] rfl)
    · have h := nd_neg h c7
      refine lv_lconst (v := 0) hx hb dX2_remember_42 (by decide) ?_
      refine lv_goto (tgt := 48) hx hb dX2_remember_43 (by decide) ?_
      exact (db_X2_remember_48 C K J2) (x2) (x3) (x3) (0) s5 _ _ _ h hP hD hS (lv_sub hl [1, 2, 3, 4] rfl)
set_option maxHeartbeats 40000000 in
set_option maxRecDepth 100000 in
theorem db_X2_remember_2 {p : Program} {l : Launch} {e : Env} {s : State} {m : MethodId} {args : Array Value} {below : List Frame} {meth : Method} {c : Code} {Q : State → Prop} {A : Nat → Prop} {dC : Nat → ClassId} {dI : Nat → Nat → Nat} {a : Nat → Nat} {ac : Nat → ClassId} {n : Nat} {r : St × (St) × (St × (St))} (C : nd_C p l s m args c A (dC, dI) cX2_remember 6 RX2 ow_dm_X2_remember (dk_X2m ac)) (K : nd_Kv p l e (headSpec ow_dm_X2_remember ({ frames := 4, cells := 0, slots := 0, locals := 102 })).room s m args below meth c Q A (dC, dI) cX2_remember (St × (St) × (St × (St))) (dw_X2m a ac) r) (k : Nat) : dj_X2_remember_2 p l e s m args below meth c Q A dC dI a ac (df_X2_remember_2 n k) r := by
  induction k with
  | zero => intro x2 x3 s0 H locs ls h; exact nomatch (show (none : Option (St × (St) × (St × (St)))) = some r from h)
  | succ k ih => exact dB_X2_remember_2 C K ih
set_option maxHeartbeats 40000000 in
set_option maxRecDepth 100000 in
theorem db_X2_remember_0 {p : Program} {l : Launch} {e : Env} {s : State} {m : MethodId} {args : Array Value} {below : List Frame} {meth : Method} {c : Code} {Q : State → Prop} {A : Nat → Prop} {dC : Nat → ClassId} {dI : Nat → Nat → Nat} {a : Nat → Nat} {ac : Nat → ClassId} {n : Nat} {r : St × (St) × (St × (St))} (C : nd_C p l s m args c A (dC, dI) cX2_remember 6 RX2 ow_dm_X2_remember (dk_X2m ac)) (K : nd_Kv p l e (headSpec ow_dm_X2_remember ({ frames := 4, cells := 0, slots := 0, locals := 102 })).room s m args below meth c Q A (dC, dI) cX2_remember (St × (St) × (St × (St))) (dw_X2m a ac) r) : dj_X2_remember_0 p l e s m args below meth c Q A dC dI a ac (df_X2_remember_0 n) r := by
  obtain ⟨hlt, hx, hb, hml, hown, hts, hN, hA, hK⟩ := id C
  intro v1 s0 H locs ls h hP hD hS hl
  unfold df_X2_remember_0 at h
  refine lv_iconst (v := 0) hx hb dX2_remember_0 (by decide) ?_
  refine lv_istore_n (lv' := [(3, .int 0), (0, .ref (a 0)), (1, .ref (a 9)), (2, .int v1)]) hx hb dX2_remember_1 rfl hl (by decide) rfl (fun ls hl => ?_)
  exact (db_X2_remember_2 C K n) (v1) (0) s0 _ _ _ h hP hD hS (lv_sub hl [1, 2, 3, 0] rfl)
set_option maxHeartbeats 40000000 in
set_option maxRecDepth 100000 in
theorem dm_X2_remember (l : Launch) (hlt : l.stackTraces = false) (dC : Nat → ClassId) (dI : Nat → Nat → Nat) (a : Nat → Nat) (ac : Nat → ClassId) (n : Nat) (v1 : Int32) (s0 : St × (St) × (St × (St))) {r : St × (St) × (St × (St))} (h : df_X2_remember n v1 s0 = some r) (sz : Nat) : Met l yX2_remember ow_dm_X2_remember ({ frames := 4, cells := 0, slots := 0, locals := 102 }) (va_Pc [.ref (a 0), .ref (a 9), .int v1] (fun U => U.heap.size = sz ∧ va_P (dC, dI) vwCl (dw_X2m a ac s0) U.heap ∧ va_K (dC, dI) vwCl (dk_X2m ac) U ∧ va_D (fun _ => True) (dw_X2m a ac s0) ∧ nv_E dI (va_A (dw_X2m a ac s0) sz) U)) (va_Qv (fun _ => True) (fun (_ : Unit) t => va_P (dC, dI) vwCl (dw_X2m a ac r) t.heap ∧ va_K (dC, dI) vwCl (dk_X2m ac) t ∧ va_D (va_A (dw_X2m a ac s0) sz) (dw_X2m a ac r)) (va_A (dw_X2m a ac s0) sz)) 0 0 (va_A (dw_X2m a ac s0) sz) := by
  refine Met.ofW (cc := cX2_remember) (maxL := 6) (ret := none) (by decide) rfl ?_
  intro p e s m args below meth c s₁ B hml hv
  obtain ⟨rfl, hsz, hP, hK, hD0, hN⟩ := hv
  have hx := B.exec
  have hb := B.bytes
  have hr := B.returns
  have hts := atoms_spec (ws := ow_dm_X2_remember) B.pre
  have hown : s.vm.findClass RX2 = some m.cls := findClass_of_methodNamed B.named
  have hlocks := B.notSynchronized
  subst hsz
  have hD := hD0.self (sz := s.heap.size)
  generalize hAe : va_A (dw_X2m a ac s0) s.heap.size = A at hD hN ⊢
  have hA : ∀ q : Nat, s.heap.size ≤ q → A q := fun q h => by rw [← hAe]; exact Or.inr h
  have hl := lv_entry ([.ref (a 0), .ref (a 9), .int v1]) (n := 6) (Nat.le_of_ble_eq_true rfl)
  rw [lg_entry_eq]
  generalize (lg_sl ([.ref (a 0), .ref (a 9), .int v1]) ++ List.replicate (6 - (lg_sl ([.ref (a 0), .ref (a 9), .int v1])).length) Slot.unset).toArray = ls at hl ⊢
  have hl : lv_has ls 6 [(0, .ref (a 0)), (1, .ref (a 9)), (2, .int v1)] := hl
  exact db_X2_remember_0 (dC := dC) (dI := dI) (a := a) (ac := ac) (n := n) (r := r) ⟨hlt, hx, hb, hml, hown, hts, hN, hA, hK⟩ (fun pc τ H locs ls d er hP hD hS => by subst er; exact W.vret hx hb hr (fun t ht hW => ⟨⟨(), rfl, trivial, by rw [ht]; exact hP, va_K.moved hW.alike hK, hD⟩, hS.F ht⟩) hS.2.2 d) v1 s0 _ _ _ h hP hD va_S.rf (lv_sub hl [0, 1, 2] rfl)
def ow_dm_X5_argument : List Cond := Cond.code yX5_argument cX5_argument 3 (some .int) :: ([Cond.fieldLink RX5 33 "TimeMachine$Kernel" "reg" "[I"] ++ (u_ws RX5 TX5 8 ++ []))
theorem gd_dm_X5_argument : ∀ w ∈ ow_dm_X5_argument, (w.onTables && w.keeps) = true ∨ ∃ ty, w = Cond.arrayClass ty := List.forall_mem_cons.mpr ⟨good_of_word rfl, List.forall_mem_append.mpr ⟨fun w h => good_of_word (List.all_eq_true.mp (by decide +kernel) w h), List.forall_mem_append.mpr ⟨gu_X5, fun _ h => nomatch h⟩⟩⟩
theorem hi_dm_X5_argument_X5 : ∀ w ∈ u_ws RX5 TX5 8, w ∈ ow_dm_X5_argument := fun w h => List.mem_cons_of_mem _ (List.mem_append_right _ (List.mem_append_left _ h))
def dj_X5_argument_0 (p : Program) (l : Launch) (e : Env) (s : State) (m : MethodId) (args : Array Value) (below : List Frame) (meth : Method) (c : Code) (Q : State → Prop) (A : Nat → Prop) (dC : Nat → ClassId) (dI : Nat → Nat → Nat) (a : Nat → Nat) (ac : Nat → ClassId) (g : Int32 → Int32 → (St × (St × (St × (St)))) → Option (Int32 × (St × (St × (St × (St)))))) (r : Int32 × (St × (St × (St × (St))))) : Prop := ∀ (v0 : Int32) (v1 : Int32) (s0 : St × (St × (St × (St)))) (H : Heap) (locs : List Loc) (ls : Array Slot), g v0 v1 s0 = some r → va_P (dC, dI) vwCl (dw_X5 a ac s0) H → va_D A (dw_X5 a ac s0) → va_S A s.heap H locs → lv_has ls 3 [(0, .ref (a 0)), (1, .int v0), (2, .int v1)] → W p l e (headSpec ow_dm_X5_argument ({ frames := 0, cells := 0, slots := 0, locals := 0 })).room s m args below meth c H locs 0 0 Q (F0 m 0 ls [])
set_option maxHeartbeats 40000000 in
set_option maxRecDepth 100000 in
theorem db_X5_argument_0 {p : Program} {l : Launch} {e : Env} {s : State} {m : MethodId} {args : Array Value} {below : List Frame} {meth : Method} {c : Code} {Q : State → Prop} {A : Nat → Prop} {dC : Nat → ClassId} {dI : Nat → Nat → Nat} {a : Nat → Nat} {ac : Nat → ClassId} {n : Nat} {r : Int32 × (St × (St × (St × (St))))} (C : nd_C p l s m args c A (dC, dI) cX5_argument 3 RX5 ow_dm_X5_argument (dk_X5 ac)) (K : nd_Ki p l e (headSpec ow_dm_X5_argument ({ frames := 0, cells := 0, slots := 0, locals := 0 })).room s m args below meth c Q A (dC, dI) cX5_argument .int (St × (St × (St × (St)))) (dw_X5 a ac) r) : dj_X5_argument_0 p l e s m args below meth c Q A dC dI a ac (df_X5_argument_0 n) r := by
  obtain ⟨hlt, hx, hb, hml, hown, hts, hN, hA, hK⟩ := id C
  intro v0 v1 s0 H locs ls h hP hD hS hl
  unfold df_X5_argument_0 at h
  refine lv_aload_n hx hb dX5_argument_0 rfl (lv_at hl 0 rfl) ?_
  refine va_get (D := (dC, dI)) (ci := 6) (v := .ref (a 8)) (C := RX5) (T := TX5) (N := 8) hx hb hts hi_dm_X5_argument_X5 hown hK hP 0 rfl rfl 2 (by decide) (hts (.fieldLink RX5 33 "TimeMachine$Kernel" "reg" "[I") (List.mem_of_getElem? (i := 1) rfl)) (fun _ h9 => h9) rfl dX5_argument_1 ?_
  refine lv_iload_n hx hb dX5_argument_4 rfl (lv_at hl 1 rfl) ?_
  refine lv_bipush (v := 33) hx hb dX5_argument_5 (by decide) ?_
  refine lv_imul hx hb dX5_argument_7 ?_
  refine lv_iload_n hx hb dX5_argument_8 rfl (lv_at hl 2 rfl) ?_
  refine lv_iadd hx hb dX5_argument_9 ?_
  obtain ⟨i1, h⟩ := nd_ck_e h
  refine va_iald (i := ((v0 * 33) + v1)) hx hb hK hP 8 5 rfl rfl i1 dX5_argument_10 ?_
  exact K _ _ _ _ _ _ dX5_argument_11 rfl (Option.some.inj h).symm hP hD hS
set_option maxHeartbeats 40000000 in
set_option maxRecDepth 100000 in
theorem dm_X5_argument (l : Launch) (hlt : l.stackTraces = false) (dC : Nat → ClassId) (dI : Nat → Nat → Nat) (a : Nat → Nat) (ac : Nat → ClassId) (n : Nat) (v0 : Int32) (v1 : Int32) (s0 : St × (St × (St × (St)))) {r : Int32 × (St × (St × (St × (St))))} (h : df_X5_argument n v0 v1 s0 = some r) (sz : Nat) : Met l yX5_argument ow_dm_X5_argument ({ frames := 0, cells := 0, slots := 0, locals := 0 }) (va_Pc [.ref (a 0), .int v0, .int v1] (fun U => U.heap.size = sz ∧ va_P (dC, dI) vwCl (dw_X5 a ac s0) U.heap ∧ va_K (dC, dI) vwCl (dk_X5 ac) U ∧ va_D (fun _ => True) (dw_X5 a ac s0) ∧ nv_E dI (va_A (dw_X5 a ac s0) sz) U)) (va_Qi (fun x _ => x = r.1) (fun (_ : Unit) t => va_P (dC, dI) vwCl (dw_X5 a ac r.2) t.heap ∧ va_K (dC, dI) vwCl (dk_X5 ac) t ∧ va_D (va_A (dw_X5 a ac s0) sz) (dw_X5 a ac r.2)) (va_A (dw_X5 a ac s0) sz)) 0 0 (va_A (dw_X5 a ac s0) sz) := by
  refine Met.ofW (cc := cX5_argument) (maxL := 3) (ret := (some .int)) (by decide) rfl ?_
  intro p e s m args below meth c s₁ B hml hv
  obtain ⟨rfl, hsz, hP, hK, hD0, hN⟩ := hv
  have hx := B.exec
  have hb := B.bytes
  have hr := B.returns
  have hts := atoms_spec (ws := ow_dm_X5_argument) B.pre
  have hown : s.vm.findClass RX5 = some m.cls := findClass_of_methodNamed B.named
  have hlocks := B.notSynchronized
  subst hsz
  have hD := hD0.self (sz := s.heap.size)
  generalize hAe : va_A (dw_X5 a ac s0) s.heap.size = A at hD hN ⊢
  have hA : ∀ q : Nat, s.heap.size ≤ q → A q := fun q h => by rw [← hAe]; exact Or.inr h
  have hl := lv_entry ([.ref (a 0), .int v0, .int v1]) (n := 3) (Nat.le_of_ble_eq_true rfl)
  rw [lg_entry_eq]
  generalize (lg_sl ([.ref (a 0), .int v0, .int v1]) ++ List.replicate (3 - (lg_sl ([.ref (a 0), .int v0, .int v1])).length) Slot.unset).toArray = ls at hl ⊢
  have hl : lv_has ls 3 [(0, .ref (a 0)), (1, .int v0), (2, .int v1)] := hl
  exact db_X5_argument_0 (dC := dC) (dI := dI) (a := a) (ac := ac) (n := n) (r := r) ⟨hlt, hx, hb, hml, hown, hts, hN, hA, hK⟩ (fun pc v τ H locs ls d z er hP hD hS => by subst er; exact W.zret (v := v) hx hb hr z (fun t ht hW => ⟨⟨v, (), rfl, rfl, by rw [ht]; exact hP, va_K.moved hW.alike hK, hD⟩, hS.F ht⟩) hS.2.2 d) v0 v1 s0 _ _ _ h hP hD va_S.rf (lv_sub hl [0, 1, 2] rfl)
def ow_dm_X5_mustWait : List Cond := Cond.code yX5_mustWait cX5_mustWait 4 (some .boolean) :: ([Cond.methodLink RX5 115 yX5_argument, Cond.instanceMethod yX5_argument, Cond.selects RX5 yX5_argument yX5_argument, Cond.initialized RX5, Cond.fieldLink RX5 18 "TimeMachine$Kernel" "machine" "LTimeMachine$Machine;", Cond.methodLink RX5 119 yX6_leastChild, Cond.instanceMethod yX6_leastChild, Cond.selects RX6 yX6_leastChild yX6_leastChild, Cond.initialized RX6, Cond.fieldLink RX5 28 "TimeMachine$Kernel" "things" "LTimeMachine$Things;", Cond.methodLink RX5 123 yX10_openingOf, Cond.instanceMethod yX10_openingOf, Cond.selects RX10 yX10_openingOf yX10_openingOf, Cond.initialized RX10, Cond.methodLink RX5 126 yX10_readWaits, Cond.instanceMethod yX10_readWaits, Cond.selects RX10 yX10_readWaits yX10_readWaits, Cond.methodLink RX5 130 yX10_writeWaits, Cond.instanceMethod yX10_writeWaits, Cond.selects RX10 yX10_writeWaits yX10_writeWaits, Cond.fieldLink RX5 133 "TimeMachine$Machine" "clock" "J", Cond.fieldLink RX5 137 "TimeMachine$Machine" "sleep" "[J", Cond.fieldLink RX5 141 "TimeMachine$Machine" "randoms" "I"] ++ (u_ws RX5 TX5 8 ++ (u_ws RX6 TX6 20 ++ (ow_dm_X5_argument ++ (ow_dm_X6_leastChild ++ (ow_dm_X10_openingOf ++ (ow_dm_X10_readWaits ++ (ow_dm_X10_writeWaits ++ []))))))))
theorem gd_dm_X5_mustWait : ∀ w ∈ ow_dm_X5_mustWait, (w.onTables && w.keeps) = true ∨ ∃ ty, w = Cond.arrayClass ty := List.forall_mem_cons.mpr ⟨good_of_word rfl, List.forall_mem_append.mpr ⟨fun w h => good_of_word (List.all_eq_true.mp (by decide +kernel) w h), List.forall_mem_append.mpr ⟨gu_X5, List.forall_mem_append.mpr ⟨gu_X6, List.forall_mem_append.mpr ⟨gd_dm_X5_argument, List.forall_mem_append.mpr ⟨gd_dm_X6_leastChild, List.forall_mem_append.mpr ⟨gd_dm_X10_openingOf, List.forall_mem_append.mpr ⟨gd_dm_X10_readWaits, List.forall_mem_append.mpr ⟨gd_dm_X10_writeWaits, fun _ h => nomatch h⟩⟩⟩⟩⟩⟩⟩⟩⟩
theorem hi_dm_X5_mustWait_X5 : ∀ w ∈ u_ws RX5 TX5 8, w ∈ ow_dm_X5_mustWait := fun w h => List.mem_cons_of_mem _ (List.mem_append_right _ (List.mem_append_left _ h))
theorem hi_dm_X5_mustWait_X6 : ∀ w ∈ u_ws RX6 TX6 20, w ∈ ow_dm_X5_mustWait := fun w h => List.mem_cons_of_mem _ (List.mem_append_right _ (List.mem_append_right _ (List.mem_append_left _ h)))
theorem gi_dm_X5_mustWait_0 : GoodIn ow_dm_X5_mustWait (wsV RX5 115 RX5 yX5_argument ow_dm_X5_argument) := goodIn_app (goodIn_of _ (by decide +kernel)) (fun w h => ⟨List.mem_cons_of_mem _ (List.mem_append_right _ (List.mem_append_right _ (List.mem_append_right _ (List.mem_append_left _ h)))), gd_dm_X5_argument w h⟩)
theorem gi_dm_X5_mustWait_1 : GoodIn ow_dm_X5_mustWait (wsV RX5 119 RX6 yX6_leastChild ow_dm_X6_leastChild) := goodIn_app (goodIn_of _ (by decide +kernel)) (fun w h => ⟨List.mem_cons_of_mem _ (List.mem_append_right _ (List.mem_append_right _ (List.mem_append_right _ (List.mem_append_right _ (List.mem_append_left _ h))))), gd_dm_X6_leastChild w h⟩)
theorem gi_dm_X5_mustWait_2 : GoodIn ow_dm_X5_mustWait (wsV RX5 123 RX10 yX10_openingOf ow_dm_X10_openingOf) := goodIn_app (goodIn_of _ (by decide +kernel)) (fun w h => ⟨List.mem_cons_of_mem _ (List.mem_append_right _ (List.mem_append_right _ (List.mem_append_right _ (List.mem_append_right _ (List.mem_append_right _ (List.mem_append_left _ h)))))), gd_dm_X10_openingOf w h⟩)
theorem gi_dm_X5_mustWait_3 : GoodIn ow_dm_X5_mustWait (wsV RX5 126 RX10 yX10_readWaits ow_dm_X10_readWaits) := goodIn_app (goodIn_of _ (by decide +kernel)) (fun w h => ⟨List.mem_cons_of_mem _ (List.mem_append_right _ (List.mem_append_right _ (List.mem_append_right _ (List.mem_append_right _ (List.mem_append_right _ (List.mem_append_right _ (List.mem_append_left _ h))))))), gd_dm_X10_readWaits w h⟩)
theorem gi_dm_X5_mustWait_4 : GoodIn ow_dm_X5_mustWait (wsV RX5 130 RX10 yX10_writeWaits ow_dm_X10_writeWaits) := goodIn_app (goodIn_of _ (by decide +kernel)) (fun w h => ⟨List.mem_cons_of_mem _ (List.mem_append_right _ (List.mem_append_right _ (List.mem_append_right _ (List.mem_append_right _ (List.mem_append_right _ (List.mem_append_right _ (List.mem_append_right _ (List.mem_append_left _ h)))))))), gd_dm_X10_writeWaits w h⟩)
def dj_X5_mustWait_101 (p : Program) (l : Launch) (e : Env) (s : State) (m : MethodId) (args : Array Value) (below : List Frame) (meth : Method) (c : Code) (Q : State → Prop) (A : Nat → Prop) (dC : Nat → ClassId) (dI : Nat → Nat → Nat) (a : Nat → Nat) (ac : Nat → ClassId) (g : Int32 → (St × (St × (St × (St)))) → Option (Int32 × (St × (St × (St × (St)))))) (r : Int32 × (St × (St × (St × (St))))) : Prop := ∀ (y0 : Int32) (s0 : St × (St × (St × (St)))) (H : Heap) (locs : List Loc) (ls : Array Slot), g y0 s0 = some r → va_P (dC, dI) vwCl (dw_X5 a ac s0) H → va_D A (dw_X5 a ac s0) → va_S A s.heap H locs → lv_has ls 4 [] → W p l e (headSpec ow_dm_X5_mustWait ({ frames := 1, cells := 0, slots := 0, locals := 24 })).room s m args below meth c H locs 0 0 Q (F0 m 101 ls [.int y0])
def dj_X5_mustWait_100 (p : Program) (l : Launch) (e : Env) (s : State) (m : MethodId) (args : Array Value) (below : List Frame) (meth : Method) (c : Code) (Q : State → Prop) (A : Nat → Prop) (dC : Nat → ClassId) (dI : Nat → Nat → Nat) (a : Nat → Nat) (ac : Nat → ClassId) (g : (St × (St × (St × (St)))) → Option (Int32 × (St × (St × (St × (St)))))) (r : Int32 × (St × (St × (St × (St))))) : Prop := ∀ (s0 : St × (St × (St × (St)))) (H : Heap) (locs : List Loc) (ls : Array Slot), g s0 = some r → va_P (dC, dI) vwCl (dw_X5 a ac s0) H → va_D A (dw_X5 a ac s0) → va_S A s.heap H locs → lv_has ls 4 [] → W p l e (headSpec ow_dm_X5_mustWait ({ frames := 1, cells := 0, slots := 0, locals := 24 })).room s m args below meth c H locs 0 0 Q (F0 m 100 ls [])
def dj_X5_mustWait_163 (p : Program) (l : Launch) (e : Env) (s : State) (m : MethodId) (args : Array Value) (below : List Frame) (meth : Method) (c : Code) (Q : State → Prop) (A : Nat → Prop) (dC : Nat → ClassId) (dI : Nat → Nat → Nat) (a : Nat → Nat) (ac : Nat → ClassId) (g : Int32 → (St × (St × (St × (St)))) → Option (Int32 × (St × (St × (St × (St)))))) (r : Int32 × (St × (St × (St × (St))))) : Prop := ∀ (y0 : Int32) (s0 : St × (St × (St × (St)))) (H : Heap) (locs : List Loc) (ls : Array Slot), g y0 s0 = some r → va_P (dC, dI) vwCl (dw_X5 a ac s0) H → va_D A (dw_X5 a ac s0) → va_S A s.heap H locs → lv_has ls 4 [] → W p l e (headSpec ow_dm_X5_mustWait ({ frames := 1, cells := 0, slots := 0, locals := 24 })).room s m args below meth c H locs 0 0 Q (F0 m 163 ls [.int y0])
def dj_X5_mustWait_179 (p : Program) (l : Launch) (e : Env) (s : State) (m : MethodId) (args : Array Value) (below : List Frame) (meth : Method) (c : Code) (Q : State → Prop) (A : Nat → Prop) (dC : Nat → ClassId) (dI : Nat → Nat → Nat) (a : Nat → Nat) (ac : Nat → ClassId) (g : Int32 → (St × (St × (St × (St)))) → Option (Int32 × (St × (St × (St × (St)))))) (r : Int32 × (St × (St × (St × (St))))) : Prop := ∀ (y0 : Int32) (s0 : St × (St × (St × (St)))) (H : Heap) (locs : List Loc) (ls : Array Slot), g y0 s0 = some r → va_P (dC, dI) vwCl (dw_X5 a ac s0) H → va_D A (dw_X5 a ac s0) → va_S A s.heap H locs → lv_has ls 4 [] → W p l e (headSpec ow_dm_X5_mustWait ({ frames := 1, cells := 0, slots := 0, locals := 24 })).room s m args below meth c H locs 0 0 Q (F0 m 179 ls [.int y0])
def dj_X5_mustWait_0 (p : Program) (l : Launch) (e : Env) (s : State) (m : MethodId) (args : Array Value) (below : List Frame) (meth : Method) (c : Code) (Q : State → Prop) (A : Nat → Prop) (dC : Nat → ClassId) (dI : Nat → Nat → Nat) (a : Nat → Nat) (ac : Nat → ClassId) (g : Int32 → (St × (St × (St × (St)))) → Option (Int32 × (St × (St × (St × (St)))))) (r : Int32 × (St × (St × (St × (St))))) : Prop := ∀ (v0 : Int32) (s0 : St × (St × (St × (St)))) (H : Heap) (locs : List Loc) (ls : Array Slot), g v0 s0 = some r → va_P (dC, dI) vwCl (dw_X5 a ac s0) H → va_D A (dw_X5 a ac s0) → va_S A s.heap H locs → lv_has ls 4 [(0, .ref (a 0)), (1, .int v0)] → W p l e (headSpec ow_dm_X5_mustWait ({ frames := 1, cells := 0, slots := 0, locals := 24 })).room s m args below meth c H locs 0 0 Q (F0 m 0 ls [])
set_option maxHeartbeats 40000000 in
set_option maxRecDepth 100000 in
theorem db_X5_mustWait_101 {p : Program} {l : Launch} {e : Env} {s : State} {m : MethodId} {args : Array Value} {below : List Frame} {meth : Method} {c : Code} {Q : State → Prop} {A : Nat → Prop} {dC : Nat → ClassId} {dI : Nat → Nat → Nat} {a : Nat → Nat} {ac : Nat → ClassId} {n : Nat} {r : Int32 × (St × (St × (St × (St))))} (C : nd_C p l s m args c A (dC, dI) cX5_mustWait 4 RX5 ow_dm_X5_mustWait (dk_X5 ac)) (K : nd_Ki p l e (headSpec ow_dm_X5_mustWait ({ frames := 1, cells := 0, slots := 0, locals := 24 })).room s m args below meth c Q A (dC, dI) cX5_mustWait .boolean (St × (St × (St × (St)))) (dw_X5 a ac) r) : dj_X5_mustWait_101 p l e s m args below meth c Q A dC dI a ac (df_X5_mustWait_101 n) r := by
  obtain ⟨hlt, hx, hb, hml, hown, hts, hN, hA, hK⟩ := id C
  intro y0 s0 H locs ls h hP hD hS hl
  unfold df_X5_mustWait_101 at h
  obtain ⟨n16, h⟩ := nd_z_e ⟨_, rfl⟩ h
  exact K _ _ _ _ _ _ dX5_mustWait_101 n16 (Option.some.inj h).symm hP hD hS
set_option maxHeartbeats 40000000 in
set_option maxRecDepth 100000 in
theorem db_X5_mustWait_100 {p : Program} {l : Launch} {e : Env} {s : State} {m : MethodId} {args : Array Value} {below : List Frame} {meth : Method} {c : Code} {Q : State → Prop} {A : Nat → Prop} {dC : Nat → ClassId} {dI : Nat → Nat → Nat} {a : Nat → Nat} {ac : Nat → ClassId} {n : Nat} {r : Int32 × (St × (St × (St × (St))))} (C : nd_C p l s m args c A (dC, dI) cX5_mustWait 4 RX5 ow_dm_X5_mustWait (dk_X5 ac)) (K : nd_Ki p l e (headSpec ow_dm_X5_mustWait ({ frames := 1, cells := 0, slots := 0, locals := 24 })).room s m args below meth c Q A (dC, dI) cX5_mustWait .boolean (St × (St × (St × (St)))) (dw_X5 a ac) r) : dj_X5_mustWait_100 p l e s m args below meth c Q A dC dI a ac (df_X5_mustWait_100 n) r := by
  obtain ⟨hlt, hx, hb, hml, hown, hts, hN, hA, hK⟩ := id C
  intro s0 H locs ls h hP hD hS hl
  unfold df_X5_mustWait_100 at h
  refine lv_iconst (v := 0) hx hb dX5_mustWait_100 (by decide) ?_
  exact (db_X5_mustWait_101 C K) (0) s0 _ _ _ h hP hD hS (lv_sub hl [] rfl)
set_option maxHeartbeats 40000000 in
set_option maxRecDepth 100000 in
theorem db_X5_mustWait_163 {p : Program} {l : Launch} {e : Env} {s : State} {m : MethodId} {args : Array Value} {below : List Frame} {meth : Method} {c : Code} {Q : State → Prop} {A : Nat → Prop} {dC : Nat → ClassId} {dI : Nat → Nat → Nat} {a : Nat → Nat} {ac : Nat → ClassId} {n : Nat} {r : Int32 × (St × (St × (St × (St))))} (C : nd_C p l s m args c A (dC, dI) cX5_mustWait 4 RX5 ow_dm_X5_mustWait (dk_X5 ac)) (K : nd_Ki p l e (headSpec ow_dm_X5_mustWait ({ frames := 1, cells := 0, slots := 0, locals := 24 })).room s m args below meth c Q A (dC, dI) cX5_mustWait .boolean (St × (St × (St × (St)))) (dw_X5 a ac) r) : dj_X5_mustWait_163 p l e s m args below meth c Q A dC dI a ac (df_X5_mustWait_163 n) r := by
  obtain ⟨hlt, hx, hb, hml, hown, hts, hN, hA, hK⟩ := id C
  intro y0 s0 H locs ls h hP hD hS hl
  unfold df_X5_mustWait_163 at h
  obtain ⟨n45, h⟩ := nd_z_e ⟨_, rfl⟩ h
  exact K _ _ _ _ _ _ dX5_mustWait_163 n45 (Option.some.inj h).symm hP hD hS
set_option maxHeartbeats 40000000 in
set_option maxRecDepth 100000 in
theorem db_X5_mustWait_179 {p : Program} {l : Launch} {e : Env} {s : State} {m : MethodId} {args : Array Value} {below : List Frame} {meth : Method} {c : Code} {Q : State → Prop} {A : Nat → Prop} {dC : Nat → ClassId} {dI : Nat → Nat → Nat} {a : Nat → Nat} {ac : Nat → ClassId} {n : Nat} {r : Int32 × (St × (St × (St × (St))))} (C : nd_C p l s m args c A (dC, dI) cX5_mustWait 4 RX5 ow_dm_X5_mustWait (dk_X5 ac)) (K : nd_Ki p l e (headSpec ow_dm_X5_mustWait ({ frames := 1, cells := 0, slots := 0, locals := 24 })).room s m args below meth c Q A (dC, dI) cX5_mustWait .boolean (St × (St × (St × (St)))) (dw_X5 a ac) r) : dj_X5_mustWait_179 p l e s m args below meth c Q A dC dI a ac (df_X5_mustWait_179 n) r := by
  obtain ⟨hlt, hx, hb, hml, hown, hts, hN, hA, hK⟩ := id C
  intro y0 s0 H locs ls h hP hD hS hl
  unfold df_X5_mustWait_179 at h
  obtain ⟨n48, h⟩ := nd_z_e ⟨_, rfl⟩ h
  exact K _ _ _ _ _ _ dX5_mustWait_179 n48 (Option.some.inj h).symm hP hD hS
set_option maxHeartbeats 40000000 in
set_option maxRecDepth 100000 in
theorem db_X5_mustWait_0 {p : Program} {l : Launch} {e : Env} {s : State} {m : MethodId} {args : Array Value} {below : List Frame} {meth : Method} {c : Code} {Q : State → Prop} {A : Nat → Prop} {dC : Nat → ClassId} {dI : Nat → Nat → Nat} {a : Nat → Nat} {ac : Nat → ClassId} {n : Nat} {r : Int32 × (St × (St × (St × (St))))} (C : nd_C p l s m args c A (dC, dI) cX5_mustWait 4 RX5 ow_dm_X5_mustWait (dk_X5 ac)) (K : nd_Ki p l e (headSpec ow_dm_X5_mustWait ({ frames := 1, cells := 0, slots := 0, locals := 24 })).room s m args below meth c Q A (dC, dI) cX5_mustWait .boolean (St × (St × (St × (St)))) (dw_X5 a ac) r) : dj_X5_mustWait_0 p l e s m args below meth c Q A dC dI a ac (df_X5_mustWait_0 n) r := by
  obtain ⟨hlt, hx, hb, hml, hown, hts, hN, hA, hK⟩ := id C
  intro v0 s0 H locs ls h hP hD hS hl
  unfold df_X5_mustWait_0 at h
  refine lv_aload_n hx hb dX5_mustWait_0 rfl (lv_at hl 0 rfl) ?_
  refine lv_iload_n hx hb dX5_mustWait_1 rfl (lv_at hl 1 rfl) ?_
  refine lv_bipush (v := 10) hx hb dX5_mustWait_2 (by decide) ?_
  obtain ⟨q1, s2, hq, h⟩ := nd_b2_e h
  have hPc := hP
  have hDc := hD
  have hKc := hK
  have hFc := nd_rs hD hS hA
  refine nd_cVi (As := [.int v0, .int 10]) (rest := []) (q := q1) (w' := dw_X5 a ac s2) ⟨hx, hb, hml, hown, hts⟩ (fun sz => dm_X5_argument l hlt dC dI a ac n (v0) (10) s0 hq sz) (cwV 2 hts gi_dm_X5_mustWait_0 rfl rfl rfl (by decide +kernel) ⟨Nat.le_of_ble_eq_true rfl, Nat.le_of_ble_eq_true rfl⟩) hPc hDc hKc hS hA hN (va_recv hKc hPc (ci := 6) (q0 := 0) rfl rfl) rfl hl.1 rfl (Nat.le_of_ble_eq_true rfl) dX5_mustWait_4 (fun H locs hP1 hD1 hk1 hS => ?_)
  have hP := hP1
  have hD := hD1.weaken (fun k q _ h => hFc q.1 h)
  refine lv_istore_n (lv' := [(2, .int q1), (0, .ref (a 0)), (1, .int v0)]) hx hb dX5_mustWait_7 rfl hl (by decide) rfl (fun ls hl => ?_)
  refine lv_aload_n hx hb dX5_mustWait_8 rfl (lv_at hl 1 rfl) ?_
  refine lv_iload_n hx hb dX5_mustWait_9 rfl (lv_at hl 2 rfl) ?_
  refine lv_bipush (v := 12) hx hb dX5_mustWait_10 (by decide) ?_
  obtain ⟨q4, s5, hq, h⟩ := nd_b2_e h
  have hPc := hP
  have hDc := hD
  have hKc := hK
  have hFc := nd_rs hD hS hA
  refine nd_cVi (As := [.int v0, .int 12]) (rest := []) (q := q4) (w' := dw_X5 a ac s5) ⟨hx, hb, hml, hown, hts⟩ (fun sz => dm_X5_argument l hlt dC dI a ac n (v0) (12) s2 hq sz) (cwV 2 hts gi_dm_X5_mustWait_0 rfl rfl rfl (by decide +kernel) ⟨Nat.le_of_ble_eq_true rfl, Nat.le_of_ble_eq_true rfl⟩) hPc hDc hKc hS hA hN (va_recv hKc hPc (ci := 6) (q0 := 0) rfl rfl) rfl hl.1 rfl (Nat.le_of_ble_eq_true rfl) dX5_mustWait_12 (fun H locs hP1 hD1 hk1 hS => ?_)
  have hP := hP1
  have hD := hD1.weaken (fun k q _ h => hFc q.1 h)
  refine lv_istore_n (lv' := [(3, .int q4), (2, .int q1), (0, .ref (a 0)), (1, .int v0)]) hx hb dX5_mustWait_15 rfl hl (by decide) rfl (fun ls hl => ?_)
  refine lv_aload_n hx hb dX5_mustWait_16 rfl (lv_at hl 2 rfl) ?_
  refine lv_iload_n hx hb dX5_mustWait_17 rfl (lv_at hl 3 rfl) ?_
  refine lv_bipush (v := 17) hx hb dX5_mustWait_18 (by decide) ?_
  obtain ⟨q7, s8, hq, h⟩ := nd_b2_e h
  have hPc := hP
  have hDc := hD
  have hKc := hK
  have hFc := nd_rs hD hS hA
  refine nd_cVi (As := [.int v0, .int 17]) (rest := []) (q := q7) (w' := dw_X5 a ac s8) ⟨hx, hb, hml, hown, hts⟩ (fun sz => dm_X5_argument l hlt dC dI a ac n (v0) (17) s5 hq sz) (cwV 2 hts gi_dm_X5_mustWait_0 rfl rfl rfl (by decide +kernel) ⟨Nat.le_of_ble_eq_true rfl, Nat.le_of_ble_eq_true rfl⟩) hPc hDc hKc hS hA hN (va_recv hKc hPc (ci := 6) (q0 := 0) rfl rfl) rfl hl.1 rfl (Nat.le_of_ble_eq_true rfl) dX5_mustWait_20 (fun H locs hP1 hD1 hk1 hS => ?_)
  have hP := hP1
  have hD := hD1.weaken (fun k q _ h => hFc q.1 h)
  by_cases c10 : q7 = 3
  · have h := nd_pos h c10
    refine lv_lookup (off := 49) (tgt := 72) hx hb dX5_mustWait_23 (by decide) (by rw [c10]; decide) (by decide) ?_
    refine lv_aload_n hx hb dX5_mustWait_72 rfl (lv_at hl 2 rfl) ?_
    refine va_get (D := (dC, dI)) (ci := 6) (v := .ref (a 4)) (C := RX5) (T := TX5) (N := 8) hx hb hts hi_dm_X5_mustWait_X5 hown hK hP 0 rfl rfl 0 (by decide) (hts (.fieldLink RX5 18 "TimeMachine$Kernel" "machine" "LTimeMachine$Machine;") (List.mem_of_getElem? (i := 5) rfl)) (fun _ h9 => h9) rfl dX5_mustWait_73 ?_
    refine lv_iload_n hx hb dX5_mustWait_76 rfl (lv_at hl 3 rfl) ?_
    refine lv_iconst (v := 1) hx hb dX5_mustWait_77 (by decide) ?_
    obtain ⟨q11, s12, hq, h⟩ := nd_b2_e h
    have hPc := dp_X5_4 hP
    have hDc := dd_X5_4 hD
    have hKc := dy_X5_4 hK
    have hFc := nd_rs hDc hS hA
    have hzA : ∀ q : Nat, H.size ≤ q → A q := fun q h => hA q (Nat.le_trans hS.1 h)
    refine nd_cVi (As := [.int v0, .int 1]) (rest := []) (q := q11) (w' := dw_X6 (fun k => a (k + 4)) (fun k => ac (k + 4)) s12) ⟨hx, hb, hml, hown, hts⟩ (fun sz => dm_X6_leastChild l hlt dC dI (fun k => a (k + 4)) (fun k => ac (k + 4)) n (v0) (1) s8.2.2 hq sz) (cwV 2 hts gi_dm_X5_mustWait_1 rfl rfl rfl (by decide +kernel) ⟨Nat.le_of_ble_eq_true rfl, Nat.le_of_ble_eq_true rfl⟩) hPc hDc hKc hS hA hN (va_recv hKc hPc (ci := 7) (q0 := 0) rfl rfl) rfl hl.1 rfl (Nat.le_of_ble_eq_true rfl) dX5_mustWait_78 (fun H locs hP1 hD1 hk1 hS => ?_)
    obtain ⟨hP, hD⟩ := dn_X5_4 hP hD hzA hk1 hP1 hD1
    obtain ⟨s14, es14, h⟩ := nd_let_e h
    have hP : va_P (dC, dI) vwCl (dw_X5 a ac s14) H := by rw [es14]; exact hP
    have hD : va_D A (dw_X5 a ac s14) := by rw [es14]; exact hD
    refine lv_if_lt (tgt := 100) hx hb dX5_mustWait_81 (by decide) (fun c15 => ?_) (fun c15 => ?_)
    · have h := nd_pos h c15
      exact (db_X5_mustWait_100 C K)  s14 _ _ _ h hP hD hS (lv_sub hl [] rfl)
    · have h := nd_neg h c15
      refine lv_aload_n hx hb dX5_mustWait_84 rfl (lv_at hl 2 rfl) ?_
      refine va_get (D := (dC, dI)) (ci := 6) (v := .ref (a 4)) (C := RX5) (T := TX5) (N := 8) hx hb hts hi_dm_X5_mustWait_X5 hown hK hP 0 rfl rfl 0 (by decide) (hts (.fieldLink RX5 18 "TimeMachine$Kernel" "machine" "LTimeMachine$Machine;") (List.mem_of_getElem? (i := 5) rfl)) (fun _ h9 => h9) rfl dX5_mustWait_85 ?_
      refine lv_iload_n hx hb dX5_mustWait_88 rfl (lv_at hl 3 rfl) ?_
      refine lv_iconst (v := 0) hx hb dX5_mustWait_89 (by decide) ?_
      obtain ⟨q17, s18, hq, h⟩ := nd_b2_e h
      have hPc := dp_X5_4 hP
      have hDc := dd_X5_4 hD
      have hKc := dy_X5_4 hK
      have hFc := nd_rs hDc hS hA
      have hzA : ∀ q : Nat, H.size ≤ q → A q := fun q h => hA q (Nat.le_trans hS.1 h)
      refine nd_cVi (As := [.int v0, .int 0]) (rest := []) (q := q17) (w' := dw_X6 (fun k => a (k + 4)) (fun k => ac (k + 4)) s18) ⟨hx, hb, hml, hown, hts⟩ (fun sz => dm_X6_leastChild l hlt dC dI (fun k => a (k + 4)) (fun k => ac (k + 4)) n (v0) (0) s14.2.2 hq sz) (cwV 2 hts gi_dm_X5_mustWait_1 rfl rfl rfl (by decide +kernel) ⟨Nat.le_of_ble_eq_true rfl, Nat.le_of_ble_eq_true rfl⟩) hPc hDc hKc hS hA hN (va_recv hKc hPc (ci := 7) (q0 := 0) rfl rfl) rfl hl.1 rfl (Nat.le_of_ble_eq_true rfl) dX5_mustWait_90 (fun H locs hP1 hD1 hk1 hS => ?_)
      obtain ⟨hP, hD⟩ := dn_X5_4 hP hD hzA hk1 hP1 hD1
      obtain ⟨s20, es20, h⟩ := nd_let_e h
      have hP : va_P (dC, dI) vwCl (dw_X5 a ac s20) H := by rw [es20]; exact hP
      have hD : va_D A (dw_X5 a ac s20) := by rw [es20]; exact hD
      refine lv_if_ge (tgt := 100) hx hb dX5_mustWait_93 (by decide) (fun c21 => ?_) (fun c21 => ?_)
      · have h := nd_pos h c21
        exact (db_X5_mustWait_100 C K)  s20 _ _ _ h hP hD hS (lv_sub hl [] rfl)
      · have h := nd_neg h c21
        refine lv_iconst (v := 1) hx hb dX5_mustWait_96 (by decide) ?_
        refine lv_goto (tgt := 101) hx hb dX5_mustWait_97 (by decide) ?_
        exact (db_X5_mustWait_101 C K) (1) s20 _ _ _ h hP hD hS (lv_sub hl [] rfl)
  have h := nd_neg h c10
  by_cases c22 : q7 = 6
  · have h := nd_pos h c22
    refine lv_lookup (off := 79) (tgt := 102) hx hb dX5_mustWait_23 (by decide) (by rw [c22]; decide) (by decide) ?_
    refine lv_aload_n hx hb dX5_mustWait_102 rfl (lv_at hl 2 rfl) ?_
    refine va_get (D := (dC, dI)) (ci := 6) (v := .ref (a 14)) (C := RX5) (T := TX5) (N := 8) hx hb hts hi_dm_X5_mustWait_X5 hown hK hP 0 rfl rfl 1 (by decide) (hts (.fieldLink RX5 28 "TimeMachine$Kernel" "things" "LTimeMachine$Things;") (List.mem_of_getElem? (i := 10) rfl)) (fun _ h9 => h9) rfl dX5_mustWait_103 ?_
    refine lv_aload_n hx hb dX5_mustWait_106 rfl (lv_at hl 2 rfl) ?_
    refine va_get (D := (dC, dI)) (ci := 6) (v := .ref (a 14)) (C := RX5) (T := TX5) (N := 8) hx hb hts hi_dm_X5_mustWait_X5 hown hK hP 0 rfl rfl 1 (by decide) (hts (.fieldLink RX5 28 "TimeMachine$Kernel" "things" "LTimeMachine$Things;") (List.mem_of_getElem? (i := 10) rfl)) (fun _ h9 => h9) rfl dX5_mustWait_107 ?_
    refine lv_iload_n hx hb dX5_mustWait_110 rfl (lv_at hl 3 rfl) ?_
    refine lv_iload_n hx hb dX5_mustWait_111 rfl (lv_at hl 1 rfl) ?_
    obtain ⟨q23, s24, hq, h⟩ := nd_b2_e h
    have hPc := dp_X5_14 hP
    have hDc := dd_X5_14 hD
    have hKc := dy_X5_14 hK
    have hFc := nd_rs hDc hS hA
    have hzA : ∀ q : Nat, H.size ≤ q → A q := fun q h => hA q (Nat.le_trans hS.1 h)
    refine nd_cVi (As := [.int v0, .int q1]) (rest := [.ref (a 14)]) (q := q23) (w' := dw_X10 (fun k => a (k + 14)) (fun k => ac (k + 14)) s24) ⟨hx, hb, hml, hown, hts⟩ (fun sz => dm_X10_openingOf l hlt dC dI (fun k => a (k + 14)) (fun k => ac (k + 14)) n (v0) (q1) s8.2.2.2 hq sz) (cwV 2 hts gi_dm_X5_mustWait_2 rfl rfl rfl (by decide +kernel) ⟨Nat.le_of_ble_eq_true rfl, Nat.le_of_ble_eq_true rfl⟩) hPc hDc hKc hS hA hN (va_recv hKc hPc (ci := 11) (q0 := 0) rfl rfl) rfl hl.1 rfl (Nat.le_of_ble_eq_true rfl) dX5_mustWait_112 (fun H locs hP1 hD1 hk1 hS => ?_)
    obtain ⟨hP, hD⟩ := dn_X5_14 hP hD hzA hk1 hP1 hD1
    obtain ⟨s26, es26, h⟩ := nd_let_e h
    have hP : va_P (dC, dI) vwCl (dw_X5 a ac s26) H := by rw [es26]; exact hP
    have hD : va_D A (dw_X5 a ac s26) := by rw [es26]; exact hD
    refine lv_iload_n hx hb dX5_mustWait_115 rfl (lv_at hl 0 rfl) ?_
    obtain ⟨q27, s28, hq, h⟩ := nd_b2_e h
    have hPc := dp_X5_14 hP
    have hDc := dd_X5_14 hD
    have hKc := dy_X5_14 hK
    have hFc := nd_rs hDc hS hA
    have hzA : ∀ q : Nat, H.size ≤ q → A q := fun q h => hA q (Nat.le_trans hS.1 h)
    refine nd_cVi (As := [.int q23, .int q4]) (rest := []) (q := q27) (w' := dw_X10 (fun k => a (k + 14)) (fun k => ac (k + 14)) s28) ⟨hx, hb, hml, hown, hts⟩ (fun sz => dm_X10_readWaits l hlt dC dI (fun k => a (k + 14)) (fun k => ac (k + 14)) n (q23) (q4) s26.2.2.2 hq sz) (cwV 2 hts gi_dm_X5_mustWait_3 rfl rfl rfl (by decide +kernel) ⟨Nat.le_of_ble_eq_true rfl, Nat.le_of_ble_eq_true rfl⟩) hPc hDc hKc hS hA hN (va_recv hKc hPc (ci := 11) (q0 := 0) rfl rfl) rfl hl.1 rfl (Nat.le_of_ble_eq_true rfl) dX5_mustWait_116 (fun H locs hP1 hD1 hk1 hS => ?_)
    obtain ⟨hP, hD⟩ := dn_X5_14 hP hD hzA hk1 hP1 hD1
    obtain ⟨s30, es30, h⟩ := nd_let_e h
    have hP : va_P (dC, dI) vwCl (dw_X5 a ac s30) H := by rw [es30]; exact hP
    have hD : va_D A (dw_X5 a ac s30) := by rw [es30]; exact hD
    obtain ⟨n31, h⟩ := nd_z_e ⟨_, rfl⟩ h
    exact K _ _ _ _ _ _ dX5_mustWait_119 n31 (Option.some.inj h).symm hP hD hS
  have h := nd_neg h c22
  by_cases c32 : q7 = 7
  · have h := nd_pos h c32
    refine lv_lookup (off := 97) (tgt := 120) hx hb dX5_mustWait_23 (by decide) (by rw [c32]; decide) (by decide) ?_
    refine lv_aload_n hx hb dX5_mustWait_120 rfl (lv_at hl 2 rfl) ?_
    refine va_get (D := (dC, dI)) (ci := 6) (v := .ref (a 14)) (C := RX5) (T := TX5) (N := 8) hx hb hts hi_dm_X5_mustWait_X5 hown hK hP 0 rfl rfl 1 (by decide) (hts (.fieldLink RX5 28 "TimeMachine$Kernel" "things" "LTimeMachine$Things;") (List.mem_of_getElem? (i := 10) rfl)) (fun _ h9 => h9) rfl dX5_mustWait_121 ?_
    refine lv_aload_n hx hb dX5_mustWait_124 rfl (lv_at hl 2 rfl) ?_
    refine va_get (D := (dC, dI)) (ci := 6) (v := .ref (a 14)) (C := RX5) (T := TX5) (N := 8) hx hb hts hi_dm_X5_mustWait_X5 hown hK hP 0 rfl rfl 1 (by decide) (hts (.fieldLink RX5 28 "TimeMachine$Kernel" "things" "LTimeMachine$Things;") (List.mem_of_getElem? (i := 10) rfl)) (fun _ h9 => h9) rfl dX5_mustWait_125 ?_
    refine lv_iload_n hx hb dX5_mustWait_128 rfl (lv_at hl 3 rfl) ?_
    refine lv_iload_n hx hb dX5_mustWait_129 rfl (lv_at hl 1 rfl) ?_
    obtain ⟨q33, s34, hq, h⟩ := nd_b2_e h
    have hPc := dp_X5_14 hP
    have hDc := dd_X5_14 hD
    have hKc := dy_X5_14 hK
    have hFc := nd_rs hDc hS hA
    have hzA : ∀ q : Nat, H.size ≤ q → A q := fun q h => hA q (Nat.le_trans hS.1 h)
    refine nd_cVi (As := [.int v0, .int q1]) (rest := [.ref (a 14)]) (q := q33) (w' := dw_X10 (fun k => a (k + 14)) (fun k => ac (k + 14)) s34) ⟨hx, hb, hml, hown, hts⟩ (fun sz => dm_X10_openingOf l hlt dC dI (fun k => a (k + 14)) (fun k => ac (k + 14)) n (v0) (q1) s8.2.2.2 hq sz) (cwV 2 hts gi_dm_X5_mustWait_2 rfl rfl rfl (by decide +kernel) ⟨Nat.le_of_ble_eq_true rfl, Nat.le_of_ble_eq_true rfl⟩) hPc hDc hKc hS hA hN (va_recv hKc hPc (ci := 11) (q0 := 0) rfl rfl) rfl hl.1 rfl (Nat.le_of_ble_eq_true rfl) dX5_mustWait_130 (fun H locs hP1 hD1 hk1 hS => ?_)
    obtain ⟨hP, hD⟩ := dn_X5_14 hP hD hzA hk1 hP1 hD1
    obtain ⟨s36, es36, h⟩ := nd_let_e h
    have hP : va_P (dC, dI) vwCl (dw_X5 a ac s36) H := by rw [es36]; exact hP
    have hD : va_D A (dw_X5 a ac s36) := by rw [es36]; exact hD
    refine lv_iload_n hx hb dX5_mustWait_133 rfl (lv_at hl 0 rfl) ?_
    obtain ⟨q37, s38, hq, h⟩ := nd_b2_e h
    have hPc := dp_X5_14 hP
    have hDc := dd_X5_14 hD
    have hKc := dy_X5_14 hK
    have hFc := nd_rs hDc hS hA
    have hzA : ∀ q : Nat, H.size ≤ q → A q := fun q h => hA q (Nat.le_trans hS.1 h)
    refine nd_cVi (As := [.int q33, .int q4]) (rest := []) (q := q37) (w' := dw_X10 (fun k => a (k + 14)) (fun k => ac (k + 14)) s38) ⟨hx, hb, hml, hown, hts⟩ (fun sz => dm_X10_writeWaits l hlt dC dI (fun k => a (k + 14)) (fun k => ac (k + 14)) n (q33) (q4) s36.2.2.2 hq sz) (cwV 2 hts gi_dm_X5_mustWait_4 rfl rfl rfl (by decide +kernel) ⟨Nat.le_of_ble_eq_true rfl, Nat.le_of_ble_eq_true rfl⟩) hPc hDc hKc hS hA hN (va_recv hKc hPc (ci := 11) (q0 := 0) rfl rfl) rfl hl.1 rfl (Nat.le_of_ble_eq_true rfl) dX5_mustWait_134 (fun H locs hP1 hD1 hk1 hS => ?_)
    obtain ⟨hP, hD⟩ := dn_X5_14 hP hD hzA hk1 hP1 hD1
    obtain ⟨s40, es40, h⟩ := nd_let_e h
    have hP : va_P (dC, dI) vwCl (dw_X5 a ac s40) H := by rw [es40]; exact hP
    have hD : va_D A (dw_X5 a ac s40) := by rw [es40]; exact hD
    obtain ⟨n41, h⟩ := nd_z_e ⟨_, rfl⟩ h
    exact K _ _ _ _ _ _ dX5_mustWait_137 n41 (Option.some.inj h).symm hP hD hS
  have h := nd_neg h c32
  by_cases c42 : q7 = 19
  · have h := nd_pos h c42
    refine lv_lookup (off := 115) (tgt := 138) hx hb dX5_mustWait_23 (by decide) (by rw [c42]; decide) (by decide) ?_
    refine lv_aload_n hx hb dX5_mustWait_138 rfl (lv_at hl 2 rfl) ?_
    refine va_get (D := (dC, dI)) (ci := 6) (v := .ref (a 4)) (C := RX5) (T := TX5) (N := 8) hx hb hts hi_dm_X5_mustWait_X5 hown hK hP 0 rfl rfl 0 (by decide) (hts (.fieldLink RX5 18 "TimeMachine$Kernel" "machine" "LTimeMachine$Machine;") (List.mem_of_getElem? (i := 5) rfl)) (fun _ h9 => h9) rfl dX5_mustWait_139 ?_
    refine va_get (D := (dC, dI)) (ci := 7) (v := .long (sL s8.2.2.1 0)) (C := RX6) (T := TX6) (N := 20) hx hb hts hi_dm_X5_mustWait_X6 hown hK hP 4 rfl rfl 17 (by decide) (hts (.fieldLink RX5 133 "TimeMachine$Machine" "clock" "J") (List.mem_of_getElem? (i := 21) rfl)) (fun _ h9 => h9) rfl dX5_mustWait_142 ?_
    refine lv_aload_n hx hb dX5_mustWait_145 rfl (lv_at hl 2 rfl) ?_
    refine va_get (D := (dC, dI)) (ci := 6) (v := .ref (a 4)) (C := RX5) (T := TX5) (N := 8) hx hb hts hi_dm_X5_mustWait_X5 hown hK hP 0 rfl rfl 0 (by decide) (hts (.fieldLink RX5 18 "TimeMachine$Kernel" "machine" "LTimeMachine$Machine;") (List.mem_of_getElem? (i := 5) rfl)) (fun _ h9 => h9) rfl dX5_mustWait_146 ?_
    refine va_get (D := (dC, dI)) (ci := 7) (v := .ref (a 12)) (C := RX6) (T := TX6) (N := 20) hx hb hts hi_dm_X5_mustWait_X6 hown hK hP 4 rfl rfl 8 (by decide) (hts (.fieldLink RX5 137 "TimeMachine$Machine" "sleep" "[J") (List.mem_of_getElem? (i := 22) rfl)) (fun _ h9 => h9) rfl dX5_mustWait_149 ?_
    refine lv_iload_n hx hb dX5_mustWait_152 rfl (lv_at hl 3 rfl) ?_
    obtain ⟨i43, h⟩ := nd_ck_e h
    refine va_lald (i := v0) hx hb hK hP 12 9 rfl rfl i43 dX5_mustWait_153 ?_
    refine W.lcmp hx hb dX5_mustWait_154 ?_
    refine lv_if_ge (tgt := 162) hx hb dX5_mustWait_155 (by decide) (fun c44 => ?_) (fun c44 => ?_)
    · have h := nd_pos h c44
      refine lv_iconst (v := 0) hx hb dX5_mustWait_162 (by decide) ?_
      exact (db_X5_mustWait_163 C K) (0) s8 _ _ _ h hP hD hS (lv_sub hl [] rfl)
    · have h := nd_neg h c44
      refine lv_iconst (v := 1) hx hb dX5_mustWait_158 (by decide) ?_
      refine lv_goto (tgt := 163) hx hb dX5_mustWait_159 (by decide) ?_
      exact (db_X5_mustWait_163 C K) (1) s8 _ _ _ h hP hD hS (lv_sub hl [] rfl)
  have h := nd_neg h c42
  by_cases c46 : q7 = 21
  · have h := nd_pos h c46
    refine lv_lookup (off := 141) (tgt := 164) hx hb dX5_mustWait_23 (by decide) (by rw [c46]; decide) (by decide) ?_
    refine lv_aload_n hx hb dX5_mustWait_164 rfl (lv_at hl 2 rfl) ?_
    refine va_get (D := (dC, dI)) (ci := 6) (v := .ref (a 4)) (C := RX5) (T := TX5) (N := 8) hx hb hts hi_dm_X5_mustWait_X5 hown hK hP 0 rfl rfl 0 (by decide) (hts (.fieldLink RX5 18 "TimeMachine$Kernel" "machine" "LTimeMachine$Machine;") (List.mem_of_getElem? (i := 5) rfl)) (fun _ h9 => h9) rfl dX5_mustWait_165 ?_
    refine va_get (D := (dC, dI)) (ci := 7) (v := .int (sI s8.2.2.1 1)) (C := RX6) (T := TX6) (N := 20) hx hb hts hi_dm_X5_mustWait_X6 hown hK hP 4 rfl rfl 10 (by decide) (hts (.fieldLink RX5 141 "TimeMachine$Machine" "randoms" "I") (List.mem_of_getElem? (i := 23) rfl)) (fun _ h9 => h9) rfl dX5_mustWait_168 ?_
    refine lv_if_ne (tgt := 178) hx hb dX5_mustWait_171 (by decide) (fun c47 => ?_) (fun c47 => ?_)
    · have h := nd_neg h c47
      refine lv_iconst (v := 0) hx hb dX5_mustWait_178 (by decide) ?_
      exact (db_X5_mustWait_179 C K) (0) s8 _ _ _ h hP hD hS (lv_sub hl [] rfl)
    · have h := nd_pos h c47
      refine lv_iconst (v := 1) hx hb dX5_mustWait_174 (by decide) ?_
      refine lv_goto (tgt := 179) hx hb dX5_mustWait_175 (by decide) ?_
      exact (db_X5_mustWait_179 C K) (1) s8 _ _ _ h hP hD hS (lv_sub hl [] rfl)
  have h := nd_neg h c46
  refine lv_lookup (off := 157) (tgt := 180) hx hb dX5_mustWait_23 (by decide) (show Op.lookupswitch.offset [(3, 49), (6, 79), (7, 97), (19, 115), (21, 141)] 157 (q7 : Int32).toInt = 157 by rw [lv_osw c10 (by decide), lv_osw c22 (by decide), lv_osw c32 (by decide), lv_osw c42 (by decide), lv_osw c46 (by decide)] <;> rfl) (by decide) ?_
  refine lv_iconst (v := 0) hx hb dX5_mustWait_180 (by decide) ?_
  exact K _ _ _ _ _ _ dX5_mustWait_181 (by first | rfl | decide) (Option.some.inj h).symm hP hD hS
set_option maxHeartbeats 40000000 in
set_option maxRecDepth 100000 in
theorem dm_X5_mustWait (l : Launch) (hlt : l.stackTraces = false) (dC : Nat → ClassId) (dI : Nat → Nat → Nat) (a : Nat → Nat) (ac : Nat → ClassId) (n : Nat) (v0 : Int32) (s0 : St × (St × (St × (St)))) {r : Int32 × (St × (St × (St × (St))))} (h : df_X5_mustWait n v0 s0 = some r) (sz : Nat) : Met l yX5_mustWait ow_dm_X5_mustWait ({ frames := 1, cells := 0, slots := 0, locals := 24 }) (va_Pc [.ref (a 0), .int v0] (fun U => U.heap.size = sz ∧ va_P (dC, dI) vwCl (dw_X5 a ac s0) U.heap ∧ va_K (dC, dI) vwCl (dk_X5 ac) U ∧ va_D (fun _ => True) (dw_X5 a ac s0) ∧ nv_E dI (va_A (dw_X5 a ac s0) sz) U)) (va_Qi (fun x _ => x = r.1) (fun (_ : Unit) t => va_P (dC, dI) vwCl (dw_X5 a ac r.2) t.heap ∧ va_K (dC, dI) vwCl (dk_X5 ac) t ∧ va_D (va_A (dw_X5 a ac s0) sz) (dw_X5 a ac r.2)) (va_A (dw_X5 a ac s0) sz)) 0 0 (va_A (dw_X5 a ac s0) sz) := by
  refine Met.ofW (cc := cX5_mustWait) (maxL := 4) (ret := (some .boolean)) (by decide) rfl ?_
  intro p e s m args below meth c s₁ B hml hv
  obtain ⟨rfl, hsz, hP, hK, hD0, hN⟩ := hv
  have hx := B.exec
  have hb := B.bytes
  have hr := B.returns
  have hts := atoms_spec (ws := ow_dm_X5_mustWait) B.pre
  have hown : s.vm.findClass RX5 = some m.cls := findClass_of_methodNamed B.named
  have hlocks := B.notSynchronized
  subst hsz
  have hD := hD0.self (sz := s.heap.size)
  generalize hAe : va_A (dw_X5 a ac s0) s.heap.size = A at hD hN ⊢
  have hA : ∀ q : Nat, s.heap.size ≤ q → A q := fun q h => by rw [← hAe]; exact Or.inr h
  have hl := lv_entry ([.ref (a 0), .int v0]) (n := 4) (Nat.le_of_ble_eq_true rfl)
  rw [lg_entry_eq]
  generalize (lg_sl ([.ref (a 0), .int v0]) ++ List.replicate (4 - (lg_sl ([.ref (a 0), .int v0])).length) Slot.unset).toArray = ls at hl ⊢
  have hl : lv_has ls 4 [(0, .ref (a 0)), (1, .int v0)] := hl
  exact db_X5_mustWait_0 (dC := dC) (dI := dI) (a := a) (ac := ac) (n := n) (r := r) ⟨hlt, hx, hb, hml, hown, hts, hN, hA, hK⟩ (fun pc v τ H locs ls d z er hP hD hS => by subst er; exact W.zret (v := v) hx hb hr z (fun t ht hW => ⟨⟨v, (), rfl, rfl, by rw [ht]; exact hP, va_K.moved hW.alike hK, hD⟩, hS.F ht⟩) hS.2.2 d) v0 s0 _ _ _ h hP hD va_S.rf (lv_sub hl [0, 1] rfl)
def ow_dm_X5_settle : List Cond := Cond.code yX5_settle cX5_settle 2 none :: ([Cond.fieldLink RX5 18 "TimeMachine$Kernel" "machine" "LTimeMachine$Machine;", Cond.methodLink RX5 112 yX6_chooseCurrent, Cond.instanceMethod yX6_chooseCurrent, Cond.selects RX6 yX6_chooseCurrent yX6_chooseCurrent, Cond.initialized RX6, Cond.fieldLink RX5 102 "TimeMachine$Machine" "waiting" "I", Cond.methodLink RX5 105 yX6_status, Cond.instanceMethod yX6_status, Cond.selects RX6 yX6_status yX6_status, Cond.methodLink RX5 64 yX6_takeable, Cond.instanceMethod yX6_takeable, Cond.selects RX6 yX6_takeable yX6_takeable, Cond.fieldLink RX5 37 "TimeMachine$Kernel" "self" "[I", Cond.methodLink RX5 108 yX5_mustWait, Cond.instanceMethod yX5_mustWait, Cond.selects RX5 yX5_mustWait yX5_mustWait, Cond.initialized RX5] ++ (u_ws RX5 TX5 8 ++ (u_ws RX6 TX6 20 ++ (ow_dm_X6_chooseCurrent ++ (ow_dm_X6_status ++ (ow_dm_X6_takeable ++ (ow_dm_X5_mustWait ++ [])))))))
theorem gd_dm_X5_settle : ∀ w ∈ ow_dm_X5_settle, (w.onTables && w.keeps) = true ∨ ∃ ty, w = Cond.arrayClass ty := List.forall_mem_cons.mpr ⟨good_of_word rfl, List.forall_mem_append.mpr ⟨fun w h => good_of_word (List.all_eq_true.mp (by decide +kernel) w h), List.forall_mem_append.mpr ⟨gu_X5, List.forall_mem_append.mpr ⟨gu_X6, List.forall_mem_append.mpr ⟨gd_dm_X6_chooseCurrent, List.forall_mem_append.mpr ⟨gd_dm_X6_status, List.forall_mem_append.mpr ⟨gd_dm_X6_takeable, List.forall_mem_append.mpr ⟨gd_dm_X5_mustWait, fun _ h => nomatch h⟩⟩⟩⟩⟩⟩⟩⟩
theorem hi_dm_X5_settle_X5 : ∀ w ∈ u_ws RX5 TX5 8, w ∈ ow_dm_X5_settle := fun w h => List.mem_cons_of_mem _ (List.mem_append_right _ (List.mem_append_left _ h))
theorem hi_dm_X5_settle_X6 : ∀ w ∈ u_ws RX6 TX6 20, w ∈ ow_dm_X5_settle := fun w h => List.mem_cons_of_mem _ (List.mem_append_right _ (List.mem_append_right _ (List.mem_append_left _ h)))
theorem gi_dm_X5_settle_0 : GoodIn ow_dm_X5_settle (wsV RX5 112 RX6 yX6_chooseCurrent ow_dm_X6_chooseCurrent) := goodIn_app (goodIn_of _ (by decide +kernel)) (fun w h => ⟨List.mem_cons_of_mem _ (List.mem_append_right _ (List.mem_append_right _ (List.mem_append_right _ (List.mem_append_left _ h)))), gd_dm_X6_chooseCurrent w h⟩)
theorem gi_dm_X5_settle_1 : GoodIn ow_dm_X5_settle (wsV RX5 105 RX6 yX6_status ow_dm_X6_status) := goodIn_app (goodIn_of _ (by decide +kernel)) (fun w h => ⟨List.mem_cons_of_mem _ (List.mem_append_right _ (List.mem_append_right _ (List.mem_append_right _ (List.mem_append_right _ (List.mem_append_left _ h))))), gd_dm_X6_status w h⟩)
theorem gi_dm_X5_settle_2 : GoodIn ow_dm_X5_settle (wsV RX5 64 RX6 yX6_takeable ow_dm_X6_takeable) := goodIn_app (goodIn_of _ (by decide +kernel)) (fun w h => ⟨List.mem_cons_of_mem _ (List.mem_append_right _ (List.mem_append_right _ (List.mem_append_right _ (List.mem_append_right _ (List.mem_append_right _ (List.mem_append_left _ h)))))), gd_dm_X6_takeable w h⟩)
theorem gi_dm_X5_settle_3 : GoodIn ow_dm_X5_settle (wsV RX5 108 RX5 yX5_mustWait ow_dm_X5_mustWait) := goodIn_app (goodIn_of _ (by decide +kernel)) (fun w h => ⟨List.mem_cons_of_mem _ (List.mem_append_right _ (List.mem_append_right _ (List.mem_append_right _ (List.mem_append_right _ (List.mem_append_right _ (List.mem_append_right _ (List.mem_append_left _ h))))))), gd_dm_X5_mustWait w h⟩)
def dj_X5_settle_80 (p : Program) (l : Launch) (e : Env) (s : State) (m : MethodId) (args : Array Value) (below : List Frame) (meth : Method) (c : Code) (Q : State → Prop) (A : Nat → Prop) (dC : Nat → ClassId) (dI : Nat → Nat → Nat) (a : Nat → Nat) (ac : Nat → ClassId) (g : (St × (St × (St × (St)))) → Option (St × (St × (St × (St))))) (r : St × (St × (St × (St)))) : Prop := ∀ (s0 : St × (St × (St × (St)))) (H : Heap) (locs : List Loc) (ls : Array Slot), g s0 = some r → va_P (dC, dI) vwCl (dw_X5 a ac s0) H → va_D A (dw_X5 a ac s0) → va_S A s.heap H locs → lv_has ls 2 [(0, .ref (a 0))] → W p l e (headSpec ow_dm_X5_settle ({ frames := 2, cells := 0, slots := 0, locals := 47 })).room s m args below meth c H locs 0 0 Q (F0 m 80 ls [])
def dj_X5_settle_74 (p : Program) (l : Launch) (e : Env) (s : State) (m : MethodId) (args : Array Value) (below : List Frame) (meth : Method) (c : Code) (Q : State → Prop) (A : Nat → Prop) (dC : Nat → ClassId) (dI : Nat → Nat → Nat) (a : Nat → Nat) (ac : Nat → ClassId) (g : Int32 → (St × (St × (St × (St)))) → Option (St × (St × (St × (St))))) (r : St × (St × (St × (St)))) : Prop := ∀ (x1 : Int32) (s0 : St × (St × (St × (St)))) (H : Heap) (locs : List Loc) (ls : Array Slot), g x1 s0 = some r → va_P (dC, dI) vwCl (dw_X5 a ac s0) H → va_D A (dw_X5 a ac s0) → va_S A s.heap H locs → lv_has ls 2 [(0, .ref (a 0)), (1, .int x1)] → W p l e (headSpec ow_dm_X5_settle ({ frames := 2, cells := 0, slots := 0, locals := 47 })).room s m args below meth c H locs 0 0 Q (F0 m 74 ls [])
def dj_X5_settle_49 (p : Program) (l : Launch) (e : Env) (s : State) (m : MethodId) (args : Array Value) (below : List Frame) (meth : Method) (c : Code) (Q : State → Prop) (A : Nat → Prop) (dC : Nat → ClassId) (dI : Nat → Nat → Nat) (a : Nat → Nat) (ac : Nat → ClassId) (g : Int32 → (St × (St × (St × (St)))) → Option (St × (St × (St × (St))))) (r : St × (St × (St × (St)))) : Prop := ∀ (x1 : Int32) (s0 : St × (St × (St × (St)))) (H : Heap) (locs : List Loc) (ls : Array Slot), g x1 s0 = some r → va_P (dC, dI) vwCl (dw_X5 a ac s0) H → va_D A (dw_X5 a ac s0) → va_S A s.heap H locs → lv_has ls 2 [(0, .ref (a 0)), (1, .int x1)] → W p l e (headSpec ow_dm_X5_settle ({ frames := 2, cells := 0, slots := 0, locals := 47 })).room s m args below meth c H locs 0 0 Q (F0 m 49 ls [])
def dj_X5_settle_2 (p : Program) (l : Launch) (e : Env) (s : State) (m : MethodId) (args : Array Value) (below : List Frame) (meth : Method) (c : Code) (Q : State → Prop) (A : Nat → Prop) (dC : Nat → ClassId) (dI : Nat → Nat → Nat) (a : Nat → Nat) (ac : Nat → ClassId) (g : Int32 → (St × (St × (St × (St)))) → Option (St × (St × (St × (St))))) (r : St × (St × (St × (St)))) : Prop := ∀ (x1 : Int32) (s0 : St × (St × (St × (St)))) (H : Heap) (locs : List Loc) (ls : Array Slot), g x1 s0 = some r → va_P (dC, dI) vwCl (dw_X5 a ac s0) H → va_D A (dw_X5 a ac s0) → va_S A s.heap H locs → lv_has ls 2 [(0, .ref (a 0)), (1, .int x1)] → W p l e (headSpec ow_dm_X5_settle ({ frames := 2, cells := 0, slots := 0, locals := 47 })).room s m args below meth c H locs 0 0 Q (F0 m 2 ls [])
def dj_X5_settle_0 (p : Program) (l : Launch) (e : Env) (s : State) (m : MethodId) (args : Array Value) (below : List Frame) (meth : Method) (c : Code) (Q : State → Prop) (A : Nat → Prop) (dC : Nat → ClassId) (dI : Nat → Nat → Nat) (a : Nat → Nat) (ac : Nat → ClassId) (g : (St × (St × (St × (St)))) → Option (St × (St × (St × (St))))) (r : St × (St × (St × (St)))) : Prop := ∀ (s0 : St × (St × (St × (St)))) (H : Heap) (locs : List Loc) (ls : Array Slot), g s0 = some r → va_P (dC, dI) vwCl (dw_X5 a ac s0) H → va_D A (dw_X5 a ac s0) → va_S A s.heap H locs → lv_has ls 2 [(0, .ref (a 0))] → W p l e (headSpec ow_dm_X5_settle ({ frames := 2, cells := 0, slots := 0, locals := 47 })).room s m args below meth c H locs 0 0 Q (F0 m 0 ls [])
set_option maxHeartbeats 40000000 in
set_option maxRecDepth 100000 in
theorem db_X5_settle_80 {p : Program} {l : Launch} {e : Env} {s : State} {m : MethodId} {args : Array Value} {below : List Frame} {meth : Method} {c : Code} {Q : State → Prop} {A : Nat → Prop} {dC : Nat → ClassId} {dI : Nat → Nat → Nat} {a : Nat → Nat} {ac : Nat → ClassId} {n : Nat} {r : St × (St × (St × (St)))} (C : nd_C p l s m args c A (dC, dI) cX5_settle 2 RX5 ow_dm_X5_settle (dk_X5 ac)) (K : nd_Kv p l e (headSpec ow_dm_X5_settle ({ frames := 2, cells := 0, slots := 0, locals := 47 })).room s m args below meth c Q A (dC, dI) cX5_settle (St × (St × (St × (St)))) (dw_X5 a ac) r) : dj_X5_settle_80 p l e s m args below meth c Q A dC dI a ac (df_X5_settle_80 n) r := by
  obtain ⟨hlt, hx, hb, hml, hown, hts, hN, hA, hK⟩ := id C
  intro s0 H locs ls h hP hD hS hl
  unfold df_X5_settle_80 at h
  refine lv_aload_n hx hb dX5_settle_80 rfl (lv_at hl 0 rfl) ?_
  refine va_get (D := (dC, dI)) (ci := 6) (v := .ref (a 4)) (C := RX5) (T := TX5) (N := 8) hx hb hts hi_dm_X5_settle_X5 hown hK hP 0 rfl rfl 0 (by decide) (hts (.fieldLink RX5 18 "TimeMachine$Kernel" "machine" "LTimeMachine$Machine;") (List.mem_of_getElem? (i := 1) rfl)) (fun _ h9 => h9) rfl dX5_settle_81 ?_
  obtain ⟨s3, hq, h⟩ := nd_b1_e h
  have hPc := dp_X5_4 hP
  have hDc := dd_X5_4 hD
  have hKc := dy_X5_4 hK
  have hFc := nd_rs hDc hS hA
  have hzA : ∀ q : Nat, H.size ≤ q → A q := fun q h => hA q (Nat.le_trans hS.1 h)
  refine nd_cVv (As := []) (rest := []) (w' := dw_X6 (fun k => a (k + 4)) (fun k => ac (k + 4)) s3) ⟨hx, hb, hml, hown, hts⟩ (fun sz => dm_X6_chooseCurrent l hlt dC dI (fun k => a (k + 4)) (fun k => ac (k + 4)) n  s0.2.2 hq sz) (cwV 0 hts gi_dm_X5_settle_0 rfl rfl rfl (by decide +kernel) ⟨Nat.le_of_ble_eq_true rfl, Nat.le_of_ble_eq_true rfl⟩) hPc hDc hKc hS hA hN (va_recv hKc hPc (ci := 7) (q0 := 0) rfl rfl) rfl hl.1 rfl (Nat.le_of_ble_eq_true rfl) dX5_settle_84 (fun H locs hP1 hD1 hk1 hS => ?_)
  obtain ⟨hP, hD⟩ := dn_X5_4 hP hD hzA hk1 hP1 hD1
  obtain ⟨s5, es5, h⟩ := nd_let_e h
  have hP : va_P (dC, dI) vwCl (dw_X5 a ac s5) H := by rw [es5]; exact hP
  have hD : va_D A (dw_X5 a ac s5) := by rw [es5]; exact hD
  exact K _ _ _ _ _ dX5_settle_87 (Option.some.inj h).symm hP hD hS
set_option maxHeartbeats 40000000 in
set_option maxRecDepth 100000 in
theorem db_X5_settle_74 {p : Program} {l : Launch} {e : Env} {s : State} {m : MethodId} {args : Array Value} {below : List Frame} {meth : Method} {c : Code} {Q : State → Prop} {A : Nat → Prop} {dC : Nat → ClassId} {dI : Nat → Nat → Nat} {a : Nat → Nat} {ac : Nat → ClassId} {n : Nat} {r : St × (St × (St × (St)))} (C : nd_C p l s m args c A (dC, dI) cX5_settle 2 RX5 ow_dm_X5_settle (dk_X5 ac)) (K : nd_Kv p l e (headSpec ow_dm_X5_settle ({ frames := 2, cells := 0, slots := 0, locals := 47 })).room s m args below meth c Q A (dC, dI) cX5_settle (St × (St × (St × (St)))) (dw_X5 a ac) r) {g2 : Int32 → (St × (St × (St × (St)))) → Option (St × (St × (St × (St))))} (J2 : dj_X5_settle_2 p l e s m args below meth c Q A dC dI a ac g2 r) : dj_X5_settle_74 p l e s m args below meth c Q A dC dI a ac (df_X5_settle_74 n g2) r := by
  obtain ⟨hlt, hx, hb, hml, hown, hts, hN, hA, hK⟩ := id C
  intro x1 s0 H locs ls h hP hD hS hl
  unfold df_X5_settle_74 at h
  obtain ⟨z12, ez12, h⟩ := nd_let_e h
  refine lv_iinc (v := z12) (lv' := [(1, .int z12), (0, .ref (a 0))]) hx hb dX5_settle_74 hl (k := 1) rfl (by rw [ez12]) (by decide) rfl (fun ls hl => ?_)
  refine lv_goto (tgt := 2) hx hb dX5_settle_77 (by decide) ?_
  exact (J2) (z12) s0 _ _ _ h hP hD hS (lv_sub hl [1, 0] rfl)
set_option maxHeartbeats 40000000 in
set_option maxRecDepth 100000 in
theorem db_X5_settle_49 {p : Program} {l : Launch} {e : Env} {s : State} {m : MethodId} {args : Array Value} {below : List Frame} {meth : Method} {c : Code} {Q : State → Prop} {A : Nat → Prop} {dC : Nat → ClassId} {dI : Nat → Nat → Nat} {a : Nat → Nat} {ac : Nat → ClassId} {n : Nat} {r : St × (St × (St × (St)))} (C : nd_C p l s m args c A (dC, dI) cX5_settle 2 RX5 ow_dm_X5_settle (dk_X5 ac)) (K : nd_Kv p l e (headSpec ow_dm_X5_settle ({ frames := 2, cells := 0, slots := 0, locals := 47 })).room s m args below meth c Q A (dC, dI) cX5_settle (St × (St × (St × (St)))) (dw_X5 a ac) r) {g2 : Int32 → (St × (St × (St × (St)))) → Option (St × (St × (St × (St))))} (J2 : dj_X5_settle_2 p l e s m args below meth c Q A dC dI a ac g2 r) : dj_X5_settle_49 p l e s m args below meth c Q A dC dI a ac (df_X5_settle_49 n g2) r := by
  obtain ⟨hlt, hx, hb, hml, hown, hts, hN, hA, hK⟩ := id C
  intro x1 s0 H locs ls h hP hD hS hl
  unfold df_X5_settle_49 at h
  refine lv_aload_n hx hb dX5_settle_49 rfl (lv_at hl 0 rfl) ?_
  refine va_get (D := (dC, dI)) (ci := 6) (v := .ref (a 11)) (C := RX5) (T := TX5) (N := 8) hx hb hts hi_dm_X5_settle_X5 hown hK hP 0 rfl rfl 3 (by decide) (hts (.fieldLink RX5 37 "TimeMachine$Kernel" "self" "[I") (List.mem_of_getElem? (i := 13) rfl)) (fun _ h9 => h9) rfl dX5_settle_50 ?_
  refine lv_iload_n hx hb dX5_settle_53 rfl (lv_at hl 1 rfl) ?_
  refine lv_bipush (v := 7) hx hb dX5_settle_54 (by decide) ?_
  refine lv_imul hx hb dX5_settle_56 ?_
  refine lv_iconst (v := 0) hx hb dX5_settle_57 (by decide) ?_
  refine lv_iadd hx hb dX5_settle_58 ?_
  refine lv_iconst (v := 1) hx hb dX5_settle_59 (by decide) ?_
  obtain ⟨i18, h⟩ := nd_ck_e h
  refine va_iast (i := ((x1 * 7) + 0)) (x := 1) hx hb hK hP hD hS 11 8 rfl rfl i18 dX5_settle_60 (fun H locs hP hD hS => ?_)
  obtain ⟨s19, es19, h⟩ := nd_let_e h
  have hP : va_P (dC, dI) vwCl (dw_X5 a ac s19) H := by rw [es19]; exact hP
  have hD : va_D A (dw_X5 a ac s19) := by rw [es19]; exact hD
  refine lv_aload_n hx hb dX5_settle_61 rfl (lv_at hl 0 rfl) ?_
  refine va_get (D := (dC, dI)) (ci := 6) (v := .ref (a 4)) (C := RX5) (T := TX5) (N := 8) hx hb hts hi_dm_X5_settle_X5 hown hK hP 0 rfl rfl 0 (by decide) (hts (.fieldLink RX5 18 "TimeMachine$Kernel" "machine" "LTimeMachine$Machine;") (List.mem_of_getElem? (i := 1) rfl)) (fun _ h9 => h9) rfl dX5_settle_62 ?_
  refine lv_dup hx hb dX5_settle_65 rfl ?_
  refine va_get (D := (dC, dI)) (ci := 7) (v := .int (sI s19.2.2.1 2)) (C := RX6) (T := TX6) (N := 20) hx hb hts hi_dm_X5_settle_X6 hown hK hP 4 rfl rfl 12 (by decide) (hts (.fieldLink RX5 102 "TimeMachine$Machine" "waiting" "I") (List.mem_of_getElem? (i := 6) rfl)) (fun _ h9 => h9) rfl dX5_settle_66 ?_
  refine lv_iconst (v := 1) hx hb dX5_settle_69 (by decide) ?_
  refine lv_isub hx hb dX5_settle_70 ?_
  refine va_put (D := (dC, dI)) (ci := 7) (v := .int ((sI s19.2.2.1 2) - 1)) (ty := .int) (C := RX6) (T := TX6) (N := 20) hx hb hts hi_dm_X5_settle_X6 tyX6 tyX6_ok nmX6 hown hK hP hD hS 4 rfl rfl 12 (by decide) (hts (.fieldLink RX5 102 "TimeMachine$Machine" "waiting" "I") (List.mem_of_getElem? (i := 6) rfl)) (fun _ h9 => h9) rfl (by decide +kernel) rfl rfl (Nat.le_of_ble_eq_true rfl) dX5_settle_71 (fun H locs hP hD hS => ?_)
  obtain ⟨s20, es20, h⟩ := nd_let_e h
  have hP : va_P (dC, dI) vwCl (dw_X5 a ac s20) H := by rw [es20]; exact hP
  have hD : va_D A (dw_X5 a ac s20) := by rw [es20]; exact hD
  exact (db_X5_settle_74 C K J2) (x1) s20 _ _ _ h hP hD hS (lv_sub hl [0, 1] rfl)
set_option maxHeartbeats 40000000 in
set_option maxRecDepth 100000 in
theorem dB_X5_settle_2 {p : Program} {l : Launch} {e : Env} {s : State} {m : MethodId} {args : Array Value} {below : List Frame} {meth : Method} {c : Code} {Q : State → Prop} {A : Nat → Prop} {dC : Nat → ClassId} {dI : Nat → Nat → Nat} {a : Nat → Nat} {ac : Nat → ClassId} {n : Nat} {r : St × (St × (St × (St)))} (C : nd_C p l s m args c A (dC, dI) cX5_settle 2 RX5 ow_dm_X5_settle (dk_X5 ac)) (K : nd_Kv p l e (headSpec ow_dm_X5_settle ({ frames := 2, cells := 0, slots := 0, locals := 47 })).room s m args below meth c Q A (dC, dI) cX5_settle (St × (St × (St × (St)))) (dw_X5 a ac) r) {g2 : Int32 → (St × (St × (St × (St)))) → Option (St × (St × (St × (St))))} (J2 : dj_X5_settle_2 p l e s m args below meth c Q A dC dI a ac g2 r) : dj_X5_settle_2 p l e s m args below meth c Q A dC dI a ac (dF_X5_settle_2 n g2) r := by
  obtain ⟨hlt, hx, hb, hml, hown, hts, hN, hA, hK⟩ := id C
  intro x1 s0 H locs ls h hP hD hS hl
  unfold dF_X5_settle_2 at h
  refine lv_iload_n hx hb dX5_settle_2 rfl (lv_at hl 1 rfl) ?_
  refine lv_bipush (v := 16) hx hb dX5_settle_3 (by decide) ?_
  refine lv_icmp_ge (tgt := 80) hx hb dX5_settle_5 (by decide) (fun c1 => ?_) (fun c1 => ?_)
  · have h := nd_pos h c1
    exact (db_X5_settle_80 C K)  s0 _ _ _ h hP hD hS (lv_sub hl [0] rfl)
  · have h := nd_neg h c1
    refine lv_aload_n hx hb dX5_settle_8 rfl (lv_at hl 0 rfl) ?_
    refine va_get (D := (dC, dI)) (ci := 6) (v := .ref (a 4)) (C := RX5) (T := TX5) (N := 8) hx hb hts hi_dm_X5_settle_X5 hown hK hP 0 rfl rfl 0 (by decide) (hts (.fieldLink RX5 18 "TimeMachine$Kernel" "machine" "LTimeMachine$Machine;") (List.mem_of_getElem? (i := 1) rfl)) (fun _ h9 => h9) rfl dX5_settle_9 ?_
    refine va_get (D := (dC, dI)) (ci := 7) (v := .int (sI s0.2.2.1 2)) (C := RX6) (T := TX6) (N := 20) hx hb hts hi_dm_X5_settle_X6 hown hK hP 4 rfl rfl 12 (by decide) (hts (.fieldLink RX5 102 "TimeMachine$Machine" "waiting" "I") (List.mem_of_getElem? (i := 6) rfl)) (fun _ h9 => h9) rfl dX5_settle_12 ?_
    refine lv_if_le (tgt := 80) hx hb dX5_settle_15 (by decide) (fun c6 => ?_) (fun c6 => ?_)
    · have h := nd_pos h c6
      exact (db_X5_settle_80 C K)  s0 _ _ _ h hP hD hS (lv_sub hl [0] rfl)
    · have h := nd_neg h c6
      refine lv_aload_n hx hb dX5_settle_18 rfl (lv_at hl 0 rfl) ?_
      refine va_get (D := (dC, dI)) (ci := 6) (v := .ref (a 4)) (C := RX5) (T := TX5) (N := 8) hx hb hts hi_dm_X5_settle_X5 hown hK hP 0 rfl rfl 0 (by decide) (hts (.fieldLink RX5 18 "TimeMachine$Kernel" "machine" "LTimeMachine$Machine;") (List.mem_of_getElem? (i := 1) rfl)) (fun _ h9 => h9) rfl dX5_settle_19 ?_
      refine lv_iload_n hx hb dX5_settle_22 rfl (lv_at hl 1 rfl) ?_
      obtain ⟨q7, s8, hq, h⟩ := nd_b2_e h
      have hPc := dp_X5_4 hP
      have hDc := dd_X5_4 hD
      have hKc := dy_X5_4 hK
      have hFc := nd_rs hDc hS hA
      have hzA : ∀ q : Nat, H.size ≤ q → A q := fun q h => hA q (Nat.le_trans hS.1 h)
      refine nd_cVi (As := [.int x1]) (rest := []) (q := q7) (w' := dw_X6 (fun k => a (k + 4)) (fun k => ac (k + 4)) s8) ⟨hx, hb, hml, hown, hts⟩ (fun sz => dm_X6_status l hlt dC dI (fun k => a (k + 4)) (fun k => ac (k + 4)) n (x1) s0.2.2 hq sz) (cwV 1 hts gi_dm_X5_settle_1 rfl rfl rfl (by decide +kernel) ⟨Nat.le_of_ble_eq_true rfl, Nat.le_of_ble_eq_true rfl⟩) hPc hDc hKc hS hA hN (va_recv hKc hPc (ci := 7) (q0 := 0) rfl rfl) rfl hl.1 rfl (Nat.le_of_ble_eq_true rfl) dX5_settle_23 (fun H locs hP1 hD1 hk1 hS => ?_)
      obtain ⟨hP, hD⟩ := dn_X5_4 hP hD hzA hk1 hP1 hD1
      obtain ⟨s10, es10, h⟩ := nd_let_e h
      have hP : va_P (dC, dI) vwCl (dw_X5 a ac s10) H := by rw [es10]; exact hP
      have hD : va_D A (dw_X5 a ac s10) := by rw [es10]; exact hD
      refine lv_iconst (v := 2) hx hb dX5_settle_26 (by decide) ?_
      refine lv_icmp_ne (tgt := 74) hx hb dX5_settle_27 (by decide) (fun c11 => ?_) (fun c11 => ?_)
      · have h := nd_neg h c11
        exact (db_X5_settle_74 C K J2) (x1) s10 _ _ _ h hP hD hS (lv_sub hl [0, 1] rfl)
      · have h := nd_pos h c11
        refine lv_aload_n hx hb dX5_settle_30 rfl (lv_at hl 0 rfl) ?_
        refine va_get (D := (dC, dI)) (ci := 6) (v := .ref (a 4)) (C := RX5) (T := TX5) (N := 8) hx hb hts hi_dm_X5_settle_X5 hown hK hP 0 rfl rfl 0 (by decide) (hts (.fieldLink RX5 18 "TimeMachine$Kernel" "machine" "LTimeMachine$Machine;") (List.mem_of_getElem? (i := 1) rfl)) (fun _ h9 => h9) rfl dX5_settle_31 ?_
        refine lv_iload_n hx hb dX5_settle_34 rfl (lv_at hl 1 rfl) ?_
        obtain ⟨q13, s14, hq, h⟩ := nd_b2_e h
        have hPc := dp_X5_4 hP
        have hDc := dd_X5_4 hD
        have hKc := dy_X5_4 hK
        have hFc := nd_rs hDc hS hA
        have hzA : ∀ q : Nat, H.size ≤ q → A q := fun q h => hA q (Nat.le_trans hS.1 h)
        refine nd_cVi (As := [.int x1]) (rest := []) (q := q13) (w' := dw_X6 (fun k => a (k + 4)) (fun k => ac (k + 4)) s14) ⟨hx, hb, hml, hown, hts⟩ (fun sz => dm_X6_takeable l hlt dC dI (fun k => a (k + 4)) (fun k => ac (k + 4)) n (x1) s10.2.2 hq sz) (cwV 1 hts gi_dm_X5_settle_2 rfl rfl rfl (by decide +kernel) ⟨Nat.le_of_ble_eq_true rfl, Nat.le_of_ble_eq_true rfl⟩) hPc hDc hKc hS hA hN (va_recv hKc hPc (ci := 7) (q0 := 0) rfl rfl) rfl hl.1 rfl (Nat.le_of_ble_eq_true rfl) dX5_settle_35 (fun H locs hP1 hD1 hk1 hS => ?_)
        obtain ⟨hP, hD⟩ := dn_X5_4 hP hD hzA hk1 hP1 hD1
        obtain ⟨s16, es16, h⟩ := nd_let_e h
        have hP : va_P (dC, dI) vwCl (dw_X5 a ac s16) H := by rw [es16]; exact hP
        have hD : va_D A (dw_X5 a ac s16) := by rw [es16]; exact hD
        refine lv_if_ne (tgt := 49) hx hb dX5_settle_38 (by decide) (fun c17 => ?_) (fun c17 => ?_)
        · have h := nd_neg h c17
          exact (db_X5_settle_49 C K J2) (x1) s16 _ _ _ h hP hD hS (lv_sub hl [0, 1] rfl)
        · have h := nd_pos h c17
          refine lv_aload_n hx hb dX5_settle_41 rfl (lv_at hl 0 rfl) ?_
          refine lv_iload_n hx hb dX5_settle_42 rfl (lv_at hl 1 rfl) ?_
          obtain ⟨q21, s22, hq, h⟩ := nd_b2_e h
          have hPc := hP
          have hDc := hD
          have hKc := hK
          have hFc := nd_rs hD hS hA
          refine nd_cVi (As := [.int x1]) (rest := []) (q := q21) (w' := dw_X5 a ac s22) ⟨hx, hb, hml, hown, hts⟩ (fun sz => dm_X5_mustWait l hlt dC dI a ac n (x1) s16 hq sz) (cwV 1 hts gi_dm_X5_settle_3 rfl rfl rfl (by decide +kernel) ⟨Nat.le_of_ble_eq_true rfl, Nat.le_of_ble_eq_true rfl⟩) hPc hDc hKc hS hA hN (va_recv hKc hPc (ci := 6) (q0 := 0) rfl rfl) rfl hl.1 rfl (Nat.le_of_ble_eq_true rfl) dX5_settle_43 (fun H locs hP1 hD1 hk1 hS => ?_)
          have hP := hP1
          have hD := hD1.weaken (fun k q _ h => hFc q.1 h)
          refine lv_if_ne (tgt := 74) hx hb dX5_settle_46 (by decide) (fun c24 => ?_) (fun c24 => ?_)
          · have h := nd_neg h c24
            exact (db_X5_settle_74 C K J2) (x1) s22 _ _ _ h hP hD hS (lv_sub hl [0, 1] rfl)
          · have h := nd_pos h c24
            exact (db_X5_settle_49 C K J2) (x1) s22 _ _ _ h hP hD hS (lv_sub hl [0, 1] rfl)
set_option maxHeartbeats 40000000 in
set_option maxRecDepth 100000 in
theorem db_X5_settle_2 {p : Program} {l : Launch} {e : Env} {s : State} {m : MethodId} {args : Array Value} {below : List Frame} {meth : Method} {c : Code} {Q : State → Prop} {A : Nat → Prop} {dC : Nat → ClassId} {dI : Nat → Nat → Nat} {a : Nat → Nat} {ac : Nat → ClassId} {n : Nat} {r : St × (St × (St × (St)))} (C : nd_C p l s m args c A (dC, dI) cX5_settle 2 RX5 ow_dm_X5_settle (dk_X5 ac)) (K : nd_Kv p l e (headSpec ow_dm_X5_settle ({ frames := 2, cells := 0, slots := 0, locals := 47 })).room s m args below meth c Q A (dC, dI) cX5_settle (St × (St × (St × (St)))) (dw_X5 a ac) r) (k : Nat) : dj_X5_settle_2 p l e s m args below meth c Q A dC dI a ac (df_X5_settle_2 n k) r := by
  induction k with
  | zero => intro x1 s0 H locs ls h; exact nomatch (show (none : Option (St × (St × (St × (St))))) = some r from h)
  | succ k ih => exact dB_X5_settle_2 C K ih
set_option maxHeartbeats 40000000 in
set_option maxRecDepth 100000 in
theorem db_X5_settle_0 {p : Program} {l : Launch} {e : Env} {s : State} {m : MethodId} {args : Array Value} {below : List Frame} {meth : Method} {c : Code} {Q : State → Prop} {A : Nat → Prop} {dC : Nat → ClassId} {dI : Nat → Nat → Nat} {a : Nat → Nat} {ac : Nat → ClassId} {n : Nat} {r : St × (St × (St × (St)))} (C : nd_C p l s m args c A (dC, dI) cX5_settle 2 RX5 ow_dm_X5_settle (dk_X5 ac)) (K : nd_Kv p l e (headSpec ow_dm_X5_settle ({ frames := 2, cells := 0, slots := 0, locals := 47 })).room s m args below meth c Q A (dC, dI) cX5_settle (St × (St × (St × (St)))) (dw_X5 a ac) r) : dj_X5_settle_0 p l e s m args below meth c Q A dC dI a ac (df_X5_settle_0 n) r := by
  obtain ⟨hlt, hx, hb, hml, hown, hts, hN, hA, hK⟩ := id C
  intro s0 H locs ls h hP hD hS hl
  unfold df_X5_settle_0 at h
  refine lv_iconst (v := 0) hx hb dX5_settle_0 (by decide) ?_
  refine lv_istore_n (lv' := [(1, .int 0), (0, .ref (a 0))]) hx hb dX5_settle_1 rfl hl (by decide) rfl (fun ls hl => ?_)
  exact (db_X5_settle_2 C K n) (0) s0 _ _ _ h hP hD hS (lv_sub hl [1, 0] rfl)
set_option maxHeartbeats 40000000 in
set_option maxRecDepth 100000 in
theorem dm_X5_settle (l : Launch) (hlt : l.stackTraces = false) (dC : Nat → ClassId) (dI : Nat → Nat → Nat) (a : Nat → Nat) (ac : Nat → ClassId) (n : Nat) (s0 : St × (St × (St × (St)))) {r : St × (St × (St × (St)))} (h : df_X5_settle n s0 = some r) (sz : Nat) : Met l yX5_settle ow_dm_X5_settle ({ frames := 2, cells := 0, slots := 0, locals := 47 }) (va_Pc [.ref (a 0)] (fun U => U.heap.size = sz ∧ va_P (dC, dI) vwCl (dw_X5 a ac s0) U.heap ∧ va_K (dC, dI) vwCl (dk_X5 ac) U ∧ va_D (fun _ => True) (dw_X5 a ac s0) ∧ nv_E dI (va_A (dw_X5 a ac s0) sz) U)) (va_Qv (fun _ => True) (fun (_ : Unit) t => va_P (dC, dI) vwCl (dw_X5 a ac r) t.heap ∧ va_K (dC, dI) vwCl (dk_X5 ac) t ∧ va_D (va_A (dw_X5 a ac s0) sz) (dw_X5 a ac r)) (va_A (dw_X5 a ac s0) sz)) 0 0 (va_A (dw_X5 a ac s0) sz) := by
  refine Met.ofW (cc := cX5_settle) (maxL := 2) (ret := none) (by decide) rfl ?_
  intro p e s m args below meth c s₁ B hml hv
  obtain ⟨rfl, hsz, hP, hK, hD0, hN⟩ := hv
  have hx := B.exec
  have hb := B.bytes
  have hr := B.returns
  have hts := atoms_spec (ws := ow_dm_X5_settle) B.pre
  have hown : s.vm.findClass RX5 = some m.cls := findClass_of_methodNamed B.named
  have hlocks := B.notSynchronized
  subst hsz
  have hD := hD0.self (sz := s.heap.size)
  generalize hAe : va_A (dw_X5 a ac s0) s.heap.size = A at hD hN ⊢
  have hA : ∀ q : Nat, s.heap.size ≤ q → A q := fun q h => by rw [← hAe]; exact Or.inr h
  have hl := lv_entry ([.ref (a 0)]) (n := 2) (Nat.le_of_ble_eq_true rfl)
  rw [lg_entry_eq]
  generalize (lg_sl ([.ref (a 0)]) ++ List.replicate (2 - (lg_sl ([.ref (a 0)])).length) Slot.unset).toArray = ls at hl ⊢
  have hl : lv_has ls 2 [(0, .ref (a 0))] := hl
  exact db_X5_settle_0 (dC := dC) (dI := dI) (a := a) (ac := ac) (n := n) (r := r) ⟨hlt, hx, hb, hml, hown, hts, hN, hA, hK⟩ (fun pc τ H locs ls d er hP hD hS => by subst er; exact W.vret hx hb hr (fun t ht hW => ⟨⟨(), rfl, trivial, by rw [ht]; exact hP, va_K.moved hW.alike hK, hD⟩, hS.F ht⟩) hS.2.2 d) s0 _ _ _ h hP hD va_S.rf (lv_sub hl [0] rfl)
def ow_dm_X5_take : List Cond := Cond.code yX5_take cX5_take 5 none :: ([Cond.fieldLink RX5 18 "TimeMachine$Kernel" "machine" "LTimeMachine$Machine;", Cond.fieldLink RX5 86 "TimeMachine$Machine" "handler" "[I", Cond.methodLink RX5 89 yX6_finish, Cond.instanceMethod yX6_finish, Cond.selects RX6 yX6_finish yX6_finish, Cond.initialized RX6, Cond.fieldLink RX5 33 "TimeMachine$Kernel" "reg" "[I", Cond.fieldLink RX5 93 "TimeMachine$Machine" "saved" "[I", Cond.methodLink RX5 96 arraycopyName, .native arraycopyName, Cond.static arraycopyName, Cond.initialized "java/lang/System", Cond.fieldLink RX5 37 "TimeMachine$Kernel" "self" "[I"] ++ (u_ws RX5 TX5 8 ++ (u_ws RX6 TX6 20 ++ (ow_dm_X6_finish ++ []))))
theorem gd_dm_X5_take : ∀ w ∈ ow_dm_X5_take, (w.onTables && w.keeps) = true ∨ ∃ ty, w = Cond.arrayClass ty := List.forall_mem_cons.mpr ⟨good_of_word rfl, List.forall_mem_append.mpr ⟨fun w h => good_of_word (List.all_eq_true.mp (by decide +kernel) w h), List.forall_mem_append.mpr ⟨gu_X5, List.forall_mem_append.mpr ⟨gu_X6, List.forall_mem_append.mpr ⟨gd_dm_X6_finish, fun _ h => nomatch h⟩⟩⟩⟩⟩
theorem hi_dm_X5_take_X5 : ∀ w ∈ u_ws RX5 TX5 8, w ∈ ow_dm_X5_take := fun w h => List.mem_cons_of_mem _ (List.mem_append_right _ (List.mem_append_left _ h))
theorem hi_dm_X5_take_X6 : ∀ w ∈ u_ws RX6 TX6 20, w ∈ ow_dm_X5_take := fun w h => List.mem_cons_of_mem _ (List.mem_append_right _ (List.mem_append_right _ (List.mem_append_left _ h)))
theorem gi_dm_X5_take_0 : GoodIn ow_dm_X5_take (wsV RX5 89 RX6 yX6_finish ow_dm_X6_finish) := goodIn_app (goodIn_of _ (by decide +kernel)) (fun w h => ⟨List.mem_cons_of_mem _ (List.mem_append_right _ (List.mem_append_right _ (List.mem_append_right _ (List.mem_append_left _ h)))), gd_dm_X6_finish w h⟩)
def dj_X5_take_25 (p : Program) (l : Launch) (e : Env) (s : State) (m : MethodId) (args : Array Value) (below : List Frame) (meth : Method) (c : Code) (Q : State → Prop) (A : Nat → Prop) (dC : Nat → ClassId) (dI : Nat → Nat → Nat) (a : Nat → Nat) (ac : Nat → ClassId) (g : Int32 → Int32 → (St × (St × (St × (St)))) → Option (St × (St × (St × (St))))) (r : St × (St × (St × (St)))) : Prop := ∀ (x1 : Int32) (x2 : Int32) (s0 : St × (St × (St × (St)))) (H : Heap) (locs : List Loc) (ls : Array Slot), g x1 x2 s0 = some r → va_P (dC, dI) vwCl (dw_X5 a ac s0) H → va_D A (dw_X5 a ac s0) → va_S A s.heap H locs → lv_has ls 5 [(0, .ref (a 0)), (1, .int x1), (2, .int x2)] → W p l e (headSpec ow_dm_X5_take ({ frames := 3, cells := 0, slots := 0, locals := 69 })).room s m args below meth c H locs 0 0 Q (F0 m 25 ls [])
def dj_X5_take_0 (p : Program) (l : Launch) (e : Env) (s : State) (m : MethodId) (args : Array Value) (below : List Frame) (meth : Method) (c : Code) (Q : State → Prop) (A : Nat → Prop) (dC : Nat → ClassId) (dI : Nat → Nat → Nat) (a : Nat → Nat) (ac : Nat → ClassId) (g : Int32 → Int32 → Int32 → (St × (St × (St × (St)))) → Option (St × (St × (St × (St))))) (r : St × (St × (St × (St)))) : Prop := ∀ (v0 : Int32) (v1 : Int32) (v2 : Int32) (s0 : St × (St × (St × (St)))) (H : Heap) (locs : List Loc) (ls : Array Slot), g v0 v1 v2 s0 = some r → va_P (dC, dI) vwCl (dw_X5 a ac s0) H → va_D A (dw_X5 a ac s0) → va_S A s.heap H locs → lv_has ls 5 [(0, .ref (a 0)), (1, .int v0), (2, .int v1), (3, .int v2)] → W p l e (headSpec ow_dm_X5_take ({ frames := 3, cells := 0, slots := 0, locals := 69 })).room s m args below meth c H locs 0 0 Q (F0 m 0 ls [])
set_option maxHeartbeats 40000000 in
set_option maxRecDepth 100000 in
theorem db_X5_take_25 {p : Program} {l : Launch} {e : Env} {s : State} {m : MethodId} {args : Array Value} {below : List Frame} {meth : Method} {c : Code} {Q : State → Prop} {A : Nat → Prop} {dC : Nat → ClassId} {dI : Nat → Nat → Nat} {a : Nat → Nat} {ac : Nat → ClassId} {n : Nat} {r : St × (St × (St × (St)))} (C : nd_C p l s m args c A (dC, dI) cX5_take 5 RX5 ow_dm_X5_take (dk_X5 ac)) (K : nd_Kv p l e (headSpec ow_dm_X5_take ({ frames := 3, cells := 0, slots := 0, locals := 69 })).room s m args below meth c Q A (dC, dI) cX5_take (St × (St × (St × (St)))) (dw_X5 a ac) r) : dj_X5_take_25 p l e s m args below meth c Q A dC dI a ac (df_X5_take_25 n) r := by
  obtain ⟨hlt, hx, hb, hml, hown, hts, hN, hA, hK⟩ := id C
  intro x1 x2 s0 H locs ls h hP hD hS hl
  unfold df_X5_take_25 at h
  refine lv_aload_n hx hb dX5_take_25 rfl (lv_at hl 0 rfl) ?_
  refine va_get (D := (dC, dI)) (ci := 6) (v := .ref (a 4)) (C := RX5) (T := TX5) (N := 8) hx hb hts hi_dm_X5_take_X5 hown hK hP 0 rfl rfl 0 (by decide) (hts (.fieldLink RX5 18 "TimeMachine$Kernel" "machine" "LTimeMachine$Machine;") (List.mem_of_getElem? (i := 1) rfl)) (fun _ h9 => h9) rfl dX5_take_26 ?_
  refine lv_iload_n hx hb dX5_take_29 rfl (lv_at hl 1 rfl) ?_
  refine lv_sipush (v := 128) hx hb dX5_take_30 (by decide) ?_
  refine lv_iload_n hx hb dX5_take_33 rfl (lv_at hl 2 rfl) ?_
  refine lv_iadd hx hb dX5_take_34 ?_
  obtain ⟨s5, hq, h⟩ := nd_b1_e h
  have hPc := dp_X5_4 hP
  have hDc := dd_X5_4 hD
  have hKc := dy_X5_4 hK
  have hFc := nd_rs hDc hS hA
  have hzA : ∀ q : Nat, H.size ≤ q → A q := fun q h => hA q (Nat.le_trans hS.1 h)
  refine nd_cVv (As := [.int x1, .int (128 + x2)]) (rest := []) (w' := dw_X6 (fun k => a (k + 4)) (fun k => ac (k + 4)) s5) ⟨hx, hb, hml, hown, hts⟩ (fun sz => dm_X6_finish l hlt dC dI (fun k => a (k + 4)) (fun k => ac (k + 4)) n (x1) ((128 + x2)) s0.2.2 hq sz) (cwV 2 hts gi_dm_X5_take_0 rfl rfl rfl (by decide +kernel) ⟨Nat.le_of_ble_eq_true rfl, Nat.le_of_ble_eq_true rfl⟩) hPc hDc hKc hS hA hN (va_recv hKc hPc (ci := 7) (q0 := 0) rfl rfl) rfl hl.1 rfl (Nat.le_of_ble_eq_true rfl) dX5_take_35 (fun H locs hP1 hD1 hk1 hS => ?_)
  obtain ⟨hP, hD⟩ := dn_X5_4 hP hD hzA hk1 hP1 hD1
  obtain ⟨s7, es7, h⟩ := nd_let_e h
  have hP : va_P (dC, dI) vwCl (dw_X5 a ac s7) H := by rw [es7]; exact hP
  have hD : va_D A (dw_X5 a ac s7) := by rw [es7]; exact hD
  exact K _ _ _ _ _ dX5_take_38 (Option.some.inj h).symm hP hD hS
set_option maxHeartbeats 40000000 in
set_option maxRecDepth 100000 in
theorem db_X5_take_0 {p : Program} {l : Launch} {e : Env} {s : State} {m : MethodId} {args : Array Value} {below : List Frame} {meth : Method} {c : Code} {Q : State → Prop} {A : Nat → Prop} {dC : Nat → ClassId} {dI : Nat → Nat → Nat} {a : Nat → Nat} {ac : Nat → ClassId} {n : Nat} {r : St × (St × (St × (St)))} (C : nd_C p l s m args c A (dC, dI) cX5_take 5 RX5 ow_dm_X5_take (dk_X5 ac)) (K : nd_Kv p l e (headSpec ow_dm_X5_take ({ frames := 3, cells := 0, slots := 0, locals := 69 })).room s m args below meth c Q A (dC, dI) cX5_take (St × (St × (St × (St)))) (dw_X5 a ac) r) : dj_X5_take_0 p l e s m args below meth c Q A dC dI a ac (df_X5_take_0 n) r := by
  obtain ⟨hlt, hx, hb, hml, hown, hts, hN, hA, hK⟩ := id C
  intro v0 v1 v2 s0 H locs ls h hP hD hS hl
  unfold df_X5_take_0 at h
  refine lv_aload_n hx hb dX5_take_0 rfl (lv_at hl 0 rfl) ?_
  refine va_get (D := (dC, dI)) (ci := 6) (v := .ref (a 4)) (C := RX5) (T := TX5) (N := 8) hx hb hts hi_dm_X5_take_X5 hown hK hP 0 rfl rfl 0 (by decide) (hts (.fieldLink RX5 18 "TimeMachine$Kernel" "machine" "LTimeMachine$Machine;") (List.mem_of_getElem? (i := 1) rfl)) (fun _ h9 => h9) rfl dX5_take_1 ?_
  refine va_get (D := (dC, dI)) (ci := 7) (v := .ref (a 10)) (C := RX6) (T := TX6) (N := 20) hx hb hts hi_dm_X5_take_X6 hown hK hP 4 rfl rfl 6 (by decide) (hts (.fieldLink RX5 86 "TimeMachine$Machine" "handler" "[I") (List.mem_of_getElem? (i := 2) rfl)) (fun _ h9 => h9) rfl dX5_take_4 ?_
  refine lv_iload_n hx hb dX5_take_7 rfl (lv_at hl 1 rfl) ?_
  refine lv_bipush (v := 16) hx hb dX5_take_8 (by decide) ?_
  refine lv_imul hx hb dX5_take_10 ?_
  refine lv_iload_n hx hb dX5_take_11 rfl (lv_at hl 2 rfl) ?_
  refine lv_iadd hx hb dX5_take_12 ?_
  obtain ⟨i1, h⟩ := nd_ck_e h
  refine va_iald (i := ((v0 * 16) + v1)) hx hb hK hP 10 7 rfl rfl i1 dX5_take_13 ?_
  refine lv_topi (fun z2 ez2 => ?_)
  have h := nd_at h ez2
  refine lv_istore (lv' := [(4, .int z2), (0, .ref (a 0)), (1, .int v0), (2, .int v1), (3, .int v2)]) hx hb dX5_take_14 hl (by decide) rfl (fun ls hl => ?_)
  refine lv_iload hx hb dX5_take_16 (lv_at hl 0 rfl) ?_
  refine lv_if_eq (tgt := 25) hx hb dX5_take_18 (by decide) (fun c3 => ?_) (fun c3 => ?_)
  · have h := nd_pos h c3
    exact (db_X5_take_25 C K) (v0) (v1) s0 _ _ _ h hP hD hS (lv_sub hl [1, 2, 3] rfl)
  · have h := nd_neg h c3
    refine lv_iload_n hx hb dX5_take_21 rfl (lv_at hl 4 rfl) ?_
    refine lv_if_eq (tgt := 39) hx hb dX5_take_22 (by decide) (fun c8 => ?_) (fun c8 => ?_)
    · have h := nd_pos h c8
      refine lv_aload_n hx hb dX5_take_39 rfl (lv_at hl 1 rfl) ?_
      refine va_get (D := (dC, dI)) (ci := 6) (v := .ref (a 8)) (C := RX5) (T := TX5) (N := 8) hx hb hts hi_dm_X5_take_X5 hown hK hP 0 rfl rfl 2 (by decide) (hts (.fieldLink RX5 33 "TimeMachine$Kernel" "reg" "[I") (List.mem_of_getElem? (i := 7) rfl)) (fun _ h9 => h9) rfl dX5_take_40 ?_
      refine lv_iload_n hx hb dX5_take_43 rfl (lv_at hl 2 rfl) ?_
      refine lv_bipush (v := 33) hx hb dX5_take_44 (by decide) ?_
      refine lv_imul hx hb dX5_take_46 ?_
      refine lv_aload_n hx hb dX5_take_47 rfl (lv_at hl 1 rfl) ?_
      refine va_get (D := (dC, dI)) (ci := 6) (v := .ref (a 4)) (C := RX5) (T := TX5) (N := 8) hx hb hts hi_dm_X5_take_X5 hown hK hP 0 rfl rfl 0 (by decide) (hts (.fieldLink RX5 18 "TimeMachine$Kernel" "machine" "LTimeMachine$Machine;") (List.mem_of_getElem? (i := 1) rfl)) (fun _ h9 => h9) rfl dX5_take_48 ?_
      refine va_get (D := (dC, dI)) (ci := 7) (v := .ref (a 9)) (C := RX6) (T := TX6) (N := 20) hx hb hts hi_dm_X5_take_X6 hown hK hP 4 rfl rfl 5 (by decide) (hts (.fieldLink RX5 93 "TimeMachine$Machine" "saved" "[I") (List.mem_of_getElem? (i := 8) rfl)) (fun _ h9 => h9) rfl dX5_take_51 ?_
      refine lv_iload_n hx hb dX5_take_54 rfl (lv_at hl 2 rfl) ?_
      refine lv_bipush (v := 33) hx hb dX5_take_55 (by decide) ?_
      refine lv_imul hx hb dX5_take_57 ?_
      refine lv_bipush (v := 33) hx hb dX5_take_58 (by decide) ?_
      obtain ⟨k9, h⟩ := nd_cp_e h
      refine va_copyi (sp := (v0 * 33)) (dp := (v0 * 33)) (n := 33) hx hb (by rw [hml]; exact hl.1.symm) hown (hts (.methodLink RX5 96 arraycopyName) (List.mem_of_getElem? (i := 9) rfl)) (hts (.native arraycopyName) (List.mem_of_getElem? (i := 10) rfl)) (hts (.static arraycopyName) (List.mem_of_getElem? (i := 11) rfl)) (hts (.initialized "java/lang/System") (List.mem_of_getElem? (i := 12) rfl)) hK hP hD hS 8 9 5 6 rfl rfl rfl rfl rfl k9.1 k9.2.1 k9.2.2.1 k9.2.2.2.1 k9.2.2.2.2 (fun _ _ => rfl) (Nat.le_of_ble_eq_true rfl) (by decide +kernel) dX5_take_60 (fun H locs hP hD hS => ?_)
      obtain ⟨s10, es10, h⟩ := nd_let_e h
      have hP : va_P (dC, dI) vwCl (dw_X5 a ac s10) H := by rw [es10]; exact hP
      have hD : va_D A (dw_X5 a ac s10) := by rw [es10]; exact hD
      refine lv_aload_n hx hb dX5_take_63 rfl (lv_at hl 1 rfl) ?_
      refine va_get (D := (dC, dI)) (ci := 6) (v := .ref (a 11)) (C := RX5) (T := TX5) (N := 8) hx hb hts hi_dm_X5_take_X5 hown hK hP 0 rfl rfl 3 (by decide) (hts (.fieldLink RX5 37 "TimeMachine$Kernel" "self" "[I") (List.mem_of_getElem? (i := 13) rfl)) (fun _ h9 => h9) rfl dX5_take_64 ?_
      refine lv_iload_n hx hb dX5_take_67 rfl (lv_at hl 2 rfl) ?_
      refine lv_bipush (v := 7) hx hb dX5_take_68 (by decide) ?_
      refine lv_imul hx hb dX5_take_70 ?_
      refine lv_iconst (v := 4) hx hb dX5_take_71 (by decide) ?_
      refine lv_iadd hx hb dX5_take_72 ?_
      refine lv_iconst (v := 1) hx hb dX5_take_73 (by decide) ?_
      obtain ⟨i11, h⟩ := nd_ck_e h
      refine va_iast (i := ((v0 * 7) + 4)) (x := 1) hx hb hK hP hD hS 11 8 rfl rfl i11 dX5_take_74 (fun H locs hP hD hS => ?_)
      obtain ⟨s12, es12, h⟩ := nd_let_e h
      have hP : va_P (dC, dI) vwCl (dw_X5 a ac s12) H := by rw [es12]; exact hP
      have hD : va_D A (dw_X5 a ac s12) := by rw [es12]; exact hD
      refine lv_aload_n hx hb dX5_take_75 rfl (lv_at hl 1 rfl) ?_
      refine va_get (D := (dC, dI)) (ci := 6) (v := .ref (a 8)) (C := RX5) (T := TX5) (N := 8) hx hb hts hi_dm_X5_take_X5 hown hK hP 0 rfl rfl 2 (by decide) (hts (.fieldLink RX5 33 "TimeMachine$Kernel" "reg" "[I") (List.mem_of_getElem? (i := 7) rfl)) (fun _ h9 => h9) rfl dX5_take_76 ?_
      refine lv_iload_n hx hb dX5_take_79 rfl (lv_at hl 2 rfl) ?_
      refine lv_bipush (v := 33) hx hb dX5_take_80 (by decide) ?_
      refine lv_imul hx hb dX5_take_82 ?_
      refine lv_bipush (v := 10) hx hb dX5_take_83 (by decide) ?_
      refine lv_iadd hx hb dX5_take_85 ?_
      refine lv_iload_n hx hb dX5_take_86 rfl (lv_at hl 3 rfl) ?_
      obtain ⟨i13, h⟩ := nd_ck_e h
      refine va_iast (i := ((v0 * 33) + 10)) (x := v1) hx hb hK hP hD hS 8 5 rfl rfl i13 dX5_take_87 (fun H locs hP hD hS => ?_)
      obtain ⟨s14, es14, h⟩ := nd_let_e h
      have hP : va_P (dC, dI) vwCl (dw_X5 a ac s14) H := by rw [es14]; exact hP
      have hD : va_D A (dw_X5 a ac s14) := by rw [es14]; exact hD
      refine lv_aload_n hx hb dX5_take_88 rfl (lv_at hl 1 rfl) ?_
      refine va_get (D := (dC, dI)) (ci := 6) (v := .ref (a 8)) (C := RX5) (T := TX5) (N := 8) hx hb hts hi_dm_X5_take_X5 hown hK hP 0 rfl rfl 2 (by decide) (hts (.fieldLink RX5 33 "TimeMachine$Kernel" "reg" "[I") (List.mem_of_getElem? (i := 7) rfl)) (fun _ h9 => h9) rfl dX5_take_89 ?_
      refine lv_iload_n hx hb dX5_take_92 rfl (lv_at hl 2 rfl) ?_
      refine lv_bipush (v := 33) hx hb dX5_take_93 (by decide) ?_
      refine lv_imul hx hb dX5_take_95 ?_
      refine lv_bipush (v := 32) hx hb dX5_take_96 (by decide) ?_
      refine lv_iadd hx hb dX5_take_98 ?_
      refine lv_iload hx hb dX5_take_99 (lv_at hl 0 rfl) ?_
      obtain ⟨i15, h⟩ := nd_ck_e h
      refine va_iast (i := ((v0 * 33) + 32)) (x := z2) hx hb hK hP hD hS 8 5 rfl rfl i15 dX5_take_101 (fun H locs hP hD hS => ?_)
      obtain ⟨s16, es16, h⟩ := nd_let_e h
      have hP : va_P (dC, dI) vwCl (dw_X5 a ac s16) H := by rw [es16]; exact hP
      have hD : va_D A (dw_X5 a ac s16) := by rw [es16]; exact hD
      exact K _ _ _ _ _ dX5_take_102 (Option.some.inj h).symm hP hD hS
    · have h := nd_neg h c8
      exact (db_X5_take_25 C K) (v0) (v1) s0 _ _ _ h hP hD hS (lv_sub hl [1, 2, 3] rfl)
set_option maxHeartbeats 40000000 in
set_option maxRecDepth 100000 in
theorem dm_X5_take (l : Launch) (hlt : l.stackTraces = false) (dC : Nat → ClassId) (dI : Nat → Nat → Nat) (a : Nat → Nat) (ac : Nat → ClassId) (n : Nat) (v0 : Int32) (v1 : Int32) (v2 : Int32) (s0 : St × (St × (St × (St)))) {r : St × (St × (St × (St)))} (h : df_X5_take n v0 v1 v2 s0 = some r) (sz : Nat) : Met l yX5_take ow_dm_X5_take ({ frames := 3, cells := 0, slots := 0, locals := 69 }) (va_Pc [.ref (a 0), .int v0, .int v1, .int v2] (fun U => U.heap.size = sz ∧ va_P (dC, dI) vwCl (dw_X5 a ac s0) U.heap ∧ va_K (dC, dI) vwCl (dk_X5 ac) U ∧ va_D (fun _ => True) (dw_X5 a ac s0) ∧ nv_E dI (va_A (dw_X5 a ac s0) sz) U)) (va_Qv (fun _ => True) (fun (_ : Unit) t => va_P (dC, dI) vwCl (dw_X5 a ac r) t.heap ∧ va_K (dC, dI) vwCl (dk_X5 ac) t ∧ va_D (va_A (dw_X5 a ac s0) sz) (dw_X5 a ac r)) (va_A (dw_X5 a ac s0) sz)) 0 0 (va_A (dw_X5 a ac s0) sz) := by
  refine Met.ofW (cc := cX5_take) (maxL := 5) (ret := none) (by decide) rfl ?_
  intro p e s m args below meth c s₁ B hml hv
  obtain ⟨rfl, hsz, hP, hK, hD0, hN⟩ := hv
  have hx := B.exec
  have hb := B.bytes
  have hr := B.returns
  have hts := atoms_spec (ws := ow_dm_X5_take) B.pre
  have hown : s.vm.findClass RX5 = some m.cls := findClass_of_methodNamed B.named
  have hlocks := B.notSynchronized
  subst hsz
  have hD := hD0.self (sz := s.heap.size)
  generalize hAe : va_A (dw_X5 a ac s0) s.heap.size = A at hD hN ⊢
  have hA : ∀ q : Nat, s.heap.size ≤ q → A q := fun q h => by rw [← hAe]; exact Or.inr h
  have hl := lv_entry ([.ref (a 0), .int v0, .int v1, .int v2]) (n := 5) (Nat.le_of_ble_eq_true rfl)
  rw [lg_entry_eq]
  generalize (lg_sl ([.ref (a 0), .int v0, .int v1, .int v2]) ++ List.replicate (5 - (lg_sl ([.ref (a 0), .int v0, .int v1, .int v2])).length) Slot.unset).toArray = ls at hl ⊢
  have hl : lv_has ls 5 [(0, .ref (a 0)), (1, .int v0), (2, .int v1), (3, .int v2)] := hl
  exact db_X5_take_0 (dC := dC) (dI := dI) (a := a) (ac := ac) (n := n) (r := r) ⟨hlt, hx, hb, hml, hown, hts, hN, hA, hK⟩ (fun pc τ H locs ls d er hP hD hS => by subst er; exact W.vret hx hb hr (fun t ht hW => ⟨⟨(), rfl, trivial, by rw [ht]; exact hP, va_K.moved hW.alike hK, hD⟩, hS.F ht⟩) hS.2.2 d) v0 v1 v2 s0 _ _ _ h hP hD va_S.rf (lv_sub hl [0, 1, 2, 3] rfl)
def ow_dm_X5_fork : List Cond := Cond.code yX5_fork cX5_fork 3 (some .long) :: ([Cond.constantLong RX5 228 (-4), Cond.fieldLink RX5 18 "TimeMachine$Kernel" "machine" "LTimeMachine$Machine;", Cond.methodLink RX5 105 yX6_status, Cond.instanceMethod yX6_status, Cond.selects RX6 yX6_status yX6_status, Cond.initialized RX6, Cond.methodLink RX5 223 yX6_fork, Cond.instanceMethod yX6_fork, Cond.selects RX6 yX6_fork yX6_fork, Cond.fieldLink RX5 28 "TimeMachine$Kernel" "things" "LTimeMachine$Things;", Cond.methodLink RX5 225 yX10_share, Cond.instanceMethod yX10_share, Cond.selects RX10 yX10_share yX10_share, Cond.initialized RX10] ++ (u_ws RX5 TX5 8 ++ (ow_dm_X6_status ++ (ow_dm_X6_fork ++ (ow_dm_X10_share ++ [])))))
theorem gd_dm_X5_fork : ∀ w ∈ ow_dm_X5_fork, (w.onTables && w.keeps) = true ∨ ∃ ty, w = Cond.arrayClass ty := List.forall_mem_cons.mpr ⟨good_of_word rfl, List.forall_mem_append.mpr ⟨fun w h => good_of_word (List.all_eq_true.mp (by decide +kernel) w h), List.forall_mem_append.mpr ⟨gu_X5, List.forall_mem_append.mpr ⟨gd_dm_X6_status, List.forall_mem_append.mpr ⟨gd_dm_X6_fork, List.forall_mem_append.mpr ⟨gd_dm_X10_share, fun _ h => nomatch h⟩⟩⟩⟩⟩⟩
theorem hi_dm_X5_fork_X5 : ∀ w ∈ u_ws RX5 TX5 8, w ∈ ow_dm_X5_fork := fun w h => List.mem_cons_of_mem _ (List.mem_append_right _ (List.mem_append_left _ h))
theorem gi_dm_X5_fork_0 : GoodIn ow_dm_X5_fork (wsV RX5 105 RX6 yX6_status ow_dm_X6_status) := goodIn_app (goodIn_of _ (by decide +kernel)) (fun w h => ⟨List.mem_cons_of_mem _ (List.mem_append_right _ (List.mem_append_right _ (List.mem_append_left _ h))), gd_dm_X6_status w h⟩)
theorem gi_dm_X5_fork_1 : GoodIn ow_dm_X5_fork (wsV RX5 223 RX6 yX6_fork ow_dm_X6_fork) := goodIn_app (goodIn_of _ (by decide +kernel)) (fun w h => ⟨List.mem_cons_of_mem _ (List.mem_append_right _ (List.mem_append_right _ (List.mem_append_right _ (List.mem_append_left _ h)))), gd_dm_X6_fork w h⟩)
theorem gi_dm_X5_fork_2 : GoodIn ow_dm_X5_fork (wsV RX5 225 RX10 yX10_share ow_dm_X10_share) := goodIn_app (goodIn_of _ (by decide +kernel)) (fun w h => ⟨List.mem_cons_of_mem _ (List.mem_append_right _ (List.mem_append_right _ (List.mem_append_right _ (List.mem_append_right _ (List.mem_append_left _ h))))), gd_dm_X10_share w h⟩)
def dj_X5_fork_2 (p : Program) (l : Launch) (e : Env) (s : State) (m : MethodId) (args : Array Value) (below : List Frame) (meth : Method) (c : Code) (Q : State → Prop) (A : Nat → Prop) (dC : Nat → ClassId) (dI : Nat → Nat → Nat) (a : Nat → Nat) (ac : Nat → ClassId) (g : Int32 → Int32 → (St × (St × (St × (St)))) → Option (Int64 × (St × (St × (St × (St)))))) (r : Int64 × (St × (St × (St × (St))))) : Prop := ∀ (x1 : Int32) (x2 : Int32) (s0 : St × (St × (St × (St)))) (H : Heap) (locs : List Loc) (ls : Array Slot), g x1 x2 s0 = some r → va_P (dC, dI) vwCl (dw_X5 a ac s0) H → va_D A (dw_X5 a ac s0) → va_S A s.heap H locs → lv_has ls 3 [(0, .ref (a 0)), (1, .int x1), (2, .int x2)] → W p l e (headSpec ow_dm_X5_fork ({ frames := 2, cells := 0, slots := 0, locals := 63 })).room s m args below meth c H locs 0 0 Q (F0 m 2 ls [])
def dj_X5_fork_0 (p : Program) (l : Launch) (e : Env) (s : State) (m : MethodId) (args : Array Value) (below : List Frame) (meth : Method) (c : Code) (Q : State → Prop) (A : Nat → Prop) (dC : Nat → ClassId) (dI : Nat → Nat → Nat) (a : Nat → Nat) (ac : Nat → ClassId) (g : Int32 → (St × (St × (St × (St)))) → Option (Int64 × (St × (St × (St × (St)))))) (r : Int64 × (St × (St × (St × (St))))) : Prop := ∀ (v0 : Int32) (s0 : St × (St × (St × (St)))) (H : Heap) (locs : List Loc) (ls : Array Slot), g v0 s0 = some r → va_P (dC, dI) vwCl (dw_X5 a ac s0) H → va_D A (dw_X5 a ac s0) → va_S A s.heap H locs → lv_has ls 3 [(0, .ref (a 0)), (1, .int v0)] → W p l e (headSpec ow_dm_X5_fork ({ frames := 2, cells := 0, slots := 0, locals := 63 })).room s m args below meth c H locs 0 0 Q (F0 m 0 ls [])
set_option maxHeartbeats 40000000 in
set_option maxRecDepth 100000 in
theorem dB_X5_fork_2 {p : Program} {l : Launch} {e : Env} {s : State} {m : MethodId} {args : Array Value} {below : List Frame} {meth : Method} {c : Code} {Q : State → Prop} {A : Nat → Prop} {dC : Nat → ClassId} {dI : Nat → Nat → Nat} {a : Nat → Nat} {ac : Nat → ClassId} {n : Nat} {r : Int64 × (St × (St × (St × (St))))} (C : nd_C p l s m args c A (dC, dI) cX5_fork 3 RX5 ow_dm_X5_fork (dk_X5 ac)) (K : nd_Kl p l e (headSpec ow_dm_X5_fork ({ frames := 2, cells := 0, slots := 0, locals := 63 })).room s m args below meth c Q A (dC, dI) cX5_fork (St × (St × (St × (St)))) (dw_X5 a ac) r) {g2 : Int32 → Int32 → (St × (St × (St × (St)))) → Option (Int64 × (St × (St × (St × (St)))))} (J2 : dj_X5_fork_2 p l e s m args below meth c Q A dC dI a ac g2 r) : dj_X5_fork_2 p l e s m args below meth c Q A dC dI a ac (dF_X5_fork_2 n g2) r := by
  obtain ⟨hlt, hx, hb, hml, hown, hts, hN, hA, hK⟩ := id C
  intro x1 x2 s0 H locs ls h hP hD hS hl
  unfold dF_X5_fork_2 at h
  refine lv_iload_n hx hb dX5_fork_2 rfl (lv_at hl 2 rfl) ?_
  refine lv_bipush (v := 16) hx hb dX5_fork_3 (by decide) ?_
  refine lv_icmp_ge (tgt := 46) hx hb dX5_fork_5 (by decide) (fun c1 => ?_) (fun c1 => ?_)
  · have h := nd_pos h c1
    refine lv_ldc2 hx hb hown (hts (.constantLong RX5 228 (-4)) (List.mem_of_getElem? (i := 1) rfl)) dX5_fork_46 ?_
    exact K _ _ _ _ _ _ dX5_fork_49 (Option.some.inj h).symm hP hD hS
  · have h := nd_neg h c1
    refine lv_aload_n hx hb dX5_fork_8 rfl (lv_at hl 0 rfl) ?_
    refine va_get (D := (dC, dI)) (ci := 6) (v := .ref (a 4)) (C := RX5) (T := TX5) (N := 8) hx hb hts hi_dm_X5_fork_X5 hown hK hP 0 rfl rfl 0 (by decide) (hts (.fieldLink RX5 18 "TimeMachine$Kernel" "machine" "LTimeMachine$Machine;") (List.mem_of_getElem? (i := 2) rfl)) (fun _ h9 => h9) rfl dX5_fork_9 ?_
    refine lv_iload_n hx hb dX5_fork_12 rfl (lv_at hl 2 rfl) ?_
    obtain ⟨q2, s3, hq, h⟩ := nd_b2_e h
    have hPc := dp_X5_4 hP
    have hDc := dd_X5_4 hD
    have hKc := dy_X5_4 hK
    have hFc := nd_rs hDc hS hA
    have hzA : ∀ q : Nat, H.size ≤ q → A q := fun q h => hA q (Nat.le_trans hS.1 h)
    refine nd_cVi (As := [.int x2]) (rest := []) (q := q2) (w' := dw_X6 (fun k => a (k + 4)) (fun k => ac (k + 4)) s3) ⟨hx, hb, hml, hown, hts⟩ (fun sz => dm_X6_status l hlt dC dI (fun k => a (k + 4)) (fun k => ac (k + 4)) n (x2) s0.2.2 hq sz) (cwV 1 hts gi_dm_X5_fork_0 rfl rfl rfl (by decide +kernel) ⟨Nat.le_of_ble_eq_true rfl, Nat.le_of_ble_eq_true rfl⟩) hPc hDc hKc hS hA hN (va_recv hKc hPc (ci := 7) (q0 := 0) rfl rfl) rfl hl.1 rfl (Nat.le_of_ble_eq_true rfl) dX5_fork_13 (fun H locs hP1 hD1 hk1 hS => ?_)
    obtain ⟨hP, hD⟩ := dn_X5_4 hP hD hzA hk1 hP1 hD1
    obtain ⟨s5, es5, h⟩ := nd_let_e h
    have hP : va_P (dC, dI) vwCl (dw_X5 a ac s5) H := by rw [es5]; exact hP
    have hD : va_D A (dw_X5 a ac s5) := by rw [es5]; exact hD
    refine lv_if_ne (tgt := 40) hx hb dX5_fork_16 (by decide) (fun c6 => ?_) (fun c6 => ?_)
    · have h := nd_neg h c6
      obtain ⟨z7, ez7, h⟩ := nd_let_e h
      refine lv_iinc (v := z7) (lv' := [(2, .int z7), (0, .ref (a 0)), (1, .int x1)]) hx hb dX5_fork_40 hl (k := 2) rfl (by rw [ez7]) (by decide) rfl (fun ls hl => ?_)
      refine lv_goto (tgt := 2) hx hb dX5_fork_43 (by decide) ?_
      exact (J2) (x1) (z7) s5 _ _ _ h hP hD hS (lv_sub hl [1, 2, 0] rfl)
    · have h := nd_pos h c6
      refine lv_aload_n hx hb dX5_fork_19 rfl (lv_at hl 0 rfl) ?_
      refine va_get (D := (dC, dI)) (ci := 6) (v := .ref (a 4)) (C := RX5) (T := TX5) (N := 8) hx hb hts hi_dm_X5_fork_X5 hown hK hP 0 rfl rfl 0 (by decide) (hts (.fieldLink RX5 18 "TimeMachine$Kernel" "machine" "LTimeMachine$Machine;") (List.mem_of_getElem? (i := 2) rfl)) (fun _ h9 => h9) rfl dX5_fork_20 ?_
      refine lv_iload_n hx hb dX5_fork_23 rfl (lv_at hl 1 rfl) ?_
      refine lv_iload_n hx hb dX5_fork_24 rfl (lv_at hl 2 rfl) ?_
      obtain ⟨s9, hq, h⟩ := nd_b1_e h
      have hPc := dp_X5_4 hP
      have hDc := dd_X5_4 hD
      have hKc := dy_X5_4 hK
      have hFc := nd_rs hDc hS hA
      have hzA : ∀ q : Nat, H.size ≤ q → A q := fun q h => hA q (Nat.le_trans hS.1 h)
      refine nd_cVv (As := [.int x1, .int x2]) (rest := []) (w' := dw_X6 (fun k => a (k + 4)) (fun k => ac (k + 4)) s9) ⟨hx, hb, hml, hown, hts⟩ (fun sz => dm_X6_fork l hlt dC dI (fun k => a (k + 4)) (fun k => ac (k + 4)) n (x1) (x2) s5.2.2 hq sz) (cwV 2 hts gi_dm_X5_fork_1 rfl rfl rfl (by decide +kernel) ⟨Nat.le_of_ble_eq_true rfl, Nat.le_of_ble_eq_true rfl⟩) hPc hDc hKc hS hA hN (va_recv hKc hPc (ci := 7) (q0 := 0) rfl rfl) rfl hl.1 rfl (Nat.le_of_ble_eq_true rfl) dX5_fork_25 (fun H locs hP1 hD1 hk1 hS => ?_)
      obtain ⟨hP, hD⟩ := dn_X5_4 hP hD hzA hk1 hP1 hD1
      obtain ⟨s11, es11, h⟩ := nd_let_e h
      have hP : va_P (dC, dI) vwCl (dw_X5 a ac s11) H := by rw [es11]; exact hP
      have hD : va_D A (dw_X5 a ac s11) := by rw [es11]; exact hD
      refine lv_aload_n hx hb dX5_fork_28 rfl (lv_at hl 0 rfl) ?_
      refine va_get (D := (dC, dI)) (ci := 6) (v := .ref (a 14)) (C := RX5) (T := TX5) (N := 8) hx hb hts hi_dm_X5_fork_X5 hown hK hP 0 rfl rfl 1 (by decide) (hts (.fieldLink RX5 28 "TimeMachine$Kernel" "things" "LTimeMachine$Things;") (List.mem_of_getElem? (i := 10) rfl)) (fun _ h9 => h9) rfl dX5_fork_29 ?_
      refine lv_iload_n hx hb dX5_fork_32 rfl (lv_at hl 1 rfl) ?_
      refine lv_iload_n hx hb dX5_fork_33 rfl (lv_at hl 2 rfl) ?_
      obtain ⟨s13, hq, h⟩ := nd_b1_e h
      have hPc := dp_X5_14 hP
      have hDc := dd_X5_14 hD
      have hKc := dy_X5_14 hK
      have hFc := nd_rs hDc hS hA
      have hzA : ∀ q : Nat, H.size ≤ q → A q := fun q h => hA q (Nat.le_trans hS.1 h)
      refine nd_cVv (As := [.int x1, .int x2]) (rest := []) (w' := dw_X10 (fun k => a (k + 14)) (fun k => ac (k + 14)) s13) ⟨hx, hb, hml, hown, hts⟩ (fun sz => dm_X10_share l hlt dC dI (fun k => a (k + 14)) (fun k => ac (k + 14)) n (x1) (x2) s11.2.2.2 hq sz) (cwV 2 hts gi_dm_X5_fork_2 rfl rfl rfl (by decide +kernel) ⟨Nat.le_of_ble_eq_true rfl, Nat.le_of_ble_eq_true rfl⟩) hPc hDc hKc hS hA hN (va_recv hKc hPc (ci := 11) (q0 := 0) rfl rfl) rfl hl.1 rfl (Nat.le_of_ble_eq_true rfl) dX5_fork_34 (fun H locs hP1 hD1 hk1 hS => ?_)
      obtain ⟨hP, hD⟩ := dn_X5_14 hP hD hzA hk1 hP1 hD1
      obtain ⟨s15, es15, h⟩ := nd_let_e h
      have hP : va_P (dC, dI) vwCl (dw_X5 a ac s15) H := by rw [es15]; exact hP
      have hD : va_D A (dw_X5 a ac s15) := by rw [es15]; exact hD
      refine lv_iload_n hx hb dX5_fork_37 rfl (lv_at hl 2 rfl) ?_
      refine lv_i2l hx hb dX5_fork_38 rfl ?_
      exact K _ _ _ _ _ _ dX5_fork_39 (Option.some.inj h).symm hP hD hS
set_option maxHeartbeats 40000000 in
set_option maxRecDepth 100000 in
theorem db_X5_fork_2 {p : Program} {l : Launch} {e : Env} {s : State} {m : MethodId} {args : Array Value} {below : List Frame} {meth : Method} {c : Code} {Q : State → Prop} {A : Nat → Prop} {dC : Nat → ClassId} {dI : Nat → Nat → Nat} {a : Nat → Nat} {ac : Nat → ClassId} {n : Nat} {r : Int64 × (St × (St × (St × (St))))} (C : nd_C p l s m args c A (dC, dI) cX5_fork 3 RX5 ow_dm_X5_fork (dk_X5 ac)) (K : nd_Kl p l e (headSpec ow_dm_X5_fork ({ frames := 2, cells := 0, slots := 0, locals := 63 })).room s m args below meth c Q A (dC, dI) cX5_fork (St × (St × (St × (St)))) (dw_X5 a ac) r) (k : Nat) : dj_X5_fork_2 p l e s m args below meth c Q A dC dI a ac (df_X5_fork_2 n k) r := by
  induction k with
  | zero => intro x1 x2 s0 H locs ls h; exact nomatch (show (none : Option (Int64 × (St × (St × (St × (St)))))) = some r from h)
  | succ k ih => exact dB_X5_fork_2 C K ih
set_option maxHeartbeats 40000000 in
set_option maxRecDepth 100000 in
theorem db_X5_fork_0 {p : Program} {l : Launch} {e : Env} {s : State} {m : MethodId} {args : Array Value} {below : List Frame} {meth : Method} {c : Code} {Q : State → Prop} {A : Nat → Prop} {dC : Nat → ClassId} {dI : Nat → Nat → Nat} {a : Nat → Nat} {ac : Nat → ClassId} {n : Nat} {r : Int64 × (St × (St × (St × (St))))} (C : nd_C p l s m args c A (dC, dI) cX5_fork 3 RX5 ow_dm_X5_fork (dk_X5 ac)) (K : nd_Kl p l e (headSpec ow_dm_X5_fork ({ frames := 2, cells := 0, slots := 0, locals := 63 })).room s m args below meth c Q A (dC, dI) cX5_fork (St × (St × (St × (St)))) (dw_X5 a ac) r) : dj_X5_fork_0 p l e s m args below meth c Q A dC dI a ac (df_X5_fork_0 n) r := by
  obtain ⟨hlt, hx, hb, hml, hown, hts, hN, hA, hK⟩ := id C
  intro v0 s0 H locs ls h hP hD hS hl
  unfold df_X5_fork_0 at h
  refine lv_iconst (v := 0) hx hb dX5_fork_0 (by decide) ?_
  refine lv_istore_n (lv' := [(2, .int 0), (0, .ref (a 0)), (1, .int v0)]) hx hb dX5_fork_1 rfl hl (by decide) rfl (fun ls hl => ?_)
  exact (db_X5_fork_2 C K n) (v0) (0) s0 _ _ _ h hP hD hS (lv_sub hl [1, 2, 0] rfl)
set_option maxHeartbeats 40000000 in
set_option maxRecDepth 100000 in
theorem dm_X5_fork (l : Launch) (hlt : l.stackTraces = false) (dC : Nat → ClassId) (dI : Nat → Nat → Nat) (a : Nat → Nat) (ac : Nat → ClassId) (n : Nat) (v0 : Int32) (s0 : St × (St × (St × (St)))) {r : Int64 × (St × (St × (St × (St))))} (h : df_X5_fork n v0 s0 = some r) (sz : Nat) : Met l yX5_fork ow_dm_X5_fork ({ frames := 2, cells := 0, slots := 0, locals := 63 }) (va_Pc [.ref (a 0), .int v0] (fun U => U.heap.size = sz ∧ va_P (dC, dI) vwCl (dw_X5 a ac s0) U.heap ∧ va_K (dC, dI) vwCl (dk_X5 ac) U ∧ va_D (fun _ => True) (dw_X5 a ac s0) ∧ nv_E dI (va_A (dw_X5 a ac s0) sz) U)) (va_Ql (fun x _ => x = r.1) (fun (_ : Unit) t => va_P (dC, dI) vwCl (dw_X5 a ac r.2) t.heap ∧ va_K (dC, dI) vwCl (dk_X5 ac) t ∧ va_D (va_A (dw_X5 a ac s0) sz) (dw_X5 a ac r.2)) (va_A (dw_X5 a ac s0) sz)) 0 0 (va_A (dw_X5 a ac s0) sz) := by
  refine Met.ofW (cc := cX5_fork) (maxL := 3) (ret := (some .long)) (by decide) rfl ?_
  intro p e s m args below meth c s₁ B hml hv
  obtain ⟨rfl, hsz, hP, hK, hD0, hN⟩ := hv
  have hx := B.exec
  have hb := B.bytes
  have hr := B.returns
  have hts := atoms_spec (ws := ow_dm_X5_fork) B.pre
  have hown : s.vm.findClass RX5 = some m.cls := findClass_of_methodNamed B.named
  have hlocks := B.notSynchronized
  subst hsz
  have hD := hD0.self (sz := s.heap.size)
  generalize hAe : va_A (dw_X5 a ac s0) s.heap.size = A at hD hN ⊢
  have hA : ∀ q : Nat, s.heap.size ≤ q → A q := fun q h => by rw [← hAe]; exact Or.inr h
  have hl := lv_entry ([.ref (a 0), .int v0]) (n := 3) (Nat.le_of_ble_eq_true rfl)
  rw [lg_entry_eq]
  generalize (lg_sl ([.ref (a 0), .int v0]) ++ List.replicate (3 - (lg_sl ([.ref (a 0), .int v0])).length) Slot.unset).toArray = ls at hl ⊢
  have hl : lv_has ls 3 [(0, .ref (a 0)), (1, .int v0)] := hl
  exact db_X5_fork_0 (dC := dC) (dI := dI) (a := a) (ac := ac) (n := n) (r := r) ⟨hlt, hx, hb, hml, hown, hts, hN, hA, hK⟩ (fun pc v τ H locs ls d er hP hD hS => by subst er; exact W.lret (v := v) hx hb hr (fun t ht hW => ⟨⟨v, (), rfl, rfl, by rw [ht]; exact hP, va_K.moved hW.alike hK, hD⟩, hS.F ht⟩) hS.2.2 d) v0 s0 _ _ _ h hP hD va_S.rf (lv_sub hl [0, 1] rfl)
def ow_dm_X5_waitForChild : List Cond := Cond.code yX5_waitForChild cX5_waitForChild 4 (some .long) :: ([Cond.fieldLink RX5 18 "TimeMachine$Kernel" "machine" "LTimeMachine$Machine;", Cond.methodLink RX5 119 yX6_leastChild, Cond.instanceMethod yX6_leastChild, Cond.selects RX6 yX6_leastChild yX6_leastChild, Cond.initialized RX6, Cond.fieldLink RX5 37 "TimeMachine$Kernel" "self" "[I", Cond.methodLink RX5 248 yX6_makeAbsent, Cond.instanceMethod yX6_makeAbsent, Cond.selects RX6 yX6_makeAbsent yX6_makeAbsent, Cond.constantLong RX5 157 (1099511627776), Cond.constantLong RX5 246 (-10)] ++ (u_ws RX5 TX5 8 ++ (ow_dm_X6_leastChild ++ (ow_dm_X6_makeAbsent ++ []))))
theorem gd_dm_X5_waitForChild : ∀ w ∈ ow_dm_X5_waitForChild, (w.onTables && w.keeps) = true ∨ ∃ ty, w = Cond.arrayClass ty := List.forall_mem_cons.mpr ⟨good_of_word rfl, List.forall_mem_append.mpr ⟨fun w h => good_of_word (List.all_eq_true.mp (by decide +kernel) w h), List.forall_mem_append.mpr ⟨gu_X5, List.forall_mem_append.mpr ⟨gd_dm_X6_leastChild, List.forall_mem_append.mpr ⟨gd_dm_X6_makeAbsent, fun _ h => nomatch h⟩⟩⟩⟩⟩
theorem hi_dm_X5_waitForChild_X5 : ∀ w ∈ u_ws RX5 TX5 8, w ∈ ow_dm_X5_waitForChild := fun w h => List.mem_cons_of_mem _ (List.mem_append_right _ (List.mem_append_left _ h))
theorem gi_dm_X5_waitForChild_0 : GoodIn ow_dm_X5_waitForChild (wsV RX5 119 RX6 yX6_leastChild ow_dm_X6_leastChild) := goodIn_app (goodIn_of _ (by decide +kernel)) (fun w h => ⟨List.mem_cons_of_mem _ (List.mem_append_right _ (List.mem_append_right _ (List.mem_append_left _ h))), gd_dm_X6_leastChild w h⟩)
theorem gi_dm_X5_waitForChild_1 : GoodIn ow_dm_X5_waitForChild (wsV RX5 248 RX6 yX6_makeAbsent ow_dm_X6_makeAbsent) := goodIn_app (goodIn_of _ (by decide +kernel)) (fun w h => ⟨List.mem_cons_of_mem _ (List.mem_append_right _ (List.mem_append_right _ (List.mem_append_right _ (List.mem_append_left _ h)))), gd_dm_X6_makeAbsent w h⟩)
def dj_X5_waitForChild_0 (p : Program) (l : Launch) (e : Env) (s : State) (m : MethodId) (args : Array Value) (below : List Frame) (meth : Method) (c : Code) (Q : State → Prop) (A : Nat → Prop) (dC : Nat → ClassId) (dI : Nat → Nat → Nat) (a : Nat → Nat) (ac : Nat → ClassId) (g : Int32 → (St × (St × (St × (St)))) → Option (Int64 × (St × (St × (St × (St)))))) (r : Int64 × (St × (St × (St × (St))))) : Prop := ∀ (v0 : Int32) (s0 : St × (St × (St × (St)))) (H : Heap) (locs : List Loc) (ls : Array Slot), g v0 s0 = some r → va_P (dC, dI) vwCl (dw_X5 a ac s0) H → va_D A (dw_X5 a ac s0) → va_S A s.heap H locs → lv_has ls 4 [(0, .ref (a 0)), (1, .int v0)] → W p l e (headSpec ow_dm_X5_waitForChild ({ frames := 1, cells := 0, slots := 0, locals := 24 })).room s m args below meth c H locs 0 0 Q (F0 m 0 ls [])
set_option maxHeartbeats 40000000 in
set_option maxRecDepth 100000 in
theorem db_X5_waitForChild_0 {p : Program} {l : Launch} {e : Env} {s : State} {m : MethodId} {args : Array Value} {below : List Frame} {meth : Method} {c : Code} {Q : State → Prop} {A : Nat → Prop} {dC : Nat → ClassId} {dI : Nat → Nat → Nat} {a : Nat → Nat} {ac : Nat → ClassId} {n : Nat} {r : Int64 × (St × (St × (St × (St))))} (C : nd_C p l s m args c A (dC, dI) cX5_waitForChild 4 RX5 ow_dm_X5_waitForChild (dk_X5 ac)) (K : nd_Kl p l e (headSpec ow_dm_X5_waitForChild ({ frames := 1, cells := 0, slots := 0, locals := 24 })).room s m args below meth c Q A (dC, dI) cX5_waitForChild (St × (St × (St × (St)))) (dw_X5 a ac) r) : dj_X5_waitForChild_0 p l e s m args below meth c Q A dC dI a ac (df_X5_waitForChild_0 n) r := by
  obtain ⟨hlt, hx, hb, hml, hown, hts, hN, hA, hK⟩ := id C
  intro v0 s0 H locs ls h hP hD hS hl
  unfold df_X5_waitForChild_0 at h
  refine lv_aload_n hx hb dX5_waitForChild_0 rfl (lv_at hl 0 rfl) ?_
  refine va_get (D := (dC, dI)) (ci := 6) (v := .ref (a 4)) (C := RX5) (T := TX5) (N := 8) hx hb hts hi_dm_X5_waitForChild_X5 hown hK hP 0 rfl rfl 0 (by decide) (hts (.fieldLink RX5 18 "TimeMachine$Kernel" "machine" "LTimeMachine$Machine;") (List.mem_of_getElem? (i := 1) rfl)) (fun _ h9 => h9) rfl dX5_waitForChild_1 ?_
  refine lv_iload_n hx hb dX5_waitForChild_4 rfl (lv_at hl 1 rfl) ?_
  refine lv_iconst (v := 1) hx hb dX5_waitForChild_5 (by decide) ?_
  obtain ⟨q1, s2, hq, h⟩ := nd_b2_e h
  have hPc := dp_X5_4 hP
  have hDc := dd_X5_4 hD
  have hKc := dy_X5_4 hK
  have hFc := nd_rs hDc hS hA
  have hzA : ∀ q : Nat, H.size ≤ q → A q := fun q h => hA q (Nat.le_trans hS.1 h)
  refine nd_cVi (As := [.int v0, .int 1]) (rest := []) (q := q1) (w' := dw_X6 (fun k => a (k + 4)) (fun k => ac (k + 4)) s2) ⟨hx, hb, hml, hown, hts⟩ (fun sz => dm_X6_leastChild l hlt dC dI (fun k => a (k + 4)) (fun k => ac (k + 4)) n (v0) (1) s0.2.2 hq sz) (cwV 2 hts gi_dm_X5_waitForChild_0 rfl rfl rfl (by decide +kernel) ⟨Nat.le_of_ble_eq_true rfl, Nat.le_of_ble_eq_true rfl⟩) hPc hDc hKc hS hA hN (va_recv hKc hPc (ci := 7) (q0 := 0) rfl rfl) rfl hl.1 rfl (Nat.le_of_ble_eq_true rfl) dX5_waitForChild_6 (fun H locs hP1 hD1 hk1 hS => ?_)
  obtain ⟨hP, hD⟩ := dn_X5_4 hP hD hzA hk1 hP1 hD1
  obtain ⟨s4, es4, h⟩ := nd_let_e h
  have hP : va_P (dC, dI) vwCl (dw_X5 a ac s4) H := by rw [es4]; exact hP
  have hD : va_D A (dw_X5 a ac s4) := by rw [es4]; exact hD
  refine lv_if_ge (tgt := 16) hx hb dX5_waitForChild_9 (by decide) (fun c5 => ?_) (fun c5 => ?_)
  · have h := nd_pos h c5
    refine lv_aload_n hx hb dX5_waitForChild_16 rfl (lv_at hl 0 rfl) ?_
    refine va_get (D := (dC, dI)) (ci := 6) (v := .ref (a 4)) (C := RX5) (T := TX5) (N := 8) hx hb hts hi_dm_X5_waitForChild_X5 hown hK hP 0 rfl rfl 0 (by decide) (hts (.fieldLink RX5 18 "TimeMachine$Kernel" "machine" "LTimeMachine$Machine;") (List.mem_of_getElem? (i := 1) rfl)) (fun _ h9 => h9) rfl dX5_waitForChild_17 ?_
    refine lv_iload_n hx hb dX5_waitForChild_20 rfl (lv_at hl 1 rfl) ?_
    refine lv_iconst (v := 0) hx hb dX5_waitForChild_21 (by decide) ?_
    obtain ⟨q6, s7, hq, h⟩ := nd_b2_e h
    have hPc := dp_X5_4 hP
    have hDc := dd_X5_4 hD
    have hKc := dy_X5_4 hK
    have hFc := nd_rs hDc hS hA
    have hzA : ∀ q : Nat, H.size ≤ q → A q := fun q h => hA q (Nat.le_trans hS.1 h)
    refine nd_cVi (As := [.int v0, .int 0]) (rest := []) (q := q6) (w' := dw_X6 (fun k => a (k + 4)) (fun k => ac (k + 4)) s7) ⟨hx, hb, hml, hown, hts⟩ (fun sz => dm_X6_leastChild l hlt dC dI (fun k => a (k + 4)) (fun k => ac (k + 4)) n (v0) (0) s4.2.2 hq sz) (cwV 2 hts gi_dm_X5_waitForChild_0 rfl rfl rfl (by decide +kernel) ⟨Nat.le_of_ble_eq_true rfl, Nat.le_of_ble_eq_true rfl⟩) hPc hDc hKc hS hA hN (va_recv hKc hPc (ci := 7) (q0 := 0) rfl rfl) rfl hl.1 rfl (Nat.le_of_ble_eq_true rfl) dX5_waitForChild_22 (fun H locs hP1 hD1 hk1 hS => ?_)
    obtain ⟨hP, hD⟩ := dn_X5_4 hP hD hzA hk1 hP1 hD1
    obtain ⟨s9, es9, h⟩ := nd_let_e h
    have hP : va_P (dC, dI) vwCl (dw_X5 a ac s9) H := by rw [es9]; exact hP
    have hD : va_D A (dw_X5 a ac s9) := by rw [es9]; exact hD
    refine lv_istore_n (lv' := [(2, .int q6), (0, .ref (a 0)), (1, .int v0)]) hx hb dX5_waitForChild_25 rfl hl (by decide) rfl (fun ls hl => ?_)
    refine lv_iload_n hx hb dX5_waitForChild_26 rfl (lv_at hl 0 rfl) ?_
    refine lv_if_ge (tgt := 34) hx hb dX5_waitForChild_27 (by decide) (fun c10 => ?_) (fun c10 => ?_)
    · have h := nd_pos h c10
      refine lv_aload_n hx hb dX5_waitForChild_34 rfl (lv_at hl 1 rfl) ?_
      refine va_get (D := (dC, dI)) (ci := 6) (v := .ref (a 11)) (C := RX5) (T := TX5) (N := 8) hx hb hts hi_dm_X5_waitForChild_X5 hown hK hP 0 rfl rfl 3 (by decide) (hts (.fieldLink RX5 37 "TimeMachine$Kernel" "self" "[I") (List.mem_of_getElem? (i := 6) rfl)) (fun _ h9 => h9) rfl dX5_waitForChild_35 ?_
      refine lv_iload_n hx hb dX5_waitForChild_38 rfl (lv_at hl 0 rfl) ?_
      refine lv_bipush (v := 7) hx hb dX5_waitForChild_39 (by decide) ?_
      refine lv_imul hx hb dX5_waitForChild_41 ?_
      refine lv_iconst (v := 2) hx hb dX5_waitForChild_42 (by decide) ?_
      refine lv_iadd hx hb dX5_waitForChild_43 ?_
      obtain ⟨i11, h⟩ := nd_ck_e h
      refine va_iald (i := ((q6 * 7) + 2)) hx hb hK hP 11 8 rfl rfl i11 dX5_waitForChild_44 ?_
      refine lv_topi (fun z12 ez12 => ?_)
      have h := nd_at h ez12
      refine lv_istore_n (lv' := [(3, .int z12), (2, .int q6), (0, .ref (a 0)), (1, .int v0)]) hx hb dX5_waitForChild_45 rfl hl (by decide) rfl (fun ls hl => ?_)
      refine lv_aload_n hx hb dX5_waitForChild_46 rfl (lv_at hl 2 rfl) ?_
      refine va_get (D := (dC, dI)) (ci := 6) (v := .ref (a 4)) (C := RX5) (T := TX5) (N := 8) hx hb hts hi_dm_X5_waitForChild_X5 hown hK hP 0 rfl rfl 0 (by decide) (hts (.fieldLink RX5 18 "TimeMachine$Kernel" "machine" "LTimeMachine$Machine;") (List.mem_of_getElem? (i := 1) rfl)) (fun _ h9 => h9) rfl dX5_waitForChild_47 ?_
      refine lv_iload_n hx hb dX5_waitForChild_50 rfl (lv_at hl 1 rfl) ?_
      obtain ⟨s14, hq, h⟩ := nd_b1_e h
      have hPc := dp_X5_4 hP
      have hDc := dd_X5_4 hD
      have hKc := dy_X5_4 hK
      have hFc := nd_rs hDc hS hA
      have hzA : ∀ q : Nat, H.size ≤ q → A q := fun q h => hA q (Nat.le_trans hS.1 h)
      refine nd_cVv (As := [.int q6]) (rest := []) (w' := dw_X6 (fun k => a (k + 4)) (fun k => ac (k + 4)) s14) ⟨hx, hb, hml, hown, hts⟩ (fun sz => dm_X6_makeAbsent l hlt dC dI (fun k => a (k + 4)) (fun k => ac (k + 4)) n (q6) s9.2.2 hq sz) (cwV 1 hts gi_dm_X5_waitForChild_1 rfl rfl rfl (by decide +kernel) ⟨Nat.le_of_ble_eq_true rfl, Nat.le_of_ble_eq_true rfl⟩) hPc hDc hKc hS hA hN (va_recv hKc hPc (ci := 7) (q0 := 0) rfl rfl) rfl hl.1 rfl (Nat.le_of_ble_eq_true rfl) dX5_waitForChild_51 (fun H locs hP1 hD1 hk1 hS => ?_)
      obtain ⟨hP, hD⟩ := dn_X5_4 hP hD hzA hk1 hP1 hD1
      obtain ⟨s16, es16, h⟩ := nd_let_e h
      have hP : va_P (dC, dI) vwCl (dw_X5 a ac s16) H := by rw [es16]; exact hP
      have hD : va_D A (dw_X5 a ac s16) := by rw [es16]; exact hD
      refine lv_iload_n hx hb dX5_waitForChild_54 rfl (lv_at hl 1 rfl) ?_
      refine lv_sipush (v := 256) hx hb dX5_waitForChild_55 (by decide) ?_
      refine lv_iload_n hx hb dX5_waitForChild_58 rfl (lv_at hl 0 rfl) ?_
      refine lv_imul hx hb dX5_waitForChild_59 ?_
      refine lv_iadd hx hb dX5_waitForChild_60 ?_
      refine lv_i2l hx hb dX5_waitForChild_61 rfl ?_
      exact K _ _ _ _ _ _ dX5_waitForChild_62 (Option.some.inj h).symm hP hD hS
    · have h := nd_neg h c10
      refine lv_ldc2 hx hb hown (hts (.constantLong RX5 157 (1099511627776)) (List.mem_of_getElem? (i := 10) rfl)) dX5_waitForChild_30 ?_
      exact K _ _ _ _ _ _ dX5_waitForChild_33 (Option.some.inj h).symm hP hD hS
  · have h := nd_neg h c5
    refine lv_ldc2 hx hb hown (hts (.constantLong RX5 246 (-10)) (List.mem_of_getElem? (i := 11) rfl)) dX5_waitForChild_12 ?_
    exact K _ _ _ _ _ _ dX5_waitForChild_15 (Option.some.inj h).symm hP hD hS
set_option maxHeartbeats 40000000 in
set_option maxRecDepth 100000 in
theorem dm_X5_waitForChild (l : Launch) (hlt : l.stackTraces = false) (dC : Nat → ClassId) (dI : Nat → Nat → Nat) (a : Nat → Nat) (ac : Nat → ClassId) (n : Nat) (v0 : Int32) (s0 : St × (St × (St × (St)))) {r : Int64 × (St × (St × (St × (St))))} (h : df_X5_waitForChild n v0 s0 = some r) (sz : Nat) : Met l yX5_waitForChild ow_dm_X5_waitForChild ({ frames := 1, cells := 0, slots := 0, locals := 24 }) (va_Pc [.ref (a 0), .int v0] (fun U => U.heap.size = sz ∧ va_P (dC, dI) vwCl (dw_X5 a ac s0) U.heap ∧ va_K (dC, dI) vwCl (dk_X5 ac) U ∧ va_D (fun _ => True) (dw_X5 a ac s0) ∧ nv_E dI (va_A (dw_X5 a ac s0) sz) U)) (va_Ql (fun x _ => x = r.1) (fun (_ : Unit) t => va_P (dC, dI) vwCl (dw_X5 a ac r.2) t.heap ∧ va_K (dC, dI) vwCl (dk_X5 ac) t ∧ va_D (va_A (dw_X5 a ac s0) sz) (dw_X5 a ac r.2)) (va_A (dw_X5 a ac s0) sz)) 0 0 (va_A (dw_X5 a ac s0) sz) := by
  refine Met.ofW (cc := cX5_waitForChild) (maxL := 4) (ret := (some .long)) (by decide) rfl ?_
  intro p e s m args below meth c s₁ B hml hv
  obtain ⟨rfl, hsz, hP, hK, hD0, hN⟩ := hv
  have hx := B.exec
  have hb := B.bytes
  have hr := B.returns
  have hts := atoms_spec (ws := ow_dm_X5_waitForChild) B.pre
  have hown : s.vm.findClass RX5 = some m.cls := findClass_of_methodNamed B.named
  have hlocks := B.notSynchronized
  subst hsz
  have hD := hD0.self (sz := s.heap.size)
  generalize hAe : va_A (dw_X5 a ac s0) s.heap.size = A at hD hN ⊢
  have hA : ∀ q : Nat, s.heap.size ≤ q → A q := fun q h => by rw [← hAe]; exact Or.inr h
  have hl := lv_entry ([.ref (a 0), .int v0]) (n := 4) (Nat.le_of_ble_eq_true rfl)
  rw [lg_entry_eq]
  generalize (lg_sl ([.ref (a 0), .int v0]) ++ List.replicate (4 - (lg_sl ([.ref (a 0), .int v0])).length) Slot.unset).toArray = ls at hl ⊢
  have hl : lv_has ls 4 [(0, .ref (a 0)), (1, .int v0)] := hl
  exact db_X5_waitForChild_0 (dC := dC) (dI := dI) (a := a) (ac := ac) (n := n) (r := r) ⟨hlt, hx, hb, hml, hown, hts, hN, hA, hK⟩ (fun pc v τ H locs ls d er hP hD hS => by subst er; exact W.lret (v := v) hx hb hr (fun t ht hW => ⟨⟨v, (), rfl, rfl, by rw [ht]; exact hP, va_K.moved hW.alike hK, hD⟩, hS.F ht⟩) hS.2.2 d) v0 s0 _ _ _ h hP hD va_S.rf (lv_sub hl [0, 1] rfl)
def ow_dm_X5_pipe : List Cond := Cond.code yX5_pipe cX5_pipe 6 (some .long) :: ([Cond.fieldLink RX5 18 "TimeMachine$Kernel" "machine" "LTimeMachine$Machine;", Cond.methodLink RX5 253 yX6_mayAll, Cond.instanceMethod yX6_mayAll, Cond.selects RX6 yX6_mayAll yX6_mayAll, Cond.initialized RX6, Cond.fieldLink RX5 28 "TimeMachine$Kernel" "things" "LTimeMachine$Things;", Cond.methodLink RX5 259 yX10_freeLink, Cond.instanceMethod yX10_freeLink, Cond.selects RX10 yX10_freeLink yX10_freeLink, Cond.initialized RX10, Cond.methodLink RX5 262 yX10_freePipe, Cond.instanceMethod yX10_freePipe, Cond.selects RX10 yX10_freePipe yX10_freePipe, Cond.constantLong RX5 228 (-4), Cond.methodLink RX5 265 yX10_openingsFree, Cond.instanceMethod yX10_openingsFree, Cond.selects RX10 yX10_openingsFree yX10_openingsFree, Cond.methodLink RX5 268 yX6_framesFor, Cond.instanceMethod yX6_framesFor, Cond.selects RX6 yX6_framesFor yX6_framesFor, Cond.methodLink RX5 232 yX6_framesFree, Cond.instanceMethod yX6_framesFree, Cond.selects RX6 yX6_framesFree yX6_framesFree, Cond.methodLink RX5 272 yX6_own, Cond.instanceMethod yX6_own, Cond.selects RX6 yX6_own yX6_own, Cond.methodLink RX5 275 yX10_emptyPipe, Cond.instanceMethod yX10_emptyPipe, Cond.selects RX10 yX10_emptyPipe yX10_emptyPipe, Cond.methodLink RX5 278 yX10_open, Cond.instanceMethod yX10_open, Cond.selects RX10 yX10_open yX10_open, Cond.methodLink RX5 280 yX10_linkTo, Cond.instanceMethod yX10_linkTo, Cond.selects RX10 yX10_linkTo yX10_linkTo, Cond.methodLink RX5 284 yX6_put, Cond.instanceMethod yX6_put, Cond.selects RX6 yX6_put yX6_put, Cond.methodLink RX5 288 yX6_noteWrite, Cond.instanceMethod yX6_noteWrite, Cond.selects RX6 yX6_noteWrite yX6_noteWrite, Cond.constantLong RX5 155 (4398046511104), Cond.constantLong RX5 257 (-14), Cond.constantLong RX5 251 (-22)] ++ (u_ws RX5 TX5 8 ++ (ow_dm_X6_mayAll ++ (ow_dm_X10_freeLink ++ (ow_dm_X10_freePipe ++ (ow_dm_X10_openingsFree ++ (ow_dm_X6_framesFor ++ (ow_dm_X6_framesFree ++ (ow_dm_X6_own ++ (ow_dm_X10_emptyPipe ++ (ow_dm_X10_open ++ (ow_dm_X10_linkTo ++ (ow_dm_X6_put ++ (ow_dm_X6_noteWrite ++ []))))))))))))))
theorem gd_dm_X5_pipe : ∀ w ∈ ow_dm_X5_pipe, (w.onTables && w.keeps) = true ∨ ∃ ty, w = Cond.arrayClass ty := List.forall_mem_cons.mpr ⟨good_of_word rfl, List.forall_mem_append.mpr ⟨fun w h => good_of_word (List.all_eq_true.mp (by decide +kernel) w h), List.forall_mem_append.mpr ⟨gu_X5, List.forall_mem_append.mpr ⟨gd_dm_X6_mayAll, List.forall_mem_append.mpr ⟨gd_dm_X10_freeLink, List.forall_mem_append.mpr ⟨gd_dm_X10_freePipe, List.forall_mem_append.mpr ⟨gd_dm_X10_openingsFree, List.forall_mem_append.mpr ⟨gd_dm_X6_framesFor, List.forall_mem_append.mpr ⟨gd_dm_X6_framesFree, List.forall_mem_append.mpr ⟨gd_dm_X6_own, List.forall_mem_append.mpr ⟨gd_dm_X10_emptyPipe, List.forall_mem_append.mpr ⟨gd_dm_X10_open, List.forall_mem_append.mpr ⟨gd_dm_X10_linkTo, List.forall_mem_append.mpr ⟨gd_dm_X6_put, List.forall_mem_append.mpr ⟨gd_dm_X6_noteWrite, fun _ h => nomatch h⟩⟩⟩⟩⟩⟩⟩⟩⟩⟩⟩⟩⟩⟩⟩
theorem hi_dm_X5_pipe_X5 : ∀ w ∈ u_ws RX5 TX5 8, w ∈ ow_dm_X5_pipe := fun w h => List.mem_cons_of_mem _ (List.mem_append_right _ (List.mem_append_left _ h))
theorem gi_dm_X5_pipe_0 : GoodIn ow_dm_X5_pipe (wsV RX5 253 RX6 yX6_mayAll ow_dm_X6_mayAll) := goodIn_app (goodIn_of _ (by decide +kernel)) (fun w h => ⟨List.mem_cons_of_mem _ (List.mem_append_right _ (List.mem_append_right _ (List.mem_append_left _ h))), gd_dm_X6_mayAll w h⟩)
theorem gi_dm_X5_pipe_1 : GoodIn ow_dm_X5_pipe (wsV RX5 259 RX10 yX10_freeLink ow_dm_X10_freeLink) := goodIn_app (goodIn_of _ (by decide +kernel)) (fun w h => ⟨List.mem_cons_of_mem _ (List.mem_append_right _ (List.mem_append_right _ (List.mem_append_right _ (List.mem_append_left _ h)))), gd_dm_X10_freeLink w h⟩)
theorem gi_dm_X5_pipe_2 : GoodIn ow_dm_X5_pipe (wsV RX5 262 RX10 yX10_freePipe ow_dm_X10_freePipe) := goodIn_app (goodIn_of _ (by decide +kernel)) (fun w h => ⟨List.mem_cons_of_mem _ (List.mem_append_right _ (List.mem_append_right _ (List.mem_append_right _ (List.mem_append_right _ (List.mem_append_left _ h))))), gd_dm_X10_freePipe w h⟩)
theorem gi_dm_X5_pipe_3 : GoodIn ow_dm_X5_pipe (wsV RX5 265 RX10 yX10_openingsFree ow_dm_X10_openingsFree) := goodIn_app (goodIn_of _ (by decide +kernel)) (fun w h => ⟨List.mem_cons_of_mem _ (List.mem_append_right _ (List.mem_append_right _ (List.mem_append_right _ (List.mem_append_right _ (List.mem_append_right _ (List.mem_append_left _ h)))))), gd_dm_X10_openingsFree w h⟩)
theorem gi_dm_X5_pipe_4 : GoodIn ow_dm_X5_pipe (wsV RX5 268 RX6 yX6_framesFor ow_dm_X6_framesFor) := goodIn_app (goodIn_of _ (by decide +kernel)) (fun w h => ⟨List.mem_cons_of_mem _ (List.mem_append_right _ (List.mem_append_right _ (List.mem_append_right _ (List.mem_append_right _ (List.mem_append_right _ (List.mem_append_right _ (List.mem_append_left _ h))))))), gd_dm_X6_framesFor w h⟩)
theorem gi_dm_X5_pipe_5 : GoodIn ow_dm_X5_pipe (wsV RX5 232 RX6 yX6_framesFree ow_dm_X6_framesFree) := goodIn_app (goodIn_of _ (by decide +kernel)) (fun w h => ⟨List.mem_cons_of_mem _ (List.mem_append_right _ (List.mem_append_right _ (List.mem_append_right _ (List.mem_append_right _ (List.mem_append_right _ (List.mem_append_right _ (List.mem_append_right _ (List.mem_append_left _ h)))))))), gd_dm_X6_framesFree w h⟩)
theorem gi_dm_X5_pipe_6 : GoodIn ow_dm_X5_pipe (wsV RX5 272 RX6 yX6_own ow_dm_X6_own) := goodIn_app (goodIn_of _ (by decide +kernel)) (fun w h => ⟨List.mem_cons_of_mem _ (List.mem_append_right _ (List.mem_append_right _ (List.mem_append_right _ (List.mem_append_right _ (List.mem_append_right _ (List.mem_append_right _ (List.mem_append_right _ (List.mem_append_right _ (List.mem_append_left _ h))))))))), gd_dm_X6_own w h⟩)
theorem gi_dm_X5_pipe_7 : GoodIn ow_dm_X5_pipe (wsV RX5 275 RX10 yX10_emptyPipe ow_dm_X10_emptyPipe) := goodIn_app (goodIn_of _ (by decide +kernel)) (fun w h => ⟨List.mem_cons_of_mem _ (List.mem_append_right _ (List.mem_append_right _ (List.mem_append_right _ (List.mem_append_right _ (List.mem_append_right _ (List.mem_append_right _ (List.mem_append_right _ (List.mem_append_right _ (List.mem_append_right _ (List.mem_append_left _ h)))))))))), gd_dm_X10_emptyPipe w h⟩)
theorem gi_dm_X5_pipe_8 : GoodIn ow_dm_X5_pipe (wsV RX5 278 RX10 yX10_open ow_dm_X10_open) := goodIn_app (goodIn_of _ (by decide +kernel)) (fun w h => ⟨List.mem_cons_of_mem _ (List.mem_append_right _ (List.mem_append_right _ (List.mem_append_right _ (List.mem_append_right _ (List.mem_append_right _ (List.mem_append_right _ (List.mem_append_right _ (List.mem_append_right _ (List.mem_append_right _ (List.mem_append_right _ (List.mem_append_left _ h))))))))))), gd_dm_X10_open w h⟩)
theorem gi_dm_X5_pipe_9 : GoodIn ow_dm_X5_pipe (wsV RX5 280 RX10 yX10_linkTo ow_dm_X10_linkTo) := goodIn_app (goodIn_of _ (by decide +kernel)) (fun w h => ⟨List.mem_cons_of_mem _ (List.mem_append_right _ (List.mem_append_right _ (List.mem_append_right _ (List.mem_append_right _ (List.mem_append_right _ (List.mem_append_right _ (List.mem_append_right _ (List.mem_append_right _ (List.mem_append_right _ (List.mem_append_right _ (List.mem_append_right _ (List.mem_append_left _ h)))))))))))), gd_dm_X10_linkTo w h⟩)
theorem gi_dm_X5_pipe_10 : GoodIn ow_dm_X5_pipe (wsV RX5 284 RX6 yX6_put ow_dm_X6_put) := goodIn_app (goodIn_of _ (by decide +kernel)) (fun w h => ⟨List.mem_cons_of_mem _ (List.mem_append_right _ (List.mem_append_right _ (List.mem_append_right _ (List.mem_append_right _ (List.mem_append_right _ (List.mem_append_right _ (List.mem_append_right _ (List.mem_append_right _ (List.mem_append_right _ (List.mem_append_right _ (List.mem_append_right _ (List.mem_append_right _ (List.mem_append_left _ h))))))))))))), gd_dm_X6_put w h⟩)
theorem gi_dm_X5_pipe_11 : GoodIn ow_dm_X5_pipe (wsV RX5 288 RX6 yX6_noteWrite ow_dm_X6_noteWrite) := goodIn_app (goodIn_of _ (by decide +kernel)) (fun w h => ⟨List.mem_cons_of_mem _ (List.mem_append_right _ (List.mem_append_right _ (List.mem_append_right _ (List.mem_append_right _ (List.mem_append_right _ (List.mem_append_right _ (List.mem_append_right _ (List.mem_append_right _ (List.mem_append_right _ (List.mem_append_right _ (List.mem_append_right _ (List.mem_append_right _ (List.mem_append_right _ (List.mem_append_left _ h)))))))))))))), gd_dm_X6_noteWrite w h⟩)
def dj_X5_pipe_90 (p : Program) (l : Launch) (e : Env) (s : State) (m : MethodId) (args : Array Value) (below : List Frame) (meth : Method) (c : Code) (Q : State → Prop) (A : Nat → Prop) (dC : Nat → ClassId) (dI : Nat → Nat → Nat) (a : Nat → Nat) (ac : Nat → ClassId) (g : (St × (St × (St × (St)))) → Option (Int64 × (St × (St × (St × (St)))))) (r : Int64 × (St × (St × (St × (St))))) : Prop := ∀ (s0 : St × (St × (St × (St)))) (H : Heap) (locs : List Loc) (ls : Array Slot), g s0 = some r → va_P (dC, dI) vwCl (dw_X5 a ac s0) H → va_D A (dw_X5 a ac s0) → va_S A s.heap H locs → lv_has ls 6 [] → W p l e (headSpec ow_dm_X5_pipe ({ frames := 2, cells := 0, slots := 0, locals := 65 })).room s m args below meth c H locs 0 0 Q (F0 m 90 ls [])
def dj_X5_pipe_58 (p : Program) (l : Launch) (e : Env) (s : State) (m : MethodId) (args : Array Value) (below : List Frame) (meth : Method) (c : Code) (Q : State → Prop) (A : Nat → Prop) (dC : Nat → ClassId) (dI : Nat → Nat → Nat) (a : Nat → Nat) (ac : Nat → ClassId) (g : Int32 → Int32 → Int32 → Int32 → (St × (St × (St × (St)))) → Option (Int64 × (St × (St × (St × (St)))))) (r : Int64 × (St × (St × (St × (St))))) : Prop := ∀ (x1 : Int32) (x2 : Int32) (x3 : Int32) (y0 : Int32) (s0 : St × (St × (St × (St)))) (H : Heap) (locs : List Loc) (ls : Array Slot), g x1 x2 x3 y0 s0 = some r → va_P (dC, dI) vwCl (dw_X5 a ac s0) H → va_D A (dw_X5 a ac s0) → va_S A s.heap H locs → lv_has ls 6 [(0, .ref (a 0)), (1, .int x1), (2, .int x2), (3, .int x3)] → W p l e (headSpec ow_dm_X5_pipe ({ frames := 2, cells := 0, slots := 0, locals := 65 })).room s m args below meth c H locs 0 0 Q (F0 m 58 ls [.int y0])
def dj_X5_pipe_0 (p : Program) (l : Launch) (e : Env) (s : State) (m : MethodId) (args : Array Value) (below : List Frame) (meth : Method) (c : Code) (Q : State → Prop) (A : Nat → Prop) (dC : Nat → ClassId) (dI : Nat → Nat → Nat) (a : Nat → Nat) (ac : Nat → ClassId) (g : Int32 → Int32 → (St × (St × (St × (St)))) → Option (Int64 × (St × (St × (St × (St)))))) (r : Int64 × (St × (St × (St × (St))))) : Prop := ∀ (v0 : Int32) (v1 : Int32) (s0 : St × (St × (St × (St)))) (H : Heap) (locs : List Loc) (ls : Array Slot), g v0 v1 s0 = some r → va_P (dC, dI) vwCl (dw_X5 a ac s0) H → va_D A (dw_X5 a ac s0) → va_S A s.heap H locs → lv_has ls 6 [(0, .ref (a 0)), (1, .int v0), (2, .int v1)] → W p l e (headSpec ow_dm_X5_pipe ({ frames := 2, cells := 0, slots := 0, locals := 65 })).room s m args below meth c H locs 0 0 Q (F0 m 0 ls [])
set_option maxHeartbeats 40000000 in
set_option maxRecDepth 100000 in
theorem db_X5_pipe_90 {p : Program} {l : Launch} {e : Env} {s : State} {m : MethodId} {args : Array Value} {below : List Frame} {meth : Method} {c : Code} {Q : State → Prop} {A : Nat → Prop} {dC : Nat → ClassId} {dI : Nat → Nat → Nat} {a : Nat → Nat} {ac : Nat → ClassId} {n : Nat} {r : Int64 × (St × (St × (St × (St))))} (C : nd_C p l s m args c A (dC, dI) cX5_pipe 6 RX5 ow_dm_X5_pipe (dk_X5 ac)) (K : nd_Kl p l e (headSpec ow_dm_X5_pipe ({ frames := 2, cells := 0, slots := 0, locals := 65 })).room s m args below meth c Q A (dC, dI) cX5_pipe (St × (St × (St × (St)))) (dw_X5 a ac) r) : dj_X5_pipe_90 p l e s m args below meth c Q A dC dI a ac (df_X5_pipe_90 n) r := by
  obtain ⟨hlt, hx, hb, hml, hown, hts, hN, hA, hK⟩ := id C
  intro s0 H locs ls h hP hD hS hl
  unfold df_X5_pipe_90 at h
  refine lv_ldc2 hx hb hown (hts (.constantLong RX5 228 (-4)) (List.mem_of_getElem? (i := 14) rfl)) dX5_pipe_90 ?_
  exact K _ _ _ _ _ _ dX5_pipe_93 (Option.some.inj h).symm hP hD hS
set_option maxHeartbeats 40000000 in
set_option maxRecDepth 100000 in
theorem db_X5_pipe_58 {p : Program} {l : Launch} {e : Env} {s : State} {m : MethodId} {args : Array Value} {below : List Frame} {meth : Method} {c : Code} {Q : State → Prop} {A : Nat → Prop} {dC : Nat → ClassId} {dI : Nat → Nat → Nat} {a : Nat → Nat} {ac : Nat → ClassId} {n : Nat} {r : Int64 × (St × (St × (St × (St))))} (C : nd_C p l s m args c A (dC, dI) cX5_pipe 6 RX5 ow_dm_X5_pipe (dk_X5 ac)) (K : nd_Kl p l e (headSpec ow_dm_X5_pipe ({ frames := 2, cells := 0, slots := 0, locals := 65 })).room s m args below meth c Q A (dC, dI) cX5_pipe (St × (St × (St × (St)))) (dw_X5 a ac) r) : dj_X5_pipe_58 p l e s m args below meth c Q A dC dI a ac (df_X5_pipe_58 n) r := by
  obtain ⟨hlt, hx, hb, hml, hown, hts, hN, hA, hK⟩ := id C
  intro x1 x2 x3 y0 s0 H locs ls h hP hD hS hl
  unfold df_X5_pipe_58 at h
  refine lv_istore (lv' := [(4, .int y0), (0, .ref (a 0)), (1, .int x1), (2, .int x2), (3, .int x3)]) hx hb dX5_pipe_58 hl (by decide) rfl (fun ls hl => ?_)
  refine lv_aload_n hx hb dX5_pipe_60 rfl (lv_at hl 1 rfl) ?_
  refine va_get (D := (dC, dI)) (ci := 6) (v := .ref (a 14)) (C := RX5) (T := TX5) (N := 8) hx hb hts hi_dm_X5_pipe_X5 hown hK hP 0 rfl rfl 1 (by decide) (hts (.fieldLink RX5 28 "TimeMachine$Kernel" "things" "LTimeMachine$Things;") (List.mem_of_getElem? (i := 6) rfl)) (fun _ h9 => h9) rfl dX5_pipe_61 ?_
  obtain ⟨q16, s17, hq, h⟩ := nd_b2_e h
  have hPc := dp_X5_14 hP
  have hDc := dd_X5_14 hD
  have hKc := dy_X5_14 hK
  have hFc := nd_rs hDc hS hA
  have hzA : ∀ q : Nat, H.size ≤ q → A q := fun q h => hA q (Nat.le_trans hS.1 h)
  refine nd_cVi (As := []) (rest := []) (q := q16) (w' := dw_X10 (fun k => a (k + 14)) (fun k => ac (k + 14)) s17) ⟨hx, hb, hml, hown, hts⟩ (fun sz => dm_X10_freePipe l hlt dC dI (fun k => a (k + 14)) (fun k => ac (k + 14)) n  s0.2.2.2 hq sz) (cwV 0 hts gi_dm_X5_pipe_2 rfl rfl rfl (by decide +kernel) ⟨Nat.le_of_ble_eq_true rfl, Nat.le_of_ble_eq_true rfl⟩) hPc hDc hKc hS hA hN (va_recv hKc hPc (ci := 11) (q0 := 0) rfl rfl) rfl hl.1 rfl (Nat.le_of_ble_eq_true rfl) dX5_pipe_64 (fun H locs hP1 hD1 hk1 hS => ?_)
  obtain ⟨hP, hD⟩ := dn_X5_14 hP hD hzA hk1 hP1 hD1
  obtain ⟨s19, es19, h⟩ := nd_let_e h
  have hP : va_P (dC, dI) vwCl (dw_X5 a ac s19) H := by rw [es19]; exact hP
  have hD : va_D A (dw_X5 a ac s19) := by rw [es19]; exact hD
  refine lv_istore (lv' := [(5, .int q16), (4, .int y0), (0, .ref (a 0)), (1, .int x1), (2, .int x2), (3, .int x3)]) hx hb dX5_pipe_67 hl (by decide) rfl (fun ls hl => ?_)
  refine lv_iload hx hb dX5_pipe_69 (lv_at hl 1 rfl) ?_
  refine lv_if_lt (tgt := 90) hx hb dX5_pipe_71 (by decide) (fun c20 => ?_) (fun c20 => ?_)
  · have h := nd_pos h c20
    exact (db_X5_pipe_90 C K)  s19 _ _ _ h hP hD hS (lv_sub hl [] rfl)
  · have h := nd_neg h c20
    refine lv_iload hx hb dX5_pipe_74 (lv_at hl 0 rfl) ?_
    refine lv_if_lt (tgt := 90) hx hb dX5_pipe_76 (by decide) (fun c21 => ?_) (fun c21 => ?_)
    · have h := nd_pos h c21
      exact (db_X5_pipe_90 C K)  s19 _ _ _ h hP hD hS (lv_sub hl [] rfl)
    · have h := nd_neg h c21
      refine lv_aload_n hx hb dX5_pipe_79 rfl (lv_at hl 2 rfl) ?_
      refine va_get (D := (dC, dI)) (ci := 6) (v := .ref (a 14)) (C := RX5) (T := TX5) (N := 8) hx hb hts hi_dm_X5_pipe_X5 hown hK hP 0 rfl rfl 1 (by decide) (hts (.fieldLink RX5 28 "TimeMachine$Kernel" "things" "LTimeMachine$Things;") (List.mem_of_getElem? (i := 6) rfl)) (fun _ h9 => h9) rfl dX5_pipe_80 ?_
      obtain ⟨q22, s23, hq, h⟩ := nd_b2_e h
      have hPc := dp_X5_14 hP
      have hDc := dd_X5_14 hD
      have hKc := dy_X5_14 hK
      have hFc := nd_rs hDc hS hA
      have hzA : ∀ q : Nat, H.size ≤ q → A q := fun q h => hA q (Nat.le_trans hS.1 h)
      refine nd_cVi (As := []) (rest := []) (q := q22) (w' := dw_X10 (fun k => a (k + 14)) (fun k => ac (k + 14)) s23) ⟨hx, hb, hml, hown, hts⟩ (fun sz => dm_X10_openingsFree l hlt dC dI (fun k => a (k + 14)) (fun k => ac (k + 14)) n  s19.2.2.2 hq sz) (cwV 0 hts gi_dm_X5_pipe_3 rfl rfl rfl (by decide +kernel) ⟨Nat.le_of_ble_eq_true rfl, Nat.le_of_ble_eq_true rfl⟩) hPc hDc hKc hS hA hN (va_recv hKc hPc (ci := 11) (q0 := 0) rfl rfl) rfl hl.1 rfl (Nat.le_of_ble_eq_true rfl) dX5_pipe_83 (fun H locs hP1 hD1 hk1 hS => ?_)
      obtain ⟨hP, hD⟩ := dn_X5_14 hP hD hzA hk1 hP1 hD1
      obtain ⟨s25, es25, h⟩ := nd_let_e h
      have hP : va_P (dC, dI) vwCl (dw_X5 a ac s25) H := by rw [es25]; exact hP
      have hD : va_D A (dw_X5 a ac s25) := by rw [es25]; exact hD
      refine lv_iconst (v := 2) hx hb dX5_pipe_86 (by decide) ?_
      refine lv_icmp_ge (tgt := 94) hx hb dX5_pipe_87 (by decide) (fun c26 => ?_) (fun c26 => ?_)
      · have h := nd_pos h c26
        refine lv_aload_n hx hb dX5_pipe_94 rfl (lv_at hl 2 rfl) ?_
        refine va_get (D := (dC, dI)) (ci := 6) (v := .ref (a 4)) (C := RX5) (T := TX5) (N := 8) hx hb hts hi_dm_X5_pipe_X5 hown hK hP 0 rfl rfl 0 (by decide) (hts (.fieldLink RX5 18 "TimeMachine$Kernel" "machine" "LTimeMachine$Machine;") (List.mem_of_getElem? (i := 1) rfl)) (fun _ h9 => h9) rfl dX5_pipe_95 ?_
        refine lv_iload_n hx hb dX5_pipe_98 rfl (lv_at hl 3 rfl) ?_
        refine lv_iload_n hx hb dX5_pipe_99 rfl (lv_at hl 4 rfl) ?_
        refine lv_bipush (v := 8) hx hb dX5_pipe_100 (by decide) ?_
        obtain ⟨q27, s28, hq, h⟩ := nd_b2_e h
        have hPc := dp_X5_4 hP
        have hDc := dd_X5_4 hD
        have hKc := dy_X5_4 hK
        have hFc := nd_rs hDc hS hA
        have hzA : ∀ q : Nat, H.size ≤ q → A q := fun q h => hA q (Nat.le_trans hS.1 h)
        refine nd_cVi (As := [.int x1, .int x2, .int 8]) (rest := []) (q := q27) (w' := dw_X6 (fun k => a (k + 4)) (fun k => ac (k + 4)) s28) ⟨hx, hb, hml, hown, hts⟩ (fun sz => dm_X6_framesFor l hlt dC dI (fun k => a (k + 4)) (fun k => ac (k + 4)) n (x1) (x2) (8) s25.2.2 hq sz) (cwV 3 hts gi_dm_X5_pipe_4 rfl rfl rfl (by decide +kernel) ⟨Nat.le_of_ble_eq_true rfl, Nat.le_of_ble_eq_true rfl⟩) hPc hDc hKc hS hA hN (va_recv hKc hPc (ci := 7) (q0 := 0) rfl rfl) rfl hl.1 rfl (Nat.le_of_ble_eq_true rfl) dX5_pipe_102 (fun H locs hP1 hD1 hk1 hS => ?_)
        obtain ⟨hP, hD⟩ := dn_X5_4 hP hD hzA hk1 hP1 hD1
        obtain ⟨s30, es30, h⟩ := nd_let_e h
        have hP : va_P (dC, dI) vwCl (dw_X5 a ac s30) H := by rw [es30]; exact hP
        have hD : va_D A (dw_X5 a ac s30) := by rw [es30]; exact hD
        refine lv_aload_n hx hb dX5_pipe_105 rfl (lv_at hl 2 rfl) ?_
        refine va_get (D := (dC, dI)) (ci := 6) (v := .ref (a 4)) (C := RX5) (T := TX5) (N := 8) hx hb hts hi_dm_X5_pipe_X5 hown hK hP 0 rfl rfl 0 (by decide) (hts (.fieldLink RX5 18 "TimeMachine$Kernel" "machine" "LTimeMachine$Machine;") (List.mem_of_getElem? (i := 1) rfl)) (fun _ h9 => h9) rfl dX5_pipe_106 ?_
        obtain ⟨q31, s32, hq, h⟩ := nd_b2_e h
        have hPc := dp_X5_4 hP
        have hDc := dd_X5_4 hD
        have hKc := dy_X5_4 hK
        have hFc := nd_rs hDc hS hA
        have hzA : ∀ q : Nat, H.size ≤ q → A q := fun q h => hA q (Nat.le_trans hS.1 h)
        refine nd_cVi (As := []) (rest := [.int q27]) (q := q31) (w' := dw_X6 (fun k => a (k + 4)) (fun k => ac (k + 4)) s32) ⟨hx, hb, hml, hown, hts⟩ (fun sz => dm_X6_framesFree l hlt dC dI (fun k => a (k + 4)) (fun k => ac (k + 4)) n  s30.2.2 hq sz) (cwV 0 hts gi_dm_X5_pipe_5 rfl rfl rfl (by decide +kernel) ⟨Nat.le_of_ble_eq_true rfl, Nat.le_of_ble_eq_true rfl⟩) hPc hDc hKc hS hA hN (va_recv hKc hPc (ci := 7) (q0 := 0) rfl rfl) rfl hl.1 rfl (Nat.le_of_ble_eq_true rfl) dX5_pipe_109 (fun H locs hP1 hD1 hk1 hS => ?_)
        obtain ⟨hP, hD⟩ := dn_X5_4 hP hD hzA hk1 hP1 hD1
        obtain ⟨s34, es34, h⟩ := nd_let_e h
        have hP : va_P (dC, dI) vwCl (dw_X5 a ac s34) H := by rw [es34]; exact hP
        have hD : va_D A (dw_X5 a ac s34) := by rw [es34]; exact hD
        refine lv_icmp_le (tgt := 119) hx hb dX5_pipe_112 (by decide) (fun c35 => ?_) (fun c35 => ?_)
        · have h := nd_pos h c35
          refine lv_aload_n hx hb dX5_pipe_119 rfl (lv_at hl 2 rfl) ?_
          refine va_get (D := (dC, dI)) (ci := 6) (v := .ref (a 4)) (C := RX5) (T := TX5) (N := 8) hx hb hts hi_dm_X5_pipe_X5 hown hK hP 0 rfl rfl 0 (by decide) (hts (.fieldLink RX5 18 "TimeMachine$Kernel" "machine" "LTimeMachine$Machine;") (List.mem_of_getElem? (i := 1) rfl)) (fun _ h9 => h9) rfl dX5_pipe_120 ?_
          refine lv_iload_n hx hb dX5_pipe_123 rfl (lv_at hl 3 rfl) ?_
          refine lv_iload_n hx hb dX5_pipe_124 rfl (lv_at hl 4 rfl) ?_
          obtain ⟨q36, s37, hq, h⟩ := nd_b2_e h
          have hPc := dp_X5_4 hP
          have hDc := dd_X5_4 hD
          have hKc := dy_X5_4 hK
          have hFc := nd_rs hDc hS hA
          have hzA : ∀ q : Nat, H.size ≤ q → A q := fun q h => hA q (Nat.le_trans hS.1 h)
          refine nd_cVi (As := [.int x1, .int x2]) (rest := []) (q := q36) (w' := dw_X6 (fun k => a (k + 4)) (fun k => ac (k + 4)) s37) ⟨hx, hb, hml, hown, hts⟩ (fun sz => dm_X6_own l hlt dC dI (fun k => a (k + 4)) (fun k => ac (k + 4)) n (x1) (x2) s34.2.2 hq sz) (cwV 2 hts gi_dm_X5_pipe_6 rfl rfl rfl (by decide +kernel) ⟨Nat.le_of_ble_eq_true rfl, Nat.le_of_ble_eq_true rfl⟩) hPc hDc hKc hS hA hN (va_recv hKc hPc (ci := 7) (q0 := 0) rfl rfl) rfl hl.1 rfl (Nat.le_of_ble_eq_true rfl) dX5_pipe_125 (fun H locs hP1 hD1 hk1 hS => ?_)
          obtain ⟨hP, hD⟩ := dn_X5_4 hP hD hzA hk1 hP1 hD1
          obtain ⟨s39, es39, h⟩ := nd_let_e h
          have hP : va_P (dC, dI) vwCl (dw_X5 a ac s39) H := by rw [es39]; exact hP
          have hD : va_D A (dw_X5 a ac s39) := by rw [es39]; exact hD
          refine lv_pop hx hb dX5_pipe_128 rfl ?_
          refine lv_aload_n hx hb dX5_pipe_129 rfl (lv_at hl 2 rfl) ?_
          refine va_get (D := (dC, dI)) (ci := 6) (v := .ref (a 4)) (C := RX5) (T := TX5) (N := 8) hx hb hts hi_dm_X5_pipe_X5 hown hK hP 0 rfl rfl 0 (by decide) (hts (.fieldLink RX5 18 "TimeMachine$Kernel" "machine" "LTimeMachine$Machine;") (List.mem_of_getElem? (i := 1) rfl)) (fun _ h9 => h9) rfl dX5_pipe_130 ?_
          refine lv_iload_n hx hb dX5_pipe_133 rfl (lv_at hl 3 rfl) ?_
          refine lv_iload_n hx hb dX5_pipe_134 rfl (lv_at hl 4 rfl) ?_
          refine lv_iconst (v := 4) hx hb dX5_pipe_135 (by decide) ?_
          refine lv_iadd hx hb dX5_pipe_136 ?_
          obtain ⟨q40, s41, hq, h⟩ := nd_b2_e h
          have hPc := dp_X5_4 hP
          have hDc := dd_X5_4 hD
          have hKc := dy_X5_4 hK
          have hFc := nd_rs hDc hS hA
          have hzA : ∀ q : Nat, H.size ≤ q → A q := fun q h => hA q (Nat.le_trans hS.1 h)
          refine nd_cVi (As := [.int x1, .int (x2 + 4)]) (rest := []) (q := q40) (w' := dw_X6 (fun k => a (k + 4)) (fun k => ac (k + 4)) s41) ⟨hx, hb, hml, hown, hts⟩ (fun sz => dm_X6_own l hlt dC dI (fun k => a (k + 4)) (fun k => ac (k + 4)) n (x1) ((x2 + 4)) s39.2.2 hq sz) (cwV 2 hts gi_dm_X5_pipe_6 rfl rfl rfl (by decide +kernel) ⟨Nat.le_of_ble_eq_true rfl, Nat.le_of_ble_eq_true rfl⟩) hPc hDc hKc hS hA hN (va_recv hKc hPc (ci := 7) (q0 := 0) rfl rfl) rfl hl.1 rfl (Nat.le_of_ble_eq_true rfl) dX5_pipe_137 (fun H locs hP1 hD1 hk1 hS => ?_)
          obtain ⟨hP, hD⟩ := dn_X5_4 hP hD hzA hk1 hP1 hD1
          obtain ⟨s43, es43, h⟩ := nd_let_e h
          have hP : va_P (dC, dI) vwCl (dw_X5 a ac s43) H := by rw [es43]; exact hP
          have hD : va_D A (dw_X5 a ac s43) := by rw [es43]; exact hD
          refine lv_pop hx hb dX5_pipe_140 rfl ?_
          refine lv_aload_n hx hb dX5_pipe_141 rfl (lv_at hl 2 rfl) ?_
          refine va_get (D := (dC, dI)) (ci := 6) (v := .ref (a 14)) (C := RX5) (T := TX5) (N := 8) hx hb hts hi_dm_X5_pipe_X5 hown hK hP 0 rfl rfl 1 (by decide) (hts (.fieldLink RX5 28 "TimeMachine$Kernel" "things" "LTimeMachine$Things;") (List.mem_of_getElem? (i := 6) rfl)) (fun _ h9 => h9) rfl dX5_pipe_142 ?_
          refine lv_iload hx hb dX5_pipe_145 (lv_at hl 0 rfl) ?_
          obtain ⟨s45, hq, h⟩ := nd_b1_e h
          have hPc := dp_X5_14 hP
          have hDc := dd_X5_14 hD
          have hKc := dy_X5_14 hK
          have hFc := nd_rs hDc hS hA
          have hzA : ∀ q : Nat, H.size ≤ q → A q := fun q h => hA q (Nat.le_trans hS.1 h)
          refine nd_cVv (As := [.int q16]) (rest := []) (w' := dw_X10 (fun k => a (k + 14)) (fun k => ac (k + 14)) s45) ⟨hx, hb, hml, hown, hts⟩ (fun sz => dm_X10_emptyPipe l hlt dC dI (fun k => a (k + 14)) (fun k => ac (k + 14)) n (q16) s43.2.2.2 hq sz) (cwV 1 hts gi_dm_X5_pipe_7 rfl rfl rfl (by decide +kernel) ⟨Nat.le_of_ble_eq_true rfl, Nat.le_of_ble_eq_true rfl⟩) hPc hDc hKc hS hA hN (va_recv hKc hPc (ci := 11) (q0 := 0) rfl rfl) rfl hl.1 rfl (Nat.le_of_ble_eq_true rfl) dX5_pipe_147 (fun H locs hP1 hD1 hk1 hS => ?_)
          obtain ⟨hP, hD⟩ := dn_X5_14 hP hD hzA hk1 hP1 hD1
          obtain ⟨s47, es47, h⟩ := nd_let_e h
          have hP : va_P (dC, dI) vwCl (dw_X5 a ac s47) H := by rw [es47]; exact hP
          have hD : va_D A (dw_X5 a ac s47) := by rw [es47]; exact hD
          refine lv_aload_n hx hb dX5_pipe_150 rfl (lv_at hl 2 rfl) ?_
          refine va_get (D := (dC, dI)) (ci := 6) (v := .ref (a 14)) (C := RX5) (T := TX5) (N := 8) hx hb hts hi_dm_X5_pipe_X5 hown hK hP 0 rfl rfl 1 (by decide) (hts (.fieldLink RX5 28 "TimeMachine$Kernel" "things" "LTimeMachine$Things;") (List.mem_of_getElem? (i := 6) rfl)) (fun _ h9 => h9) rfl dX5_pipe_151 ?_
          refine lv_iload_n hx hb dX5_pipe_154 rfl (lv_at hl 3 rfl) ?_
          refine lv_iload_n hx hb dX5_pipe_155 rfl (lv_at hl 5 rfl) ?_
          refine lv_aload_n hx hb dX5_pipe_156 rfl (lv_at hl 2 rfl) ?_
          refine va_get (D := (dC, dI)) (ci := 6) (v := .ref (a 14)) (C := RX5) (T := TX5) (N := 8) hx hb hts hi_dm_X5_pipe_X5 hown hK hP 0 rfl rfl 1 (by decide) (hts (.fieldLink RX5 28 "TimeMachine$Kernel" "things" "LTimeMachine$Things;") (List.mem_of_getElem? (i := 6) rfl)) (fun _ h9 => h9) rfl dX5_pipe_157 ?_
          refine lv_iconst (v := 1) hx hb dX5_pipe_160 (by decide) ?_
          refine lv_iload hx hb dX5_pipe_161 (lv_at hl 0 rfl) ?_
          refine lv_iconst (v := 1) hx hb dX5_pipe_163 (by decide) ?_
          obtain ⟨q48, s49, hq, h⟩ := nd_b2_e h
          have hPc := dp_X5_14 hP
          have hDc := dd_X5_14 hD
          have hKc := dy_X5_14 hK
          have hFc := nd_rs hDc hS hA
          have hzA : ∀ q : Nat, H.size ≤ q → A q := fun q h => hA q (Nat.le_trans hS.1 h)
          refine nd_cVi (As := [.int 1, .int q16, .int 1]) (rest := [.int x3, .int x1, .ref (a 14)]) (q := q48) (w' := dw_X10 (fun k => a (k + 14)) (fun k => ac (k + 14)) s49) ⟨hx, hb, hml, hown, hts⟩ (fun sz => dm_X10_open l hlt dC dI (fun k => a (k + 14)) (fun k => ac (k + 14)) n (1) (q16) (1) s47.2.2.2 hq sz) (cwV 3 hts gi_dm_X5_pipe_8 rfl rfl rfl (by decide +kernel) ⟨Nat.le_of_ble_eq_true rfl, Nat.le_of_ble_eq_true rfl⟩) hPc hDc hKc hS hA hN (va_recv hKc hPc (ci := 11) (q0 := 0) rfl rfl) rfl hl.1 rfl (Nat.le_of_ble_eq_true rfl) dX5_pipe_164 (fun H locs hP1 hD1 hk1 hS => ?_)
          obtain ⟨hP, hD⟩ := dn_X5_14 hP hD hzA hk1 hP1 hD1
          obtain ⟨s51, es51, h⟩ := nd_let_e h
          have hP : va_P (dC, dI) vwCl (dw_X5 a ac s51) H := by rw [es51]; exact hP
          have hD : va_D A (dw_X5 a ac s51) := by rw [es51]; exact hD
          obtain ⟨s53, hq, h⟩ := nd_b1_e h
          have hPc := dp_X5_14 hP
          have hDc := dd_X5_14 hD
          have hKc := dy_X5_14 hK
          have hFc := nd_rs hDc hS hA
          have hzA : ∀ q : Nat, H.size ≤ q → A q := fun q h => hA q (Nat.le_trans hS.1 h)
          refine nd_cVv (As := [.int x1, .int x3, .int q48]) (rest := []) (w' := dw_X10 (fun k => a (k + 14)) (fun k => ac (k + 14)) s53) ⟨hx, hb, hml, hown, hts⟩ (fun sz => dm_X10_linkTo l hlt dC dI (fun k => a (k + 14)) (fun k => ac (k + 14)) n (x1) (x3) (q48) s51.2.2.2 hq sz) (cwV 3 hts gi_dm_X5_pipe_9 rfl rfl rfl (by decide +kernel) ⟨Nat.le_of_ble_eq_true rfl, Nat.le_of_ble_eq_true rfl⟩) hPc hDc hKc hS hA hN (va_recv hKc hPc (ci := 11) (q0 := 0) rfl rfl) rfl hl.1 rfl (Nat.le_of_ble_eq_true rfl) dX5_pipe_167 (fun H locs hP1 hD1 hk1 hS => ?_)
          obtain ⟨hP, hD⟩ := dn_X5_14 hP hD hzA hk1 hP1 hD1
          obtain ⟨s55, es55, h⟩ := nd_let_e h
          have hP : va_P (dC, dI) vwCl (dw_X5 a ac s55) H := by rw [es55]; exact hP
          have hD : va_D A (dw_X5 a ac s55) := by rw [es55]; exact hD
          refine lv_aload_n hx hb dX5_pipe_170 rfl (lv_at hl 2 rfl) ?_
          refine va_get (D := (dC, dI)) (ci := 6) (v := .ref (a 14)) (C := RX5) (T := TX5) (N := 8) hx hb hts hi_dm_X5_pipe_X5 hown hK hP 0 rfl rfl 1 (by decide) (hts (.fieldLink RX5 28 "TimeMachine$Kernel" "things" "LTimeMachine$Things;") (List.mem_of_getElem? (i := 6) rfl)) (fun _ h9 => h9) rfl dX5_pipe_171 ?_
          refine lv_iload_n hx hb dX5_pipe_174 rfl (lv_at hl 3 rfl) ?_
          refine lv_iload hx hb dX5_pipe_175 (lv_at hl 1 rfl) ?_
          refine lv_aload_n hx hb dX5_pipe_177 rfl (lv_at hl 2 rfl) ?_
          refine va_get (D := (dC, dI)) (ci := 6) (v := .ref (a 14)) (C := RX5) (T := TX5) (N := 8) hx hb hts hi_dm_X5_pipe_X5 hown hK hP 0 rfl rfl 1 (by decide) (hts (.fieldLink RX5 28 "TimeMachine$Kernel" "things" "LTimeMachine$Things;") (List.mem_of_getElem? (i := 6) rfl)) (fun _ h9 => h9) rfl dX5_pipe_178 ?_
          refine lv_iconst (v := 2) hx hb dX5_pipe_181 (by decide) ?_
          refine lv_iload hx hb dX5_pipe_182 (lv_at hl 0 rfl) ?_
          refine lv_iconst (v := 2) hx hb dX5_pipe_184 (by decide) ?_
          obtain ⟨q56, s57, hq, h⟩ := nd_b2_e h
          have hPc := dp_X5_14 hP
          have hDc := dd_X5_14 hD
          have hKc := dy_X5_14 hK
          have hFc := nd_rs hDc hS hA
          have hzA : ∀ q : Nat, H.size ≤ q → A q := fun q h => hA q (Nat.le_trans hS.1 h)
          refine nd_cVi (As := [.int 2, .int q16, .int 2]) (rest := [.int y0, .int x1, .ref (a 14)]) (q := q56) (w' := dw_X10 (fun k => a (k + 14)) (fun k => ac (k + 14)) s57) ⟨hx, hb, hml, hown, hts⟩ (fun sz => dm_X10_open l hlt dC dI (fun k => a (k + 14)) (fun k => ac (k + 14)) n (2) (q16) (2) s55.2.2.2 hq sz) (cwV 3 hts gi_dm_X5_pipe_8 rfl rfl rfl (by decide +kernel) ⟨Nat.le_of_ble_eq_true rfl, Nat.le_of_ble_eq_true rfl⟩) hPc hDc hKc hS hA hN (va_recv hKc hPc (ci := 11) (q0 := 0) rfl rfl) rfl hl.1 rfl (Nat.le_of_ble_eq_true rfl) dX5_pipe_185 (fun H locs hP1 hD1 hk1 hS => ?_)
          obtain ⟨hP, hD⟩ := dn_X5_14 hP hD hzA hk1 hP1 hD1
          obtain ⟨s59, es59, h⟩ := nd_let_e h
          have hP : va_P (dC, dI) vwCl (dw_X5 a ac s59) H := by rw [es59]; exact hP
          have hD : va_D A (dw_X5 a ac s59) := by rw [es59]; exact hD
          obtain ⟨s61, hq, h⟩ := nd_b1_e h
          have hPc := dp_X5_14 hP
          have hDc := dd_X5_14 hD
          have hKc := dy_X5_14 hK
          have hFc := nd_rs hDc hS hA
          have hzA : ∀ q : Nat, H.size ≤ q → A q := fun q h => hA q (Nat.le_trans hS.1 h)
          refine nd_cVv (As := [.int x1, .int y0, .int q56]) (rest := []) (w' := dw_X10 (fun k => a (k + 14)) (fun k => ac (k + 14)) s61) ⟨hx, hb, hml, hown, hts⟩ (fun sz => dm_X10_linkTo l hlt dC dI (fun k => a (k + 14)) (fun k => ac (k + 14)) n (x1) (y0) (q56) s59.2.2.2 hq sz) (cwV 3 hts gi_dm_X5_pipe_9 rfl rfl rfl (by decide +kernel) ⟨Nat.le_of_ble_eq_true rfl, Nat.le_of_ble_eq_true rfl⟩) hPc hDc hKc hS hA hN (va_recv hKc hPc (ci := 11) (q0 := 0) rfl rfl) rfl hl.1 rfl (Nat.le_of_ble_eq_true rfl) dX5_pipe_188 (fun H locs hP1 hD1 hk1 hS => ?_)
          obtain ⟨hP, hD⟩ := dn_X5_14 hP hD hzA hk1 hP1 hD1
          obtain ⟨s63, es63, h⟩ := nd_let_e h
          have hP : va_P (dC, dI) vwCl (dw_X5 a ac s63) H := by rw [es63]; exact hP
          have hD : va_D A (dw_X5 a ac s63) := by rw [es63]; exact hD
          refine lv_aload_n hx hb dX5_pipe_191 rfl (lv_at hl 2 rfl) ?_
          refine va_get (D := (dC, dI)) (ci := 6) (v := .ref (a 4)) (C := RX5) (T := TX5) (N := 8) hx hb hts hi_dm_X5_pipe_X5 hown hK hP 0 rfl rfl 0 (by decide) (hts (.fieldLink RX5 18 "TimeMachine$Kernel" "machine" "LTimeMachine$Machine;") (List.mem_of_getElem? (i := 1) rfl)) (fun _ h9 => h9) rfl dX5_pipe_192 ?_
          refine lv_iload_n hx hb dX5_pipe_195 rfl (lv_at hl 3 rfl) ?_
          refine lv_iload_n hx hb dX5_pipe_196 rfl (lv_at hl 4 rfl) ?_
          refine lv_iconst (v := (-1)) hx hb dX5_pipe_197 (by decide) ?_
          refine lv_iload_n hx hb dX5_pipe_198 rfl (lv_at hl 5 rfl) ?_
          obtain ⟨s65, hq, h⟩ := nd_b1_e h
          have hPc := dp_X5_4 hP
          have hDc := dd_X5_4 hD
          have hKc := dy_X5_4 hK
          have hFc := nd_rs hDc hS hA
          have hzA : ∀ q : Nat, H.size ≤ q → A q := fun q h => hA q (Nat.le_trans hS.1 h)
          refine nd_cVv (As := [.int x1, .int x2, .int (-1), .int x3]) (rest := []) (w' := dw_X6 (fun k => a (k + 4)) (fun k => ac (k + 4)) s65) ⟨hx, hb, hml, hown, hts⟩ (fun sz => dm_X6_put l hlt dC dI (fun k => a (k + 4)) (fun k => ac (k + 4)) n (x1) (x2) ((-1)) (x3) s63.2.2 hq sz) (cwV 4 hts gi_dm_X5_pipe_10 rfl rfl rfl (by decide +kernel) ⟨Nat.le_of_ble_eq_true rfl, Nat.le_of_ble_eq_true rfl⟩) hPc hDc hKc hS hA hN (va_recv hKc hPc (ci := 7) (q0 := 0) rfl rfl) rfl hl.1 rfl (Nat.le_of_ble_eq_true rfl) dX5_pipe_199 (fun H locs hP1 hD1 hk1 hS => ?_)
          obtain ⟨hP, hD⟩ := dn_X5_4 hP hD hzA hk1 hP1 hD1
          obtain ⟨s67, es67, h⟩ := nd_let_e h
          have hP : va_P (dC, dI) vwCl (dw_X5 a ac s67) H := by rw [es67]; exact hP
          have hD : va_D A (dw_X5 a ac s67) := by rw [es67]; exact hD
          refine lv_aload_n hx hb dX5_pipe_202 rfl (lv_at hl 2 rfl) ?_
          refine va_get (D := (dC, dI)) (ci := 6) (v := .ref (a 4)) (C := RX5) (T := TX5) (N := 8) hx hb hts hi_dm_X5_pipe_X5 hown hK hP 0 rfl rfl 0 (by decide) (hts (.fieldLink RX5 18 "TimeMachine$Kernel" "machine" "LTimeMachine$Machine;") (List.mem_of_getElem? (i := 1) rfl)) (fun _ h9 => h9) rfl dX5_pipe_203 ?_
          refine lv_iload_n hx hb dX5_pipe_206 rfl (lv_at hl 3 rfl) ?_
          refine lv_iload_n hx hb dX5_pipe_207 rfl (lv_at hl 4 rfl) ?_
          refine lv_iconst (v := 4) hx hb dX5_pipe_208 (by decide) ?_
          refine lv_iadd hx hb dX5_pipe_209 ?_
          refine lv_iconst (v := (-1)) hx hb dX5_pipe_210 (by decide) ?_
          refine lv_iload hx hb dX5_pipe_211 (lv_at hl 1 rfl) ?_
          obtain ⟨s69, hq, h⟩ := nd_b1_e h
          have hPc := dp_X5_4 hP
          have hDc := dd_X5_4 hD
          have hKc := dy_X5_4 hK
          have hFc := nd_rs hDc hS hA
          have hzA : ∀ q : Nat, H.size ≤ q → A q := fun q h => hA q (Nat.le_trans hS.1 h)
          refine nd_cVv (As := [.int x1, .int (x2 + 4), .int (-1), .int y0]) (rest := []) (w' := dw_X6 (fun k => a (k + 4)) (fun k => ac (k + 4)) s69) ⟨hx, hb, hml, hown, hts⟩ (fun sz => dm_X6_put l hlt dC dI (fun k => a (k + 4)) (fun k => ac (k + 4)) n (x1) ((x2 + 4)) ((-1)) (y0) s67.2.2 hq sz) (cwV 4 hts gi_dm_X5_pipe_10 rfl rfl rfl (by decide +kernel) ⟨Nat.le_of_ble_eq_true rfl, Nat.le_of_ble_eq_true rfl⟩) hPc hDc hKc hS hA hN (va_recv hKc hPc (ci := 7) (q0 := 0) rfl rfl) rfl hl.1 rfl (Nat.le_of_ble_eq_true rfl) dX5_pipe_213 (fun H locs hP1 hD1 hk1 hS => ?_)
          obtain ⟨hP, hD⟩ := dn_X5_4 hP hD hzA hk1 hP1 hD1
          obtain ⟨s71, es71, h⟩ := nd_let_e h
          have hP : va_P (dC, dI) vwCl (dw_X5 a ac s71) H := by rw [es71]; exact hP
          have hD : va_D A (dw_X5 a ac s71) := by rw [es71]; exact hD
          refine lv_aload_n hx hb dX5_pipe_216 rfl (lv_at hl 2 rfl) ?_
          refine va_get (D := (dC, dI)) (ci := 6) (v := .ref (a 4)) (C := RX5) (T := TX5) (N := 8) hx hb hts hi_dm_X5_pipe_X5 hown hK hP 0 rfl rfl 0 (by decide) (hts (.fieldLink RX5 18 "TimeMachine$Kernel" "machine" "LTimeMachine$Machine;") (List.mem_of_getElem? (i := 1) rfl)) (fun _ h9 => h9) rfl dX5_pipe_217 ?_
          refine lv_iload_n hx hb dX5_pipe_220 rfl (lv_at hl 3 rfl) ?_
          refine lv_iload_n hx hb dX5_pipe_221 rfl (lv_at hl 4 rfl) ?_
          refine lv_bipush (v := 8) hx hb dX5_pipe_222 (by decide) ?_
          obtain ⟨s73, hq, h⟩ := nd_b1_e h
          have hPc := dp_X5_4 hP
          have hDc := dd_X5_4 hD
          have hKc := dy_X5_4 hK
          have hFc := nd_rs hDc hS hA
          have hzA : ∀ q : Nat, H.size ≤ q → A q := fun q h => hA q (Nat.le_trans hS.1 h)
          refine nd_cVv (As := [.int x1, .int x2, .int 8]) (rest := []) (w' := dw_X6 (fun k => a (k + 4)) (fun k => ac (k + 4)) s73) ⟨hx, hb, hml, hown, hts⟩ (fun sz => dm_X6_noteWrite l hlt dC dI (fun k => a (k + 4)) (fun k => ac (k + 4)) n (x1) (x2) (8) s71.2.2 hq sz) (cwV 3 hts gi_dm_X5_pipe_11 rfl rfl rfl (by decide +kernel) ⟨Nat.le_of_ble_eq_true rfl, Nat.le_of_ble_eq_true rfl⟩) hPc hDc hKc hS hA hN (va_recv hKc hPc (ci := 7) (q0 := 0) rfl rfl) rfl hl.1 rfl (Nat.le_of_ble_eq_true rfl) dX5_pipe_224 (fun H locs hP1 hD1 hk1 hS => ?_)
          obtain ⟨hP, hD⟩ := dn_X5_4 hP hD hzA hk1 hP1 hD1
          obtain ⟨s75, es75, h⟩ := nd_let_e h
          have hP : va_P (dC, dI) vwCl (dw_X5 a ac s75) H := by rw [es75]; exact hP
          have hD : va_D A (dw_X5 a ac s75) := by rw [es75]; exact hD
          refine lv_lconst (v := 0) hx hb dX5_pipe_227 (by decide) ?_
          exact K _ _ _ _ _ _ dX5_pipe_228 (Option.some.inj h).symm hP hD hS
        · have h := nd_neg h c35
          refine lv_ldc2 hx hb hown (hts (.constantLong RX5 155 (4398046511104)) (List.mem_of_getElem? (i := 42) rfl)) dX5_pipe_115 ?_
          exact K _ _ _ _ _ _ dX5_pipe_118 (Option.some.inj h).symm hP hD hS
      · have h := nd_neg h c26
        exact (db_X5_pipe_90 C K)  s25 _ _ _ h hP hD hS (lv_sub hl [] rfl)
set_option maxHeartbeats 40000000 in
set_option maxRecDepth 100000 in
theorem db_X5_pipe_0 {p : Program} {l : Launch} {e : Env} {s : State} {m : MethodId} {args : Array Value} {below : List Frame} {meth : Method} {c : Code} {Q : State → Prop} {A : Nat → Prop} {dC : Nat → ClassId} {dI : Nat → Nat → Nat} {a : Nat → Nat} {ac : Nat → ClassId} {n : Nat} {r : Int64 × (St × (St × (St × (St))))} (C : nd_C p l s m args c A (dC, dI) cX5_pipe 6 RX5 ow_dm_X5_pipe (dk_X5 ac)) (K : nd_Kl p l e (headSpec ow_dm_X5_pipe ({ frames := 2, cells := 0, slots := 0, locals := 65 })).room s m args below meth c Q A (dC, dI) cX5_pipe (St × (St × (St × (St)))) (dw_X5 a ac) r) : dj_X5_pipe_0 p l e s m args below meth c Q A dC dI a ac (df_X5_pipe_0 n) r := by
  obtain ⟨hlt, hx, hb, hml, hown, hts, hN, hA, hK⟩ := id C
  intro v0 v1 s0 H locs ls h hP hD hS hl
  unfold df_X5_pipe_0 at h
  refine lv_iload_n hx hb dX5_pipe_0 rfl (lv_at hl 2 rfl) ?_
  refine lv_iconst (v := 3) hx hb dX5_pipe_1 (by decide) ?_
  refine lv_iand hx hb dX5_pipe_2 ?_
  refine lv_if_eq (tgt := 10) hx hb dX5_pipe_3 (by decide) (fun c1 => ?_) (fun c1 => ?_)
  · have h := nd_pos h c1
    refine lv_aload_n hx hb dX5_pipe_10 rfl (lv_at hl 0 rfl) ?_
    refine va_get (D := (dC, dI)) (ci := 6) (v := .ref (a 4)) (C := RX5) (T := TX5) (N := 8) hx hb hts hi_dm_X5_pipe_X5 hown hK hP 0 rfl rfl 0 (by decide) (hts (.fieldLink RX5 18 "TimeMachine$Kernel" "machine" "LTimeMachine$Machine;") (List.mem_of_getElem? (i := 1) rfl)) (fun _ h9 => h9) rfl dX5_pipe_11 ?_
    refine lv_iload_n hx hb dX5_pipe_14 rfl (lv_at hl 1 rfl) ?_
    refine lv_iload_n hx hb dX5_pipe_15 rfl (lv_at hl 2 rfl) ?_
    refine lv_bipush (v := 8) hx hb dX5_pipe_16 (by decide) ?_
    refine lv_iconst (v := 2) hx hb dX5_pipe_18 (by decide) ?_
    obtain ⟨q2, s3, hq, h⟩ := nd_b2_e h
    have hPc := dp_X5_4 hP
    have hDc := dd_X5_4 hD
    have hKc := dy_X5_4 hK
    have hFc := nd_rs hDc hS hA
    have hzA : ∀ q : Nat, H.size ≤ q → A q := fun q h => hA q (Nat.le_trans hS.1 h)
    refine nd_cVi (As := [.int v0, .int v1, .int 8, .int 2]) (rest := []) (q := q2) (w' := dw_X6 (fun k => a (k + 4)) (fun k => ac (k + 4)) s3) ⟨hx, hb, hml, hown, hts⟩ (fun sz => dm_X6_mayAll l hlt dC dI (fun k => a (k + 4)) (fun k => ac (k + 4)) n (v0) (v1) (8) (2) s0.2.2 hq sz) (cwV 4 hts gi_dm_X5_pipe_0 rfl rfl rfl (by decide +kernel) ⟨Nat.le_of_ble_eq_true rfl, Nat.le_of_ble_eq_true rfl⟩) hPc hDc hKc hS hA hN (va_recv hKc hPc (ci := 7) (q0 := 0) rfl rfl) rfl hl.1 rfl (Nat.le_of_ble_eq_true rfl) dX5_pipe_19 (fun H locs hP1 hD1 hk1 hS => ?_)
    obtain ⟨hP, hD⟩ := dn_X5_4 hP hD hzA hk1 hP1 hD1
    obtain ⟨s5, es5, h⟩ := nd_let_e h
    have hP : va_P (dC, dI) vwCl (dw_X5 a ac s5) H := by rw [es5]; exact hP
    have hD : va_D A (dw_X5 a ac s5) := by rw [es5]; exact hD
    refine lv_if_ne (tgt := 29) hx hb dX5_pipe_22 (by decide) (fun c6 => ?_) (fun c6 => ?_)
    · have h := nd_neg h c6
      refine lv_aload_n hx hb dX5_pipe_29 rfl (lv_at hl 0 rfl) ?_
      refine va_get (D := (dC, dI)) (ci := 6) (v := .ref (a 14)) (C := RX5) (T := TX5) (N := 8) hx hb hts hi_dm_X5_pipe_X5 hown hK hP 0 rfl rfl 1 (by decide) (hts (.fieldLink RX5 28 "TimeMachine$Kernel" "things" "LTimeMachine$Things;") (List.mem_of_getElem? (i := 6) rfl)) (fun _ h9 => h9) rfl dX5_pipe_30 ?_
      refine lv_iload_n hx hb dX5_pipe_33 rfl (lv_at hl 1 rfl) ?_
      refine lv_iconst (v := 0) hx hb dX5_pipe_34 (by decide) ?_
      obtain ⟨q7, s8, hq, h⟩ := nd_b2_e h
      have hPc := dp_X5_14 hP
      have hDc := dd_X5_14 hD
      have hKc := dy_X5_14 hK
      have hFc := nd_rs hDc hS hA
      have hzA : ∀ q : Nat, H.size ≤ q → A q := fun q h => hA q (Nat.le_trans hS.1 h)
      refine nd_cVi (As := [.int v0, .int 0]) (rest := []) (q := q7) (w' := dw_X10 (fun k => a (k + 14)) (fun k => ac (k + 14)) s8) ⟨hx, hb, hml, hown, hts⟩ (fun sz => dm_X10_freeLink l hlt dC dI (fun k => a (k + 14)) (fun k => ac (k + 14)) n (v0) (0) s5.2.2.2 hq sz) (cwV 2 hts gi_dm_X5_pipe_1 rfl rfl rfl (by decide +kernel) ⟨Nat.le_of_ble_eq_true rfl, Nat.le_of_ble_eq_true rfl⟩) hPc hDc hKc hS hA hN (va_recv hKc hPc (ci := 11) (q0 := 0) rfl rfl) rfl hl.1 rfl (Nat.le_of_ble_eq_true rfl) dX5_pipe_35 (fun H locs hP1 hD1 hk1 hS => ?_)
      obtain ⟨hP, hD⟩ := dn_X5_14 hP hD hzA hk1 hP1 hD1
      obtain ⟨s10, es10, h⟩ := nd_let_e h
      have hP : va_P (dC, dI) vwCl (dw_X5 a ac s10) H := by rw [es10]; exact hP
      have hD : va_D A (dw_X5 a ac s10) := by rw [es10]; exact hD
      refine lv_istore_n (lv' := [(3, .int q7), (0, .ref (a 0)), (1, .int v0), (2, .int v1)]) hx hb dX5_pipe_38 rfl hl (by decide) rfl (fun ls hl => ?_)
      refine lv_iload_n hx hb dX5_pipe_39 rfl (lv_at hl 0 rfl) ?_
      refine lv_if_ge (tgt := 47) hx hb dX5_pipe_40 (by decide) (fun c11 => ?_) (fun c11 => ?_)
      · have h := nd_pos h c11
        refine lv_aload_n hx hb dX5_pipe_47 rfl (lv_at hl 1 rfl) ?_
        refine va_get (D := (dC, dI)) (ci := 6) (v := .ref (a 14)) (C := RX5) (T := TX5) (N := 8) hx hb hts hi_dm_X5_pipe_X5 hown hK hP 0 rfl rfl 1 (by decide) (hts (.fieldLink RX5 28 "TimeMachine$Kernel" "things" "LTimeMachine$Things;") (List.mem_of_getElem? (i := 6) rfl)) (fun _ h9 => h9) rfl dX5_pipe_48 ?_
        refine lv_iload_n hx hb dX5_pipe_51 rfl (lv_at hl 2 rfl) ?_
        refine lv_iload_n hx hb dX5_pipe_52 rfl (lv_at hl 0 rfl) ?_
        refine lv_iconst (v := 1) hx hb dX5_pipe_53 (by decide) ?_
        refine lv_iadd hx hb dX5_pipe_54 ?_
        obtain ⟨q12, s13, hq, h⟩ := nd_b2_e h
        have hPc := dp_X5_14 hP
        have hDc := dd_X5_14 hD
        have hKc := dy_X5_14 hK
        have hFc := nd_rs hDc hS hA
        have hzA : ∀ q : Nat, H.size ≤ q → A q := fun q h => hA q (Nat.le_trans hS.1 h)
        refine nd_cVi (As := [.int v0, .int (q7 + 1)]) (rest := []) (q := q12) (w' := dw_X10 (fun k => a (k + 14)) (fun k => ac (k + 14)) s13) ⟨hx, hb, hml, hown, hts⟩ (fun sz => dm_X10_freeLink l hlt dC dI (fun k => a (k + 14)) (fun k => ac (k + 14)) n (v0) ((q7 + 1)) s10.2.2.2 hq sz) (cwV 2 hts gi_dm_X5_pipe_1 rfl rfl rfl (by decide +kernel) ⟨Nat.le_of_ble_eq_true rfl, Nat.le_of_ble_eq_true rfl⟩) hPc hDc hKc hS hA hN (va_recv hKc hPc (ci := 11) (q0 := 0) rfl rfl) rfl hl.1 rfl (Nat.le_of_ble_eq_true rfl) dX5_pipe_55 (fun H locs hP1 hD1 hk1 hS => ?_)
        obtain ⟨hP, hD⟩ := dn_X5_14 hP hD hzA hk1 hP1 hD1
        obtain ⟨s15, es15, h⟩ := nd_let_e h
        have hP : va_P (dC, dI) vwCl (dw_X5 a ac s15) H := by rw [es15]; exact hP
        have hD : va_D A (dw_X5 a ac s15) := by rw [es15]; exact hD
        exact (db_X5_pipe_58 C K) (v0) (v1) (q7) (q12) s15 _ _ _ h hP hD hS (lv_sub hl [1, 2, 3, 0] rfl)
      · have h := nd_neg h c11
        refine lv_iconst (v := (-1)) hx hb dX5_pipe_43 (by decide) ?_
        refine lv_goto (tgt := 58) hx hb dX5_pipe_44 (by decide) ?_
        exact (db_X5_pipe_58 C K) (v0) (v1) (q7) ((-1)) s10 _ _ _ h hP hD hS (lv_sub hl [1, 2, 3, 0] rfl)
    · have h := nd_pos h c6
      refine lv_ldc2 hx hb hown (hts (.constantLong RX5 257 (-14)) (List.mem_of_getElem? (i := 43) rfl)) dX5_pipe_25 ?_
      exact K _ _ _ _ _ _ dX5_pipe_28 (Option.some.inj h).symm hP hD hS
  · have h := nd_neg h c1
    refine lv_ldc2 hx hb hown (hts (.constantLong RX5 251 (-22)) (List.mem_of_getElem? (i := 44) rfl)) dX5_pipe_6 ?_
    exact K _ _ _ _ _ _ dX5_pipe_9 (Option.some.inj h).symm hP hD hS
set_option maxHeartbeats 40000000 in
set_option maxRecDepth 100000 in
theorem dm_X5_pipe (l : Launch) (hlt : l.stackTraces = false) (dC : Nat → ClassId) (dI : Nat → Nat → Nat) (a : Nat → Nat) (ac : Nat → ClassId) (n : Nat) (v0 : Int32) (v1 : Int32) (s0 : St × (St × (St × (St)))) {r : Int64 × (St × (St × (St × (St))))} (h : df_X5_pipe n v0 v1 s0 = some r) (sz : Nat) : Met l yX5_pipe ow_dm_X5_pipe ({ frames := 2, cells := 0, slots := 0, locals := 65 }) (va_Pc [.ref (a 0), .int v0, .int v1] (fun U => U.heap.size = sz ∧ va_P (dC, dI) vwCl (dw_X5 a ac s0) U.heap ∧ va_K (dC, dI) vwCl (dk_X5 ac) U ∧ va_D (fun _ => True) (dw_X5 a ac s0) ∧ nv_E dI (va_A (dw_X5 a ac s0) sz) U)) (va_Ql (fun x _ => x = r.1) (fun (_ : Unit) t => va_P (dC, dI) vwCl (dw_X5 a ac r.2) t.heap ∧ va_K (dC, dI) vwCl (dk_X5 ac) t ∧ va_D (va_A (dw_X5 a ac s0) sz) (dw_X5 a ac r.2)) (va_A (dw_X5 a ac s0) sz)) 0 0 (va_A (dw_X5 a ac s0) sz) := by
  refine Met.ofW (cc := cX5_pipe) (maxL := 6) (ret := (some .long)) (by decide) rfl ?_
  intro p e s m args below meth c s₁ B hml hv
  obtain ⟨rfl, hsz, hP, hK, hD0, hN⟩ := hv
  have hx := B.exec
  have hb := B.bytes
  have hr := B.returns
  have hts := atoms_spec (ws := ow_dm_X5_pipe) B.pre
  have hown : s.vm.findClass RX5 = some m.cls := findClass_of_methodNamed B.named
  have hlocks := B.notSynchronized
  subst hsz
  have hD := hD0.self (sz := s.heap.size)
  generalize hAe : va_A (dw_X5 a ac s0) s.heap.size = A at hD hN ⊢
  have hA : ∀ q : Nat, s.heap.size ≤ q → A q := fun q h => by rw [← hAe]; exact Or.inr h
  have hl := lv_entry ([.ref (a 0), .int v0, .int v1]) (n := 6) (Nat.le_of_ble_eq_true rfl)
  rw [lg_entry_eq]
  generalize (lg_sl ([.ref (a 0), .int v0, .int v1]) ++ List.replicate (6 - (lg_sl ([.ref (a 0), .int v0, .int v1])).length) Slot.unset).toArray = ls at hl ⊢
  have hl : lv_has ls 6 [(0, .ref (a 0)), (1, .int v0), (2, .int v1)] := hl
  exact db_X5_pipe_0 (dC := dC) (dI := dI) (a := a) (ac := ac) (n := n) (r := r) ⟨hlt, hx, hb, hml, hown, hts, hN, hA, hK⟩ (fun pc v τ H locs ls d er hP hD hS => by subst er; exact W.lret (v := v) hx hb hr (fun t ht hW => ⟨⟨v, (), rfl, rfl, by rw [ht]; exact hP, va_K.moved hW.alike hK, hD⟩, hS.F ht⟩) hS.2.2 d) v0 v1 s0 _ _ _ h hP hD va_S.rf (lv_sub hl [0, 1, 2] rfl)
def ow_dm_X5_read : List Cond := Cond.code yX5_read cX5_read 8 (some .long) :: ([Cond.constantLong RX5 251 (-22), Cond.fieldLink RX5 18 "TimeMachine$Kernel" "machine" "LTimeMachine$Machine;", Cond.methodLink RX5 253 yX6_mayAll, Cond.instanceMethod yX6_mayAll, Cond.selects RX6 yX6_mayAll yX6_mayAll, Cond.initialized RX6, Cond.fieldLink RX5 28 "TimeMachine$Kernel" "things" "LTimeMachine$Things;", Cond.methodLink RX5 123 yX10_openingOf, Cond.instanceMethod yX10_openingOf, Cond.selects RX10 yX10_openingOf yX10_openingOf, Cond.initialized RX10, Cond.constantLong RX5 294 (-1), Cond.methodLink RX5 291 yX10_of, Cond.instanceMethod yX10_of, Cond.selects RX10 yX10_of yX10_of, Cond.methodLink RX5 126 yX10_readWaits, Cond.instanceMethod yX10_readWaits, Cond.selects RX10 yX10_readWaits yX10_readWaits, Cond.methodLink RX5 296 yX10_coming, Cond.instanceMethod yX10_coming, Cond.selects RX10 yX10_coming yX10_coming, Cond.methodLink RX5 268 yX6_framesFor, Cond.instanceMethod yX6_framesFor, Cond.selects RX6 yX6_framesFor yX6_framesFor, Cond.methodLink RX5 232 yX6_framesFree, Cond.instanceMethod yX6_framesFree, Cond.selects RX6 yX6_framesFree yX6_framesFree, Cond.methodLink RX5 288 yX6_noteWrite, Cond.instanceMethod yX6_noteWrite, Cond.selects RX6 yX6_noteWrite yX6_noteWrite, Cond.methodLink RX5 302 yX10_taken, Cond.instanceMethod yX10_taken, Cond.selects RX10 yX10_taken yX10_taken, Cond.methodLink RX5 299 yX10_comingByte, Cond.instanceMethod yX10_comingByte, Cond.selects RX10 yX10_comingByte yX10_comingByte, Cond.methodLink RX5 284 yX6_put, Cond.instanceMethod yX6_put, Cond.selects RX6 yX6_put yX6_put, Cond.methodLink RX5 272 yX6_own, Cond.instanceMethod yX6_own, Cond.selects RX6 yX6_own yX6_own, Cond.constantLong RX5 155 (4398046511104), Cond.constantLong RX5 157 (1099511627776), Cond.constantLong RX5 257 (-14)] ++ (u_ws RX5 TX5 8 ++ (ow_dm_X6_mayAll ++ (ow_dm_X10_openingOf ++ (ow_dm_X10_of ++ (ow_dm_X10_readWaits ++ (ow_dm_X10_coming ++ (ow_dm_X6_framesFor ++ (ow_dm_X6_framesFree ++ (ow_dm_X6_noteWrite ++ (ow_dm_X10_taken ++ (ow_dm_X10_comingByte ++ (ow_dm_X6_put ++ (ow_dm_X6_own ++ []))))))))))))))
theorem gd_dm_X5_read : ∀ w ∈ ow_dm_X5_read, (w.onTables && w.keeps) = true ∨ ∃ ty, w = Cond.arrayClass ty := List.forall_mem_cons.mpr ⟨good_of_word rfl, List.forall_mem_append.mpr ⟨fun w h => good_of_word (List.all_eq_true.mp (by decide +kernel) w h), List.forall_mem_append.mpr ⟨gu_X5, List.forall_mem_append.mpr ⟨gd_dm_X6_mayAll, List.forall_mem_append.mpr ⟨gd_dm_X10_openingOf, List.forall_mem_append.mpr ⟨gd_dm_X10_of, List.forall_mem_append.mpr ⟨gd_dm_X10_readWaits, List.forall_mem_append.mpr ⟨gd_dm_X10_coming, List.forall_mem_append.mpr ⟨gd_dm_X6_framesFor, List.forall_mem_append.mpr ⟨gd_dm_X6_framesFree, List.forall_mem_append.mpr ⟨gd_dm_X6_noteWrite, List.forall_mem_append.mpr ⟨gd_dm_X10_taken, List.forall_mem_append.mpr ⟨gd_dm_X10_comingByte, List.forall_mem_append.mpr ⟨gd_dm_X6_put, List.forall_mem_append.mpr ⟨gd_dm_X6_own, fun _ h => nomatch h⟩⟩⟩⟩⟩⟩⟩⟩⟩⟩⟩⟩⟩⟩⟩
theorem hi_dm_X5_read_X5 : ∀ w ∈ u_ws RX5 TX5 8, w ∈ ow_dm_X5_read := fun w h => List.mem_cons_of_mem _ (List.mem_append_right _ (List.mem_append_left _ h))
theorem gi_dm_X5_read_0 : GoodIn ow_dm_X5_read (wsV RX5 253 RX6 yX6_mayAll ow_dm_X6_mayAll) := goodIn_app (goodIn_of _ (by decide +kernel)) (fun w h => ⟨List.mem_cons_of_mem _ (List.mem_append_right _ (List.mem_append_right _ (List.mem_append_left _ h))), gd_dm_X6_mayAll w h⟩)
theorem gi_dm_X5_read_1 : GoodIn ow_dm_X5_read (wsV RX5 123 RX10 yX10_openingOf ow_dm_X10_openingOf) := goodIn_app (goodIn_of _ (by decide +kernel)) (fun w h => ⟨List.mem_cons_of_mem _ (List.mem_append_right _ (List.mem_append_right _ (List.mem_append_right _ (List.mem_append_left _ h)))), gd_dm_X10_openingOf w h⟩)
theorem gi_dm_X5_read_2 : GoodIn ow_dm_X5_read (wsV RX5 291 RX10 yX10_of ow_dm_X10_of) := goodIn_app (goodIn_of _ (by decide +kernel)) (fun w h => ⟨List.mem_cons_of_mem _ (List.mem_append_right _ (List.mem_append_right _ (List.mem_append_right _ (List.mem_append_right _ (List.mem_append_left _ h))))), gd_dm_X10_of w h⟩)
theorem gi_dm_X5_read_3 : GoodIn ow_dm_X5_read (wsV RX5 126 RX10 yX10_readWaits ow_dm_X10_readWaits) := goodIn_app (goodIn_of _ (by decide +kernel)) (fun w h => ⟨List.mem_cons_of_mem _ (List.mem_append_right _ (List.mem_append_right _ (List.mem_append_right _ (List.mem_append_right _ (List.mem_append_right _ (List.mem_append_left _ h)))))), gd_dm_X10_readWaits w h⟩)
theorem gi_dm_X5_read_4 : GoodIn ow_dm_X5_read (wsV RX5 296 RX10 yX10_coming ow_dm_X10_coming) := goodIn_app (goodIn_of _ (by decide +kernel)) (fun w h => ⟨List.mem_cons_of_mem _ (List.mem_append_right _ (List.mem_append_right _ (List.mem_append_right _ (List.mem_append_right _ (List.mem_append_right _ (List.mem_append_right _ (List.mem_append_left _ h))))))), gd_dm_X10_coming w h⟩)
theorem gi_dm_X5_read_5 : GoodIn ow_dm_X5_read (wsV RX5 268 RX6 yX6_framesFor ow_dm_X6_framesFor) := goodIn_app (goodIn_of _ (by decide +kernel)) (fun w h => ⟨List.mem_cons_of_mem _ (List.mem_append_right _ (List.mem_append_right _ (List.mem_append_right _ (List.mem_append_right _ (List.mem_append_right _ (List.mem_append_right _ (List.mem_append_right _ (List.mem_append_left _ h)))))))), gd_dm_X6_framesFor w h⟩)
theorem gi_dm_X5_read_6 : GoodIn ow_dm_X5_read (wsV RX5 232 RX6 yX6_framesFree ow_dm_X6_framesFree) := goodIn_app (goodIn_of _ (by decide +kernel)) (fun w h => ⟨List.mem_cons_of_mem _ (List.mem_append_right _ (List.mem_append_right _ (List.mem_append_right _ (List.mem_append_right _ (List.mem_append_right _ (List.mem_append_right _ (List.mem_append_right _ (List.mem_append_right _ (List.mem_append_left _ h))))))))), gd_dm_X6_framesFree w h⟩)
theorem gi_dm_X5_read_7 : GoodIn ow_dm_X5_read (wsV RX5 288 RX6 yX6_noteWrite ow_dm_X6_noteWrite) := goodIn_app (goodIn_of _ (by decide +kernel)) (fun w h => ⟨List.mem_cons_of_mem _ (List.mem_append_right _ (List.mem_append_right _ (List.mem_append_right _ (List.mem_append_right _ (List.mem_append_right _ (List.mem_append_right _ (List.mem_append_right _ (List.mem_append_right _ (List.mem_append_right _ (List.mem_append_left _ h)))))))))), gd_dm_X6_noteWrite w h⟩)
theorem gi_dm_X5_read_8 : GoodIn ow_dm_X5_read (wsV RX5 302 RX10 yX10_taken ow_dm_X10_taken) := goodIn_app (goodIn_of _ (by decide +kernel)) (fun w h => ⟨List.mem_cons_of_mem _ (List.mem_append_right _ (List.mem_append_right _ (List.mem_append_right _ (List.mem_append_right _ (List.mem_append_right _ (List.mem_append_right _ (List.mem_append_right _ (List.mem_append_right _ (List.mem_append_right _ (List.mem_append_right _ (List.mem_append_left _ h))))))))))), gd_dm_X10_taken w h⟩)
theorem gi_dm_X5_read_9 : GoodIn ow_dm_X5_read (wsV RX5 299 RX10 yX10_comingByte ow_dm_X10_comingByte) := goodIn_app (goodIn_of _ (by decide +kernel)) (fun w h => ⟨List.mem_cons_of_mem _ (List.mem_append_right _ (List.mem_append_right _ (List.mem_append_right _ (List.mem_append_right _ (List.mem_append_right _ (List.mem_append_right _ (List.mem_append_right _ (List.mem_append_right _ (List.mem_append_right _ (List.mem_append_right _ (List.mem_append_right _ (List.mem_append_left _ h)))))))))))), gd_dm_X10_comingByte w h⟩)
theorem gi_dm_X5_read_10 : GoodIn ow_dm_X5_read (wsV RX5 284 RX6 yX6_put ow_dm_X6_put) := goodIn_app (goodIn_of _ (by decide +kernel)) (fun w h => ⟨List.mem_cons_of_mem _ (List.mem_append_right _ (List.mem_append_right _ (List.mem_append_right _ (List.mem_append_right _ (List.mem_append_right _ (List.mem_append_right _ (List.mem_append_right _ (List.mem_append_right _ (List.mem_append_right _ (List.mem_append_right _ (List.mem_append_right _ (List.mem_append_right _ (List.mem_append_left _ h))))))))))))), gd_dm_X6_put w h⟩)
theorem gi_dm_X5_read_11 : GoodIn ow_dm_X5_read (wsV RX5 272 RX6 yX6_own ow_dm_X6_own) := goodIn_app (goodIn_of _ (by decide +kernel)) (fun w h => ⟨List.mem_cons_of_mem _ (List.mem_append_right _ (List.mem_append_right _ (List.mem_append_right _ (List.mem_append_right _ (List.mem_append_right _ (List.mem_append_right _ (List.mem_append_right _ (List.mem_append_right _ (List.mem_append_right _ (List.mem_append_right _ (List.mem_append_right _ (List.mem_append_right _ (List.mem_append_right _ (List.mem_append_left _ h)))))))))))))), gd_dm_X6_own w h⟩)
def dj_X5_read_13 (p : Program) (l : Launch) (e : Env) (s : State) (m : MethodId) (args : Array Value) (below : List Frame) (meth : Method) (c : Code) (Q : State → Prop) (A : Nat → Prop) (dC : Nat → ClassId) (dI : Nat → Nat → Nat) (a : Nat → Nat) (ac : Nat → ClassId) (g : (St × (St × (St × (St)))) → Option (Int64 × (St × (St × (St × (St)))))) (r : Int64 × (St × (St × (St × (St))))) : Prop := ∀ (s0 : St × (St × (St × (St)))) (H : Heap) (locs : List Loc) (ls : Array Slot), g s0 = some r → va_P (dC, dI) vwCl (dw_X5 a ac s0) H → va_D A (dw_X5 a ac s0) → va_S A s.heap H locs → lv_has ls 8 [] → W p l e (headSpec ow_dm_X5_read ({ frames := 2, cells := 0, slots := 0, locals := 65 })).room s m args below meth c H locs 0 0 Q (F0 m 13 ls [])
def dj_X5_read_67 (p : Program) (l : Launch) (e : Env) (s : State) (m : MethodId) (args : Array Value) (below : List Frame) (meth : Method) (c : Code) (Q : State → Prop) (A : Nat → Prop) (dC : Nat → ClassId) (dI : Nat → Nat → Nat) (a : Nat → Nat) (ac : Nat → ClassId) (g : (St × (St × (St × (St)))) → Option (Int64 × (St × (St × (St × (St)))))) (r : Int64 × (St × (St × (St × (St))))) : Prop := ∀ (s0 : St × (St × (St × (St)))) (H : Heap) (locs : List Loc) (ls : Array Slot), g s0 = some r → va_P (dC, dI) vwCl (dw_X5 a ac s0) H → va_D A (dw_X5 a ac s0) → va_S A s.heap H locs → lv_has ls 8 [] → W p l e (headSpec ow_dm_X5_read ({ frames := 2, cells := 0, slots := 0, locals := 65 })).room s m args below meth c H locs 0 0 Q (F0 m 67 ls [])
def dj_X5_read_160 (p : Program) (l : Launch) (e : Env) (s : State) (m : MethodId) (args : Array Value) (below : List Frame) (meth : Method) (c : Code) (Q : State → Prop) (A : Nat → Prop) (dC : Nat → ClassId) (dI : Nat → Nat → Nat) (a : Nat → Nat) (ac : Nat → ClassId) (g : Int32 → Int32 → Int32 → Int32 → Int32 → Int32 → (St × (St × (St × (St)))) → Option (Int64 × (St × (St × (St × (St)))))) (r : Int64 × (St × (St × (St × (St))))) : Prop := ∀ (x1 : Int32) (x3 : Int32) (x4 : Int32) (x5 : Int32) (x6 : Int32) (x7 : Int32) (s0 : St × (St × (St × (St)))) (H : Heap) (locs : List Loc) (ls : Array Slot), g x1 x3 x4 x5 x6 x7 s0 = some r → va_P (dC, dI) vwCl (dw_X5 a ac s0) H → va_D A (dw_X5 a ac s0) → va_S A s.heap H locs → lv_has ls 8 [(0, .ref (a 0)), (1, .int x1), (3, .int x3), (4, .int x4), (5, .int x5), (6, .int x6), (7, .int x7)] → W p l e (headSpec ow_dm_X5_read ({ frames := 2, cells := 0, slots := 0, locals := 65 })).room s m args below meth c H locs 0 0 Q (F0 m 160 ls [])
def dj_X5_read_157 (p : Program) (l : Launch) (e : Env) (s : State) (m : MethodId) (args : Array Value) (below : List Frame) (meth : Method) (c : Code) (Q : State → Prop) (A : Nat → Prop) (dC : Nat → ClassId) (dI : Nat → Nat → Nat) (a : Nat → Nat) (ac : Nat → ClassId) (g : Int32 → Int32 → Int32 → Int32 → Int32 → (St × (St × (St × (St)))) → Option (Int64 × (St × (St × (St × (St)))))) (r : Int64 × (St × (St × (St × (St))))) : Prop := ∀ (x1 : Int32) (x3 : Int32) (x4 : Int32) (x5 : Int32) (x6 : Int32) (s0 : St × (St × (St × (St)))) (H : Heap) (locs : List Loc) (ls : Array Slot), g x1 x3 x4 x5 x6 s0 = some r → va_P (dC, dI) vwCl (dw_X5 a ac s0) H → va_D A (dw_X5 a ac s0) → va_S A s.heap H locs → lv_has ls 8 [(0, .ref (a 0)), (1, .int x1), (3, .int x3), (4, .int x4), (5, .int x5), (6, .int x6)] → W p l e (headSpec ow_dm_X5_read ({ frames := 2, cells := 0, slots := 0, locals := 65 })).room s m args below meth c H locs 0 0 Q (F0 m 157 ls [])
def dj_X5_read_0 (p : Program) (l : Launch) (e : Env) (s : State) (m : MethodId) (args : Array Value) (below : List Frame) (meth : Method) (c : Code) (Q : State → Prop) (A : Nat → Prop) (dC : Nat → ClassId) (dI : Nat → Nat → Nat) (a : Nat → Nat) (ac : Nat → ClassId) (g : Int32 → Int32 → Int32 → Int32 → (St × (St × (St × (St)))) → Option (Int64 × (St × (St × (St × (St)))))) (r : Int64 × (St × (St × (St × (St))))) : Prop := ∀ (v0 : Int32) (v1 : Int32) (v2 : Int32) (v3 : Int32) (s0 : St × (St × (St × (St)))) (H : Heap) (locs : List Loc) (ls : Array Slot), g v0 v1 v2 v3 s0 = some r → va_P (dC, dI) vwCl (dw_X5 a ac s0) H → va_D A (dw_X5 a ac s0) → va_S A s.heap H locs → lv_has ls 8 [(0, .ref (a 0)), (1, .int v0), (2, .int v1), (3, .int v2), (4, .int v3)] → W p l e (headSpec ow_dm_X5_read ({ frames := 2, cells := 0, slots := 0, locals := 65 })).room s m args below meth c H locs 0 0 Q (F0 m 0 ls [])
set_option maxHeartbeats 40000000 in
set_option maxRecDepth 100000 in
theorem db_X5_read_13 {p : Program} {l : Launch} {e : Env} {s : State} {m : MethodId} {args : Array Value} {below : List Frame} {meth : Method} {c : Code} {Q : State → Prop} {A : Nat → Prop} {dC : Nat → ClassId} {dI : Nat → Nat → Nat} {a : Nat → Nat} {ac : Nat → ClassId} {n : Nat} {r : Int64 × (St × (St × (St × (St))))} (C : nd_C p l s m args c A (dC, dI) cX5_read 8 RX5 ow_dm_X5_read (dk_X5 ac)) (K : nd_Kl p l e (headSpec ow_dm_X5_read ({ frames := 2, cells := 0, slots := 0, locals := 65 })).room s m args below meth c Q A (dC, dI) cX5_read (St × (St × (St × (St)))) (dw_X5 a ac) r) : dj_X5_read_13 p l e s m args below meth c Q A dC dI a ac (df_X5_read_13 n) r := by
  obtain ⟨hlt, hx, hb, hml, hown, hts, hN, hA, hK⟩ := id C
  intro s0 H locs ls h hP hD hS hl
  unfold df_X5_read_13 at h
  refine lv_ldc2 hx hb hown (hts (.constantLong RX5 251 (-22)) (List.mem_of_getElem? (i := 1) rfl)) dX5_read_13 ?_
  exact K _ _ _ _ _ _ dX5_read_16 (Option.some.inj h).symm hP hD hS
set_option maxHeartbeats 40000000 in
set_option maxRecDepth 100000 in
theorem db_X5_read_67 {p : Program} {l : Launch} {e : Env} {s : State} {m : MethodId} {args : Array Value} {below : List Frame} {meth : Method} {c : Code} {Q : State → Prop} {A : Nat → Prop} {dC : Nat → ClassId} {dI : Nat → Nat → Nat} {a : Nat → Nat} {ac : Nat → ClassId} {n : Nat} {r : Int64 × (St × (St × (St × (St))))} (C : nd_C p l s m args c A (dC, dI) cX5_read 8 RX5 ow_dm_X5_read (dk_X5 ac)) (K : nd_Kl p l e (headSpec ow_dm_X5_read ({ frames := 2, cells := 0, slots := 0, locals := 65 })).room s m args below meth c Q A (dC, dI) cX5_read (St × (St × (St × (St)))) (dw_X5 a ac) r) : dj_X5_read_67 p l e s m args below meth c Q A dC dI a ac (df_X5_read_67 n) r := by
  obtain ⟨hlt, hx, hb, hml, hown, hts, hN, hA, hK⟩ := id C
  intro s0 H locs ls h hP hD hS hl
  unfold df_X5_read_67 at h
  refine lv_ldc2 hx hb hown (hts (.constantLong RX5 294 (-1)) (List.mem_of_getElem? (i := 12) rfl)) dX5_read_67 ?_
  exact K _ _ _ _ _ _ dX5_read_70 (Option.some.inj h).symm hP hD hS

