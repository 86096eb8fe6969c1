def ow_dm_X13_fixed : List Cond := .code yX13_fixed cX13_fixed 4 (some .int) :: ([.methodLink RX13 525 yX13_expression, .instanceMethod yX13_expression, .selects RX13 yX13_expression yX13_expression, .initialized RX13, .fieldLink RX13 522 "TimeMachineModel$Assembler" "mode" "I", .fieldLink RX13 410 "TimeMachineModel$Assembler" "fault" "I", .fieldLink RX13 483 "TimeMachineModel$Assembler" "loose" "Z", .fieldLink RX13 470 "TimeMachineModel$Assembler" "divided" "Z", .methodLink RX13 419 yX13_blame, .instanceMethod yX13_blame, .selects RX13 yX13_blame yX13_blame] ++ (u_ws RX13 TX13 37 ++ (ow_dm_X13_expression ++ (ow_dm_X13_blame ++ []))))
theorem gd_dm_X13_fixed : ∀ w ∈ ow_dm_X13_fixed, (w.onTables && w.keeps) = true ∨ ∃ ty, w = Cond.arrayClass ty := List.forall_mem_cons.mpr ⟨good_of_word rfl, List.forall_mem_append.mpr ⟨fun w h => good_of_word (List.all_eq_true.mp (by decide +kernel) w h), List.forall_mem_append.mpr ⟨gu_X13, List.forall_mem_append.mpr ⟨gd_dm_X13_expression, List.forall_mem_append.mpr ⟨gd_dm_X13_blame, fun _ h => nomatch h⟩⟩⟩⟩⟩
theorem hi_dm_X13_fixed_X13 : ∀ w ∈ u_ws RX13 TX13 37, w ∈ ow_dm_X13_fixed := fun w h => List.mem_cons_of_mem _ (List.mem_append_right _ (List.mem_append_left _ h))
theorem gi_dm_X13_fixed_0 : GoodIn ow_dm_X13_fixed (wsV RX13 525 RX13 yX13_expression ow_dm_X13_expression) := goodIn_app (goodIn_of _ (by decide +kernel)) (fun w h => ⟨List.mem_cons_of_mem _ (List.mem_append_right _ (List.mem_append_right _ (List.mem_append_left _ h))), gd_dm_X13_expression w h⟩)
theorem gi_dm_X13_fixed_1 : GoodIn ow_dm_X13_fixed (wsV RX13 419 RX13 yX13_blame ow_dm_X13_blame) := goodIn_app (goodIn_of _ (by decide +kernel)) (fun w h => ⟨List.mem_cons_of_mem _ (List.mem_append_right _ (List.mem_append_right _ (List.mem_append_right _ (List.mem_append_left _ h)))), gd_dm_X13_blame w h⟩)
def dj_X13_fixed_66 (p : Program) (l : Launch) (e : Env) (s : State) (m : MethodId) (args : Array Value) (below : List Frame) (meth : Method) (c : Code) (Q : State → Prop) (A : Nat → Prop) (dC : Nat → ClassId) (dI : Nat → Nat → Nat) (a : Nat → Nat) (ac : Nat → ClassId) (g : Int32 → (St) → Option (Int32 × (St))) (r : Int32 × (St)) : Prop := ∀ (x3 : Int32) (s0 : St) (H : Heap) (locs : List Loc) (ls : Array Slot), g x3 s0 = some r → va_P (dC, dI) vwCl (dw_X13 a ac s0) H → va_D A (dw_X13 a ac s0) → va_S A s.heap H locs → lv_has ls 4 [(3, .int x3)] → W p l e (headSpec ow_dm_X13_fixed ({ frames := 8, cells := 0, slots := 0, locals := 182 })).room s m args below meth c H locs 0 0 Q (F0 m 66 ls [])
def dj_X13_fixed_60 (p : Program) (l : Launch) (e : Env) (s : State) (m : MethodId) (args : Array Value) (below : List Frame) (meth : Method) (c : Code) (Q : State → Prop) (A : Nat → Prop) (dC : Nat → ClassId) (dI : Nat → Nat → Nat) (a : Nat → Nat) (ac : Nat → ClassId) (g : Int32 → (St) → Option (Int32 × (St))) (r : Int32 × (St)) : Prop := ∀ (x3 : Int32) (s0 : St) (H : Heap) (locs : List Loc) (ls : Array Slot), g x3 s0 = some r → va_P (dC, dI) vwCl (dw_X13 a ac s0) H → va_D A (dw_X13 a ac s0) → va_S A s.heap H locs → lv_has ls 4 [(0, .ref (a 0)), (3, .int x3)] → W p l e (headSpec ow_dm_X13_fixed ({ frames := 8, cells := 0, slots := 0, locals := 182 })).room s m args below meth c H locs 0 0 Q (F0 m 60 ls [])
def dj_X13_fixed_0 (p : Program) (l : Launch) (e : Env) (s : State) (m : MethodId) (args : Array Value) (below : List Frame) (meth : Method) (c : Code) (Q : State → Prop) (A : Nat → Prop) (dC : Nat → ClassId) (dI : Nat → Nat → Nat) (a : Nat → Nat) (ac : Nat → ClassId) (g : Int32 → Int32 → (St) → Option (Int32 × (St))) (r : Int32 × (St)) : Prop := ∀ (v0 : Int32) (v1 : Int32) (s0 : St) (H : Heap) (locs : List Loc) (ls : Array Slot), g v0 v1 s0 = some r → va_P (dC, dI) vwCl (dw_X13 a ac s0) H → va_D A (dw_X13 a ac s0) → va_S A s.heap H locs → lv_has ls 4 [(0, .ref (a 0)), (1, .int v0), (2, .int v1)] → W p l e (headSpec ow_dm_X13_fixed ({ frames := 8, cells := 0, slots := 0, locals := 182 })).room s m args below meth c H locs 0 0 Q (F0 m 0 ls [])
set_option maxHeartbeats 40000000 in
set_option maxRecDepth 100000 in
theorem db_X13_fixed_66 {p : Program} {l : Launch} {e : Env} {s : State} {m : MethodId} {args : Array Value} {below : List Frame} {meth : Method} {c : Code} {Q : State → Prop} {A : Nat → Prop} {dC : Nat → ClassId} {dI : Nat → Nat → Nat} {a : Nat → Nat} {ac : Nat → ClassId} {n : Nat} {r : Int32 × (St)} (C : nd_C p l s m args c A (dC, dI) cX13_fixed 4 RX13 ow_dm_X13_fixed (dk_X13 ac)) (K : nd_Ki p l e (headSpec ow_dm_X13_fixed ({ frames := 8, cells := 0, slots := 0, locals := 182 })).room s m args below meth c Q A (dC, dI) cX13_fixed .int (St) (dw_X13 a ac) r) : dj_X13_fixed_66 p l e s m args below meth c Q A dC dI a ac (df_X13_fixed_66 n) r := by
  obtain ⟨hlt, hx, hb, hml, hown, hts, hN, hA, hK⟩ := id C
  intro x3 s0 H locs ls h hP hD hS hl
  unfold df_X13_fixed_66 at h
  refine lv_iload_n hx hb dX13_fixed_66 rfl (lv_at hl 0 rfl) ?_
  exact K _ _ _ _ _ _ dX13_fixed_67 rfl (Option.some.inj h).symm hP hD hS
set_option maxHeartbeats 40000000 in
set_option maxRecDepth 100000 in
theorem db_X13_fixed_60 {p : Program} {l : Launch} {e : Env} {s : State} {m : MethodId} {args : Array Value} {below : List Frame} {meth : Method} {c : Code} {Q : State → Prop} {A : Nat → Prop} {dC : Nat → ClassId} {dI : Nat → Nat → Nat} {a : Nat → Nat} {ac : Nat → ClassId} {n : Nat} {r : Int32 × (St)} (C : nd_C p l s m args c A (dC, dI) cX13_fixed 4 RX13 ow_dm_X13_fixed (dk_X13 ac)) (K : nd_Ki p l e (headSpec ow_dm_X13_fixed ({ frames := 8, cells := 0, slots := 0, locals := 182 })).room s m args below meth c Q A (dC, dI) cX13_fixed .int (St) (dw_X13 a ac) r) : dj_X13_fixed_60 p l e s m args below meth c Q A dC dI a ac (df_X13_fixed_60 n) r := by
  obtain ⟨hlt, hx, hb, hml, hown, hts, hN, hA, hK⟩ := id C
  intro x3 s0 H locs ls h hP hD hS hl
  unfold df_X13_fixed_60 at h
  refine lv_aload_n hx hb dX13_fixed_60 rfl (lv_at hl 0 rfl) ?_
  refine lv_bipush (v := 6) hx hb dX13_fixed_61 (by decide) ?_
  obtain ⟨s10, hq, h⟩ := nd_b1_e h
  have hPc := hP
  have hDc := hD
  have hKc := hK
  have hFc := nd_rs hD hS hA
  refine nd_cVv (As := [.int 6]) (rest := []) (w' := dw_X13 a ac s10) ⟨hx, hb, hml, hown, hts⟩ (fun sz => dm_X13_blame l hlt dC dI a ac n (6) s0 hq sz) (cwV 1 hts gi_dm_X13_fixed_1 rfl rfl rfl (by decide +kernel) ⟨Nat.le_of_ble_eq_true rfl, Nat.le_of_ble_eq_true rfl⟩) hPc hDc hKc hS hA hN (va_recv hKc hPc (ci := 14) (q0 := 0) rfl rfl) rfl hl.1 rfl (Nat.le_of_ble_eq_true rfl) dX13_fixed_63 (fun H locs hP1 hD1 hk1 hS => ?_)
  have hP := hP1
  have hD := hD1.weaken (fun k q _ h => hFc q.1 h)
  exact (db_X13_fixed_66 C K) (x3) s10 _ _ _ h hP hD hS (lv_sub hl [1] rfl)
set_option maxHeartbeats 40000000 in
set_option maxRecDepth 100000 in
theorem db_X13_fixed_0 {p : Program} {l : Launch} {e : Env} {s : State} {m : MethodId} {args : Array Value} {below : List Frame} {meth : Method} {c : Code} {Q : State → Prop} {A : Nat → Prop} {dC : Nat → ClassId} {dI : Nat → Nat → Nat} {a : Nat → Nat} {ac : Nat → ClassId} {n : Nat} {r : Int32 × (St)} (C : nd_C p l s m args c A (dC, dI) cX13_fixed 4 RX13 ow_dm_X13_fixed (dk_X13 ac)) (K : nd_Ki p l e (headSpec ow_dm_X13_fixed ({ frames := 8, cells := 0, slots := 0, locals := 182 })).room s m args below meth c Q A (dC, dI) cX13_fixed .int (St) (dw_X13 a ac) r) : dj_X13_fixed_0 p l e s m args below meth c Q A dC dI a ac (df_X13_fixed_0 n) r := by
  obtain ⟨hlt, hx, hb, hml, hown, hts, hN, hA, hK⟩ := id C
  intro v0 v1 s0 H locs ls h hP hD hS hl
  unfold df_X13_fixed_0 at h
  refine lv_aload_n hx hb dX13_fixed_0 rfl (lv_at hl 0 rfl) ?_
  obtain ⟨q1, s2, hq, h⟩ := nd_b2_e h
  have hPc := hP
  have hDc := hD
  have hKc := hK
  have hFc := nd_rs hD hS hA
  refine nd_cVi (As := []) (rest := []) (q := q1) (w' := dw_X13 a ac s2) ⟨hx, hb, hml, hown, hts⟩ (fun sz => dm_X13_expression l hlt dC dI a ac n  s0 hq sz) (cwV 0 hts gi_dm_X13_fixed_0 rfl rfl rfl (by decide +kernel) ⟨Nat.le_of_ble_eq_true rfl, Nat.le_of_ble_eq_true rfl⟩) hPc hDc hKc hS hA hN (va_recv hKc hPc (ci := 14) (q0 := 0) rfl rfl) rfl hl.1 rfl (Nat.le_of_ble_eq_true rfl) dX13_fixed_1 (fun H locs hP1 hD1 hk1 hS => ?_)
  have hP := hP1
  have hD := hD1.weaken (fun k q _ h => hFc q.1 h)
  refine lv_istore_n (lv' := [(3, .int q1), (0, .ref (a 0)), (1, .int v0), (2, .int v1)]) hx hb dX13_fixed_4 rfl hl (by decide) rfl (fun ls hl => ?_)
  refine lv_aload_n hx hb dX13_fixed_5 rfl (lv_at hl 1 rfl) ?_
  refine va_get (D := (dC, dI)) (ci := 14) (v := .int (sI s2 15)) (C := RX13) (T := TX13) (N := 37) hx hb hts hi_dm_X13_fixed_X13 hown hK hP 0 rfl rfl 24 (by decide) (hts (.fieldLink RX13 522 "TimeMachineModel$Assembler" "mode" "I") (List.mem_of_getElem? (i := 5) rfl)) (fun _ h9 => h9) rfl dX13_fixed_6 ?_
  refine lv_if_ne (tgt := 66) hx hb dX13_fixed_9 (by decide) (fun c4 => ?_) (fun c4 => ?_)
  · have h := nd_neg h c4
    exact (db_X13_fixed_66 C K) (q1) s2 _ _ _ h hP hD hS (lv_sub hl [0] rfl)
  · have h := nd_pos h c4
    refine lv_aload_n hx hb dX13_fixed_12 rfl (lv_at hl 1 rfl) ?_
    refine va_get (D := (dC, dI)) (ci := 14) (v := .int (sI s2 12)) (C := RX13) (T := TX13) (N := 37) hx hb hts hi_dm_X13_fixed_X13 hown hK hP 0 rfl rfl 21 (by decide) (hts (.fieldLink RX13 410 "TimeMachineModel$Assembler" "fault" "I") (List.mem_of_getElem? (i := 6) rfl)) (fun _ h9 => h9) rfl dX13_fixed_13 ?_
    refine lv_if_ne (tgt := 66) hx hb dX13_fixed_16 (by decide) (fun c5 => ?_) (fun c5 => ?_)
    · have h := nd_neg h c5
      exact (db_X13_fixed_66 C K) (q1) s2 _ _ _ h hP hD hS (lv_sub hl [0] rfl)
    · have h := nd_pos h c5
      refine lv_aload_n hx hb dX13_fixed_19 rfl (lv_at hl 1 rfl) ?_
      refine va_get (D := (dC, dI)) (ci := 14) (v := .int (sI s2 23)) (C := RX13) (T := TX13) (N := 37) hx hb hts hi_dm_X13_fixed_X13 hown hK hP 0 rfl rfl 33 (by decide) (hts (.fieldLink RX13 483 "TimeMachineModel$Assembler" "loose" "Z") (List.mem_of_getElem? (i := 7) rfl)) (fun _ h9 => h9) rfl dX13_fixed_20 ?_
      refine lv_if_eq (tgt := 34) hx hb dX13_fixed_23 (by decide) (fun c6 => ?_) (fun c6 => ?_)
      · have h := nd_pos h c6
        refine lv_aload_n hx hb dX13_fixed_34 rfl (lv_at hl 1 rfl) ?_
        refine va_get (D := (dC, dI)) (ci := 14) (v := .int (sI s2 22)) (C := RX13) (T := TX13) (N := 37) hx hb hts hi_dm_X13_fixed_X13 hown hK hP 0 rfl rfl 32 (by decide) (hts (.fieldLink RX13 470 "TimeMachineModel$Assembler" "divided" "Z") (List.mem_of_getElem? (i := 8) rfl)) (fun _ h9 => h9) rfl dX13_fixed_35 ?_
        refine lv_if_eq (tgt := 50) hx hb dX13_fixed_38 (by decide) (fun c7 => ?_) (fun c7 => ?_)
        · have h := nd_pos h c7
          refine lv_iload_n hx hb dX13_fixed_50 rfl (lv_at hl 0 rfl) ?_
          refine lv_iload_n hx hb dX13_fixed_51 rfl (lv_at hl 2 rfl) ?_
          refine lv_icmp_lt (tgt := 60) hx hb dX13_fixed_52 (by decide) (fun c8 => ?_) (fun c8 => ?_)
          · have h := nd_pos h c8
            exact (db_X13_fixed_60 C K) (q1) s2 _ _ _ h hP hD hS (lv_sub hl [1, 0] rfl)
          · have h := nd_neg h c8
            refine lv_iload_n hx hb dX13_fixed_55 rfl (lv_at hl 0 rfl) ?_
            refine lv_iload_n hx hb dX13_fixed_56 rfl (lv_at hl 3 rfl) ?_
            refine lv_icmp_le (tgt := 66) hx hb dX13_fixed_57 (by decide) (fun c12 => ?_) (fun c12 => ?_)
            · have h := nd_pos h c12
              exact (db_X13_fixed_66 C K) (q1) s2 _ _ _ h hP hD hS (lv_sub hl [0] rfl)
            · have h := nd_neg h c12
              exact (db_X13_fixed_60 C K) (q1) s2 _ _ _ h hP hD hS (lv_sub hl [1, 0] rfl)
        · have h := nd_neg h c7
          refine lv_aload_n hx hb dX13_fixed_41 rfl (lv_at hl 1 rfl) ?_
          refine lv_bipush (v := 9) hx hb dX13_fixed_42 (by decide) ?_
          obtain ⟨s14, hq, h⟩ := nd_b1_e h
          have hPc := hP
          have hDc := hD
          have hKc := hK
          have hFc := nd_rs hD hS hA
          refine nd_cVv (As := [.int 9]) (rest := []) (w' := dw_X13 a ac s14) ⟨hx, hb, hml, hown, hts⟩ (fun sz => dm_X13_blame l hlt dC dI a ac n (9) s2 hq sz) (cwV 1 hts gi_dm_X13_fixed_1 rfl rfl rfl (by decide +kernel) ⟨Nat.le_of_ble_eq_true rfl, Nat.le_of_ble_eq_true rfl⟩) hPc hDc hKc hS hA hN (va_recv hKc hPc (ci := 14) (q0 := 0) rfl rfl) rfl hl.1 rfl (Nat.le_of_ble_eq_true rfl) dX13_fixed_44 (fun H locs hP1 hD1 hk1 hS => ?_)
          have hP := hP1
          have hD := hD1.weaken (fun k q _ h => hFc q.1 h)
          refine lv_goto (tgt := 66) hx hb dX13_fixed_47 (by decide) ?_
          exact (db_X13_fixed_66 C K) (q1) s14 _ _ _ h hP hD hS (lv_sub hl [0] rfl)
      · have h := nd_neg h c6
        refine lv_aload_n hx hb dX13_fixed_26 rfl (lv_at hl 1 rfl) ?_
        refine lv_iconst (v := 5) hx hb dX13_fixed_27 (by decide) ?_
        obtain ⟨s17, hq, h⟩ := nd_b1_e h
        have hPc := hP
        have hDc := hD
        have hKc := hK
        have hFc := nd_rs hD hS hA
        refine nd_cVv (As := [.int 5]) (rest := []) (w' := dw_X13 a ac s17) ⟨hx, hb, hml, hown, hts⟩ (fun sz => dm_X13_blame l hlt dC dI a ac n (5) s2 hq sz) (cwV 1 hts gi_dm_X13_fixed_1 rfl rfl rfl (by decide +kernel) ⟨Nat.le_of_ble_eq_true rfl, Nat.le_of_ble_eq_true rfl⟩) hPc hDc hKc hS hA hN (va_recv hKc hPc (ci := 14) (q0 := 0) rfl rfl) rfl hl.1 rfl (Nat.le_of_ble_eq_true rfl) dX13_fixed_28 (fun H locs hP1 hD1 hk1 hS => ?_)
        have hP := hP1
        have hD := hD1.weaken (fun k q _ h => hFc q.1 h)
        refine lv_goto (tgt := 66) hx hb dX13_fixed_31 (by decide) ?_
        exact (db_X13_fixed_66 C K) (q1) s17 _ _ _ h hP hD hS (lv_sub hl [0] rfl)
set_option maxHeartbeats 40000000 in
set_option maxRecDepth 100000 in
theorem dm_X13_fixed (l : Launch) (hlt : l.stackTraces = false) (dC : Nat → ClassId) (dI : Nat → Nat → Nat) (a : Nat → Nat) (ac : Nat → ClassId) (n : Nat) (v0 : Int32) (v1 : Int32) (s0 : St) {r : Int32 × (St)} (h : df_X13_fixed n v0 v1 s0 = some r) (sz : Nat) : Met l yX13_fixed ow_dm_X13_fixed ({ frames := 8, cells := 0, slots := 0, locals := 182 }) (va_Pc [.ref (a 0), .int v0, .int v1] (fun U => U.heap.size = sz ∧ va_P (dC, dI) vwCl (dw_X13 a ac s0) U.heap ∧ va_K (dC, dI) vwCl (dk_X13 ac) U ∧ va_D (fun _ => True) (dw_X13 a ac s0) ∧ nv_E (va_A (dw_X13 a ac s0) sz) U)) (va_Qi (fun x _ => x = r.1) (fun (_ : Unit) t => va_P (dC, dI) vwCl (dw_X13 a ac r.2) t.heap ∧ va_K (dC, dI) vwCl (dk_X13 ac) t ∧ va_D (va_A (dw_X13 a ac s0) sz) (dw_X13 a ac r.2)) (va_A (dw_X13 a ac s0) sz)) 0 0 (va_A (dw_X13 a ac s0) sz) := by
  refine Met.ofW (cc := cX13_fixed) (maxL := 4) (ret := (some .int)) (by decide) rfl ?_
  intro p e s m args below meth c s₁ B hml hv
  obtain ⟨rfl, hsz, hP, hK, hD0, hN⟩ := hv
  have hx := B.exec
  have hb := B.bytes
  have hr := B.returns
  have hts := atoms_spec (ws := ow_dm_X13_fixed) B.pre
  have hown : s.vm.findClass RX13 = some m.cls := findClass_of_methodNamed B.named
  have hlocks := B.notSynchronized
  subst hsz
  have hD := hD0.self (sz := s.heap.size)
  generalize hAe : va_A (dw_X13 a ac s0) s.heap.size = A at hD hN ⊢
  have hA : ∀ q : Nat, s.heap.size ≤ q → A q := fun q h => by rw [← hAe]; exact Or.inr h
  have hl := lv_entry ([.ref (a 0), .int v0, .int v1]) (n := 4) (Nat.le_of_ble_eq_true rfl)
  rw [lg_entry_eq]
  generalize (lg_sl ([.ref (a 0), .int v0, .int v1]) ++ List.replicate (4 - (lg_sl ([.ref (a 0), .int v0, .int v1])).length) Slot.unset).toArray = ls at hl ⊢
  have hl : lv_has ls 4 [(0, .ref (a 0)), (1, .int v0), (2, .int v1)] := hl
  exact db_X13_fixed_0 (dC := dC) (dI := dI) (a := a) (ac := ac) (n := n) (r := r) ⟨hlt, hx, hb, hml, hown, hts, hN, hA, hK⟩ (fun pc v τ H locs ls d z er hP hD hS => by subst er; exact W.zret (v := v) hx hb hr z (fun t ht hW => ⟨⟨v, (), rfl, rfl, by rw [ht]; exact hP, va_K.moved hW.alike hK, hD⟩, hS.F ht⟩) hS.2.2 d) v0 v1 s0 _ _ _ h hP hD va_S.rf (lv_sub hl [0, 1, 2] rfl)
def ow_dm_X13_taken : List Cond := .code yX13_taken cX13_taken 2 (some .int) :: ([.methodLink RX13 416 yX13_scan, .instanceMethod yX13_scan, .selects RX13 yX13_scan yX13_scan, .initialized RX13, .fieldLink RX13 365 "TimeMachineModel$Assembler" "token" "I", .methodLink RX13 419 yX13_blame, .instanceMethod yX13_blame, .selects RX13 yX13_blame yX13_blame, .fieldLink RX13 368 "TimeMachineModel$Assembler" "from" "I", .fieldLink RX13 371 "TimeMachineModel$Assembler" "to" "I", .methodLink RX13 477 yX13_register, .instanceMethod yX13_register, .selects RX13 yX13_register yX13_register] ++ (u_ws RX13 TX13 37 ++ (ow_dm_X13_scan ++ (ow_dm_X13_blame ++ (ow_dm_X13_register ++ [])))))
theorem gd_dm_X13_taken : ∀ w ∈ ow_dm_X13_taken, (w.onTables && w.keeps) = true ∨ ∃ ty, w = Cond.arrayClass ty := List.forall_mem_cons.mpr ⟨good_of_word rfl, List.forall_mem_append.mpr ⟨fun w h => good_of_word (List.all_eq_true.mp (by decide +kernel) w h), List.forall_mem_append.mpr ⟨gu_X13, List.forall_mem_append.mpr ⟨gd_dm_X13_scan, List.forall_mem_append.mpr ⟨gd_dm_X13_blame, List.forall_mem_append.mpr ⟨gd_dm_X13_register, fun _ h => nomatch h⟩⟩⟩⟩⟩⟩
theorem hi_dm_X13_taken_X13 : ∀ w ∈ u_ws RX13 TX13 37, w ∈ ow_dm_X13_taken := fun w h => List.mem_cons_of_mem _ (List.mem_append_right _ (List.mem_append_left _ h))
theorem gi_dm_X13_taken_0 : GoodIn ow_dm_X13_taken (wsV RX13 416 RX13 yX13_scan ow_dm_X13_scan) := goodIn_app (goodIn_of _ (by decide +kernel)) (fun w h => ⟨List.mem_cons_of_mem _ (List.mem_append_right _ (List.mem_append_right _ (List.mem_append_left _ h))), gd_dm_X13_scan w h⟩)
theorem gi_dm_X13_taken_1 : GoodIn ow_dm_X13_taken (wsV RX13 419 RX13 yX13_blame ow_dm_X13_blame) := goodIn_app (goodIn_of _ (by decide +kernel)) (fun w h => ⟨List.mem_cons_of_mem _ (List.mem_append_right _ (List.mem_append_right _ (List.mem_append_right _ (List.mem_append_left _ h)))), gd_dm_X13_blame w h⟩)
theorem gi_dm_X13_taken_2 : GoodIn ow_dm_X13_taken (wsV RX13 477 RX13 yX13_register ow_dm_X13_register) := goodIn_app (goodIn_of _ (by decide +kernel)) (fun w h => ⟨List.mem_cons_of_mem _ (List.mem_append_right _ (List.mem_append_right _ (List.mem_append_right _ (List.mem_append_right _ (List.mem_append_left _ h))))), gd_dm_X13_register w h⟩)
def dj_X13_taken_70 (p : Program) (l : Launch) (e : Env) (s : State) (m : MethodId) (args : Array Value) (below : List Frame) (meth : Method) (c : Code) (Q : State → Prop) (A : Nat → Prop) (dC : Nat → ClassId) (dI : Nat → Nat → Nat) (a : Nat → Nat) (ac : Nat → ClassId) (g : Int32 → (St) → Option (Int32 × (St))) (r : Int32 × (St)) : Prop := ∀ (y0 : Int32) (s0 : St) (H : Heap) (locs : List Loc) (ls : Array Slot), g y0 s0 = some r → va_P (dC, dI) vwCl (dw_X13 a ac s0) H → va_D A (dw_X13 a ac s0) → va_S A s.heap H locs → lv_has ls 2 [] → W p l e (headSpec ow_dm_X13_taken ({ frames := 5, cells := 0, slots := 0, locals := 114 })).room s m args below meth c H locs 0 0 Q (F0 m 70 ls [.int y0])
def dj_X13_taken_61 (p : Program) (l : Launch) (e : Env) (s : State) (m : MethodId) (args : Array Value) (below : List Frame) (meth : Method) (c : Code) (Q : State → Prop) (A : Nat → Prop) (dC : Nat → ClassId) (dI : Nat → Nat → Nat) (a : Nat → Nat) (ac : Nat → ClassId) (g : Int32 → (St) → Option (Int32 × (St))) (r : Int32 × (St)) : Prop := ∀ (x1 : Int32) (s0 : St) (H : Heap) (locs : List Loc) (ls : Array Slot), g x1 s0 = some r → va_P (dC, dI) vwCl (dw_X13 a ac s0) H → va_D A (dw_X13 a ac s0) → va_S A s.heap H locs → lv_has ls 2 [(1, .int x1)] → W p l e (headSpec ow_dm_X13_taken ({ frames := 5, cells := 0, slots := 0, locals := 114 })).room s m args below meth c H locs 0 0 Q (F0 m 61 ls [])
def dj_X13_taken_44 (p : Program) (l : Launch) (e : Env) (s : State) (m : MethodId) (args : Array Value) (below : List Frame) (meth : Method) (c : Code) (Q : State → Prop) (A : Nat → Prop) (dC : Nat → ClassId) (dI : Nat → Nat → Nat) (a : Nat → Nat) (ac : Nat → ClassId) (g : Int32 → (St) → Option (Int32 × (St))) (r : Int32 × (St)) : Prop := ∀ (x1 : Int32) (s0 : St) (H : Heap) (locs : List Loc) (ls : Array Slot), g x1 s0 = some r → va_P (dC, dI) vwCl (dw_X13 a ac s0) H → va_D A (dw_X13 a ac s0) → va_S A s.heap H locs → lv_has ls 2 [(0, .ref (a 0)), (1, .int x1)] → W p l e (headSpec ow_dm_X13_taken ({ frames := 5, cells := 0, slots := 0, locals := 114 })).room s m args below meth c H locs 0 0 Q (F0 m 44 ls [])
def dj_X13_taken_28 (p : Program) (l : Launch) (e : Env) (s : State) (m : MethodId) (args : Array Value) (below : List Frame) (meth : Method) (c : Code) (Q : State → Prop) (A : Nat → Prop) (dC : Nat → ClassId) (dI : Nat → Nat → Nat) (a : Nat → Nat) (ac : Nat → ClassId) (g : Int32 → (St) → Option (Int32 × (St))) (r : Int32 × (St)) : Prop := ∀ (y0 : Int32) (s0 : St) (H : Heap) (locs : List Loc) (ls : Array Slot), g y0 s0 = some r → va_P (dC, dI) vwCl (dw_X13 a ac s0) H → va_D A (dw_X13 a ac s0) → va_S A s.heap H locs → lv_has ls 2 [(0, .ref (a 0))] → W p l e (headSpec ow_dm_X13_taken ({ frames := 5, cells := 0, slots := 0, locals := 114 })).room s m args below meth c H locs 0 0 Q (F0 m 28 ls [.int y0])
def dj_X13_taken_0 (p : Program) (l : Launch) (e : Env) (s : State) (m : MethodId) (args : Array Value) (below : List Frame) (meth : Method) (c : Code) (Q : State → Prop) (A : Nat → Prop) (dC : Nat → ClassId) (dI : Nat → Nat → Nat) (a : Nat → Nat) (ac : Nat → ClassId) (g : (St) → Option (Int32 × (St))) (r : Int32 × (St)) : Prop := ∀ (s0 : St) (H : Heap) (locs : List Loc) (ls : Array Slot), g s0 = some r → va_P (dC, dI) vwCl (dw_X13 a ac s0) H → va_D A (dw_X13 a ac s0) → va_S A s.heap H locs → lv_has ls 2 [(0, .ref (a 0))] → W p l e (headSpec ow_dm_X13_taken ({ frames := 5, cells := 0, slots := 0, locals := 114 })).room s m args below meth c H locs 0 0 Q (F0 m 0 ls [])
set_option maxHeartbeats 40000000 in
set_option maxRecDepth 100000 in
theorem db_X13_taken_70 {p : Program} {l : Launch} {e : Env} {s : State} {m : MethodId} {args : Array Value} {below : List Frame} {meth : Method} {c : Code} {Q : State → Prop} {A : Nat → Prop} {dC : Nat → ClassId} {dI : Nat → Nat → Nat} {a : Nat → Nat} {ac : Nat → ClassId} {n : Nat} {r : Int32 × (St)} (C : nd_C p l s m args c A (dC, dI) cX13_taken 2 RX13 ow_dm_X13_taken (dk_X13 ac)) (K : nd_Ki p l e (headSpec ow_dm_X13_taken ({ frames := 5, cells := 0, slots := 0, locals := 114 })).room s m args below meth c Q A (dC, dI) cX13_taken .int (St) (dw_X13 a ac) r) : dj_X13_taken_70 p l e s m args below meth c Q A dC dI a ac (df_X13_taken_70 n) r := by
  obtain ⟨hlt, hx, hb, hml, hown, hts, hN, hA, hK⟩ := id C
  intro y0 s0 H locs ls h hP hD hS hl
  unfold df_X13_taken_70 at h
  exact K _ _ _ _ _ _ dX13_taken_70 rfl (Option.some.inj h).symm hP hD hS
set_option maxHeartbeats 40000000 in
set_option maxRecDepth 100000 in
theorem db_X13_taken_61 {p : Program} {l : Launch} {e : Env} {s : State} {m : MethodId} {args : Array Value} {below : List Frame} {meth : Method} {c : Code} {Q : State → Prop} {A : Nat → Prop} {dC : Nat → ClassId} {dI : Nat → Nat → Nat} {a : Nat → Nat} {ac : Nat → ClassId} {n : Nat} {r : Int32 × (St)} (C : nd_C p l s m args c A (dC, dI) cX13_taken 2 RX13 ow_dm_X13_taken (dk_X13 ac)) (K : nd_Ki p l e (headSpec ow_dm_X13_taken ({ frames := 5, cells := 0, slots := 0, locals := 114 })).room s m args below meth c Q A (dC, dI) cX13_taken .int (St) (dw_X13 a ac) r) : dj_X13_taken_61 p l e s m args below meth c Q A dC dI a ac (df_X13_taken_61 n) r := by
  obtain ⟨hlt, hx, hb, hml, hown, hts, hN, hA, hK⟩ := id C
  intro x1 s0 H locs ls h hP hD hS hl
  unfold df_X13_taken_61 at h
  refine lv_iload_n hx hb dX13_taken_61 rfl (lv_at hl 0 rfl) ?_
  refine lv_if_ge (tgt := 69) hx hb dX13_taken_62 (by decide) (fun c9 => ?_) (fun c9 => ?_)
  · have h := nd_pos h c9
    refine lv_iload_n hx hb dX13_taken_69 rfl (lv_at hl 0 rfl) ?_
    exact (db_X13_taken_70 C K) (x1) s0 _ _ _ h hP hD hS (lv_sub hl [] rfl)
  · have h := nd_neg h c9
    refine lv_iconst (v := 0) hx hb dX13_taken_65 (by decide) ?_
    refine lv_goto (tgt := 70) hx hb dX13_taken_66 (by decide) ?_
    exact (db_X13_taken_70 C K) (0) s0 _ _ _ h hP hD hS (lv_sub hl [] rfl)
set_option maxHeartbeats 40000000 in
set_option maxRecDepth 100000 in
theorem db_X13_taken_44 {p : Program} {l : Launch} {e : Env} {s : State} {m : MethodId} {args : Array Value} {below : List Frame} {meth : Method} {c : Code} {Q : State → Prop} {A : Nat → Prop} {dC : Nat → ClassId} {dI : Nat → Nat → Nat} {a : Nat → Nat} {ac : Nat → ClassId} {n : Nat} {r : Int32 × (St)} (C : nd_C p l s m args c A (dC, dI) cX13_taken 2 RX13 ow_dm_X13_taken (dk_X13 ac)) (K : nd_Ki p l e (headSpec ow_dm_X13_taken ({ frames := 5, cells := 0, slots := 0, locals := 114 })).room s m args below meth c Q A (dC, dI) cX13_taken .int (St) (dw_X13 a ac) r) : dj_X13_taken_44 p l e s m args below meth c Q A dC dI a ac (df_X13_taken_44 n) r := by
  obtain ⟨hlt, hx, hb, hml, hown, hts, hN, hA, hK⟩ := id C
  intro x1 s0 H locs ls h hP hD hS hl
  unfold df_X13_taken_44 at h
  refine lv_aload_n hx hb dX13_taken_44 rfl (lv_at hl 0 rfl) ?_
  refine lv_iconst (v := 1) hx hb dX13_taken_45 (by decide) ?_
  obtain ⟨s7, hq, h⟩ := nd_b1_e h
  have hPc := hP
  have hDc := hD
  have hKc := hK
  have hFc := nd_rs hD hS hA
  refine nd_cVv (As := [.int 1]) (rest := []) (w' := dw_X13 a ac s7) ⟨hx, hb, hml, hown, hts⟩ (fun sz => dm_X13_blame l hlt dC dI a ac n (1) s0 hq sz) (cwV 1 hts gi_dm_X13_taken_1 rfl rfl rfl (by decide +kernel) ⟨Nat.le_of_ble_eq_true rfl, Nat.le_of_ble_eq_true rfl⟩) hPc hDc hKc hS hA hN (va_recv hKc hPc (ci := 14) (q0 := 0) rfl rfl) rfl hl.1 rfl (Nat.le_of_ble_eq_true rfl) dX13_taken_46 (fun H locs hP1 hD1 hk1 hS => ?_)
  have hP := hP1
  have hD := hD1.weaken (fun k q _ h => hFc q.1 h)
  refine lv_goto (tgt := 61) hx hb dX13_taken_49 (by decide) ?_
  exact (db_X13_taken_61 C K) (x1) s7 _ _ _ h hP hD hS (lv_sub hl [1] rfl)
set_option maxHeartbeats 40000000 in
set_option maxRecDepth 100000 in
theorem db_X13_taken_28 {p : Program} {l : Launch} {e : Env} {s : State} {m : MethodId} {args : Array Value} {below : List Frame} {meth : Method} {c : Code} {Q : State → Prop} {A : Nat → Prop} {dC : Nat → ClassId} {dI : Nat → Nat → Nat} {a : Nat → Nat} {ac : Nat → ClassId} {n : Nat} {r : Int32 × (St)} (C : nd_C p l s m args c A (dC, dI) cX13_taken 2 RX13 ow_dm_X13_taken (dk_X13 ac)) (K : nd_Ki p l e (headSpec ow_dm_X13_taken ({ frames := 5, cells := 0, slots := 0, locals := 114 })).room s m args below meth c Q A (dC, dI) cX13_taken .int (St) (dw_X13 a ac) r) : dj_X13_taken_28 p l e s m args below meth c Q A dC dI a ac (df_X13_taken_28 n) r := by
  obtain ⟨hlt, hx, hb, hml, hown, hts, hN, hA, hK⟩ := id C
  intro y0 s0 H locs ls h hP hD hS hl
  unfold df_X13_taken_28 at h
  refine lv_istore_n (lv' := [(1, .int y0), (0, .ref (a 0))]) hx hb dX13_taken_28 rfl hl (by decide) rfl (fun ls hl => ?_)
  refine lv_aload_n hx hb dX13_taken_29 rfl (lv_at hl 1 rfl) ?_
  refine va_get (D := (dC, dI)) (ci := 14) (v := .int (sI s0 8)) (C := RX13) (T := TX13) (N := 37) hx hb hts hi_dm_X13_taken_X13 hown hK hP 0 rfl rfl 17 (by decide) (hts (.fieldLink RX13 365 "TimeMachineModel$Assembler" "token" "I") (List.mem_of_getElem? (i := 5) rfl)) (fun _ h9 => h9) rfl dX13_taken_30 ?_
  refine lv_if_eq (tgt := 44) hx hb dX13_taken_33 (by decide) (fun c5 => ?_) (fun c5 => ?_)
  · have h := nd_pos h c5
    exact (db_X13_taken_44 C K) (y0) s0 _ _ _ h hP hD hS (lv_sub hl [1, 0] rfl)
  · have h := nd_neg h c5
    refine lv_aload_n hx hb dX13_taken_36 rfl (lv_at hl 1 rfl) ?_
    refine va_get (D := (dC, dI)) (ci := 14) (v := .int (sI s0 8)) (C := RX13) (T := TX13) (N := 37) hx hb hts hi_dm_X13_taken_X13 hown hK hP 0 rfl rfl 17 (by decide) (hts (.fieldLink RX13 365 "TimeMachineModel$Assembler" "token" "I") (List.mem_of_getElem? (i := 5) rfl)) (fun _ h9 => h9) rfl dX13_taken_37 ?_
    refine lv_iconst (v := 5) hx hb dX13_taken_40 (by decide) ?_
    refine lv_icmp_ne (tgt := 52) hx hb dX13_taken_41 (by decide) (fun c10 => ?_) (fun c10 => ?_)
    · have h := nd_neg h c10
      refine lv_iload_n hx hb dX13_taken_52 rfl (lv_at hl 0 rfl) ?_
      refine lv_if_ge (tgt := 61) hx hb dX13_taken_53 (by decide) (fun c11 => ?_) (fun c11 => ?_)
      · have h := nd_pos h c11
        exact (db_X13_taken_61 C K) (y0) s0 _ _ _ h hP hD hS (lv_sub hl [0] rfl)
      · have h := nd_neg h c11
        refine lv_aload_n hx hb dX13_taken_56 rfl (lv_at hl 1 rfl) ?_
        refine lv_iconst (v := 3) hx hb dX13_taken_57 (by decide) ?_
        obtain ⟨s13, hq, h⟩ := nd_b1_e h
        have hPc := hP
        have hDc := hD
        have hKc := hK
        have hFc := nd_rs hD hS hA
        refine nd_cVv (As := [.int 3]) (rest := []) (w' := dw_X13 a ac s13) ⟨hx, hb, hml, hown, hts⟩ (fun sz => dm_X13_blame l hlt dC dI a ac n (3) s0 hq sz) (cwV 1 hts gi_dm_X13_taken_1 rfl rfl rfl (by decide +kernel) ⟨Nat.le_of_ble_eq_true rfl, Nat.le_of_ble_eq_true rfl⟩) hPc hDc hKc hS hA hN (va_recv hKc hPc (ci := 14) (q0 := 0) rfl rfl) rfl hl.1 rfl (Nat.le_of_ble_eq_true rfl) dX13_taken_58 (fun H locs hP1 hD1 hk1 hS => ?_)
        have hP := hP1
        have hD := hD1.weaken (fun k q _ h => hFc q.1 h)
        exact (db_X13_taken_61 C K) (y0) s13 _ _ _ h hP hD hS (lv_sub hl [0] rfl)
    · have h := nd_pos h c10
      exact (db_X13_taken_44 C K) (y0) s0 _ _ _ h hP hD hS (lv_sub hl [1, 0] rfl)
set_option maxHeartbeats 40000000 in
set_option maxRecDepth 100000 in
theorem db_X13_taken_0 {p : Program} {l : Launch} {e : Env} {s : State} {m : MethodId} {args : Array Value} {below : List Frame} {meth : Method} {c : Code} {Q : State → Prop} {A : Nat → Prop} {dC : Nat → ClassId} {dI : Nat → Nat → Nat} {a : Nat → Nat} {ac : Nat → ClassId} {n : Nat} {r : Int32 × (St)} (C : nd_C p l s m args c A (dC, dI) cX13_taken 2 RX13 ow_dm_X13_taken (dk_X13 ac)) (K : nd_Ki p l e (headSpec ow_dm_X13_taken ({ frames := 5, cells := 0, slots := 0, locals := 114 })).room s m args below meth c Q A (dC, dI) cX13_taken .int (St) (dw_X13 a ac) r) : dj_X13_taken_0 p l e s m args below meth c Q A dC dI a ac (df_X13_taken_0 n) r := by
  obtain ⟨hlt, hx, hb, hml, hown, hts, hN, hA, hK⟩ := id C
  intro s0 H locs ls h hP hD hS hl
  unfold df_X13_taken_0 at h
  refine lv_aload_n hx hb dX13_taken_0 rfl (lv_at hl 0 rfl) ?_
  obtain ⟨s2, hq, h⟩ := nd_b1_e h
  have hPc := hP
  have hDc := hD
  have hKc := hK
  have hFc := nd_rs hD hS hA
  refine nd_cVv (As := []) (rest := []) (w' := dw_X13 a ac s2) ⟨hx, hb, hml, hown, hts⟩ (fun sz => dm_X13_scan l hlt dC dI a ac n  s0 hq sz) (cwV 0 hts gi_dm_X13_taken_0 rfl rfl rfl (by decide +kernel) ⟨Nat.le_of_ble_eq_true rfl, Nat.le_of_ble_eq_true rfl⟩) hPc hDc hKc hS hA hN (va_recv hKc hPc (ci := 14) (q0 := 0) rfl rfl) rfl hl.1 rfl (Nat.le_of_ble_eq_true rfl) dX13_taken_1 (fun H locs hP1 hD1 hk1 hS => ?_)
  have hP := hP1
  have hD := hD1.weaken (fun k q _ h => hFc q.1 h)
  refine lv_aload_n hx hb dX13_taken_4 rfl (lv_at hl 0 rfl) ?_
  refine va_get (D := (dC, dI)) (ci := 14) (v := .int (sI s2 8)) (C := RX13) (T := TX13) (N := 37) hx hb hts hi_dm_X13_taken_X13 hown hK hP 0 rfl rfl 17 (by decide) (hts (.fieldLink RX13 365 "TimeMachineModel$Assembler" "token" "I") (List.mem_of_getElem? (i := 5) rfl)) (fun _ h9 => h9) rfl dX13_taken_5 ?_
  refine lv_iconst (v := 1) hx hb dX13_taken_8 (by decide) ?_
  refine lv_icmp_ne (tgt := 27) hx hb dX13_taken_9 (by decide) (fun c4 => ?_) (fun c4 => ?_)
  · have h := nd_neg h c4
    refine lv_iconst (v := (-1)) hx hb dX13_taken_27 (by decide) ?_
    exact (db_X13_taken_28 C K) ((-1)) s2 _ _ _ h hP hD hS (lv_sub hl [0] rfl)
  · have h := nd_pos h c4
    refine lv_aload_n hx hb dX13_taken_12 rfl (lv_at hl 0 rfl) ?_
    refine lv_aload_n hx hb dX13_taken_13 rfl (lv_at hl 0 rfl) ?_
    refine va_get (D := (dC, dI)) (ci := 14) (v := .int (sI s2 9)) (C := RX13) (T := TX13) (N := 37) hx hb hts hi_dm_X13_taken_X13 hown hK hP 0 rfl rfl 18 (by decide) (hts (.fieldLink RX13 368 "TimeMachineModel$Assembler" "from" "I") (List.mem_of_getElem? (i := 9) rfl)) (fun _ h9 => h9) rfl dX13_taken_14 ?_
    refine lv_aload_n hx hb dX13_taken_17 rfl (lv_at hl 0 rfl) ?_
    refine va_get (D := (dC, dI)) (ci := 14) (v := .int (sI s2 10)) (C := RX13) (T := TX13) (N := 37) hx hb hts hi_dm_X13_taken_X13 hown hK hP 0 rfl rfl 19 (by decide) (hts (.fieldLink RX13 371 "TimeMachineModel$Assembler" "to" "I") (List.mem_of_getElem? (i := 10) rfl)) (fun _ h9 => h9) rfl dX13_taken_18 ?_
    obtain ⟨q15, s16, hq, h⟩ := nd_b2_e h
    have hPc := hP
    have hDc := hD
    have hKc := hK
    have hFc := nd_rs hD hS hA
    refine nd_cVi (As := [.int (sI s2 9), .int (sI s2 10)]) (rest := []) (q := q15) (w' := dw_X13 a ac s16) ⟨hx, hb, hml, hown, hts⟩ (fun sz => dm_X13_register l hlt dC dI a ac n ((sI s2 9)) ((sI s2 10)) s2 hq sz) (cwV 2 hts gi_dm_X13_taken_2 rfl rfl rfl (by decide +kernel) ⟨Nat.le_of_ble_eq_true rfl, Nat.le_of_ble_eq_true rfl⟩) hPc hDc hKc hS hA hN (va_recv hKc hPc (ci := 14) (q0 := 0) rfl rfl) rfl hl.1 rfl (Nat.le_of_ble_eq_true rfl) dX13_taken_21 (fun H locs hP1 hD1 hk1 hS => ?_)
    have hP := hP1
    have hD := hD1.weaken (fun k q _ h => hFc q.1 h)
    refine lv_goto (tgt := 28) hx hb dX13_taken_24 (by decide) ?_
    exact (db_X13_taken_28 C K) (q15) s16 _ _ _ h hP hD hS (lv_sub hl [0] rfl)
set_option maxHeartbeats 40000000 in
set_option maxRecDepth 100000 in
theorem dm_X13_taken (l : Launch) (hlt : l.stackTraces = false) (dC : Nat → ClassId) (dI : Nat → Nat → Nat) (a : Nat → Nat) (ac : Nat → ClassId) (n : Nat) (s0 : St) {r : Int32 × (St)} (h : df_X13_taken n s0 = some r) (sz : Nat) : Met l yX13_taken ow_dm_X13_taken ({ frames := 5, cells := 0, slots := 0, locals := 114 }) (va_Pc [.ref (a 0)] (fun U => U.heap.size = sz ∧ va_P (dC, dI) vwCl (dw_X13 a ac s0) U.heap ∧ va_K (dC, dI) vwCl (dk_X13 ac) U ∧ va_D (fun _ => True) (dw_X13 a ac s0) ∧ nv_E (va_A (dw_X13 a ac s0) sz) U)) (va_Qi (fun x _ => x = r.1) (fun (_ : Unit) t => va_P (dC, dI) vwCl (dw_X13 a ac r.2) t.heap ∧ va_K (dC, dI) vwCl (dk_X13 ac) t ∧ va_D (va_A (dw_X13 a ac s0) sz) (dw_X13 a ac r.2)) (va_A (dw_X13 a ac s0) sz)) 0 0 (va_A (dw_X13 a ac s0) sz) := by
  refine Met.ofW (cc := cX13_taken) (maxL := 2) (ret := (some .int)) (by decide) rfl ?_
  intro p e s m args below meth c s₁ B hml hv
  obtain ⟨rfl, hsz, hP, hK, hD0, hN⟩ := hv
  have hx := B.exec
  have hb := B.bytes
  have hr := B.returns
  have hts := atoms_spec (ws := ow_dm_X13_taken) B.pre
  have hown : s.vm.findClass RX13 = some m.cls := findClass_of_methodNamed B.named
  have hlocks := B.notSynchronized
  subst hsz
  have hD := hD0.self (sz := s.heap.size)
  generalize hAe : va_A (dw_X13 a ac s0) s.heap.size = A at hD hN ⊢
  have hA : ∀ q : Nat, s.heap.size ≤ q → A q := fun q h => by rw [← hAe]; exact Or.inr h
  have hl := lv_entry ([.ref (a 0)]) (n := 2) (Nat.le_of_ble_eq_true rfl)
  rw [lg_entry_eq]
  generalize (lg_sl ([.ref (a 0)]) ++ List.replicate (2 - (lg_sl ([.ref (a 0)])).length) Slot.unset).toArray = ls at hl ⊢
  have hl : lv_has ls 2 [(0, .ref (a 0))] := hl
  exact db_X13_taken_0 (dC := dC) (dI := dI) (a := a) (ac := ac) (n := n) (r := r) ⟨hlt, hx, hb, hml, hown, hts, hN, hA, hK⟩ (fun pc v τ H locs ls d z er hP hD hS => by subst er; exact W.zret (v := v) hx hb hr z (fun t ht hW => ⟨⟨v, (), rfl, rfl, by rw [ht]; exact hP, va_K.moved hW.alike hK, hD⟩, hS.F ht⟩) hS.2.2 d) s0 _ _ _ h hP hD va_S.rf (lv_sub hl [0] rfl)
def ow_dm_X13_near8 : List Cond := .code yX13_near8 cX13_near8 2 (some .int) :: ([.methodLink RX13 532 yX13_taken, .instanceMethod yX13_taken, .selects RX13 yX13_taken yX13_taken, .initialized RX13, .methodLink RX13 419 yX13_blame, .instanceMethod yX13_blame, .selects RX13 yX13_blame yX13_blame] ++ (ow_dm_X13_taken ++ (ow_dm_X13_blame ++ [])))
theorem gd_dm_X13_near8 : ∀ w ∈ ow_dm_X13_near8, (w.onTables && w.keeps) = true ∨ ∃ ty, w = Cond.arrayClass ty := List.forall_mem_cons.mpr ⟨good_of_word rfl, List.forall_mem_append.mpr ⟨fun w h => good_of_word (List.all_eq_true.mp (by decide +kernel) w h), List.forall_mem_append.mpr ⟨gd_dm_X13_taken, List.forall_mem_append.mpr ⟨gd_dm_X13_blame, fun _ h => nomatch h⟩⟩⟩⟩
theorem gi_dm_X13_near8_0 : GoodIn ow_dm_X13_near8 (wsV RX13 532 RX13 yX13_taken ow_dm_X13_taken) := goodIn_app (goodIn_of _ (by decide +kernel)) (fun w h => ⟨List.mem_cons_of_mem _ (List.mem_append_right _ (List.mem_append_left _ h)), gd_dm_X13_taken w h⟩)
theorem gi_dm_X13_near8_1 : GoodIn ow_dm_X13_near8 (wsV RX13 419 RX13 yX13_blame ow_dm_X13_blame) := goodIn_app (goodIn_of _ (by decide +kernel)) (fun w h => ⟨List.mem_cons_of_mem _ (List.mem_append_right _ (List.mem_append_right _ (List.mem_append_left _ h))), gd_dm_X13_blame w h⟩)
def dj_X13_near8_22 (p : Program) (l : Launch) (e : Env) (s : State) (m : MethodId) (args : Array Value) (below : List Frame) (meth : Method) (c : Code) (Q : State → Prop) (A : Nat → Prop) (dC : Nat → ClassId) (dI : Nat → Nat → Nat) (a : Nat → Nat) (ac : Nat → ClassId) (g : Int32 → (St) → Option (Int32 × (St))) (r : Int32 × (St)) : Prop := ∀ (x1 : Int32) (s0 : St) (H : Heap) (locs : List Loc) (ls : Array Slot), g x1 s0 = some r → va_P (dC, dI) vwCl (dw_X13 a ac s0) H → va_D A (dw_X13 a ac s0) → va_S A s.heap H locs → lv_has ls 2 [(1, .int x1)] → W p l e (headSpec ow_dm_X13_near8 ({ frames := 6, cells := 0, slots := 0, locals := 135 })).room s m args below meth c H locs 0 0 Q (F0 m 22 ls [])
def dj_X13_near8_17 (p : Program) (l : Launch) (e : Env) (s : State) (m : MethodId) (args : Array Value) (below : List Frame) (meth : Method) (c : Code) (Q : State → Prop) (A : Nat → Prop) (dC : Nat → ClassId) (dI : Nat → Nat → Nat) (a : Nat → Nat) (ac : Nat → ClassId) (g : Int32 → (St) → Option (Int32 × (St))) (r : Int32 × (St)) : Prop := ∀ (x1 : Int32) (s0 : St) (H : Heap) (locs : List Loc) (ls : Array Slot), g x1 s0 = some r → va_P (dC, dI) vwCl (dw_X13 a ac s0) H → va_D A (dw_X13 a ac s0) → va_S A s.heap H locs → lv_has ls 2 [(0, .ref (a 0)), (1, .int x1)] → W p l e (headSpec ow_dm_X13_near8 ({ frames := 6, cells := 0, slots := 0, locals := 135 })).room s m args below meth c H locs 0 0 Q (F0 m 17 ls [])
def dj_X13_near8_0 (p : Program) (l : Launch) (e : Env) (s : State) (m : MethodId) (args : Array Value) (below : List Frame) (meth : Method) (c : Code) (Q : State → Prop) (A : Nat → Prop) (dC : Nat → ClassId) (dI : Nat → Nat → Nat) (a : Nat → Nat) (ac : Nat → ClassId) (g : (St) → Option (Int32 × (St))) (r : Int32 × (St)) : Prop := ∀ (s0 : St) (H : Heap) (locs : List Loc) (ls : Array Slot), g s0 = some r → va_P (dC, dI) vwCl (dw_X13 a ac s0) H → va_D A (dw_X13 a ac s0) → va_S A s.heap H locs → lv_has ls 2 [(0, .ref (a 0))] → W p l e (headSpec ow_dm_X13_near8 ({ frames := 6, cells := 0, slots := 0, locals := 135 })).room s m args below meth c H locs 0 0 Q (F0 m 0 ls [])
set_option maxHeartbeats 40000000 in
set_option maxRecDepth 100000 in
theorem db_X13_near8_22 {p : Program} {l : Launch} {e : Env} {s : State} {m : MethodId} {args : Array Value} {below : List Frame} {meth : Method} {c : Code} {Q : State → Prop} {A : Nat → Prop} {dC : Nat → ClassId} {dI : Nat → Nat → Nat} {a : Nat → Nat} {ac : Nat → ClassId} {n : Nat} {r : Int32 × (St)} (C : nd_C p l s m args c A (dC, dI) cX13_near8 2 RX13 ow_dm_X13_near8 (dk_X13 ac)) (K : nd_Ki p l e (headSpec ow_dm_X13_near8 ({ frames := 6, cells := 0, slots := 0, locals := 135 })).room s m args below meth c Q A (dC, dI) cX13_near8 .int (St) (dw_X13 a ac) r) : dj_X13_near8_22 p l e s m args below meth c Q A dC dI a ac (df_X13_near8_22 n) r := by
  obtain ⟨hlt, hx, hb, hml, hown, hts, hN, hA, hK⟩ := id C
  intro x1 s0 H locs ls h hP hD hS hl
  unfold df_X13_near8_22 at h
  refine lv_iload_n hx hb dX13_near8_22 rfl (lv_at hl 0 rfl) ?_
  refine lv_bipush (v := 8) hx hb dX13_near8_23 (by decide) ?_
  refine lv_isub hx hb dX13_near8_25 ?_
  refine lv_bipush (v := 7) hx hb dX13_near8_26 (by decide) ?_
  refine lv_iand hx hb dX13_near8_28 ?_
  exact K _ _ _ _ _ _ dX13_near8_29 rfl (Option.some.inj h).symm hP hD hS
set_option maxHeartbeats 40000000 in
set_option maxRecDepth 100000 in
theorem db_X13_near8_17 {p : Program} {l : Launch} {e : Env} {s : State} {m : MethodId} {args : Array Value} {below : List Frame} {meth : Method} {c : Code} {Q : State → Prop} {A : Nat → Prop} {dC : Nat → ClassId} {dI : Nat → Nat → Nat} {a : Nat → Nat} {ac : Nat → ClassId} {n : Nat} {r : Int32 × (St)} (C : nd_C p l s m args c A (dC, dI) cX13_near8 2 RX13 ow_dm_X13_near8 (dk_X13 ac)) (K : nd_Ki p l e (headSpec ow_dm_X13_near8 ({ frames := 6, cells := 0, slots := 0, locals := 135 })).room s m args below meth c Q A (dC, dI) cX13_near8 .int (St) (dw_X13 a ac) r) : dj_X13_near8_17 p l e s m args below meth c Q A dC dI a ac (df_X13_near8_17 n) r := by
  obtain ⟨hlt, hx, hb, hml, hown, hts, hN, hA, hK⟩ := id C
  intro x1 s0 H locs ls h hP hD hS hl
  unfold df_X13_near8_17 at h
  refine lv_aload_n hx hb dX13_near8_17 rfl (lv_at hl 0 rfl) ?_
  refine lv_iconst (v := 3) hx hb dX13_near8_18 (by decide) ?_
  obtain ⟨s6, hq, h⟩ := nd_b1_e h
  have hPc := hP
  have hDc := hD
  have hKc := hK
  have hFc := nd_rs hD hS hA
  refine nd_cVv (As := [.int 3]) (rest := []) (w' := dw_X13 a ac s6) ⟨hx, hb, hml, hown, hts⟩ (fun sz => dm_X13_blame l hlt dC dI a ac n (3) s0 hq sz) (cwV 1 hts gi_dm_X13_near8_1 rfl rfl rfl (by decide +kernel) ⟨Nat.le_of_ble_eq_true rfl, Nat.le_of_ble_eq_true rfl⟩) hPc hDc hKc hS hA hN (va_recv hKc hPc (ci := 14) (q0 := 0) rfl rfl) rfl hl.1 rfl (Nat.le_of_ble_eq_true rfl) dX13_near8_19 (fun H locs hP1 hD1 hk1 hS => ?_)
  have hP := hP1
  have hD := hD1.weaken (fun k q _ h => hFc q.1 h)
  exact (db_X13_near8_22 C K) (x1) s6 _ _ _ h hP hD hS (lv_sub hl [1] rfl)
set_option maxHeartbeats 40000000 in
set_option maxRecDepth 100000 in
theorem db_X13_near8_0 {p : Program} {l : Launch} {e : Env} {s : State} {m : MethodId} {args : Array Value} {below : List Frame} {meth : Method} {c : Code} {Q : State → Prop} {A : Nat → Prop} {dC : Nat → ClassId} {dI : Nat → Nat → Nat} {a : Nat → Nat} {ac : Nat → ClassId} {n : Nat} {r : Int32 × (St)} (C : nd_C p l s m args c A (dC, dI) cX13_near8 2 RX13 ow_dm_X13_near8 (dk_X13 ac)) (K : nd_Ki p l e (headSpec ow_dm_X13_near8 ({ frames := 6, cells := 0, slots := 0, locals := 135 })).room s m args below meth c Q A (dC, dI) cX13_near8 .int (St) (dw_X13 a ac) r) : dj_X13_near8_0 p l e s m args below meth c Q A dC dI a ac (df_X13_near8_0 n) r := by
  obtain ⟨hlt, hx, hb, hml, hown, hts, hN, hA, hK⟩ := id C
  intro s0 H locs ls h hP hD hS hl
  unfold df_X13_near8_0 at h
  refine lv_aload_n hx hb dX13_near8_0 rfl (lv_at hl 0 rfl) ?_
  obtain ⟨q1, s2, hq, h⟩ := nd_b2_e h
  have hPc := hP
  have hDc := hD
  have hKc := hK
  have hFc := nd_rs hD hS hA
  refine nd_cVi (As := []) (rest := []) (q := q1) (w' := dw_X13 a ac s2) ⟨hx, hb, hml, hown, hts⟩ (fun sz => dm_X13_taken l hlt dC dI a ac n  s0 hq sz) (cwV 0 hts gi_dm_X13_near8_0 rfl rfl rfl (by decide +kernel) ⟨Nat.le_of_ble_eq_true rfl, Nat.le_of_ble_eq_true rfl⟩) hPc hDc hKc hS hA hN (va_recv hKc hPc (ci := 14) (q0 := 0) rfl rfl) rfl hl.1 rfl (Nat.le_of_ble_eq_true rfl) dX13_near8_1 (fun H locs hP1 hD1 hk1 hS => ?_)
  have hP := hP1
  have hD := hD1.weaken (fun k q _ h => hFc q.1 h)
  refine lv_istore_n (lv' := [(1, .int q1), (0, .ref (a 0))]) hx hb dX13_near8_4 rfl hl (by decide) rfl (fun ls hl => ?_)
  refine lv_iload_n hx hb dX13_near8_5 rfl (lv_at hl 0 rfl) ?_
  refine lv_bipush (v := 8) hx hb dX13_near8_6 (by decide) ?_
  refine lv_icmp_lt (tgt := 17) hx hb dX13_near8_8 (by decide) (fun c4 => ?_) (fun c4 => ?_)
  · have h := nd_pos h c4
    exact (db_X13_near8_17 C K) (q1) s2 _ _ _ h hP hD hS (lv_sub hl [1, 0] rfl)
  · have h := nd_neg h c4
    refine lv_iload_n hx hb dX13_near8_11 rfl (lv_at hl 0 rfl) ?_
    refine lv_bipush (v := 15) hx hb dX13_near8_12 (by decide) ?_
    refine lv_icmp_le (tgt := 22) hx hb dX13_near8_14 (by decide) (fun c8 => ?_) (fun c8 => ?_)
    · have h := nd_pos h c8
      exact (db_X13_near8_22 C K) (q1) s2 _ _ _ h hP hD hS (lv_sub hl [0] rfl)
    · have h := nd_neg h c8
      exact (db_X13_near8_17 C K) (q1) s2 _ _ _ h hP hD hS (lv_sub hl [1, 0] rfl)
set_option maxHeartbeats 40000000 in
set_option maxRecDepth 100000 in
theorem dm_X13_near8 (l : Launch) (hlt : l.stackTraces = false) (dC : Nat → ClassId) (dI : Nat → Nat → Nat) (a : Nat → Nat) (ac : Nat → ClassId) (n : Nat) (s0 : St) {r : Int32 × (St)} (h : df_X13_near8 n s0 = some r) (sz : Nat) : Met l yX13_near8 ow_dm_X13_near8 ({ frames := 6, cells := 0, slots := 0, locals := 135 }) (va_Pc [.ref (a 0)] (fun U => U.heap.size = sz ∧ va_P (dC, dI) vwCl (dw_X13 a ac s0) U.heap ∧ va_K (dC, dI) vwCl (dk_X13 ac) U ∧ va_D (fun _ => True) (dw_X13 a ac s0) ∧ nv_E (va_A (dw_X13 a ac s0) sz) U)) (va_Qi (fun x _ => x = r.1) (fun (_ : Unit) t => va_P (dC, dI) vwCl (dw_X13 a ac r.2) t.heap ∧ va_K (dC, dI) vwCl (dk_X13 ac) t ∧ va_D (va_A (dw_X13 a ac s0) sz) (dw_X13 a ac r.2)) (va_A (dw_X13 a ac s0) sz)) 0 0 (va_A (dw_X13 a ac s0) sz) := by
  refine Met.ofW (cc := cX13_near8) (maxL := 2) (ret := (some .int)) (by decide) rfl ?_
  intro p e s m args below meth c s₁ B hml hv
  obtain ⟨rfl, hsz, hP, hK, hD0, hN⟩ := hv
  have hx := B.exec
  have hb := B.bytes
  have hr := B.returns
  have hts := atoms_spec (ws := ow_dm_X13_near8) B.pre
  have hown : s.vm.findClass RX13 = some m.cls := findClass_of_methodNamed B.named
  have hlocks := B.notSynchronized
  subst hsz
  have hD := hD0.self (sz := s.heap.size)
  generalize hAe : va_A (dw_X13 a ac s0) s.heap.size = A at hD hN ⊢
  have hA : ∀ q : Nat, s.heap.size ≤ q → A q := fun q h => by rw [← hAe]; exact Or.inr h
  have hl := lv_entry ([.ref (a 0)]) (n := 2) (Nat.le_of_ble_eq_true rfl)
  rw [lg_entry_eq]
  generalize (lg_sl ([.ref (a 0)]) ++ List.replicate (2 - (lg_sl ([.ref (a 0)])).length) Slot.unset).toArray = ls at hl ⊢
  have hl : lv_has ls 2 [(0, .ref (a 0))] := hl
  exact db_X13_near8_0 (dC := dC) (dI := dI) (a := a) (ac := ac) (n := n) (r := r) ⟨hlt, hx, hb, hml, hown, hts, hN, hA, hK⟩ (fun pc v τ H locs ls d z er hP hD hS => by subst er; exact W.zret (v := v) hx hb hr z (fun t ht hW => ⟨⟨v, (), rfl, rfl, by rw [ht]; exact hP, va_K.moved hW.alike hK, hD⟩, hS.F ht⟩) hS.2.2 d) s0 _ _ _ h hP hD va_S.rf (lv_sub hl [0] rfl)
def ow_dm_X13_behind : List Cond := .code yX13_behind cX13_behind 1 (some .int) :: ([.methodLink RX13 506 yX13_needs, .instanceMethod yX13_needs, .selects RX13 yX13_needs yX13_needs, .initialized RX13, .methodLink RX13 532 yX13_taken, .instanceMethod yX13_taken, .selects RX13 yX13_taken yX13_taken] ++ (ow_dm_X13_needs ++ (ow_dm_X13_taken ++ [])))
theorem gd_dm_X13_behind : ∀ w ∈ ow_dm_X13_behind, (w.onTables && w.keeps) = true ∨ ∃ ty, w = Cond.arrayClass ty := List.forall_mem_cons.mpr ⟨good_of_word rfl, List.forall_mem_append.mpr ⟨fun w h => good_of_word (List.all_eq_true.mp (by decide +kernel) w h), List.forall_mem_append.mpr ⟨gd_dm_X13_needs, List.forall_mem_append.mpr ⟨gd_dm_X13_taken, fun _ h => nomatch h⟩⟩⟩⟩
theorem gi_dm_X13_behind_0 : GoodIn ow_dm_X13_behind (wsV RX13 506 RX13 yX13_needs ow_dm_X13_needs) := goodIn_app (goodIn_of _ (by decide +kernel)) (fun w h => ⟨List.mem_cons_of_mem _ (List.mem_append_right _ (List.mem_append_left _ h)), gd_dm_X13_needs w h⟩)
theorem gi_dm_X13_behind_1 : GoodIn ow_dm_X13_behind (wsV RX13 532 RX13 yX13_taken ow_dm_X13_taken) := goodIn_app (goodIn_of _ (by decide +kernel)) (fun w h => ⟨List.mem_cons_of_mem _ (List.mem_append_right _ (List.mem_append_right _ (List.mem_append_left _ h))), gd_dm_X13_taken w h⟩)
def dj_X13_behind_17 (p : Program) (l : Launch) (e : Env) (s : State) (m : MethodId) (args : Array Value) (below : List Frame) (meth : Method) (c : Code) (Q : State → Prop) (A : Nat → Prop) (dC : Nat → ClassId) (dI : Nat → Nat → Nat) (a : Nat → Nat) (ac : Nat → ClassId) (g : Int32 → (St) → Option (Int32 × (St))) (r : Int32 × (St)) : Prop := ∀ (y0 : Int32) (s0 : St) (H : Heap) (locs : List Loc) (ls : Array Slot), g y0 s0 = some r → va_P (dC, dI) vwCl (dw_X13 a ac s0) H → va_D A (dw_X13 a ac s0) → va_S A s.heap H locs → lv_has ls 1 [] → W p l e (headSpec ow_dm_X13_behind ({ frames := 6, cells := 0, slots := 0, locals := 135 })).room s m args below meth c H locs 0 0 Q (F0 m 17 ls [.int y0])
def dj_X13_behind_0 (p : Program) (l : Launch) (e : Env) (s : State) (m : MethodId) (args : Array Value) (below : List Frame) (meth : Method) (c : Code) (Q : State → Prop) (A : Nat → Prop) (dC : Nat → ClassId) (dI : Nat → Nat → Nat) (a : Nat → Nat) (ac : Nat → ClassId) (g : (St) → Option (Int32 × (St))) (r : Int32 × (St)) : Prop := ∀ (s0 : St) (H : Heap) (locs : List Loc) (ls : Array Slot), g s0 = some r → va_P (dC, dI) vwCl (dw_X13 a ac s0) H → va_D A (dw_X13 a ac s0) → va_S A s.heap H locs → lv_has ls 1 [(0, .ref (a 0))] → W p l e (headSpec ow_dm_X13_behind ({ frames := 6, cells := 0, slots := 0, locals := 135 })).room s m args below meth c H locs 0 0 Q (F0 m 0 ls [])
set_option maxHeartbeats 40000000 in
set_option maxRecDepth 100000 in
theorem db_X13_behind_17 {p : Program} {l : Launch} {e : Env} {s : State} {m : MethodId} {args : Array Value} {below : List Frame} {meth : Method} {c : Code} {Q : State → Prop} {A : Nat → Prop} {dC : Nat → ClassId} {dI : Nat → Nat → Nat} {a : Nat → Nat} {ac : Nat → ClassId} {n : Nat} {r : Int32 × (St)} (C : nd_C p l s m args c A (dC, dI) cX13_behind 1 RX13 ow_dm_X13_behind (dk_X13 ac)) (K : nd_Ki p l e (headSpec ow_dm_X13_behind ({ frames := 6, cells := 0, slots := 0, locals := 135 })).room s m args below meth c Q A (dC, dI) cX13_behind .int (St) (dw_X13 a ac) r) : dj_X13_behind_17 p l e s m args below meth c Q A dC dI a ac (df_X13_behind_17 n) r := by
  obtain ⟨hlt, hx, hb, hml, hown, hts, hN, hA, hK⟩ := id C
  intro y0 s0 H locs ls h hP hD hS hl
  unfold df_X13_behind_17 at h
  exact K _ _ _ _ _ _ dX13_behind_17 rfl (Option.some.inj h).symm hP hD hS
set_option maxHeartbeats 40000000 in
set_option maxRecDepth 100000 in
theorem db_X13_behind_0 {p : Program} {l : Launch} {e : Env} {s : State} {m : MethodId} {args : Array Value} {below : List Frame} {meth : Method} {c : Code} {Q : State → Prop} {A : Nat → Prop} {dC : Nat → ClassId} {dI : Nat → Nat → Nat} {a : Nat → Nat} {ac : Nat → ClassId} {n : Nat} {r : Int32 × (St)} (C : nd_C p l s m args c A (dC, dI) cX13_behind 1 RX13 ow_dm_X13_behind (dk_X13 ac)) (K : nd_Ki p l e (headSpec ow_dm_X13_behind ({ frames := 6, cells := 0, slots := 0, locals := 135 })).room s m args below meth c Q A (dC, dI) cX13_behind .int (St) (dw_X13 a ac) r) : dj_X13_behind_0 p l e s m args below meth c Q A dC dI a ac (df_X13_behind_0 n) r := by
  obtain ⟨hlt, hx, hb, hml, hown, hts, hN, hA, hK⟩ := id C
  intro s0 H locs ls h hP hD hS hl
  unfold df_X13_behind_0 at h
  refine lv_aload_n hx hb dX13_behind_0 rfl (lv_at hl 0 rfl) ?_
  refine lv_bipush (v := 44) hx hb dX13_behind_1 (by decide) ?_
  obtain ⟨q1, s2, hq, h⟩ := nd_b2_e h
  have hPc := hP
  have hDc := hD
  have hKc := hK
  have hFc := nd_rs hD hS hA
  refine nd_cVi (As := [.int 44]) (rest := []) (q := q1) (w' := dw_X13 a ac s2) ⟨hx, hb, hml, hown, hts⟩ (fun sz => dm_X13_needs l hlt dC dI a ac n (44) s0 hq sz) (cwV 1 hts gi_dm_X13_behind_0 rfl rfl rfl (by decide +kernel) ⟨Nat.le_of_ble_eq_true rfl, Nat.le_of_ble_eq_true rfl⟩) hPc hDc hKc hS hA hN (va_recv hKc hPc (ci := 14) (q0 := 0) rfl rfl) rfl hl.1 rfl (Nat.le_of_ble_eq_true rfl) dX13_behind_3 (fun H locs hP1 hD1 hk1 hS => ?_)
  have hP := hP1
  have hD := hD1.weaken (fun k q _ h => hFc q.1 h)
  refine lv_if_eq (tgt := 16) hx hb dX13_behind_6 (by decide) (fun c4 => ?_) (fun c4 => ?_)
  · have h := nd_pos h c4
    refine lv_iconst (v := 0) hx hb dX13_behind_16 (by decide) ?_
    exact (db_X13_behind_17 C K) (0) s2 _ _ _ h hP hD hS (lv_sub hl [] rfl)
  · have h := nd_neg h c4
    refine lv_aload_n hx hb dX13_behind_9 rfl (lv_at hl 0 rfl) ?_
    obtain ⟨q5, s6, hq, h⟩ := nd_b2_e h
    have hPc := hP
    have hDc := hD
    have hKc := hK
    have hFc := nd_rs hD hS hA
    refine nd_cVi (As := []) (rest := []) (q := q5) (w' := dw_X13 a ac s6) ⟨hx, hb, hml, hown, hts⟩ (fun sz => dm_X13_taken l hlt dC dI a ac n  s2 hq sz) (cwV 0 hts gi_dm_X13_behind_1 rfl rfl rfl (by decide +kernel) ⟨Nat.le_of_ble_eq_true rfl, Nat.le_of_ble_eq_true rfl⟩) hPc hDc hKc hS hA hN (va_recv hKc hPc (ci := 14) (q0 := 0) rfl rfl) rfl hl.1 rfl (Nat.le_of_ble_eq_true rfl) dX13_behind_10 (fun H locs hP1 hD1 hk1 hS => ?_)
    have hP := hP1
    have hD := hD1.weaken (fun k q _ h => hFc q.1 h)
    refine lv_goto (tgt := 17) hx hb dX13_behind_13 (by decide) ?_
    exact (db_X13_behind_17 C K) (q5) s6 _ _ _ h hP hD hS (lv_sub hl [] rfl)
set_option maxHeartbeats 40000000 in
set_option maxRecDepth 100000 in
theorem dm_X13_behind (l : Launch) (hlt : l.stackTraces = false) (dC : Nat → ClassId) (dI : Nat → Nat → Nat) (a : Nat → Nat) (ac : Nat → ClassId) (n : Nat) (s0 : St) {r : Int32 × (St)} (h : df_X13_behind n s0 = some r) (sz : Nat) : Met l yX13_behind ow_dm_X13_behind ({ frames := 6, cells := 0, slots := 0, locals := 135 }) (va_Pc [.ref (a 0)] (fun U => U.heap.size = sz ∧ va_P (dC, dI) vwCl (dw_X13 a ac s0) U.heap ∧ va_K (dC, dI) vwCl (dk_X13 ac) U ∧ va_D (fun _ => True) (dw_X13 a ac s0) ∧ nv_E (va_A (dw_X13 a ac s0) sz) U)) (va_Qi (fun x _ => x = r.1) (fun (_ : Unit) t => va_P (dC, dI) vwCl (dw_X13 a ac r.2) t.heap ∧ va_K (dC, dI) vwCl (dk_X13 ac) t ∧ va_D (va_A (dw_X13 a ac s0) sz) (dw_X13 a ac r.2)) (va_A (dw_X13 a ac s0) sz)) 0 0 (va_A (dw_X13 a ac s0) sz) := by
  refine Met.ofW (cc := cX13_behind) (maxL := 1) (ret := (some .int)) (by decide) rfl ?_
  intro p e s m args below meth c s₁ B hml hv
  obtain ⟨rfl, hsz, hP, hK, hD0, hN⟩ := hv
  have hx := B.exec
  have hb := B.bytes
  have hr := B.returns
  have hts := atoms_spec (ws := ow_dm_X13_behind) B.pre
  have hown : s.vm.findClass RX13 = some m.cls := findClass_of_methodNamed B.named
  have hlocks := B.notSynchronized
  subst hsz
  have hD := hD0.self (sz := s.heap.size)
  generalize hAe : va_A (dw_X13 a ac s0) s.heap.size = A at hD hN ⊢
  have hA : ∀ q : Nat, s.heap.size ≤ q → A q := fun q h => by rw [← hAe]; exact Or.inr h
  have hl := lv_entry ([.ref (a 0)]) (n := 1) (Nat.le_of_ble_eq_true rfl)
  rw [lg_entry_eq]
  generalize (lg_sl ([.ref (a 0)]) ++ List.replicate (1 - (lg_sl ([.ref (a 0)])).length) Slot.unset).toArray = ls at hl ⊢
  have hl : lv_has ls 1 [(0, .ref (a 0))] := hl
  exact db_X13_behind_0 (dC := dC) (dI := dI) (a := a) (ac := ac) (n := n) (r := r) ⟨hlt, hx, hb, hml, hown, hts, hN, hA, hK⟩ (fun pc v τ H locs ls d z er hP hD hS => by subst er; exact W.zret (v := v) hx hb hr z (fun t ht hW => ⟨⟨v, (), rfl, rfl, by rw [ht]; exact hP, va_K.moved hW.alike hK, hD⟩, hS.F ht⟩) hS.2.2 d) s0 _ _ _ h hP hD va_S.rf (lv_sub hl [0] rfl)
def ow_dm_X13_not : List Cond := .code yX13_not cX13_not 3 (some .int) :: ([.methodLink RX13 419 yX13_blame, .instanceMethod yX13_blame, .selects RX13 yX13_blame yX13_blame, .initialized RX13] ++ (ow_dm_X13_blame ++ []))
theorem gd_dm_X13_not : ∀ w ∈ ow_dm_X13_not, (w.onTables && w.keeps) = true ∨ ∃ ty, w = Cond.arrayClass ty := List.forall_mem_cons.mpr ⟨good_of_word rfl, List.forall_mem_append.mpr ⟨fun w h => good_of_word (List.all_eq_true.mp (by decide +kernel) w h), List.forall_mem_append.mpr ⟨gd_dm_X13_blame, fun _ h => nomatch h⟩⟩⟩
theorem gi_dm_X13_not_0 : GoodIn ow_dm_X13_not (wsV RX13 419 RX13 yX13_blame ow_dm_X13_blame) := goodIn_app (goodIn_of _ (by decide +kernel)) (fun w h => ⟨List.mem_cons_of_mem _ (List.mem_append_right _ (List.mem_append_left _ h)), gd_dm_X13_blame w h⟩)
def dj_X13_not_10 (p : Program) (l : Launch) (e : Env) (s : State) (m : MethodId) (args : Array Value) (below : List Frame) (meth : Method) (c : Code) (Q : State → Prop) (A : Nat → Prop) (dC : Nat → ClassId) (dI : Nat → Nat → Nat) (a : Nat → Nat) (ac : Nat → ClassId) (g : Int32 → (St) → Option (Int32 × (St))) (r : Int32 × (St)) : Prop := ∀ (x1 : Int32) (s0 : St) (H : Heap) (locs : List Loc) (ls : Array Slot), g x1 s0 = some r → va_P (dC, dI) vwCl (dw_X13 a ac s0) H → va_D A (dw_X13 a ac s0) → va_S A s.heap H locs → lv_has ls 3 [(1, .int x1)] → W p l e (headSpec ow_dm_X13_not ({ frames := 1, cells := 0, slots := 0, locals := 21 })).room s m args below meth c H locs 0 0 Q (F0 m 10 ls [])
def dj_X13_not_0 (p : Program) (l : Launch) (e : Env) (s : State) (m : MethodId) (args : Array Value) (below : List Frame) (meth : Method) (c : Code) (Q : State → Prop) (A : Nat → Prop) (dC : Nat → ClassId) (dI : Nat → Nat → Nat) (a : Nat → Nat) (ac : Nat → ClassId) (g : Int32 → Int32 → (St) → Option (Int32 × (St))) (r : Int32 × (St)) : Prop := ∀ (v0 : Int32) (v1 : Int32) (s0 : St) (H : Heap) (locs : List Loc) (ls : Array Slot), g v0 v1 s0 = some r → va_P (dC, dI) vwCl (dw_X13 a ac s0) H → va_D A (dw_X13 a ac s0) → va_S A s.heap H locs → lv_has ls 3 [(0, .ref (a 0)), (1, .int v0), (2, .int v1)] → W p l e (headSpec ow_dm_X13_not ({ frames := 1, cells := 0, slots := 0, locals := 21 })).room s m args below meth c H locs 0 0 Q (F0 m 0 ls [])
set_option maxHeartbeats 40000000 in
set_option maxRecDepth 100000 in
theorem db_X13_not_10 {p : Program} {l : Launch} {e : Env} {s : State} {m : MethodId} {args : Array Value} {below : List Frame} {meth : Method} {c : Code} {Q : State → Prop} {A : Nat → Prop} {dC : Nat → ClassId} {dI : Nat → Nat → Nat} {a : Nat → Nat} {ac : Nat → ClassId} {n : Nat} {r : Int32 × (St)} (C : nd_C p l s m args c A (dC, dI) cX13_not 3 RX13 ow_dm_X13_not (dk_X13 ac)) (K : nd_Ki p l e (headSpec ow_dm_X13_not ({ frames := 1, cells := 0, slots := 0, locals := 21 })).room s m args below meth c Q A (dC, dI) cX13_not .int (St) (dw_X13 a ac) r) : dj_X13_not_10 p l e s m args below meth c Q A dC dI a ac (df_X13_not_10 n) r := by
  obtain ⟨hlt, hx, hb, hml, hown, hts, hN, hA, hK⟩ := id C
  intro x1 s0 H locs ls h hP hD hS hl
  unfold df_X13_not_10 at h
  refine lv_iload_n hx hb dX13_not_10 rfl (lv_at hl 0 rfl) ?_
  exact K _ _ _ _ _ _ dX13_not_11 rfl (Option.some.inj h).symm hP hD hS
set_option maxHeartbeats 40000000 in
set_option maxRecDepth 100000 in
theorem db_X13_not_0 {p : Program} {l : Launch} {e : Env} {s : State} {m : MethodId} {args : Array Value} {below : List Frame} {meth : Method} {c : Code} {Q : State → Prop} {A : Nat → Prop} {dC : Nat → ClassId} {dI : Nat → Nat → Nat} {a : Nat → Nat} {ac : Nat → ClassId} {n : Nat} {r : Int32 × (St)} (C : nd_C p l s m args c A (dC, dI) cX13_not 3 RX13 ow_dm_X13_not (dk_X13 ac)) (K : nd_Ki p l e (headSpec ow_dm_X13_not ({ frames := 1, cells := 0, slots := 0, locals := 21 })).room s m args below meth c Q A (dC, dI) cX13_not .int (St) (dw_X13 a ac) r) : dj_X13_not_0 p l e s m args below meth c Q A dC dI a ac (df_X13_not_0 n) r := by
  obtain ⟨hlt, hx, hb, hml, hown, hts, hN, hA, hK⟩ := id C
  intro v0 v1 s0 H locs ls h hP hD hS hl
  unfold df_X13_not_0 at h
  refine lv_iload_n hx hb dX13_not_0 rfl (lv_at hl 1 rfl) ?_
  refine lv_iload_n hx hb dX13_not_1 rfl (lv_at hl 2 rfl) ?_
  refine lv_icmp_ne (tgt := 10) hx hb dX13_not_2 (by decide) (fun c1 => ?_) (fun c1 => ?_)
  · have h := nd_neg h c1
    exact (db_X13_not_10 C K) (v0) s0 _ _ _ h hP hD hS (lv_sub hl [1] rfl)
  · have h := nd_pos h c1
    refine lv_aload_n hx hb dX13_not_5 rfl (lv_at hl 0 rfl) ?_
    refine lv_iconst (v := 3) hx hb dX13_not_6 (by decide) ?_
    obtain ⟨s3, hq, h⟩ := nd_b1_e h
    have hPc := hP
    have hDc := hD
    have hKc := hK
    have hFc := nd_rs hD hS hA
    refine nd_cVv (As := [.int 3]) (rest := []) (w' := dw_X13 a ac s3) ⟨hx, hb, hml, hown, hts⟩ (fun sz => dm_X13_blame l hlt dC dI a ac n (3) s0 hq sz) (cwV 1 hts gi_dm_X13_not_0 rfl rfl rfl (by decide +kernel) ⟨Nat.le_of_ble_eq_true rfl, Nat.le_of_ble_eq_true rfl⟩) hPc hDc hKc hS hA hN (va_recv hKc hPc (ci := 14) (q0 := 0) rfl rfl) rfl hl.1 rfl (Nat.le_of_ble_eq_true rfl) dX13_not_7 (fun H locs hP1 hD1 hk1 hS => ?_)
    have hP := hP1
    have hD := hD1.weaken (fun k q _ h => hFc q.1 h)
    exact (db_X13_not_10 C K) (v0) s3 _ _ _ h hP hD hS (lv_sub hl [1] rfl)
set_option maxHeartbeats 40000000 in
set_option maxRecDepth 100000 in
theorem dm_X13_not (l : Launch) (hlt : l.stackTraces = false) (dC : Nat → ClassId) (dI : Nat → Nat → Nat) (a : Nat → Nat) (ac : Nat → ClassId) (n : Nat) (v0 : Int32) (v1 : Int32) (s0 : St) {r : Int32 × (St)} (h : df_X13_not n v0 v1 s0 = some r) (sz : Nat) : Met l yX13_not ow_dm_X13_not ({ frames := 1, cells := 0, slots := 0, locals := 21 }) (va_Pc [.ref (a 0), .int v0, .int v1] (fun U => U.heap.size = sz ∧ va_P (dC, dI) vwCl (dw_X13 a ac s0) U.heap ∧ va_K (dC, dI) vwCl (dk_X13 ac) U ∧ va_D (fun _ => True) (dw_X13 a ac s0) ∧ nv_E (va_A (dw_X13 a ac s0) sz) U)) (va_Qi (fun x _ => x = r.1) (fun (_ : Unit) t => va_P (dC, dI) vwCl (dw_X13 a ac r.2) t.heap ∧ va_K (dC, dI) vwCl (dk_X13 ac) t ∧ va_D (va_A (dw_X13 a ac s0) sz) (dw_X13 a ac r.2)) (va_A (dw_X13 a ac s0) sz)) 0 0 (va_A (dw_X13 a ac s0) sz) := by
  refine Met.ofW (cc := cX13_not) (maxL := 3) (ret := (some .int)) (by decide) rfl ?_
  intro p e s m args below meth c s₁ B hml hv
  obtain ⟨rfl, hsz, hP, hK, hD0, hN⟩ := hv
  have hx := B.exec
  have hb := B.bytes
  have hr := B.returns
  have hts := atoms_spec (ws := ow_dm_X13_not) B.pre
  have hown : s.vm.findClass RX13 = some m.cls := findClass_of_methodNamed B.named
  have hlocks := B.notSynchronized
  subst hsz
  have hD := hD0.self (sz := s.heap.size)
  generalize hAe : va_A (dw_X13 a ac s0) s.heap.size = A at hD hN ⊢
  have hA : ∀ q : Nat, s.heap.size ≤ q → A q := fun q h => by rw [← hAe]; exact Or.inr h
  have hl := lv_entry ([.ref (a 0), .int v0, .int v1]) (n := 3) (Nat.le_of_ble_eq_true rfl)
  rw [lg_entry_eq]
  generalize (lg_sl ([.ref (a 0), .int v0, .int v1]) ++ List.replicate (3 - (lg_sl ([.ref (a 0), .int v0, .int v1])).length) Slot.unset).toArray = ls at hl ⊢
  have hl : lv_has ls 3 [(0, .ref (a 0)), (1, .int v0), (2, .int v1)] := hl
  exact db_X13_not_0 (dC := dC) (dI := dI) (a := a) (ac := ac) (n := n) (r := r) ⟨hlt, hx, hb, hml, hown, hts, hN, hA, hK⟩ (fun pc v τ H locs ls d z er hP hD hS => by subst er; exact W.zret (v := v) hx hb hr z (fun t ht hW => ⟨⟨v, (), rfl, rfl, by rw [ht]; exact hP, va_K.moved hW.alike hK, hD⟩, hS.F ht⟩) hS.2.2 d) v0 v1 s0 _ _ _ h hP hD va_S.rf (lv_sub hl [0, 1, 2] rfl)
def ow_dm_X13_bracketed : List Cond := .code yX13_bracketed cX13_bracketed 2 (some .int) :: ([.methodLink RX13 506 yX13_needs, .instanceMethod yX13_needs, .selects RX13 yX13_needs yX13_needs, .initialized RX13, .fieldLink RX13 410 "TimeMachineModel$Assembler" "fault" "I", .methodLink RX13 532 yX13_taken, .instanceMethod yX13_taken, .selects RX13 yX13_taken yX13_taken] ++ (u_ws RX13 TX13 37 ++ (ow_dm_X13_needs ++ (ow_dm_X13_taken ++ []))))
theorem gd_dm_X13_bracketed : ∀ w ∈ ow_dm_X13_bracketed, (w.onTables && w.keeps) = true ∨ ∃ ty, w = Cond.arrayClass ty := List.forall_mem_cons.mpr ⟨good_of_word rfl, List.forall_mem_append.mpr ⟨fun w h => good_of_word (List.all_eq_true.mp (by decide +kernel) w h), List.forall_mem_append.mpr ⟨gu_X13, List.forall_mem_append.mpr ⟨gd_dm_X13_needs, List.forall_mem_append.mpr ⟨gd_dm_X13_taken, fun _ h => nomatch h⟩⟩⟩⟩⟩
theorem hi_dm_X13_bracketed_X13 : ∀ w ∈ u_ws RX13 TX13 37, w ∈ ow_dm_X13_bracketed := fun w h => List.mem_cons_of_mem _ (List.mem_append_right _ (List.mem_append_left _ h))
theorem gi_dm_X13_bracketed_0 : GoodIn ow_dm_X13_bracketed (wsV RX13 506 RX13 yX13_needs ow_dm_X13_needs) := goodIn_app (goodIn_of _ (by decide +kernel)) (fun w h => ⟨List.mem_cons_of_mem _ (List.mem_append_right _ (List.mem_append_right _ (List.mem_append_left _ h))), gd_dm_X13_needs w h⟩)
theorem gi_dm_X13_bracketed_1 : GoodIn ow_dm_X13_bracketed (wsV RX13 532 RX13 yX13_taken ow_dm_X13_taken) := goodIn_app (goodIn_of _ (by decide +kernel)) (fun w h => ⟨List.mem_cons_of_mem _ (List.mem_append_right _ (List.mem_append_right _ (List.mem_append_right _ (List.mem_append_left _ h)))), gd_dm_X13_taken w h⟩)
def dj_X13_bracketed_32 (p : Program) (l : Launch) (e : Env) (s : State) (m : MethodId) (args : Array Value) (below : List Frame) (meth : Method) (c : Code) (Q : State → Prop) (A : Nat → Prop) (dC : Nat → ClassId) (dI : Nat → Nat → Nat) (a : Nat → Nat) (ac : Nat → ClassId) (g : Int32 → (St) → Option (Int32 × (St))) (r : Int32 × (St)) : Prop := ∀ (x1 : Int32) (s0 : St) (H : Heap) (locs : List Loc) (ls : Array Slot), g x1 s0 = some r → va_P (dC, dI) vwCl (dw_X13 a ac s0) H → va_D A (dw_X13 a ac s0) → va_S A s.heap H locs → lv_has ls 2 [(1, .int x1)] → W p l e (headSpec ow_dm_X13_bracketed ({ frames := 6, cells := 0, slots := 0, locals := 135 })).room s m args below meth c H locs 0 0 Q (F0 m 32 ls [])
def dj_X13_bracketed_17 (p : Program) (l : Launch) (e : Env) (s : State) (m : MethodId) (args : Array Value) (below : List Frame) (meth : Method) (c : Code) (Q : State → Prop) (A : Nat → Prop) (dC : Nat → ClassId) (dI : Nat → Nat → Nat) (a : Nat → Nat) (ac : Nat → ClassId) (g : Int32 → (St) → Option (Int32 × (St))) (r : Int32 × (St)) : Prop := ∀ (y0 : Int32) (s0 : St) (H : Heap) (locs : List Loc) (ls : Array Slot), g y0 s0 = some r → va_P (dC, dI) vwCl (dw_X13 a ac s0) H → va_D A (dw_X13 a ac s0) → va_S A s.heap H locs → lv_has ls 2 [(0, .ref (a 0))] → W p l e (headSpec ow_dm_X13_bracketed ({ frames := 6, cells := 0, slots := 0, locals := 135 })).room s m args below meth c H locs 0 0 Q (F0 m 17 ls [.int y0])
def dj_X13_bracketed_0 (p : Program) (l : Launch) (e : Env) (s : State) (m : MethodId) (args : Array Value) (below : List Frame) (meth : Method) (c : Code) (Q : State → Prop) (A : Nat → Prop) (dC : Nat → ClassId) (dI : Nat → Nat → Nat) (a : Nat → Nat) (ac : Nat → ClassId) (g : (St) → Option (Int32 × (St))) (r : Int32 × (St)) : Prop := ∀ (s0 : St) (H : Heap) (locs : List Loc) (ls : Array Slot), g s0 = some r → va_P (dC, dI) vwCl (dw_X13 a ac s0) H → va_D A (dw_X13 a ac s0) → va_S A s.heap H locs → lv_has ls 2 [(0, .ref (a 0))] → W p l e (headSpec ow_dm_X13_bracketed ({ frames := 6, cells := 0, slots := 0, locals := 135 })).room s m args below meth c H locs 0 0 Q (F0 m 0 ls [])
set_option maxHeartbeats 40000000 in
set_option maxRecDepth 100000 in
theorem db_X13_bracketed_32 {p : Program} {l : Launch} {e : Env} {s : State} {m : MethodId} {args : Array Value} {below : List Frame} {meth : Method} {c : Code} {Q : State → Prop} {A : Nat → Prop} {dC : Nat → ClassId} {dI : Nat → Nat → Nat} {a : Nat → Nat} {ac : Nat → ClassId} {n : Nat} {r : Int32 × (St)} (C : nd_C p l s m args c A (dC, dI) cX13_bracketed 2 RX13 ow_dm_X13_bracketed (dk_X13 ac)) (K : nd_Ki p l e (headSpec ow_dm_X13_bracketed ({ frames := 6, cells := 0, slots := 0, locals := 135 })).room s m args below meth c Q A (dC, dI) cX13_bracketed .int (St) (dw_X13 a ac) r) : dj_X13_bracketed_32 p l e s m args below meth c Q A dC dI a ac (df_X13_bracketed_32 n) r := by
  obtain ⟨hlt, hx, hb, hml, hown, hts, hN, hA, hK⟩ := id C
  intro x1 s0 H locs ls h hP hD hS hl
  unfold df_X13_bracketed_32 at h
  refine lv_iload_n hx hb dX13_bracketed_32 rfl (lv_at hl 0 rfl) ?_
  exact K _ _ _ _ _ _ dX13_bracketed_33 rfl (Option.some.inj h).symm hP hD hS
set_option maxHeartbeats 40000000 in
set_option maxRecDepth 100000 in
theorem db_X13_bracketed_17 {p : Program} {l : Launch} {e : Env} {s : State} {m : MethodId} {args : Array Value} {below : List Frame} {meth : Method} {c : Code} {Q : State → Prop} {A : Nat → Prop} {dC : Nat → ClassId} {dI : Nat → Nat → Nat} {a : Nat → Nat} {ac : Nat → ClassId} {n : Nat} {r : Int32 × (St)} (C : nd_C p l s m args c A (dC, dI) cX13_bracketed 2 RX13 ow_dm_X13_bracketed (dk_X13 ac)) (K : nd_Ki p l e (headSpec ow_dm_X13_bracketed ({ frames := 6, cells := 0, slots := 0, locals := 135 })).room s m args below meth c Q A (dC, dI) cX13_bracketed .int (St) (dw_X13 a ac) r) : dj_X13_bracketed_17 p l e s m args below meth c Q A dC dI a ac (df_X13_bracketed_17 n) r := by
  obtain ⟨hlt, hx, hb, hml, hown, hts, hN, hA, hK⟩ := id C
  intro y0 s0 H locs ls h hP hD hS hl
  unfold df_X13_bracketed_17 at h
  refine lv_istore_n (lv' := [(1, .int y0), (0, .ref (a 0))]) hx hb dX13_bracketed_17 rfl hl (by decide) rfl (fun ls hl => ?_)
  refine lv_aload_n hx hb dX13_bracketed_18 rfl (lv_at hl 1 rfl) ?_
  refine va_get (D := (dC, dI)) (ci := 14) (v := .int (sI s0 12)) (C := RX13) (T := TX13) (N := 37) hx hb hts hi_dm_X13_bracketed_X13 hown hK hP 0 rfl rfl 21 (by decide) (hts (.fieldLink RX13 410 "TimeMachineModel$Assembler" "fault" "I") (List.mem_of_getElem? (i := 5) rfl)) (fun _ h9 => h9) rfl dX13_bracketed_19 ?_
  refine lv_if_ne (tgt := 32) hx hb dX13_bracketed_22 (by decide) (fun c5 => ?_) (fun c5 => ?_)
  · have h := nd_neg h c5
    exact (db_X13_bracketed_32 C K) (y0) s0 _ _ _ h hP hD hS (lv_sub hl [0] rfl)
  · have h := nd_pos h c5
    refine lv_aload_n hx hb dX13_bracketed_25 rfl (lv_at hl 1 rfl) ?_
    refine lv_bipush (v := 41) hx hb dX13_bracketed_26 (by decide) ?_
    obtain ⟨q6, s7, hq, h⟩ := nd_b2_e h
    have hPc := hP
    have hDc := hD
    have hKc := hK
    have hFc := nd_rs hD hS hA
    refine nd_cVi (As := [.int 41]) (rest := []) (q := q6) (w' := dw_X13 a ac s7) ⟨hx, hb, hml, hown, hts⟩ (fun sz => dm_X13_needs l hlt dC dI a ac n (41) s0 hq sz) (cwV 1 hts gi_dm_X13_bracketed_0 rfl rfl rfl (by decide +kernel) ⟨Nat.le_of_ble_eq_true rfl, Nat.le_of_ble_eq_true rfl⟩) hPc hDc hKc hS hA hN (va_recv hKc hPc (ci := 14) (q0 := 0) rfl rfl) rfl hl.1 rfl (Nat.le_of_ble_eq_true rfl) dX13_bracketed_28 (fun H locs hP1 hD1 hk1 hS => ?_)
    have hP := hP1
    have hD := hD1.weaken (fun k q _ h => hFc q.1 h)
    refine lv_pop hx hb dX13_bracketed_31 rfl ?_
    exact (db_X13_bracketed_32 C K) (y0) s7 _ _ _ h hP hD hS (lv_sub hl [0] rfl)
set_option maxHeartbeats 40000000 in
set_option maxRecDepth 100000 in
theorem db_X13_bracketed_0 {p : Program} {l : Launch} {e : Env} {s : State} {m : MethodId} {args : Array Value} {below : List Frame} {meth : Method} {c : Code} {Q : State → Prop} {A : Nat → Prop} {dC : Nat → ClassId} {dI : Nat → Nat → Nat} {a : Nat → Nat} {ac : Nat → ClassId} {n : Nat} {r : Int32 × (St)} (C : nd_C p l s m args c A (dC, dI) cX13_bracketed 2 RX13 ow_dm_X13_bracketed (dk_X13 ac)) (K : nd_Ki p l e (headSpec ow_dm_X13_bracketed ({ frames := 6, cells := 0, slots := 0, locals := 135 })).room s m args below meth c Q A (dC, dI) cX13_bracketed .int (St) (dw_X13 a ac) r) : dj_X13_bracketed_0 p l e s m args below meth c Q A dC dI a ac (df_X13_bracketed_0 n) r := by
  obtain ⟨hlt, hx, hb, hml, hown, hts, hN, hA, hK⟩ := id C
  intro s0 H locs ls h hP hD hS hl
  unfold df_X13_bracketed_0 at h
  refine lv_aload_n hx hb dX13_bracketed_0 rfl (lv_at hl 0 rfl) ?_
  refine lv_bipush (v := 40) hx hb dX13_bracketed_1 (by decide) ?_
  obtain ⟨q1, s2, hq, h⟩ := nd_b2_e h
  have hPc := hP
  have hDc := hD
  have hKc := hK
  have hFc := nd_rs hD hS hA
  refine nd_cVi (As := [.int 40]) (rest := []) (q := q1) (w' := dw_X13 a ac s2) ⟨hx, hb, hml, hown, hts⟩ (fun sz => dm_X13_needs l hlt dC dI a ac n (40) s0 hq sz) (cwV 1 hts gi_dm_X13_bracketed_0 rfl rfl rfl (by decide +kernel) ⟨Nat.le_of_ble_eq_true rfl, Nat.le_of_ble_eq_true rfl⟩) hPc hDc hKc hS hA hN (va_recv hKc hPc (ci := 14) (q0 := 0) rfl rfl) rfl hl.1 rfl (Nat.le_of_ble_eq_true rfl) dX13_bracketed_3 (fun H locs hP1 hD1 hk1 hS => ?_)
  have hP := hP1
  have hD := hD1.weaken (fun k q _ h => hFc q.1 h)
  refine lv_if_eq (tgt := 16) hx hb dX13_bracketed_6 (by decide) (fun c4 => ?_) (fun c4 => ?_)
  · have h := nd_pos h c4
    refine lv_iconst (v := 0) hx hb dX13_bracketed_16 (by decide) ?_
    exact (db_X13_bracketed_17 C K) (0) s2 _ _ _ h hP hD hS (lv_sub hl [0] rfl)
  · have h := nd_neg h c4
    refine lv_aload_n hx hb dX13_bracketed_9 rfl (lv_at hl 0 rfl) ?_
    obtain ⟨q9, s10, hq, h⟩ := nd_b2_e h
    have hPc := hP
    have hDc := hD
    have hKc := hK
    have hFc := nd_rs hD hS hA
    refine nd_cVi (As := []) (rest := []) (q := q9) (w' := dw_X13 a ac s10) ⟨hx, hb, hml, hown, hts⟩ (fun sz => dm_X13_taken l hlt dC dI a ac n  s2 hq sz) (cwV 0 hts gi_dm_X13_bracketed_1 rfl rfl rfl (by decide +kernel) ⟨Nat.le_of_ble_eq_true rfl, Nat.le_of_ble_eq_true rfl⟩) hPc hDc hKc hS hA hN (va_recv hKc hPc (ci := 14) (q0 := 0) rfl rfl) rfl hl.1 rfl (Nat.le_of_ble_eq_true rfl) dX13_bracketed_10 (fun H locs hP1 hD1 hk1 hS => ?_)
    have hP := hP1
    have hD := hD1.weaken (fun k q _ h => hFc q.1 h)
    refine lv_goto (tgt := 17) hx hb dX13_bracketed_13 (by decide) ?_
    exact (db_X13_bracketed_17 C K) (q9) s10 _ _ _ h hP hD hS (lv_sub hl [0] rfl)
set_option maxHeartbeats 40000000 in
set_option maxRecDepth 100000 in
theorem dm_X13_bracketed (l : Launch) (hlt : l.stackTraces = false) (dC : Nat → ClassId) (dI : Nat → Nat → Nat) (a : Nat → Nat) (ac : Nat → ClassId) (n : Nat) (s0 : St) {r : Int32 × (St)} (h : df_X13_bracketed n s0 = some r) (sz : Nat) : Met l yX13_bracketed ow_dm_X13_bracketed ({ frames := 6, cells := 0, slots := 0, locals := 135 }) (va_Pc [.ref (a 0)] (fun U => U.heap.size = sz ∧ va_P (dC, dI) vwCl (dw_X13 a ac s0) U.heap ∧ va_K (dC, dI) vwCl (dk_X13 ac) U ∧ va_D (fun _ => True) (dw_X13 a ac s0) ∧ nv_E (va_A (dw_X13 a ac s0) sz) U)) (va_Qi (fun x _ => x = r.1) (fun (_ : Unit) t => va_P (dC, dI) vwCl (dw_X13 a ac r.2) t.heap ∧ va_K (dC, dI) vwCl (dk_X13 ac) t ∧ va_D (va_A (dw_X13 a ac s0) sz) (dw_X13 a ac r.2)) (va_A (dw_X13 a ac s0) sz)) 0 0 (va_A (dw_X13 a ac s0) sz) := by
  refine Met.ofW (cc := cX13_bracketed) (maxL := 2) (ret := (some .int)) (by decide) rfl ?_
  intro p e s m args below meth c s₁ B hml hv
  obtain ⟨rfl, hsz, hP, hK, hD0, hN⟩ := hv
  have hx := B.exec
  have hb := B.bytes
  have hr := B.returns
  have hts := atoms_spec (ws := ow_dm_X13_bracketed) B.pre
  have hown : s.vm.findClass RX13 = some m.cls := findClass_of_methodNamed B.named
  have hlocks := B.notSynchronized
  subst hsz
  have hD := hD0.self (sz := s.heap.size)
  generalize hAe : va_A (dw_X13 a ac s0) s.heap.size = A at hD hN ⊢
  have hA : ∀ q : Nat, s.heap.size ≤ q → A q := fun q h => by rw [← hAe]; exact Or.inr h
  have hl := lv_entry ([.ref (a 0)]) (n := 2) (Nat.le_of_ble_eq_true rfl)
  rw [lg_entry_eq]
  generalize (lg_sl ([.ref (a 0)]) ++ List.replicate (2 - (lg_sl ([.ref (a 0)])).length) Slot.unset).toArray = ls at hl ⊢
  have hl : lv_has ls 2 [(0, .ref (a 0))] := hl
  exact db_X13_bracketed_0 (dC := dC) (dI := dI) (a := a) (ac := ac) (n := n) (r := r) ⟨hlt, hx, hb, hml, hown, hts, hN, hA, hK⟩ (fun pc v τ H locs ls d z er hP hD hS => by subst er; exact W.zret (v := v) hx hb hr z (fun t ht hW => ⟨⟨v, (), rfl, rfl, by rw [ht]; exact hP, va_K.moved hW.alike hK, hD⟩, hS.F ht⟩) hS.2.2 d) s0 _ _ _ h hP hD va_S.rf (lv_sub hl [0] rfl)
def ow_dm_X13_isEnd : List Cond := .code yX13_isEnd cX13_isEnd 2 (some .boolean) :: ([.fieldLink RX13 374 "TimeMachineModel$Assembler" "at" "I", .methodLink RX13 416 yX13_scan, .instanceMethod yX13_scan, .selects RX13 yX13_scan yX13_scan, .initialized RX13, .fieldLink RX13 365 "TimeMachineModel$Assembler" "token" "I"] ++ (u_ws RX13 TX13 37 ++ (ow_dm_X13_scan ++ [])))
theorem gd_dm_X13_isEnd : ∀ w ∈ ow_dm_X13_isEnd, (w.onTables && w.keeps) = true ∨ ∃ ty, w = Cond.arrayClass ty := List.forall_mem_cons.mpr ⟨good_of_word rfl, List.forall_mem_append.mpr ⟨fun w h => good_of_word (List.all_eq_true.mp (by decide +kernel) w h), List.forall_mem_append.mpr ⟨gu_X13, List.forall_mem_append.mpr ⟨gd_dm_X13_scan, fun _ h => nomatch h⟩⟩⟩⟩
theorem hi_dm_X13_isEnd_X13 : ∀ w ∈ u_ws RX13 TX13 37, w ∈ ow_dm_X13_isEnd := fun w h => List.mem_cons_of_mem _ (List.mem_append_right _ (List.mem_append_left _ h))
theorem gi_dm_X13_isEnd_0 : GoodIn ow_dm_X13_isEnd (wsV RX13 416 RX13 yX13_scan ow_dm_X13_scan) := goodIn_app (goodIn_of _ (by decide +kernel)) (fun w h => ⟨List.mem_cons_of_mem _ (List.mem_append_right _ (List.mem_append_right _ (List.mem_append_left _ h))), gd_dm_X13_scan w h⟩)
def dj_X13_isEnd_26 (p : Program) (l : Launch) (e : Env) (s : State) (m : MethodId) (args : Array Value) (below : List Frame) (meth : Method) (c : Code) (Q : State → Prop) (A : Nat → Prop) (dC : Nat → ClassId) (dI : Nat → Nat → Nat) (a : Nat → Nat) (ac : Nat → ClassId) (g : Int32 → (St) → Option (Int32 × (St))) (r : Int32 × (St)) : Prop := ∀ (y0 : Int32) (s0 : St) (H : Heap) (locs : List Loc) (ls : Array Slot), g y0 s0 = some r → va_P (dC, dI) vwCl (dw_X13 a ac s0) H → va_D A (dw_X13 a ac s0) → va_S A s.heap H locs → lv_has ls 2 [] → W p l e (headSpec ow_dm_X13_isEnd ({ frames := 5, cells := 0, slots := 0, locals := 114 })).room s m args below meth c H locs 0 0 Q (F0 m 26 ls [.int y0])
def dj_X13_isEnd_0 (p : Program) (l : Launch) (e : Env) (s : State) (m : MethodId) (args : Array Value) (below : List Frame) (meth : Method) (c : Code) (Q : State → Prop) (A : Nat → Prop) (dC : Nat → ClassId) (dI : Nat → Nat → Nat) (a : Nat → Nat) (ac : Nat → ClassId) (g : (St) → Option (Int32 × (St))) (r : Int32 × (St)) : Prop := ∀ (s0 : St) (H : Heap) (locs : List Loc) (ls : Array Slot), g s0 = some r → va_P (dC, dI) vwCl (dw_X13 a ac s0) H → va_D A (dw_X13 a ac s0) → va_S A s.heap H locs → lv_has ls 2 [(0, .ref (a 0))] → W p l e (headSpec ow_dm_X13_isEnd ({ frames := 5, cells := 0, slots := 0, locals := 114 })).room s m args below meth c H locs 0 0 Q (F0 m 0 ls [])
set_option maxHeartbeats 40000000 in
set_option maxRecDepth 100000 in
theorem db_X13_isEnd_26 {p : Program} {l : Launch} {e : Env} {s : State} {m : MethodId} {args : Array Value} {below : List Frame} {meth : Method} {c : Code} {Q : State → Prop} {A : Nat → Prop} {dC : Nat → ClassId} {dI : Nat → Nat → Nat} {a : Nat → Nat} {ac : Nat → ClassId} {n : Nat} {r : Int32 × (St)} (C : nd_C p l s m args c A (dC, dI) cX13_isEnd 2 RX13 ow_dm_X13_isEnd (dk_X13 ac)) (K : nd_Ki p l e (headSpec ow_dm_X13_isEnd ({ frames := 5, cells := 0, slots := 0, locals := 114 })).room s m args below meth c Q A (dC, dI) cX13_isEnd .boolean (St) (dw_X13 a ac) r) : dj_X13_isEnd_26 p l e s m args below meth c Q A dC dI a ac (df_X13_isEnd_26 n) r := by
  obtain ⟨hlt, hx, hb, hml, hown, hts, hN, hA, hK⟩ := id C
  intro y0 s0 H locs ls h hP hD hS hl
  unfold df_X13_isEnd_26 at h
  obtain ⟨n7, h⟩ := nd_z_e ⟨_, rfl⟩ h
  exact K _ _ _ _ _ _ dX13_isEnd_26 n7 (Option.some.inj h).symm hP hD hS
set_option maxHeartbeats 40000000 in
set_option maxRecDepth 100000 in
theorem db_X13_isEnd_0 {p : Program} {l : Launch} {e : Env} {s : State} {m : MethodId} {args : Array Value} {below : List Frame} {meth : Method} {c : Code} {Q : State → Prop} {A : Nat → Prop} {dC : Nat → ClassId} {dI : Nat → Nat → Nat} {a : Nat → Nat} {ac : Nat → ClassId} {n : Nat} {r : Int32 × (St)} (C : nd_C p l s m args c A (dC, dI) cX13_isEnd 2 RX13 ow_dm_X13_isEnd (dk_X13 ac)) (K : nd_Ki p l e (headSpec ow_dm_X13_isEnd ({ frames := 5, cells := 0, slots := 0, locals := 114 })).room s m args below meth c Q A (dC, dI) cX13_isEnd .boolean (St) (dw_X13 a ac) r) : dj_X13_isEnd_0 p l e s m args below meth c Q A dC dI a ac (df_X13_isEnd_0 n) r := by
  obtain ⟨hlt, hx, hb, hml, hown, hts, hN, hA, hK⟩ := id C
  intro s0 H locs ls h hP hD hS hl
  unfold df_X13_isEnd_0 at h
  refine lv_aload_n hx hb dX13_isEnd_0 rfl (lv_at hl 0 rfl) ?_
  refine va_get (D := (dC, dI)) (ci := 14) (v := .int (sI s0 7)) (C := RX13) (T := TX13) (N := 37) hx hb hts hi_dm_X13_isEnd_X13 hown hK hP 0 rfl rfl 16 (by decide) (hts (.fieldLink RX13 374 "TimeMachineModel$Assembler" "at" "I") (List.mem_of_getElem? (i := 1) rfl)) (fun _ h9 => h9) rfl dX13_isEnd_1 ?_
  refine lv_topi (fun z1 ez1 => ?_)
  have h := nd_at h ez1
  refine lv_istore_n (lv' := [(1, .int z1), (0, .ref (a 0))]) hx hb dX13_isEnd_4 rfl hl (by decide) rfl (fun ls hl => ?_)
  refine lv_aload_n hx hb dX13_isEnd_5 rfl (lv_at hl 1 rfl) ?_
  obtain ⟨s3, hq, h⟩ := nd_b1_e h
  have hPc := hP
  have hDc := hD
  have hKc := hK
  have hFc := nd_rs hD hS hA
  refine nd_cVv (As := []) (rest := []) (w' := dw_X13 a ac s3) ⟨hx, hb, hml, hown, hts⟩ (fun sz => dm_X13_scan l hlt dC dI a ac n  s0 hq sz) (cwV 0 hts gi_dm_X13_isEnd_0 rfl rfl rfl (by decide +kernel) ⟨Nat.le_of_ble_eq_true rfl, Nat.le_of_ble_eq_true rfl⟩) hPc hDc hKc hS hA hN (va_recv hKc hPc (ci := 14) (q0 := 0) rfl rfl) rfl hl.1 rfl (Nat.le_of_ble_eq_true rfl) dX13_isEnd_6 (fun H locs hP1 hD1 hk1 hS => ?_)
  have hP := hP1
  have hD := hD1.weaken (fun k q _ h => hFc q.1 h)
  refine lv_aload_n hx hb dX13_isEnd_9 rfl (lv_at hl 1 rfl) ?_
  refine lv_iload_n hx hb dX13_isEnd_10 rfl (lv_at hl 0 rfl) ?_
  refine va_put (D := (dC, dI)) (ci := 14) (v := .int z1) (ty := .int) (C := RX13) (T := TX13) (N := 37) hx hb hts hi_dm_X13_isEnd_X13 tyX13 tyX13_ok nmX13 hown hK hP hD hS 0 rfl rfl 16 (by decide) (hts (.fieldLink RX13 374 "TimeMachineModel$Assembler" "at" "I") (List.mem_of_getElem? (i := 1) rfl)) (fun _ h9 => h9) rfl (by decide +kernel) rfl rfl (Nat.le_of_ble_eq_true rfl) dX13_isEnd_11 (fun H locs hP hD hS => ?_)
  obtain ⟨s5, es5, h⟩ := nd_let_e h
  have hP : va_P (dC, dI) vwCl (dw_X13 a ac s5) H := by rw [es5]; exact hP
  have hD : va_D A (dw_X13 a ac s5) := by rw [es5]; exact hD
  refine lv_aload_n hx hb dX13_isEnd_14 rfl (lv_at hl 1 rfl) ?_
  refine va_get (D := (dC, dI)) (ci := 14) (v := .int (sI s5 8)) (C := RX13) (T := TX13) (N := 37) hx hb hts hi_dm_X13_isEnd_X13 hown hK hP 0 rfl rfl 17 (by decide) (hts (.fieldLink RX13 365 "TimeMachineModel$Assembler" "token" "I") (List.mem_of_getElem? (i := 6) rfl)) (fun _ h9 => h9) rfl dX13_isEnd_15 ?_
  refine lv_if_ne (tgt := 25) hx hb dX13_isEnd_18 (by decide) (fun c6 => ?_) (fun c6 => ?_)
  · have h := nd_neg h c6
    refine lv_iconst (v := 0) hx hb dX13_isEnd_25 (by decide) ?_
    exact (db_X13_isEnd_26 C K) (0) s5 _ _ _ h hP hD hS (lv_sub hl [] rfl)
  · have h := nd_pos h c6
    refine lv_iconst (v := 1) hx hb dX13_isEnd_21 (by decide) ?_
    refine lv_goto (tgt := 26) hx hb dX13_isEnd_22 (by decide) ?_
    exact (db_X13_isEnd_26 C K) (1) s5 _ _ _ h hP hD hS (lv_sub hl [] rfl)
set_option maxHeartbeats 40000000 in
set_option maxRecDepth 100000 in
theorem dm_X13_isEnd (l : Launch) (hlt : l.stackTraces = false) (dC : Nat → ClassId) (dI : Nat → Nat → Nat) (a : Nat → Nat) (ac : Nat → ClassId) (n : Nat) (s0 : St) {r : Int32 × (St)} (h : df_X13_isEnd n s0 = some r) (sz : Nat) : Met l yX13_isEnd ow_dm_X13_isEnd ({ frames := 5, cells := 0, slots := 0, locals := 114 }) (va_Pc [.ref (a 0)] (fun U => U.heap.size = sz ∧ va_P (dC, dI) vwCl (dw_X13 a ac s0) U.heap ∧ va_K (dC, dI) vwCl (dk_X13 ac) U ∧ va_D (fun _ => True) (dw_X13 a ac s0) ∧ nv_E (va_A (dw_X13 a ac s0) sz) U)) (va_Qi (fun x _ => x = r.1) (fun (_ : Unit) t => va_P (dC, dI) vwCl (dw_X13 a ac r.2) t.heap ∧ va_K (dC, dI) vwCl (dk_X13 ac) t ∧ va_D (va_A (dw_X13 a ac s0) sz) (dw_X13 a ac r.2)) (va_A (dw_X13 a ac s0) sz)) 0 0 (va_A (dw_X13 a ac s0) sz) := by
  refine Met.ofW (cc := cX13_isEnd) (maxL := 2) (ret := (some .boolean)) (by decide) rfl ?_
  intro p e s m args below meth c s₁ B hml hv
  obtain ⟨rfl, hsz, hP, hK, hD0, hN⟩ := hv
  have hx := B.exec
  have hb := B.bytes
  have hr := B.returns
  have hts := atoms_spec (ws := ow_dm_X13_isEnd) B.pre
  have hown : s.vm.findClass RX13 = some m.cls := findClass_of_methodNamed B.named
  have hlocks := B.notSynchronized
  subst hsz
  have hD := hD0.self (sz := s.heap.size)
  generalize hAe : va_A (dw_X13 a ac s0) s.heap.size = A at hD hN ⊢
  have hA : ∀ q : Nat, s.heap.size ≤ q → A q := fun q h => by rw [← hAe]; exact Or.inr h
  have hl := lv_entry ([.ref (a 0)]) (n := 2) (Nat.le_of_ble_eq_true rfl)
  rw [lg_entry_eq]
  generalize (lg_sl ([.ref (a 0)]) ++ List.replicate (2 - (lg_sl ([.ref (a 0)])).length) Slot.unset).toArray = ls at hl ⊢
  have hl : lv_has ls 2 [(0, .ref (a 0))] := hl
  exact db_X13_isEnd_0 (dC := dC) (dI := dI) (a := a) (ac := ac) (n := n) (r := r) ⟨hlt, hx, hb, hml, hown, hts, hN, hA, hK⟩ (fun pc v τ H locs ls d z er hP hD hS => by subst er; exact W.zret (v := v) hx hb hr z (fun t ht hW => ⟨⟨v, (), rfl, rfl, by rw [ht]; exact hP, va_K.moved hW.alike hK, hD⟩, hS.F ht⟩) hS.2.2 d) s0 _ _ _ h hP hD va_S.rf (lv_sub hl [0] rfl)
def ow_dm_X13_put : List Cond := .code yX13_put cX13_put 2 none :: ([.fieldLink RX13 522 "TimeMachineModel$Assembler" "mode" "I", .fieldLink RX13 541 "TimeMachineModel$Assembler" "count" "I", .fieldLink RX13 535 "TimeMachineModel$Assembler" "out" "[I", .fieldLink RX13 538 "TimeMachineModel$Assembler" "begin" "I"] ++ (u_ws RX13 TX13 37 ++ []))
theorem gd_dm_X13_put : ∀ w ∈ ow_dm_X13_put, (w.onTables && w.keeps) = true ∨ ∃ ty, w = Cond.arrayClass ty := List.forall_mem_cons.mpr ⟨good_of_word rfl, List.forall_mem_append.mpr ⟨fun w h => good_of_word (List.all_eq_true.mp (by decide +kernel) w h), List.forall_mem_append.mpr ⟨gu_X13, fun _ h => nomatch h⟩⟩⟩
theorem hi_dm_X13_put_X13 : ∀ w ∈ u_ws RX13 TX13 37, w ∈ ow_dm_X13_put := fun w h => List.mem_cons_of_mem _ (List.mem_append_right _ (List.mem_append_left _ h))
def dj_X13_put_27 (p : Program) (l : Launch) (e : Env) (s : State) (m : MethodId) (args : Array Value) (below : List Frame) (meth : Method) (c : Code) (Q : State → Prop) (A : Nat → Prop) (dC : Nat → ClassId) (dI : Nat → Nat → Nat) (a : Nat → Nat) (ac : Nat → ClassId) (g : (St) → Option (St)) (r : St) : Prop := ∀ (s0 : St) (H : Heap) (locs : List Loc) (ls : Array Slot), g s0 = some r → va_P (dC, dI) vwCl (dw_X13 a ac s0) H → va_D A (dw_X13 a ac s0) → va_S A s.heap H locs → lv_has ls 2 [(0, .ref (a 0))] → W p l e (headSpec ow_dm_X13_put ({ frames := 0, cells := 0, slots := 0, locals := 0 })).room s m args below meth c H locs 0 0 Q (F0 m 27 ls [])
def dj_X13_put_0 (p : Program) (l : Launch) (e : Env) (s : State) (m : MethodId) (args : Array Value) (below : List Frame) (meth : Method) (c : Code) (Q : State → Prop) (A : Nat → Prop) (dC : Nat → ClassId) (dI : Nat → Nat → Nat) (a : Nat → Nat) (ac : Nat → ClassId) (g : Int32 → (St) → Option (St)) (r : St) : Prop := ∀ (v0 : Int32) (s0 : St) (H : Heap) (locs : List Loc) (ls : Array Slot), g v0 s0 = some r → va_P (dC, dI) vwCl (dw_X13 a ac s0) H → va_D A (dw_X13 a ac s0) → va_S A s.heap H locs → lv_has ls 2 [(0, .ref (a 0)), (1, .int v0)] → W p l e (headSpec ow_dm_X13_put ({ frames := 0, cells := 0, slots := 0, locals := 0 })).room s m args below meth c H locs 0 0 Q (F0 m 0 ls [])
set_option maxHeartbeats 40000000 in
set_option maxRecDepth 100000 in
theorem db_X13_put_27 {p : Program} {l : Launch} {e : Env} {s : State} {m : MethodId} {args : Array Value} {below : List Frame} {meth : Method} {c : Code} {Q : State → Prop} {A : Nat → Prop} {dC : Nat → ClassId} {dI : Nat → Nat → Nat} {a : Nat → Nat} {ac : Nat → ClassId} {n : Nat} {r : St} (C : nd_C p l s m args c A (dC, dI) cX13_put 2 RX13 ow_dm_X13_put (dk_X13 ac)) (K : nd_Kv p l e (headSpec ow_dm_X13_put ({ frames := 0, cells := 0, slots := 0, locals := 0 })).room s m args below meth c Q A (dC, dI) cX13_put (St) (dw_X13 a ac) r) : dj_X13_put_27 p l e s m args below meth c Q A dC dI a ac (df_X13_put_27 n) r := by
  obtain ⟨hlt, hx, hb, hml, hown, hts, hN, hA, hK⟩ := id C
  intro s0 H locs ls h hP hD hS hl
  unfold df_X13_put_27 at h
  refine lv_aload_n hx hb dX13_put_27 rfl (lv_at hl 0 rfl) ?_
  refine lv_dup hx hb dX13_put_28 rfl ?_
  refine va_get (D := (dC, dI)) (ci := 14) (v := .int (sI s0 18)) (C := RX13) (T := TX13) (N := 37) hx hb hts hi_dm_X13_put_X13 hown hK hP 0 rfl rfl 27 (by decide) (hts (.fieldLink RX13 541 "TimeMachineModel$Assembler" "count" "I") (List.mem_of_getElem? (i := 2) rfl)) (fun _ h9 => h9) rfl dX13_put_29 ?_
  refine lv_iconst (v := 1) hx hb dX13_put_32 (by decide) ?_
  refine lv_iadd hx hb dX13_put_33 ?_
  refine va_put (D := (dC, dI)) (ci := 14) (v := .int ((sI s0 18) + 1)) (ty := .int) (C := RX13) (T := TX13) (N := 37) hx hb hts hi_dm_X13_put_X13 tyX13 tyX13_ok nmX13 hown hK hP hD hS 0 rfl rfl 27 (by decide) (hts (.fieldLink RX13 541 "TimeMachineModel$Assembler" "count" "I") (List.mem_of_getElem? (i := 2) rfl)) (fun _ h9 => h9) rfl (by decide +kernel) rfl rfl (Nat.le_of_ble_eq_true rfl) dX13_put_34 (fun H locs hP hD hS => ?_)
  obtain ⟨s2, es2, h⟩ := nd_let_e h
  have hP : va_P (dC, dI) vwCl (dw_X13 a ac s2) H := by rw [es2]; exact hP
  have hD : va_D A (dw_X13 a ac s2) := by rw [es2]; exact hD
  exact K _ _ _ _ _ dX13_put_37 (Option.some.inj h).symm hP hD hS
set_option maxHeartbeats 40000000 in
set_option maxRecDepth 100000 in
theorem db_X13_put_0 {p : Program} {l : Launch} {e : Env} {s : State} {m : MethodId} {args : Array Value} {below : List Frame} {meth : Method} {c : Code} {Q : State → Prop} {A : Nat → Prop} {dC : Nat → ClassId} {dI : Nat → Nat → Nat} {a : Nat → Nat} {ac : Nat → ClassId} {n : Nat} {r : St} (C : nd_C p l s m args c A (dC, dI) cX13_put 2 RX13 ow_dm_X13_put (dk_X13 ac)) (K : nd_Kv p l e (headSpec ow_dm_X13_put ({ frames := 0, cells := 0, slots := 0, locals := 0 })).room s m args below meth c Q A (dC, dI) cX13_put (St) (dw_X13 a ac) r) : dj_X13_put_0 p l e s m args below meth c Q A dC dI a ac (df_X13_put_0 n) r := by
  obtain ⟨hlt, hx, hb, hml, hown, hts, hN, hA, hK⟩ := id C
  intro v0 s0 H locs ls h hP hD hS hl
  unfold df_X13_put_0 at h
  refine lv_aload_n hx hb dX13_put_0 rfl (lv_at hl 0 rfl) ?_
  refine va_get (D := (dC, dI)) (ci := 14) (v := .int (sI s0 15)) (C := RX13) (T := TX13) (N := 37) hx hb hts hi_dm_X13_put_X13 hown hK hP 0 rfl rfl 24 (by decide) (hts (.fieldLink RX13 522 "TimeMachineModel$Assembler" "mode" "I") (List.mem_of_getElem? (i := 1) rfl)) (fun _ h9 => h9) rfl dX13_put_1 ?_
  refine lv_iconst (v := 3) hx hb dX13_put_4 (by decide) ?_
  refine lv_icmp_ne (tgt := 27) hx hb dX13_put_5 (by decide) (fun c1 => ?_) (fun c1 => ?_)
  · have h := nd_neg h c1
    exact (db_X13_put_27 C K)  s0 _ _ _ h hP hD hS (lv_sub hl [0] rfl)
  · have h := nd_pos h c1
    refine lv_aload_n hx hb dX13_put_8 rfl (lv_at hl 0 rfl) ?_
    obtain ⟨o3, h⟩ := nd_o_e h
    refine va_get (D := (dC, dI)) (ci := 14) (v := .ref (a 11)) (C := RX13) (T := TX13) (N := 37) hx hb hts hi_dm_X13_put_X13 hown hK hP 0 rfl rfl 29 (by decide) (hts (.fieldLink RX13 535 "TimeMachineModel$Assembler" "out" "[I") (List.mem_of_getElem? (i := 3) rfl)) (fun _ h9 => h9) (congrArg (fun z => some (va_rf (Option.map a z))) o3) dX13_put_9 ?_
    refine lv_aload_n hx hb dX13_put_12 rfl (lv_at hl 0 rfl) ?_
    refine va_get (D := (dC, dI)) (ci := 14) (v := .int (sI s0 19)) (C := RX13) (T := TX13) (N := 37) hx hb hts hi_dm_X13_put_X13 hown hK hP 0 rfl rfl 28 (by decide) (hts (.fieldLink RX13 538 "TimeMachineModel$Assembler" "begin" "I") (List.mem_of_getElem? (i := 4) rfl)) (fun _ h9 => h9) rfl dX13_put_13 ?_
    refine lv_aload_n hx hb dX13_put_16 rfl (lv_at hl 0 rfl) ?_
    refine va_get (D := (dC, dI)) (ci := 14) (v := .int (sI s0 18)) (C := RX13) (T := TX13) (N := 37) hx hb hts hi_dm_X13_put_X13 hown hK hP 0 rfl rfl 27 (by decide) (hts (.fieldLink RX13 541 "TimeMachineModel$Assembler" "count" "I") (List.mem_of_getElem? (i := 2) rfl)) (fun _ h9 => h9) rfl dX13_put_17 ?_
    refine lv_iadd hx hb dX13_put_20 ?_
    refine lv_iload_n hx hb dX13_put_21 rfl (lv_at hl 1 rfl) ?_
    refine lv_sipush (v := 255) hx hb dX13_put_22 (by decide) ?_
    refine lv_iand hx hb dX13_put_25 ?_
    obtain ⟨i4, h⟩ := nd_ck_e h
    refine va_iast (i := ((sI s0 19) + (sI s0 18))) (x := (v0 &&& 255)) hx hb hK hP hD hS 11 10 rfl rfl i4 dX13_put_26 (fun H locs hP hD hS => ?_)
    obtain ⟨s5, es5, h⟩ := nd_let_e h
    have hP : va_P (dC, dI) vwCl (dw_X13 a ac s5) H := by rw [es5]; exact hP
    have hD : va_D A (dw_X13 a ac s5) := by rw [es5]; exact hD
    exact (db_X13_put_27 C K)  s5 _ _ _ h hP hD hS (lv_sub hl [0] rfl)
set_option maxHeartbeats 40000000 in
set_option maxRecDepth 100000 in
theorem dm_X13_put (l : Launch) (hlt : l.stackTraces = false) (dC : Nat → ClassId) (dI : Nat → Nat → Nat) (a : Nat → Nat) (ac : Nat → ClassId) (n : Nat) (v0 : Int32) (s0 : St) {r : St} (h : df_X13_put n v0 s0 = some r) (sz : Nat) : Met l yX13_put ow_dm_X13_put ({ frames := 0, cells := 0, slots := 0, locals := 0 }) (va_Pc [.ref (a 0), .int v0] (fun U => U.heap.size = sz ∧ va_P (dC, dI) vwCl (dw_X13 a ac s0) U.heap ∧ va_K (dC, dI) vwCl (dk_X13 ac) U ∧ va_D (fun _ => True) (dw_X13 a ac s0) ∧ nv_E (va_A (dw_X13 a ac s0) sz) U)) (va_Qv (fun _ => True) (fun (_ : Unit) t => va_P (dC, dI) vwCl (dw_X13 a ac r) t.heap ∧ va_K (dC, dI) vwCl (dk_X13 ac) t ∧ va_D (va_A (dw_X13 a ac s0) sz) (dw_X13 a ac r)) (va_A (dw_X13 a ac s0) sz)) 0 0 (va_A (dw_X13 a ac s0) sz) := by
  refine Met.ofW (cc := cX13_put) (maxL := 2) (ret := none) (by decide) rfl ?_
  intro p e s m args below meth c s₁ B hml hv
  obtain ⟨rfl, hsz, hP, hK, hD0, hN⟩ := hv
  have hx := B.exec
  have hb := B.bytes
  have hr := B.returns
  have hts := atoms_spec (ws := ow_dm_X13_put) B.pre
  have hown : s.vm.findClass RX13 = some m.cls := findClass_of_methodNamed B.named
  have hlocks := B.notSynchronized
  subst hsz
  have hD := hD0.self (sz := s.heap.size)
  generalize hAe : va_A (dw_X13 a ac s0) s.heap.size = A at hD hN ⊢
  have hA : ∀ q : Nat, s.heap.size ≤ q → A q := fun q h => by rw [← hAe]; exact Or.inr h
  have hl := lv_entry ([.ref (a 0), .int v0]) (n := 2) (Nat.le_of_ble_eq_true rfl)
  rw [lg_entry_eq]
  generalize (lg_sl ([.ref (a 0), .int v0]) ++ List.replicate (2 - (lg_sl ([.ref (a 0), .int v0])).length) Slot.unset).toArray = ls at hl ⊢
  have hl : lv_has ls 2 [(0, .ref (a 0)), (1, .int v0)] := hl
  exact db_X13_put_0 (dC := dC) (dI := dI) (a := a) (ac := ac) (n := n) (r := r) ⟨hlt, hx, hb, hml, hown, hts, hN, hA, hK⟩ (fun pc τ H locs ls d er hP hD hS => by subst er; exact W.vret hx hb hr (fun t ht hW => ⟨⟨(), rfl, trivial, by rw [ht]; exact hP, va_K.moved hW.alike hK, hD⟩, hS.F ht⟩) hS.2.2 d) v0 s0 _ _ _ h hP hD va_S.rf (lv_sub hl [0, 1] rfl)
def ow_dm_X13_half : List Cond := .code yX13_half cX13_half 2 none :: ([.methodLink RX13 544 yX13_put, .instanceMethod yX13_put, .selects RX13 yX13_put yX13_put, .initialized RX13] ++ (ow_dm_X13_put ++ []))
theorem gd_dm_X13_half : ∀ w ∈ ow_dm_X13_half, (w.onTables && w.keeps) = true ∨ ∃ ty, w = Cond.arrayClass ty := List.forall_mem_cons.mpr ⟨good_of_word rfl, List.forall_mem_append.mpr ⟨fun w h => good_of_word (List.all_eq_true.mp (by decide +kernel) w h), List.forall_mem_append.mpr ⟨gd_dm_X13_put, fun _ h => nomatch h⟩⟩⟩
theorem gi_dm_X13_half_0 : GoodIn ow_dm_X13_half (wsV RX13 544 RX13 yX13_put ow_dm_X13_put) := goodIn_app (goodIn_of _ (by decide +kernel)) (fun w h => ⟨List.mem_cons_of_mem _ (List.mem_append_right _ (List.mem_append_left _ h)), gd_dm_X13_put w h⟩)
def dj_X13_half_0 (p : Program) (l : Launch) (e : Env) (s : State) (m : MethodId) (args : Array Value) (below : List Frame) (meth : Method) (c : Code) (Q : State → Prop) (A : Nat → Prop) (dC : Nat → ClassId) (dI : Nat → Nat → Nat) (a : Nat → Nat) (ac : Nat → ClassId) (g : Int32 → (St) → Option (St)) (r : St) : Prop := ∀ (v0 : Int32) (s0 : St) (H : Heap) (locs : List Loc) (ls : Array Slot), g v0 s0 = some r → va_P (dC, dI) vwCl (dw_X13 a ac s0) H → va_D A (dw_X13 a ac s0) → va_S A s.heap H locs → lv_has ls 2 [(0, .ref (a 0)), (1, .int v0)] → W p l e (headSpec ow_dm_X13_half ({ frames := 1, cells := 0, slots := 0, locals := 21 })).room s m args below meth c H locs 0 0 Q (F0 m 0 ls [])
set_option maxHeartbeats 40000000 in
set_option maxRecDepth 100000 in
theorem db_X13_half_0 {p : Program} {l : Launch} {e : Env} {s : State} {m : MethodId} {args : Array Value} {below : List Frame} {meth : Method} {c : Code} {Q : State → Prop} {A : Nat → Prop} {dC : Nat → ClassId} {dI : Nat → Nat → Nat} {a : Nat → Nat} {ac : Nat → ClassId} {n : Nat} {r : St} (C : nd_C p l s m args c A (dC, dI) cX13_half 2 RX13 ow_dm_X13_half (dk_X13 ac)) (K : nd_Kv p l e (headSpec ow_dm_X13_half ({ frames := 1, cells := 0, slots := 0, locals := 21 })).room s m args below meth c Q A (dC, dI) cX13_half (St) (dw_X13 a ac) r) : dj_X13_half_0 p l e s m args below meth c Q A dC dI a ac (df_X13_half_0 n) r := by
  obtain ⟨hlt, hx, hb, hml, hown, hts, hN, hA, hK⟩ := id C
  intro v0 s0 H locs ls h hP hD hS hl
  unfold df_X13_half_0 at h
  refine lv_aload_n hx hb dX13_half_0 rfl (lv_at hl 0 rfl) ?_
  refine lv_iload_n hx hb dX13_half_1 rfl (lv_at hl 1 rfl) ?_
  obtain ⟨s2, hq, h⟩ := nd_b1_e h
  have hPc := hP
  have hDc := hD
  have hKc := hK
  have hFc := nd_rs hD hS hA
  refine nd_cVv (As := [.int v0]) (rest := []) (w' := dw_X13 a ac s2) ⟨hx, hb, hml, hown, hts⟩ (fun sz => dm_X13_put l hlt dC dI a ac n (v0) s0 hq sz) (cwV 1 hts gi_dm_X13_half_0 rfl rfl rfl (by decide +kernel) ⟨Nat.le_of_ble_eq_true rfl, Nat.le_of_ble_eq_true rfl⟩) hPc hDc hKc hS hA hN (va_recv hKc hPc (ci := 14) (q0 := 0) rfl rfl) rfl hl.1 rfl (Nat.le_of_ble_eq_true rfl) dX13_half_2 (fun H locs hP1 hD1 hk1 hS => ?_)
  have hP := hP1
  have hD := hD1.weaken (fun k q _ h => hFc q.1 h)
  refine lv_aload_n hx hb dX13_half_5 rfl (lv_at hl 0 rfl) ?_
  refine lv_iload_n hx hb dX13_half_6 rfl (lv_at hl 1 rfl) ?_
  refine lv_bipush (v := 8) hx hb dX13_half_7 (by decide) ?_
  refine lv_ishr hx hb dX13_half_9 ?_
  obtain ⟨s5, hq, h⟩ := nd_b1_e h
  have hPc := hP
  have hDc := hD
  have hKc := hK
  have hFc := nd_rs hD hS hA
  refine nd_cVv (As := [.int ((v0 : Int32) >>> ((8 : Int32) &&& 31))]) (rest := []) (w' := dw_X13 a ac s5) ⟨hx, hb, hml, hown, hts⟩ (fun sz => dm_X13_put l hlt dC dI a ac n (((v0 : Int32) >>> ((8 : Int32) &&& 31))) s2 hq sz) (cwV 1 hts gi_dm_X13_half_0 rfl rfl rfl (by decide +kernel) ⟨Nat.le_of_ble_eq_true rfl, Nat.le_of_ble_eq_true rfl⟩) hPc hDc hKc hS hA hN (va_recv hKc hPc (ci := 14) (q0 := 0) rfl rfl) rfl hl.1 rfl (Nat.le_of_ble_eq_true rfl) dX13_half_10 (fun H locs hP1 hD1 hk1 hS => ?_)
  have hP := hP1
  have hD := hD1.weaken (fun k q _ h => hFc q.1 h)
  exact K _ _ _ _ _ dX13_half_13 (Option.some.inj h).symm hP hD hS
set_option maxHeartbeats 40000000 in
set_option maxRecDepth 100000 in
theorem dm_X13_half (l : Launch) (hlt : l.stackTraces = false) (dC : Nat → ClassId) (dI : Nat → Nat → Nat) (a : Nat → Nat) (ac : Nat → ClassId) (n : Nat) (v0 : Int32) (s0 : St) {r : St} (h : df_X13_half n v0 s0 = some r) (sz : Nat) : Met l yX13_half ow_dm_X13_half ({ frames := 1, cells := 0, slots := 0, locals := 21 }) (va_Pc [.ref (a 0), .int v0] (fun U => U.heap.size = sz ∧ va_P (dC, dI) vwCl (dw_X13 a ac s0) U.heap ∧ va_K (dC, dI) vwCl (dk_X13 ac) U ∧ va_D (fun _ => True) (dw_X13 a ac s0) ∧ nv_E (va_A (dw_X13 a ac s0) sz) U)) (va_Qv (fun _ => True) (fun (_ : Unit) t => va_P (dC, dI) vwCl (dw_X13 a ac r) t.heap ∧ va_K (dC, dI) vwCl (dk_X13 ac) t ∧ va_D (va_A (dw_X13 a ac s0) sz) (dw_X13 a ac r)) (va_A (dw_X13 a ac s0) sz)) 0 0 (va_A (dw_X13 a ac s0) sz) := by
  refine Met.ofW (cc := cX13_half) (maxL := 2) (ret := none) (by decide) rfl ?_
  intro p e s m args below meth c s₁ B hml hv
  obtain ⟨rfl, hsz, hP, hK, hD0, hN⟩ := hv
  have hx := B.exec
  have hb := B.bytes
  have hr := B.returns
  have hts := atoms_spec (ws := ow_dm_X13_half) B.pre
  have hown : s.vm.findClass RX13 = some m.cls := findClass_of_methodNamed B.named
  have hlocks := B.notSynchronized
  subst hsz
  have hD := hD0.self (sz := s.heap.size)
  generalize hAe : va_A (dw_X13 a ac s0) s.heap.size = A at hD hN ⊢
  have hA : ∀ q : Nat, s.heap.size ≤ q → A q := fun q h => by rw [← hAe]; exact Or.inr h
  have hl := lv_entry ([.ref (a 0), .int v0]) (n := 2) (Nat.le_of_ble_eq_true rfl)
  rw [lg_entry_eq]
  generalize (lg_sl ([.ref (a 0), .int v0]) ++ List.replicate (2 - (lg_sl ([.ref (a 0), .int v0])).length) Slot.unset).toArray = ls at hl ⊢
  have hl : lv_has ls 2 [(0, .ref (a 0)), (1, .int v0)] := hl
  exact db_X13_half_0 (dC := dC) (dI := dI) (a := a) (ac := ac) (n := n) (r := r) ⟨hlt, hx, hb, hml, hown, hts, hN, hA, hK⟩ (fun pc τ H locs ls d er hP hD hS => by subst er; exact W.vret hx hb hr (fun t ht hW => ⟨⟨(), rfl, trivial, by rw [ht]; exact hP, va_K.moved hW.alike hK, hD⟩, hS.F ht⟩) hS.2.2 d) v0 s0 _ _ _ h hP hD va_S.rf (lv_sub hl [0, 1] rfl)
def ow_dm_X13_word : List Cond := .code yX13_word cX13_word 2 none :: ([.methodLink RX13 547 yX13_half, .instanceMethod yX13_half, .selects RX13 yX13_half yX13_half, .initialized RX13] ++ (ow_dm_X13_half ++ []))
theorem gd_dm_X13_word : ∀ w ∈ ow_dm_X13_word, (w.onTables && w.keeps) = true ∨ ∃ ty, w = Cond.arrayClass ty := List.forall_mem_cons.mpr ⟨good_of_word rfl, List.forall_mem_append.mpr ⟨fun w h => good_of_word (List.all_eq_true.mp (by decide +kernel) w h), List.forall_mem_append.mpr ⟨gd_dm_X13_half, fun _ h => nomatch h⟩⟩⟩
theorem gi_dm_X13_word_0 : GoodIn ow_dm_X13_word (wsV RX13 547 RX13 yX13_half ow_dm_X13_half) := goodIn_app (goodIn_of _ (by decide +kernel)) (fun w h => ⟨List.mem_cons_of_mem _ (List.mem_append_right _ (List.mem_append_left _ h)), gd_dm_X13_half w h⟩)
def dj_X13_word_0 (p : Program) (l : Launch) (e : Env) (s : State) (m : MethodId) (args : Array Value) (below : List Frame) (meth : Method) (c : Code) (Q : State → Prop) (A : Nat → Prop) (dC : Nat → ClassId) (dI : Nat → Nat → Nat) (a : Nat → Nat) (ac : Nat → ClassId) (g : Int32 → (St) → Option (St)) (r : St) : Prop := ∀ (v0 : Int32) (s0 : St) (H : Heap) (locs : List Loc) (ls : Array Slot), g v0 s0 = some r → va_P (dC, dI) vwCl (dw_X13 a ac s0) H → va_D A (dw_X13 a ac s0) → va_S A s.heap H locs → lv_has ls 2 [(0, .ref (a 0)), (1, .int v0)] → W p l e (headSpec ow_dm_X13_word ({ frames := 2, cells := 0, slots := 0, locals := 42 })).room s m args below meth c H locs 0 0 Q (F0 m 0 ls [])
set_option maxHeartbeats 40000000 in
set_option maxRecDepth 100000 in
theorem db_X13_word_0 {p : Program} {l : Launch} {e : Env} {s : State} {m : MethodId} {args : Array Value} {below : List Frame} {meth : Method} {c : Code} {Q : State → Prop} {A : Nat → Prop} {dC : Nat → ClassId} {dI : Nat → Nat → Nat} {a : Nat → Nat} {ac : Nat → ClassId} {n : Nat} {r : St} (C : nd_C p l s m args c A (dC, dI) cX13_word 2 RX13 ow_dm_X13_word (dk_X13 ac)) (K : nd_Kv p l e (headSpec ow_dm_X13_word ({ frames := 2, cells := 0, slots := 0, locals := 42 })).room s m args below meth c Q A (dC, dI) cX13_word (St) (dw_X13 a ac) r) : dj_X13_word_0 p l e s m args below meth c Q A dC dI a ac (df_X13_word_0 n) r := by
  obtain ⟨hlt, hx, hb, hml, hown, hts, hN, hA, hK⟩ := id C
  intro v0 s0 H locs ls h hP hD hS hl
  unfold df_X13_word_0 at h
  refine lv_aload_n hx hb dX13_word_0 rfl (lv_at hl 0 rfl) ?_
  refine lv_iload_n hx hb dX13_word_1 rfl (lv_at hl 1 rfl) ?_
  obtain ⟨s2, hq, h⟩ := nd_b1_e h
  have hPc := hP
  have hDc := hD
  have hKc := hK
  have hFc := nd_rs hD hS hA
  refine nd_cVv (As := [.int v0]) (rest := []) (w' := dw_X13 a ac s2) ⟨hx, hb, hml, hown, hts⟩ (fun sz => dm_X13_half l hlt dC dI a ac n (v0) s0 hq sz) (cwV 1 hts gi_dm_X13_word_0 rfl rfl rfl (by decide +kernel) ⟨Nat.le_of_ble_eq_true rfl, Nat.le_of_ble_eq_true rfl⟩) hPc hDc hKc hS hA hN (va_recv hKc hPc (ci := 14) (q0 := 0) rfl rfl) rfl hl.1 rfl (Nat.le_of_ble_eq_true rfl) dX13_word_2 (fun H locs hP1 hD1 hk1 hS => ?_)
  have hP := hP1
  have hD := hD1.weaken (fun k q _ h => hFc q.1 h)
  refine lv_aload_n hx hb dX13_word_5 rfl (lv_at hl 0 rfl) ?_
  refine lv_iload_n hx hb dX13_word_6 rfl (lv_at hl 1 rfl) ?_
  refine lv_bipush (v := 16) hx hb dX13_word_7 (by decide) ?_
  refine lv_ishr hx hb dX13_word_9 ?_
  obtain ⟨s5, hq, h⟩ := nd_b1_e h
  have hPc := hP
  have hDc := hD
  have hKc := hK
  have hFc := nd_rs hD hS hA
  refine nd_cVv (As := [.int ((v0 : Int32) >>> ((16 : Int32) &&& 31))]) (rest := []) (w' := dw_X13 a ac s5) ⟨hx, hb, hml, hown, hts⟩ (fun sz => dm_X13_half l hlt dC dI a ac n (((v0 : Int32) >>> ((16 : Int32) &&& 31))) s2 hq sz) (cwV 1 hts gi_dm_X13_word_0 rfl rfl rfl (by decide +kernel) ⟨Nat.le_of_ble_eq_true rfl, Nat.le_of_ble_eq_true rfl⟩) hPc hDc hKc hS hA hN (va_recv hKc hPc (ci := 14) (q0 := 0) rfl rfl) rfl hl.1 rfl (Nat.le_of_ble_eq_true rfl) dX13_word_10 (fun H locs hP1 hD1 hk1 hS => ?_)
  have hP := hP1
  have hD := hD1.weaken (fun k q _ h => hFc q.1 h)
  exact K _ _ _ _ _ dX13_word_13 (Option.some.inj h).symm hP hD hS
set_option maxHeartbeats 40000000 in
set_option maxRecDepth 100000 in
theorem dm_X13_word (l : Launch) (hlt : l.stackTraces = false) (dC : Nat → ClassId) (dI : Nat → Nat → Nat) (a : Nat → Nat) (ac : Nat → ClassId) (n : Nat) (v0 : Int32) (s0 : St) {r : St} (h : df_X13_word n v0 s0 = some r) (sz : Nat) : Met l yX13_word ow_dm_X13_word ({ frames := 2, cells := 0, slots := 0, locals := 42 }) (va_Pc [.ref (a 0), .int v0] (fun U => U.heap.size = sz ∧ va_P (dC, dI) vwCl (dw_X13 a ac s0) U.heap ∧ va_K (dC, dI) vwCl (dk_X13 ac) U ∧ va_D (fun _ => True) (dw_X13 a ac s0) ∧ nv_E (va_A (dw_X13 a ac s0) sz) U)) (va_Qv (fun _ => True) (fun (_ : Unit) t => va_P (dC, dI) vwCl (dw_X13 a ac r) t.heap ∧ va_K (dC, dI) vwCl (dk_X13 ac) t ∧ va_D (va_A (dw_X13 a ac s0) sz) (dw_X13 a ac r)) (va_A (dw_X13 a ac s0) sz)) 0 0 (va_A (dw_X13 a ac s0) sz) := by
  refine Met.ofW (cc := cX13_word) (maxL := 2) (ret := none) (by decide) rfl ?_
  intro p e s m args below meth c s₁ B hml hv
  obtain ⟨rfl, hsz, hP, hK, hD0, hN⟩ := hv
  have hx := B.exec
  have hb := B.bytes
  have hr := B.returns
  have hts := atoms_spec (ws := ow_dm_X13_word) B.pre
  have hown : s.vm.findClass RX13 = some m.cls := findClass_of_methodNamed B.named
  have hlocks := B.notSynchronized
  subst hsz
  have hD := hD0.self (sz := s.heap.size)
  generalize hAe : va_A (dw_X13 a ac s0) s.heap.size = A at hD hN ⊢
  have hA : ∀ q : Nat, s.heap.size ≤ q → A q := fun q h => by rw [← hAe]; exact Or.inr h
  have hl := lv_entry ([.ref (a 0), .int v0]) (n := 2) (Nat.le_of_ble_eq_true rfl)
  rw [lg_entry_eq]
  generalize (lg_sl ([.ref (a 0), .int v0]) ++ List.replicate (2 - (lg_sl ([.ref (a 0), .int v0])).length) Slot.unset).toArray = ls at hl ⊢
  have hl : lv_has ls 2 [(0, .ref (a 0)), (1, .int v0)] := hl
  exact db_X13_word_0 (dC := dC) (dI := dI) (a := a) (ac := ac) (n := n) (r := r) ⟨hlt, hx, hb, hml, hown, hts, hN, hA, hK⟩ (fun pc τ H locs ls d er hP hD hS => by subst er; exact W.vret hx hb hr (fun t ht hW => ⟨⟨(), rfl, trivial, by rw [ht]; exact hP, va_K.moved hW.alike hK, hD⟩, hS.F ht⟩) hS.2.2 d) v0 s0 _ _ _ h hP hD va_S.rf (lv_sub hl [0, 1] rfl)
def ow_dm_X13_bits : List Cond := .code yX13_bits cX13_bits 4 (some .int) :: ([] ++ [])
theorem gd_dm_X13_bits : ∀ w ∈ ow_dm_X13_bits, (w.onTables && w.keeps) = true ∨ ∃ ty, w = Cond.arrayClass ty := List.forall_mem_cons.mpr ⟨good_of_word rfl, List.forall_mem_append.mpr ⟨fun w h => good_of_word (List.all_eq_true.mp (by decide +kernel) w h), fun _ h => nomatch h⟩⟩
def dj_X13_bits_0 (p : Program) (l : Launch) (e : Env) (s : State) (m : MethodId) (args : Array Value) (below : List Frame) (meth : Method) (c : Code) (Q : State → Prop) (A : Nat → Prop) (dC : Nat → ClassId) (dI : Nat → Nat → Nat) (a : Nat → Nat) (ac : Nat → ClassId) (g : Int32 → Int32 → Int32 → Int32 → (Unit) → Option (Int32 × (Unit))) (r : Int32 × (Unit)) : Prop := ∀ (v0 : Int32) (v1 : Int32) (v2 : Int32) (v3 : Int32) (s0 : Unit) (H : Heap) (locs : List Loc) (ls : Array Slot), g v0 v1 v2 v3 s0 = some r → va_P (dC, dI) vwCl (dw_P a ac s0) H → va_D A (dw_P a ac s0) → va_S A s.heap H locs → lv_has ls 4 [(0, .int v0), (1, .int v1), (2, .int v2), (3, .int v3)] → W p l e (headSpec ow_dm_X13_bits ({ frames := 0, cells := 0, slots := 0, locals := 0 })).room s m args below meth c H locs 0 0 Q (F0 m 0 ls [])
set_option maxHeartbeats 40000000 in
set_option maxRecDepth 100000 in
theorem db_X13_bits_0 {p : Program} {l : Launch} {e : Env} {s : State} {m : MethodId} {args : Array Value} {below : List Frame} {meth : Method} {c : Code} {Q : State → Prop} {A : Nat → Prop} {dC : Nat → ClassId} {dI : Nat → Nat → Nat} {a : Nat → Nat} {ac : Nat → ClassId} {n : Nat} {r : Int32 × (Unit)} (C : nd_C p l s m args c A (dC, dI) cX13_bits 4 RX13 ow_dm_X13_bits (dk_P ac)) (K : nd_Ki p l e (headSpec ow_dm_X13_bits ({ frames := 0, cells := 0, slots := 0, locals := 0 })).room s m args below meth c Q A (dC, dI) cX13_bits .int (Unit) (dw_P a ac) r) : dj_X13_bits_0 p l e s m args below meth c Q A dC dI a ac (df_X13_bits_0 n) r := by
  obtain ⟨hlt, hx, hb, hml, hown, hts, hN, hA, hK⟩ := id C
  intro v0 v1 v2 v3 s0 H locs ls h hP hD hS hl
  unfold df_X13_bits_0 at h
  refine lv_iload_n hx hb dX13_bits_0 rfl (lv_at hl 0 rfl) ?_
  refine lv_iload_n hx hb dX13_bits_1 rfl (lv_at hl 2 rfl) ?_
  refine lv_iushr hx hb dX13_bits_2 rfl ?_
  refine lv_iconst (v := 1) hx hb dX13_bits_3 (by decide) ?_
  refine lv_iload_n hx hb dX13_bits_4 rfl (lv_at hl 1 rfl) ?_
  refine lv_iload_n hx hb dX13_bits_5 rfl (lv_at hl 2 rfl) ?_
  refine lv_isub hx hb dX13_bits_6 ?_
  refine lv_iconst (v := 1) hx hb dX13_bits_7 (by decide) ?_
  refine lv_iadd hx hb dX13_bits_8 ?_
  refine lv_ishl hx hb dX13_bits_9 ?_
  refine lv_iconst (v := 1) hx hb dX13_bits_10 (by decide) ?_
  refine lv_isub hx hb dX13_bits_11 ?_
  refine lv_iand hx hb dX13_bits_12 ?_
  refine lv_iload_n hx hb dX13_bits_13 rfl (lv_at hl 3 rfl) ?_
  refine lv_ishl hx hb dX13_bits_14 ?_
  exact K _ _ _ _ _ _ dX13_bits_15 rfl (Option.some.inj h).symm hP hD hS
set_option maxHeartbeats 40000000 in
set_option maxRecDepth 100000 in
theorem dm_X13_bits (l : Launch) (hlt : l.stackTraces = false) (dC : Nat → ClassId) (dI : Nat → Nat → Nat) (a : Nat → Nat) (ac : Nat → ClassId) (n : Nat) (v0 : Int32) (v1 : Int32) (v2 : Int32) (v3 : Int32) (s0 : Unit) {r : Int32 × (Unit)} (h : df_X13_bits n v0 v1 v2 v3 s0 = some r) (sz : Nat) : Met l yX13_bits ow_dm_X13_bits ({ frames := 0, cells := 0, slots := 0, locals := 0 }) (va_Pc [.int v0, .int v1, .int v2, .int v3] (fun U => U.heap.size = sz ∧ va_P (dC, dI) vwCl (dw_P a ac s0) U.heap ∧ va_K (dC, dI) vwCl (dk_P ac) U ∧ va_D (fun _ => True) (dw_P a ac s0) ∧ nv_E (va_A (dw_P a ac s0) sz) U)) (va_Qi (fun x _ => x = r.1) (fun (_ : Unit) t => va_P (dC, dI) vwCl (dw_P a ac r.2) t.heap ∧ va_K (dC, dI) vwCl (dk_P ac) t ∧ va_D (va_A (dw_P a ac s0) sz) (dw_P a ac r.2)) (va_A (dw_P a ac s0) sz)) 0 0 (va_A (dw_P a ac s0) sz) := by
  refine Met.ofW (cc := cX13_bits) (maxL := 4) (ret := (some .int)) (by decide) rfl ?_
  intro p e s m args below meth c s₁ B hml hv
  obtain ⟨rfl, hsz, hP, hK, hD0, hN⟩ := hv
  have hx := B.exec
  have hb := B.bytes
  have hr := B.returns
  have hts := atoms_spec (ws := ow_dm_X13_bits) B.pre
  have hown : s.vm.findClass RX13 = some m.cls := findClass_of_methodNamed B.named
  have hlocks := B.notSynchronized
  subst hsz
  have hD := hD0.self (sz := s.heap.size)
  generalize hAe : va_A (dw_P a ac s0) s.heap.size = A at hD hN ⊢
  have hA : ∀ q : Nat, s.heap.size ≤ q → A q := fun q h => by rw [← hAe]; exact Or.inr h
  have hl := lv_entry ([.int v0, .int v1, .int v2, .int v3]) (n := 4) (Nat.le_of_ble_eq_true rfl)
  rw [lg_entry_eq]
  generalize (lg_sl ([.int v0, .int v1, .int v2, .int v3]) ++ List.replicate (4 - (lg_sl ([.int v0, .int v1, .int v2, .int v3])).length) Slot.unset).toArray = ls at hl ⊢
  have hl : lv_has ls 4 [(0, .int v0), (1, .int v1), (2, .int v2), (3, .int v3)] := hl
  exact db_X13_bits_0 (dC := dC) (dI := dI) (a := a) (ac := ac) (n := n) (r := r) ⟨hlt, hx, hb, hml, hown, hts, hN, hA, hK⟩ (fun pc v τ H locs ls d z er hP hD hS => by subst er; exact W.zret (v := v) hx hb hr z (fun t ht hW => ⟨⟨v, (), rfl, rfl, by rw [ht]; exact hP, va_K.moved hW.alike hK, hD⟩, hS.F ht⟩) hS.2.2 d) v0 v1 v2 v3 s0 _ _ _ h hP hD va_S.rf (lv_sub hl [0, 1, 2, 3] rfl)
def ow_dm_X13_branchBits : List Cond := .code yX13_branchBits cX13_branchBits 1 (some .int) :: ([.methodLink RX13 550 yX13_bits, .static yX13_bits, .initialized RX13] ++ (ow_dm_X13_bits ++ []))
theorem gd_dm_X13_branchBits : ∀ w ∈ ow_dm_X13_branchBits, (w.onTables && w.keeps) = true ∨ ∃ ty, w = Cond.arrayClass ty := List.forall_mem_cons.mpr ⟨good_of_word rfl, List.forall_mem_append.mpr ⟨fun w h => good_of_word (List.all_eq_true.mp (by decide +kernel) w h), List.forall_mem_append.mpr ⟨gd_dm_X13_bits, fun _ h => nomatch h⟩⟩⟩
theorem gi_dm_X13_branchBits_0 : GoodIn ow_dm_X13_branchBits (wsS RX13 550 yX13_bits ow_dm_X13_bits) := goodIn_app (goodIn_of _ (by decide +kernel)) (fun w h => ⟨List.mem_cons_of_mem _ (List.mem_append_right _ (List.mem_append_left _ h)), gd_dm_X13_bits w h⟩)
def dj_X13_branchBits_0 (p : Program) (l : Launch) (e : Env) (s : State) (m : MethodId) (args : Array Value) (below : List Frame) (meth : Method) (c : Code) (Q : State → Prop) (A : Nat → Prop) (dC : Nat → ClassId) (dI : Nat → Nat → Nat) (a : Nat → Nat) (ac : Nat → ClassId) (g : Int32 → (Unit) → Option (Int32 × (Unit))) (r : Int32 × (Unit)) : Prop := ∀ (v0 : Int32) (s0 : Unit) (H : Heap) (locs : List Loc) (ls : Array Slot), g v0 s0 = some r → va_P (dC, dI) vwCl (dw_P a ac s0) H → va_D A (dw_P a ac s0) → va_S A s.heap H locs → lv_has ls 1 [(0, .int v0)] → W p l e (headSpec ow_dm_X13_branchBits ({ frames := 1, cells := 0, slots := 0, locals := 23 })).room s m args below meth c H locs 0 0 Q (F0 m 0 ls [])
set_option maxHeartbeats 40000000 in
set_option maxRecDepth 100000 in
theorem db_X13_branchBits_0 {p : Program} {l : Launch} {e : Env} {s : State} {m : MethodId} {args : Array Value} {below : List Frame} {meth : Method} {c : Code} {Q : State → Prop} {A : Nat → Prop} {dC : Nat → ClassId} {dI : Nat → Nat → Nat} {a : Nat → Nat} {ac : Nat → ClassId} {n : Nat} {r : Int32 × (Unit)} (C : nd_C p l s m args c A (dC, dI) cX13_branchBits 1 RX13 ow_dm_X13_branchBits (dk_P ac)) (K : nd_Ki p l e (headSpec ow_dm_X13_branchBits ({ frames := 1, cells := 0, slots := 0, locals := 23 })).room s m args below meth c Q A (dC, dI) cX13_branchBits .int (Unit) (dw_P a ac) r) : dj_X13_branchBits_0 p l e s m args below meth c Q A dC dI a ac (df_X13_branchBits_0 n) r := by
  obtain ⟨hlt, hx, hb, hml, hown, hts, hN, hA, hK⟩ := id C
  intro v0 s0 H locs ls h hP hD hS hl
  unfold df_X13_branchBits_0 at h
  refine lv_iload_n hx hb dX13_branchBits_0 rfl (lv_at hl 0 rfl) ?_
  refine lv_bipush (v := 12) hx hb dX13_branchBits_1 (by decide) ?_
  refine lv_bipush (v := 12) hx hb dX13_branchBits_3 (by decide) ?_
  refine lv_bipush (v := 31) hx hb dX13_branchBits_5 (by decide) ?_
  obtain ⟨q1, s2, hq, h⟩ := nd_b2_e h
  have hPc : va_P (dC, dI) vwCl (dw_P a ac ()) H := nd_p0
  have hDc : va_D A (dw_P a ac ()) := nd_d0
  have hKc : va_K (dC, dI) vwCl (dk_P ac) s := nd_y0 hK
  have hFc : ∀ q, va_A (dw_P a ac ()) H.size q → A q := nd_r0 hS hA
  refine nd_cSi (As := [.int v0, .int 12, .int 12, .int 31]) (rest := []) (q := q1) (w' := dw_P a ac s2) ⟨hx, hb, hml, hown, hts⟩ (fun sz => dm_X13_bits l hlt dC dI a ac n (v0) (12) (12) (31) () hq sz) (cwS 4 hts gi_dm_X13_branchBits_0 rfl rfl rfl (by decide +kernel) ⟨Nat.le_of_ble_eq_true rfl, Nat.le_of_ble_eq_true rfl⟩) hPc hDc hKc hS hA hN rfl hl.1 rfl (Nat.le_of_ble_eq_true rfl) dX13_branchBits_7 (fun H locs hP1 hD1 hk1 hS => ?_)
  have hP := nd_n0 hP hk1
  refine lv_iload_n hx hb dX13_branchBits_10 rfl (lv_at hl 0 rfl) ?_
  refine lv_bipush (v := 10) hx hb dX13_branchBits_11 (by decide) ?_
  refine lv_iconst (v := 5) hx hb dX13_branchBits_13 (by decide) ?_
  refine lv_bipush (v := 25) hx hb dX13_branchBits_14 (by decide) ?_
  obtain ⟨q4, s5, hq, h⟩ := nd_b2_e h
  have hPc : va_P (dC, dI) vwCl (dw_P a ac ()) H := nd_p0
  have hDc : va_D A (dw_P a ac ()) := nd_d0
  have hKc : va_K (dC, dI) vwCl (dk_P ac) s := nd_y0 hK
  have hFc : ∀ q, va_A (dw_P a ac ()) H.size q → A q := nd_r0 hS hA
  refine nd_cSi (As := [.int v0, .int 10, .int 5, .int 25]) (rest := [.int q1]) (q := q4) (w' := dw_P a ac s5) ⟨hx, hb, hml, hown, hts⟩ (fun sz => dm_X13_bits l hlt dC dI a ac n (v0) (10) (5) (25) () hq sz) (cwS 4 hts gi_dm_X13_branchBits_0 rfl rfl rfl (by decide +kernel) ⟨Nat.le_of_ble_eq_true rfl, Nat.le_of_ble_eq_true rfl⟩) hPc hDc hKc hS hA hN rfl hl.1 rfl (Nat.le_of_ble_eq_true rfl) dX13_branchBits_16 (fun H locs hP1 hD1 hk1 hS => ?_)
  have hP := nd_n0 hP hk1
  refine lv_ior hx hb dX13_branchBits_19 ?_
  refine lv_iload_n hx hb dX13_branchBits_20 rfl (lv_at hl 0 rfl) ?_
  refine lv_iconst (v := 4) hx hb dX13_branchBits_21 (by decide) ?_
  refine lv_iconst (v := 1) hx hb dX13_branchBits_22 (by decide) ?_
  refine lv_bipush (v := 8) hx hb dX13_branchBits_23 (by decide) ?_
  obtain ⟨q7, s8, hq, h⟩ := nd_b2_e h
  have hPc : va_P (dC, dI) vwCl (dw_P a ac ()) H := nd_p0
  have hDc : va_D A (dw_P a ac ()) := nd_d0
  have hKc : va_K (dC, dI) vwCl (dk_P ac) s := nd_y0 hK
  have hFc : ∀ q, va_A (dw_P a ac ()) H.size q → A q := nd_r0 hS hA
  refine nd_cSi (As := [.int v0, .int 4, .int 1, .int 8]) (rest := [.int (q1 ||| q4)]) (q := q7) (w' := dw_P a ac s8) ⟨hx, hb, hml, hown, hts⟩ (fun sz => dm_X13_bits l hlt dC dI a ac n (v0) (4) (1) (8) () hq sz) (cwS 4 hts gi_dm_X13_branchBits_0 rfl rfl rfl (by decide +kernel) ⟨Nat.le_of_ble_eq_true rfl, Nat.le_of_ble_eq_true rfl⟩) hPc hDc hKc hS hA hN rfl hl.1 rfl (Nat.le_of_ble_eq_true rfl) dX13_branchBits_25 (fun H locs hP1 hD1 hk1 hS => ?_)
  have hP := nd_n0 hP hk1
  refine lv_ior hx hb dX13_branchBits_28 ?_
  refine lv_iload_n hx hb dX13_branchBits_29 rfl (lv_at hl 0 rfl) ?_
  refine lv_bipush (v := 11) hx hb dX13_branchBits_30 (by decide) ?_
  refine lv_bipush (v := 11) hx hb dX13_branchBits_32 (by decide) ?_
  refine lv_bipush (v := 7) hx hb dX13_branchBits_34 (by decide) ?_
  obtain ⟨q10, s11, hq, h⟩ := nd_b2_e h
  have hPc : va_P (dC, dI) vwCl (dw_P a ac ()) H := nd_p0
  have hDc : va_D A (dw_P a ac ()) := nd_d0
  have hKc : va_K (dC, dI) vwCl (dk_P ac) s := nd_y0 hK
  have hFc : ∀ q, va_A (dw_P a ac ()) H.size q → A q := nd_r0 hS hA
  refine nd_cSi (As := [.int v0, .int 11, .int 11, .int 7]) (rest := [.int ((q1 ||| q4) ||| q7)]) (q := q10) (w' := dw_P a ac s11) ⟨hx, hb, hml, hown, hts⟩ (fun sz => dm_X13_bits l hlt dC dI a ac n (v0) (11) (11) (7) () hq sz) (cwS 4 hts gi_dm_X13_branchBits_0 rfl rfl rfl (by decide +kernel) ⟨Nat.le_of_ble_eq_true rfl, Nat.le_of_ble_eq_true rfl⟩) hPc hDc hKc hS hA hN rfl hl.1 rfl (Nat.le_of_ble_eq_true rfl) dX13_branchBits_36 (fun H locs hP1 hD1 hk1 hS => ?_)
  have hP := nd_n0 hP hk1
  refine lv_ior hx hb dX13_branchBits_39 ?_
  exact K _ _ _ _ _ _ dX13_branchBits_40 rfl (Option.some.inj h).symm hP hD hS
set_option maxHeartbeats 40000000 in
set_option maxRecDepth 100000 in
theorem dm_X13_branchBits (l : Launch) (hlt : l.stackTraces = false) (dC : Nat → ClassId) (dI : Nat → Nat → Nat) (a : Nat → Nat) (ac : Nat → ClassId) (n : Nat) (v0 : Int32) (s0 : Unit) {r : Int32 × (Unit)} (h : df_X13_branchBits n v0 s0 = some r) (sz : Nat) : Met l yX13_branchBits ow_dm_X13_branchBits ({ frames := 1, cells := 0, slots := 0, locals := 23 }) (va_Pc [.int v0] (fun U => U.heap.size = sz ∧ va_P (dC, dI) vwCl (dw_P a ac s0) U.heap ∧ va_K (dC, dI) vwCl (dk_P ac) U ∧ va_D (fun _ => True) (dw_P a ac s0) ∧ nv_E (va_A (dw_P a ac s0) sz) U)) (va_Qi (fun x _ => x = r.1) (fun (_ : Unit) t => va_P (dC, dI) vwCl (dw_P a ac r.2) t.heap ∧ va_K (dC, dI) vwCl (dk_P ac) t ∧ va_D (va_A (dw_P a ac s0) sz) (dw_P a ac r.2)) (va_A (dw_P a ac s0) sz)) 0 0 (va_A (dw_P a ac s0) sz) := by
  refine Met.ofW (cc := cX13_branchBits) (maxL := 1) (ret := (some .int)) (by decide) rfl ?_
  intro p e s m args below meth c s₁ B hml hv
  obtain ⟨rfl, hsz, hP, hK, hD0, hN⟩ := hv
  have hx := B.exec
  have hb := B.bytes
  have hr := B.returns
  have hts := atoms_spec (ws := ow_dm_X13_branchBits) B.pre
  have hown : s.vm.findClass RX13 = some m.cls := findClass_of_methodNamed B.named
  have hlocks := B.notSynchronized
  subst hsz
  have hD := hD0.self (sz := s.heap.size)
  generalize hAe : va_A (dw_P a ac s0) s.heap.size = A at hD hN ⊢
  have hA : ∀ q : Nat, s.heap.size ≤ q → A q := fun q h => by rw [← hAe]; exact Or.inr h
  have hl := lv_entry ([.int v0]) (n := 1) (Nat.le_of_ble_eq_true rfl)
  rw [lg_entry_eq]
  generalize (lg_sl ([.int v0]) ++ List.replicate (1 - (lg_sl ([.int v0])).length) Slot.unset).toArray = ls at hl ⊢
  have hl : lv_has ls 1 [(0, .int v0)] := hl
  exact db_X13_branchBits_0 (dC := dC) (dI := dI) (a := a) (ac := ac) (n := n) (r := r) ⟨hlt, hx, hb, hml, hown, hts, hN, hA, hK⟩ (fun pc v τ H locs ls d z er hP hD hS => by subst er; exact W.zret (v := v) hx hb hr z (fun t ht hW => ⟨⟨v, (), rfl, rfl, by rw [ht]; exact hP, va_K.moved hW.alike hK, hD⟩, hS.F ht⟩) hS.2.2 d) v0 s0 _ _ _ h hP hD va_S.rf (lv_sub hl [0] rfl)
def ow_dm_X13_jumpBits : List Cond := .code yX13_jumpBits cX13_jumpBits 1 (some .int) :: ([.methodLink RX13 550 yX13_bits, .static yX13_bits, .initialized RX13] ++ (ow_dm_X13_bits ++ []))
theorem gd_dm_X13_jumpBits : ∀ w ∈ ow_dm_X13_jumpBits, (w.onTables && w.keeps) = true ∨ ∃ ty, w = Cond.arrayClass ty := List.forall_mem_cons.mpr ⟨good_of_word rfl, List.forall_mem_append.mpr ⟨fun w h => good_of_word (List.all_eq_true.mp (by decide +kernel) w h), List.forall_mem_append.mpr ⟨gd_dm_X13_bits, fun _ h => nomatch h⟩⟩⟩
theorem gi_dm_X13_jumpBits_0 : GoodIn ow_dm_X13_jumpBits (wsS RX13 550 yX13_bits ow_dm_X13_bits) := goodIn_app (goodIn_of _ (by decide +kernel)) (fun w h => ⟨List.mem_cons_of_mem _ (List.mem_append_right _ (List.mem_append_left _ h)), gd_dm_X13_bits w h⟩)
def dj_X13_jumpBits_0 (p : Program) (l : Launch) (e : Env) (s : State) (m : MethodId) (args : Array Value) (below : List Frame) (meth : Method) (c : Code) (Q : State → Prop) (A : Nat → Prop) (dC : Nat → ClassId) (dI : Nat → Nat → Nat) (a : Nat → Nat) (ac : Nat → ClassId) (g : Int32 → (Unit) → Option (Int32 × (Unit))) (r : Int32 × (Unit)) : Prop := ∀ (v0 : Int32) (s0 : Unit) (H : Heap) (locs : List Loc) (ls : Array Slot), g v0 s0 = some r → va_P (dC, dI) vwCl (dw_P a ac s0) H → va_D A (dw_P a ac s0) → va_S A s.heap H locs → lv_has ls 1 [(0, .int v0)] → W p l e (headSpec ow_dm_X13_jumpBits ({ frames := 1, cells := 0, slots := 0, locals := 23 })).room s m args below meth c H locs 0 0 Q (F0 m 0 ls [])
set_option maxHeartbeats 40000000 in
set_option maxRecDepth 100000 in
theorem db_X13_jumpBits_0 {p : Program} {l : Launch} {e : Env} {s : State} {m : MethodId} {args : Array Value} {below : List Frame} {meth : Method} {c : Code} {Q : State → Prop} {A : Nat → Prop} {dC : Nat → ClassId} {dI : Nat → Nat → Nat} {a : Nat → Nat} {ac : Nat → ClassId} {n : Nat} {r : Int32 × (Unit)} (C : nd_C p l s m args c A (dC, dI) cX13_jumpBits 1 RX13 ow_dm_X13_jumpBits (dk_P ac)) (K : nd_Ki p l e (headSpec ow_dm_X13_jumpBits ({ frames := 1, cells := 0, slots := 0, locals := 23 })).room s m args below meth c Q A (dC, dI) cX13_jumpBits .int (Unit) (dw_P a ac) r) : dj_X13_jumpBits_0 p l e s m args below meth c Q A dC dI a ac (df_X13_jumpBits_0 n) r := by
  obtain ⟨hlt, hx, hb, hml, hown, hts, hN, hA, hK⟩ := id C
  intro v0 s0 H locs ls h hP hD hS hl
  unfold df_X13_jumpBits_0 at h
  refine lv_iload_n hx hb dX13_jumpBits_0 rfl (lv_at hl 0 rfl) ?_
  refine lv_bipush (v := 20) hx hb dX13_jumpBits_1 (by decide) ?_
  refine lv_bipush (v := 20) hx hb dX13_jumpBits_3 (by decide) ?_
  refine lv_bipush (v := 31) hx hb dX13_jumpBits_5 (by decide) ?_
  obtain ⟨q1, s2, hq, h⟩ := nd_b2_e h
  have hPc : va_P (dC, dI) vwCl (dw_P a ac ()) H := nd_p0
  have hDc : va_D A (dw_P a ac ()) := nd_d0
  have hKc : va_K (dC, dI) vwCl (dk_P ac) s := nd_y0 hK
  have hFc : ∀ q, va_A (dw_P a ac ()) H.size q → A q := nd_r0 hS hA
  refine nd_cSi (As := [.int v0, .int 20, .int 20, .int 31]) (rest := []) (q := q1) (w' := dw_P a ac s2) ⟨hx, hb, hml, hown, hts⟩ (fun sz => dm_X13_bits l hlt dC dI a ac n (v0) (20) (20) (31) () hq sz) (cwS 4 hts gi_dm_X13_jumpBits_0 rfl rfl rfl (by decide +kernel) ⟨Nat.le_of_ble_eq_true rfl, Nat.le_of_ble_eq_true rfl⟩) hPc hDc hKc hS hA hN rfl hl.1 rfl (Nat.le_of_ble_eq_true rfl) dX13_jumpBits_7 (fun H locs hP1 hD1 hk1 hS => ?_)
  have hP := nd_n0 hP hk1
  refine lv_iload_n hx hb dX13_jumpBits_10 rfl (lv_at hl 0 rfl) ?_
  refine lv_bipush (v := 10) hx hb dX13_jumpBits_11 (by decide) ?_
  refine lv_iconst (v := 1) hx hb dX13_jumpBits_13 (by decide) ?_
  refine lv_bipush (v := 21) hx hb dX13_jumpBits_14 (by decide) ?_
  obtain ⟨q4, s5, hq, h⟩ := nd_b2_e h
  have hPc : va_P (dC, dI) vwCl (dw_P a ac ()) H := nd_p0
  have hDc : va_D A (dw_P a ac ()) := nd_d0
  have hKc : va_K (dC, dI) vwCl (dk_P ac) s := nd_y0 hK
  have hFc : ∀ q, va_A (dw_P a ac ()) H.size q → A q := nd_r0 hS hA
  refine nd_cSi (As := [.int v0, .int 10, .int 1, .int 21]) (rest := [.int q1]) (q := q4) (w' := dw_P a ac s5) ⟨hx, hb, hml, hown, hts⟩ (fun sz => dm_X13_bits l hlt dC dI a ac n (v0) (10) (1) (21) () hq sz) (cwS 4 hts gi_dm_X13_jumpBits_0 rfl rfl rfl (by decide +kernel) ⟨Nat.le_of_ble_eq_true rfl, Nat.le_of_ble_eq_true rfl⟩) hPc hDc hKc hS hA hN rfl hl.1 rfl (Nat.le_of_ble_eq_true rfl) dX13_jumpBits_16 (fun H locs hP1 hD1 hk1 hS => ?_)
  have hP := nd_n0 hP hk1
  refine lv_ior hx hb dX13_jumpBits_19 ?_
  refine lv_iload_n hx hb dX13_jumpBits_20 rfl (lv_at hl 0 rfl) ?_
  refine lv_bipush (v := 11) hx hb dX13_jumpBits_21 (by decide) ?_
  refine lv_bipush (v := 11) hx hb dX13_jumpBits_23 (by decide) ?_
  refine lv_bipush (v := 20) hx hb dX13_jumpBits_25 (by decide) ?_
  obtain ⟨q7, s8, hq, h⟩ := nd_b2_e h
  have hPc : va_P (dC, dI) vwCl (dw_P a ac ()) H := nd_p0
  have hDc : va_D A (dw_P a ac ()) := nd_d0
  have hKc : va_K (dC, dI) vwCl (dk_P ac) s := nd_y0 hK
  have hFc : ∀ q, va_A (dw_P a ac ()) H.size q → A q := nd_r0 hS hA
  refine nd_cSi (As := [.int v0, .int 11, .int 11, .int 20]) (rest := [.int (q1 ||| q4)]) (q := q7) (w' := dw_P a ac s8) ⟨hx, hb, hml, hown, hts⟩ (fun sz => dm_X13_bits l hlt dC dI a ac n (v0) (11) (11) (20) () hq sz) (cwS 4 hts gi_dm_X13_jumpBits_0 rfl rfl rfl (by decide +kernel) ⟨Nat.le_of_ble_eq_true rfl, Nat.le_of_ble_eq_true rfl⟩) hPc hDc hKc hS hA hN rfl hl.1 rfl (Nat.le_of_ble_eq_true rfl) dX13_jumpBits_27 (fun H locs hP1 hD1 hk1 hS => ?_)
  have hP := nd_n0 hP hk1
  refine lv_ior hx hb dX13_jumpBits_30 ?_
  refine lv_iload_n hx hb dX13_jumpBits_31 rfl (lv_at hl 0 rfl) ?_
  refine lv_bipush (v := 19) hx hb dX13_jumpBits_32 (by decide) ?_
  refine lv_bipush (v := 12) hx hb dX13_jumpBits_34 (by decide) ?_
  refine lv_bipush (v := 12) hx hb dX13_jumpBits_36 (by decide) ?_
  obtain ⟨q10, s11, hq, h⟩ := nd_b2_e h
  have hPc : va_P (dC, dI) vwCl (dw_P a ac ()) H := nd_p0
  have hDc : va_D A (dw_P a ac ()) := nd_d0
  have hKc : va_K (dC, dI) vwCl (dk_P ac) s := nd_y0 hK
  have hFc : ∀ q, va_A (dw_P a ac ()) H.size q → A q := nd_r0 hS hA
  refine nd_cSi (As := [.int v0, .int 19, .int 12, .int 12]) (rest := [.int ((q1 ||| q4) ||| q7)]) (q := q10) (w' := dw_P a ac s11) ⟨hx, hb, hml, hown, hts⟩ (fun sz => dm_X13_bits l hlt dC dI a ac n (v0) (19) (12) (12) () hq sz) (cwS 4 hts gi_dm_X13_jumpBits_0 rfl rfl rfl (by decide +kernel) ⟨Nat.le_of_ble_eq_true rfl, Nat.le_of_ble_eq_true rfl⟩) hPc hDc hKc hS hA hN rfl hl.1 rfl (Nat.le_of_ble_eq_true rfl) dX13_jumpBits_38 (fun H locs hP1 hD1 hk1 hS => ?_)
  have hP := nd_n0 hP hk1
  refine lv_ior hx hb dX13_jumpBits_41 ?_
  exact K _ _ _ _ _ _ dX13_jumpBits_42 rfl (Option.some.inj h).symm hP hD hS
set_option maxHeartbeats 40000000 in
set_option maxRecDepth 100000 in
theorem dm_X13_jumpBits (l : Launch) (hlt : l.stackTraces = false) (dC : Nat → ClassId) (dI : Nat → Nat → Nat) (a : Nat → Nat) (ac : Nat → ClassId) (n : Nat) (v0 : Int32) (s0 : Unit) {r : Int32 × (Unit)} (h : df_X13_jumpBits n v0 s0 = some r) (sz : Nat) : Met l yX13_jumpBits ow_dm_X13_jumpBits ({ frames := 1, cells := 0, slots := 0, locals := 23 }) (va_Pc [.int v0] (fun U => U.heap.size = sz ∧ va_P (dC, dI) vwCl (dw_P a ac s0) U.heap ∧ va_K (dC, dI) vwCl (dk_P ac) U ∧ va_D (fun _ => True) (dw_P a ac s0) ∧ nv_E (va_A (dw_P a ac s0) sz) U)) (va_Qi (fun x _ => x = r.1) (fun (_ : Unit) t => va_P (dC, dI) vwCl (dw_P a ac r.2) t.heap ∧ va_K (dC, dI) vwCl (dk_P ac) t ∧ va_D (va_A (dw_P a ac s0) sz) (dw_P a ac r.2)) (va_A (dw_P a ac s0) sz)) 0 0 (va_A (dw_P a ac s0) sz) := by
  refine Met.ofW (cc := cX13_jumpBits) (maxL := 1) (ret := (some .int)) (by decide) rfl ?_
  intro p e s m args below meth c s₁ B hml hv
  obtain ⟨rfl, hsz, hP, hK, hD0, hN⟩ := hv
  have hx := B.exec
  have hb := B.bytes
  have hr := B.returns
  have hts := atoms_spec (ws := ow_dm_X13_jumpBits) B.pre
  have hown : s.vm.findClass RX13 = some m.cls := findClass_of_methodNamed B.named
  have hlocks := B.notSynchronized
  subst hsz
  have hD := hD0.self (sz := s.heap.size)
  generalize hAe : va_A (dw_P a ac s0) s.heap.size = A at hD hN ⊢
  have hA : ∀ q : Nat, s.heap.size ≤ q → A q := fun q h => by rw [← hAe]; exact Or.inr h
  have hl := lv_entry ([.int v0]) (n := 1) (Nat.le_of_ble_eq_true rfl)
  rw [lg_entry_eq]
  generalize (lg_sl ([.int v0]) ++ List.replicate (1 - (lg_sl ([.int v0])).length) Slot.unset).toArray = ls at hl ⊢
  have hl : lv_has ls 1 [(0, .int v0)] := hl
  exact db_X13_jumpBits_0 (dC := dC) (dI := dI) (a := a) (ac := ac) (n := n) (r := r) ⟨hlt, hx, hb, hml, hown, hts, hN, hA, hK⟩ (fun pc v τ H locs ls d z er hP hD hS => by subst er; exact W.zret (v := v) hx hb hr z (fun t ht hW => ⟨⟨v, (), rfl, rfl, by rw [ht]; exact hP, va_K.moved hW.alike hK, hD⟩, hS.F ht⟩) hS.2.2 d) v0 s0 _ _ _ h hP hD va_S.rf (lv_sub hl [0] rfl)
def ow_dm_X13_shortJump : List Cond := .code yX13_shortJump cX13_shortJump 1 (some .int) :: ([.methodLink RX13 550 yX13_bits, .static yX13_bits, .initialized RX13] ++ (ow_dm_X13_bits ++ []))
theorem gd_dm_X13_shortJump : ∀ w ∈ ow_dm_X13_shortJump, (w.onTables && w.keeps) = true ∨ ∃ ty, w = Cond.arrayClass ty := List.forall_mem_cons.mpr ⟨good_of_word rfl, List.forall_mem_append.mpr ⟨fun w h => good_of_word (List.all_eq_true.mp (by decide +kernel) w h), List.forall_mem_append.mpr ⟨gd_dm_X13_bits, fun _ h => nomatch h⟩⟩⟩
theorem gi_dm_X13_shortJump_0 : GoodIn ow_dm_X13_shortJump (wsS RX13 550 yX13_bits ow_dm_X13_bits) := goodIn_app (goodIn_of _ (by decide +kernel)) (fun w h => ⟨List.mem_cons_of_mem _ (List.mem_append_right _ (List.mem_append_left _ h)), gd_dm_X13_bits w h⟩)
def dj_X13_shortJump_0 (p : Program) (l : Launch) (e : Env) (s : State) (m : MethodId) (args : Array Value) (below : List Frame) (meth : Method) (c : Code) (Q : State → Prop) (A : Nat → Prop) (dC : Nat → ClassId) (dI : Nat → Nat → Nat) (a : Nat → Nat) (ac : Nat → ClassId) (g : Int32 → (Unit) → Option (Int32 × (Unit))) (r : Int32 × (Unit)) : Prop := ∀ (v0 : Int32) (s0 : Unit) (H : Heap) (locs : List Loc) (ls : Array Slot), g v0 s0 = some r → va_P (dC, dI) vwCl (dw_P a ac s0) H → va_D A (dw_P a ac s0) → va_S A s.heap H locs → lv_has ls 1 [(0, .int v0)] → W p l e (headSpec ow_dm_X13_shortJump ({ frames := 1, cells := 0, slots := 0, locals := 23 })).room s m args below meth c H locs 0 0 Q (F0 m 0 ls [])
set_option maxHeartbeats 40000000 in
set_option maxRecDepth 100000 in
theorem db_X13_shortJump_0 {p : Program} {l : Launch} {e : Env} {s : State} {m : MethodId} {args : Array Value} {below : List Frame} {meth : Method} {c : Code} {Q : State → Prop} {A : Nat → Prop} {dC : Nat → ClassId} {dI : Nat → Nat → Nat} {a : Nat → Nat} {ac : Nat → ClassId} {n : Nat} {r : Int32 × (Unit)} (C : nd_C p l s m args c A (dC, dI) cX13_shortJump 1 RX13 ow_dm_X13_shortJump (dk_P ac)) (K : nd_Ki p l e (headSpec ow_dm_X13_shortJump ({ frames := 1, cells := 0, slots := 0, locals := 23 })).room s m args below meth c Q A (dC, dI) cX13_shortJump .int (Unit) (dw_P a ac) r) : dj_X13_shortJump_0 p l e s m args below meth c Q A dC dI a ac (df_X13_shortJump_0 n) r := by
  obtain ⟨hlt, hx, hb, hml, hown, hts, hN, hA, hK⟩ := id C
  intro v0 s0 H locs ls h hP hD hS hl
  unfold df_X13_shortJump_0 at h
  refine lv_iload_n hx hb dX13_shortJump_0 rfl (lv_at hl 0 rfl) ?_
  refine lv_bipush (v := 11) hx hb dX13_shortJump_1 (by decide) ?_
  refine lv_bipush (v := 11) hx hb dX13_shortJump_3 (by decide) ?_
  refine lv_bipush (v := 12) hx hb dX13_shortJump_5 (by decide) ?_
  obtain ⟨q1, s2, hq, h⟩ := nd_b2_e h
  have hPc : va_P (dC, dI) vwCl (dw_P a ac ()) H := nd_p0
  have hDc : va_D A (dw_P a ac ()) := nd_d0
  have hKc : va_K (dC, dI) vwCl (dk_P ac) s := nd_y0 hK
  have hFc : ∀ q, va_A (dw_P a ac ()) H.size q → A q := nd_r0 hS hA
  refine nd_cSi (As := [.int v0, .int 11, .int 11, .int 12]) (rest := []) (q := q1) (w' := dw_P a ac s2) ⟨hx, hb, hml, hown, hts⟩ (fun sz => dm_X13_bits l hlt dC dI a ac n (v0) (11) (11) (12) () hq sz) (cwS 4 hts gi_dm_X13_shortJump_0 rfl rfl rfl (by decide +kernel) ⟨Nat.le_of_ble_eq_true rfl, Nat.le_of_ble_eq_true rfl⟩) hPc hDc hKc hS hA hN rfl hl.1 rfl (Nat.le_of_ble_eq_true rfl) dX13_shortJump_7 (fun H locs hP1 hD1 hk1 hS => ?_)
  have hP := nd_n0 hP hk1
  refine lv_iload_n hx hb dX13_shortJump_10 rfl (lv_at hl 0 rfl) ?_
  refine lv_iconst (v := 4) hx hb dX13_shortJump_11 (by decide) ?_
  refine lv_iconst (v := 4) hx hb dX13_shortJump_12 (by decide) ?_
  refine lv_bipush (v := 11) hx hb dX13_shortJump_13 (by decide) ?_
  obtain ⟨q4, s5, hq, h⟩ := nd_b2_e h
  have hPc : va_P (dC, dI) vwCl (dw_P a ac ()) H := nd_p0
  have hDc : va_D A (dw_P a ac ()) := nd_d0
  have hKc : va_K (dC, dI) vwCl (dk_P ac) s := nd_y0 hK
  have hFc : ∀ q, va_A (dw_P a ac ()) H.size q → A q := nd_r0 hS hA
  refine nd_cSi (As := [.int v0, .int 4, .int 4, .int 11]) (rest := [.int q1]) (q := q4) (w' := dw_P a ac s5) ⟨hx, hb, hml, hown, hts⟩ (fun sz => dm_X13_bits l hlt dC dI a ac n (v0) (4) (4) (11) () hq sz) (cwS 4 hts gi_dm_X13_shortJump_0 rfl rfl rfl (by decide +kernel) ⟨Nat.le_of_ble_eq_true rfl, Nat.le_of_ble_eq_true rfl⟩) hPc hDc hKc hS hA hN rfl hl.1 rfl (Nat.le_of_ble_eq_true rfl) dX13_shortJump_15 (fun H locs hP1 hD1 hk1 hS => ?_)
  have hP := nd_n0 hP hk1
  refine lv_ior hx hb dX13_shortJump_18 ?_
  refine lv_iload_n hx hb dX13_shortJump_19 rfl (lv_at hl 0 rfl) ?_
  refine lv_bipush (v := 9) hx hb dX13_shortJump_20 (by decide) ?_
  refine lv_bipush (v := 8) hx hb dX13_shortJump_22 (by decide) ?_
  refine lv_bipush (v := 9) hx hb dX13_shortJump_24 (by decide) ?_
  obtain ⟨q7, s8, hq, h⟩ := nd_b2_e h
  have hPc : va_P (dC, dI) vwCl (dw_P a ac ()) H := nd_p0
  have hDc : va_D A (dw_P a ac ()) := nd_d0
  have hKc : va_K (dC, dI) vwCl (dk_P ac) s := nd_y0 hK
  have hFc : ∀ q, va_A (dw_P a ac ()) H.size q → A q := nd_r0 hS hA
  refine nd_cSi (As := [.int v0, .int 9, .int 8, .int 9]) (rest := [.int (q1 ||| q4)]) (q := q7) (w' := dw_P a ac s8) ⟨hx, hb, hml, hown, hts⟩ (fun sz => dm_X13_bits l hlt dC dI a ac n (v0) (9) (8) (9) () hq sz) (cwS 4 hts gi_dm_X13_shortJump_0 rfl rfl rfl (by decide +kernel) ⟨Nat.le_of_ble_eq_true rfl, Nat.le_of_ble_eq_true rfl⟩) hPc hDc hKc hS hA hN rfl hl.1 rfl (Nat.le_of_ble_eq_true rfl) dX13_shortJump_26 (fun H locs hP1 hD1 hk1 hS => ?_)
  have hP := nd_n0 hP hk1
  refine lv_ior hx hb dX13_shortJump_29 ?_
  refine lv_iload_n hx hb dX13_shortJump_30 rfl (lv_at hl 0 rfl) ?_
  refine lv_bipush (v := 10) hx hb dX13_shortJump_31 (by decide) ?_
  refine lv_bipush (v := 10) hx hb dX13_shortJump_33 (by decide) ?_
  refine lv_bipush (v := 8) hx hb dX13_shortJump_35 (by decide) ?_
  obtain ⟨q10, s11, hq, h⟩ := nd_b2_e h
  have hPc : va_P (dC, dI) vwCl (dw_P a ac ()) H := nd_p0
  have hDc : va_D A (dw_P a ac ()) := nd_d0
  have hKc : va_K (dC, dI) vwCl (dk_P ac) s := nd_y0 hK
  have hFc : ∀ q, va_A (dw_P a ac ()) H.size q → A q := nd_r0 hS hA
  refine nd_cSi (As := [.int v0, .int 10, .int 10, .int 8]) (rest := [.int ((q1 ||| q4) ||| q7)]) (q := q10) (w' := dw_P a ac s11) ⟨hx, hb, hml, hown, hts⟩ (fun sz => dm_X13_bits l hlt dC dI a ac n (v0) (10) (10) (8) () hq sz) (cwS 4 hts gi_dm_X13_shortJump_0 rfl rfl rfl (by decide +kernel) ⟨Nat.le_of_ble_eq_true rfl, Nat.le_of_ble_eq_true rfl⟩) hPc hDc hKc hS hA hN rfl hl.1 rfl (Nat.le_of_ble_eq_true rfl) dX13_shortJump_37 (fun H locs hP1 hD1 hk1 hS => ?_)
  have hP := nd_n0 hP hk1
  refine lv_ior hx hb dX13_shortJump_40 ?_
  refine lv_iload_n hx hb dX13_shortJump_41 rfl (lv_at hl 0 rfl) ?_
  refine lv_bipush (v := 6) hx hb dX13_shortJump_42 (by decide) ?_
  refine lv_bipush (v := 6) hx hb dX13_shortJump_44 (by decide) ?_
  refine lv_bipush (v := 7) hx hb dX13_shortJump_46 (by decide) ?_
  obtain ⟨q13, s14, hq, h⟩ := nd_b2_e h
  have hPc : va_P (dC, dI) vwCl (dw_P a ac ()) H := nd_p0
  have hDc : va_D A (dw_P a ac ()) := nd_d0
  have hKc : va_K (dC, dI) vwCl (dk_P ac) s := nd_y0 hK
  have hFc : ∀ q, va_A (dw_P a ac ()) H.size q → A q := nd_r0 hS hA
  refine nd_cSi (As := [.int v0, .int 6, .int 6, .int 7]) (rest := [.int (((q1 ||| q4) ||| q7) ||| q10)]) (q := q13) (w' := dw_P a ac s14) ⟨hx, hb, hml, hown, hts⟩ (fun sz => dm_X13_bits l hlt dC dI a ac n (v0) (6) (6) (7) () hq sz) (cwS 4 hts gi_dm_X13_shortJump_0 rfl rfl rfl (by decide +kernel) ⟨Nat.le_of_ble_eq_true rfl, Nat.le_of_ble_eq_true rfl⟩) hPc hDc hKc hS hA hN rfl hl.1 rfl (Nat.le_of_ble_eq_true rfl) dX13_shortJump_48 (fun H locs hP1 hD1 hk1 hS => ?_)
  have hP := nd_n0 hP hk1
  refine lv_ior hx hb dX13_shortJump_51 ?_
  refine lv_iload_n hx hb dX13_shortJump_52 rfl (lv_at hl 0 rfl) ?_
  refine lv_bipush (v := 7) hx hb dX13_shortJump_53 (by decide) ?_
  refine lv_bipush (v := 7) hx hb dX13_shortJump_55 (by decide) ?_
  refine lv_bipush (v := 6) hx hb dX13_shortJump_57 (by decide) ?_
  obtain ⟨q16, s17, hq, h⟩ := nd_b2_e h
  have hPc : va_P (dC, dI) vwCl (dw_P a ac ()) H := nd_p0
  have hDc : va_D A (dw_P a ac ()) := nd_d0
  have hKc : va_K (dC, dI) vwCl (dk_P ac) s := nd_y0 hK
  have hFc : ∀ q, va_A (dw_P a ac ()) H.size q → A q := nd_r0 hS hA
  refine nd_cSi (As := [.int v0, .int 7, .int 7, .int 6]) (rest := [.int ((((q1 ||| q4) ||| q7) ||| q10) ||| q13)]) (q := q16) (w' := dw_P a ac s17) ⟨hx, hb, hml, hown, hts⟩ (fun sz => dm_X13_bits l hlt dC dI a ac n (v0) (7) (7) (6) () hq sz) (cwS 4 hts gi_dm_X13_shortJump_0 rfl rfl rfl (by decide +kernel) ⟨Nat.le_of_ble_eq_true rfl, Nat.le_of_ble_eq_true rfl⟩) hPc hDc hKc hS hA hN rfl hl.1 rfl (Nat.le_of_ble_eq_true rfl) dX13_shortJump_59 (fun H locs hP1 hD1 hk1 hS => ?_)
  have hP := nd_n0 hP hk1
  refine lv_ior hx hb dX13_shortJump_62 ?_
  refine lv_iload_n hx hb dX13_shortJump_63 rfl (lv_at hl 0 rfl) ?_
  refine lv_iconst (v := 3) hx hb dX13_shortJump_64 (by decide) ?_
  refine lv_iconst (v := 1) hx hb dX13_shortJump_65 (by decide) ?_
  refine lv_iconst (v := 3) hx hb dX13_shortJump_66 (by decide) ?_
  obtain ⟨q19, s20, hq, h⟩ := nd_b2_e h
  have hPc : va_P (dC, dI) vwCl (dw_P a ac ()) H := nd_p0
  have hDc : va_D A (dw_P a ac ()) := nd_d0
  have hKc : va_K (dC, dI) vwCl (dk_P ac) s := nd_y0 hK
  have hFc : ∀ q, va_A (dw_P a ac ()) H.size q → A q := nd_r0 hS hA
  refine nd_cSi (As := [.int v0, .int 3, .int 1, .int 3]) (rest := [.int (((((q1 ||| q4) ||| q7) ||| q10) ||| q13) ||| q16)]) (q := q19) (w' := dw_P a ac s20) ⟨hx, hb, hml, hown, hts⟩ (fun sz => dm_X13_bits l hlt dC dI a ac n (v0) (3) (1) (3) () hq sz) (cwS 4 hts gi_dm_X13_shortJump_0 rfl rfl rfl (by decide +kernel) ⟨Nat.le_of_ble_eq_true rfl, Nat.le_of_ble_eq_true rfl⟩) hPc hDc hKc hS hA hN rfl hl.1 rfl (Nat.le_of_ble_eq_true rfl) dX13_shortJump_67 (fun H locs hP1 hD1 hk1 hS => ?_)
  have hP := nd_n0 hP hk1
  refine lv_ior hx hb dX13_shortJump_70 ?_
  refine lv_iload_n hx hb dX13_shortJump_71 rfl (lv_at hl 0 rfl) ?_
  refine lv_iconst (v := 5) hx hb dX13_shortJump_72 (by decide) ?_
  refine lv_iconst (v := 5) hx hb dX13_shortJump_73 (by decide) ?_
  refine lv_iconst (v := 2) hx hb dX13_shortJump_74 (by decide) ?_
  obtain ⟨q22, s23, hq, h⟩ := nd_b2_e h
  have hPc : va_P (dC, dI) vwCl (dw_P a ac ()) H := nd_p0
  have hDc : va_D A (dw_P a ac ()) := nd_d0
  have hKc : va_K (dC, dI) vwCl (dk_P ac) s := nd_y0 hK
  have hFc : ∀ q, va_A (dw_P a ac ()) H.size q → A q := nd_r0 hS hA
  refine nd_cSi (As := [.int v0, .int 5, .int 5, .int 2]) (rest := [.int ((((((q1 ||| q4) ||| q7) ||| q10) ||| q13) ||| q16) ||| q19)]) (q := q22) (w' := dw_P a ac s23) ⟨hx, hb, hml, hown, hts⟩ (fun sz => dm_X13_bits l hlt dC dI a ac n (v0) (5) (5) (2) () hq sz) (cwS 4 hts gi_dm_X13_shortJump_0 rfl rfl rfl (by decide +kernel) ⟨Nat.le_of_ble_eq_true rfl, Nat.le_of_ble_eq_true rfl⟩) hPc hDc hKc hS hA hN rfl hl.1 rfl (Nat.le_of_ble_eq_true rfl) dX13_shortJump_75 (fun H locs hP1 hD1 hk1 hS => ?_)
  have hP := nd_n0 hP hk1
  refine lv_ior hx hb dX13_shortJump_78 ?_
  exact K _ _ _ _ _ _ dX13_shortJump_79 rfl (Option.some.inj h).symm hP hD hS
set_option maxHeartbeats 40000000 in
set_option maxRecDepth 100000 in
theorem dm_X13_shortJump (l : Launch) (hlt : l.stackTraces = false) (dC : Nat → ClassId) (dI : Nat → Nat → Nat) (a : Nat → Nat) (ac : Nat → ClassId) (n : Nat) (v0 : Int32) (s0 : Unit) {r : Int32 × (Unit)} (h : df_X13_shortJump n v0 s0 = some r) (sz : Nat) : Met l yX13_shortJump ow_dm_X13_shortJump ({ frames := 1, cells := 0, slots := 0, locals := 23 }) (va_Pc [.int v0] (fun U => U.heap.size = sz ∧ va_P (dC, dI) vwCl (dw_P a ac s0) U.heap ∧ va_K (dC, dI) vwCl (dk_P ac) U ∧ va_D (fun _ => True) (dw_P a ac s0) ∧ nv_E (va_A (dw_P a ac s0) sz) U)) (va_Qi (fun x _ => x = r.1) (fun (_ : Unit) t => va_P (dC, dI) vwCl (dw_P a ac r.2) t.heap ∧ va_K (dC, dI) vwCl (dk_P ac) t ∧ va_D (va_A (dw_P a ac s0) sz) (dw_P a ac r.2)) (va_A (dw_P a ac s0) sz)) 0 0 (va_A (dw_P a ac s0) sz) := by
  refine Met.ofW (cc := cX13_shortJump) (maxL := 1) (ret := (some .int)) (by decide) rfl ?_
  intro p e s m args below meth c s₁ B hml hv
  obtain ⟨rfl, hsz, hP, hK, hD0, hN⟩ := hv
  have hx := B.exec
  have hb := B.bytes
  have hr := B.returns
  have hts := atoms_spec (ws := ow_dm_X13_shortJump) B.pre
  have hown : s.vm.findClass RX13 = some m.cls := findClass_of_methodNamed B.named
  have hlocks := B.notSynchronized
  subst hsz
  have hD := hD0.self (sz := s.heap.size)
  generalize hAe : va_A (dw_P a ac s0) s.heap.size = A at hD hN ⊢
  have hA : ∀ q : Nat, s.heap.size ≤ q → A q := fun q h => by rw [← hAe]; exact Or.inr h
  have hl := lv_entry ([.int v0]) (n := 1) (Nat.le_of_ble_eq_true rfl)
  rw [lg_entry_eq]
  generalize (lg_sl ([.int v0]) ++ List.replicate (1 - (lg_sl ([.int v0])).length) Slot.unset).toArray = ls at hl ⊢
  have hl : lv_has ls 1 [(0, .int v0)] := hl
  exact db_X13_shortJump_0 (dC := dC) (dI := dI) (a := a) (ac := ac) (n := n) (r := r) ⟨hlt, hx, hb, hml, hown, hts, hN, hA, hK⟩ (fun pc v τ H locs ls d z er hP hD hS => by subst er; exact W.zret (v := v) hx hb hr z (fun t ht hW => ⟨⟨v, (), rfl, rfl, by rw [ht]; exact hP, va_K.moved hW.alike hK, hD⟩, hS.F ht⟩) hS.2.2 d) v0 s0 _ _ _ h hP hD va_S.rf (lv_sub hl [0] rfl)
def ow_dm_X13_shortBranch : List Cond := .code yX13_shortBranch cX13_shortBranch 1 (some .int) :: ([.methodLink RX13 550 yX13_bits, .static yX13_bits, .initialized RX13] ++ (ow_dm_X13_bits ++ []))
theorem gd_dm_X13_shortBranch : ∀ w ∈ ow_dm_X13_shortBranch, (w.onTables && w.keeps) = true ∨ ∃ ty, w = Cond.arrayClass ty := List.forall_mem_cons.mpr ⟨good_of_word rfl, List.forall_mem_append.mpr ⟨fun w h => good_of_word (List.all_eq_true.mp (by decide +kernel) w h), List.forall_mem_append.mpr ⟨gd_dm_X13_bits, fun _ h => nomatch h⟩⟩⟩
theorem gi_dm_X13_shortBranch_0 : GoodIn ow_dm_X13_shortBranch (wsS RX13 550 yX13_bits ow_dm_X13_bits) := goodIn_app (goodIn_of _ (by decide +kernel)) (fun w h => ⟨List.mem_cons_of_mem _ (List.mem_append_right _ (List.mem_append_left _ h)), gd_dm_X13_bits w h⟩)
def dj_X13_shortBranch_0 (p : Program) (l : Launch) (e : Env) (s : State) (m : MethodId) (args : Array Value) (below : List Frame) (meth : Method) (c : Code) (Q : State → Prop) (A : Nat → Prop) (dC : Nat → ClassId) (dI : Nat → Nat → Nat) (a : Nat → Nat) (ac : Nat → ClassId) (g : Int32 → (Unit) → Option (Int32 × (Unit))) (r : Int32 × (Unit)) : Prop := ∀ (v0 : Int32) (s0 : Unit) (H : Heap) (locs : List Loc) (ls : Array Slot), g v0 s0 = some r → va_P (dC, dI) vwCl (dw_P a ac s0) H → va_D A (dw_P a ac s0) → va_S A s.heap H locs → lv_has ls 1 [(0, .int v0)] → W p l e (headSpec ow_dm_X13_shortBranch ({ frames := 1, cells := 0, slots := 0, locals := 23 })).room s m args below meth c H locs 0 0 Q (F0 m 0 ls [])
set_option maxHeartbeats 40000000 in
set_option maxRecDepth 100000 in
theorem db_X13_shortBranch_0 {p : Program} {l : Launch} {e : Env} {s : State} {m : MethodId} {args : Array Value} {below : List Frame} {meth : Method} {c : Code} {Q : State → Prop} {A : Nat → Prop} {dC : Nat → ClassId} {dI : Nat → Nat → Nat} {a : Nat → Nat} {ac : Nat → ClassId} {n : Nat} {r : Int32 × (Unit)} (C : nd_C p l s m args c A (dC, dI) cX13_shortBranch 1 RX13 ow_dm_X13_shortBranch (dk_P ac)) (K : nd_Ki p l e (headSpec ow_dm_X13_shortBranch ({ frames := 1, cells := 0, slots := 0, locals := 23 })).room s m args below meth c Q A (dC, dI) cX13_shortBranch .int (Unit) (dw_P a ac) r) : dj_X13_shortBranch_0 p l e s m args below meth c Q A dC dI a ac (df_X13_shortBranch_0 n) r := by
  obtain ⟨hlt, hx, hb, hml, hown, hts, hN, hA, hK⟩ := id C
  intro v0 s0 H locs ls h hP hD hS hl
  unfold df_X13_shortBranch_0 at h
  refine lv_iload_n hx hb dX13_shortBranch_0 rfl (lv_at hl 0 rfl) ?_
  refine lv_bipush (v := 8) hx hb dX13_shortBranch_1 (by decide) ?_
  refine lv_bipush (v := 8) hx hb dX13_shortBranch_3 (by decide) ?_
  refine lv_bipush (v := 12) hx hb dX13_shortBranch_5 (by decide) ?_
  obtain ⟨q1, s2, hq, h⟩ := nd_b2_e h
  have hPc : va_P (dC, dI) vwCl (dw_P a ac ()) H := nd_p0
  have hDc : va_D A (dw_P a ac ()) := nd_d0
  have hKc : va_K (dC, dI) vwCl (dk_P ac) s := nd_y0 hK
  have hFc : ∀ q, va_A (dw_P a ac ()) H.size q → A q := nd_r0 hS hA
  refine nd_cSi (As := [.int v0, .int 8, .int 8, .int 12]) (rest := []) (q := q1) (w' := dw_P a ac s2) ⟨hx, hb, hml, hown, hts⟩ (fun sz => dm_X13_bits l hlt dC dI a ac n (v0) (8) (8) (12) () hq sz) (cwS 4 hts gi_dm_X13_shortBranch_0 rfl rfl rfl (by decide +kernel) ⟨Nat.le_of_ble_eq_true rfl, Nat.le_of_ble_eq_true rfl⟩) hPc hDc hKc hS hA hN rfl hl.1 rfl (Nat.le_of_ble_eq_true rfl) dX13_shortBranch_7 (fun H locs hP1 hD1 hk1 hS => ?_)
  have hP := nd_n0 hP hk1
  refine lv_iload_n hx hb dX13_shortBranch_10 rfl (lv_at hl 0 rfl) ?_
  refine lv_iconst (v := 4) hx hb dX13_shortBranch_11 (by decide) ?_
  refine lv_iconst (v := 3) hx hb dX13_shortBranch_12 (by decide) ?_
  refine lv_bipush (v := 10) hx hb dX13_shortBranch_13 (by decide) ?_
  obtain ⟨q4, s5, hq, h⟩ := nd_b2_e h
  have hPc : va_P (dC, dI) vwCl (dw_P a ac ()) H := nd_p0
  have hDc : va_D A (dw_P a ac ()) := nd_d0
  have hKc : va_K (dC, dI) vwCl (dk_P ac) s := nd_y0 hK
  have hFc : ∀ q, va_A (dw_P a ac ()) H.size q → A q := nd_r0 hS hA
  refine nd_cSi (As := [.int v0, .int 4, .int 3, .int 10]) (rest := [.int q1]) (q := q4) (w' := dw_P a ac s5) ⟨hx, hb, hml, hown, hts⟩ (fun sz => dm_X13_bits l hlt dC dI a ac n (v0) (4) (3) (10) () hq sz) (cwS 4 hts gi_dm_X13_shortBranch_0 rfl rfl rfl (by decide +kernel) ⟨Nat.le_of_ble_eq_true rfl, Nat.le_of_ble_eq_true rfl⟩) hPc hDc hKc hS hA hN rfl hl.1 rfl (Nat.le_of_ble_eq_true rfl) dX13_shortBranch_15 (fun H locs hP1 hD1 hk1 hS => ?_)
  have hP := nd_n0 hP hk1
  refine lv_ior hx hb dX13_shortBranch_18 ?_
  refine lv_iload_n hx hb dX13_shortBranch_19 rfl (lv_at hl 0 rfl) ?_
  refine lv_bipush (v := 7) hx hb dX13_shortBranch_20 (by decide) ?_
  refine lv_bipush (v := 6) hx hb dX13_shortBranch_22 (by decide) ?_
  refine lv_iconst (v := 5) hx hb dX13_shortBranch_24 (by decide) ?_
  obtain ⟨q7, s8, hq, h⟩ := nd_b2_e h
  have hPc : va_P (dC, dI) vwCl (dw_P a ac ()) H := nd_p0
  have hDc : va_D A (dw_P a ac ()) := nd_d0
  have hKc : va_K (dC, dI) vwCl (dk_P ac) s := nd_y0 hK
  have hFc : ∀ q, va_A (dw_P a ac ()) H.size q → A q := nd_r0 hS hA
  refine nd_cSi (As := [.int v0, .int 7, .int 6, .int 5]) (rest := [.int (q1 ||| q4)]) (q := q7) (w' := dw_P a ac s8) ⟨hx, hb, hml, hown, hts⟩ (fun sz => dm_X13_bits l hlt dC dI a ac n (v0) (7) (6) (5) () hq sz) (cwS 4 hts gi_dm_X13_shortBranch_0 rfl rfl rfl (by decide +kernel) ⟨Nat.le_of_ble_eq_true rfl, Nat.le_of_ble_eq_true rfl⟩) hPc hDc hKc hS hA hN rfl hl.1 rfl (Nat.le_of_ble_eq_true rfl) dX13_shortBranch_25 (fun H locs hP1 hD1 hk1 hS => ?_)
  have hP := nd_n0 hP hk1
  refine lv_ior hx hb dX13_shortBranch_28 ?_
  refine lv_iload_n hx hb dX13_shortBranch_29 rfl (lv_at hl 0 rfl) ?_
  refine lv_iconst (v := 2) hx hb dX13_shortBranch_30 (by decide) ?_
  refine lv_iconst (v := 1) hx hb dX13_shortBranch_31 (by decide) ?_
  refine lv_iconst (v := 3) hx hb dX13_shortBranch_32 (by decide) ?_
  obtain ⟨q10, s11, hq, h⟩ := nd_b2_e h
  have hPc : va_P (dC, dI) vwCl (dw_P a ac ()) H := nd_p0
  have hDc : va_D A (dw_P a ac ()) := nd_d0
  have hKc : va_K (dC, dI) vwCl (dk_P ac) s := nd_y0 hK
  have hFc : ∀ q, va_A (dw_P a ac ()) H.size q → A q := nd_r0 hS hA
  refine nd_cSi (As := [.int v0, .int 2, .int 1, .int 3]) (rest := [.int ((q1 ||| q4) ||| q7)]) (q := q10) (w' := dw_P a ac s11) ⟨hx, hb, hml, hown, hts⟩ (fun sz => dm_X13_bits l hlt dC dI a ac n (v0) (2) (1) (3) () hq sz) (cwS 4 hts gi_dm_X13_shortBranch_0 rfl rfl rfl (by decide +kernel) ⟨Nat.le_of_ble_eq_true rfl, Nat.le_of_ble_eq_true rfl⟩) hPc hDc hKc hS hA hN rfl hl.1 rfl (Nat.le_of_ble_eq_true rfl) dX13_shortBranch_33 (fun H locs hP1 hD1 hk1 hS => ?_)
  have hP := nd_n0 hP hk1
  refine lv_ior hx hb dX13_shortBranch_36 ?_
  refine lv_iload_n hx hb dX13_shortBranch_37 rfl (lv_at hl 0 rfl) ?_
  refine lv_iconst (v := 5) hx hb dX13_shortBranch_38 (by decide) ?_
  refine lv_iconst (v := 5) hx hb dX13_shortBranch_39 (by decide) ?_
  refine lv_iconst (v := 2) hx hb dX13_shortBranch_40 (by decide) ?_
  obtain ⟨q13, s14, hq, h⟩ := nd_b2_e h
  have hPc : va_P (dC, dI) vwCl (dw_P a ac ()) H := nd_p0
  have hDc : va_D A (dw_P a ac ()) := nd_d0
  have hKc : va_K (dC, dI) vwCl (dk_P ac) s := nd_y0 hK
  have hFc : ∀ q, va_A (dw_P a ac ()) H.size q → A q := nd_r0 hS hA
  refine nd_cSi (As := [.int v0, .int 5, .int 5, .int 2]) (rest := [.int (((q1 ||| q4) ||| q7) ||| q10)]) (q := q13) (w' := dw_P a ac s14) ⟨hx, hb, hml, hown, hts⟩ (fun sz => dm_X13_bits l hlt dC dI a ac n (v0) (5) (5) (2) () hq sz) (cwS 4 hts gi_dm_X13_shortBranch_0 rfl rfl rfl (by decide +kernel) ⟨Nat.le_of_ble_eq_true rfl, Nat.le_of_ble_eq_true rfl⟩) hPc hDc hKc hS hA hN rfl hl.1 rfl (Nat.le_of_ble_eq_true rfl) dX13_shortBranch_41 (fun H locs hP1 hD1 hk1 hS => ?_)
  have hP := nd_n0 hP hk1
  refine lv_ior hx hb dX13_shortBranch_44 ?_
  exact K _ _ _ _ _ _ dX13_shortBranch_45 rfl (Option.some.inj h).symm hP hD hS
set_option maxHeartbeats 40000000 in
set_option maxRecDepth 100000 in
theorem dm_X13_shortBranch (l : Launch) (hlt : l.stackTraces = false) (dC : Nat → ClassId) (dI : Nat → Nat → Nat) (a : Nat → Nat) (ac : Nat → ClassId) (n : Nat) (v0 : Int32) (s0 : Unit) {r : Int32 × (Unit)} (h : df_X13_shortBranch n v0 s0 = some r) (sz : Nat) : Met l yX13_shortBranch ow_dm_X13_shortBranch ({ frames := 1, cells := 0, slots := 0, locals := 23 }) (va_Pc [.int v0] (fun U => U.heap.size = sz ∧ va_P (dC, dI) vwCl (dw_P a ac s0) U.heap ∧ va_K (dC, dI) vwCl (dk_P ac) U ∧ va_D (fun _ => True) (dw_P a ac s0) ∧ nv_E (va_A (dw_P a ac s0) sz) U)) (va_Qi (fun x _ => x = r.1) (fun (_ : Unit) t => va_P (dC, dI) vwCl (dw_P a ac r.2) t.heap ∧ va_K (dC, dI) vwCl (dk_P ac) t ∧ va_D (va_A (dw_P a ac s0) sz) (dw_P a ac r.2)) (va_A (dw_P a ac s0) sz)) 0 0 (va_A (dw_P a ac s0) sz) := by
  refine Met.ofW (cc := cX13_shortBranch) (maxL := 1) (ret := (some .int)) (by decide) rfl ?_
  intro p e s m args below meth c s₁ B hml hv
  obtain ⟨rfl, hsz, hP, hK, hD0, hN⟩ := hv
  have hx := B.exec
  have hb := B.bytes
  have hr := B.returns
  have hts := atoms_spec (ws := ow_dm_X13_shortBranch) B.pre
  have hown : s.vm.findClass RX13 = some m.cls := findClass_of_methodNamed B.named
  have hlocks := B.notSynchronized
  subst hsz
  have hD := hD0.self (sz := s.heap.size)
  generalize hAe : va_A (dw_P a ac s0) s.heap.size = A at hD hN ⊢
  have hA : ∀ q : Nat, s.heap.size ≤ q → A q := fun q h => by rw [← hAe]; exact Or.inr h
  have hl := lv_entry ([.int v0]) (n := 1) (Nat.le_of_ble_eq_true rfl)
  rw [lg_entry_eq]
  generalize (lg_sl ([.int v0]) ++ List.replicate (1 - (lg_sl ([.int v0])).length) Slot.unset).toArray = ls at hl ⊢
  have hl : lv_has ls 1 [(0, .int v0)] := hl
  exact db_X13_shortBranch_0 (dC := dC) (dI := dI) (a := a) (ac := ac) (n := n) (r := r) ⟨hlt, hx, hb, hml, hown, hts, hN, hA, hK⟩ (fun pc v τ H locs ls d z er hP hD hS => by subst er; exact W.zret (v := v) hx hb hr z (fun t ht hW => ⟨⟨v, (), rfl, rfl, by rw [ht]; exact hP, va_K.moved hW.alike hK, hD⟩, hS.F ht⟩) hS.2.2 d) v0 s0 _ _ _ h hP hD va_S.rf (lv_sub hl [0] rfl)
def ow_dm_X13_six : List Cond := .code yX13_six cX13_six 1 (some .int) :: ([.methodLink RX13 550 yX13_bits, .static yX13_bits, .initialized RX13] ++ (ow_dm_X13_bits ++ []))
theorem gd_dm_X13_six : ∀ w ∈ ow_dm_X13_six, (w.onTables && w.keeps) = true ∨ ∃ ty, w = Cond.arrayClass ty := List.forall_mem_cons.mpr ⟨good_of_word rfl, List.forall_mem_append.mpr ⟨fun w h => good_of_word (List.all_eq_true.mp (by decide +kernel) w h), List.forall_mem_append.mpr ⟨gd_dm_X13_bits, fun _ h => nomatch h⟩⟩⟩
theorem gi_dm_X13_six_0 : GoodIn ow_dm_X13_six (wsS RX13 550 yX13_bits ow_dm_X13_bits) := goodIn_app (goodIn_of _ (by decide +kernel)) (fun w h => ⟨List.mem_cons_of_mem _ (List.mem_append_right _ (List.mem_append_left _ h)), gd_dm_X13_bits w h⟩)
def dj_X13_six_0 (p : Program) (l : Launch) (e : Env) (s : State) (m : MethodId) (args : Array Value) (below : List Frame) (meth : Method) (c : Code) (Q : State → Prop) (A : Nat → Prop) (dC : Nat → ClassId) (dI : Nat → Nat → Nat) (a : Nat → Nat) (ac : Nat → ClassId) (g : Int32 → (Unit) → Option (Int32 × (Unit))) (r : Int32 × (Unit)) : Prop := ∀ (v0 : Int32) (s0 : Unit) (H : Heap) (locs : List Loc) (ls : Array Slot), g v0 s0 = some r → va_P (dC, dI) vwCl (dw_P a ac s0) H → va_D A (dw_P a ac s0) → va_S A s.heap H locs → lv_has ls 1 [(0, .int v0)] → W p l e (headSpec ow_dm_X13_six ({ frames := 1, cells := 0, slots := 0, locals := 23 })).room s m args below meth c H locs 0 0 Q (F0 m 0 ls [])
set_option maxHeartbeats 40000000 in
set_option maxRecDepth 100000 in
theorem db_X13_six_0 {p : Program} {l : Launch} {e : Env} {s : State} {m : MethodId} {args : Array Value} {below : List Frame} {meth : Method} {c : Code} {Q : State → Prop} {A : Nat → Prop} {dC : Nat → ClassId} {dI : Nat → Nat → Nat} {a : Nat → Nat} {ac : Nat → ClassId} {n : Nat} {r : Int32 × (Unit)} (C : nd_C p l s m args c A (dC, dI) cX13_six 1 RX13 ow_dm_X13_six (dk_P ac)) (K : nd_Ki p l e (headSpec ow_dm_X13_six ({ frames := 1, cells := 0, slots := 0, locals := 23 })).room s m args below meth c Q A (dC, dI) cX13_six .int (Unit) (dw_P a ac) r) : dj_X13_six_0 p l e s m args below meth c Q A dC dI a ac (df_X13_six_0 n) r := by
  obtain ⟨hlt, hx, hb, hml, hown, hts, hN, hA, hK⟩ := id C
  intro v0 s0 H locs ls h hP hD hS hl
  unfold df_X13_six_0 at h
  refine lv_iload_n hx hb dX13_six_0 rfl (lv_at hl 0 rfl) ?_
  refine lv_iconst (v := 5) hx hb dX13_six_1 (by decide) ?_
  refine lv_iconst (v := 5) hx hb dX13_six_2 (by decide) ?_
  refine lv_bipush (v := 12) hx hb dX13_six_3 (by decide) ?_
  obtain ⟨q1, s2, hq, h⟩ := nd_b2_e h
  have hPc : va_P (dC, dI) vwCl (dw_P a ac ()) H := nd_p0
  have hDc : va_D A (dw_P a ac ()) := nd_d0
  have hKc : va_K (dC, dI) vwCl (dk_P ac) s := nd_y0 hK
  have hFc : ∀ q, va_A (dw_P a ac ()) H.size q → A q := nd_r0 hS hA
  refine nd_cSi (As := [.int v0, .int 5, .int 5, .int 12]) (rest := []) (q := q1) (w' := dw_P a ac s2) ⟨hx, hb, hml, hown, hts⟩ (fun sz => dm_X13_bits l hlt dC dI a ac n (v0) (5) (5) (12) () hq sz) (cwS 4 hts gi_dm_X13_six_0 rfl rfl rfl (by decide +kernel) ⟨Nat.le_of_ble_eq_true rfl, Nat.le_of_ble_eq_true rfl⟩) hPc hDc hKc hS hA hN rfl hl.1 rfl (Nat.le_of_ble_eq_true rfl) dX13_six_5 (fun H locs hP1 hD1 hk1 hS => ?_)
  have hP := nd_n0 hP hk1
  refine lv_iload_n hx hb dX13_six_8 rfl (lv_at hl 0 rfl) ?_
  refine lv_iconst (v := 4) hx hb dX13_six_9 (by decide) ?_
  refine lv_iconst (v := 0) hx hb dX13_six_10 (by decide) ?_
  refine lv_iconst (v := 2) hx hb dX13_six_11 (by decide) ?_
  obtain ⟨q4, s5, hq, h⟩ := nd_b2_e h
  have hPc : va_P (dC, dI) vwCl (dw_P a ac ()) H := nd_p0
  have hDc : va_D A (dw_P a ac ()) := nd_d0
  have hKc : va_K (dC, dI) vwCl (dk_P ac) s := nd_y0 hK
  have hFc : ∀ q, va_A (dw_P a ac ()) H.size q → A q := nd_r0 hS hA
  refine nd_cSi (As := [.int v0, .int 4, .int 0, .int 2]) (rest := [.int q1]) (q := q4) (w' := dw_P a ac s5) ⟨hx, hb, hml, hown, hts⟩ (fun sz => dm_X13_bits l hlt dC dI a ac n (v0) (4) (0) (2) () hq sz) (cwS 4 hts gi_dm_X13_six_0 rfl rfl rfl (by decide +kernel) ⟨Nat.le_of_ble_eq_true rfl, Nat.le_of_ble_eq_true rfl⟩) hPc hDc hKc hS hA hN rfl hl.1 rfl (Nat.le_of_ble_eq_true rfl) dX13_six_12 (fun H locs hP1 hD1 hk1 hS => ?_)
  have hP := nd_n0 hP hk1
  refine lv_ior hx hb dX13_six_15 ?_
  exact K _ _ _ _ _ _ dX13_six_16 rfl (Option.some.inj h).symm hP hD hS
set_option maxHeartbeats 40000000 in
set_option maxRecDepth 100000 in
theorem dm_X13_six (l : Launch) (hlt : l.stackTraces = false) (dC : Nat → ClassId) (dI : Nat → Nat → Nat) (a : Nat → Nat) (ac : Nat → ClassId) (n : Nat) (v0 : Int32) (s0 : Unit) {r : Int32 × (Unit)} (h : df_X13_six n v0 s0 = some r) (sz : Nat) : Met l yX13_six ow_dm_X13_six ({ frames := 1, cells := 0, slots := 0, locals := 23 }) (va_Pc [.int v0] (fun U => U.heap.size = sz ∧ va_P (dC, dI) vwCl (dw_P a ac s0) U.heap ∧ va_K (dC, dI) vwCl (dk_P ac) U ∧ va_D (fun _ => True) (dw_P a ac s0) ∧ nv_E (va_A (dw_P a ac s0) sz) U)) (va_Qi (fun x _ => x = r.1) (fun (_ : Unit) t => va_P (dC, dI) vwCl (dw_P a ac r.2) t.heap ∧ va_K (dC, dI) vwCl (dk_P ac) t ∧ va_D (va_A (dw_P a ac s0) sz) (dw_P a ac r.2)) (va_A (dw_P a ac s0) sz)) 0 0 (va_A (dw_P a ac s0) sz) := by
  refine Met.ofW (cc := cX13_six) (maxL := 1) (ret := (some .int)) (by decide) rfl ?_
  intro p e s m args below meth c s₁ B hml hv
  obtain ⟨rfl, hsz, hP, hK, hD0, hN⟩ := hv
  have hx := B.exec
  have hb := B.bytes
  have hr := B.returns
  have hts := atoms_spec (ws := ow_dm_X13_six) B.pre
  have hown : s.vm.findClass RX13 = some m.cls := findClass_of_methodNamed B.named
  have hlocks := B.notSynchronized
  subst hsz
  have hD := hD0.self (sz := s.heap.size)
  generalize hAe : va_A (dw_P a ac s0) s.heap.size = A at hD hN ⊢
  have hA : ∀ q : Nat, s.heap.size ≤ q → A q := fun q h => by rw [← hAe]; exact Or.inr h
  have hl := lv_entry ([.int v0]) (n := 1) (Nat.le_of_ble_eq_true rfl)
  rw [lg_entry_eq]
  generalize (lg_sl ([.int v0]) ++ List.replicate (1 - (lg_sl ([.int v0])).length) Slot.unset).toArray = ls at hl ⊢
  have hl : lv_has ls 1 [(0, .int v0)] := hl
  exact db_X13_six_0 (dC := dC) (dI := dI) (a := a) (ac := ac) (n := n) (r := r) ⟨hlt, hx, hb, hml, hown, hts, hN, hA, hK⟩ (fun pc v τ H locs ls d z er hP hD hS => by subst er; exact W.zret (v := v) hx hb hr z (fun t ht hW => ⟨⟨v, (), rfl, rfl, by rw [ht]; exact hP, va_K.moved hW.alike hK, hD⟩, hS.F ht⟩) hS.2.2 d) v0 s0 _ _ _ h hP hD va_S.rf (lv_sub hl [0] rfl)
def ow_dm_X13_level : List Cond := .code yX13_level cX13_level 1 (some .int) :: ([.fieldLink RX13 328 "TimeMachineModel$Assembler" "place" "[I", .fieldLink RX13 454 "TimeMachineModel$Assembler" "current" "I"] ++ (u_ws RX13 TX13 37 ++ []))
theorem gd_dm_X13_level : ∀ w ∈ ow_dm_X13_level, (w.onTables && w.keeps) = true ∨ ∃ ty, w = Cond.arrayClass ty := List.forall_mem_cons.mpr ⟨good_of_word rfl, List.forall_mem_append.mpr ⟨fun w h => good_of_word (List.all_eq_true.mp (by decide +kernel) w h), List.forall_mem_append.mpr ⟨gu_X13, fun _ h => nomatch h⟩⟩⟩
theorem hi_dm_X13_level_X13 : ∀ w ∈ u_ws RX13 TX13 37, w ∈ ow_dm_X13_level := fun w h => List.mem_cons_of_mem _ (List.mem_append_right _ (List.mem_append_left _ h))
def dj_X13_level_0 (p : Program) (l : Launch) (e : Env) (s : State) (m : MethodId) (args : Array Value) (below : List Frame) (meth : Method) (c : Code) (Q : State → Prop) (A : Nat → Prop) (dC : Nat → ClassId) (dI : Nat → Nat → Nat) (a : Nat → Nat) (ac : Nat → ClassId) (g : (St) → Option (Int32 × (St))) (r : Int32 × (St)) : Prop := ∀ (s0 : St) (H : Heap) (locs : List Loc) (ls : Array Slot), g s0 = some r → va_P (dC, dI) vwCl (dw_X13 a ac s0) H → va_D A (dw_X13 a ac s0) → va_S A s.heap H locs → lv_has ls 1 [(0, .ref (a 0))] → W p l e (headSpec ow_dm_X13_level ({ frames := 0, cells := 0, slots := 0, locals := 0 })).room s m args below meth c H locs 0 0 Q (F0 m 0 ls [])
set_option maxHeartbeats 40000000 in
set_option maxRecDepth 100000 in
theorem db_X13_level_0 {p : Program} {l : Launch} {e : Env} {s : State} {m : MethodId} {args : Array Value} {below : List Frame} {meth : Method} {c : Code} {Q : State → Prop} {A : Nat → Prop} {dC : Nat → ClassId} {dI : Nat → Nat → Nat} {a : Nat → Nat} {ac : Nat → ClassId} {n : Nat} {r : Int32 × (St)} (C : nd_C p l s m args c A (dC, dI) cX13_level 1 RX13 ow_dm_X13_level (dk_X13 ac)) (K : nd_Ki p l e (headSpec ow_dm_X13_level ({ frames := 0, cells := 0, slots := 0, locals := 0 })).room s m args below meth c Q A (dC, dI) cX13_level .int (St) (dw_X13 a ac) r) : dj_X13_level_0 p l e s m args below meth c Q A dC dI a ac (df_X13_level_0 n) r := by
  obtain ⟨hlt, hx, hb, hml, hown, hts, hN, hA, hK⟩ := id C
  intro s0 H locs ls h hP hD hS hl
  unfold df_X13_level_0 at h
  refine lv_aload_n hx hb dX13_level_0 rfl (lv_at hl 0 rfl) ?_
  refine va_get (D := (dC, dI)) (ci := 14) (v := .ref (a 5)) (C := RX13) (T := TX13) (N := 37) hx hb hts hi_dm_X13_level_X13 hown hK hP 0 rfl rfl 7 (by decide) (hts (.fieldLink RX13 328 "TimeMachineModel$Assembler" "place" "[I") (List.mem_of_getElem? (i := 1) rfl)) (fun _ h9 => h9) rfl dX13_level_1 ?_
  refine lv_aload_n hx hb dX13_level_4 rfl (lv_at hl 0 rfl) ?_
  refine va_get (D := (dC, dI)) (ci := 14) (v := .int (sI s0 16)) (C := RX13) (T := TX13) (N := 37) hx hb hts hi_dm_X13_level_X13 hown hK hP 0 rfl rfl 25 (by decide) (hts (.fieldLink RX13 454 "TimeMachineModel$Assembler" "current" "I") (List.mem_of_getElem? (i := 2) rfl)) (fun _ h9 => h9) rfl dX13_level_5 ?_
  obtain ⟨i1, h⟩ := nd_ck_e h
  refine va_iald (i := (sI s0 16)) hx hb hK hP 5 4 rfl rfl i1 dX13_level_8 ?_
  refine lv_bipush (v := 17) hx hb dX13_level_9 (by decide) ?_
  refine lv_ishr hx hb dX13_level_11 ?_
  refine lv_iconst (v := 3) hx hb dX13_level_12 (by decide) ?_
  refine lv_iand hx hb dX13_level_13 ?_
  exact K _ _ _ _ _ _ dX13_level_14 rfl (Option.some.inj h).symm hP hD hS
set_option maxHeartbeats 40000000 in
set_option maxRecDepth 100000 in
theorem dm_X13_level (l : Launch) (hlt : l.stackTraces = false) (dC : Nat → ClassId) (dI : Nat → Nat → Nat) (a : Nat → Nat) (ac : Nat → ClassId) (n : Nat) (s0 : St) {r : Int32 × (St)} (h : df_X13_level n s0 = some r) (sz : Nat) : Met l yX13_level ow_dm_X13_level ({ frames := 0, cells := 0, slots := 0, locals := 0 }) (va_Pc [.ref (a 0)] (fun U => U.heap.size = sz ∧ va_P (dC, dI) vwCl (dw_X13 a ac s0) U.heap ∧ va_K (dC, dI) vwCl (dk_X13 ac) U ∧ va_D (fun _ => True) (dw_X13 a ac s0) ∧ nv_E (va_A (dw_X13 a ac s0) sz) U)) (va_Qi (fun x _ => x = r.1) (fun (_ : Unit) t => va_P (dC, dI) vwCl (dw_X13 a ac r.2) t.heap ∧ va_K (dC, dI) vwCl (dk_X13 ac) t ∧ va_D (va_A (dw_X13 a ac s0) sz) (dw_X13 a ac r.2)) (va_A (dw_X13 a ac s0) sz)) 0 0 (va_A (dw_X13 a ac s0) sz) := by
  refine Met.ofW (cc := cX13_level) (maxL := 1) (ret := (some .int)) (by decide) rfl ?_
  intro p e s m args below meth c s₁ B hml hv
  obtain ⟨rfl, hsz, hP, hK, hD0, hN⟩ := hv
  have hx := B.exec
  have hb := B.bytes
  have hr := B.returns
  have hts := atoms_spec (ws := ow_dm_X13_level) B.pre
  have hown : s.vm.findClass RX13 = some m.cls := findClass_of_methodNamed B.named
  have hlocks := B.notSynchronized
  subst hsz
  have hD := hD0.self (sz := s.heap.size)
  generalize hAe : va_A (dw_X13 a ac s0) s.heap.size = A at hD hN ⊢
  have hA : ∀ q : Nat, s.heap.size ≤ q → A q := fun q h => by rw [← hAe]; exact Or.inr h
  have hl := lv_entry ([.ref (a 0)]) (n := 1) (Nat.le_of_ble_eq_true rfl)
  rw [lg_entry_eq]
  generalize (lg_sl ([.ref (a 0)]) ++ List.replicate (1 - (lg_sl ([.ref (a 0)])).length) Slot.unset).toArray = ls at hl ⊢
  have hl : lv_has ls 1 [(0, .ref (a 0))] := hl
  exact db_X13_level_0 (dC := dC) (dI := dI) (a := a) (ac := ac) (n := n) (r := r) ⟨hlt, hx, hb, hml, hown, hts, hN, hA, hK⟩ (fun pc v τ H locs ls d z er hP hD hS => by subst er; exact W.zret (v := v) hx hb hr z (fun t ht hW => ⟨⟨v, (), rfl, rfl, by rw [ht]; exact hP, va_K.moved hW.alike hK, hD⟩, hS.F ht⟩) hS.2.2 d) s0 _ _ _ h hP hD va_S.rf (lv_sub hl [0] rfl)
