def ow_dm_X13_assemble : List Cond := Cond.code yX13_assemble cX13_assemble 4 (some .int) :: ([Cond.fieldLink RX13 347 "TimeMachineModel$Assembler" "size" "I", Cond.fieldLink RX13 410 "TimeMachineModel$Assembler" "fault" "I", Cond.fieldLink RX13 704 "TimeMachineModel$Assembler" "there" "Z", Cond.methodLink RX13 707 yX13_readAll, Cond.instanceMethod yX13_readAll, Cond.selects RX13 yX13_readAll yX13_readAll, Cond.initialized RX13, Cond.methodLink RX13 710 yX13_stretch, Cond.instanceMethod yX13_stretch, Cond.selects RX13 yX13_stretch yX13_stretch, Cond.methodLink RX13 713 yX13_all, Cond.instanceMethod yX13_all, Cond.selects RX13 yX13_all yX13_all, Cond.constant RX13 640 (32768), Cond.fieldLink RX13 673 "TimeMachineModel$Assembler" "statements" "I", Cond.fieldLink RX13 328 "TimeMachineModel$Assembler" "place" "[I", Cond.constant RX13 442 (131071), Cond.methodLink RX13 716 yX13_lineOf, Cond.instanceMethod yX13_lineOf, Cond.selects RX13 yX13_lineOf yX13_lineOf, Cond.fieldLink RX13 413 "TimeMachineModel$Assembler" "line" "I", Cond.methodLink RX13 700 yX13_again, Cond.instanceMethod yX13_again, Cond.selects RX13 yX13_again yX13_again, Cond.fieldLink RX13 324 "TimeMachineModel$Assembler" "text" "[C"] ++ (u_ws RX13 TX13 37 ++ (ow_dm_X13_readAll ++ (ow_dm_X13_stretch ++ (ow_dm_X13_all ++ (ow_dm_X13_lineOf ++ (ow_dm_X13_again ++ [])))))))
theorem gd_dm_X13_assemble : ∀ w ∈ ow_dm_X13_assemble, (w.onTables && w.keeps) = true ∨ ∃ ty, w = Cond.arrayClass ty := List.forall_mem_cons.mpr ⟨good_of_word rfl, List.forall_mem_append.mpr ⟨fun w h => good_of_word (List.all_eq_true.mp (by decide +kernel) w h), List.forall_mem_append.mpr ⟨gu_X13, List.forall_mem_append.mpr ⟨gd_dm_X13_readAll, List.forall_mem_append.mpr ⟨gd_dm_X13_stretch, List.forall_mem_append.mpr ⟨gd_dm_X13_all, List.forall_mem_append.mpr ⟨gd_dm_X13_lineOf, List.forall_mem_append.mpr ⟨gd_dm_X13_again, fun _ h => nomatch h⟩⟩⟩⟩⟩⟩⟩⟩
theorem hi_dm_X13_assemble_X13 : ∀ w ∈ u_ws RX13 TX13 37, w ∈ ow_dm_X13_assemble := fun w h => List.mem_cons_of_mem _ (List.mem_append_right _ (List.mem_append_left _ h))
theorem gi_dm_X13_assemble_0 : GoodIn ow_dm_X13_assemble (wsV RX13 707 RX13 yX13_readAll ow_dm_X13_readAll) := goodIn_app (goodIn_of _ (by decide +kernel)) (fun w h => ⟨List.mem_cons_of_mem _ (List.mem_append_right _ (List.mem_append_right _ (List.mem_append_left _ h))), gd_dm_X13_readAll w h⟩)
theorem gi_dm_X13_assemble_1 : GoodIn ow_dm_X13_assemble (wsV RX13 710 RX13 yX13_stretch ow_dm_X13_stretch) := goodIn_app (goodIn_of _ (by decide +kernel)) (fun w h => ⟨List.mem_cons_of_mem _ (List.mem_append_right _ (List.mem_append_right _ (List.mem_append_right _ (List.mem_append_left _ h)))), gd_dm_X13_stretch w h⟩)
theorem gi_dm_X13_assemble_2 : GoodIn ow_dm_X13_assemble (wsV RX13 713 RX13 yX13_all ow_dm_X13_all) := goodIn_app (goodIn_of _ (by decide +kernel)) (fun w h => ⟨List.mem_cons_of_mem _ (List.mem_append_right _ (List.mem_append_right _ (List.mem_append_right _ (List.mem_append_right _ (List.mem_append_left _ h))))), gd_dm_X13_all w h⟩)
theorem gi_dm_X13_assemble_3 : GoodIn ow_dm_X13_assemble (wsV RX13 716 RX13 yX13_lineOf ow_dm_X13_lineOf) := goodIn_app (goodIn_of _ (by decide +kernel)) (fun w h => ⟨List.mem_cons_of_mem _ (List.mem_append_right _ (List.mem_append_right _ (List.mem_append_right _ (List.mem_append_right _ (List.mem_append_right _ (List.mem_append_left _ h)))))), gd_dm_X13_lineOf w h⟩)
theorem gi_dm_X13_assemble_4 : GoodIn ow_dm_X13_assemble (wsV RX13 700 RX13 yX13_again ow_dm_X13_again) := goodIn_app (goodIn_of _ (by decide +kernel)) (fun w h => ⟨List.mem_cons_of_mem _ (List.mem_append_right _ (List.mem_append_right _ (List.mem_append_right _ (List.mem_append_right _ (List.mem_append_right _ (List.mem_append_right _ (List.mem_append_left _ h))))))), gd_dm_X13_again w h⟩)
def dj_X13_assemble_142 (p : Program) (l : Launch) (e : Env) (s : State) (m : MethodId) (args : Array Value) (below : List Frame) (meth : Method) (c : Code) (Q : State → Prop) (A : Nat → Prop) (dC : Nat → ClassId) (dI : Nat → Nat → Nat) (a : Nat → Nat) (ac : Nat → ClassId) (g : Int32 → (St × (St)) → Option (Int32 × (St × (St)))) (r : Int32 × (St × (St))) : Prop := ∀ (y1 : Int32) (s0 : St × (St)) (H : Heap) (locs : List Loc) (ls : Array Slot), g y1 s0 = some r → va_P (dC, dI) vwCl (dw_X13t a ac s0) H → va_D A (dw_X13t a ac s0) → va_S A s.heap H locs → lv_has ls 4 [(0, .ref (a 1))] → W p l e (headSpec ow_dm_X13_assemble ({ frames := 14, cells := 0, slots := 0, locals := 331 })).room s m args below meth c H locs 0 0 Q (F0 m 142 ls [.int y1, .ref (a 1)])
def dj_X13_assemble_129 (p : Program) (l : Launch) (e : Env) (s : State) (m : MethodId) (args : Array Value) (below : List Frame) (meth : Method) (c : Code) (Q : State → Prop) (A : Nat → Prop) (dC : Nat → ClassId) (dI : Nat → Nat → Nat) (a : Nat → Nat) (ac : Nat → ClassId) (g : (St × (St)) → Option (Int32 × (St × (St)))) (r : Int32 × (St × (St))) : Prop := ∀ (s0 : St × (St)) (H : Heap) (locs : List Loc) (ls : Array Slot), g s0 = some r → va_P (dC, dI) vwCl (dw_X13t a ac s0) H → va_D A (dw_X13t a ac s0) → va_S A s.heap H locs → lv_has ls 4 [(0, .ref (a 1))] → W p l e (headSpec ow_dm_X13_assemble ({ frames := 14, cells := 0, slots := 0, locals := 331 })).room s m args below meth c H locs 0 0 Q (F0 m 129 ls [])
def dj_X13_assemble_84 (p : Program) (l : Launch) (e : Env) (s : State) (m : MethodId) (args : Array Value) (below : List Frame) (meth : Method) (c : Code) (Q : State → Prop) (A : Nat → Prop) (dC : Nat → ClassId) (dI : Nat → Nat → Nat) (a : Nat → Nat) (ac : Nat → ClassId) (g : Int32 → (St × (St)) → Option (Int32 × (St × (St)))) (r : Int32 × (St × (St))) : Prop := ∀ (x3 : Int32) (s0 : St × (St)) (H : Heap) (locs : List Loc) (ls : Array Slot), g x3 s0 = some r → va_P (dC, dI) vwCl (dw_X13t a ac s0) H → va_D A (dw_X13t a ac s0) → va_S A s.heap H locs → lv_has ls 4 [(0, .ref (a 1)), (3, .int x3)] → W p l e (headSpec ow_dm_X13_assemble ({ frames := 14, cells := 0, slots := 0, locals := 331 })).room s m args below meth c H locs 0 0 Q (F0 m 84 ls [])
def dj_X13_assemble_82 (p : Program) (l : Launch) (e : Env) (s : State) (m : MethodId) (args : Array Value) (below : List Frame) (meth : Method) (c : Code) (Q : State → Prop) (A : Nat → Prop) (dC : Nat → ClassId) (dI : Nat → Nat → Nat) (a : Nat → Nat) (ac : Nat → ClassId) (g : (St × (St)) → Option (Int32 × (St × (St)))) (r : Int32 × (St × (St))) : Prop := ∀ (s0 : St × (St)) (H : Heap) (locs : List Loc) (ls : Array Slot), g s0 = some r → va_P (dC, dI) vwCl (dw_X13t a ac s0) H → va_D A (dw_X13t a ac s0) → va_S A s.heap H locs → lv_has ls 4 [(0, .ref (a 1))] → W p l e (headSpec ow_dm_X13_assemble ({ frames := 14, cells := 0, slots := 0, locals := 331 })).room s m args below meth c H locs 0 0 Q (F0 m 82 ls [])
def dj_X13_assemble_7 (p : Program) (l : Launch) (e : Env) (s : State) (m : MethodId) (args : Array Value) (below : List Frame) (meth : Method) (c : Code) (Q : State → Prop) (A : Nat → Prop) (dC : Nat → ClassId) (dI : Nat → Nat → Nat) (a : Nat → Nat) (ac : Nat → ClassId) (g : Int32 → (St × (St)) → Option (Int32 × (St × (St)))) (r : Int32 × (St × (St))) : Prop := ∀ (x3 : Int32) (s0 : St × (St)) (H : Heap) (locs : List Loc) (ls : Array Slot), g x3 s0 = some r → va_P (dC, dI) vwCl (dw_X13t a ac s0) H → va_D A (dw_X13t a ac s0) → va_S A s.heap H locs → lv_has ls 4 [(0, .ref (a 1)), (1, .ref (a 0)), (3, .int x3)] → W p l e (headSpec ow_dm_X13_assemble ({ frames := 14, cells := 0, slots := 0, locals := 331 })).room s m args below meth c H locs 0 0 Q (F0 m 7 ls [])
def dj_X13_assemble_0 (p : Program) (l : Launch) (e : Env) (s : State) (m : MethodId) (args : Array Value) (below : List Frame) (meth : Method) (c : Code) (Q : State → Prop) (A : Nat → Prop) (dC : Nat → ClassId) (dI : Nat → Nat → Nat) (a : Nat → Nat) (ac : Nat → ClassId) (g : Int32 → (St × (St)) → Option (Int32 × (St × (St)))) (r : Int32 × (St × (St))) : Prop := ∀ (v1 : Int32) (s0 : St × (St)) (H : Heap) (locs : List Loc) (ls : Array Slot), g v1 s0 = some r → va_P (dC, dI) vwCl (dw_X13t a ac s0) H → va_D A (dw_X13t a ac s0) → va_S A s.heap H locs → lv_has ls 4 [(0, .ref (a 1)), (1, .ref (a 0)), (2, .int v1)] → W p l e (headSpec ow_dm_X13_assemble ({ frames := 14, cells := 0, slots := 0, locals := 331 })).room s m args below meth c H locs 0 0 Q (F0 m 0 ls [])
set_option maxHeartbeats 40000000 in
set_option maxRecDepth 100000 in
theorem db_X13_assemble_142 {p : Program} {l : Launch} {e : Env} {s : State} {m : MethodId} {args : Array Value} {below : List Frame} {meth : Method} {c : Code} {Q : State → Prop} {A : Nat → Prop} {dC : Nat → ClassId} {dI : Nat → Nat → Nat} {a : Nat → Nat} {ac : Nat → ClassId} {n : Nat} {r : Int32 × (St × (St))} (C : nd_C p l s m args c A (dC, dI) cX13_assemble 4 RX13 ow_dm_X13_assemble (dk_X13t ac)) (K : nd_Ki p l e (headSpec ow_dm_X13_assemble ({ frames := 14, cells := 0, slots := 0, locals := 331 })).room s m args below meth c Q A (dC, dI) cX13_assemble .int (St × (St)) (dw_X13t a ac) r) : dj_X13_assemble_142 p l e s m args below meth c Q A dC dI a ac (df_X13_assemble_142 n) r := by
  obtain ⟨hlt, hx, hb, hml, hown, hts, hN, hA, hK⟩ := id C
  intro y1 s0 H locs ls h hP hD hS hl
  unfold df_X13_assemble_142 at h
  obtain ⟨n22, h⟩ := nd_f_e h
  obtain ⟨n23, h⟩ := nd_z_e ⟨_, rfl⟩ h
  refine va_put (D := (dC, dI)) (ci := 14) (v := .int y1) (ty := .boolean) (C := RX13) (T := TX13) (N := 37) hx hb hts hi_dm_X13_assemble_X13 tyX13 tyX13_ok nmX13 hown hK hP hD hS 1 rfl rfl 5 (by decide) (hts (.fieldLink RX13 704 "TimeMachineModel$Assembler" "there" "Z") (List.mem_of_getElem? (i := 3) rfl)) (fun _ h9 => h9) rfl (by decide +kernel) n23 n22 (Nat.le_of_ble_eq_true rfl) dX13_assemble_142 (fun H locs hP hD hS => ?_)
  obtain ⟨s24, es24, h⟩ := nd_let_e h
  have hP : va_P (dC, dI) vwCl (dw_X13t a ac s24) H := by rw [es24]; exact hP
  have hD : va_D A (dw_X13t a ac s24) := by rw [es24]; exact hD
  refine lv_aload_n hx hb dX13_assemble_145 rfl (lv_at hl 0 rfl) ?_
  refine va_get (D := (dC, dI)) (ci := 14) (v := .int (sI s24.2 12)) (C := RX13) (T := TX13) (N := 37) hx hb hts hi_dm_X13_assemble_X13 hown hK hP 1 rfl rfl 21 (by decide) (hts (.fieldLink RX13 410 "TimeMachineModel$Assembler" "fault" "I") (List.mem_of_getElem? (i := 2) rfl)) (fun _ h9 => h9) rfl dX13_assemble_146 ?_
  exact K _ _ _ _ _ _ dX13_assemble_149 rfl (Option.some.inj h).symm hP hD hS
set_option maxHeartbeats 40000000 in
set_option maxRecDepth 100000 in
theorem db_X13_assemble_129 {p : Program} {l : Launch} {e : Env} {s : State} {m : MethodId} {args : Array Value} {below : List Frame} {meth : Method} {c : Code} {Q : State → Prop} {A : Nat → Prop} {dC : Nat → ClassId} {dI : Nat → Nat → Nat} {a : Nat → Nat} {ac : Nat → ClassId} {n : Nat} {r : Int32 × (St × (St))} (C : nd_C p l s m args c A (dC, dI) cX13_assemble 4 RX13 ow_dm_X13_assemble (dk_X13t ac)) (K : nd_Ki p l e (headSpec ow_dm_X13_assemble ({ frames := 14, cells := 0, slots := 0, locals := 331 })).room s m args below meth c Q A (dC, dI) cX13_assemble .int (St × (St)) (dw_X13t a ac) r) : dj_X13_assemble_129 p l e s m args below meth c Q A dC dI a ac (df_X13_assemble_129 n) r := by
  obtain ⟨hlt, hx, hb, hml, hown, hts, hN, hA, hK⟩ := id C
  intro s0 H locs ls h hP hD hS hl
  unfold df_X13_assemble_129 at h
  refine lv_aload_n hx hb dX13_assemble_129 rfl (lv_at hl 0 rfl) ?_
  refine lv_aload_n hx hb dX13_assemble_130 rfl (lv_at hl 0 rfl) ?_
  refine va_get (D := (dC, dI)) (ci := 14) (v := .int (sI s0.2 12)) (C := RX13) (T := TX13) (N := 37) hx hb hts hi_dm_X13_assemble_X13 hown hK hP 1 rfl rfl 21 (by decide) (hts (.fieldLink RX13 410 "TimeMachineModel$Assembler" "fault" "I") (List.mem_of_getElem? (i := 2) rfl)) (fun _ h9 => h9) rfl dX13_assemble_131 ?_
  refine lv_if_ne (tgt := 141) hx hb dX13_assemble_134 (by decide) (fun c21 => ?_) (fun c21 => ?_)
  · have h := nd_neg h c21
    refine lv_iconst (v := 0) hx hb dX13_assemble_141 (by decide) ?_
    exact (db_X13_assemble_142 C K) (0) s0 _ _ _ h hP hD hS (lv_sub hl [0] rfl)
  · have h := nd_pos h c21
    refine lv_iconst (v := 1) hx hb dX13_assemble_137 (by decide) ?_
    refine lv_goto (tgt := 142) hx hb dX13_assemble_138 (by decide) ?_
    exact (db_X13_assemble_142 C K) (1) s0 _ _ _ h hP hD hS (lv_sub hl [0] rfl)
set_option maxHeartbeats 40000000 in
set_option maxRecDepth 100000 in
theorem dB_X13_assemble_84 {p : Program} {l : Launch} {e : Env} {s : State} {m : MethodId} {args : Array Value} {below : List Frame} {meth : Method} {c : Code} {Q : State → Prop} {A : Nat → Prop} {dC : Nat → ClassId} {dI : Nat → Nat → Nat} {a : Nat → Nat} {ac : Nat → ClassId} {n : Nat} {r : Int32 × (St × (St))} (C : nd_C p l s m args c A (dC, dI) cX13_assemble 4 RX13 ow_dm_X13_assemble (dk_X13t ac)) (K : nd_Ki p l e (headSpec ow_dm_X13_assemble ({ frames := 14, cells := 0, slots := 0, locals := 331 })).room s m args below meth c Q A (dC, dI) cX13_assemble .int (St × (St)) (dw_X13t a ac) r) {g84 : Int32 → (St × (St)) → Option (Int32 × (St × (St)))} (J84 : dj_X13_assemble_84 p l e s m args below meth c Q A dC dI a ac g84 r) : dj_X13_assemble_84 p l e s m args below meth c Q A dC dI a ac (dF_X13_assemble_84 n g84) r := by
  obtain ⟨hlt, hx, hb, hml, hown, hts, hN, hA, hK⟩ := id C
  intro x3 s0 H locs ls h hP hD hS hl
  unfold dF_X13_assemble_84 at h
  refine lv_iload_n hx hb dX13_assemble_84 rfl (lv_at hl 1 rfl) ?_
  refine lv_aload_n hx hb dX13_assemble_85 rfl (lv_at hl 0 rfl) ?_
  refine va_get (D := (dC, dI)) (ci := 14) (v := .int (sI s0.2 2)) (C := RX13) (T := TX13) (N := 37) hx hb hts hi_dm_X13_assemble_X13 hown hK hP 1 rfl rfl 6 (by decide) (hts (.fieldLink RX13 673 "TimeMachineModel$Assembler" "statements" "I") (List.mem_of_getElem? (i := 15) rfl)) (fun _ h9 => h9) rfl dX13_assemble_86 ?_
  refine lv_icmp_ge (tgt := 129) hx hb dX13_assemble_89 (by decide) (fun c20 => ?_) (fun c20 => ?_)
  · have h := nd_pos h c20
    exact (db_X13_assemble_129 C K)  s0 _ _ _ h hP hD hS (lv_sub hl [0] rfl)
  · have h := nd_neg h c20
    refine lv_aload_n hx hb dX13_assemble_92 rfl (lv_at hl 0 rfl) ?_
    refine va_get (D := (dC, dI)) (ci := 14) (v := .int (sI s0.2 12)) (C := RX13) (T := TX13) (N := 37) hx hb hts hi_dm_X13_assemble_X13 hown hK hP 1 rfl rfl 21 (by decide) (hts (.fieldLink RX13 410 "TimeMachineModel$Assembler" "fault" "I") (List.mem_of_getElem? (i := 2) rfl)) (fun _ h9 => h9) rfl dX13_assemble_93 ?_
    refine lv_if_ne (tgt := 129) hx hb dX13_assemble_96 (by decide) (fun c25 => ?_) (fun c25 => ?_)
    · have h := nd_neg h c25
      exact (db_X13_assemble_129 C K)  s0 _ _ _ h hP hD hS (lv_sub hl [0] rfl)
    · have h := nd_pos h c25
      refine lv_aload_n hx hb dX13_assemble_99 rfl (lv_at hl 0 rfl) ?_
      refine lv_aload_n hx hb dX13_assemble_100 rfl (lv_at hl 0 rfl) ?_
      refine lv_aload_n hx hb dX13_assemble_101 rfl (lv_at hl 0 rfl) ?_
      refine va_get (D := (dC, dI)) (ci := 14) (v := .ref (a 6)) (C := RX13) (T := TX13) (N := 37) hx hb hts hi_dm_X13_assemble_X13 hown hK hP 1 rfl rfl 7 (by decide) (hts (.fieldLink RX13 328 "TimeMachineModel$Assembler" "place" "[I") (List.mem_of_getElem? (i := 16) rfl)) (fun _ h9 => h9) rfl dX13_assemble_102 ?_
      refine lv_iload_n hx hb dX13_assemble_105 rfl (lv_at hl 1 rfl) ?_
      obtain ⟨i26, h⟩ := nd_ck_e h
      refine va_iald (i := x3) hx hb hK hP 6 5 rfl rfl i26 dX13_assemble_106 ?_
      refine lv_ldcw hx hb hown (hts (.constant RX13 442 (131071)) (List.mem_of_getElem? (i := 17) rfl)) dX13_assemble_107 ?_
      refine lv_iand hx hb dX13_assemble_110 ?_
      obtain ⟨q27, s28, hq, h⟩ := nd_b2_e h
      have hPc := dp_X13t_1 hP
      have hDc := dd_X13t_1 hD
      have hKc := dy_X13t_1 hK
      have hFc := nd_rs hDc hS hA
      have hzA : ∀ q : Nat, H.size ≤ q → A q := fun q h => hA q (Nat.le_trans hS.1 h)
      refine nd_cVi (As := [.int ((sR s0.2 3 (Int32.toNatClampNeg x3)) &&& 131071)]) (rest := [.ref (a 1)]) (q := q27) (w' := dw_X13 (fun k => a (k + 1)) (fun k => ac (k + 1)) s28) ⟨hx, hb, hml, hown, hts⟩ (fun sz => dm_X13_lineOf l hlt dC dI (fun k => a (k + 1)) (fun k => ac (k + 1)) n (((sR s0.2 3 (Int32.toNatClampNeg x3)) &&& 131071)) s0.2 hq sz) (cwV 1 hts gi_dm_X13_assemble_3 rfl rfl rfl (by decide +kernel) ⟨Nat.le_of_ble_eq_true rfl, Nat.le_of_ble_eq_true rfl⟩) hPc hDc hKc hS hA hN (va_recv hKc hPc (ci := 14) (q0 := 0) rfl rfl) rfl hl.1 rfl (Nat.le_of_ble_eq_true rfl) dX13_assemble_111 (fun H locs hP1 hD1 hk1 hS => ?_)
      obtain ⟨hP, hD⟩ := dn_X13t_1 hP hD hzA hk1 hP1 hD1
      obtain ⟨s30, es30, h⟩ := nd_let_e h
      have hP : va_P (dC, dI) vwCl (dw_X13t a ac s30) H := by rw [es30]; exact hP
      have hD : va_D A (dw_X13t a ac s30) := by rw [es30]; exact hD
      refine va_put (D := (dC, dI)) (ci := 14) (v := .int q27) (ty := .int) (C := RX13) (T := TX13) (N := 37) hx hb hts hi_dm_X13_assemble_X13 tyX13 tyX13_ok nmX13 hown hK hP hD hS 1 rfl rfl 22 (by decide) (hts (.fieldLink RX13 413 "TimeMachineModel$Assembler" "line" "I") (List.mem_of_getElem? (i := 21) rfl)) (fun _ h9 => h9) rfl (by decide +kernel) rfl rfl (Nat.le_of_ble_eq_true rfl) dX13_assemble_114 (fun H locs hP hD hS => ?_)
      obtain ⟨s31, es31, h⟩ := nd_let_e h
      have hP : va_P (dC, dI) vwCl (dw_X13t a ac s31) H := by rw [es31]; exact hP
      have hD : va_D A (dw_X13t a ac s31) := by rw [es31]; exact hD
      refine lv_aload_n hx hb dX13_assemble_117 rfl (lv_at hl 0 rfl) ?_
      refine lv_iload_n hx hb dX13_assemble_118 rfl (lv_at hl 1 rfl) ?_
      refine lv_iconst (v := 2) hx hb dX13_assemble_119 (by decide) ?_
      obtain ⟨s33, hq, h⟩ := nd_b1_e h
      have hPc := dp_X13t_1 hP
      have hDc := dd_X13t_1 hD
      have hKc := dy_X13t_1 hK
      have hFc := nd_rs hDc hS hA
      have hzA : ∀ q : Nat, H.size ≤ q → A q := fun q h => hA q (Nat.le_trans hS.1 h)
      refine nd_cVv (As := [.int x3, .int 2]) (rest := []) (w' := dw_X13 (fun k => a (k + 1)) (fun k => ac (k + 1)) s33) ⟨hx, hb, hml, hown, hts⟩ (fun sz => dm_X13_again l hlt dC dI (fun k => a (k + 1)) (fun k => ac (k + 1)) n (x3) (2) s31.2 hq sz) (cwV 2 hts gi_dm_X13_assemble_4 rfl rfl rfl (by decide +kernel) ⟨Nat.le_of_ble_eq_true rfl, Nat.le_of_ble_eq_true rfl⟩) hPc hDc hKc hS hA hN (va_recv hKc hPc (ci := 14) (q0 := 0) rfl rfl) rfl hl.1 rfl (Nat.le_of_ble_eq_true rfl) dX13_assemble_120 (fun H locs hP1 hD1 hk1 hS => ?_)
      obtain ⟨hP, hD⟩ := dn_X13t_1 hP hD hzA hk1 hP1 hD1
      obtain ⟨s35, es35, h⟩ := nd_let_e h
      have hP : va_P (dC, dI) vwCl (dw_X13t a ac s35) H := by rw [es35]; exact hP
      have hD : va_D A (dw_X13t a ac s35) := by rw [es35]; exact hD
      obtain ⟨z36, ez36, h⟩ := nd_let_e h
      refine lv_iinc (v := z36) (lv' := [(3, .int z36), (0, .ref (a 1))]) hx hb dX13_assemble_123 hl (k := 1) rfl (by rw [ez36]) (by decide) rfl (fun ls hl => ?_)
      refine lv_goto (tgt := 84) hx hb dX13_assemble_126 (by decide) ?_
      exact (J84) (z36) s35 _ _ _ h hP hD hS (lv_sub hl [1, 0] rfl)
set_option maxHeartbeats 40000000 in
set_option maxRecDepth 100000 in
theorem db_X13_assemble_84 {p : Program} {l : Launch} {e : Env} {s : State} {m : MethodId} {args : Array Value} {below : List Frame} {meth : Method} {c : Code} {Q : State → Prop} {A : Nat → Prop} {dC : Nat → ClassId} {dI : Nat → Nat → Nat} {a : Nat → Nat} {ac : Nat → ClassId} {n : Nat} {r : Int32 × (St × (St))} (C : nd_C p l s m args c A (dC, dI) cX13_assemble 4 RX13 ow_dm_X13_assemble (dk_X13t ac)) (K : nd_Ki p l e (headSpec ow_dm_X13_assemble ({ frames := 14, cells := 0, slots := 0, locals := 331 })).room s m args below meth c Q A (dC, dI) cX13_assemble .int (St × (St)) (dw_X13t a ac) r) (k : Nat) : dj_X13_assemble_84 p l e s m args below meth c Q A dC dI a ac (df_X13_assemble_84 n k) r := by
  induction k with
  | zero => intro x3 s0 H locs ls h; exact nomatch (show (none : Option (Int32 × (St × (St)))) = some r from h)
  | succ k ih => exact dB_X13_assemble_84 C K ih
set_option maxHeartbeats 40000000 in
set_option maxRecDepth 100000 in
theorem db_X13_assemble_82 {p : Program} {l : Launch} {e : Env} {s : State} {m : MethodId} {args : Array Value} {below : List Frame} {meth : Method} {c : Code} {Q : State → Prop} {A : Nat → Prop} {dC : Nat → ClassId} {dI : Nat → Nat → Nat} {a : Nat → Nat} {ac : Nat → ClassId} {n : Nat} {r : Int32 × (St × (St))} (C : nd_C p l s m args c A (dC, dI) cX13_assemble 4 RX13 ow_dm_X13_assemble (dk_X13t ac)) (K : nd_Ki p l e (headSpec ow_dm_X13_assemble ({ frames := 14, cells := 0, slots := 0, locals := 331 })).room s m args below meth c Q A (dC, dI) cX13_assemble .int (St × (St)) (dw_X13t a ac) r) : dj_X13_assemble_82 p l e s m args below meth c Q A dC dI a ac (df_X13_assemble_82 n) r := by
  obtain ⟨hlt, hx, hb, hml, hown, hts, hN, hA, hK⟩ := id C
  intro s0 H locs ls h hP hD hS hl
  unfold df_X13_assemble_82 at h
  refine lv_iconst (v := 0) hx hb dX13_assemble_82 (by decide) ?_
  refine lv_istore_n (lv' := [(3, .int 0), (0, .ref (a 1))]) hx hb dX13_assemble_83 rfl hl (by decide) rfl (fun ls hl => ?_)
  exact (db_X13_assemble_84 C K n) (0) s0 _ _ _ h hP hD hS (lv_sub hl [1, 0] rfl)
set_option maxHeartbeats 40000000 in
set_option maxRecDepth 100000 in
theorem dB_X13_assemble_7 {p : Program} {l : Launch} {e : Env} {s : State} {m : MethodId} {args : Array Value} {below : List Frame} {meth : Method} {c : Code} {Q : State → Prop} {A : Nat → Prop} {dC : Nat → ClassId} {dI : Nat → Nat → Nat} {a : Nat → Nat} {ac : Nat → ClassId} {n : Nat} {r : Int32 × (St × (St))} (C : nd_C p l s m args c A (dC, dI) cX13_assemble 4 RX13 ow_dm_X13_assemble (dk_X13t ac)) (K : nd_Ki p l e (headSpec ow_dm_X13_assemble ({ frames := 14, cells := 0, slots := 0, locals := 331 })).room s m args below meth c Q A (dC, dI) cX13_assemble .int (St × (St)) (dw_X13t a ac) r) {g7 : Int32 → (St × (St)) → Option (Int32 × (St × (St)))} (J7 : dj_X13_assemble_7 p l e s m args below meth c Q A dC dI a ac g7 r) : dj_X13_assemble_7 p l e s m args below meth c Q A dC dI a ac (dF_X13_assemble_7 n g7) r := by
  obtain ⟨hlt, hx, hb, hml, hown, hts, hN, hA, hK⟩ := id C
  intro x3 s0 H locs ls h hP hD hS hl
  unfold dF_X13_assemble_7 at h
  refine lv_iload_n hx hb dX13_assemble_7 rfl (lv_at hl 2 rfl) ?_
  refine lv_aload_n hx hb dX13_assemble_8 rfl (lv_at hl 0 rfl) ?_
  refine va_get (D := (dC, dI)) (ci := 14) (v := .int (sI s0.2 0)) (C := RX13) (T := TX13) (N := 37) hx hb hts hi_dm_X13_assemble_X13 hown hK hP 1 rfl rfl 4 (by decide) (hts (.fieldLink RX13 347 "TimeMachineModel$Assembler" "size" "I") (List.mem_of_getElem? (i := 1) rfl)) (fun _ h9 => h9) rfl dX13_assemble_9 ?_
  refine lv_icmp_ge (tgt := 31) hx hb dX13_assemble_12 (by decide) (fun c2 => ?_) (fun c2 => ?_)
  · have h := nd_pos h c2
    refine lv_aload_n hx hb dX13_assemble_31 rfl (lv_at hl 0 rfl) ?_
    refine lv_iconst (v := 0) hx hb dX13_assemble_32 (by decide) ?_
    refine va_put (D := (dC, dI)) (ci := 14) (v := .int 0) (ty := .int) (C := RX13) (T := TX13) (N := 37) hx hb hts hi_dm_X13_assemble_X13 tyX13 tyX13_ok nmX13 hown hK hP hD hS 1 rfl rfl 21 (by decide) (hts (.fieldLink RX13 410 "TimeMachineModel$Assembler" "fault" "I") (List.mem_of_getElem? (i := 2) rfl)) (fun _ h9 => h9) rfl (by decide +kernel) rfl rfl (Nat.le_of_ble_eq_true rfl) dX13_assemble_33 (fun H locs hP hD hS => ?_)
    obtain ⟨s3, es3, h⟩ := nd_let_e h
    have hP : va_P (dC, dI) vwCl (dw_X13t a ac s3) H := by rw [es3]; exact hP
    have hD : va_D A (dw_X13t a ac s3) := by rw [es3]; exact hD
    refine lv_aload_n hx hb dX13_assemble_36 rfl (lv_at hl 0 rfl) ?_
    refine lv_iconst (v := 0) hx hb dX13_assemble_37 (by decide) ?_
    refine va_put (D := (dC, dI)) (ci := 14) (v := .int 0) (ty := .boolean) (C := RX13) (T := TX13) (N := 37) hx hb hts hi_dm_X13_assemble_X13 tyX13 tyX13_ok nmX13 hown hK hP hD hS 1 rfl rfl 5 (by decide) (hts (.fieldLink RX13 704 "TimeMachineModel$Assembler" "there" "Z") (List.mem_of_getElem? (i := 3) rfl)) (fun _ h9 => h9) rfl (by decide +kernel) (by first | rfl | decide) rfl (Nat.le_of_ble_eq_true rfl) dX13_assemble_38 (fun H locs hP hD hS => ?_)
    obtain ⟨s4, es4, h⟩ := nd_let_e h
    have hP : va_P (dC, dI) vwCl (dw_X13t a ac s4) H := by rw [es4]; exact hP
    have hD : va_D A (dw_X13t a ac s4) := by rw [es4]; exact hD
    refine lv_aload_n hx hb dX13_assemble_41 rfl (lv_at hl 0 rfl) ?_
    obtain ⟨s6, hq, h⟩ := nd_b1_e h
    have hPc := dp_X13t_1 hP
    have hDc := dd_X13t_1 hD
    have hKc := dy_X13t_1 hK
    have hFc := nd_rs hDc hS hA
    have hzA : ∀ q : Nat, H.size ≤ q → A q := fun q h => hA q (Nat.le_trans hS.1 h)
    refine nd_cVv (As := []) (rest := []) (w' := dw_X13 (fun k => a (k + 1)) (fun k => ac (k + 1)) s6) ⟨hx, hb, hml, hown, hts⟩ (fun sz => dm_X13_readAll l hlt dC dI (fun k => a (k + 1)) (fun k => ac (k + 1)) n  s4.2 hq sz) (cwV 0 hts gi_dm_X13_assemble_0 rfl rfl rfl (by decide +kernel) ⟨Nat.le_of_ble_eq_true rfl, Nat.le_of_ble_eq_true rfl⟩) hPc hDc hKc hS hA hN (va_recv hKc hPc (ci := 14) (q0 := 0) rfl rfl) rfl hl.1 rfl (Nat.le_of_ble_eq_true rfl) dX13_assemble_42 (fun H locs hP1 hD1 hk1 hS => ?_)
    obtain ⟨hP, hD⟩ := dn_X13t_1 hP hD hzA hk1 hP1 hD1
    obtain ⟨s8, es8, h⟩ := nd_let_e h
    have hP : va_P (dC, dI) vwCl (dw_X13t a ac s8) H := by rw [es8]; exact hP
    have hD : va_D A (dw_X13t a ac s8) := by rw [es8]; exact hD
    refine lv_aload_n hx hb dX13_assemble_45 rfl (lv_at hl 0 rfl) ?_
    refine va_get (D := (dC, dI)) (ci := 14) (v := .int (sI s8.2 12)) (C := RX13) (T := TX13) (N := 37) hx hb hts hi_dm_X13_assemble_X13 hown hK hP 1 rfl rfl 21 (by decide) (hts (.fieldLink RX13 410 "TimeMachineModel$Assembler" "fault" "I") (List.mem_of_getElem? (i := 2) rfl)) (fun _ h9 => h9) rfl dX13_assemble_46 ?_
    refine lv_if_le (tgt := 57) hx hb dX13_assemble_49 (by decide) (fun c9 => ?_) (fun c9 => ?_)
    · have h := nd_pos h c9
      refine lv_aload_n hx hb dX13_assemble_57 rfl (lv_at hl 0 rfl) ?_
      obtain ⟨s11, hq, h⟩ := nd_b1_e h
      have hPc := dp_X13t_1 hP
      have hDc := dd_X13t_1 hD
      have hKc := dy_X13t_1 hK
      have hFc := nd_rs hDc hS hA
      have hzA : ∀ q : Nat, H.size ≤ q → A q := fun q h => hA q (Nat.le_trans hS.1 h)
      refine nd_cVv (As := []) (rest := []) (w' := dw_X13 (fun k => a (k + 1)) (fun k => ac (k + 1)) s11) ⟨hx, hb, hml, hown, hts⟩ (fun sz => dm_X13_stretch l hlt dC dI (fun k => a (k + 1)) (fun k => ac (k + 1)) n  s8.2 hq sz) (cwV 0 hts gi_dm_X13_assemble_1 rfl rfl rfl (by decide +kernel) ⟨Nat.le_of_ble_eq_true rfl, Nat.le_of_ble_eq_true rfl⟩) hPc hDc hKc hS hA hN (va_recv hKc hPc (ci := 14) (q0 := 0) rfl rfl) rfl hl.1 rfl (Nat.le_of_ble_eq_true rfl) dX13_assemble_58 (fun H locs hP1 hD1 hk1 hS => ?_)
      obtain ⟨hP, hD⟩ := dn_X13t_1 hP hD hzA hk1 hP1 hD1
      obtain ⟨s13, es13, h⟩ := nd_let_e h
      have hP : va_P (dC, dI) vwCl (dw_X13t a ac s13) H := by rw [es13]; exact hP
      have hD : va_D A (dw_X13t a ac s13) := by rw [es13]; exact hD
      refine lv_aload_n hx hb dX13_assemble_61 rfl (lv_at hl 0 rfl) ?_
      refine lv_iconst (v := 1) hx hb dX13_assemble_62 (by decide) ?_
      refine va_put (D := (dC, dI)) (ci := 14) (v := .int 1) (ty := .boolean) (C := RX13) (T := TX13) (N := 37) hx hb hts hi_dm_X13_assemble_X13 tyX13 tyX13_ok nmX13 hown hK hP hD hS 1 rfl rfl 5 (by decide) (hts (.fieldLink RX13 704 "TimeMachineModel$Assembler" "there" "Z") (List.mem_of_getElem? (i := 3) rfl)) (fun _ h9 => h9) rfl (by decide +kernel) (by first | rfl | decide) rfl (Nat.le_of_ble_eq_true rfl) dX13_assemble_63 (fun H locs hP hD hS => ?_)
      obtain ⟨s14, es14, h⟩ := nd_let_e h
      have hP : va_P (dC, dI) vwCl (dw_X13t a ac s14) H := by rw [es14]; exact hP
      have hD : va_D A (dw_X13t a ac s14) := by rw [es14]; exact hD
      refine lv_aload_n hx hb dX13_assemble_66 rfl (lv_at hl 0 rfl) ?_
      obtain ⟨q15, s16, hq, h⟩ := nd_b2_e h
      have hPc := dp_X13t_1 hP
      have hDc := dd_X13t_1 hD
      have hKc := dy_X13t_1 hK
      have hFc := nd_rs hDc hS hA
      have hzA : ∀ q : Nat, H.size ≤ q → A q := fun q h => hA q (Nat.le_trans hS.1 h)
      refine nd_cVi (As := []) (rest := []) (q := q15) (w' := dw_X13 (fun k => a (k + 1)) (fun k => ac (k + 1)) s16) ⟨hx, hb, hml, hown, hts⟩ (fun sz => dm_X13_all l hlt dC dI (fun k => a (k + 1)) (fun k => ac (k + 1)) n  s14.2 hq sz) (cwV 0 hts gi_dm_X13_assemble_2 rfl rfl rfl (by decide +kernel) ⟨Nat.le_of_ble_eq_true rfl, Nat.le_of_ble_eq_true rfl⟩) hPc hDc hKc hS hA hN (va_recv hKc hPc (ci := 14) (q0 := 0) rfl rfl) rfl hl.1 rfl (Nat.le_of_ble_eq_true rfl) dX13_assemble_67 (fun H locs hP1 hD1 hk1 hS => ?_)
      obtain ⟨hP, hD⟩ := dn_X13t_1 hP hD hzA hk1 hP1 hD1
      obtain ⟨s18, es18, h⟩ := nd_let_e h
      have hP : va_P (dC, dI) vwCl (dw_X13t a ac s18) H := by rw [es18]; exact hP
      have hD : va_D A (dw_X13t a ac s18) := by rw [es18]; exact hD
      refine lv_ldcw hx hb hown (hts (.constant RX13 640 (32768)) (List.mem_of_getElem? (i := 14) rfl)) dX13_assemble_70 ?_
      refine lv_icmp_le (tgt := 82) hx hb dX13_assemble_73 (by decide) (fun c19 => ?_) (fun c19 => ?_)
      · have h := nd_pos h c19
        exact (db_X13_assemble_82 C K)  s18 _ _ _ h hP hD hS (lv_sub hl [0] rfl)
      · have h := nd_neg h c19
        refine lv_aload_n hx hb dX13_assemble_76 rfl (lv_at hl 0 rfl) ?_
        refine lv_bipush (v := 7) hx hb dX13_assemble_77 (by decide) ?_
        refine va_put (D := (dC, dI)) (ci := 14) (v := .int 7) (ty := .int) (C := RX13) (T := TX13) (N := 37) hx hb hts hi_dm_X13_assemble_X13 tyX13 tyX13_ok nmX13 hown hK hP hD hS 1 rfl rfl 21 (by decide) (hts (.fieldLink RX13 410 "TimeMachineModel$Assembler" "fault" "I") (List.mem_of_getElem? (i := 2) rfl)) (fun _ h9 => h9) rfl (by decide +kernel) rfl rfl (Nat.le_of_ble_eq_true rfl) dX13_assemble_79 (fun H locs hP hD hS => ?_)
        obtain ⟨s37, es37, h⟩ := nd_let_e h
        have hP : va_P (dC, dI) vwCl (dw_X13t a ac s37) H := by rw [es37]; exact hP
        have hD : va_D A (dw_X13t a ac s37) := by rw [es37]; exact hD
        exact (db_X13_assemble_82 C K)  s37 _ _ _ h hP hD hS (lv_sub hl [0] rfl)
    · have h := nd_neg h c9
      refine lv_aload_n hx hb dX13_assemble_52 rfl (lv_at hl 0 rfl) ?_
      refine va_get (D := (dC, dI)) (ci := 14) (v := .int (sI s8.2 12)) (C := RX13) (T := TX13) (N := 37) hx hb hts hi_dm_X13_assemble_X13 hown hK hP 1 rfl rfl 21 (by decide) (hts (.fieldLink RX13 410 "TimeMachineModel$Assembler" "fault" "I") (List.mem_of_getElem? (i := 2) rfl)) (fun _ h9 => h9) rfl dX13_assemble_53 ?_
      exact K _ _ _ _ _ _ dX13_assemble_56 rfl (Option.some.inj h).symm hP hD hS
  · have h := nd_neg h c2
    refine lv_aload_n hx hb dX13_assemble_15 rfl (lv_at hl 0 rfl) ?_
    refine va_get (D := (dC, dI)) (ci := 14) (v := .ref (a 5)) (C := RX13) (T := TX13) (N := 37) hx hb hts hi_dm_X13_assemble_X13 hown hK hP 1 rfl rfl 3 (by decide) (hts (.fieldLink RX13 324 "TimeMachineModel$Assembler" "text" "[C") (List.mem_of_getElem? (i := 25) rfl)) (fun _ h9 => h9) rfl dX13_assemble_16 ?_
    refine lv_iload_n hx hb dX13_assemble_19 rfl (lv_at hl 2 rfl) ?_
    refine lv_aload_n hx hb dX13_assemble_20 rfl (lv_at hl 1 rfl) ?_
    refine lv_iload_n hx hb dX13_assemble_21 rfl (lv_at hl 2 rfl) ?_
    obtain ⟨i38, h⟩ := nd_ck_e h
    refine va_iald (i := x3) hx hb hK hP 0 0 rfl rfl i38 dX13_assemble_22 ?_
    refine lv_i2c hx hb dX13_assemble_23 rfl ?_
    obtain ⟨i39, h⟩ := nd_ck_e h
    refine va_cast (i := x3) (x := (((sR s0.1 0 (Int32.toNatClampNeg x3)) : Int32).toUInt32.toUInt16.toUInt32.toInt32)) hx hb hK hP hD hS 5 4 rfl rfl i39 dX13_assemble_24 (fun H locs hP hD hS => ?_)
    obtain ⟨s40, es40, h⟩ := nd_let_e h
    have hP : va_P (dC, dI) vwCl (dw_X13t a ac s40) H := by rw [es40]; exact hP
    have hD : va_D A (dw_X13t a ac s40) := by rw [es40]; exact hD
    obtain ⟨z41, ez41, h⟩ := nd_let_e h
    refine lv_iinc (v := z41) (lv' := [(3, .int z41), (0, .ref (a 1)), (1, .ref (a 0))]) hx hb dX13_assemble_25 hl (k := 2) rfl (by rw [ez41]) (by decide) rfl (fun ls hl => ?_)
    refine lv_goto (tgt := 7) hx hb dX13_assemble_28 (by decide) ?_
    exact (J7) (z41) s40 _ _ _ h hP hD hS (lv_sub hl [1, 2, 0] rfl)
set_option maxHeartbeats 40000000 in
set_option maxRecDepth 100000 in
theorem db_X13_assemble_7 {p : Program} {l : Launch} {e : Env} {s : State} {m : MethodId} {args : Array Value} {below : List Frame} {meth : Method} {c : Code} {Q : State → Prop} {A : Nat → Prop} {dC : Nat → ClassId} {dI : Nat → Nat → Nat} {a : Nat → Nat} {ac : Nat → ClassId} {n : Nat} {r : Int32 × (St × (St))} (C : nd_C p l s m args c A (dC, dI) cX13_assemble 4 RX13 ow_dm_X13_assemble (dk_X13t ac)) (K : nd_Ki p l e (headSpec ow_dm_X13_assemble ({ frames := 14, cells := 0, slots := 0, locals := 331 })).room s m args below meth c Q A (dC, dI) cX13_assemble .int (St × (St)) (dw_X13t a ac) r) (k : Nat) : dj_X13_assemble_7 p l e s m args below meth c Q A dC dI a ac (df_X13_assemble_7 n k) r := by
  induction k with
  | zero => intro x3 s0 H locs ls h; exact nomatch (show (none : Option (Int32 × (St × (St)))) = some r from h)
  | succ k ih => exact dB_X13_assemble_7 C K ih
set_option maxHeartbeats 40000000 in
set_option maxRecDepth 100000 in
theorem db_X13_assemble_0 {p : Program} {l : Launch} {e : Env} {s : State} {m : MethodId} {args : Array Value} {below : List Frame} {meth : Method} {c : Code} {Q : State → Prop} {A : Nat → Prop} {dC : Nat → ClassId} {dI : Nat → Nat → Nat} {a : Nat → Nat} {ac : Nat → ClassId} {n : Nat} {r : Int32 × (St × (St))} (C : nd_C p l s m args c A (dC, dI) cX13_assemble 4 RX13 ow_dm_X13_assemble (dk_X13t ac)) (K : nd_Ki p l e (headSpec ow_dm_X13_assemble ({ frames := 14, cells := 0, slots := 0, locals := 331 })).room s m args below meth c Q A (dC, dI) cX13_assemble .int (St × (St)) (dw_X13t a ac) r) : dj_X13_assemble_0 p l e s m args below meth c Q A dC dI a ac (df_X13_assemble_0 n) r := by
  obtain ⟨hlt, hx, hb, hml, hown, hts, hN, hA, hK⟩ := id C
  intro v1 s0 H locs ls h hP hD hS hl
  unfold df_X13_assemble_0 at h
  refine lv_aload_n hx hb dX13_assemble_0 rfl (lv_at hl 0 rfl) ?_
  refine lv_iload_n hx hb dX13_assemble_1 rfl (lv_at hl 2 rfl) ?_
  refine va_put (D := (dC, dI)) (ci := 14) (v := .int v1) (ty := .int) (C := RX13) (T := TX13) (N := 37) hx hb hts hi_dm_X13_assemble_X13 tyX13 tyX13_ok nmX13 hown hK hP hD hS 1 rfl rfl 4 (by decide) (hts (.fieldLink RX13 347 "TimeMachineModel$Assembler" "size" "I") (List.mem_of_getElem? (i := 1) rfl)) (fun _ h9 => h9) rfl (by decide +kernel) rfl rfl (Nat.le_of_ble_eq_true rfl) dX13_assemble_2 (fun H locs hP hD hS => ?_)
  obtain ⟨s1, es1, h⟩ := nd_let_e h
  have hP : va_P (dC, dI) vwCl (dw_X13t a ac s1) H := by rw [es1]; exact hP
  have hD : va_D A (dw_X13t a ac s1) := by rw [es1]; exact hD
  refine lv_iconst (v := 0) hx hb dX13_assemble_5 (by decide) ?_
  refine lv_istore_n (lv' := [(3, .int 0), (0, .ref (a 1)), (1, .ref (a 0)), (2, .int v1)]) hx hb dX13_assemble_6 rfl hl (by decide) rfl (fun ls hl => ?_)
  exact (db_X13_assemble_7 C K n) (0) s1 _ _ _ h hP hD hS (lv_sub hl [1, 2, 0] rfl)
set_option maxHeartbeats 40000000 in
set_option maxRecDepth 100000 in
theorem dm_X13_assemble (l : Launch) (hlt : l.stackTraces = false) (dC : Nat → ClassId) (dI : Nat → Nat → Nat) (a : Nat → Nat) (ac : Nat → ClassId) (n : Nat) (v1 : Int32) (s0 : St × (St)) {r : Int32 × (St × (St))} (h : df_X13_assemble n v1 s0 = some r) (sz : Nat) : Met l yX13_assemble ow_dm_X13_assemble ({ frames := 14, cells := 0, slots := 0, locals := 331 }) (va_Pc [.ref (a 1), .ref (a 0), .int v1] (fun U => U.heap.size = sz ∧ va_P (dC, dI) vwCl (dw_X13t a ac s0) U.heap ∧ va_K (dC, dI) vwCl (dk_X13t ac) U ∧ va_D (fun _ => True) (dw_X13t a ac s0) ∧ nv_E dI (va_A (dw_X13t a ac s0) sz) U)) (va_Qi (fun x _ => x = r.1) (fun (_ : Unit) t => va_P (dC, dI) vwCl (dw_X13t a ac r.2) t.heap ∧ va_K (dC, dI) vwCl (dk_X13t ac) t ∧ va_D (va_A (dw_X13t a ac s0) sz) (dw_X13t a ac r.2)) (va_A (dw_X13t a ac s0) sz)) 0 0 (va_A (dw_X13t a ac s0) sz) := by
  refine Met.ofW (cc := cX13_assemble) (maxL := 4) (ret := (some .int)) (by decide) rfl ?_
  intro p e s m args below meth c s₁ B hml hv
  obtain ⟨rfl, hsz, hP, hK, hD0, hN⟩ := hv
  have hx := B.exec
  have hb := B.bytes
  have hr := B.returns
  have hts := atoms_spec (ws := ow_dm_X13_assemble) B.pre
  have hown : s.vm.findClass RX13 = some m.cls := findClass_of_methodNamed B.named
  have hlocks := B.notSynchronized
  subst hsz
  have hD := hD0.self (sz := s.heap.size)
  generalize hAe : va_A (dw_X13t a ac s0) s.heap.size = A at hD hN ⊢
  have hA : ∀ q : Nat, s.heap.size ≤ q → A q := fun q h => by rw [← hAe]; exact Or.inr h
  have hl := lv_entry ([.ref (a 1), .ref (a 0), .int v1]) (n := 4) (Nat.le_of_ble_eq_true rfl)
  rw [lg_entry_eq]
  generalize (lg_sl ([.ref (a 1), .ref (a 0), .int v1]) ++ List.replicate (4 - (lg_sl ([.ref (a 1), .ref (a 0), .int v1])).length) Slot.unset).toArray = ls at hl ⊢
  have hl : lv_has ls 4 [(0, .ref (a 1)), (1, .ref (a 0)), (2, .int v1)] := hl
  exact db_X13_assemble_0 (dC := dC) (dI := dI) (a := a) (ac := ac) (n := n) (r := r) ⟨hlt, hx, hb, hml, hown, hts, hN, hA, hK⟩ (fun pc v τ H locs ls d z er hP hD hS => by subst er; exact W.zret (v := v) hx hb hr z (fun t ht hW => ⟨⟨v, (), rfl, rfl, by rw [ht]; exact hP, va_K.moved hW.alike hK, hD⟩, hS.F ht⟩) hS.2.2 d) v1 s0 _ _ _ h hP hD va_S.rf (lv_sub hl [0, 1, 2] rfl)
def ow_dm_X15_compile : List Cond := Cond.code yX15_compile cX15_compile 5 (some .int) :: ([Cond.fieldLink RX15 65 "TimeMachineModel$Conditions" "size" "I", Cond.methodLink RX15 157 yX15_read, Cond.instanceMethod yX15_read, Cond.selects RX15 yX15_read yX15_read, Cond.initialized RX15, Cond.fieldLink RX15 125 "TimeMachineModel$Conditions" "fault" "I", Cond.fieldLink RX15 13 "TimeMachineModel$Conditions" "there" "[Z", Cond.fieldLink RX15 17 "TimeMachineModel$Conditions" "many" "[I", Cond.fieldLink RX15 131 "TimeMachineModel$Conditions" "tokens" "I", Cond.fieldLink RX15 21 "TimeMachineModel$Conditions" "kind" "[I", Cond.fieldLink RX15 34 "TimeMachineModel$Conditions" "newKind" "[I", Cond.fieldLink RX15 27 "TimeMachineModel$Conditions" "number" "[J", Cond.fieldLink RX15 43 "TimeMachineModel$Conditions" "newNumber" "[J", Cond.fieldLink RX15 24 "TimeMachineModel$Conditions" "partner" "[I", Cond.fieldLink RX15 37 "TimeMachineModel$Conditions" "newPartner" "[I", Cond.fieldLink RX15 7 "TimeMachineModel$Conditions" "text" "[C"] ++ (u_ws RX15 TX15 28 ++ (ow_dm_X15_read ++ [])))
theorem gd_dm_X15_compile : ∀ w ∈ ow_dm_X15_compile, (w.onTables && w.keeps) = true ∨ ∃ ty, w = Cond.arrayClass ty := List.forall_mem_cons.mpr ⟨good_of_word rfl, List.forall_mem_append.mpr ⟨fun w h => good_of_word (List.all_eq_true.mp (by decide +kernel) w h), List.forall_mem_append.mpr ⟨gu_X15, List.forall_mem_append.mpr ⟨gd_dm_X15_read, fun _ h => nomatch h⟩⟩⟩⟩
theorem hi_dm_X15_compile_X15 : ∀ w ∈ u_ws RX15 TX15 28, w ∈ ow_dm_X15_compile := fun w h => List.mem_cons_of_mem _ (List.mem_append_right _ (List.mem_append_left _ h))
theorem gi_dm_X15_compile_0 : GoodIn ow_dm_X15_compile (wsV RX15 157 RX15 yX15_read ow_dm_X15_read) := goodIn_app (goodIn_of _ (by decide +kernel)) (fun w h => ⟨List.mem_cons_of_mem _ (List.mem_append_right _ (List.mem_append_right _ (List.mem_append_left _ h))), gd_dm_X15_read w h⟩)
def dj_X15_compile_102 (p : Program) (l : Launch) (e : Env) (s : State) (m : MethodId) (args : Array Value) (below : List Frame) (meth : Method) (c : Code) (Q : State → Prop) (A : Nat → Prop) (dC : Nat → ClassId) (dI : Nat → Nat → Nat) (a : Nat → Nat) (ac : Nat → ClassId) (g : Int32 → Int32 → (St × (St × (St × (St)))) → Option (Int32 × (St × (St × (St × (St)))))) (r : Int32 × (St × (St × (St × (St))))) : Prop := ∀ (x1 : Int32) (x4 : Int32) (s0 : St × (St × (St × (St)))) (H : Heap) (locs : List Loc) (ls : Array Slot), g x1 x4 s0 = some r → va_P (dC, dI) vwCl (dw_X15t a ac s0) H → va_D A (dw_X15t a ac s0) → va_S A s.heap H locs → lv_has ls 5 [(0, .ref (a 1)), (1, .int x1), (4, .int x4)] → W p l e (headSpec ow_dm_X15_compile ({ frames := 4, cells := 0, slots := 0, locals := 98 })).room s m args below meth c H locs 0 0 Q (F0 m 102 ls [])
def dj_X15_compile_34 (p : Program) (l : Launch) (e : Env) (s : State) (m : MethodId) (args : Array Value) (below : List Frame) (meth : Method) (c : Code) (Q : State → Prop) (A : Nat → Prop) (dC : Nat → ClassId) (dI : Nat → Nat → Nat) (a : Nat → Nat) (ac : Nat → ClassId) (g : Int32 → (St × (St × (St × (St)))) → Option (Int32 × (St × (St × (St × (St)))))) (r : Int32 × (St × (St × (St × (St))))) : Prop := ∀ (x4 : Int32) (s0 : St × (St × (St × (St)))) (H : Heap) (locs : List Loc) (ls : Array Slot), g x4 s0 = some r → va_P (dC, dI) vwCl (dw_X15t a ac s0) H → va_D A (dw_X15t a ac s0) → va_S A s.heap H locs → lv_has ls 5 [(4, .int x4)] → W p l e (headSpec ow_dm_X15_compile ({ frames := 4, cells := 0, slots := 0, locals := 98 })).room s m args below meth c H locs 0 0 Q (F0 m 34 ls [])
def dj_X15_compile_3 (p : Program) (l : Launch) (e : Env) (s : State) (m : MethodId) (args : Array Value) (below : List Frame) (meth : Method) (c : Code) (Q : State → Prop) (A : Nat → Prop) (dC : Nat → ClassId) (dI : Nat → Nat → Nat) (a : Nat → Nat) (ac : Nat → ClassId) (g : Int32 → Int32 → Int32 → (St × (St × (St × (St)))) → Option (Int32 × (St × (St × (St × (St)))))) (r : Int32 × (St × (St × (St × (St))))) : Prop := ∀ (x1 : Int32) (x3 : Int32) (x4 : Int32) (s0 : St × (St × (St × (St)))) (H : Heap) (locs : List Loc) (ls : Array Slot), g x1 x3 x4 s0 = some r → va_P (dC, dI) vwCl (dw_X15t a ac s0) H → va_D A (dw_X15t a ac s0) → va_S A s.heap H locs → lv_has ls 5 [(0, .ref (a 1)), (1, .int x1), (2, .ref (a 0)), (3, .int x3), (4, .int x4)] → W p l e (headSpec ow_dm_X15_compile ({ frames := 4, cells := 0, slots := 0, locals := 98 })).room s m args below meth c H locs 0 0 Q (F0 m 3 ls [])
def dj_X15_compile_0 (p : Program) (l : Launch) (e : Env) (s : State) (m : MethodId) (args : Array Value) (below : List Frame) (meth : Method) (c : Code) (Q : State → Prop) (A : Nat → Prop) (dC : Nat → ClassId) (dI : Nat → Nat → Nat) (a : Nat → Nat) (ac : Nat → ClassId) (g : Int32 → Int32 → (St × (St × (St × (St)))) → Option (Int32 × (St × (St × (St × (St)))))) (r : Int32 × (St × (St × (St × (St))))) : Prop := ∀ (v0 : Int32) (v2 : Int32) (s0 : St × (St × (St × (St)))) (H : Heap) (locs : List Loc) (ls : Array Slot), g v0 v2 s0 = some r → va_P (dC, dI) vwCl (dw_X15t a ac s0) H → va_D A (dw_X15t a ac s0) → va_S A s.heap H locs → lv_has ls 5 [(0, .ref (a 1)), (1, .int v0), (2, .ref (a 0)), (3, .int v2)] → W p l e (headSpec ow_dm_X15_compile ({ frames := 4, cells := 0, slots := 0, locals := 98 })).room s m args below meth c H locs 0 0 Q (F0 m 0 ls [])
set_option maxHeartbeats 40000000 in
set_option maxRecDepth 100000 in
theorem dB_X15_compile_102 {p : Program} {l : Launch} {e : Env} {s : State} {m : MethodId} {args : Array Value} {below : List Frame} {meth : Method} {c : Code} {Q : State → Prop} {A : Nat → Prop} {dC : Nat → ClassId} {dI : Nat → Nat → Nat} {a : Nat → Nat} {ac : Nat → ClassId} {n : Nat} {r : Int32 × (St × (St × (St × (St))))} (C : nd_C p l s m args c A (dC, dI) cX15_compile 5 RX15 ow_dm_X15_compile (dk_X15t ac)) (K : nd_Ki p l e (headSpec ow_dm_X15_compile ({ frames := 4, cells := 0, slots := 0, locals := 98 })).room s m args below meth c Q A (dC, dI) cX15_compile .int (St × (St × (St × (St)))) (dw_X15t a ac) r) {g102 : Int32 → Int32 → (St × (St × (St × (St)))) → Option (Int32 × (St × (St × (St × (St)))))} (J102 : dj_X15_compile_102 p l e s m args below meth c Q A dC dI a ac g102 r) : dj_X15_compile_102 p l e s m args below meth c Q A dC dI a ac (dF_X15_compile_102 n g102) r := by
  obtain ⟨hlt, hx, hb, hml, hown, hts, hN, hA, hK⟩ := id C
  intro x1 x4 s0 H locs ls h hP hD hS hl
  unfold dF_X15_compile_102 at h
  refine lv_iload hx hb dX15_compile_102 (lv_at hl 2 rfl) ?_
  refine lv_aload_n hx hb dX15_compile_104 rfl (lv_at hl 0 rfl) ?_
  refine va_get (D := (dC, dI)) (ci := 16) (v := .int (sI s0.2.1 4)) (C := RX15) (T := TX15) (N := 28) hx hb hts hi_dm_X15_compile_X15 hown hK hP 1 rfl rfl 12 (by decide) (hts (.fieldLink RX15 131 "TimeMachineModel$Conditions" "tokens" "I") (List.mem_of_getElem? (i := 9) rfl)) (fun _ h9 => h9) rfl dX15_compile_105 ?_
  refine lv_icmp_ge (tgt := 179) hx hb dX15_compile_108 (by decide) (fun c12 => ?_) (fun c12 => ?_)
  · have h := nd_pos h c12
    refine lv_iconst (v := 0) hx hb dX15_compile_179 (by decide) ?_
    exact K _ _ _ _ _ _ dX15_compile_180 rfl (Option.some.inj h).symm hP hD hS
  · have h := nd_neg h c12
    refine lv_aload_n hx hb dX15_compile_111 rfl (lv_at hl 0 rfl) ?_
    refine va_get (D := (dC, dI)) (ci := 16) (v := .ref (a 5)) (C := RX15) (T := TX15) (N := 28) hx hb hts hi_dm_X15_compile_X15 hown hK hP 1 rfl rfl 5 (by decide) (hts (.fieldLink RX15 21 "TimeMachineModel$Conditions" "kind" "[I") (List.mem_of_getElem? (i := 10) rfl)) (fun _ h9 => h9) rfl dX15_compile_112 ?_
    refine lv_bipush (v := 120) hx hb dX15_compile_115 (by decide) ?_
    refine lv_iload_n hx hb dX15_compile_117 rfl (lv_at hl 1 rfl) ?_
    refine lv_imul hx hb dX15_compile_118 ?_
    refine lv_iload hx hb dX15_compile_119 (lv_at hl 2 rfl) ?_
    refine lv_iadd hx hb dX15_compile_121 ?_
    refine lv_aload_n hx hb dX15_compile_122 rfl (lv_at hl 0 rfl) ?_
    refine va_get (D := (dC, dI)) (ci := 16) (v := .ref (a 9)) (C := RX15) (T := TX15) (N := 28) hx hb hts hi_dm_X15_compile_X15 hown hK hP 1 rfl rfl 16 (by decide) (hts (.fieldLink RX15 34 "TimeMachineModel$Conditions" "newKind" "[I") (List.mem_of_getElem? (i := 11) rfl)) (fun _ h9 => h9) rfl dX15_compile_123 ?_
    refine lv_iload hx hb dX15_compile_126 (lv_at hl 2 rfl) ?_
    obtain ⟨i13, h⟩ := nd_ck_e h
    refine va_iald (i := x4) hx hb hK hP 9 8 rfl rfl i13 dX15_compile_128 ?_
    obtain ⟨i14, h⟩ := nd_ck_e h
    refine va_iast (i := ((120 * x1) + x4)) (x := (sR s0.2.1 5 (Int32.toNatClampNeg x4))) hx hb hK hP hD hS 5 4 rfl rfl i14 dX15_compile_129 (fun H locs hP hD hS => ?_)
    obtain ⟨s15, es15, h⟩ := nd_let_e h
    have hP : va_P (dC, dI) vwCl (dw_X15t a ac s15) H := by rw [es15]; exact hP
    have hD : va_D A (dw_X15t a ac s15) := by rw [es15]; exact hD
    refine lv_aload_n hx hb dX15_compile_130 rfl (lv_at hl 0 rfl) ?_
    refine va_get (D := (dC, dI)) (ci := 16) (v := .ref (a 7)) (C := RX15) (T := TX15) (N := 28) hx hb hts hi_dm_X15_compile_X15 hown hK hP 1 rfl rfl 7 (by decide) (hts (.fieldLink RX15 27 "TimeMachineModel$Conditions" "number" "[J") (List.mem_of_getElem? (i := 12) rfl)) (fun _ h9 => h9) rfl dX15_compile_131 ?_
    refine lv_bipush (v := 120) hx hb dX15_compile_134 (by decide) ?_
    refine lv_iload_n hx hb dX15_compile_136 rfl (lv_at hl 1 rfl) ?_
    refine lv_imul hx hb dX15_compile_137 ?_
    refine lv_iload hx hb dX15_compile_138 (lv_at hl 2 rfl) ?_
    refine lv_iadd hx hb dX15_compile_140 ?_
    refine lv_aload_n hx hb dX15_compile_141 rfl (lv_at hl 0 rfl) ?_
    refine va_get (D := (dC, dI)) (ci := 16) (v := .ref (a 12)) (C := RX15) (T := TX15) (N := 28) hx hb hts hi_dm_X15_compile_X15 hown hK hP 1 rfl rfl 19 (by decide) (hts (.fieldLink RX15 43 "TimeMachineModel$Conditions" "newNumber" "[J") (List.mem_of_getElem? (i := 13) rfl)) (fun _ h9 => h9) rfl dX15_compile_142 ?_
    refine lv_iload hx hb dX15_compile_145 (lv_at hl 2 rfl) ?_
    obtain ⟨i16, h⟩ := nd_ck_e h
    refine va_lald (i := x4) hx hb hK hP 12 11 rfl rfl i16 dX15_compile_147 ?_
    obtain ⟨i17, h⟩ := nd_ck_e h
    refine va_last (i := ((120 * x1) + x4)) (x := (sQ s15.2.1 2 (Int32.toNatClampNeg x4))) hx hb hK hP hD hS 7 6 rfl rfl i17 dX15_compile_148 (fun H locs hP hD hS => ?_)
    obtain ⟨s18, es18, h⟩ := nd_let_e h
    have hP : va_P (dC, dI) vwCl (dw_X15t a ac s18) H := by rw [es18]; exact hP
    have hD : va_D A (dw_X15t a ac s18) := by rw [es18]; exact hD
    refine lv_aload_n hx hb dX15_compile_149 rfl (lv_at hl 0 rfl) ?_
    refine va_get (D := (dC, dI)) (ci := 16) (v := .ref (a 6)) (C := RX15) (T := TX15) (N := 28) hx hb hts hi_dm_X15_compile_X15 hown hK hP 1 rfl rfl 6 (by decide) (hts (.fieldLink RX15 24 "TimeMachineModel$Conditions" "partner" "[I") (List.mem_of_getElem? (i := 14) rfl)) (fun _ h9 => h9) rfl dX15_compile_150 ?_
    refine lv_bipush (v := 120) hx hb dX15_compile_153 (by decide) ?_
    refine lv_iload_n hx hb dX15_compile_155 rfl (lv_at hl 1 rfl) ?_
    refine lv_imul hx hb dX15_compile_156 ?_
    refine lv_iload hx hb dX15_compile_157 (lv_at hl 2 rfl) ?_
    refine lv_iadd hx hb dX15_compile_159 ?_
    refine lv_bipush (v := 120) hx hb dX15_compile_160 (by decide) ?_
    refine lv_iload_n hx hb dX15_compile_162 rfl (lv_at hl 1 rfl) ?_
    refine lv_imul hx hb dX15_compile_163 ?_
    refine lv_aload_n hx hb dX15_compile_164 rfl (lv_at hl 0 rfl) ?_
    refine va_get (D := (dC, dI)) (ci := 16) (v := .ref (a 10)) (C := RX15) (T := TX15) (N := 28) hx hb hts hi_dm_X15_compile_X15 hown hK hP 1 rfl rfl 17 (by decide) (hts (.fieldLink RX15 37 "TimeMachineModel$Conditions" "newPartner" "[I") (List.mem_of_getElem? (i := 15) rfl)) (fun _ h9 => h9) rfl dX15_compile_165 ?_
    refine lv_iload hx hb dX15_compile_168 (lv_at hl 2 rfl) ?_
    obtain ⟨i19, h⟩ := nd_ck_e h
    refine va_iald (i := x4) hx hb hK hP 10 9 rfl rfl i19 dX15_compile_170 ?_
    refine lv_iadd hx hb dX15_compile_171 ?_
    obtain ⟨i20, h⟩ := nd_ck_e h
    refine va_iast (i := ((120 * x1) + x4)) (x := ((120 * x1) + (sR s18.2.1 6 (Int32.toNatClampNeg x4)))) hx hb hK hP hD hS 6 5 rfl rfl i20 dX15_compile_172 (fun H locs hP hD hS => ?_)
    obtain ⟨s21, es21, h⟩ := nd_let_e h
    have hP : va_P (dC, dI) vwCl (dw_X15t a ac s21) H := by rw [es21]; exact hP
    have hD : va_D A (dw_X15t a ac s21) := by rw [es21]; exact hD
    obtain ⟨z22, ez22, h⟩ := nd_let_e h
    refine lv_iinc (v := z22) (lv' := [(4, .int z22), (0, .ref (a 1)), (1, .int x1)]) hx hb dX15_compile_173 hl (k := 2) rfl (by rw [ez22]) (by decide) rfl (fun ls hl => ?_)
    refine lv_goto (tgt := 102) hx hb dX15_compile_176 (by decide) ?_
    exact (J102) (x1) (z22) s21 _ _ _ h hP hD hS (lv_sub hl [1, 2, 0] rfl)
set_option maxHeartbeats 40000000 in
set_option maxRecDepth 100000 in
theorem db_X15_compile_102 {p : Program} {l : Launch} {e : Env} {s : State} {m : MethodId} {args : Array Value} {below : List Frame} {meth : Method} {c : Code} {Q : State → Prop} {A : Nat → Prop} {dC : Nat → ClassId} {dI : Nat → Nat → Nat} {a : Nat → Nat} {ac : Nat → ClassId} {n : Nat} {r : Int32 × (St × (St × (St × (St))))} (C : nd_C p l s m args c A (dC, dI) cX15_compile 5 RX15 ow_dm_X15_compile (dk_X15t ac)) (K : nd_Ki p l e (headSpec ow_dm_X15_compile ({ frames := 4, cells := 0, slots := 0, locals := 98 })).room s m args below meth c Q A (dC, dI) cX15_compile .int (St × (St × (St × (St)))) (dw_X15t a ac) r) (k : Nat) : dj_X15_compile_102 p l e s m args below meth c Q A dC dI a ac (df_X15_compile_102 n k) r := by
  induction k with
  | zero => intro x1 x4 s0 H locs ls h; exact nomatch (show (none : Option (Int32 × (St × (St × (St × (St)))))) = some r from h)
  | succ k ih => exact dB_X15_compile_102 C K ih
set_option maxHeartbeats 40000000 in
set_option maxRecDepth 100000 in
theorem db_X15_compile_34 {p : Program} {l : Launch} {e : Env} {s : State} {m : MethodId} {args : Array Value} {below : List Frame} {meth : Method} {c : Code} {Q : State → Prop} {A : Nat → Prop} {dC : Nat → ClassId} {dI : Nat → Nat → Nat} {a : Nat → Nat} {ac : Nat → ClassId} {n : Nat} {r : Int32 × (St × (St × (St × (St))))} (C : nd_C p l s m args c A (dC, dI) cX15_compile 5 RX15 ow_dm_X15_compile (dk_X15t ac)) (K : nd_Ki p l e (headSpec ow_dm_X15_compile ({ frames := 4, cells := 0, slots := 0, locals := 98 })).room s m args below meth c Q A (dC, dI) cX15_compile .int (St × (St × (St × (St)))) (dw_X15t a ac) r) : dj_X15_compile_34 p l e s m args below meth c Q A dC dI a ac (df_X15_compile_34 n) r := by
  obtain ⟨hlt, hx, hb, hml, hown, hts, hN, hA, hK⟩ := id C
  intro x4 s0 H locs ls h hP hD hS hl
  unfold df_X15_compile_34 at h
  refine lv_iconst (v := 1) hx hb dX15_compile_34 (by decide) ?_
  refine lv_bipush (v := 8) hx hb dX15_compile_35 (by decide) ?_
  refine lv_iload hx hb dX15_compile_37 (lv_at hl 0 rfl) ?_
  refine lv_imul hx hb dX15_compile_39 ?_
  refine lv_iadd hx hb dX15_compile_40 ?_
  exact K _ _ _ _ _ _ dX15_compile_41 rfl (Option.some.inj h).symm hP hD hS
set_option maxHeartbeats 40000000 in
set_option maxRecDepth 100000 in
theorem dB_X15_compile_3 {p : Program} {l : Launch} {e : Env} {s : State} {m : MethodId} {args : Array Value} {below : List Frame} {meth : Method} {c : Code} {Q : State → Prop} {A : Nat → Prop} {dC : Nat → ClassId} {dI : Nat → Nat → Nat} {a : Nat → Nat} {ac : Nat → ClassId} {n : Nat} {r : Int32 × (St × (St × (St × (St))))} (C : nd_C p l s m args c A (dC, dI) cX15_compile 5 RX15 ow_dm_X15_compile (dk_X15t ac)) (K : nd_Ki p l e (headSpec ow_dm_X15_compile ({ frames := 4, cells := 0, slots := 0, locals := 98 })).room s m args below meth c Q A (dC, dI) cX15_compile .int (St × (St × (St × (St)))) (dw_X15t a ac) r) {g3 : Int32 → Int32 → Int32 → (St × (St × (St × (St)))) → Option (Int32 × (St × (St × (St × (St)))))} (J3 : dj_X15_compile_3 p l e s m args below meth c Q A dC dI a ac g3 r) : dj_X15_compile_3 p l e s m args below meth c Q A dC dI a ac (dF_X15_compile_3 n g3) r := by
  obtain ⟨hlt, hx, hb, hml, hown, hts, hN, hA, hK⟩ := id C
  intro x1 x3 x4 s0 H locs ls h hP hD hS hl
  unfold dF_X15_compile_3 at h
  refine lv_iload hx hb dX15_compile_3 (lv_at hl 4 rfl) ?_
  refine lv_iload_n hx hb dX15_compile_5 rfl (lv_at hl 3 rfl) ?_
  refine lv_icmp_ge (tgt := 60) hx hb dX15_compile_6 (by decide) (fun c1 => ?_) (fun c1 => ?_)
  · have h := nd_pos h c1
    refine lv_aload_n hx hb dX15_compile_60 rfl (lv_at hl 0 rfl) ?_
    refine lv_iload_n hx hb dX15_compile_61 rfl (lv_at hl 3 rfl) ?_
    refine va_put (D := (dC, dI)) (ci := 16) (v := .int x3) (ty := .int) (C := RX15) (T := TX15) (N := 28) hx hb hts hi_dm_X15_compile_X15 tyX15 tyX15_ok nmX15 hown hK hP hD hS 1 rfl rfl 1 (by decide) (hts (.fieldLink RX15 65 "TimeMachineModel$Conditions" "size" "I") (List.mem_of_getElem? (i := 1) rfl)) (fun _ h9 => h9) rfl (by decide +kernel) rfl rfl (Nat.le_of_ble_eq_true rfl) dX15_compile_62 (fun H locs hP hD hS => ?_)
    obtain ⟨s2, es2, h⟩ := nd_let_e h
    have hP : va_P (dC, dI) vwCl (dw_X15t a ac s2) H := by rw [es2]; exact hP
    have hD : va_D A (dw_X15t a ac s2) := by rw [es2]; exact hD
    refine lv_aload_n hx hb dX15_compile_65 rfl (lv_at hl 0 rfl) ?_
    obtain ⟨q3, s4, hq, h⟩ := nd_b2_e h
    have hPc := dp_X15t_1 hP
    have hDc := dd_X15t_1 hD
    have hKc := dy_X15t_1 hK
    have hFc := nd_rs hDc hS hA
    have hzA : ∀ q : Nat, H.size ≤ q → A q := fun q h => hA q (Nat.le_trans hS.1 h)
    refine nd_cVi (As := []) (rest := []) (q := q3) (w' := dw_X15 (fun k => a (k + 1)) (fun k => ac (k + 1)) s4) ⟨hx, hb, hml, hown, hts⟩ (fun sz => dm_X15_read l hlt dC dI (fun k => a (k + 1)) (fun k => ac (k + 1)) n  s2.2 hq sz) (cwV 0 hts gi_dm_X15_compile_0 rfl rfl rfl (by decide +kernel) ⟨Nat.le_of_ble_eq_true rfl, Nat.le_of_ble_eq_true rfl⟩) hPc hDc hKc hS hA hN (va_recv hKc hPc (ci := 16) (q0 := 0) rfl rfl) rfl hl.1 rfl (Nat.le_of_ble_eq_true rfl) dX15_compile_66 (fun H locs hP1 hD1 hk1 hS => ?_)
    obtain ⟨hP, hD⟩ := dn_X15t_1 hP hD hzA hk1 hP1 hD1
    obtain ⟨s6, es6, h⟩ := nd_let_e h
    have hP : va_P (dC, dI) vwCl (dw_X15t a ac s6) H := by rw [es6]; exact hP
    have hD : va_D A (dw_X15t a ac s6) := by rw [es6]; exact hD
    refine lv_pop hx hb dX15_compile_69 rfl ?_
    refine lv_aload_n hx hb dX15_compile_70 rfl (lv_at hl 0 rfl) ?_
    refine va_get (D := (dC, dI)) (ci := 16) (v := .int (sI s6.2.1 6)) (C := RX15) (T := TX15) (N := 28) hx hb hts hi_dm_X15_compile_X15 hown hK hP 1 rfl rfl 14 (by decide) (hts (.fieldLink RX15 125 "TimeMachineModel$Conditions" "fault" "I") (List.mem_of_getElem? (i := 6) rfl)) (fun _ h9 => h9) rfl dX15_compile_71 ?_
    refine lv_if_le (tgt := 82) hx hb dX15_compile_74 (by decide) (fun c7 => ?_) (fun c7 => ?_)
    · have h := nd_pos h c7
      refine lv_aload_n hx hb dX15_compile_82 rfl (lv_at hl 0 rfl) ?_
      refine va_get (D := (dC, dI)) (ci := 16) (v := .ref (a 3)) (C := RX15) (T := TX15) (N := 28) hx hb hts hi_dm_X15_compile_X15 hown hK hP 1 rfl rfl 3 (by decide) (hts (.fieldLink RX15 13 "TimeMachineModel$Conditions" "there" "[Z") (List.mem_of_getElem? (i := 7) rfl)) (fun _ h9 => h9) rfl dX15_compile_83 ?_
      refine lv_iload_n hx hb dX15_compile_86 rfl (lv_at hl 1 rfl) ?_
      refine lv_iconst (v := 1) hx hb dX15_compile_87 (by decide) ?_
      obtain ⟨i8, h⟩ := nd_ck_e h
      refine va_zast (i := x1) (x := 1) hx hb hK hP hD hS 3 2 rfl rfl i8 dX15_compile_88 (fun H locs hP hD hS => ?_)
      obtain ⟨s9, es9, h⟩ := nd_let_e h
      have hP : va_P (dC, dI) vwCl (dw_X15t a ac s9) H := by rw [es9]; exact hP
      have hD : va_D A (dw_X15t a ac s9) := by rw [es9]; exact hD
      refine lv_aload_n hx hb dX15_compile_89 rfl (lv_at hl 0 rfl) ?_
      refine va_get (D := (dC, dI)) (ci := 16) (v := .ref (a 4)) (C := RX15) (T := TX15) (N := 28) hx hb hts hi_dm_X15_compile_X15 hown hK hP 1 rfl rfl 4 (by decide) (hts (.fieldLink RX15 17 "TimeMachineModel$Conditions" "many" "[I") (List.mem_of_getElem? (i := 8) rfl)) (fun _ h9 => h9) rfl dX15_compile_90 ?_
      refine lv_iload_n hx hb dX15_compile_93 rfl (lv_at hl 1 rfl) ?_
      refine lv_aload_n hx hb dX15_compile_94 rfl (lv_at hl 0 rfl) ?_
      refine va_get (D := (dC, dI)) (ci := 16) (v := .int (sI s9.2.1 4)) (C := RX15) (T := TX15) (N := 28) hx hb hts hi_dm_X15_compile_X15 hown hK hP 1 rfl rfl 12 (by decide) (hts (.fieldLink RX15 131 "TimeMachineModel$Conditions" "tokens" "I") (List.mem_of_getElem? (i := 9) rfl)) (fun _ h9 => h9) rfl dX15_compile_95 ?_
      obtain ⟨i10, h⟩ := nd_ck_e h
      refine va_iast (i := x1) (x := (sI s9.2.1 4)) hx hb hK hP hD hS 4 3 rfl rfl i10 dX15_compile_98 (fun H locs hP hD hS => ?_)
      obtain ⟨s11, es11, h⟩ := nd_let_e h
      have hP : va_P (dC, dI) vwCl (dw_X15t a ac s11) H := by rw [es11]; exact hP
      have hD : va_D A (dw_X15t a ac s11) := by rw [es11]; exact hD
      refine lv_iconst (v := 0) hx hb dX15_compile_99 (by decide) ?_
      refine lv_istore (lv' := [(4, .int 0), (0, .ref (a 1)), (1, .int x1), (2, .ref (a 0)), (3, .int x3)]) hx hb dX15_compile_100 hl (by decide) rfl (fun ls hl => ?_)
      exact (db_X15_compile_102 C K n) (x1) (0) s11 _ _ _ h hP hD hS (lv_sub hl [1, 2, 0] rfl)
    · have h := nd_neg h c7
      refine lv_aload_n hx hb dX15_compile_77 rfl (lv_at hl 0 rfl) ?_
      refine va_get (D := (dC, dI)) (ci := 16) (v := .int (sI s6.2.1 6)) (C := RX15) (T := TX15) (N := 28) hx hb hts hi_dm_X15_compile_X15 hown hK hP 1 rfl rfl 14 (by decide) (hts (.fieldLink RX15 125 "TimeMachineModel$Conditions" "fault" "I") (List.mem_of_getElem? (i := 6) rfl)) (fun _ h9 => h9) rfl dX15_compile_78 ?_
      exact K _ _ _ _ _ _ dX15_compile_81 rfl (Option.some.inj h).symm hP hD hS
  · have h := nd_neg h c1
    refine lv_iload hx hb dX15_compile_9 (lv_at hl 4 rfl) ?_
    refine lv_bipush (v := 120) hx hb dX15_compile_11 (by decide) ?_
    refine lv_icmp_eq (tgt := 34) hx hb dX15_compile_13 (by decide) (fun c23 => ?_) (fun c23 => ?_)
    · have h := nd_pos h c23
      exact (db_X15_compile_34 C K) (x4) s0 _ _ _ h hP hD hS (lv_sub hl [4] rfl)
    · have h := nd_neg h c23
      refine lv_aload_n hx hb dX15_compile_16 rfl (lv_at hl 2 rfl) ?_
      refine lv_iload hx hb dX15_compile_17 (lv_at hl 4 rfl) ?_
      obtain ⟨i24, h⟩ := nd_ck_e h
      refine va_iald (i := x4) hx hb hK hP 0 0 rfl rfl i24 dX15_compile_19 ?_
      refine lv_bipush (v := 32) hx hb dX15_compile_20 (by decide) ?_
      refine lv_icmp_lt (tgt := 34) hx hb dX15_compile_22 (by decide) (fun c25 => ?_) (fun c25 => ?_)
      · have h := nd_pos h c25
        exact (db_X15_compile_34 C K) (x4) s0 _ _ _ h hP hD hS (lv_sub hl [4] rfl)
      · have h := nd_neg h c25
        refine lv_aload_n hx hb dX15_compile_25 rfl (lv_at hl 2 rfl) ?_
        refine lv_iload hx hb dX15_compile_26 (lv_at hl 4 rfl) ?_
        obtain ⟨i26, h⟩ := nd_ck_e h
        refine va_iald (i := x4) hx hb hK hP 0 0 rfl rfl i26 dX15_compile_28 ?_
        refine lv_bipush (v := 126) hx hb dX15_compile_29 (by decide) ?_
        refine lv_icmp_le (tgt := 42) hx hb dX15_compile_31 (by decide) (fun c27 => ?_) (fun c27 => ?_)
        · have h := nd_pos h c27
          refine lv_aload_n hx hb dX15_compile_42 rfl (lv_at hl 0 rfl) ?_
          refine va_get (D := (dC, dI)) (ci := 16) (v := .ref (a 2)) (C := RX15) (T := TX15) (N := 28) hx hb hts hi_dm_X15_compile_X15 hown hK hP 1 rfl rfl 2 (by decide) (hts (.fieldLink RX15 7 "TimeMachineModel$Conditions" "text" "[C") (List.mem_of_getElem? (i := 16) rfl)) (fun _ h9 => h9) rfl dX15_compile_43 ?_
          refine lv_iload hx hb dX15_compile_46 (lv_at hl 4 rfl) ?_
          refine lv_aload_n hx hb dX15_compile_48 rfl (lv_at hl 2 rfl) ?_
          refine lv_iload hx hb dX15_compile_49 (lv_at hl 4 rfl) ?_
          obtain ⟨i28, h⟩ := nd_ck_e h
          refine va_iald (i := x4) hx hb hK hP 0 0 rfl rfl i28 dX15_compile_51 ?_
          refine lv_i2c hx hb dX15_compile_52 rfl ?_
          obtain ⟨i29, h⟩ := nd_ck_e h
          refine va_cast (i := x4) (x := (((sR s0.1 0 (Int32.toNatClampNeg x4)) : Int32).toUInt32.toUInt16.toUInt32.toInt32)) hx hb hK hP hD hS 2 1 rfl rfl i29 dX15_compile_53 (fun H locs hP hD hS => ?_)
          obtain ⟨s30, es30, h⟩ := nd_let_e h
          have hP : va_P (dC, dI) vwCl (dw_X15t a ac s30) H := by rw [es30]; exact hP
          have hD : va_D A (dw_X15t a ac s30) := by rw [es30]; exact hD
          obtain ⟨z31, ez31, h⟩ := nd_let_e h
          refine lv_iinc (v := z31) (lv' := [(4, .int z31), (0, .ref (a 1)), (1, .int x1), (2, .ref (a 0)), (3, .int x3)]) hx hb dX15_compile_54 hl (k := 4) rfl (by rw [ez31]) (by decide) rfl (fun ls hl => ?_)
          refine lv_goto (tgt := 3) hx hb dX15_compile_57 (by decide) ?_
          exact (J3) (x1) (x3) (z31) s30 _ _ _ h hP hD hS (lv_sub hl [1, 2, 3, 4, 0] rfl)
        · have h := nd_neg h c27
          exact (db_X15_compile_34 C K) (x4) s0 _ _ _ h hP hD hS (lv_sub hl [4] rfl)
set_option maxHeartbeats 40000000 in
set_option maxRecDepth 100000 in
theorem db_X15_compile_3 {p : Program} {l : Launch} {e : Env} {s : State} {m : MethodId} {args : Array Value} {below : List Frame} {meth : Method} {c : Code} {Q : State → Prop} {A : Nat → Prop} {dC : Nat → ClassId} {dI : Nat → Nat → Nat} {a : Nat → Nat} {ac : Nat → ClassId} {n : Nat} {r : Int32 × (St × (St × (St × (St))))} (C : nd_C p l s m args c A (dC, dI) cX15_compile 5 RX15 ow_dm_X15_compile (dk_X15t ac)) (K : nd_Ki p l e (headSpec ow_dm_X15_compile ({ frames := 4, cells := 0, slots := 0, locals := 98 })).room s m args below meth c Q A (dC, dI) cX15_compile .int (St × (St × (St × (St)))) (dw_X15t a ac) r) (k : Nat) : dj_X15_compile_3 p l e s m args below meth c Q A dC dI a ac (df_X15_compile_3 n k) r := by
  induction k with
  | zero => intro x1 x3 x4 s0 H locs ls h; exact nomatch (show (none : Option (Int32 × (St × (St × (St × (St)))))) = some r from h)
  | succ k ih => exact dB_X15_compile_3 C K ih
set_option maxHeartbeats 40000000 in
set_option maxRecDepth 100000 in
theorem db_X15_compile_0 {p : Program} {l : Launch} {e : Env} {s : State} {m : MethodId} {args : Array Value} {below : List Frame} {meth : Method} {c : Code} {Q : State → Prop} {A : Nat → Prop} {dC : Nat → ClassId} {dI : Nat → Nat → Nat} {a : Nat → Nat} {ac : Nat → ClassId} {n : Nat} {r : Int32 × (St × (St × (St × (St))))} (C : nd_C p l s m args c A (dC, dI) cX15_compile 5 RX15 ow_dm_X15_compile (dk_X15t ac)) (K : nd_Ki p l e (headSpec ow_dm_X15_compile ({ frames := 4, cells := 0, slots := 0, locals := 98 })).room s m args below meth c Q A (dC, dI) cX15_compile .int (St × (St × (St × (St)))) (dw_X15t a ac) r) : dj_X15_compile_0 p l e s m args below meth c Q A dC dI a ac (df_X15_compile_0 n) r := by
  obtain ⟨hlt, hx, hb, hml, hown, hts, hN, hA, hK⟩ := id C
  intro v0 v2 s0 H locs ls h hP hD hS hl
  unfold df_X15_compile_0 at h
  refine lv_iconst (v := 0) hx hb dX15_compile_0 (by decide) ?_
  refine lv_istore (lv' := [(4, .int 0), (0, .ref (a 1)), (1, .int v0), (2, .ref (a 0)), (3, .int v2)]) hx hb dX15_compile_1 hl (by decide) rfl (fun ls hl => ?_)
  exact (db_X15_compile_3 C K n) (v0) (v2) (0) s0 _ _ _ h hP hD hS (lv_sub hl [1, 2, 3, 4, 0] rfl)
set_option maxHeartbeats 40000000 in
set_option maxRecDepth 100000 in
theorem dm_X15_compile (l : Launch) (hlt : l.stackTraces = false) (dC : Nat → ClassId) (dI : Nat → Nat → Nat) (a : Nat → Nat) (ac : Nat → ClassId) (n : Nat) (v0 : Int32) (v2 : Int32) (s0 : St × (St × (St × (St)))) {r : Int32 × (St × (St × (St × (St))))} (h : df_X15_compile n v0 v2 s0 = some r) (sz : Nat) : Met l yX15_compile ow_dm_X15_compile ({ frames := 4, cells := 0, slots := 0, locals := 98 }) (va_Pc [.ref (a 1), .int v0, .ref (a 0), .int v2] (fun U => U.heap.size = sz ∧ va_P (dC, dI) vwCl (dw_X15t a ac s0) U.heap ∧ va_K (dC, dI) vwCl (dk_X15t ac) U ∧ va_D (fun _ => True) (dw_X15t a ac s0) ∧ nv_E dI (va_A (dw_X15t a ac s0) sz) U)) (va_Qi (fun x _ => x = r.1) (fun (_ : Unit) t => va_P (dC, dI) vwCl (dw_X15t a ac r.2) t.heap ∧ va_K (dC, dI) vwCl (dk_X15t ac) t ∧ va_D (va_A (dw_X15t a ac s0) sz) (dw_X15t a ac r.2)) (va_A (dw_X15t a ac s0) sz)) 0 0 (va_A (dw_X15t a ac s0) sz) := by
  refine Met.ofW (cc := cX15_compile) (maxL := 5) (ret := (some .int)) (by decide) rfl ?_
  intro p e s m args below meth c s₁ B hml hv
  obtain ⟨rfl, hsz, hP, hK, hD0, hN⟩ := hv
  have hx := B.exec
  have hb := B.bytes
  have hr := B.returns
  have hts := atoms_spec (ws := ow_dm_X15_compile) B.pre
  have hown : s.vm.findClass RX15 = some m.cls := findClass_of_methodNamed B.named
  have hlocks := B.notSynchronized
  subst hsz
  have hD := hD0.self (sz := s.heap.size)
  generalize hAe : va_A (dw_X15t a ac s0) s.heap.size = A at hD hN ⊢
  have hA : ∀ q : Nat, s.heap.size ≤ q → A q := fun q h => by rw [← hAe]; exact Or.inr h
  have hl := lv_entry ([.ref (a 1), .int v0, .ref (a 0), .int v2]) (n := 5) (Nat.le_of_ble_eq_true rfl)
  rw [lg_entry_eq]
  generalize (lg_sl ([.ref (a 1), .int v0, .ref (a 0), .int v2]) ++ List.replicate (5 - (lg_sl ([.ref (a 1), .int v0, .ref (a 0), .int v2])).length) Slot.unset).toArray = ls at hl ⊢
  have hl : lv_has ls 5 [(0, .ref (a 1)), (1, .int v0), (2, .ref (a 0)), (3, .int v2)] := hl
  exact db_X15_compile_0 (dC := dC) (dI := dI) (a := a) (ac := ac) (n := n) (r := r) ⟨hlt, hx, hb, hml, hown, hts, hN, hA, hK⟩ (fun pc v τ H locs ls d z er hP hD hS => by subst er; exact W.zret (v := v) hx hb hr z (fun t ht hW => ⟨⟨v, (), rfl, rfl, by rw [ht]; exact hP, va_K.moved hW.alike hK, hD⟩, hS.F ht⟩) hS.2.2 d) v0 v2 s0 _ _ _ h hP hD va_S.rf (lv_sub hl [0, 1, 2, 3] rfl)
def ow_dm_X3_isEvent : List Cond := Cond.code yX3_isEvent cX3_isEvent 4 (some .boolean) :: ([Cond.constantLong RX3 29 (16), Cond.constantLong RX3 31 (1099511627776)] ++ [])
theorem gd_dm_X3_isEvent : ∀ w ∈ ow_dm_X3_isEvent, (w.onTables && w.keeps) = true ∨ ∃ ty, w = Cond.arrayClass ty := List.forall_mem_cons.mpr ⟨good_of_word rfl, List.forall_mem_append.mpr ⟨fun w h => good_of_word (List.all_eq_true.mp (by decide +kernel) w h), fun _ h => nomatch h⟩⟩
def dj_X3_isEvent_51 (p : Program) (l : Launch) (e : Env) (s : State) (m : MethodId) (args : Array Value) (below : List Frame) (meth : Method) (c : Code) (Q : State → Prop) (A : Nat → Prop) (dC : Nat → ClassId) (dI : Nat → Nat → Nat) (a : Nat → Nat) (ac : Nat → ClassId) (g : Int32 → (Unit) → Option (Int32 × (Unit))) (r : Int32 × (Unit)) : Prop := ∀ (y0 : Int32) (s0 : Unit) (H : Heap) (locs : List Loc) (ls : Array Slot), g y0 s0 = some r → va_P (dC, dI) vwCl (dw_P a ac s0) H → va_D A (dw_P a ac s0) → va_S A s.heap H locs → lv_has ls 4 [] → W p l e (headSpec ow_dm_X3_isEvent ({ frames := 0, cells := 0, slots := 0, locals := 0 })).room s m args below meth c H locs 0 0 Q (F0 m 51 ls [.int y0])
def dj_X3_isEvent_50 (p : Program) (l : Launch) (e : Env) (s : State) (m : MethodId) (args : Array Value) (below : List Frame) (meth : Method) (c : Code) (Q : State → Prop) (A : Nat → Prop) (dC : Nat → ClassId) (dI : Nat → Nat → Nat) (a : Nat → Nat) (ac : Nat → ClassId) (g : (Unit) → Option (Int32 × (Unit))) (r : Int32 × (Unit)) : Prop := ∀ (s0 : Unit) (H : Heap) (locs : List Loc) (ls : Array Slot), g s0 = some r → va_P (dC, dI) vwCl (dw_P a ac s0) H → va_D A (dw_P a ac s0) → va_S A s.heap H locs → lv_has ls 4 [] → W p l e (headSpec ow_dm_X3_isEvent ({ frames := 0, cells := 0, slots := 0, locals := 0 })).room s m args below meth c H locs 0 0 Q (F0 m 50 ls [])
def dj_X3_isEvent_68 (p : Program) (l : Launch) (e : Env) (s : State) (m : MethodId) (args : Array Value) (below : List Frame) (meth : Method) (c : Code) (Q : State → Prop) (A : Nat → Prop) (dC : Nat → ClassId) (dI : Nat → Nat → Nat) (a : Nat → Nat) (ac : Nat → ClassId) (g : Int32 → (Unit) → Option (Int32 × (Unit))) (r : Int32 × (Unit)) : Prop := ∀ (y0 : Int32) (s0 : Unit) (H : Heap) (locs : List Loc) (ls : Array Slot), g y0 s0 = some r → va_P (dC, dI) vwCl (dw_P a ac s0) H → va_D A (dw_P a ac s0) → va_S A s.heap H locs → lv_has ls 4 [] → W p l e (headSpec ow_dm_X3_isEvent ({ frames := 0, cells := 0, slots := 0, locals := 0 })).room s m args below meth c H locs 0 0 Q (F0 m 68 ls [.int y0])
def dj_X3_isEvent_67 (p : Program) (l : Launch) (e : Env) (s : State) (m : MethodId) (args : Array Value) (below : List Frame) (meth : Method) (c : Code) (Q : State → Prop) (A : Nat → Prop) (dC : Nat → ClassId) (dI : Nat → Nat → Nat) (a : Nat → Nat) (ac : Nat → ClassId) (g : (Unit) → Option (Int32 × (Unit))) (r : Int32 × (Unit)) : Prop := ∀ (s0 : Unit) (H : Heap) (locs : List Loc) (ls : Array Slot), g s0 = some r → va_P (dC, dI) vwCl (dw_P a ac s0) H → va_D A (dw_P a ac s0) → va_S A s.heap H locs → lv_has ls 4 [] → W p l e (headSpec ow_dm_X3_isEvent ({ frames := 0, cells := 0, slots := 0, locals := 0 })).room s m args below meth c H locs 0 0 Q (F0 m 67 ls [])
def dj_X3_isEvent_99 (p : Program) (l : Launch) (e : Env) (s : State) (m : MethodId) (args : Array Value) (below : List Frame) (meth : Method) (c : Code) (Q : State → Prop) (A : Nat → Prop) (dC : Nat → ClassId) (dI : Nat → Nat → Nat) (a : Nat → Nat) (ac : Nat → ClassId) (g : Int32 → (Unit) → Option (Int32 × (Unit))) (r : Int32 × (Unit)) : Prop := ∀ (y0 : Int32) (s0 : Unit) (H : Heap) (locs : List Loc) (ls : Array Slot), g y0 s0 = some r → va_P (dC, dI) vwCl (dw_P a ac s0) H → va_D A (dw_P a ac s0) → va_S A s.heap H locs → lv_has ls 4 [] → W p l e (headSpec ow_dm_X3_isEvent ({ frames := 0, cells := 0, slots := 0, locals := 0 })).room s m args below meth c H locs 0 0 Q (F0 m 99 ls [.int y0])
def dj_X3_isEvent_98 (p : Program) (l : Launch) (e : Env) (s : State) (m : MethodId) (args : Array Value) (below : List Frame) (meth : Method) (c : Code) (Q : State → Prop) (A : Nat → Prop) (dC : Nat → ClassId) (dI : Nat → Nat → Nat) (a : Nat → Nat) (ac : Nat → ClassId) (g : (Unit) → Option (Int32 × (Unit))) (r : Int32 × (Unit)) : Prop := ∀ (s0 : Unit) (H : Heap) (locs : List Loc) (ls : Array Slot), g s0 = some r → va_P (dC, dI) vwCl (dw_P a ac s0) H → va_D A (dw_P a ac s0) → va_S A s.heap H locs → lv_has ls 4 [] → W p l e (headSpec ow_dm_X3_isEvent ({ frames := 0, cells := 0, slots := 0, locals := 0 })).room s m args below meth c H locs 0 0 Q (F0 m 98 ls [])
def dj_X3_isEvent_119 (p : Program) (l : Launch) (e : Env) (s : State) (m : MethodId) (args : Array Value) (below : List Frame) (meth : Method) (c : Code) (Q : State → Prop) (A : Nat → Prop) (dC : Nat → ClassId) (dI : Nat → Nat → Nat) (a : Nat → Nat) (ac : Nat → ClassId) (g : Int32 → (Unit) → Option (Int32 × (Unit))) (r : Int32 × (Unit)) : Prop := ∀ (y0 : Int32) (s0 : Unit) (H : Heap) (locs : List Loc) (ls : Array Slot), g y0 s0 = some r → va_P (dC, dI) vwCl (dw_P a ac s0) H → va_D A (dw_P a ac s0) → va_S A s.heap H locs → lv_has ls 4 [] → W p l e (headSpec ow_dm_X3_isEvent ({ frames := 0, cells := 0, slots := 0, locals := 0 })).room s m args below meth c H locs 0 0 Q (F0 m 119 ls [.int y0])
def dj_X3_isEvent_118 (p : Program) (l : Launch) (e : Env) (s : State) (m : MethodId) (args : Array Value) (below : List Frame) (meth : Method) (c : Code) (Q : State → Prop) (A : Nat → Prop) (dC : Nat → ClassId) (dI : Nat → Nat → Nat) (a : Nat → Nat) (ac : Nat → ClassId) (g : (Unit) → Option (Int32 × (Unit))) (r : Int32 × (Unit)) : Prop := ∀ (s0 : Unit) (H : Heap) (locs : List Loc) (ls : Array Slot), g s0 = some r → va_P (dC, dI) vwCl (dw_P a ac s0) H → va_D A (dw_P a ac s0) → va_S A s.heap H locs → lv_has ls 4 [] → W p l e (headSpec ow_dm_X3_isEvent ({ frames := 0, cells := 0, slots := 0, locals := 0 })).room s m args below meth c H locs 0 0 Q (F0 m 118 ls [])
def dj_X3_isEvent_130 (p : Program) (l : Launch) (e : Env) (s : State) (m : MethodId) (args : Array Value) (below : List Frame) (meth : Method) (c : Code) (Q : State → Prop) (A : Nat → Prop) (dC : Nat → ClassId) (dI : Nat → Nat → Nat) (a : Nat → Nat) (ac : Nat → ClassId) (g : Int32 → (Unit) → Option (Int32 × (Unit))) (r : Int32 × (Unit)) : Prop := ∀ (y0 : Int32) (s0 : Unit) (H : Heap) (locs : List Loc) (ls : Array Slot), g y0 s0 = some r → va_P (dC, dI) vwCl (dw_P a ac s0) H → va_D A (dw_P a ac s0) → va_S A s.heap H locs → lv_has ls 4 [] → W p l e (headSpec ow_dm_X3_isEvent ({ frames := 0, cells := 0, slots := 0, locals := 0 })).room s m args below meth c H locs 0 0 Q (F0 m 130 ls [.int y0])
def dj_X3_isEvent_0 (p : Program) (l : Launch) (e : Env) (s : State) (m : MethodId) (args : Array Value) (below : List Frame) (meth : Method) (c : Code) (Q : State → Prop) (A : Nat → Prop) (dC : Nat → ClassId) (dI : Nat → Nat → Nat) (a : Nat → Nat) (ac : Nat → ClassId) (g : Int32 → Int64 → Int32 → (Unit) → Option (Int32 × (Unit))) (r : Int32 × (Unit)) : Prop := ∀ (v0 : Int32) (v1 : Int64) (v2 : Int32) (s0 : Unit) (H : Heap) (locs : List Loc) (ls : Array Slot), g v0 v1 v2 s0 = some r → va_P (dC, dI) vwCl (dw_P a ac s0) H → va_D A (dw_P a ac s0) → va_S A s.heap H locs → lv_has ls 4 [(0, .int v0), (1, .long v1), (3, .int v2)] → W p l e (headSpec ow_dm_X3_isEvent ({ frames := 0, cells := 0, slots := 0, locals := 0 })).room s m args below meth c H locs 0 0 Q (F0 m 0 ls [])
set_option maxHeartbeats 40000000 in
set_option maxRecDepth 100000 in
theorem db_X3_isEvent_51 {p : Program} {l : Launch} {e : Env} {s : State} {m : MethodId} {args : Array Value} {below : List Frame} {meth : Method} {c : Code} {Q : State → Prop} {A : Nat → Prop} {dC : Nat → ClassId} {dI : Nat → Nat → Nat} {a : Nat → Nat} {ac : Nat → ClassId} {n : Nat} {r : Int32 × (Unit)} (C : nd_C p l s m args c A (dC, dI) cX3_isEvent 4 RX3 ow_dm_X3_isEvent (dk_P ac)) (K : nd_Ki p l e (headSpec ow_dm_X3_isEvent ({ frames := 0, cells := 0, slots := 0, locals := 0 })).room s m args below meth c Q A (dC, dI) cX3_isEvent .boolean (Unit) (dw_P a ac) r) : dj_X3_isEvent_51 p l e s m args below meth c Q A dC dI a ac (df_X3_isEvent_51 n) r := by
  obtain ⟨hlt, hx, hb, hml, hown, hts, hN, hA, hK⟩ := id C
  intro y0 s0 H locs ls h hP hD hS hl
  unfold df_X3_isEvent_51 at h
  obtain ⟨n3, h⟩ := nd_z_e ⟨_, rfl⟩ h
  exact K _ _ _ _ _ _ dX3_isEvent_51 n3 (Option.some.inj h).symm hP hD hS
set_option maxHeartbeats 40000000 in
set_option maxRecDepth 100000 in
theorem db_X3_isEvent_50 {p : Program} {l : Launch} {e : Env} {s : State} {m : MethodId} {args : Array Value} {below : List Frame} {meth : Method} {c : Code} {Q : State → Prop} {A : Nat → Prop} {dC : Nat → ClassId} {dI : Nat → Nat → Nat} {a : Nat → Nat} {ac : Nat → ClassId} {n : Nat} {r : Int32 × (Unit)} (C : nd_C p l s m args c A (dC, dI) cX3_isEvent 4 RX3 ow_dm_X3_isEvent (dk_P ac)) (K : nd_Ki p l e (headSpec ow_dm_X3_isEvent ({ frames := 0, cells := 0, slots := 0, locals := 0 })).room s m args below meth c Q A (dC, dI) cX3_isEvent .boolean (Unit) (dw_P a ac) r) : dj_X3_isEvent_50 p l e s m args below meth c Q A dC dI a ac (df_X3_isEvent_50 n) r := by
  obtain ⟨hlt, hx, hb, hml, hown, hts, hN, hA, hK⟩ := id C
  intro s0 H locs ls h hP hD hS hl
  unfold df_X3_isEvent_50 at h
  refine lv_iconst (v := 0) hx hb dX3_isEvent_50 (by decide) ?_
  exact (db_X3_isEvent_51 C K) (0) s0 _ _ _ h hP hD hS (lv_sub hl [] rfl)
set_option maxHeartbeats 40000000 in
set_option maxRecDepth 100000 in
theorem db_X3_isEvent_68 {p : Program} {l : Launch} {e : Env} {s : State} {m : MethodId} {args : Array Value} {below : List Frame} {meth : Method} {c : Code} {Q : State → Prop} {A : Nat → Prop} {dC : Nat → ClassId} {dI : Nat → Nat → Nat} {a : Nat → Nat} {ac : Nat → ClassId} {n : Nat} {r : Int32 × (Unit)} (C : nd_C p l s m args c A (dC, dI) cX3_isEvent 4 RX3 ow_dm_X3_isEvent (dk_P ac)) (K : nd_Ki p l e (headSpec ow_dm_X3_isEvent ({ frames := 0, cells := 0, slots := 0, locals := 0 })).room s m args below meth c Q A (dC, dI) cX3_isEvent .boolean (Unit) (dw_P a ac) r) : dj_X3_isEvent_68 p l e s m args below meth c Q A dC dI a ac (df_X3_isEvent_68 n) r := by
  obtain ⟨hlt, hx, hb, hml, hown, hts, hN, hA, hK⟩ := id C
  intro y0 s0 H locs ls h hP hD hS hl
  unfold df_X3_isEvent_68 at h
  obtain ⟨n7, h⟩ := nd_z_e ⟨_, rfl⟩ h
  exact K _ _ _ _ _ _ dX3_isEvent_68 n7 (Option.some.inj h).symm hP hD hS
set_option maxHeartbeats 40000000 in
set_option maxRecDepth 100000 in
theorem db_X3_isEvent_67 {p : Program} {l : Launch} {e : Env} {s : State} {m : MethodId} {args : Array Value} {below : List Frame} {meth : Method} {c : Code} {Q : State → Prop} {A : Nat → Prop} {dC : Nat → ClassId} {dI : Nat → Nat → Nat} {a : Nat → Nat} {ac : Nat → ClassId} {n : Nat} {r : Int32 × (Unit)} (C : nd_C p l s m args c A (dC, dI) cX3_isEvent 4 RX3 ow_dm_X3_isEvent (dk_P ac)) (K : nd_Ki p l e (headSpec ow_dm_X3_isEvent ({ frames := 0, cells := 0, slots := 0, locals := 0 })).room s m args below meth c Q A (dC, dI) cX3_isEvent .boolean (Unit) (dw_P a ac) r) : dj_X3_isEvent_67 p l e s m args below meth c Q A dC dI a ac (df_X3_isEvent_67 n) r := by
  obtain ⟨hlt, hx, hb, hml, hown, hts, hN, hA, hK⟩ := id C
  intro s0 H locs ls h hP hD hS hl
  unfold df_X3_isEvent_67 at h
  refine lv_iconst (v := 0) hx hb dX3_isEvent_67 (by decide) ?_
  exact (db_X3_isEvent_68 C K) (0) s0 _ _ _ h hP hD hS (lv_sub hl [] rfl)
set_option maxHeartbeats 40000000 in
set_option maxRecDepth 100000 in
theorem db_X3_isEvent_99 {p : Program} {l : Launch} {e : Env} {s : State} {m : MethodId} {args : Array Value} {below : List Frame} {meth : Method} {c : Code} {Q : State → Prop} {A : Nat → Prop} {dC : Nat → ClassId} {dI : Nat → Nat → Nat} {a : Nat → Nat} {ac : Nat → ClassId} {n : Nat} {r : Int32 × (Unit)} (C : nd_C p l s m args c A (dC, dI) cX3_isEvent 4 RX3 ow_dm_X3_isEvent (dk_P ac)) (K : nd_Ki p l e (headSpec ow_dm_X3_isEvent ({ frames := 0, cells := 0, slots := 0, locals := 0 })).room s m args below meth c Q A (dC, dI) cX3_isEvent .boolean (Unit) (dw_P a ac) r) : dj_X3_isEvent_99 p l e s m args below meth c Q A dC dI a ac (df_X3_isEvent_99 n) r := by
  obtain ⟨hlt, hx, hb, hml, hown, hts, hN, hA, hK⟩ := id C
  intro y0 s0 H locs ls h hP hD hS hl
  unfold df_X3_isEvent_99 at h
  obtain ⟨n11, h⟩ := nd_z_e ⟨_, rfl⟩ h
  exact K _ _ _ _ _ _ dX3_isEvent_99 n11 (Option.some.inj h).symm hP hD hS
set_option maxHeartbeats 40000000 in
set_option maxRecDepth 100000 in
theorem db_X3_isEvent_98 {p : Program} {l : Launch} {e : Env} {s : State} {m : MethodId} {args : Array Value} {below : List Frame} {meth : Method} {c : Code} {Q : State → Prop} {A : Nat → Prop} {dC : Nat → ClassId} {dI : Nat → Nat → Nat} {a : Nat → Nat} {ac : Nat → ClassId} {n : Nat} {r : Int32 × (Unit)} (C : nd_C p l s m args c A (dC, dI) cX3_isEvent 4 RX3 ow_dm_X3_isEvent (dk_P ac)) (K : nd_Ki p l e (headSpec ow_dm_X3_isEvent ({ frames := 0, cells := 0, slots := 0, locals := 0 })).room s m args below meth c Q A (dC, dI) cX3_isEvent .boolean (Unit) (dw_P a ac) r) : dj_X3_isEvent_98 p l e s m args below meth c Q A dC dI a ac (df_X3_isEvent_98 n) r := by
  obtain ⟨hlt, hx, hb, hml, hown, hts, hN, hA, hK⟩ := id C
  intro s0 H locs ls h hP hD hS hl
  unfold df_X3_isEvent_98 at h
  refine lv_iconst (v := 0) hx hb dX3_isEvent_98 (by decide) ?_
  exact (db_X3_isEvent_99 C K) (0) s0 _ _ _ h hP hD hS (lv_sub hl [] rfl)
set_option maxHeartbeats 40000000 in
set_option maxRecDepth 100000 in
theorem db_X3_isEvent_119 {p : Program} {l : Launch} {e : Env} {s : State} {m : MethodId} {args : Array Value} {below : List Frame} {meth : Method} {c : Code} {Q : State → Prop} {A : Nat → Prop} {dC : Nat → ClassId} {dI : Nat → Nat → Nat} {a : Nat → Nat} {ac : Nat → ClassId} {n : Nat} {r : Int32 × (Unit)} (C : nd_C p l s m args c A (dC, dI) cX3_isEvent 4 RX3 ow_dm_X3_isEvent (dk_P ac)) (K : nd_Ki p l e (headSpec ow_dm_X3_isEvent ({ frames := 0, cells := 0, slots := 0, locals := 0 })).room s m args below meth c Q A (dC, dI) cX3_isEvent .boolean (Unit) (dw_P a ac) r) : dj_X3_isEvent_119 p l e s m args below meth c Q A dC dI a ac (df_X3_isEvent_119 n) r := by
  obtain ⟨hlt, hx, hb, hml, hown, hts, hN, hA, hK⟩ := id C
  intro y0 s0 H locs ls h hP hD hS hl
  unfold df_X3_isEvent_119 at h
  obtain ⟨n17, h⟩ := nd_z_e ⟨_, rfl⟩ h
  exact K _ _ _ _ _ _ dX3_isEvent_119 n17 (Option.some.inj h).symm hP hD hS
set_option maxHeartbeats 40000000 in
set_option maxRecDepth 100000 in
theorem db_X3_isEvent_118 {p : Program} {l : Launch} {e : Env} {s : State} {m : MethodId} {args : Array Value} {below : List Frame} {meth : Method} {c : Code} {Q : State → Prop} {A : Nat → Prop} {dC : Nat → ClassId} {dI : Nat → Nat → Nat} {a : Nat → Nat} {ac : Nat → ClassId} {n : Nat} {r : Int32 × (Unit)} (C : nd_C p l s m args c A (dC, dI) cX3_isEvent 4 RX3 ow_dm_X3_isEvent (dk_P ac)) (K : nd_Ki p l e (headSpec ow_dm_X3_isEvent ({ frames := 0, cells := 0, slots := 0, locals := 0 })).room s m args below meth c Q A (dC, dI) cX3_isEvent .boolean (Unit) (dw_P a ac) r) : dj_X3_isEvent_118 p l e s m args below meth c Q A dC dI a ac (df_X3_isEvent_118 n) r := by
  obtain ⟨hlt, hx, hb, hml, hown, hts, hN, hA, hK⟩ := id C
  intro s0 H locs ls h hP hD hS hl
  unfold df_X3_isEvent_118 at h
  refine lv_iconst (v := 0) hx hb dX3_isEvent_118 (by decide) ?_
  exact (db_X3_isEvent_119 C K) (0) s0 _ _ _ h hP hD hS (lv_sub hl [] rfl)
set_option maxHeartbeats 40000000 in
set_option maxRecDepth 100000 in
theorem db_X3_isEvent_130 {p : Program} {l : Launch} {e : Env} {s : State} {m : MethodId} {args : Array Value} {below : List Frame} {meth : Method} {c : Code} {Q : State → Prop} {A : Nat → Prop} {dC : Nat → ClassId} {dI : Nat → Nat → Nat} {a : Nat → Nat} {ac : Nat → ClassId} {n : Nat} {r : Int32 × (Unit)} (C : nd_C p l s m args c A (dC, dI) cX3_isEvent 4 RX3 ow_dm_X3_isEvent (dk_P ac)) (K : nd_Ki p l e (headSpec ow_dm_X3_isEvent ({ frames := 0, cells := 0, slots := 0, locals := 0 })).room s m args below meth c Q A (dC, dI) cX3_isEvent .boolean (Unit) (dw_P a ac) r) : dj_X3_isEvent_130 p l e s m args below meth c Q A dC dI a ac (df_X3_isEvent_130 n) r := by
  obtain ⟨hlt, hx, hb, hml, hown, hts, hN, hA, hK⟩ := id C
  intro y0 s0 H locs ls h hP hD hS hl
  unfold df_X3_isEvent_130 at h
  obtain ⟨n20, h⟩ := nd_z_e ⟨_, rfl⟩ h
  exact K _ _ _ _ _ _ dX3_isEvent_130 n20 (Option.some.inj h).symm hP hD hS
set_option maxHeartbeats 40000000 in
set_option maxRecDepth 100000 in
theorem db_X3_isEvent_0 {p : Program} {l : Launch} {e : Env} {s : State} {m : MethodId} {args : Array Value} {below : List Frame} {meth : Method} {c : Code} {Q : State → Prop} {A : Nat → Prop} {dC : Nat → ClassId} {dI : Nat → Nat → Nat} {a : Nat → Nat} {ac : Nat → ClassId} {n : Nat} {r : Int32 × (Unit)} (C : nd_C p l s m args c A (dC, dI) cX3_isEvent 4 RX3 ow_dm_X3_isEvent (dk_P ac)) (K : nd_Ki p l e (headSpec ow_dm_X3_isEvent ({ frames := 0, cells := 0, slots := 0, locals := 0 })).room s m args below meth c Q A (dC, dI) cX3_isEvent .boolean (Unit) (dw_P a ac) r) : dj_X3_isEvent_0 p l e s m args below meth c Q A dC dI a ac (df_X3_isEvent_0 n) r := by
  obtain ⟨hlt, hx, hb, hml, hown, hts, hN, hA, hK⟩ := id C
  intro v0 v1 v2 s0 H locs ls h hP hD hS hl
  unfold df_X3_isEvent_0 at h
  refine lv_iload_n hx hb dX3_isEvent_0 rfl (lv_at hl 0 rfl) ?_
  by_cases c1 : v0 = 0
  · have h := nd_pos h c1
    refine lv_tableIn (off := 31) (tgt := 32) hx hb dX3_isEvent_1 (by rw [c1]; decide) (by rw [c1]; decide) (by rw [c1]; decide) (by decide) ?_
    refine lv_lload_n hx hb dX3_isEvent_32 rfl (lv_at hl 1 rfl) ?_
    refine lv_lconst (v := 0) hx hb dX3_isEvent_33 (by decide) ?_
    refine W.lcmp hx hb dX3_isEvent_34 ?_
    refine lv_if_lt (tgt := 50) hx hb dX3_isEvent_35 (by decide) (fun c2 => ?_) (fun c2 => ?_)
    · have h := nd_pos h c2
      exact (db_X3_isEvent_50 C K)  s0 _ _ _ h hP hD hS (lv_sub hl [] rfl)
    · have h := nd_neg h c2
      refine lv_lload_n hx hb dX3_isEvent_38 rfl (lv_at hl 1 rfl) ?_
      refine lv_ldc2 hx hb hown (hts (.constantLong RX3 29 (16)) (List.mem_of_getElem? (i := 1) rfl)) dX3_isEvent_39 ?_
      refine W.lcmp hx hb dX3_isEvent_42 ?_
      refine lv_if_ge (tgt := 50) hx hb dX3_isEvent_43 (by decide) (fun c4 => ?_) (fun c4 => ?_)
      · have h := nd_pos h c4
        exact (db_X3_isEvent_50 C K)  s0 _ _ _ h hP hD hS (lv_sub hl [] rfl)
      · have h := nd_neg h c4
        refine lv_iconst (v := 1) hx hb dX3_isEvent_46 (by decide) ?_
        refine lv_goto (tgt := 51) hx hb dX3_isEvent_47 (by decide) ?_
        exact (db_X3_isEvent_51 C K) (1) s0 _ _ _ h hP hD hS (lv_sub hl [] rfl)
  have h := nd_neg h c1
  by_cases c5 : v0 = 1
  · have h := nd_pos h c5
    refine lv_tableIn (off := 51) (tgt := 52) hx hb dX3_isEvent_1 (by rw [c5]; decide) (by rw [c5]; decide) (by rw [c5]; decide) (by decide) ?_
    refine lv_iload_n hx hb dX3_isEvent_52 rfl (lv_at hl 2 rfl) ?_
    refine lv_iconst (v := 1) hx hb dX3_isEvent_53 (by decide) ?_
    refine lv_icmp_lt (tgt := 67) hx hb dX3_isEvent_54 (by decide) (fun c6 => ?_) (fun c6 => ?_)
    · have h := nd_pos h c6
      exact (db_X3_isEvent_67 C K)  s0 _ _ _ h hP hD hS (lv_sub hl [] rfl)
    · have h := nd_neg h c6
      refine lv_iload_n hx hb dX3_isEvent_57 rfl (lv_at hl 2 rfl) ?_
      refine lv_bipush (v := 8) hx hb dX3_isEvent_58 (by decide) ?_
      refine lv_icmp_gt (tgt := 67) hx hb dX3_isEvent_60 (by decide) (fun c8 => ?_) (fun c8 => ?_)
      · have h := nd_pos h c8
        exact (db_X3_isEvent_67 C K)  s0 _ _ _ h hP hD hS (lv_sub hl [] rfl)
      · have h := nd_neg h c8
        refine lv_iconst (v := 1) hx hb dX3_isEvent_63 (by decide) ?_
        refine lv_goto (tgt := 68) hx hb dX3_isEvent_64 (by decide) ?_
        exact (db_X3_isEvent_68 C K) (1) s0 _ _ _ h hP hD hS (lv_sub hl [] rfl)
  have h := nd_neg h c5
  by_cases c9 : v0 = 2
  · have h := nd_pos h c9
    refine lv_tableIn (off := 68) (tgt := 69) hx hb dX3_isEvent_1 (by rw [c9]; decide) (by rw [c9]; decide) (by rw [c9]; decide) (by decide) ?_
    refine lv_lload_n hx hb dX3_isEvent_69 rfl (lv_at hl 1 rfl) ?_
    refine lv_lconst (v := 0) hx hb dX3_isEvent_70 (by decide) ?_
    refine W.lcmp hx hb dX3_isEvent_71 ?_
    refine lv_if_lt (tgt := 98) hx hb dX3_isEvent_72 (by decide) (fun c10 => ?_) (fun c10 => ?_)
    · have h := nd_pos h c10
      exact (db_X3_isEvent_98 C K)  s0 _ _ _ h hP hD hS (lv_sub hl [] rfl)
    · have h := nd_neg h c10
      refine lv_lload_n hx hb dX3_isEvent_75 rfl (lv_at hl 1 rfl) ?_
      refine lv_ldc2 hx hb hown (hts (.constantLong RX3 29 (16)) (List.mem_of_getElem? (i := 1) rfl)) dX3_isEvent_76 ?_
      refine W.lcmp hx hb dX3_isEvent_79 ?_
      refine lv_if_ge (tgt := 98) hx hb dX3_isEvent_80 (by decide) (fun c12 => ?_) (fun c12 => ?_)
      · have h := nd_pos h c12
        exact (db_X3_isEvent_98 C K)  s0 _ _ _ h hP hD hS (lv_sub hl [] rfl)
      · have h := nd_neg h c12
        refine lv_iload_n hx hb dX3_isEvent_83 rfl (lv_at hl 2 rfl) ?_
        refine lv_iconst (v := 1) hx hb dX3_isEvent_84 (by decide) ?_
        refine lv_icmp_lt (tgt := 98) hx hb dX3_isEvent_85 (by decide) (fun c13 => ?_) (fun c13 => ?_)
        · have h := nd_pos h c13
          exact (db_X3_isEvent_98 C K)  s0 _ _ _ h hP hD hS (lv_sub hl [] rfl)
        · have h := nd_neg h c13
          refine lv_iload_n hx hb dX3_isEvent_88 rfl (lv_at hl 2 rfl) ?_
          refine lv_bipush (v := 31) hx hb dX3_isEvent_89 (by decide) ?_
          refine lv_icmp_gt (tgt := 98) hx hb dX3_isEvent_91 (by decide) (fun c14 => ?_) (fun c14 => ?_)
          · have h := nd_pos h c14
            exact (db_X3_isEvent_98 C K)  s0 _ _ _ h hP hD hS (lv_sub hl [] rfl)
          · have h := nd_neg h c14
            refine lv_iconst (v := 1) hx hb dX3_isEvent_94 (by decide) ?_
            refine lv_goto (tgt := 99) hx hb dX3_isEvent_95 (by decide) ?_
            exact (db_X3_isEvent_99 C K) (1) s0 _ _ _ h hP hD hS (lv_sub hl [] rfl)
  have h := nd_neg h c9
  by_cases c15 : v0 = 3
  · have h := nd_pos h c15
    refine lv_tableIn (off := 99) (tgt := 100) hx hb dX3_isEvent_1 (by rw [c15]; decide) (by rw [c15]; decide) (by rw [c15]; decide) (by decide) ?_
    refine lv_lload_n hx hb dX3_isEvent_100 rfl (lv_at hl 1 rfl) ?_
    refine lv_lconst (v := 0) hx hb dX3_isEvent_101 (by decide) ?_
    refine W.lcmp hx hb dX3_isEvent_102 ?_
    refine lv_if_lt (tgt := 118) hx hb dX3_isEvent_103 (by decide) (fun c16 => ?_) (fun c16 => ?_)
    · have h := nd_pos h c16
      exact (db_X3_isEvent_118 C K)  s0 _ _ _ h hP hD hS (lv_sub hl [] rfl)
    · have h := nd_neg h c16
      refine lv_lload_n hx hb dX3_isEvent_106 rfl (lv_at hl 1 rfl) ?_
      refine lv_ldc2 hx hb hown (hts (.constantLong RX3 31 (1099511627776)) (List.mem_of_getElem? (i := 2) rfl)) dX3_isEvent_107 ?_
      refine W.lcmp hx hb dX3_isEvent_110 ?_
      refine lv_if_gt (tgt := 118) hx hb dX3_isEvent_111 (by decide) (fun c18 => ?_) (fun c18 => ?_)
      · have h := nd_pos h c18
        exact (db_X3_isEvent_118 C K)  s0 _ _ _ h hP hD hS (lv_sub hl [] rfl)
      · have h := nd_neg h c18
        refine lv_iconst (v := 1) hx hb dX3_isEvent_114 (by decide) ?_
        refine lv_goto (tgt := 119) hx hb dX3_isEvent_115 (by decide) ?_
        exact (db_X3_isEvent_119 C K) (1) s0 _ _ _ h hP hD hS (lv_sub hl [] rfl)
  have h := nd_neg h c15
  refine lv_tableOut (tgt := 120) hx hb dX3_isEvent_1 (by have g0 := nv_nei c1 (k := 0) (by decide); have g1 := nv_nei c5 (k := 1) (by decide); have g2 := nv_nei c9 (k := 2) (by decide); have g3 := nv_nei c15 (k := 3) (by decide); omega) (by decide) ?_
  refine lv_iload_n hx hb dX3_isEvent_120 rfl (lv_at hl 0 rfl) ?_
  refine lv_iconst (v := 4) hx hb dX3_isEvent_121 (by decide) ?_
  refine lv_icmp_ne (tgt := 129) hx hb dX3_isEvent_122 (by decide) (fun c19 => ?_) (fun c19 => ?_)
  · have h := nd_neg h c19
    refine lv_iconst (v := 0) hx hb dX3_isEvent_129 (by decide) ?_
    exact (db_X3_isEvent_130 C K) (0) s0 _ _ _ h hP hD hS (lv_sub hl [] rfl)
  · have h := nd_pos h c19
    refine lv_iconst (v := 1) hx hb dX3_isEvent_125 (by decide) ?_
    refine lv_goto (tgt := 130) hx hb dX3_isEvent_126 (by decide) ?_
    exact (db_X3_isEvent_130 C K) (1) s0 _ _ _ h hP hD hS (lv_sub hl [] rfl)
set_option maxHeartbeats 40000000 in
set_option maxRecDepth 100000 in
theorem dm_X3_isEvent (l : Launch) (hlt : l.stackTraces = false) (dC : Nat → ClassId) (dI : Nat → Nat → Nat) (a : Nat → Nat) (ac : Nat → ClassId) (n : Nat) (v0 : Int32) (v1 : Int64) (v2 : Int32) (s0 : Unit) {r : Int32 × (Unit)} (h : df_X3_isEvent n v0 v1 v2 s0 = some r) (sz : Nat) : Met l yX3_isEvent ow_dm_X3_isEvent ({ frames := 0, cells := 0, slots := 0, locals := 0 }) (va_Pc [.int v0, .long v1, .int v2] (fun U => U.heap.size = sz ∧ va_P (dC, dI) vwCl (dw_P a ac s0) U.heap ∧ va_K (dC, dI) vwCl (dk_P ac) U ∧ va_D (fun _ => True) (dw_P a ac s0) ∧ nv_E dI (va_A (dw_P a ac s0) sz) U)) (va_Qi (fun x _ => x = r.1) (fun (_ : Unit) t => va_P (dC, dI) vwCl (dw_P a ac r.2) t.heap ∧ va_K (dC, dI) vwCl (dk_P ac) t ∧ va_D (va_A (dw_P a ac s0) sz) (dw_P a ac r.2)) (va_A (dw_P a ac s0) sz)) 0 0 (va_A (dw_P a ac s0) sz) := by
  refine Met.ofW (cc := cX3_isEvent) (maxL := 4) (ret := (some .boolean)) (by decide) rfl ?_
  intro p e s m args below meth c s₁ B hml hv
  obtain ⟨rfl, hsz, hP, hK, hD0, hN⟩ := hv
  have hx := B.exec
  have hb := B.bytes
  have hr := B.returns
  have hts := atoms_spec (ws := ow_dm_X3_isEvent) B.pre
  have hown : s.vm.findClass RX3 = some m.cls := findClass_of_methodNamed B.named
  have hlocks := B.notSynchronized
  subst hsz
  have hD := hD0.self (sz := s.heap.size)
  generalize hAe : va_A (dw_P a ac s0) s.heap.size = A at hD hN ⊢
  have hA : ∀ q : Nat, s.heap.size ≤ q → A q := fun q h => by rw [← hAe]; exact Or.inr h
  have hl := lv_entry ([.int v0, .long v1, .int v2]) (n := 4) (Nat.le_of_ble_eq_true rfl)
  rw [lg_entry_eq]
  generalize (lg_sl ([.int v0, .long v1, .int v2]) ++ List.replicate (4 - (lg_sl ([.int v0, .long v1, .int v2])).length) Slot.unset).toArray = ls at hl ⊢
  have hl : lv_has ls 4 [(0, .int v0), (1, .long v1), (3, .int v2)] := hl
  exact db_X3_isEvent_0 (dC := dC) (dI := dI) (a := a) (ac := ac) (n := n) (r := r) ⟨hlt, hx, hb, hml, hown, hts, hN, hA, hK⟩ (fun pc v τ H locs ls d z er hP hD hS => by subst er; exact W.zret (v := v) hx hb hr z (fun t ht hW => ⟨⟨v, (), rfl, rfl, by rw [ht]; exact hP, va_K.moved hW.alike hK, hD⟩, hS.F ht⟩) hS.2.2 d) v0 v1 v2 s0 _ _ _ h hP hD va_S.rf (lv_sub hl [0, 1, 2] rfl)
def ow_dm_X3_first : List Cond := Cond.code yX3_first cX3_first 4 (some .long) :: ([Cond.constantLong RX3 33 (4294967295)] ++ [])
theorem gd_dm_X3_first : ∀ w ∈ ow_dm_X3_first, (w.onTables && w.keeps) = true ∨ ∃ ty, w = Cond.arrayClass ty := List.forall_mem_cons.mpr ⟨good_of_word rfl, List.forall_mem_append.mpr ⟨fun w h => good_of_word (List.all_eq_true.mp (by decide +kernel) w h), fun _ h => nomatch h⟩⟩
def dj_X3_first_36 (p : Program) (l : Launch) (e : Env) (s : State) (m : MethodId) (args : Array Value) (below : List Frame) (meth : Method) (c : Code) (Q : State → Prop) (A : Nat → Prop) (dC : Nat → ClassId) (dI : Nat → Nat → Nat) (a : Nat → Nat) (ac : Nat → ClassId) (g : Int64 → (Unit) → Option (Int64 × (Unit))) (r : Int64 × (Unit)) : Prop := ∀ (y0 : Int64) (s0 : Unit) (H : Heap) (locs : List Loc) (ls : Array Slot), g y0 s0 = some r → va_P (dC, dI) vwCl (dw_P a ac s0) H → va_D A (dw_P a ac s0) → va_S A s.heap H locs → lv_has ls 4 [] → W p l e (headSpec ow_dm_X3_first ({ frames := 0, cells := 0, slots := 0, locals := 0 })).room s m args below meth c H locs 0 0 Q (F0 m 36 ls [.long y0])
def dj_X3_first_22 (p : Program) (l : Launch) (e : Env) (s : State) (m : MethodId) (args : Array Value) (below : List Frame) (meth : Method) (c : Code) (Q : State → Prop) (A : Nat → Prop) (dC : Nat → ClassId) (dI : Nat → Nat → Nat) (a : Nat → Nat) (ac : Nat → ClassId) (g : Int32 → Int64 → (Unit) → Option (Int64 × (Unit))) (r : Int64 × (Unit)) : Prop := ∀ (x0 : Int32) (x1 : Int64) (s0 : Unit) (H : Heap) (locs : List Loc) (ls : Array Slot), g x0 x1 s0 = some r → va_P (dC, dI) vwCl (dw_P a ac s0) H → va_D A (dw_P a ac s0) → va_S A s.heap H locs → lv_has ls 4 [(0, .int x0), (1, .long x1)] → W p l e (headSpec ow_dm_X3_first ({ frames := 0, cells := 0, slots := 0, locals := 0 })).room s m args below meth c H locs 0 0 Q (F0 m 22 ls [])
def dj_X3_first_0 (p : Program) (l : Launch) (e : Env) (s : State) (m : MethodId) (args : Array Value) (below : List Frame) (meth : Method) (c : Code) (Q : State → Prop) (A : Nat → Prop) (dC : Nat → ClassId) (dI : Nat → Nat → Nat) (a : Nat → Nat) (ac : Nat → ClassId) (g : Int32 → Int64 → Int32 → (Unit) → Option (Int64 × (Unit))) (r : Int64 × (Unit)) : Prop := ∀ (v0 : Int32) (v1 : Int64) (v2 : Int32) (s0 : Unit) (H : Heap) (locs : List Loc) (ls : Array Slot), g v0 v1 v2 s0 = some r → va_P (dC, dI) vwCl (dw_P a ac s0) H → va_D A (dw_P a ac s0) → va_S A s.heap H locs → lv_has ls 4 [(0, .int v0), (1, .long v1), (3, .int v2)] → W p l e (headSpec ow_dm_X3_first ({ frames := 0, cells := 0, slots := 0, locals := 0 })).room s m args below meth c H locs 0 0 Q (F0 m 0 ls [])
set_option maxHeartbeats 40000000 in
set_option maxRecDepth 100000 in
theorem db_X3_first_36 {p : Program} {l : Launch} {e : Env} {s : State} {m : MethodId} {args : Array Value} {below : List Frame} {meth : Method} {c : Code} {Q : State → Prop} {A : Nat → Prop} {dC : Nat → ClassId} {dI : Nat → Nat → Nat} {a : Nat → Nat} {ac : Nat → ClassId} {n : Nat} {r : Int64 × (Unit)} (C : nd_C p l s m args c A (dC, dI) cX3_first 4 RX3 ow_dm_X3_first (dk_P ac)) (K : nd_Kl p l e (headSpec ow_dm_X3_first ({ frames := 0, cells := 0, slots := 0, locals := 0 })).room s m args below meth c Q A (dC, dI) cX3_first (Unit) (dw_P a ac) r) : dj_X3_first_36 p l e s m args below meth c Q A dC dI a ac (df_X3_first_36 n) r := by
  obtain ⟨hlt, hx, hb, hml, hown, hts, hN, hA, hK⟩ := id C
  intro y0 s0 H locs ls h hP hD hS hl
  unfold df_X3_first_36 at h
  exact K _ _ _ _ _ _ dX3_first_36 (Option.some.inj h).symm hP hD hS
set_option maxHeartbeats 40000000 in
set_option maxRecDepth 100000 in
theorem db_X3_first_22 {p : Program} {l : Launch} {e : Env} {s : State} {m : MethodId} {args : Array Value} {below : List Frame} {meth : Method} {c : Code} {Q : State → Prop} {A : Nat → Prop} {dC : Nat → ClassId} {dI : Nat → Nat → Nat} {a : Nat → Nat} {ac : Nat → ClassId} {n : Nat} {r : Int64 × (Unit)} (C : nd_C p l s m args c A (dC, dI) cX3_first 4 RX3 ow_dm_X3_first (dk_P ac)) (K : nd_Kl p l e (headSpec ow_dm_X3_first ({ frames := 0, cells := 0, slots := 0, locals := 0 })).room s m args below meth c Q A (dC, dI) cX3_first (Unit) (dw_P a ac) r) : dj_X3_first_22 p l e s m args below meth c Q A dC dI a ac (df_X3_first_22 n) r := by
  obtain ⟨hlt, hx, hb, hml, hown, hts, hN, hA, hK⟩ := id C
  intro x0 x1 s0 H locs ls h hP hD hS hl
  unfold df_X3_first_22 at h
  refine lv_iload_n hx hb dX3_first_22 rfl (lv_at hl 0 rfl) ?_
  refine lv_iconst (v := 4) hx hb dX3_first_23 (by decide) ?_
  refine lv_icmp_ne (tgt := 35) hx hb dX3_first_24 (by decide) (fun c2 => ?_) (fun c2 => ?_)
  · have h := nd_neg h c2
    refine lv_lload_n hx hb dX3_first_35 rfl (lv_at hl 1 rfl) ?_
    exact (db_X3_first_36 C K) (x1) s0 _ _ _ h hP hD hS (lv_sub hl [] rfl)
  · have h := nd_pos h c2
    refine lv_lload_n hx hb dX3_first_27 rfl (lv_at hl 1 rfl) ?_
    refine lv_ldc2 hx hb hown (hts (.constantLong RX3 33 (4294967295)) (List.mem_of_getElem? (i := 1) rfl)) dX3_first_28 ?_
    refine lv_land hx hb dX3_first_31 ?_
    refine lv_goto (tgt := 36) hx hb dX3_first_32 (by decide) ?_
    exact (db_X3_first_36 C K) (((x1 : Int64) &&& 4294967295)) s0 _ _ _ h hP hD hS (lv_sub hl [] rfl)
set_option maxHeartbeats 40000000 in
set_option maxRecDepth 100000 in
theorem db_X3_first_0 {p : Program} {l : Launch} {e : Env} {s : State} {m : MethodId} {args : Array Value} {below : List Frame} {meth : Method} {c : Code} {Q : State → Prop} {A : Nat → Prop} {dC : Nat → ClassId} {dI : Nat → Nat → Nat} {a : Nat → Nat} {ac : Nat → ClassId} {n : Nat} {r : Int64 × (Unit)} (C : nd_C p l s m args c A (dC, dI) cX3_first 4 RX3 ow_dm_X3_first (dk_P ac)) (K : nd_Kl p l e (headSpec ow_dm_X3_first ({ frames := 0, cells := 0, slots := 0, locals := 0 })).room s m args below meth c Q A (dC, dI) cX3_first (Unit) (dw_P a ac) r) : dj_X3_first_0 p l e s m args below meth c Q A dC dI a ac (df_X3_first_0 n) r := by
  obtain ⟨hlt, hx, hb, hml, hown, hts, hN, hA, hK⟩ := id C
  intro v0 v1 v2 s0 H locs ls h hP hD hS hl
  unfold df_X3_first_0 at h
  refine lv_iload_n hx hb dX3_first_0 rfl (lv_at hl 0 rfl) ?_
  refine lv_iconst (v := 1) hx hb dX3_first_1 (by decide) ?_
  refine lv_icmp_ne (tgt := 22) hx hb dX3_first_2 (by decide) (fun c1 => ?_) (fun c1 => ?_)
  · have h := nd_neg h c1
    exact (db_X3_first_22 C K) (v0) (v1) s0 _ _ _ h hP hD hS (lv_sub hl [0, 1] rfl)
  · have h := nd_pos h c1
    refine lv_iload_n hx hb dX3_first_5 rfl (lv_at hl 2 rfl) ?_
    refine lv_bipush (v := 8) hx hb dX3_first_6 (by decide) ?_
    refine lv_icmp_ge (tgt := 22) hx hb dX3_first_8 (by decide) (fun c3 => ?_) (fun c3 => ?_)
    · have h := nd_pos h c3
      exact (db_X3_first_22 C K) (v0) (v1) s0 _ _ _ h hP hD hS (lv_sub hl [0, 1] rfl)
    · have h := nd_neg h c3
      refine lv_lload_n hx hb dX3_first_11 rfl (lv_at hl 1 rfl) ?_
      refine lv_lconst (v := 1) hx hb dX3_first_12 (by decide) ?_
      refine lv_bipush (v := 8) hx hb dX3_first_13 (by decide) ?_
      refine lv_iload_n hx hb dX3_first_15 rfl (lv_at hl 2 rfl) ?_
      refine lv_imul hx hb dX3_first_16 ?_
      refine lv_lshl hx hb dX3_first_17 rfl ?_
      refine lv_lconst (v := 1) hx hb dX3_first_18 (by decide) ?_
      refine lv_lsub hx hb dX3_first_19 ?_
      refine lv_land hx hb dX3_first_20 ?_
      exact K _ _ _ _ _ _ dX3_first_21 (Option.some.inj h).symm hP hD hS
set_option maxHeartbeats 40000000 in
set_option maxRecDepth 100000 in
theorem dm_X3_first (l : Launch) (hlt : l.stackTraces = false) (dC : Nat → ClassId) (dI : Nat → Nat → Nat) (a : Nat → Nat) (ac : Nat → ClassId) (n : Nat) (v0 : Int32) (v1 : Int64) (v2 : Int32) (s0 : Unit) {r : Int64 × (Unit)} (h : df_X3_first n v0 v1 v2 s0 = some r) (sz : Nat) : Met l yX3_first ow_dm_X3_first ({ frames := 0, cells := 0, slots := 0, locals := 0 }) (va_Pc [.int v0, .long v1, .int v2] (fun U => U.heap.size = sz ∧ va_P (dC, dI) vwCl (dw_P a ac s0) U.heap ∧ va_K (dC, dI) vwCl (dk_P ac) U ∧ va_D (fun _ => True) (dw_P a ac s0) ∧ nv_E dI (va_A (dw_P a ac s0) sz) U)) (va_Ql (fun x _ => x = r.1) (fun (_ : Unit) t => va_P (dC, dI) vwCl (dw_P a ac r.2) t.heap ∧ va_K (dC, dI) vwCl (dk_P ac) t ∧ va_D (va_A (dw_P a ac s0) sz) (dw_P a ac r.2)) (va_A (dw_P a ac s0) sz)) 0 0 (va_A (dw_P a ac s0) sz) := by
  refine Met.ofW (cc := cX3_first) (maxL := 4) (ret := (some .long)) (by decide) rfl ?_
  intro p e s m args below meth c s₁ B hml hv
  obtain ⟨rfl, hsz, hP, hK, hD0, hN⟩ := hv
  have hx := B.exec
  have hb := B.bytes
  have hr := B.returns
  have hts := atoms_spec (ws := ow_dm_X3_first) B.pre
  have hown : s.vm.findClass RX3 = some m.cls := findClass_of_methodNamed B.named
  have hlocks := B.notSynchronized
  subst hsz
  have hD := hD0.self (sz := s.heap.size)
  generalize hAe : va_A (dw_P a ac s0) s.heap.size = A at hD hN ⊢
  have hA : ∀ q : Nat, s.heap.size ≤ q → A q := fun q h => by rw [← hAe]; exact Or.inr h
  have hl := lv_entry ([.int v0, .long v1, .int v2]) (n := 4) (Nat.le_of_ble_eq_true rfl)
  rw [lg_entry_eq]
  generalize (lg_sl ([.int v0, .long v1, .int v2]) ++ List.replicate (4 - (lg_sl ([.int v0, .long v1, .int v2])).length) Slot.unset).toArray = ls at hl ⊢
  have hl : lv_has ls 4 [(0, .int v0), (1, .long v1), (3, .int v2)] := hl
  exact db_X3_first_0 (dC := dC) (dI := dI) (a := a) (ac := ac) (n := n) (r := r) ⟨hlt, hx, hb, hml, hown, hts, hN, hA, hK⟩ (fun pc v τ H locs ls d er hP hD hS => by subst er; exact W.lret (v := v) hx hb hr (fun t ht hW => ⟨⟨v, (), rfl, rfl, by rw [ht]; exact hP, va_K.moved hW.alike hK, hD⟩, hS.F ht⟩) hS.2.2 d) v0 v1 v2 s0 _ _ _ h hP hD va_S.rf (lv_sub hl [0, 1, 2] rfl)
def ow_dm_X3_second : List Cond := Cond.code yX3_second cX3_second 2 (some .int) :: ([] ++ [])
theorem gd_dm_X3_second : ∀ w ∈ ow_dm_X3_second, (w.onTables && w.keeps) = true ∨ ∃ ty, w = Cond.arrayClass ty := List.forall_mem_cons.mpr ⟨good_of_word rfl, List.forall_mem_append.mpr ⟨fun w h => good_of_word (List.all_eq_true.mp (by decide +kernel) w h), fun _ h => nomatch h⟩⟩
def dj_X3_second_15 (p : Program) (l : Launch) (e : Env) (s : State) (m : MethodId) (args : Array Value) (below : List Frame) (meth : Method) (c : Code) (Q : State → Prop) (A : Nat → Prop) (dC : Nat → ClassId) (dI : Nat → Nat → Nat) (a : Nat → Nat) (ac : Nat → ClassId) (g : Int32 → (Unit) → Option (Int32 × (Unit))) (r : Int32 × (Unit)) : Prop := ∀ (y0 : Int32) (s0 : Unit) (H : Heap) (locs : List Loc) (ls : Array Slot), g y0 s0 = some r → va_P (dC, dI) vwCl (dw_P a ac s0) H → va_D A (dw_P a ac s0) → va_S A s.heap H locs → lv_has ls 2 [] → W p l e (headSpec ow_dm_X3_second ({ frames := 0, cells := 0, slots := 0, locals := 0 })).room s m args below meth c H locs 0 0 Q (F0 m 15 ls [.int y0])
def dj_X3_second_10 (p : Program) (l : Launch) (e : Env) (s : State) (m : MethodId) (args : Array Value) (below : List Frame) (meth : Method) (c : Code) (Q : State → Prop) (A : Nat → Prop) (dC : Nat → ClassId) (dI : Nat → Nat → Nat) (a : Nat → Nat) (ac : Nat → ClassId) (g : Int32 → (Unit) → Option (Int32 × (Unit))) (r : Int32 × (Unit)) : Prop := ∀ (x1 : Int32) (s0 : Unit) (H : Heap) (locs : List Loc) (ls : Array Slot), g x1 s0 = some r → va_P (dC, dI) vwCl (dw_P a ac s0) H → va_D A (dw_P a ac s0) → va_S A s.heap H locs → lv_has ls 2 [(1, .int x1)] → W p l e (headSpec ow_dm_X3_second ({ frames := 0, cells := 0, slots := 0, locals := 0 })).room s m args below meth c H locs 0 0 Q (F0 m 10 ls [])
def dj_X3_second_0 (p : Program) (l : Launch) (e : Env) (s : State) (m : MethodId) (args : Array Value) (below : List Frame) (meth : Method) (c : Code) (Q : State → Prop) (A : Nat → Prop) (dC : Nat → ClassId) (dI : Nat → Nat → Nat) (a : Nat → Nat) (ac : Nat → ClassId) (g : Int32 → Int32 → (Unit) → Option (Int32 × (Unit))) (r : Int32 × (Unit)) : Prop := ∀ (v0 : Int32) (v1 : Int32) (s0 : Unit) (H : Heap) (locs : List Loc) (ls : Array Slot), g v0 v1 s0 = some r → va_P (dC, dI) vwCl (dw_P a ac s0) H → va_D A (dw_P a ac s0) → va_S A s.heap H locs → lv_has ls 2 [(0, .int v0), (1, .int v1)] → W p l e (headSpec ow_dm_X3_second ({ frames := 0, cells := 0, slots := 0, locals := 0 })).room s m args below meth c H locs 0 0 Q (F0 m 0 ls [])
set_option maxHeartbeats 40000000 in
set_option maxRecDepth 100000 in
theorem db_X3_second_15 {p : Program} {l : Launch} {e : Env} {s : State} {m : MethodId} {args : Array Value} {below : List Frame} {meth : Method} {c : Code} {Q : State → Prop} {A : Nat → Prop} {dC : Nat → ClassId} {dI : Nat → Nat → Nat} {a : Nat → Nat} {ac : Nat → ClassId} {n : Nat} {r : Int32 × (Unit)} (C : nd_C p l s m args c A (dC, dI) cX3_second 2 RX3 ow_dm_X3_second (dk_P ac)) (K : nd_Ki p l e (headSpec ow_dm_X3_second ({ frames := 0, cells := 0, slots := 0, locals := 0 })).room s m args below meth c Q A (dC, dI) cX3_second .int (Unit) (dw_P a ac) r) : dj_X3_second_15 p l e s m args below meth c Q A dC dI a ac (df_X3_second_15 n) r := by
  obtain ⟨hlt, hx, hb, hml, hown, hts, hN, hA, hK⟩ := id C
  intro y0 s0 H locs ls h hP hD hS hl
  unfold df_X3_second_15 at h
  exact K _ _ _ _ _ _ dX3_second_15 rfl (Option.some.inj h).symm hP hD hS
set_option maxHeartbeats 40000000 in
set_option maxRecDepth 100000 in
theorem db_X3_second_10 {p : Program} {l : Launch} {e : Env} {s : State} {m : MethodId} {args : Array Value} {below : List Frame} {meth : Method} {c : Code} {Q : State → Prop} {A : Nat → Prop} {dC : Nat → ClassId} {dI : Nat → Nat → Nat} {a : Nat → Nat} {ac : Nat → ClassId} {n : Nat} {r : Int32 × (Unit)} (C : nd_C p l s m args c A (dC, dI) cX3_second 2 RX3 ow_dm_X3_second (dk_P ac)) (K : nd_Ki p l e (headSpec ow_dm_X3_second ({ frames := 0, cells := 0, slots := 0, locals := 0 })).room s m args below meth c Q A (dC, dI) cX3_second .int (Unit) (dw_P a ac) r) : dj_X3_second_10 p l e s m args below meth c Q A dC dI a ac (df_X3_second_10 n) r := by
  obtain ⟨hlt, hx, hb, hml, hown, hts, hN, hA, hK⟩ := id C
  intro x1 s0 H locs ls h hP hD hS hl
  unfold df_X3_second_10 at h
  refine lv_iload_n hx hb dX3_second_10 rfl (lv_at hl 0 rfl) ?_
  refine lv_goto (tgt := 15) hx hb dX3_second_11 (by decide) ?_
  exact (db_X3_second_15 C K) (x1) s0 _ _ _ h hP hD hS (lv_sub hl [] rfl)
set_option maxHeartbeats 40000000 in
set_option maxRecDepth 100000 in
theorem db_X3_second_0 {p : Program} {l : Launch} {e : Env} {s : State} {m : MethodId} {args : Array Value} {below : List Frame} {meth : Method} {c : Code} {Q : State → Prop} {A : Nat → Prop} {dC : Nat → ClassId} {dI : Nat → Nat → Nat} {a : Nat → Nat} {ac : Nat → ClassId} {n : Nat} {r : Int32 × (Unit)} (C : nd_C p l s m args c A (dC, dI) cX3_second 2 RX3 ow_dm_X3_second (dk_P ac)) (K : nd_Ki p l e (headSpec ow_dm_X3_second ({ frames := 0, cells := 0, slots := 0, locals := 0 })).room s m args below meth c Q A (dC, dI) cX3_second .int (Unit) (dw_P a ac) r) : dj_X3_second_0 p l e s m args below meth c Q A dC dI a ac (df_X3_second_0 n) r := by
  obtain ⟨hlt, hx, hb, hml, hown, hts, hN, hA, hK⟩ := id C
  intro v0 v1 s0 H locs ls h hP hD hS hl
  unfold df_X3_second_0 at h
  refine lv_iload_n hx hb dX3_second_0 rfl (lv_at hl 0 rfl) ?_
  refine lv_iconst (v := 1) hx hb dX3_second_1 (by decide) ?_
  refine lv_icmp_eq (tgt := 10) hx hb dX3_second_2 (by decide) (fun c1 => ?_) (fun c1 => ?_)
  · have h := nd_pos h c1
    exact (db_X3_second_10 C K) (v1) s0 _ _ _ h hP hD hS (lv_sub hl [1] rfl)
  · have h := nd_neg h c1
    refine lv_iload_n hx hb dX3_second_5 rfl (lv_at hl 0 rfl) ?_
    refine lv_iconst (v := 2) hx hb dX3_second_6 (by decide) ?_
    refine lv_icmp_ne (tgt := 14) hx hb dX3_second_7 (by decide) (fun c2 => ?_) (fun c2 => ?_)
    · have h := nd_neg h c2
      refine lv_iconst (v := 0) hx hb dX3_second_14 (by decide) ?_
      exact (db_X3_second_15 C K) (0) s0 _ _ _ h hP hD hS (lv_sub hl [] rfl)
    · have h := nd_pos h c2
      exact (db_X3_second_10 C K) (v1) s0 _ _ _ h hP hD hS (lv_sub hl [1] rfl)
set_option maxHeartbeats 40000000 in
set_option maxRecDepth 100000 in
theorem dm_X3_second (l : Launch) (hlt : l.stackTraces = false) (dC : Nat → ClassId) (dI : Nat → Nat → Nat) (a : Nat → Nat) (ac : Nat → ClassId) (n : Nat) (v0 : Int32) (v1 : Int32) (s0 : Unit) {r : Int32 × (Unit)} (h : df_X3_second n v0 v1 s0 = some r) (sz : Nat) : Met l yX3_second ow_dm_X3_second ({ frames := 0, cells := 0, slots := 0, locals := 0 }) (va_Pc [.int v0, .int v1] (fun U => U.heap.size = sz ∧ va_P (dC, dI) vwCl (dw_P a ac s0) U.heap ∧ va_K (dC, dI) vwCl (dk_P ac) U ∧ va_D (fun _ => True) (dw_P a ac s0) ∧ nv_E dI (va_A (dw_P a ac s0) sz) U)) (va_Qi (fun x _ => x = r.1) (fun (_ : Unit) t => va_P (dC, dI) vwCl (dw_P a ac r.2) t.heap ∧ va_K (dC, dI) vwCl (dk_P ac) t ∧ va_D (va_A (dw_P a ac s0) sz) (dw_P a ac r.2)) (va_A (dw_P a ac s0) sz)) 0 0 (va_A (dw_P a ac s0) sz) := by
  refine Met.ofW (cc := cX3_second) (maxL := 2) (ret := (some .int)) (by decide) rfl ?_
  intro p e s m args below meth c s₁ B hml hv
  obtain ⟨rfl, hsz, hP, hK, hD0, hN⟩ := hv
  have hx := B.exec
  have hb := B.bytes
  have hr := B.returns
  have hts := atoms_spec (ws := ow_dm_X3_second) B.pre
  have hown : s.vm.findClass RX3 = some m.cls := findClass_of_methodNamed B.named
  have hlocks := B.notSynchronized
  subst hsz
  have hD := hD0.self (sz := s.heap.size)
  generalize hAe : va_A (dw_P a ac s0) s.heap.size = A at hD hN ⊢
  have hA : ∀ q : Nat, s.heap.size ≤ q → A q := fun q h => by rw [← hAe]; exact Or.inr h
  have hl := lv_entry ([.int v0, .int v1]) (n := 2) (Nat.le_of_ble_eq_true rfl)
  rw [lg_entry_eq]
  generalize (lg_sl ([.int v0, .int v1]) ++ List.replicate (2 - (lg_sl ([.int v0, .int v1])).length) Slot.unset).toArray = ls at hl ⊢
  have hl : lv_has ls 2 [(0, .int v0), (1, .int v1)] := hl
  exact db_X3_second_0 (dC := dC) (dI := dI) (a := a) (ac := ac) (n := n) (r := r) ⟨hlt, hx, hb, hml, hown, hts, hN, hA, hK⟩ (fun pc v τ H locs ls d z er hP hD hS => by subst er; exact W.zret (v := v) hx hb hr z (fun t ht hW => ⟨⟨v, (), rfl, rfl, by rw [ht]; exact hP, va_K.moved hW.alike hK, hD⟩, hS.F ht⟩) hS.2.2 d) v0 v1 s0 _ _ _ h hP hD va_S.rf (lv_sub hl [0, 1] rfl)
def ow_dm_X3_clear : List Cond := Cond.code yX3_clear cX3_clear 1 none :: ([Cond.fieldLink RX3 35 "TimeMachine$Events" "recorded" "I", Cond.fieldLink RX3 39 "TimeMachine$Events" "total" "I"] ++ (u_ws RX3 TX3 11 ++ []))
theorem gd_dm_X3_clear : ∀ w ∈ ow_dm_X3_clear, (w.onTables && w.keeps) = true ∨ ∃ ty, w = Cond.arrayClass ty := List.forall_mem_cons.mpr ⟨good_of_word rfl, List.forall_mem_append.mpr ⟨fun w h => good_of_word (List.all_eq_true.mp (by decide +kernel) w h), List.forall_mem_append.mpr ⟨gu_X3, fun _ h => nomatch h⟩⟩⟩
theorem hi_dm_X3_clear_X3 : ∀ w ∈ u_ws RX3 TX3 11, w ∈ ow_dm_X3_clear := fun w h => List.mem_cons_of_mem _ (List.mem_append_right _ (List.mem_append_left _ h))
def dj_X3_clear_0 (p : Program) (l : Launch) (e : Env) (s : State) (m : MethodId) (args : Array Value) (below : List Frame) (meth : Method) (c : Code) (Q : State → Prop) (A : Nat → Prop) (dC : Nat → ClassId) (dI : Nat → Nat → Nat) (a : Nat → Nat) (ac : Nat → ClassId) (g : (St) → Option (St)) (r : St) : Prop := ∀ (s0 : St) (H : Heap) (locs : List Loc) (ls : Array Slot), g s0 = some r → va_P (dC, dI) vwCl (dw_X3c a ac s0) H → va_D A (dw_X3c a ac s0) → va_S A s.heap H locs → lv_has ls 1 [(0, .ref (a 0))] → W p l e (headSpec ow_dm_X3_clear ({ frames := 0, cells := 0, slots := 0, locals := 0 })).room s m args below meth c H locs 0 0 Q (F0 m 0 ls [])
set_option maxHeartbeats 40000000 in
set_option maxRecDepth 100000 in
theorem db_X3_clear_0 {p : Program} {l : Launch} {e : Env} {s : State} {m : MethodId} {args : Array Value} {below : List Frame} {meth : Method} {c : Code} {Q : State → Prop} {A : Nat → Prop} {dC : Nat → ClassId} {dI : Nat → Nat → Nat} {a : Nat → Nat} {ac : Nat → ClassId} {n : Nat} {r : St} (C : nd_C p l s m args c A (dC, dI) cX3_clear 1 RX3 ow_dm_X3_clear (dk_X3c ac)) (K : nd_Kv p l e (headSpec ow_dm_X3_clear ({ frames := 0, cells := 0, slots := 0, locals := 0 })).room s m args below meth c Q A (dC, dI) cX3_clear (St) (dw_X3c a ac) r) : dj_X3_clear_0 p l e s m args below meth c Q A dC dI a ac (df_X3_clear_0 n) r := by
  obtain ⟨hlt, hx, hb, hml, hown, hts, hN, hA, hK⟩ := id C
  intro s0 H locs ls h hP hD hS hl
  unfold df_X3_clear_0 at h
  refine lv_aload_n hx hb dX3_clear_0 rfl (lv_at hl 0 rfl) ?_
  refine lv_iconst (v := 0) hx hb dX3_clear_1 (by decide) ?_
  refine va_put (D := (dC, dI)) (ci := 4) (v := .int 0) (ty := .int) (C := RX3) (T := TX3) (N := 11) hx hb hts hi_dm_X3_clear_X3 tyX3 tyX3_ok nmX3 hown hK hP hD hS 0 rfl rfl 4 (by decide) (hts (.fieldLink RX3 35 "TimeMachine$Events" "recorded" "I") (List.mem_of_getElem? (i := 1) rfl)) (fun _ h9 => h9) rfl (by decide +kernel) rfl rfl (Nat.le_of_ble_eq_true rfl) dX3_clear_2 (fun H locs hP hD hS => ?_)
  obtain ⟨s1, es1, h⟩ := nd_let_e h
  have hP : va_P (dC, dI) vwCl (dw_X3c a ac s1) H := by rw [es1]; exact hP
  have hD : va_D A (dw_X3c a ac s1) := by rw [es1]; exact hD
  refine lv_aload_n hx hb dX3_clear_5 rfl (lv_at hl 0 rfl) ?_
  refine lv_iconst (v := 0) hx hb dX3_clear_6 (by decide) ?_
  refine va_put (D := (dC, dI)) (ci := 4) (v := .int 0) (ty := .int) (C := RX3) (T := TX3) (N := 11) hx hb hts hi_dm_X3_clear_X3 tyX3 tyX3_ok nmX3 hown hK hP hD hS 0 rfl rfl 5 (by decide) (hts (.fieldLink RX3 39 "TimeMachine$Events" "total" "I") (List.mem_of_getElem? (i := 2) rfl)) (fun _ h9 => h9) rfl (by decide +kernel) rfl rfl (Nat.le_of_ble_eq_true rfl) dX3_clear_7 (fun H locs hP hD hS => ?_)
  obtain ⟨s2, es2, h⟩ := nd_let_e h
  have hP : va_P (dC, dI) vwCl (dw_X3c a ac s2) H := by rw [es2]; exact hP
  have hD : va_D A (dw_X3c a ac s2) := by rw [es2]; exact hD
  exact K _ _ _ _ _ dX3_clear_10 (Option.some.inj h).symm hP hD hS
set_option maxHeartbeats 40000000 in
set_option maxRecDepth 100000 in
theorem dm_X3_clear (l : Launch) (hlt : l.stackTraces = false) (dC : Nat → ClassId) (dI : Nat → Nat → Nat) (a : Nat → Nat) (ac : Nat → ClassId) (n : Nat) (s0 : St) {r : St} (h : df_X3_clear n s0 = some r) (sz : Nat) : Met l yX3_clear ow_dm_X3_clear ({ frames := 0, cells := 0, slots := 0, locals := 0 }) (va_Pc [.ref (a 0)] (fun U => U.heap.size = sz ∧ va_P (dC, dI) vwCl (dw_X3c a ac s0) U.heap ∧ va_K (dC, dI) vwCl (dk_X3c ac) U ∧ va_D (fun _ => True) (dw_X3c a ac s0) ∧ nv_E dI (va_A (dw_X3c a ac s0) sz) U)) (va_Qv (fun _ => True) (fun (_ : Unit) t => va_P (dC, dI) vwCl (dw_X3c a ac r) t.heap ∧ va_K (dC, dI) vwCl (dk_X3c ac) t ∧ va_D (va_A (dw_X3c a ac s0) sz) (dw_X3c a ac r)) (va_A (dw_X3c a ac s0) sz)) 0 0 (va_A (dw_X3c a ac s0) sz) := by
  refine Met.ofW (cc := cX3_clear) (maxL := 1) (ret := none) (by decide) rfl ?_
  intro p e s m args below meth c s₁ B hml hv
  obtain ⟨rfl, hsz, hP, hK, hD0, hN⟩ := hv
  have hx := B.exec
  have hb := B.bytes
  have hr := B.returns
  have hts := atoms_spec (ws := ow_dm_X3_clear) B.pre
  have hown : s.vm.findClass RX3 = some m.cls := findClass_of_methodNamed B.named
  have hlocks := B.notSynchronized
  subst hsz
  have hD := hD0.self (sz := s.heap.size)
  generalize hAe : va_A (dw_X3c a ac s0) s.heap.size = A at hD hN ⊢
  have hA : ∀ q : Nat, s.heap.size ≤ q → A q := fun q h => by rw [← hAe]; exact Or.inr h
  have hl := lv_entry ([.ref (a 0)]) (n := 1) (Nat.le_of_ble_eq_true rfl)
  rw [lg_entry_eq]
  generalize (lg_sl ([.ref (a 0)]) ++ List.replicate (1 - (lg_sl ([.ref (a 0)])).length) Slot.unset).toArray = ls at hl ⊢
  have hl : lv_has ls 1 [(0, .ref (a 0))] := hl
  exact db_X3_clear_0 (dC := dC) (dI := dI) (a := a) (ac := ac) (n := n) (r := r) ⟨hlt, hx, hb, hml, hown, hts, hN, hA, hK⟩ (fun pc τ H locs ls d er hP hD hS => by subst er; exact W.vret hx hb hr (fun t ht hW => ⟨⟨(), rfl, trivial, by rw [ht]; exact hP, va_K.moved hW.alike hK, hD⟩, hS.F ht⟩) hS.2.2 d) s0 _ _ _ h hP hD va_S.rf (lv_sub hl [0] rfl)
def ow_dm_X3_add : List Cond := Cond.code yX3_add cX3_add 7 (some .boolean) :: ([Cond.fieldLink RX3 39 "TimeMachine$Events" "total" "I", Cond.fieldLink RX3 9 "TimeMachine$Events" "kind" "[I", Cond.fieldLink RX3 13 "TimeMachine$Events" "at" "[J", Cond.fieldLink RX3 17 "TimeMachine$Events" "a" "[J", Cond.fieldLink RX3 20 "TimeMachine$Events" "b" "[I"] ++ (u_ws RX3 TX3 11 ++ []))
theorem gd_dm_X3_add : ∀ w ∈ ow_dm_X3_add, (w.onTables && w.keeps) = true ∨ ∃ ty, w = Cond.arrayClass ty := List.forall_mem_cons.mpr ⟨good_of_word rfl, List.forall_mem_append.mpr ⟨fun w h => good_of_word (List.all_eq_true.mp (by decide +kernel) w h), List.forall_mem_append.mpr ⟨gu_X3, fun _ h => nomatch h⟩⟩⟩
theorem hi_dm_X3_add_X3 : ∀ w ∈ u_ws RX3 TX3 11, w ∈ ow_dm_X3_add := fun w h => List.mem_cons_of_mem _ (List.mem_append_right _ (List.mem_append_left _ h))
def dj_X3_add_0 (p : Program) (l : Launch) (e : Env) (s : State) (m : MethodId) (args : Array Value) (below : List Frame) (meth : Method) (c : Code) (Q : State → Prop) (A : Nat → Prop) (dC : Nat → ClassId) (dI : Nat → Nat → Nat) (a : Nat → Nat) (ac : Nat → ClassId) (g : Int32 → Int64 → Int64 → Int32 → (St) → Option (Int32 × (St))) (r : Int32 × (St)) : Prop := ∀ (v0 : Int32) (v1 : Int64) (v2 : Int64) (v3 : Int32) (s0 : St) (H : Heap) (locs : List Loc) (ls : Array Slot), g v0 v1 v2 v3 s0 = some r → va_P (dC, dI) vwCl (dw_X3c a ac s0) H → va_D A (dw_X3c a ac s0) → va_S A s.heap H locs → lv_has ls 7 [(0, .ref (a 0)), (1, .int v0), (2, .long v1), (4, .long v2), (6, .int v3)] → W p l e (headSpec ow_dm_X3_add ({ frames := 0, cells := 0, slots := 0, locals := 0 })).room s m args below meth c H locs 0 0 Q (F0 m 0 ls [])
set_option maxHeartbeats 40000000 in
set_option maxRecDepth 100000 in
theorem db_X3_add_0 {p : Program} {l : Launch} {e : Env} {s : State} {m : MethodId} {args : Array Value} {below : List Frame} {meth : Method} {c : Code} {Q : State → Prop} {A : Nat → Prop} {dC : Nat → ClassId} {dI : Nat → Nat → Nat} {a : Nat → Nat} {ac : Nat → ClassId} {n : Nat} {r : Int32 × (St)} (C : nd_C p l s m args c A (dC, dI) cX3_add 7 RX3 ow_dm_X3_add (dk_X3c ac)) (K : nd_Ki p l e (headSpec ow_dm_X3_add ({ frames := 0, cells := 0, slots := 0, locals := 0 })).room s m args below meth c Q A (dC, dI) cX3_add .boolean (St) (dw_X3c a ac) r) : dj_X3_add_0 p l e s m args below meth c Q A dC dI a ac (df_X3_add_0 n) r := by
  obtain ⟨hlt, hx, hb, hml, hown, hts, hN, hA, hK⟩ := id C
  intro v0 v1 v2 v3 s0 H locs ls h hP hD hS hl
  unfold df_X3_add_0 at h
  refine lv_aload_n hx hb dX3_add_0 rfl (lv_at hl 0 rfl) ?_
  refine va_get (D := (dC, dI)) (ci := 4) (v := .int (sI s0 1)) (C := RX3) (T := TX3) (N := 11) hx hb hts hi_dm_X3_add_X3 hown hK hP 0 rfl rfl 5 (by decide) (hts (.fieldLink RX3 39 "TimeMachine$Events" "total" "I") (List.mem_of_getElem? (i := 1) rfl)) (fun _ h9 => h9) rfl dX3_add_1 ?_
  refine lv_sipush (v := 2048) hx hb dX3_add_4 (by decide) ?_
  refine lv_icmp_lt (tgt := 12) hx hb dX3_add_7 (by decide) (fun c1 => ?_) (fun c1 => ?_)
  · have h := nd_pos h c1
    refine lv_aload_n hx hb dX3_add_12 rfl (lv_at hl 0 rfl) ?_
    refine va_get (D := (dC, dI)) (ci := 4) (v := .ref (a 1)) (C := RX3) (T := TX3) (N := 11) hx hb hts hi_dm_X3_add_X3 hown hK hP 0 rfl rfl 0 (by decide) (hts (.fieldLink RX3 9 "TimeMachine$Events" "kind" "[I") (List.mem_of_getElem? (i := 2) rfl)) (fun _ h9 => h9) rfl dX3_add_13 ?_
    refine lv_aload_n hx hb dX3_add_16 rfl (lv_at hl 0 rfl) ?_
    refine va_get (D := (dC, dI)) (ci := 4) (v := .int (sI s0 1)) (C := RX3) (T := TX3) (N := 11) hx hb hts hi_dm_X3_add_X3 hown hK hP 0 rfl rfl 5 (by decide) (hts (.fieldLink RX3 39 "TimeMachine$Events" "total" "I") (List.mem_of_getElem? (i := 1) rfl)) (fun _ h9 => h9) rfl dX3_add_17 ?_
    refine lv_iload_n hx hb dX3_add_20 rfl (lv_at hl 1 rfl) ?_
    obtain ⟨i2, h⟩ := nd_ck_e h
    refine va_iast (i := (sI s0 1)) (x := v0) hx hb hK hP hD hS 1 0 rfl rfl i2 dX3_add_21 (fun H locs hP hD hS => ?_)
    obtain ⟨s3, es3, h⟩ := nd_let_e h
    have hP : va_P (dC, dI) vwCl (dw_X3c a ac s3) H := by rw [es3]; exact hP
    have hD : va_D A (dw_X3c a ac s3) := by rw [es3]; exact hD
    refine lv_aload_n hx hb dX3_add_22 rfl (lv_at hl 0 rfl) ?_
    refine va_get (D := (dC, dI)) (ci := 4) (v := .ref (a 2)) (C := RX3) (T := TX3) (N := 11) hx hb hts hi_dm_X3_add_X3 hown hK hP 0 rfl rfl 1 (by decide) (hts (.fieldLink RX3 13 "TimeMachine$Events" "at" "[J") (List.mem_of_getElem? (i := 3) rfl)) (fun _ h9 => h9) rfl dX3_add_23 ?_
    refine lv_aload_n hx hb dX3_add_26 rfl (lv_at hl 0 rfl) ?_
    refine va_get (D := (dC, dI)) (ci := 4) (v := .int (sI s3 1)) (C := RX3) (T := TX3) (N := 11) hx hb hts hi_dm_X3_add_X3 hown hK hP 0 rfl rfl 5 (by decide) (hts (.fieldLink RX3 39 "TimeMachine$Events" "total" "I") (List.mem_of_getElem? (i := 1) rfl)) (fun _ h9 => h9) rfl dX3_add_27 ?_
    refine lv_lload_n hx hb dX3_add_30 rfl (lv_at hl 2 rfl) ?_
    obtain ⟨i4, h⟩ := nd_ck_e h
    refine va_last (i := (sI s3 1)) (x := v1) hx hb hK hP hD hS 2 1 rfl rfl i4 dX3_add_31 (fun H locs hP hD hS => ?_)
    obtain ⟨s5, es5, h⟩ := nd_let_e h
    have hP : va_P (dC, dI) vwCl (dw_X3c a ac s5) H := by rw [es5]; exact hP
    have hD : va_D A (dw_X3c a ac s5) := by rw [es5]; exact hD
    refine lv_aload_n hx hb dX3_add_32 rfl (lv_at hl 0 rfl) ?_
    refine va_get (D := (dC, dI)) (ci := 4) (v := .ref (a 3)) (C := RX3) (T := TX3) (N := 11) hx hb hts hi_dm_X3_add_X3 hown hK hP 0 rfl rfl 2 (by decide) (hts (.fieldLink RX3 17 "TimeMachine$Events" "a" "[J") (List.mem_of_getElem? (i := 4) rfl)) (fun _ h9 => h9) rfl dX3_add_33 ?_
    refine lv_aload_n hx hb dX3_add_36 rfl (lv_at hl 0 rfl) ?_
    refine va_get (D := (dC, dI)) (ci := 4) (v := .int (sI s5 1)) (C := RX3) (T := TX3) (N := 11) hx hb hts hi_dm_X3_add_X3 hown hK hP 0 rfl rfl 5 (by decide) (hts (.fieldLink RX3 39 "TimeMachine$Events" "total" "I") (List.mem_of_getElem? (i := 1) rfl)) (fun _ h9 => h9) rfl dX3_add_37 ?_
    refine lv_lload hx hb dX3_add_40 (lv_at hl 3 rfl) ?_
    obtain ⟨i6, h⟩ := nd_ck_e h
    refine va_last (i := (sI s5 1)) (x := v2) hx hb hK hP hD hS 3 2 rfl rfl i6 dX3_add_42 (fun H locs hP hD hS => ?_)
    obtain ⟨s7, es7, h⟩ := nd_let_e h
    have hP : va_P (dC, dI) vwCl (dw_X3c a ac s7) H := by rw [es7]; exact hP
    have hD : va_D A (dw_X3c a ac s7) := by rw [es7]; exact hD
    refine lv_aload_n hx hb dX3_add_43 rfl (lv_at hl 0 rfl) ?_
    refine va_get (D := (dC, dI)) (ci := 4) (v := .ref (a 4)) (C := RX3) (T := TX3) (N := 11) hx hb hts hi_dm_X3_add_X3 hown hK hP 0 rfl rfl 3 (by decide) (hts (.fieldLink RX3 20 "TimeMachine$Events" "b" "[I") (List.mem_of_getElem? (i := 5) rfl)) (fun _ h9 => h9) rfl dX3_add_44 ?_
    refine lv_aload_n hx hb dX3_add_47 rfl (lv_at hl 0 rfl) ?_
    refine va_get (D := (dC, dI)) (ci := 4) (v := .int (sI s7 1)) (C := RX3) (T := TX3) (N := 11) hx hb hts hi_dm_X3_add_X3 hown hK hP 0 rfl rfl 5 (by decide) (hts (.fieldLink RX3 39 "TimeMachine$Events" "total" "I") (List.mem_of_getElem? (i := 1) rfl)) (fun _ h9 => h9) rfl dX3_add_48 ?_
    refine lv_iload hx hb dX3_add_51 (lv_at hl 4 rfl) ?_
    obtain ⟨i8, h⟩ := nd_ck_e h
    refine va_iast (i := (sI s7 1)) (x := v3) hx hb hK hP hD hS 4 3 rfl rfl i8 dX3_add_53 (fun H locs hP hD hS => ?_)
    obtain ⟨s9, es9, h⟩ := nd_let_e h
    have hP : va_P (dC, dI) vwCl (dw_X3c a ac s9) H := by rw [es9]; exact hP
    have hD : va_D A (dw_X3c a ac s9) := by rw [es9]; exact hD
    refine lv_aload_n hx hb dX3_add_54 rfl (lv_at hl 0 rfl) ?_
    refine lv_dup hx hb dX3_add_55 rfl ?_
    refine va_get (D := (dC, dI)) (ci := 4) (v := .int (sI s9 1)) (C := RX3) (T := TX3) (N := 11) hx hb hts hi_dm_X3_add_X3 hown hK hP 0 rfl rfl 5 (by decide) (hts (.fieldLink RX3 39 "TimeMachine$Events" "total" "I") (List.mem_of_getElem? (i := 1) rfl)) (fun _ h9 => h9) rfl dX3_add_56 ?_
    refine lv_iconst (v := 1) hx hb dX3_add_59 (by decide) ?_
    refine lv_iadd hx hb dX3_add_60 ?_
    refine va_put (D := (dC, dI)) (ci := 4) (v := .int ((sI s9 1) + 1)) (ty := .int) (C := RX3) (T := TX3) (N := 11) hx hb hts hi_dm_X3_add_X3 tyX3 tyX3_ok nmX3 hown hK hP hD hS 0 rfl rfl 5 (by decide) (hts (.fieldLink RX3 39 "TimeMachine$Events" "total" "I") (List.mem_of_getElem? (i := 1) rfl)) (fun _ h9 => h9) rfl (by decide +kernel) rfl rfl (Nat.le_of_ble_eq_true rfl) dX3_add_61 (fun H locs hP hD hS => ?_)
    obtain ⟨s10, es10, h⟩ := nd_let_e h
    have hP : va_P (dC, dI) vwCl (dw_X3c a ac s10) H := by rw [es10]; exact hP
    have hD : va_D A (dw_X3c a ac s10) := by rw [es10]; exact hD
    refine lv_iconst (v := 1) hx hb dX3_add_64 (by decide) ?_
    exact K _ _ _ _ _ _ dX3_add_65 (by first | rfl | decide) (Option.some.inj h).symm hP hD hS
  · have h := nd_neg h c1
    refine lv_iconst (v := 0) hx hb dX3_add_10 (by decide) ?_
    exact K _ _ _ _ _ _ dX3_add_11 (by first | rfl | decide) (Option.some.inj h).symm hP hD hS
set_option maxHeartbeats 40000000 in
set_option maxRecDepth 100000 in
theorem dm_X3_add (l : Launch) (hlt : l.stackTraces = false) (dC : Nat → ClassId) (dI : Nat → Nat → Nat) (a : Nat → Nat) (ac : Nat → ClassId) (n : Nat) (v0 : Int32) (v1 : Int64) (v2 : Int64) (v3 : Int32) (s0 : St) {r : Int32 × (St)} (h : df_X3_add n v0 v1 v2 v3 s0 = some r) (sz : Nat) : Met l yX3_add ow_dm_X3_add ({ frames := 0, cells := 0, slots := 0, locals := 0 }) (va_Pc [.ref (a 0), .int v0, .long v1, .long v2, .int v3] (fun U => U.heap.size = sz ∧ va_P (dC, dI) vwCl (dw_X3c a ac s0) U.heap ∧ va_K (dC, dI) vwCl (dk_X3c ac) U ∧ va_D (fun _ => True) (dw_X3c a ac s0) ∧ nv_E dI (va_A (dw_X3c a ac s0) sz) U)) (va_Qi (fun x _ => x = r.1) (fun (_ : Unit) t => va_P (dC, dI) vwCl (dw_X3c a ac r.2) t.heap ∧ va_K (dC, dI) vwCl (dk_X3c ac) t ∧ va_D (va_A (dw_X3c a ac s0) sz) (dw_X3c a ac r.2)) (va_A (dw_X3c a ac s0) sz)) 0 0 (va_A (dw_X3c a ac s0) sz) := by
  refine Met.ofW (cc := cX3_add) (maxL := 7) (ret := (some .boolean)) (by decide) rfl ?_
  intro p e s m args below meth c s₁ B hml hv
  obtain ⟨rfl, hsz, hP, hK, hD0, hN⟩ := hv
  have hx := B.exec
  have hb := B.bytes
  have hr := B.returns
  have hts := atoms_spec (ws := ow_dm_X3_add) B.pre
  have hown : s.vm.findClass RX3 = some m.cls := findClass_of_methodNamed B.named
  have hlocks := B.notSynchronized
  subst hsz
  have hD := hD0.self (sz := s.heap.size)
  generalize hAe : va_A (dw_X3c a ac s0) s.heap.size = A at hD hN ⊢
  have hA : ∀ q : Nat, s.heap.size ≤ q → A q := fun q h => by rw [← hAe]; exact Or.inr h
  have hl := lv_entry ([.ref (a 0), .int v0, .long v1, .long v2, .int v3]) (n := 7) (Nat.le_of_ble_eq_true rfl)
  rw [lg_entry_eq]
  generalize (lg_sl ([.ref (a 0), .int v0, .long v1, .long v2, .int v3]) ++ List.replicate (7 - (lg_sl ([.ref (a 0), .int v0, .long v1, .long v2, .int v3])).length) Slot.unset).toArray = ls at hl ⊢
  have hl : lv_has ls 7 [(0, .ref (a 0)), (1, .int v0), (2, .long v1), (4, .long v2), (6, .int v3)] := hl
  exact db_X3_add_0 (dC := dC) (dI := dI) (a := a) (ac := ac) (n := n) (r := r) ⟨hlt, hx, hb, hml, hown, hts, hN, hA, hK⟩ (fun pc v τ H locs ls d z er hP hD hS => by subst er; exact W.zret (v := v) hx hb hr z (fun t ht hW => ⟨⟨v, (), rfl, rfl, by rw [ht]; exact hP, va_K.moved hW.alike hK, hD⟩, hS.F ht⟩) hS.2.2 d) v0 v1 v2 v3 s0 _ _ _ h hP hD va_S.rf (lv_sub hl [0, 1, 2, 3, 4] rfl)
def ow_dm_X3_isAt : List Cond := Cond.code yX3_isAt cX3_isAt 3 (some .boolean) :: ([Cond.fieldLink RX3 39 "TimeMachine$Events" "total" "I", Cond.fieldLink RX3 13 "TimeMachine$Events" "at" "[J"] ++ (u_ws RX3 TX3 11 ++ []))
theorem gd_dm_X3_isAt : ∀ w ∈ ow_dm_X3_isAt, (w.onTables && w.keeps) = true ∨ ∃ ty, w = Cond.arrayClass ty := List.forall_mem_cons.mpr ⟨good_of_word rfl, List.forall_mem_append.mpr ⟨fun w h => good_of_word (List.all_eq_true.mp (by decide +kernel) w h), List.forall_mem_append.mpr ⟨gu_X3, fun _ h => nomatch h⟩⟩⟩
theorem hi_dm_X3_isAt_X3 : ∀ w ∈ u_ws RX3 TX3 11, w ∈ ow_dm_X3_isAt := fun w h => List.mem_cons_of_mem _ (List.mem_append_right _ (List.mem_append_left _ h))
def dj_X3_isAt_29 (p : Program) (l : Launch) (e : Env) (s : State) (m : MethodId) (args : Array Value) (below : List Frame) (meth : Method) (c : Code) (Q : State → Prop) (A : Nat → Prop) (dC : Nat → ClassId) (dI : Nat → Nat → Nat) (a : Nat → Nat) (ac : Nat → ClassId) (g : Int32 → (St) → Option (Int32 × (St))) (r : Int32 × (St)) : Prop := ∀ (y0 : Int32) (s0 : St) (H : Heap) (locs : List Loc) (ls : Array Slot), g y0 s0 = some r → va_P (dC, dI) vwCl (dw_X3c a ac s0) H → va_D A (dw_X3c a ac s0) → va_S A s.heap H locs → lv_has ls 3 [] → W p l e (headSpec ow_dm_X3_isAt ({ frames := 0, cells := 0, slots := 0, locals := 0 })).room s m args below meth c H locs 0 0 Q (F0 m 29 ls [.int y0])
def dj_X3_isAt_28 (p : Program) (l : Launch) (e : Env) (s : State) (m : MethodId) (args : Array Value) (below : List Frame) (meth : Method) (c : Code) (Q : State → Prop) (A : Nat → Prop) (dC : Nat → ClassId) (dI : Nat → Nat → Nat) (a : Nat → Nat) (ac : Nat → ClassId) (g : (St) → Option (Int32 × (St))) (r : Int32 × (St)) : Prop := ∀ (s0 : St) (H : Heap) (locs : List Loc) (ls : Array Slot), g s0 = some r → va_P (dC, dI) vwCl (dw_X3c a ac s0) H → va_D A (dw_X3c a ac s0) → va_S A s.heap H locs → lv_has ls 3 [] → W p l e (headSpec ow_dm_X3_isAt ({ frames := 0, cells := 0, slots := 0, locals := 0 })).room s m args below meth c H locs 0 0 Q (F0 m 28 ls [])
def dj_X3_isAt_0 (p : Program) (l : Launch) (e : Env) (s : State) (m : MethodId) (args : Array Value) (below : List Frame) (meth : Method) (c : Code) (Q : State → Prop) (A : Nat → Prop) (dC : Nat → ClassId) (dI : Nat → Nat → Nat) (a : Nat → Nat) (ac : Nat → ClassId) (g : Int32 → Int32 → (St) → Option (Int32 × (St))) (r : Int32 × (St)) : Prop := ∀ (v0 : Int32) (v1 : Int32) (s0 : St) (H : Heap) (locs : List Loc) (ls : Array Slot), g v0 v1 s0 = some r → va_P (dC, dI) vwCl (dw_X3c a ac s0) H → va_D A (dw_X3c a ac s0) → va_S A s.heap H locs → lv_has ls 3 [(0, .ref (a 0)), (1, .int v0), (2, .int v1)] → W p l e (headSpec ow_dm_X3_isAt ({ frames := 0, cells := 0, slots := 0, locals := 0 })).room s m args below meth c H locs 0 0 Q (F0 m 0 ls [])
set_option maxHeartbeats 40000000 in
set_option maxRecDepth 100000 in
theorem db_X3_isAt_29 {p : Program} {l : Launch} {e : Env} {s : State} {m : MethodId} {args : Array Value} {below : List Frame} {meth : Method} {c : Code} {Q : State → Prop} {A : Nat → Prop} {dC : Nat → ClassId} {dI : Nat → Nat → Nat} {a : Nat → Nat} {ac : Nat → ClassId} {n : Nat} {r : Int32 × (St)} (C : nd_C p l s m args c A (dC, dI) cX3_isAt 3 RX3 ow_dm_X3_isAt (dk_X3c ac)) (K : nd_Ki p l e (headSpec ow_dm_X3_isAt ({ frames := 0, cells := 0, slots := 0, locals := 0 })).room s m args below meth c Q A (dC, dI) cX3_isAt .boolean (St) (dw_X3c a ac) r) : dj_X3_isAt_29 p l e s m args below meth c Q A dC dI a ac (df_X3_isAt_29 n) r := by
  obtain ⟨hlt, hx, hb, hml, hown, hts, hN, hA, hK⟩ := id C
  intro y0 s0 H locs ls h hP hD hS hl
  unfold df_X3_isAt_29 at h
  obtain ⟨n2, h⟩ := nd_z_e ⟨_, rfl⟩ h
  exact K _ _ _ _ _ _ dX3_isAt_29 n2 (Option.some.inj h).symm hP hD hS
set_option maxHeartbeats 40000000 in
set_option maxRecDepth 100000 in
theorem db_X3_isAt_28 {p : Program} {l : Launch} {e : Env} {s : State} {m : MethodId} {args : Array Value} {below : List Frame} {meth : Method} {c : Code} {Q : State → Prop} {A : Nat → Prop} {dC : Nat → ClassId} {dI : Nat → Nat → Nat} {a : Nat → Nat} {ac : Nat → ClassId} {n : Nat} {r : Int32 × (St)} (C : nd_C p l s m args c A (dC, dI) cX3_isAt 3 RX3 ow_dm_X3_isAt (dk_X3c ac)) (K : nd_Ki p l e (headSpec ow_dm_X3_isAt ({ frames := 0, cells := 0, slots := 0, locals := 0 })).room s m args below meth c Q A (dC, dI) cX3_isAt .boolean (St) (dw_X3c a ac) r) : dj_X3_isAt_28 p l e s m args below meth c Q A dC dI a ac (df_X3_isAt_28 n) r := by
  obtain ⟨hlt, hx, hb, hml, hown, hts, hN, hA, hK⟩ := id C
  intro s0 H locs ls h hP hD hS hl
  unfold df_X3_isAt_28 at h
  refine lv_iconst (v := 0) hx hb dX3_isAt_28 (by decide) ?_
  exact (db_X3_isAt_29 C K) (0) s0 _ _ _ h hP hD hS (lv_sub hl [] rfl)
set_option maxHeartbeats 40000000 in
set_option maxRecDepth 100000 in
theorem db_X3_isAt_0 {p : Program} {l : Launch} {e : Env} {s : State} {m : MethodId} {args : Array Value} {below : List Frame} {meth : Method} {c : Code} {Q : State → Prop} {A : Nat → Prop} {dC : Nat → ClassId} {dI : Nat → Nat → Nat} {a : Nat → Nat} {ac : Nat → ClassId} {n : Nat} {r : Int32 × (St)} (C : nd_C p l s m args c A (dC, dI) cX3_isAt 3 RX3 ow_dm_X3_isAt (dk_X3c ac)) (K : nd_Ki p l e (headSpec ow_dm_X3_isAt ({ frames := 0, cells := 0, slots := 0, locals := 0 })).room s m args below meth c Q A (dC, dI) cX3_isAt .boolean (St) (dw_X3c a ac) r) : dj_X3_isAt_0 p l e s m args below meth c Q A dC dI a ac (df_X3_isAt_0 n) r := by
  obtain ⟨hlt, hx, hb, hml, hown, hts, hN, hA, hK⟩ := id C
  intro v0 v1 s0 H locs ls h hP hD hS hl
  unfold df_X3_isAt_0 at h
  refine lv_iload_n hx hb dX3_isAt_0 rfl (lv_at hl 1 rfl) ?_
  refine lv_if_lt (tgt := 28) hx hb dX3_isAt_1 (by decide) (fun c1 => ?_) (fun c1 => ?_)
  · have h := nd_pos h c1
    exact (db_X3_isAt_28 C K)  s0 _ _ _ h hP hD hS (lv_sub hl [] rfl)
  · have h := nd_neg h c1
    refine lv_iload_n hx hb dX3_isAt_4 rfl (lv_at hl 1 rfl) ?_
    refine lv_aload_n hx hb dX3_isAt_5 rfl (lv_at hl 0 rfl) ?_
    refine va_get (D := (dC, dI)) (ci := 4) (v := .int (sI s0 1)) (C := RX3) (T := TX3) (N := 11) hx hb hts hi_dm_X3_isAt_X3 hown hK hP 0 rfl rfl 5 (by decide) (hts (.fieldLink RX3 39 "TimeMachine$Events" "total" "I") (List.mem_of_getElem? (i := 1) rfl)) (fun _ h9 => h9) rfl dX3_isAt_6 ?_
    refine lv_icmp_ge (tgt := 28) hx hb dX3_isAt_9 (by decide) (fun c3 => ?_) (fun c3 => ?_)
    · have h := nd_pos h c3
      exact (db_X3_isAt_28 C K)  s0 _ _ _ h hP hD hS (lv_sub hl [] rfl)
    · have h := nd_neg h c3
      refine lv_aload_n hx hb dX3_isAt_12 rfl (lv_at hl 0 rfl) ?_
      refine va_get (D := (dC, dI)) (ci := 4) (v := .ref (a 2)) (C := RX3) (T := TX3) (N := 11) hx hb hts hi_dm_X3_isAt_X3 hown hK hP 0 rfl rfl 1 (by decide) (hts (.fieldLink RX3 13 "TimeMachine$Events" "at" "[J") (List.mem_of_getElem? (i := 2) rfl)) (fun _ h9 => h9) rfl dX3_isAt_13 ?_
      refine lv_iload_n hx hb dX3_isAt_16 rfl (lv_at hl 1 rfl) ?_
      obtain ⟨i4, h⟩ := nd_ck_e h
      refine va_lald (i := v0) hx hb hK hP 2 1 rfl rfl i4 dX3_isAt_17 ?_
      refine lv_iload_n hx hb dX3_isAt_18 rfl (lv_at hl 2 rfl) ?_
      refine lv_i2l hx hb dX3_isAt_19 rfl ?_
      refine W.lcmp hx hb dX3_isAt_20 ?_
      refine lv_if_ne (tgt := 28) hx hb dX3_isAt_21 (by decide) (fun c5 => ?_) (fun c5 => ?_)
      · have h := nd_neg h c5
        exact (db_X3_isAt_28 C K)  s0 _ _ _ h hP hD hS (lv_sub hl [] rfl)
      · have h := nd_pos h c5
        refine lv_iconst (v := 1) hx hb dX3_isAt_24 (by decide) ?_
        refine lv_goto (tgt := 29) hx hb dX3_isAt_25 (by decide) ?_
        exact (db_X3_isAt_29 C K) (1) s0 _ _ _ h hP hD hS (lv_sub hl [] rfl)
set_option maxHeartbeats 40000000 in
set_option maxRecDepth 100000 in
theorem dm_X3_isAt (l : Launch) (hlt : l.stackTraces = false) (dC : Nat → ClassId) (dI : Nat → Nat → Nat) (a : Nat → Nat) (ac : Nat → ClassId) (n : Nat) (v0 : Int32) (v1 : Int32) (s0 : St) {r : Int32 × (St)} (h : df_X3_isAt n v0 v1 s0 = some r) (sz : Nat) : Met l yX3_isAt ow_dm_X3_isAt ({ frames := 0, cells := 0, slots := 0, locals := 0 }) (va_Pc [.ref (a 0), .int v0, .int v1] (fun U => U.heap.size = sz ∧ va_P (dC, dI) vwCl (dw_X3c a ac s0) U.heap ∧ va_K (dC, dI) vwCl (dk_X3c ac) U ∧ va_D (fun _ => True) (dw_X3c a ac s0) ∧ nv_E dI (va_A (dw_X3c a ac s0) sz) U)) (va_Qi (fun x _ => x = r.1) (fun (_ : Unit) t => va_P (dC, dI) vwCl (dw_X3c a ac r.2) t.heap ∧ va_K (dC, dI) vwCl (dk_X3c ac) t ∧ va_D (va_A (dw_X3c a ac s0) sz) (dw_X3c a ac r.2)) (va_A (dw_X3c a ac s0) sz)) 0 0 (va_A (dw_X3c a ac s0) sz) := by
  refine Met.ofW (cc := cX3_isAt) (maxL := 3) (ret := (some .boolean)) (by decide) rfl ?_
  intro p e s m args below meth c s₁ B hml hv
  obtain ⟨rfl, hsz, hP, hK, hD0, hN⟩ := hv
  have hx := B.exec
  have hb := B.bytes
  have hr := B.returns
  have hts := atoms_spec (ws := ow_dm_X3_isAt) B.pre
  have hown : s.vm.findClass RX3 = some m.cls := findClass_of_methodNamed B.named
  have hlocks := B.notSynchronized
  subst hsz
  have hD := hD0.self (sz := s.heap.size)
  generalize hAe : va_A (dw_X3c a ac s0) s.heap.size = A at hD hN ⊢
  have hA : ∀ q : Nat, s.heap.size ≤ q → A q := fun q h => by rw [← hAe]; exact Or.inr h
  have hl := lv_entry ([.ref (a 0), .int v0, .int v1]) (n := 3) (Nat.le_of_ble_eq_true rfl)
  rw [lg_entry_eq]
  generalize (lg_sl ([.ref (a 0), .int v0, .int v1]) ++ List.replicate (3 - (lg_sl ([.ref (a 0), .int v0, .int v1])).length) Slot.unset).toArray = ls at hl ⊢
  have hl : lv_has ls 3 [(0, .ref (a 0)), (1, .int v0), (2, .int v1)] := hl
  exact db_X3_isAt_0 (dC := dC) (dI := dI) (a := a) (ac := ac) (n := n) (r := r) ⟨hlt, hx, hb, hml, hown, hts, hN, hA, hK⟩ (fun pc v τ H locs ls d z er hP hD hS => by subst er; exact W.zret (v := v) hx hb hr z (fun t ht hW => ⟨⟨v, (), rfl, rfl, by rw [ht]; exact hP, va_K.moved hW.alike hK, hD⟩, hS.F ht⟩) hS.2.2 d) v0 v1 s0 _ _ _ h hP hD va_S.rf (lv_sub hl [0, 1, 2] rfl)
def ow_dm_X3_recordedBefore : List Cond := Cond.code yX3_recordedBefore cX3_recordedBefore 3 (some .int) :: ([Cond.fieldLink RX3 35 "TimeMachine$Events" "recorded" "I", Cond.fieldLink RX3 13 "TimeMachine$Events" "at" "[J"] ++ (u_ws RX3 TX3 11 ++ []))
theorem gd_dm_X3_recordedBefore : ∀ w ∈ ow_dm_X3_recordedBefore, (w.onTables && w.keeps) = true ∨ ∃ ty, w = Cond.arrayClass ty := List.forall_mem_cons.mpr ⟨good_of_word rfl, List.forall_mem_append.mpr ⟨fun w h => good_of_word (List.all_eq_true.mp (by decide +kernel) w h), List.forall_mem_append.mpr ⟨gu_X3, fun _ h => nomatch h⟩⟩⟩
theorem hi_dm_X3_recordedBefore_X3 : ∀ w ∈ u_ws RX3 TX3 11, w ∈ ow_dm_X3_recordedBefore := fun w h => List.mem_cons_of_mem _ (List.mem_append_right _ (List.mem_append_left _ h))
def dj_X3_recordedBefore_28 (p : Program) (l : Launch) (e : Env) (s : State) (m : MethodId) (args : Array Value) (below : List Frame) (meth : Method) (c : Code) (Q : State → Prop) (A : Nat → Prop) (dC : Nat → ClassId) (dI : Nat → Nat → Nat) (a : Nat → Nat) (ac : Nat → ClassId) (g : Int32 → (St) → Option (Int32 × (St))) (r : Int32 × (St)) : Prop := ∀ (x2 : Int32) (s0 : St) (H : Heap) (locs : List Loc) (ls : Array Slot), g x2 s0 = some r → va_P (dC, dI) vwCl (dw_X3c a ac s0) H → va_D A (dw_X3c a ac s0) → va_S A s.heap H locs → lv_has ls 3 [(2, .int x2)] → W p l e (headSpec ow_dm_X3_recordedBefore ({ frames := 0, cells := 0, slots := 0, locals := 0 })).room s m args below meth c H locs 0 0 Q (F0 m 28 ls [])
def dj_X3_recordedBefore_2 (p : Program) (l : Launch) (e : Env) (s : State) (m : MethodId) (args : Array Value) (below : List Frame) (meth : Method) (c : Code) (Q : State → Prop) (A : Nat → Prop) (dC : Nat → ClassId) (dI : Nat → Nat → Nat) (a : Nat → Nat) (ac : Nat → ClassId) (g : Int32 → Int32 → (St) → Option (Int32 × (St))) (r : Int32 × (St)) : Prop := ∀ (x1 : Int32) (x2 : Int32) (s0 : St) (H : Heap) (locs : List Loc) (ls : Array Slot), g x1 x2 s0 = some r → va_P (dC, dI) vwCl (dw_X3c a ac s0) H → va_D A (dw_X3c a ac s0) → va_S A s.heap H locs → lv_has ls 3 [(0, .ref (a 0)), (1, .int x1), (2, .int x2)] → W p l e (headSpec ow_dm_X3_recordedBefore ({ frames := 0, cells := 0, slots := 0, locals := 0 })).room s m args below meth c H locs 0 0 Q (F0 m 2 ls [])
def dj_X3_recordedBefore_0 (p : Program) (l : Launch) (e : Env) (s : State) (m : MethodId) (args : Array Value) (below : List Frame) (meth : Method) (c : Code) (Q : State → Prop) (A : Nat → Prop) (dC : Nat → ClassId) (dI : Nat → Nat → Nat) (a : Nat → Nat) (ac : Nat → ClassId) (g : Int32 → (St) → Option (Int32 × (St))) (r : Int32 × (St)) : Prop := ∀ (v0 : Int32) (s0 : St) (H : Heap) (locs : List Loc) (ls : Array Slot), g v0 s0 = some r → va_P (dC, dI) vwCl (dw_X3c a ac s0) H → va_D A (dw_X3c a ac s0) → va_S A s.heap H locs → lv_has ls 3 [(0, .ref (a 0)), (1, .int v0)] → W p l e (headSpec ow_dm_X3_recordedBefore ({ frames := 0, cells := 0, slots := 0, locals := 0 })).room s m args below meth c H locs 0 0 Q (F0 m 0 ls [])
set_option maxHeartbeats 40000000 in
set_option maxRecDepth 100000 in
theorem db_X3_recordedBefore_28 {p : Program} {l : Launch} {e : Env} {s : State} {m : MethodId} {args : Array Value} {below : List Frame} {meth : Method} {c : Code} {Q : State → Prop} {A : Nat → Prop} {dC : Nat → ClassId} {dI : Nat → Nat → Nat} {a : Nat → Nat} {ac : Nat → ClassId} {n : Nat} {r : Int32 × (St)} (C : nd_C p l s m args c A (dC, dI) cX3_recordedBefore 3 RX3 ow_dm_X3_recordedBefore (dk_X3c ac)) (K : nd_Ki p l e (headSpec ow_dm_X3_recordedBefore ({ frames := 0, cells := 0, slots := 0, locals := 0 })).room s m args below meth c Q A (dC, dI) cX3_recordedBefore .int (St) (dw_X3c a ac) r) : dj_X3_recordedBefore_28 p l e s m args below meth c Q A dC dI a ac (df_X3_recordedBefore_28 n) r := by
  obtain ⟨hlt, hx, hb, hml, hown, hts, hN, hA, hK⟩ := id C
  intro x2 s0 H locs ls h hP hD hS hl
  unfold df_X3_recordedBefore_28 at h
  refine lv_iload_n hx hb dX3_recordedBefore_28 rfl (lv_at hl 0 rfl) ?_
  exact K _ _ _ _ _ _ dX3_recordedBefore_29 rfl (Option.some.inj h).symm hP hD hS
set_option maxHeartbeats 40000000 in
set_option maxRecDepth 100000 in
theorem dB_X3_recordedBefore_2 {p : Program} {l : Launch} {e : Env} {s : State} {m : MethodId} {args : Array Value} {below : List Frame} {meth : Method} {c : Code} {Q : State → Prop} {A : Nat → Prop} {dC : Nat → ClassId} {dI : Nat → Nat → Nat} {a : Nat → Nat} {ac : Nat → ClassId} {n : Nat} {r : Int32 × (St)} (C : nd_C p l s m args c A (dC, dI) cX3_recordedBefore 3 RX3 ow_dm_X3_recordedBefore (dk_X3c ac)) (K : nd_Ki p l e (headSpec ow_dm_X3_recordedBefore ({ frames := 0, cells := 0, slots := 0, locals := 0 })).room s m args below meth c Q A (dC, dI) cX3_recordedBefore .int (St) (dw_X3c a ac) r) {g2 : Int32 → Int32 → (St) → Option (Int32 × (St))} (J2 : dj_X3_recordedBefore_2 p l e s m args below meth c Q A dC dI a ac g2 r) : dj_X3_recordedBefore_2 p l e s m args below meth c Q A dC dI a ac (dF_X3_recordedBefore_2 n g2) r := by
  obtain ⟨hlt, hx, hb, hml, hown, hts, hN, hA, hK⟩ := id C
  intro x1 x2 s0 H locs ls h hP hD hS hl
  unfold dF_X3_recordedBefore_2 at h
  refine lv_iload_n hx hb dX3_recordedBefore_2 rfl (lv_at hl 2 rfl) ?_
  refine lv_aload_n hx hb dX3_recordedBefore_3 rfl (lv_at hl 0 rfl) ?_
  refine va_get (D := (dC, dI)) (ci := 4) (v := .int (sI s0 0)) (C := RX3) (T := TX3) (N := 11) hx hb hts hi_dm_X3_recordedBefore_X3 hown hK hP 0 rfl rfl 4 (by decide) (hts (.fieldLink RX3 35 "TimeMachine$Events" "recorded" "I") (List.mem_of_getElem? (i := 1) rfl)) (fun _ h9 => h9) rfl dX3_recordedBefore_4 ?_
  refine lv_icmp_ge (tgt := 28) hx hb dX3_recordedBefore_7 (by decide) (fun c1 => ?_) (fun c1 => ?_)
  · have h := nd_pos h c1
    exact (db_X3_recordedBefore_28 C K) (x2) s0 _ _ _ h hP hD hS (lv_sub hl [2] rfl)
  · have h := nd_neg h c1
    refine lv_aload_n hx hb dX3_recordedBefore_10 rfl (lv_at hl 0 rfl) ?_
    refine va_get (D := (dC, dI)) (ci := 4) (v := .ref (a 2)) (C := RX3) (T := TX3) (N := 11) hx hb hts hi_dm_X3_recordedBefore_X3 hown hK hP 0 rfl rfl 1 (by decide) (hts (.fieldLink RX3 13 "TimeMachine$Events" "at" "[J") (List.mem_of_getElem? (i := 2) rfl)) (fun _ h9 => h9) rfl dX3_recordedBefore_11 ?_
    refine lv_iload_n hx hb dX3_recordedBefore_14 rfl (lv_at hl 2 rfl) ?_
    obtain ⟨i2, h⟩ := nd_ck_e h
    refine va_lald (i := x2) hx hb hK hP 2 1 rfl rfl i2 dX3_recordedBefore_15 ?_
    refine lv_iload_n hx hb dX3_recordedBefore_16 rfl (lv_at hl 1 rfl) ?_
    refine lv_i2l hx hb dX3_recordedBefore_17 rfl ?_
    refine W.lcmp hx hb dX3_recordedBefore_18 ?_
    refine lv_if_ge (tgt := 28) hx hb dX3_recordedBefore_19 (by decide) (fun c3 => ?_) (fun c3 => ?_)
    · have h := nd_pos h c3
      exact (db_X3_recordedBefore_28 C K) (x2) s0 _ _ _ h hP hD hS (lv_sub hl [2] rfl)
    · have h := nd_neg h c3
      obtain ⟨z4, ez4, h⟩ := nd_let_e h
      refine lv_iinc (v := z4) (lv' := [(2, .int z4), (0, .ref (a 0)), (1, .int x1)]) hx hb dX3_recordedBefore_22 hl (k := 2) rfl (by rw [ez4]) (by decide) rfl (fun ls hl => ?_)
      refine lv_goto (tgt := 2) hx hb dX3_recordedBefore_25 (by decide) ?_
      exact (J2) (x1) (z4) s0 _ _ _ h hP hD hS (lv_sub hl [1, 2, 0] rfl)
set_option maxHeartbeats 40000000 in
set_option maxRecDepth 100000 in
theorem db_X3_recordedBefore_2 {p : Program} {l : Launch} {e : Env} {s : State} {m : MethodId} {args : Array Value} {below : List Frame} {meth : Method} {c : Code} {Q : State → Prop} {A : Nat → Prop} {dC : Nat → ClassId} {dI : Nat → Nat → Nat} {a : Nat → Nat} {ac : Nat → ClassId} {n : Nat} {r : Int32 × (St)} (C : nd_C p l s m args c A (dC, dI) cX3_recordedBefore 3 RX3 ow_dm_X3_recordedBefore (dk_X3c ac)) (K : nd_Ki p l e (headSpec ow_dm_X3_recordedBefore ({ frames := 0, cells := 0, slots := 0, locals := 0 })).room s m args below meth c Q A (dC, dI) cX3_recordedBefore .int (St) (dw_X3c a ac) r) (k : Nat) : dj_X3_recordedBefore_2 p l e s m args below meth c Q A dC dI a ac (df_X3_recordedBefore_2 n k) r := by
  induction k with
  | zero => intro x1 x2 s0 H locs ls h; exact nomatch (show (none : Option (Int32 × (St))) = some r from h)
  | succ k ih => exact dB_X3_recordedBefore_2 C K ih
set_option maxHeartbeats 40000000 in
set_option maxRecDepth 100000 in
theorem db_X3_recordedBefore_0 {p : Program} {l : Launch} {e : Env} {s : State} {m : MethodId} {args : Array Value} {below : List Frame} {meth : Method} {c : Code} {Q : State → Prop} {A : Nat → Prop} {dC : Nat → ClassId} {dI : Nat → Nat → Nat} {a : Nat → Nat} {ac : Nat → ClassId} {n : Nat} {r : Int32 × (St)} (C : nd_C p l s m args c A (dC, dI) cX3_recordedBefore 3 RX3 ow_dm_X3_recordedBefore (dk_X3c ac)) (K : nd_Ki p l e (headSpec ow_dm_X3_recordedBefore ({ frames := 0, cells := 0, slots := 0, locals := 0 })).room s m args below meth c Q A (dC, dI) cX3_recordedBefore .int (St) (dw_X3c a ac) r) : dj_X3_recordedBefore_0 p l e s m args below meth c Q A dC dI a ac (df_X3_recordedBefore_0 n) r := by
  obtain ⟨hlt, hx, hb, hml, hown, hts, hN, hA, hK⟩ := id C
  intro v0 s0 H locs ls h hP hD hS hl
  unfold df_X3_recordedBefore_0 at h
  refine lv_iconst (v := 0) hx hb dX3_recordedBefore_0 (by decide) ?_
  refine lv_istore_n (lv' := [(2, .int 0), (0, .ref (a 0)), (1, .int v0)]) hx hb dX3_recordedBefore_1 rfl hl (by decide) rfl (fun ls hl => ?_)
  exact (db_X3_recordedBefore_2 C K n) (v0) (0) s0 _ _ _ h hP hD hS (lv_sub hl [1, 2, 0] rfl)
set_option maxHeartbeats 40000000 in
set_option maxRecDepth 100000 in
theorem dm_X3_recordedBefore (l : Launch) (hlt : l.stackTraces = false) (dC : Nat → ClassId) (dI : Nat → Nat → Nat) (a : Nat → Nat) (ac : Nat → ClassId) (n : Nat) (v0 : Int32) (s0 : St) {r : Int32 × (St)} (h : df_X3_recordedBefore n v0 s0 = some r) (sz : Nat) : Met l yX3_recordedBefore ow_dm_X3_recordedBefore ({ frames := 0, cells := 0, slots := 0, locals := 0 }) (va_Pc [.ref (a 0), .int v0] (fun U => U.heap.size = sz ∧ va_P (dC, dI) vwCl (dw_X3c a ac s0) U.heap ∧ va_K (dC, dI) vwCl (dk_X3c ac) U ∧ va_D (fun _ => True) (dw_X3c a ac s0) ∧ nv_E dI (va_A (dw_X3c a ac s0) sz) U)) (va_Qi (fun x _ => x = r.1) (fun (_ : Unit) t => va_P (dC, dI) vwCl (dw_X3c a ac r.2) t.heap ∧ va_K (dC, dI) vwCl (dk_X3c ac) t ∧ va_D (va_A (dw_X3c a ac s0) sz) (dw_X3c a ac r.2)) (va_A (dw_X3c a ac s0) sz)) 0 0 (va_A (dw_X3c a ac s0) sz) := by
  refine Met.ofW (cc := cX3_recordedBefore) (maxL := 3) (ret := (some .int)) (by decide) rfl ?_
  intro p e s m args below meth c s₁ B hml hv
  obtain ⟨rfl, hsz, hP, hK, hD0, hN⟩ := hv
  have hx := B.exec
  have hb := B.bytes
  have hr := B.returns
  have hts := atoms_spec (ws := ow_dm_X3_recordedBefore) B.pre
  have hown : s.vm.findClass RX3 = some m.cls := findClass_of_methodNamed B.named
  have hlocks := B.notSynchronized
  subst hsz
  have hD := hD0.self (sz := s.heap.size)
  generalize hAe : va_A (dw_X3c a ac s0) s.heap.size = A at hD hN ⊢
  have hA : ∀ q : Nat, s.heap.size ≤ q → A q := fun q h => by rw [← hAe]; exact Or.inr h
  have hl := lv_entry ([.ref (a 0), .int v0]) (n := 3) (Nat.le_of_ble_eq_true rfl)
  rw [lg_entry_eq]
  generalize (lg_sl ([.ref (a 0), .int v0]) ++ List.replicate (3 - (lg_sl ([.ref (a 0), .int v0])).length) Slot.unset).toArray = ls at hl ⊢
  have hl : lv_has ls 3 [(0, .ref (a 0)), (1, .int v0)] := hl
  exact db_X3_recordedBefore_0 (dC := dC) (dI := dI) (a := a) (ac := ac) (n := n) (r := r) ⟨hlt, hx, hb, hml, hown, hts, hN, hA, hK⟩ (fun pc v τ H locs ls d z er hP hD hS => by subst er; exact W.zret (v := v) hx hb hr z (fun t ht hW => ⟨⟨v, (), rfl, rfl, by rw [ht]; exact hP, va_K.moved hW.alike hK, hD⟩, hS.F ht⟩) hS.2.2 d) v0 s0 _ _ _ h hP hD va_S.rf (lv_sub hl [0, 1] rfl)
def ow_dm_X3_told : List Cond := Cond.code yX3_told cX3_told 3 (some .long) :: ([Cond.constantLong RX3 42 (-1), Cond.fieldLink RX3 35 "TimeMachine$Events" "recorded" "I", Cond.fieldLink RX3 9 "TimeMachine$Events" "kind" "[I", Cond.fieldLink RX3 13 "TimeMachine$Events" "at" "[J", Cond.fieldLink RX3 17 "TimeMachine$Events" "a" "[J", Cond.fieldLink RX3 20 "TimeMachine$Events" "b" "[I"] ++ (u_ws RX3 TX3 11 ++ []))
theorem gd_dm_X3_told : ∀ w ∈ ow_dm_X3_told, (w.onTables && w.keeps) = true ∨ ∃ ty, w = Cond.arrayClass ty := List.forall_mem_cons.mpr ⟨good_of_word rfl, List.forall_mem_append.mpr ⟨fun w h => good_of_word (List.all_eq_true.mp (by decide +kernel) w h), List.forall_mem_append.mpr ⟨gu_X3, fun _ h => nomatch h⟩⟩⟩
theorem hi_dm_X3_told_X3 : ∀ w ∈ u_ws RX3 TX3 11, w ∈ ow_dm_X3_told := fun w h => List.mem_cons_of_mem _ (List.mem_append_right _ (List.mem_append_left _ h))
def dj_X3_told_12 (p : Program) (l : Launch) (e : Env) (s : State) (m : MethodId) (args : Array Value) (below : List Frame) (meth : Method) (c : Code) (Q : State → Prop) (A : Nat → Prop) (dC : Nat → ClassId) (dI : Nat → Nat → Nat) (a : Nat → Nat) (ac : Nat → ClassId) (g : (St) → Option (Int64 × (St))) (r : Int64 × (St)) : Prop := ∀ (s0 : St) (H : Heap) (locs : List Loc) (ls : Array Slot), g s0 = some r → va_P (dC, dI) vwCl (dw_X3c a ac s0) H → va_D A (dw_X3c a ac s0) → va_S A s.heap H locs → lv_has ls 3 [] → W p l e (headSpec ow_dm_X3_told ({ frames := 0, cells := 0, slots := 0, locals := 0 })).room s m args below meth c H locs 0 0 Q (F0 m 12 ls [])
def dj_X3_told_0 (p : Program) (l : Launch) (e : Env) (s : State) (m : MethodId) (args : Array Value) (below : List Frame) (meth : Method) (c : Code) (Q : State → Prop) (A : Nat → Prop) (dC : Nat → ClassId) (dI : Nat → Nat → Nat) (a : Nat → Nat) (ac : Nat → ClassId) (g : Int32 → Int32 → (St) → Option (Int64 × (St))) (r : Int64 × (St)) : Prop := ∀ (v0 : Int32) (v1 : Int32) (s0 : St) (H : Heap) (locs : List Loc) (ls : Array Slot), g v0 v1 s0 = some r → va_P (dC, dI) vwCl (dw_X3c a ac s0) H → va_D A (dw_X3c a ac s0) → va_S A s.heap H locs → lv_has ls 3 [(0, .ref (a 0)), (1, .int v0), (2, .int v1)] → W p l e (headSpec ow_dm_X3_told ({ frames := 0, cells := 0, slots := 0, locals := 0 })).room s m args below meth c H locs 0 0 Q (F0 m 0 ls [])
set_option maxHeartbeats 40000000 in
set_option maxRecDepth 100000 in
theorem db_X3_told_12 {p : Program} {l : Launch} {e : Env} {s : State} {m : MethodId} {args : Array Value} {below : List Frame} {meth : Method} {c : Code} {Q : State → Prop} {A : Nat → Prop} {dC : Nat → ClassId} {dI : Nat → Nat → Nat} {a : Nat → Nat} {ac : Nat → ClassId} {n : Nat} {r : Int64 × (St)} (C : nd_C p l s m args c A (dC, dI) cX3_told 3 RX3 ow_dm_X3_told (dk_X3c ac)) (K : nd_Kl p l e (headSpec ow_dm_X3_told ({ frames := 0, cells := 0, slots := 0, locals := 0 })).room s m args below meth c Q A (dC, dI) cX3_told (St) (dw_X3c a ac) r) : dj_X3_told_12 p l e s m args below meth c Q A dC dI a ac (df_X3_told_12 n) r := by
  obtain ⟨hlt, hx, hb, hml, hown, hts, hN, hA, hK⟩ := id C
  intro s0 H locs ls h hP hD hS hl
  unfold df_X3_told_12 at h
  refine lv_ldc2 hx hb hown (hts (.constantLong RX3 42 (-1)) (List.mem_of_getElem? (i := 1) rfl)) dX3_told_12 ?_
  exact K _ _ _ _ _ _ dX3_told_15 (Option.some.inj h).symm hP hD hS
set_option maxHeartbeats 40000000 in
set_option maxRecDepth 100000 in
theorem db_X3_told_0 {p : Program} {l : Launch} {e : Env} {s : State} {m : MethodId} {args : Array Value} {below : List Frame} {meth : Method} {c : Code} {Q : State → Prop} {A : Nat → Prop} {dC : Nat → ClassId} {dI : Nat → Nat → Nat} {a : Nat → Nat} {ac : Nat → ClassId} {n : Nat} {r : Int64 × (St)} (C : nd_C p l s m args c A (dC, dI) cX3_told 3 RX3 ow_dm_X3_told (dk_X3c ac)) (K : nd_Kl p l e (headSpec ow_dm_X3_told ({ frames := 0, cells := 0, slots := 0, locals := 0 })).room s m args below meth c Q A (dC, dI) cX3_told (St) (dw_X3c a ac) r) : dj_X3_told_0 p l e s m args below meth c Q A dC dI a ac (df_X3_told_0 n) r := by
  obtain ⟨hlt, hx, hb, hml, hown, hts, hN, hA, hK⟩ := id C
  intro v0 v1 s0 H locs ls h hP hD hS hl
  unfold df_X3_told_0 at h
  refine lv_iload_n hx hb dX3_told_0 rfl (lv_at hl 1 rfl) ?_
  refine lv_if_lt (tgt := 12) hx hb dX3_told_1 (by decide) (fun c1 => ?_) (fun c1 => ?_)
  · have h := nd_pos h c1
    exact (db_X3_told_12 C K)  s0 _ _ _ h hP hD hS (lv_sub hl [] rfl)
  · have h := nd_neg h c1
    refine lv_iload_n hx hb dX3_told_4 rfl (lv_at hl 1 rfl) ?_
    refine lv_aload_n hx hb dX3_told_5 rfl (lv_at hl 0 rfl) ?_
    refine va_get (D := (dC, dI)) (ci := 4) (v := .int (sI s0 0)) (C := RX3) (T := TX3) (N := 11) hx hb hts hi_dm_X3_told_X3 hown hK hP 0 rfl rfl 4 (by decide) (hts (.fieldLink RX3 35 "TimeMachine$Events" "recorded" "I") (List.mem_of_getElem? (i := 2) rfl)) (fun _ h9 => h9) rfl dX3_told_6 ?_
    refine lv_icmp_lt (tgt := 16) hx hb dX3_told_9 (by decide) (fun c2 => ?_) (fun c2 => ?_)
    · have h := nd_pos h c2
      refine lv_iload_n hx hb dX3_told_16 rfl (lv_at hl 2 rfl) ?_
      by_cases c3 : v1 = 0
      · have h := nd_pos h c3
        refine lv_tableIn (off := 31) (tgt := 48) hx hb dX3_told_17 (by rw [c3]; decide) (by rw [c3]; decide) (by rw [c3]; decide) (by decide) ?_
        refine lv_aload_n hx hb dX3_told_48 rfl (lv_at hl 0 rfl) ?_
        refine va_get (D := (dC, dI)) (ci := 4) (v := .ref (a 1)) (C := RX3) (T := TX3) (N := 11) hx hb hts hi_dm_X3_told_X3 hown hK hP 0 rfl rfl 0 (by decide) (hts (.fieldLink RX3 9 "TimeMachine$Events" "kind" "[I") (List.mem_of_getElem? (i := 3) rfl)) (fun _ h9 => h9) rfl dX3_told_49 ?_
        refine lv_iload_n hx hb dX3_told_52 rfl (lv_at hl 1 rfl) ?_
        obtain ⟨i4, h⟩ := nd_ck_e h
        refine va_iald (i := v0) hx hb hK hP 1 0 rfl rfl i4 dX3_told_53 ?_
        refine lv_i2l hx hb dX3_told_54 rfl ?_
        exact K _ _ _ _ _ _ dX3_told_55 (Option.some.inj h).symm hP hD hS
      have h := nd_neg h c3
      by_cases c5 : v1 = 1
      · have h := nd_pos h c5
        refine lv_tableIn (off := 39) (tgt := 56) hx hb dX3_told_17 (by rw [c5]; decide) (by rw [c5]; decide) (by rw [c5]; decide) (by decide) ?_
        refine lv_aload_n hx hb dX3_told_56 rfl (lv_at hl 0 rfl) ?_
        refine va_get (D := (dC, dI)) (ci := 4) (v := .ref (a 2)) (C := RX3) (T := TX3) (N := 11) hx hb hts hi_dm_X3_told_X3 hown hK hP 0 rfl rfl 1 (by decide) (hts (.fieldLink RX3 13 "TimeMachine$Events" "at" "[J") (List.mem_of_getElem? (i := 4) rfl)) (fun _ h9 => h9) rfl dX3_told_57 ?_
        refine lv_iload_n hx hb dX3_told_60 rfl (lv_at hl 1 rfl) ?_
        obtain ⟨i6, h⟩ := nd_ck_e h
        refine va_lald (i := v0) hx hb hK hP 2 1 rfl rfl i6 dX3_told_61 ?_
        exact K _ _ _ _ _ _ dX3_told_62 (Option.some.inj h).symm hP hD hS
      have h := nd_neg h c5
      by_cases c7 : v1 = 2
      · have h := nd_pos h c7
        refine lv_tableIn (off := 46) (tgt := 63) hx hb dX3_told_17 (by rw [c7]; decide) (by rw [c7]; decide) (by rw [c7]; decide) (by decide) ?_
        refine lv_aload_n hx hb dX3_told_63 rfl (lv_at hl 0 rfl) ?_
        refine va_get (D := (dC, dI)) (ci := 4) (v := .ref (a 3)) (C := RX3) (T := TX3) (N := 11) hx hb hts hi_dm_X3_told_X3 hown hK hP 0 rfl rfl 2 (by decide) (hts (.fieldLink RX3 17 "TimeMachine$Events" "a" "[J") (List.mem_of_getElem? (i := 5) rfl)) (fun _ h9 => h9) rfl dX3_told_64 ?_
        refine lv_iload_n hx hb dX3_told_67 rfl (lv_at hl 1 rfl) ?_
        obtain ⟨i8, h⟩ := nd_ck_e h
        refine va_lald (i := v0) hx hb hK hP 3 2 rfl rfl i8 dX3_told_68 ?_
        exact K _ _ _ _ _ _ dX3_told_69 (Option.some.inj h).symm hP hD hS
      have h := nd_neg h c7
      by_cases c9 : v1 = 3
      · have h := nd_pos h c9
        refine lv_tableIn (off := 53) (tgt := 70) hx hb dX3_told_17 (by rw [c9]; decide) (by rw [c9]; decide) (by rw [c9]; decide) (by decide) ?_
        refine lv_aload_n hx hb dX3_told_70 rfl (lv_at hl 0 rfl) ?_
        refine va_get (D := (dC, dI)) (ci := 4) (v := .ref (a 4)) (C := RX3) (T := TX3) (N := 11) hx hb hts hi_dm_X3_told_X3 hown hK hP 0 rfl rfl 3 (by decide) (hts (.fieldLink RX3 20 "TimeMachine$Events" "b" "[I") (List.mem_of_getElem? (i := 6) rfl)) (fun _ h9 => h9) rfl dX3_told_71 ?_
        refine lv_iload_n hx hb dX3_told_74 rfl (lv_at hl 1 rfl) ?_
        obtain ⟨i10, h⟩ := nd_ck_e h
        refine va_iald (i := v0) hx hb hK hP 4 3 rfl rfl i10 dX3_told_75 ?_
        refine lv_i2l hx hb dX3_told_76 rfl ?_
        exact K _ _ _ _ _ _ dX3_told_77 (Option.some.inj h).symm hP hD hS
      have h := nd_neg h c9
      refine lv_tableOut (tgt := 78) hx hb dX3_told_17 (by have g0 := nv_nei c3 (k := 0) (by decide); have g1 := nv_nei c5 (k := 1) (by decide); have g2 := nv_nei c7 (k := 2) (by decide); have g3 := nv_nei c9 (k := 3) (by decide); omega) (by decide) ?_
      refine lv_ldc2 hx hb hown (hts (.constantLong RX3 42 (-1)) (List.mem_of_getElem? (i := 1) rfl)) dX3_told_78 ?_
      exact K _ _ _ _ _ _ dX3_told_81 (Option.some.inj h).symm hP hD hS
    · have h := nd_neg h c2
      exact (db_X3_told_12 C K)  s0 _ _ _ h hP hD hS (lv_sub hl [] rfl)
set_option maxHeartbeats 40000000 in
set_option maxRecDepth 100000 in
theorem dm_X3_told (l : Launch) (hlt : l.stackTraces = false) (dC : Nat → ClassId) (dI : Nat → Nat → Nat) (a : Nat → Nat) (ac : Nat → ClassId) (n : Nat) (v0 : Int32) (v1 : Int32) (s0 : St) {r : Int64 × (St)} (h : df_X3_told n v0 v1 s0 = some r) (sz : Nat) : Met l yX3_told ow_dm_X3_told ({ frames := 0, cells := 0, slots := 0, locals := 0 }) (va_Pc [.ref (a 0), .int v0, .int v1] (fun U => U.heap.size = sz ∧ va_P (dC, dI) vwCl (dw_X3c a ac s0) U.heap ∧ va_K (dC, dI) vwCl (dk_X3c ac) U ∧ va_D (fun _ => True) (dw_X3c a ac s0) ∧ nv_E dI (va_A (dw_X3c a ac s0) sz) U)) (va_Ql (fun x _ => x = r.1) (fun (_ : Unit) t => va_P (dC, dI) vwCl (dw_X3c a ac r.2) t.heap ∧ va_K (dC, dI) vwCl (dk_X3c ac) t ∧ va_D (va_A (dw_X3c a ac s0) sz) (dw_X3c a ac r.2)) (va_A (dw_X3c a ac s0) sz)) 0 0 (va_A (dw_X3c a ac s0) sz) := by
  refine Met.ofW (cc := cX3_told) (maxL := 3) (ret := (some .long)) (by decide) rfl ?_
  intro p e s m args below meth c s₁ B hml hv
  obtain ⟨rfl, hsz, hP, hK, hD0, hN⟩ := hv
  have hx := B.exec
  have hb := B.bytes
  have hr := B.returns
  have hts := atoms_spec (ws := ow_dm_X3_told) B.pre
  have hown : s.vm.findClass RX3 = some m.cls := findClass_of_methodNamed B.named
  have hlocks := B.notSynchronized
  subst hsz
  have hD := hD0.self (sz := s.heap.size)
  generalize hAe : va_A (dw_X3c a ac s0) s.heap.size = A at hD hN ⊢
  have hA : ∀ q : Nat, s.heap.size ≤ q → A q := fun q h => by rw [← hAe]; exact Or.inr h
  have hl := lv_entry ([.ref (a 0), .int v0, .int v1]) (n := 3) (Nat.le_of_ble_eq_true rfl)
  rw [lg_entry_eq]
  generalize (lg_sl ([.ref (a 0), .int v0, .int v1]) ++ List.replicate (3 - (lg_sl ([.ref (a 0), .int v0, .int v1])).length) Slot.unset).toArray = ls at hl ⊢
  have hl : lv_has ls 3 [(0, .ref (a 0)), (1, .int v0), (2, .int v1)] := hl
  exact db_X3_told_0 (dC := dC) (dI := dI) (a := a) (ac := ac) (n := n) (r := r) ⟨hlt, hx, hb, hml, hown, hts, hN, hA, hK⟩ (fun pc v τ H locs ls d er hP hD hS => by subst er; exact W.lret (v := v) hx hb hr (fun t ht hW => ⟨⟨v, (), rfl, rfl, by rw [ht]; exact hP, va_K.moved hW.alike hK, hD⟩, hS.F ht⟩) hS.2.2 d) v0 v1 s0 _ _ _ h hP hD va_S.rf (lv_sub hl [0, 1, 2] rfl)
def ow_dm_X3_difference : List Cond := Cond.code yX3_difference cX3_difference 2 (some .long) :: ([Cond.fieldLink RX3 13 "TimeMachine$Events" "at" "[J"] ++ (u_ws RX3 TX3 11 ++ []))
theorem gd_dm_X3_difference : ∀ w ∈ ow_dm_X3_difference, (w.onTables && w.keeps) = true ∨ ∃ ty, w = Cond.arrayClass ty := List.forall_mem_cons.mpr ⟨good_of_word rfl, List.forall_mem_append.mpr ⟨fun w h => good_of_word (List.all_eq_true.mp (by decide +kernel) w h), List.forall_mem_append.mpr ⟨gu_X3, fun _ h => nomatch h⟩⟩⟩
theorem hi_dm_X3_difference_X3 : ∀ w ∈ u_ws RX3 TX3 11, w ∈ ow_dm_X3_difference := fun w h => List.mem_cons_of_mem _ (List.mem_append_right _ (List.mem_append_left _ h))
def dj_X3_difference_28 (p : Program) (l : Launch) (e : Env) (s : State) (m : MethodId) (args : Array Value) (below : List Frame) (meth : Method) (c : Code) (Q : State → Prop) (A : Nat → Prop) (dC : Nat → ClassId) (dI : Nat → Nat → Nat) (a : Nat → Nat) (ac : Nat → ClassId) (g : Int64 → (St) → Option (Int64 × (St))) (r : Int64 × (St)) : Prop := ∀ (y0 : Int64) (s0 : St) (H : Heap) (locs : List Loc) (ls : Array Slot), g y0 s0 = some r → va_P (dC, dI) vwCl (dw_X3c a ac s0) H → va_D A (dw_X3c a ac s0) → va_S A s.heap H locs → lv_has ls 2 [] → W p l e (headSpec ow_dm_X3_difference ({ frames := 0, cells := 0, slots := 0, locals := 0 })).room s m args below meth c H locs 0 0 Q (F0 m 28 ls [.long y0])
def dj_X3_difference_0 (p : Program) (l : Launch) (e : Env) (s : State) (m : MethodId) (args : Array Value) (below : List Frame) (meth : Method) (c : Code) (Q : State → Prop) (A : Nat → Prop) (dC : Nat → ClassId) (dI : Nat → Nat → Nat) (a : Nat → Nat) (ac : Nat → ClassId) (g : Int32 → (St) → Option (Int64 × (St))) (r : Int64 × (St)) : Prop := ∀ (v0 : Int32) (s0 : St) (H : Heap) (locs : List Loc) (ls : Array Slot), g v0 s0 = some r → va_P (dC, dI) vwCl (dw_X3c a ac s0) H → va_D A (dw_X3c a ac s0) → va_S A s.heap H locs → lv_has ls 2 [(0, .ref (a 0)), (1, .int v0)] → W p l e (headSpec ow_dm_X3_difference ({ frames := 0, cells := 0, slots := 0, locals := 0 })).room s m args below meth c H locs 0 0 Q (F0 m 0 ls [])
set_option maxHeartbeats 40000000 in
set_option maxRecDepth 100000 in
theorem db_X3_difference_28 {p : Program} {l : Launch} {e : Env} {s : State} {m : MethodId} {args : Array Value} {below : List Frame} {meth : Method} {c : Code} {Q : State → Prop} {A : Nat → Prop} {dC : Nat → ClassId} {dI : Nat → Nat → Nat} {a : Nat → Nat} {ac : Nat → ClassId} {n : Nat} {r : Int64 × (St)} (C : nd_C p l s m args c A (dC, dI) cX3_difference 2 RX3 ow_dm_X3_difference (dk_X3c ac)) (K : nd_Kl p l e (headSpec ow_dm_X3_difference ({ frames := 0, cells := 0, slots := 0, locals := 0 })).room s m args below meth c Q A (dC, dI) cX3_difference (St) (dw_X3c a ac) r) : dj_X3_difference_28 p l e s m args below meth c Q A dC dI a ac (df_X3_difference_28 n) r := by
  obtain ⟨hlt, hx, hb, hml, hown, hts, hN, hA, hK⟩ := id C
  intro y0 s0 H locs ls h hP hD hS hl
  unfold df_X3_difference_28 at h
  exact K _ _ _ _ _ _ dX3_difference_28 (Option.some.inj h).symm hP hD hS
set_option maxHeartbeats 40000000 in
set_option maxRecDepth 100000 in
theorem db_X3_difference_0 {p : Program} {l : Launch} {e : Env} {s : State} {m : MethodId} {args : Array Value} {below : List Frame} {meth : Method} {c : Code} {Q : State → Prop} {A : Nat → Prop} {dC : Nat → ClassId} {dI : Nat → Nat → Nat} {a : Nat → Nat} {ac : Nat → ClassId} {n : Nat} {r : Int64 × (St)} (C : nd_C p l s m args c A (dC, dI) cX3_difference 2 RX3 ow_dm_X3_difference (dk_X3c ac)) (K : nd_Kl p l e (headSpec ow_dm_X3_difference ({ frames := 0, cells := 0, slots := 0, locals := 0 })).room s m args below meth c Q A (dC, dI) cX3_difference (St) (dw_X3c a ac) r) : dj_X3_difference_0 p l e s m args below meth c Q A dC dI a ac (df_X3_difference_0 n) r := by
  obtain ⟨hlt, hx, hb, hml, hown, hts, hN, hA, hK⟩ := id C
  intro v0 s0 H locs ls h hP hD hS hl
  unfold df_X3_difference_0 at h
  refine lv_iload_n hx hb dX3_difference_0 rfl (lv_at hl 1 rfl) ?_
  refine lv_if_gt (tgt := 13) hx hb dX3_difference_1 (by decide) (fun c1 => ?_) (fun c1 => ?_)
  · have h := nd_pos h c1
    refine lv_aload_n hx hb dX3_difference_13 rfl (lv_at hl 0 rfl) ?_
    refine va_get (D := (dC, dI)) (ci := 4) (v := .ref (a 2)) (C := RX3) (T := TX3) (N := 11) hx hb hts hi_dm_X3_difference_X3 hown hK hP 0 rfl rfl 1 (by decide) (hts (.fieldLink RX3 13 "TimeMachine$Events" "at" "[J") (List.mem_of_getElem? (i := 1) rfl)) (fun _ h9 => h9) rfl dX3_difference_14 ?_
    refine lv_iload_n hx hb dX3_difference_17 rfl (lv_at hl 1 rfl) ?_
    obtain ⟨i2, h⟩ := nd_ck_e h
    refine va_lald (i := v0) hx hb hK hP 2 1 rfl rfl i2 dX3_difference_18 ?_
    refine lv_aload_n hx hb dX3_difference_19 rfl (lv_at hl 0 rfl) ?_
    refine va_get (D := (dC, dI)) (ci := 4) (v := .ref (a 2)) (C := RX3) (T := TX3) (N := 11) hx hb hts hi_dm_X3_difference_X3 hown hK hP 0 rfl rfl 1 (by decide) (hts (.fieldLink RX3 13 "TimeMachine$Events" "at" "[J") (List.mem_of_getElem? (i := 1) rfl)) (fun _ h9 => h9) rfl dX3_difference_20 ?_
    refine lv_iload_n hx hb dX3_difference_23 rfl (lv_at hl 1 rfl) ?_
    refine lv_iconst (v := 1) hx hb dX3_difference_24 (by decide) ?_
    refine lv_isub hx hb dX3_difference_25 ?_
    obtain ⟨i3, h⟩ := nd_ck_e h
    refine va_lald (i := (v0 - 1)) hx hb hK hP 2 1 rfl rfl i3 dX3_difference_26 ?_
    refine lv_lsub hx hb dX3_difference_27 ?_
    exact (db_X3_difference_28 C K) ((((sQ s0 0 (Int32.toNatClampNeg v0)) : Int64) - (sQ s0 0 (Int32.toNatClampNeg (v0 - 1))))) s0 _ _ _ h hP hD hS (lv_sub hl [] rfl)
  · have h := nd_neg h c1
    refine lv_aload_n hx hb dX3_difference_4 rfl (lv_at hl 0 rfl) ?_
    refine va_get (D := (dC, dI)) (ci := 4) (v := .ref (a 2)) (C := RX3) (T := TX3) (N := 11) hx hb hts hi_dm_X3_difference_X3 hown hK hP 0 rfl rfl 1 (by decide) (hts (.fieldLink RX3 13 "TimeMachine$Events" "at" "[J") (List.mem_of_getElem? (i := 1) rfl)) (fun _ h9 => h9) rfl dX3_difference_5 ?_
    refine lv_iconst (v := 0) hx hb dX3_difference_8 (by decide) ?_
    refine va_lald (i := 0) hx hb hK hP 2 1 rfl rfl (vp_in_iff.mpr ⟨by decide, by decide⟩) dX3_difference_9 ?_
    refine lv_goto (tgt := 28) hx hb dX3_difference_10 (by decide) ?_
    exact (db_X3_difference_28 C K) ((sQ s0 0 (Int32.toNatClampNeg 0))) s0 _ _ _ h hP hD hS (lv_sub hl [] rfl)
set_option maxHeartbeats 40000000 in
set_option maxRecDepth 100000 in
theorem dm_X3_difference (l : Launch) (hlt : l.stackTraces = false) (dC : Nat → ClassId) (dI : Nat → Nat → Nat) (a : Nat → Nat) (ac : Nat → ClassId) (n : Nat) (v0 : Int32) (s0 : St) {r : Int64 × (St)} (h : df_X3_difference n v0 s0 = some r) (sz : Nat) : Met l yX3_difference ow_dm_X3_difference ({ frames := 0, cells := 0, slots := 0, locals := 0 }) (va_Pc [.ref (a 0), .int v0] (fun U => U.heap.size = sz ∧ va_P (dC, dI) vwCl (dw_X3c a ac s0) U.heap ∧ va_K (dC, dI) vwCl (dk_X3c ac) U ∧ va_D (fun _ => True) (dw_X3c a ac s0) ∧ nv_E dI (va_A (dw_X3c a ac s0) sz) U)) (va_Ql (fun x _ => x = r.1) (fun (_ : Unit) t => va_P (dC, dI) vwCl (dw_X3c a ac r.2) t.heap ∧ va_K (dC, dI) vwCl (dk_X3c ac) t ∧ va_D (va_A (dw_X3c a ac s0) sz) (dw_X3c a ac r.2)) (va_A (dw_X3c a ac s0) sz)) 0 0 (va_A (dw_X3c a ac s0) sz) := by
  refine Met.ofW (cc := cX3_difference) (maxL := 2) (ret := (some .long)) (by decide) rfl ?_
  intro p e s m args below meth c s₁ B hml hv
  obtain ⟨rfl, hsz, hP, hK, hD0, hN⟩ := hv
  have hx := B.exec
  have hb := B.bytes
  have hr := B.returns
  have hts := atoms_spec (ws := ow_dm_X3_difference) B.pre
  have hown : s.vm.findClass RX3 = some m.cls := findClass_of_methodNamed B.named
  have hlocks := B.notSynchronized
  subst hsz
  have hD := hD0.self (sz := s.heap.size)
  generalize hAe : va_A (dw_X3c a ac s0) s.heap.size = A at hD hN ⊢
  have hA : ∀ q : Nat, s.heap.size ≤ q → A q := fun q h => by rw [← hAe]; exact Or.inr h
  have hl := lv_entry ([.ref (a 0), .int v0]) (n := 2) (Nat.le_of_ble_eq_true rfl)
  rw [lg_entry_eq]
  generalize (lg_sl ([.ref (a 0), .int v0]) ++ List.replicate (2 - (lg_sl ([.ref (a 0), .int v0])).length) Slot.unset).toArray = ls at hl ⊢
  have hl : lv_has ls 2 [(0, .ref (a 0)), (1, .int v0)] := hl
  exact db_X3_difference_0 (dC := dC) (dI := dI) (a := a) (ac := ac) (n := n) (r := r) ⟨hlt, hx, hb, hml, hown, hts, hN, hA, hK⟩ (fun pc v τ H locs ls d er hP hD hS => by subst er; exact W.lret (v := v) hx hb hr (fun t ht hW => ⟨⟨v, (), rfl, rfl, by rw [ht]; exact hP, va_K.moved hW.alike hK, hD⟩, hS.F ht⟩) hS.2.2 d) v0 s0 _ _ _ h hP hD va_S.rf (lv_sub hl [0, 1] rfl)
def ow_dm_X3_bringsSame : List Cond := Cond.code yX3_bringsSame cX3_bringsSame 3 (some .boolean) :: ([Cond.fieldLink RX3 9 "TimeMachine$Events" "kind" "[I", Cond.fieldLink RX3 17 "TimeMachine$Events" "a" "[J", Cond.fieldLink RX3 20 "TimeMachine$Events" "b" "[I"] ++ (u_ws RX3 TX3 11 ++ []))
theorem gd_dm_X3_bringsSame : ∀ w ∈ ow_dm_X3_bringsSame, (w.onTables && w.keeps) = true ∨ ∃ ty, w = Cond.arrayClass ty := List.forall_mem_cons.mpr ⟨good_of_word rfl, List.forall_mem_append.mpr ⟨fun w h => good_of_word (List.all_eq_true.mp (by decide +kernel) w h), List.forall_mem_append.mpr ⟨gu_X3, fun _ h => nomatch h⟩⟩⟩
theorem hi_dm_X3_bringsSame_X3 : ∀ w ∈ u_ws RX3 TX3 11, w ∈ ow_dm_X3_bringsSame := fun w h => List.mem_cons_of_mem _ (List.mem_append_right _ (List.mem_append_left _ h))
def dj_X3_bringsSame_51 (p : Program) (l : Launch) (e : Env) (s : State) (m : MethodId) (args : Array Value) (below : List Frame) (meth : Method) (c : Code) (Q : State → Prop) (A : Nat → Prop) (dC : Nat → ClassId) (dI : Nat → Nat → Nat) (a : Nat → Nat) (ac : Nat → ClassId) (g : Int32 → (St) → Option (Int32 × (St))) (r : Int32 × (St)) : Prop := ∀ (y0 : Int32) (s0 : St) (H : Heap) (locs : List Loc) (ls : Array Slot), g y0 s0 = some r → va_P (dC, dI) vwCl (dw_X3c a ac s0) H → va_D A (dw_X3c a ac s0) → va_S A s.heap H locs → lv_has ls 3 [] → W p l e (headSpec ow_dm_X3_bringsSame ({ frames := 0, cells := 0, slots := 0, locals := 0 })).room s m args below meth c H locs 0 0 Q (F0 m 51 ls [.int y0])
def dj_X3_bringsSame_50 (p : Program) (l : Launch) (e : Env) (s : State) (m : MethodId) (args : Array Value) (below : List Frame) (meth : Method) (c : Code) (Q : State → Prop) (A : Nat → Prop) (dC : Nat → ClassId) (dI : Nat → Nat → Nat) (a : Nat → Nat) (ac : Nat → ClassId) (g : (St) → Option (Int32 × (St))) (r : Int32 × (St)) : Prop := ∀ (s0 : St) (H : Heap) (locs : List Loc) (ls : Array Slot), g s0 = some r → va_P (dC, dI) vwCl (dw_X3c a ac s0) H → va_D A (dw_X3c a ac s0) → va_S A s.heap H locs → lv_has ls 3 [] → W p l e (headSpec ow_dm_X3_bringsSame ({ frames := 0, cells := 0, slots := 0, locals := 0 })).room s m args below meth c H locs 0 0 Q (F0 m 50 ls [])
def dj_X3_bringsSame_0 (p : Program) (l : Launch) (e : Env) (s : State) (m : MethodId) (args : Array Value) (below : List Frame) (meth : Method) (c : Code) (Q : State → Prop) (A : Nat → Prop) (dC : Nat → ClassId) (dI : Nat → Nat → Nat) (a : Nat → Nat) (ac : Nat → ClassId) (g : Int32 → Int32 → (St) → Option (Int32 × (St))) (r : Int32 × (St)) : Prop := ∀ (v0 : Int32) (v1 : Int32) (s0 : St) (H : Heap) (locs : List Loc) (ls : Array Slot), g v0 v1 s0 = some r → va_P (dC, dI) vwCl (dw_X3c a ac s0) H → va_D A (dw_X3c a ac s0) → va_S A s.heap H locs → lv_has ls 3 [(0, .ref (a 0)), (1, .int v0), (2, .int v1)] → W p l e (headSpec ow_dm_X3_bringsSame ({ frames := 0, cells := 0, slots := 0, locals := 0 })).room s m args below meth c H locs 0 0 Q (F0 m 0 ls [])
set_option maxHeartbeats 40000000 in
set_option maxRecDepth 100000 in
theorem db_X3_bringsSame_51 {p : Program} {l : Launch} {e : Env} {s : State} {m : MethodId} {args : Array Value} {below : List Frame} {meth : Method} {c : Code} {Q : State → Prop} {A : Nat → Prop} {dC : Nat → ClassId} {dI : Nat → Nat → Nat} {a : Nat → Nat} {ac : Nat → ClassId} {n : Nat} {r : Int32 × (St)} (C : nd_C p l s m args c A (dC, dI) cX3_bringsSame 3 RX3 ow_dm_X3_bringsSame (dk_X3c ac)) (K : nd_Ki p l e (headSpec ow_dm_X3_bringsSame ({ frames := 0, cells := 0, slots := 0, locals := 0 })).room s m args below meth c Q A (dC, dI) cX3_bringsSame .boolean (St) (dw_X3c a ac) r) : dj_X3_bringsSame_51 p l e s m args below meth c Q A dC dI a ac (df_X3_bringsSame_51 n) r := by
  obtain ⟨hlt, hx, hb, hml, hown, hts, hN, hA, hK⟩ := id C
  intro y0 s0 H locs ls h hP hD hS hl
  unfold df_X3_bringsSame_51 at h
  obtain ⟨n4, h⟩ := nd_z_e ⟨_, rfl⟩ h
  exact K _ _ _ _ _ _ dX3_bringsSame_51 n4 (Option.some.inj h).symm hP hD hS
set_option maxHeartbeats 40000000 in
set_option maxRecDepth 100000 in
theorem db_X3_bringsSame_50 {p : Program} {l : Launch} {e : Env} {s : State} {m : MethodId} {args : Array Value} {below : List Frame} {meth : Method} {c : Code} {Q : State → Prop} {A : Nat → Prop} {dC : Nat → ClassId} {dI : Nat → Nat → Nat} {a : Nat → Nat} {ac : Nat → ClassId} {n : Nat} {r : Int32 × (St)} (C : nd_C p l s m args c A (dC, dI) cX3_bringsSame 3 RX3 ow_dm_X3_bringsSame (dk_X3c ac)) (K : nd_Ki p l e (headSpec ow_dm_X3_bringsSame ({ frames := 0, cells := 0, slots := 0, locals := 0 })).room s m args below meth c Q A (dC, dI) cX3_bringsSame .boolean (St) (dw_X3c a ac) r) : dj_X3_bringsSame_50 p l e s m args below meth c Q A dC dI a ac (df_X3_bringsSame_50 n) r := by
  obtain ⟨hlt, hx, hb, hml, hown, hts, hN, hA, hK⟩ := id C
  intro s0 H locs ls h hP hD hS hl
  unfold df_X3_bringsSame_50 at h
  refine lv_iconst (v := 0) hx hb dX3_bringsSame_50 (by decide) ?_
  exact (db_X3_bringsSame_51 C K) (0) s0 _ _ _ h hP hD hS (lv_sub hl [] rfl)
set_option maxHeartbeats 40000000 in
set_option maxRecDepth 100000 in
theorem db_X3_bringsSame_0 {p : Program} {l : Launch} {e : Env} {s : State} {m : MethodId} {args : Array Value} {below : List Frame} {meth : Method} {c : Code} {Q : State → Prop} {A : Nat → Prop} {dC : Nat → ClassId} {dI : Nat → Nat → Nat} {a : Nat → Nat} {ac : Nat → ClassId} {n : Nat} {r : Int32 × (St)} (C : nd_C p l s m args c A (dC, dI) cX3_bringsSame 3 RX3 ow_dm_X3_bringsSame (dk_X3c ac)) (K : nd_Ki p l e (headSpec ow_dm_X3_bringsSame ({ frames := 0, cells := 0, slots := 0, locals := 0 })).room s m args below meth c Q A (dC, dI) cX3_bringsSame .boolean (St) (dw_X3c a ac) r) : dj_X3_bringsSame_0 p l e s m args below meth c Q A dC dI a ac (df_X3_bringsSame_0 n) r := by
  obtain ⟨hlt, hx, hb, hml, hown, hts, hN, hA, hK⟩ := id C
  intro v0 v1 s0 H locs ls h hP hD hS hl
  unfold df_X3_bringsSame_0 at h
  refine lv_aload_n hx hb dX3_bringsSame_0 rfl (lv_at hl 0 rfl) ?_
  refine va_get (D := (dC, dI)) (ci := 4) (v := .ref (a 1)) (C := RX3) (T := TX3) (N := 11) hx hb hts hi_dm_X3_bringsSame_X3 hown hK hP 0 rfl rfl 0 (by decide) (hts (.fieldLink RX3 9 "TimeMachine$Events" "kind" "[I") (List.mem_of_getElem? (i := 1) rfl)) (fun _ h9 => h9) rfl dX3_bringsSame_1 ?_
  refine lv_iload_n hx hb dX3_bringsSame_4 rfl (lv_at hl 1 rfl) ?_
  obtain ⟨i1, h⟩ := nd_ck_e h
  refine va_iald (i := v0) hx hb hK hP 1 0 rfl rfl i1 dX3_bringsSame_5 ?_
  refine lv_aload_n hx hb dX3_bringsSame_6 rfl (lv_at hl 0 rfl) ?_
  refine va_get (D := (dC, dI)) (ci := 4) (v := .ref (a 1)) (C := RX3) (T := TX3) (N := 11) hx hb hts hi_dm_X3_bringsSame_X3 hown hK hP 0 rfl rfl 0 (by decide) (hts (.fieldLink RX3 9 "TimeMachine$Events" "kind" "[I") (List.mem_of_getElem? (i := 1) rfl)) (fun _ h9 => h9) rfl dX3_bringsSame_7 ?_
  refine lv_iload_n hx hb dX3_bringsSame_10 rfl (lv_at hl 2 rfl) ?_
  obtain ⟨i2, h⟩ := nd_ck_e h
  refine va_iald (i := v1) hx hb hK hP 1 0 rfl rfl i2 dX3_bringsSame_11 ?_
  refine lv_icmp_ne (tgt := 50) hx hb dX3_bringsSame_12 (by decide) (fun c3 => ?_) (fun c3 => ?_)
  · have h := nd_neg h c3
    exact (db_X3_bringsSame_50 C K)  s0 _ _ _ h hP hD hS (lv_sub hl [] rfl)
  · have h := nd_pos h c3
    refine lv_aload_n hx hb dX3_bringsSame_15 rfl (lv_at hl 0 rfl) ?_
    refine va_get (D := (dC, dI)) (ci := 4) (v := .ref (a 3)) (C := RX3) (T := TX3) (N := 11) hx hb hts hi_dm_X3_bringsSame_X3 hown hK hP 0 rfl rfl 2 (by decide) (hts (.fieldLink RX3 17 "TimeMachine$Events" "a" "[J") (List.mem_of_getElem? (i := 2) rfl)) (fun _ h9 => h9) rfl dX3_bringsSame_16 ?_
    refine lv_iload_n hx hb dX3_bringsSame_19 rfl (lv_at hl 1 rfl) ?_
    obtain ⟨i5, h⟩ := nd_ck_e h
    refine va_lald (i := v0) hx hb hK hP 3 2 rfl rfl i5 dX3_bringsSame_20 ?_
    refine lv_aload_n hx hb dX3_bringsSame_21 rfl (lv_at hl 0 rfl) ?_
    refine va_get (D := (dC, dI)) (ci := 4) (v := .ref (a 3)) (C := RX3) (T := TX3) (N := 11) hx hb hts hi_dm_X3_bringsSame_X3 hown hK hP 0 rfl rfl 2 (by decide) (hts (.fieldLink RX3 17 "TimeMachine$Events" "a" "[J") (List.mem_of_getElem? (i := 2) rfl)) (fun _ h9 => h9) rfl dX3_bringsSame_22 ?_
    refine lv_iload_n hx hb dX3_bringsSame_25 rfl (lv_at hl 2 rfl) ?_
    obtain ⟨i6, h⟩ := nd_ck_e h
    refine va_lald (i := v1) hx hb hK hP 3 2 rfl rfl i6 dX3_bringsSame_26 ?_
    refine W.lcmp hx hb dX3_bringsSame_27 ?_
    refine lv_if_ne (tgt := 50) hx hb dX3_bringsSame_28 (by decide) (fun c7 => ?_) (fun c7 => ?_)
    · have h := nd_neg h c7
      exact (db_X3_bringsSame_50 C K)  s0 _ _ _ h hP hD hS (lv_sub hl [] rfl)
    · have h := nd_pos h c7
      refine lv_aload_n hx hb dX3_bringsSame_31 rfl (lv_at hl 0 rfl) ?_
      refine va_get (D := (dC, dI)) (ci := 4) (v := .ref (a 4)) (C := RX3) (T := TX3) (N := 11) hx hb hts hi_dm_X3_bringsSame_X3 hown hK hP 0 rfl rfl 3 (by decide) (hts (.fieldLink RX3 20 "TimeMachine$Events" "b" "[I") (List.mem_of_getElem? (i := 3) rfl)) (fun _ h9 => h9) rfl dX3_bringsSame_32 ?_
      refine lv_iload_n hx hb dX3_bringsSame_35 rfl (lv_at hl 1 rfl) ?_
      obtain ⟨i8, h⟩ := nd_ck_e h
      refine va_iald (i := v0) hx hb hK hP 4 3 rfl rfl i8 dX3_bringsSame_36 ?_
      refine lv_aload_n hx hb dX3_bringsSame_37 rfl (lv_at hl 0 rfl) ?_
      refine va_get (D := (dC, dI)) (ci := 4) (v := .ref (a 4)) (C := RX3) (T := TX3) (N := 11) hx hb hts hi_dm_X3_bringsSame_X3 hown hK hP 0 rfl rfl 3 (by decide) (hts (.fieldLink RX3 20 "TimeMachine$Events" "b" "[I") (List.mem_of_getElem? (i := 3) rfl)) (fun _ h9 => h9) rfl dX3_bringsSame_38 ?_
      refine lv_iload_n hx hb dX3_bringsSame_41 rfl (lv_at hl 2 rfl) ?_
      obtain ⟨i9, h⟩ := nd_ck_e h
      refine va_iald (i := v1) hx hb hK hP 4 3 rfl rfl i9 dX3_bringsSame_42 ?_
      refine lv_icmp_ne (tgt := 50) hx hb dX3_bringsSame_43 (by decide) (fun c10 => ?_) (fun c10 => ?_)
      · have h := nd_neg h c10
        exact (db_X3_bringsSame_50 C K)  s0 _ _ _ h hP hD hS (lv_sub hl [] rfl)
      · have h := nd_pos h c10
        refine lv_iconst (v := 1) hx hb dX3_bringsSame_46 (by decide) ?_
        refine lv_goto (tgt := 51) hx hb dX3_bringsSame_47 (by decide) ?_
        exact (db_X3_bringsSame_51 C K) (1) s0 _ _ _ h hP hD hS (lv_sub hl [] rfl)
set_option maxHeartbeats 40000000 in
set_option maxRecDepth 100000 in
theorem dm_X3_bringsSame (l : Launch) (hlt : l.stackTraces = false) (dC : Nat → ClassId) (dI : Nat → Nat → Nat) (a : Nat → Nat) (ac : Nat → ClassId) (n : Nat) (v0 : Int32) (v1 : Int32) (s0 : St) {r : Int32 × (St)} (h : df_X3_bringsSame n v0 v1 s0 = some r) (sz : Nat) : Met l yX3_bringsSame ow_dm_X3_bringsSame ({ frames := 0, cells := 0, slots := 0, locals := 0 }) (va_Pc [.ref (a 0), .int v0, .int v1] (fun U => U.heap.size = sz ∧ va_P (dC, dI) vwCl (dw_X3c a ac s0) U.heap ∧ va_K (dC, dI) vwCl (dk_X3c ac) U ∧ va_D (fun _ => True) (dw_X3c a ac s0) ∧ nv_E dI (va_A (dw_X3c a ac s0) sz) U)) (va_Qi (fun x _ => x = r.1) (fun (_ : Unit) t => va_P (dC, dI) vwCl (dw_X3c a ac r.2) t.heap ∧ va_K (dC, dI) vwCl (dk_X3c ac) t ∧ va_D (va_A (dw_X3c a ac s0) sz) (dw_X3c a ac r.2)) (va_A (dw_X3c a ac s0) sz)) 0 0 (va_A (dw_X3c a ac s0) sz) := by
  refine Met.ofW (cc := cX3_bringsSame) (maxL := 3) (ret := (some .boolean)) (by decide) rfl ?_
  intro p e s m args below meth c s₁ B hml hv
  obtain ⟨rfl, hsz, hP, hK, hD0, hN⟩ := hv
  have hx := B.exec
  have hb := B.bytes
  have hr := B.returns
  have hts := atoms_spec (ws := ow_dm_X3_bringsSame) B.pre
  have hown : s.vm.findClass RX3 = some m.cls := findClass_of_methodNamed B.named
  have hlocks := B.notSynchronized
  subst hsz
  have hD := hD0.self (sz := s.heap.size)
  generalize hAe : va_A (dw_X3c a ac s0) s.heap.size = A at hD hN ⊢
  have hA : ∀ q : Nat, s.heap.size ≤ q → A q := fun q h => by rw [← hAe]; exact Or.inr h
  have hl := lv_entry ([.ref (a 0), .int v0, .int v1]) (n := 3) (Nat.le_of_ble_eq_true rfl)
  rw [lg_entry_eq]
  generalize (lg_sl ([.ref (a 0), .int v0, .int v1]) ++ List.replicate (3 - (lg_sl ([.ref (a 0), .int v0, .int v1])).length) Slot.unset).toArray = ls at hl ⊢
  have hl : lv_has ls 3 [(0, .ref (a 0)), (1, .int v0), (2, .int v1)] := hl
  exact db_X3_bringsSame_0 (dC := dC) (dI := dI) (a := a) (ac := ac) (n := n) (r := r) ⟨hlt, hx, hb, hml, hown, hts, hN, hA, hK⟩ (fun pc v τ H locs ls d z er hP hD hS => by subst er; exact W.zret (v := v) hx hb hr z (fun t ht hW => ⟨⟨v, (), rfl, rfl, by rw [ht]; exact hP, va_K.moved hW.alike hK, hD⟩, hS.F ht⟩) hS.2.2 d) v0 v1 s0 _ _ _ h hP hD va_S.rf (lv_sub hl [0, 1, 2] rfl)
def ow_dm_X3_putByte : List Cond := Cond.code yX3_putByte cX3_putByte 2 none :: ([Cond.fieldLink RX3 44 "TimeMachine$Events" "place" "I", Cond.fieldLink RX3 23 "TimeMachine$Events" "row" "[B"] ++ (u_ws RX3 TX3 11 ++ []))
theorem gd_dm_X3_putByte : ∀ w ∈ ow_dm_X3_putByte, (w.onTables && w.keeps) = true ∨ ∃ ty, w = Cond.arrayClass ty := List.forall_mem_cons.mpr ⟨good_of_word rfl, List.forall_mem_append.mpr ⟨fun w h => good_of_word (List.all_eq_true.mp (by decide +kernel) w h), List.forall_mem_append.mpr ⟨gu_X3, fun _ h => nomatch h⟩⟩⟩
theorem hi_dm_X3_putByte_X3 : ∀ w ∈ u_ws RX3 TX3 11, w ∈ ow_dm_X3_putByte := fun w h => List.mem_cons_of_mem _ (List.mem_append_right _ (List.mem_append_left _ h))
def dj_X3_putByte_33 (p : Program) (l : Launch) (e : Env) (s : State) (m : MethodId) (args : Array Value) (below : List Frame) (meth : Method) (c : Code) (Q : State → Prop) (A : Nat → Prop) (dC : Nat → ClassId) (dI : Nat → Nat → Nat) (a : Nat → Nat) (ac : Nat → ClassId) (g : (St × (St)) → Option (St × (St))) (r : St × (St)) : Prop := ∀ (s0 : St × (St)) (H : Heap) (locs : List Loc) (ls : Array Slot), g s0 = some r → va_P (dC, dI) vwCl (dw_X3s a ac s0) H → va_D A (dw_X3s a ac s0) → va_S A s.heap H locs → lv_has ls 2 [] → W p l e (headSpec ow_dm_X3_putByte ({ frames := 0, cells := 0, slots := 0, locals := 0 })).room s m args below meth c H locs 0 0 Q (F0 m 33 ls [])
def dj_X3_putByte_0 (p : Program) (l : Launch) (e : Env) (s : State) (m : MethodId) (args : Array Value) (below : List Frame) (meth : Method) (c : Code) (Q : State → Prop) (A : Nat → Prop) (dC : Nat → ClassId) (dI : Nat → Nat → Nat) (a : Nat → Nat) (ac : Nat → ClassId) (g : Int32 → (St × (St)) → Option (St × (St))) (r : St × (St)) : Prop := ∀ (v0 : Int32) (s0 : St × (St)) (H : Heap) (locs : List Loc) (ls : Array Slot), g v0 s0 = some r → va_P (dC, dI) vwCl (dw_X3s a ac s0) H → va_D A (dw_X3s a ac s0) → va_S A s.heap H locs → lv_has ls 2 [(0, .ref (a 1)), (1, .int v0)] → W p l e (headSpec ow_dm_X3_putByte ({ frames := 0, cells := 0, slots := 0, locals := 0 })).room s m args below meth c H locs 0 0 Q (F0 m 0 ls [])
set_option maxHeartbeats 40000000 in
set_option maxRecDepth 100000 in
theorem db_X3_putByte_33 {p : Program} {l : Launch} {e : Env} {s : State} {m : MethodId} {args : Array Value} {below : List Frame} {meth : Method} {c : Code} {Q : State → Prop} {A : Nat → Prop} {dC : Nat → ClassId} {dI : Nat → Nat → Nat} {a : Nat → Nat} {ac : Nat → ClassId} {n : Nat} {r : St × (St)} (C : nd_C p l s m args c A (dC, dI) cX3_putByte 2 RX3 ow_dm_X3_putByte (dk_X3s ac)) (K : nd_Kv p l e (headSpec ow_dm_X3_putByte ({ frames := 0, cells := 0, slots := 0, locals := 0 })).room s m args below meth c Q A (dC, dI) cX3_putByte (St × (St)) (dw_X3s a ac) r) : dj_X3_putByte_33 p l e s m args below meth c Q A dC dI a ac (df_X3_putByte_33 n (a 0)) r := by
  obtain ⟨hlt, hx, hb, hml, hown, hts, hN, hA, hK⟩ := id C
  intro s0 H locs ls h hP hD hS hl
  unfold df_X3_putByte_33 at h
  exact K _ _ _ _ _ dX3_putByte_33 (Option.some.inj h).symm hP hD hS
set_option maxHeartbeats 40000000 in
set_option maxRecDepth 100000 in
theorem db_X3_putByte_0 {p : Program} {l : Launch} {e : Env} {s : State} {m : MethodId} {args : Array Value} {below : List Frame} {meth : Method} {c : Code} {Q : State → Prop} {A : Nat → Prop} {dC : Nat → ClassId} {dI : Nat → Nat → Nat} {a : Nat → Nat} {ac : Nat → ClassId} {n : Nat} {r : St × (St)} (C : nd_C p l s m args c A (dC, dI) cX3_putByte 2 RX3 ow_dm_X3_putByte (dk_X3s ac)) (K : nd_Kv p l e (headSpec ow_dm_X3_putByte ({ frames := 0, cells := 0, slots := 0, locals := 0 })).room s m args below meth c Q A (dC, dI) cX3_putByte (St × (St)) (dw_X3s a ac) r) : dj_X3_putByte_0 p l e s m args below meth c Q A dC dI a ac (df_X3_putByte_0 n (a 0)) r := by
  obtain ⟨hlt, hx, hb, hml, hown, hts, hN, hA, hK⟩ := id C
  intro v0 s0 H locs ls h hP hD hS hl
  unfold df_X3_putByte_0 at h
  refine lv_aload_n hx hb dX3_putByte_0 rfl (lv_at hl 0 rfl) ?_
  refine va_get (D := (dC, dI)) (ci := 4) (v := .int (sI s0.2 2)) (C := RX3) (T := TX3) (N := 11) hx hb hts hi_dm_X3_putByte_X3 hown hK hP 1 rfl rfl 7 (by decide) (hts (.fieldLink RX3 44 "TimeMachine$Events" "place" "I") (List.mem_of_getElem? (i := 1) rfl)) (fun _ h9 => h9) rfl dX3_putByte_1 ?_
  refine lv_aload_n hx hb dX3_putByte_4 rfl (lv_at hl 0 rfl) ?_
  obtain ⟨o1, h⟩ := nd_o_e h
  refine va_get (D := (dC, dI)) (ci := 4) (v := .ref (a 0)) (C := RX3) (T := TX3) (N := 11) hx hb hts hi_dm_X3_putByte_X3 hown hK hP 1 rfl rfl 6 (by decide) (hts (.fieldLink RX3 23 "TimeMachine$Events" "row" "[B") (List.mem_of_getElem? (i := 2) rfl)) (fun _ h9 => h9) (congrArg (fun z => some (va_rf z)) o1) dX3_putByte_5 ?_
  refine va_alen (v := 32768) hx hb hK hP 0 0 rfl rfl (show Int32.ofNat 32768 = 32768 by decide) dX3_putByte_8 ?_
  refine lv_icmp_ge (tgt := 33) hx hb dX3_putByte_9 (by decide) (fun c2 => ?_) (fun c2 => ?_)
  · have h := nd_pos h c2
    exact (db_X3_putByte_33 C K)  s0 _ _ _ h hP hD hS (lv_sub hl [] rfl)
  · have h := nd_neg h c2
    refine lv_aload_n hx hb dX3_putByte_12 rfl (lv_at hl 0 rfl) ?_
    obtain ⟨o3, h⟩ := nd_o_e h
    refine va_get (D := (dC, dI)) (ci := 4) (v := .ref (a 0)) (C := RX3) (T := TX3) (N := 11) hx hb hts hi_dm_X3_putByte_X3 hown hK hP 1 rfl rfl 6 (by decide) (hts (.fieldLink RX3 23 "TimeMachine$Events" "row" "[B") (List.mem_of_getElem? (i := 2) rfl)) (fun _ h9 => h9) (congrArg (fun z => some (va_rf z)) o3) dX3_putByte_13 ?_
    refine lv_aload_n hx hb dX3_putByte_16 rfl (lv_at hl 0 rfl) ?_
    refine va_get (D := (dC, dI)) (ci := 4) (v := .int (sI s0.2 2)) (C := RX3) (T := TX3) (N := 11) hx hb hts hi_dm_X3_putByte_X3 hown hK hP 1 rfl rfl 7 (by decide) (hts (.fieldLink RX3 44 "TimeMachine$Events" "place" "I") (List.mem_of_getElem? (i := 1) rfl)) (fun _ h9 => h9) rfl dX3_putByte_17 ?_
    refine lv_iload_n hx hb dX3_putByte_20 rfl (lv_at hl 1 rfl) ?_
    refine lv_i2b hx hb dX3_putByte_21 rfl ?_
    obtain ⟨i4, h⟩ := nd_ck_e h
    refine va_bast (i := (sI s0.2 2)) (x := (v0.toInt8.toInt32)) hx hb hK hP hD hS 0 0 rfl rfl i4 dX3_putByte_22 (fun H locs hP hD hS => ?_)
    obtain ⟨s5, es5, h⟩ := nd_let_e h
    have hP : va_P (dC, dI) vwCl (dw_X3s a ac s5) H := by rw [es5]; exact hP
    have hD : va_D A (dw_X3s a ac s5) := by rw [es5]; exact hD
    refine lv_aload_n hx hb dX3_putByte_23 rfl (lv_at hl 0 rfl) ?_
    refine lv_dup hx hb dX3_putByte_24 rfl ?_
    refine va_get (D := (dC, dI)) (ci := 4) (v := .int (sI s5.2 2)) (C := RX3) (T := TX3) (N := 11) hx hb hts hi_dm_X3_putByte_X3 hown hK hP 1 rfl rfl 7 (by decide) (hts (.fieldLink RX3 44 "TimeMachine$Events" "place" "I") (List.mem_of_getElem? (i := 1) rfl)) (fun _ h9 => h9) rfl dX3_putByte_25 ?_
    refine lv_iconst (v := 1) hx hb dX3_putByte_28 (by decide) ?_
    refine lv_iadd hx hb dX3_putByte_29 ?_
    refine va_put (D := (dC, dI)) (ci := 4) (v := .int ((sI s5.2 2) + 1)) (ty := .int) (C := RX3) (T := TX3) (N := 11) hx hb hts hi_dm_X3_putByte_X3 tyX3 tyX3_ok nmX3 hown hK hP hD hS 1 rfl rfl 7 (by decide) (hts (.fieldLink RX3 44 "TimeMachine$Events" "place" "I") (List.mem_of_getElem? (i := 1) rfl)) (fun _ h9 => h9) rfl (by decide +kernel) rfl rfl (Nat.le_of_ble_eq_true rfl) dX3_putByte_30 (fun H locs hP hD hS => ?_)
    obtain ⟨s6, es6, h⟩ := nd_let_e h
    have hP : va_P (dC, dI) vwCl (dw_X3s a ac s6) H := by rw [es6]; exact hP
    have hD : va_D A (dw_X3s a ac s6) := by rw [es6]; exact hD
    exact (db_X3_putByte_33 C K)  s6 _ _ _ h hP hD hS (lv_sub hl [] rfl)
set_option maxHeartbeats 40000000 in
set_option maxRecDepth 100000 in
theorem dm_X3_putByte (l : Launch) (hlt : l.stackTraces = false) (dC : Nat → ClassId) (dI : Nat → Nat → Nat) (a : Nat → Nat) (ac : Nat → ClassId) (n : Nat) (v0 : Int32) (s0 : St × (St)) {r : St × (St)} (h : df_X3_putByte n (a 0) v0 s0 = some r) (sz : Nat) : Met l yX3_putByte ow_dm_X3_putByte ({ frames := 0, cells := 0, slots := 0, locals := 0 }) (va_Pc [.ref (a 1), .int v0] (fun U => U.heap.size = sz ∧ va_P (dC, dI) vwCl (dw_X3s a ac s0) U.heap ∧ va_K (dC, dI) vwCl (dk_X3s ac) U ∧ va_D (fun _ => True) (dw_X3s a ac s0) ∧ nv_E dI (va_A (dw_X3s a ac s0) sz) U)) (va_Qv (fun _ => True) (fun (_ : Unit) t => va_P (dC, dI) vwCl (dw_X3s a ac r) t.heap ∧ va_K (dC, dI) vwCl (dk_X3s ac) t ∧ va_D (va_A (dw_X3s a ac s0) sz) (dw_X3s a ac r)) (va_A (dw_X3s a ac s0) sz)) 0 0 (va_A (dw_X3s a ac s0) sz) := by
  refine Met.ofW (cc := cX3_putByte) (maxL := 2) (ret := none) (by decide) rfl ?_
  intro p e s m args below meth c s₁ B hml hv
  obtain ⟨rfl, hsz, hP, hK, hD0, hN⟩ := hv
  have hx := B.exec
  have hb := B.bytes
  have hr := B.returns
  have hts := atoms_spec (ws := ow_dm_X3_putByte) B.pre
  have hown : s.vm.findClass RX3 = some m.cls := findClass_of_methodNamed B.named
  have hlocks := B.notSynchronized
  subst hsz
  have hD := hD0.self (sz := s.heap.size)
  generalize hAe : va_A (dw_X3s a ac s0) s.heap.size = A at hD hN ⊢
  have hA : ∀ q : Nat, s.heap.size ≤ q → A q := fun q h => by rw [← hAe]; exact Or.inr h
  have hl := lv_entry ([.ref (a 1), .int v0]) (n := 2) (Nat.le_of_ble_eq_true rfl)
  rw [lg_entry_eq]
  generalize (lg_sl ([.ref (a 1), .int v0]) ++ List.replicate (2 - (lg_sl ([.ref (a 1), .int v0])).length) Slot.unset).toArray = ls at hl ⊢
  have hl : lv_has ls 2 [(0, .ref (a 1)), (1, .int v0)] := hl
  exact db_X3_putByte_0 (dC := dC) (dI := dI) (a := a) (ac := ac) (n := n) (r := r) ⟨hlt, hx, hb, hml, hown, hts, hN, hA, hK⟩ (fun pc τ H locs ls d er hP hD hS => by subst er; exact W.vret hx hb hr (fun t ht hW => ⟨⟨(), rfl, trivial, by rw [ht]; exact hP, va_K.moved hW.alike hK, hD⟩, hS.F ht⟩) hS.2.2 d) v0 s0 _ _ _ h hP hD va_S.rf (lv_sub hl [0, 1] rfl)
def ow_dm_X3_putVarint : List Cond := Cond.code yX3_putVarint cX3_putVarint 6 none :: ([Cond.methodLink RX3 59 yX3_putByte, Cond.instanceMethod yX3_putByte, Cond.selects RX3 yX3_putByte yX3_putByte, Cond.initialized RX3, Cond.constantLong RX3 84 (127)] ++ (ow_dm_X3_putByte ++ []))
theorem gd_dm_X3_putVarint : ∀ w ∈ ow_dm_X3_putVarint, (w.onTables && w.keeps) = true ∨ ∃ ty, w = Cond.arrayClass ty := List.forall_mem_cons.mpr ⟨good_of_word rfl, List.forall_mem_append.mpr ⟨fun w h => good_of_word (List.all_eq_true.mp (by decide +kernel) w h), List.forall_mem_append.mpr ⟨gd_dm_X3_putByte, fun _ h => nomatch h⟩⟩⟩
theorem gi_dm_X3_putVarint_0 : GoodIn ow_dm_X3_putVarint (wsV RX3 59 RX3 yX3_putByte ow_dm_X3_putByte) := goodIn_app (goodIn_of _ (by decide +kernel)) (fun w h => ⟨List.mem_cons_of_mem _ (List.mem_append_right _ (List.mem_append_left _ h)), gd_dm_X3_putByte w h⟩)
def dj_X3_putVarint_45 (p : Program) (l : Launch) (e : Env) (s : State) (m : MethodId) (args : Array Value) (below : List Frame) (meth : Method) (c : Code) (Q : State → Prop) (A : Nat → Prop) (dC : Nat → ClassId) (dI : Nat → Nat → Nat) (a : Nat → Nat) (ac : Nat → ClassId) (g : Int64 → (St × (St)) → Option (St × (St))) (r : St × (St)) : Prop := ∀ (x3 : Int64) (s0 : St × (St)) (H : Heap) (locs : List Loc) (ls : Array Slot), g x3 s0 = some r → va_P (dC, dI) vwCl (dw_X3s a ac s0) H → va_D A (dw_X3s a ac s0) → va_S A s.heap H locs → lv_has ls 6 [(0, .ref (a 1)), (3, .long x3)] → W p l e (headSpec ow_dm_X3_putVarint ({ frames := 1, cells := 0, slots := 0, locals := 21 })).room s m args below meth c H locs 0 0 Q (F0 m 45 ls [])
def dj_X3_putVarint_5 (p : Program) (l : Launch) (e : Env) (s : State) (m : MethodId) (args : Array Value) (below : List Frame) (meth : Method) (c : Code) (Q : State → Prop) (A : Nat → Prop) (dC : Nat → ClassId) (dI : Nat → Nat → Nat) (a : Nat → Nat) (ac : Nat → ClassId) (g : Int64 → Int32 → (St × (St)) → Option (St × (St))) (r : St × (St)) : Prop := ∀ (x3 : Int64) (x5 : Int32) (s0 : St × (St)) (H : Heap) (locs : List Loc) (ls : Array Slot), g x3 x5 s0 = some r → va_P (dC, dI) vwCl (dw_X3s a ac s0) H → va_D A (dw_X3s a ac s0) → va_S A s.heap H locs → lv_has ls 6 [(0, .ref (a 1)), (3, .long x3), (5, .int x5)] → W p l e (headSpec ow_dm_X3_putVarint ({ frames := 1, cells := 0, slots := 0, locals := 21 })).room s m args below meth c H locs 0 0 Q (F0 m 5 ls [])
def dj_X3_putVarint_0 (p : Program) (l : Launch) (e : Env) (s : State) (m : MethodId) (args : Array Value) (below : List Frame) (meth : Method) (c : Code) (Q : State → Prop) (A : Nat → Prop) (dC : Nat → ClassId) (dI : Nat → Nat → Nat) (a : Nat → Nat) (ac : Nat → ClassId) (g : Int64 → (St × (St)) → Option (St × (St))) (r : St × (St)) : Prop := ∀ (v0 : Int64) (s0 : St × (St)) (H : Heap) (locs : List Loc) (ls : Array Slot), g v0 s0 = some r → va_P (dC, dI) vwCl (dw_X3s a ac s0) H → va_D A (dw_X3s a ac s0) → va_S A s.heap H locs → lv_has ls 6 [(0, .ref (a 1)), (1, .long v0)] → W p l e (headSpec ow_dm_X3_putVarint ({ frames := 1, cells := 0, slots := 0, locals := 21 })).room s m args below meth c H locs 0 0 Q (F0 m 0 ls [])
set_option maxHeartbeats 40000000 in
set_option maxRecDepth 100000 in
theorem db_X3_putVarint_45 {p : Program} {l : Launch} {e : Env} {s : State} {m : MethodId} {args : Array Value} {below : List Frame} {meth : Method} {c : Code} {Q : State → Prop} {A : Nat → Prop} {dC : Nat → ClassId} {dI : Nat → Nat → Nat} {a : Nat → Nat} {ac : Nat → ClassId} {n : Nat} {r : St × (St)} (C : nd_C p l s m args c A (dC, dI) cX3_putVarint 6 RX3 ow_dm_X3_putVarint (dk_X3s ac)) (K : nd_Kv p l e (headSpec ow_dm_X3_putVarint ({ frames := 1, cells := 0, slots := 0, locals := 21 })).room s m args below meth c Q A (dC, dI) cX3_putVarint (St × (St)) (dw_X3s a ac) r) : dj_X3_putVarint_45 p l e s m args below meth c Q A dC dI a ac (df_X3_putVarint_45 n (a 0)) r := by
  obtain ⟨hlt, hx, hb, hml, hown, hts, hN, hA, hK⟩ := id C
  intro x3 s0 H locs ls h hP hD hS hl
  unfold df_X3_putVarint_45 at h
  refine lv_aload_n hx hb dX3_putVarint_45 rfl (lv_at hl 0 rfl) ?_
  refine lv_lload_n hx hb dX3_putVarint_46 rfl (lv_at hl 1 rfl) ?_
  refine lv_l2i hx hb dX3_putVarint_47 rfl ?_
  obtain ⟨s3, hq, h⟩ := nd_b1_e h
  have hPc := hP
  have hDc := hD
  have hKc := hK
  have hFc := nd_rs hD hS hA
  refine nd_cVv (As := [.int (x3.toInt32)]) (rest := []) (w' := dw_X3s a ac s3) ⟨hx, hb, hml, hown, hts⟩ (fun sz => dm_X3_putByte l hlt dC dI a ac n ((x3.toInt32)) s0 hq sz) (cwV 1 hts gi_dm_X3_putVarint_0 rfl rfl rfl (by decide +kernel) ⟨Nat.le_of_ble_eq_true rfl, Nat.le_of_ble_eq_true rfl⟩) hPc hDc hKc hS hA hN (va_recv hKc hPc (ci := 4) (q0 := 1) rfl rfl) rfl hl.1 rfl (Nat.le_of_ble_eq_true rfl) dX3_putVarint_48 (fun H locs hP1 hD1 hk1 hS => ?_)
  have hP := hP1
  have hD := hD1.weaken (fun k q _ h => hFc q.1 h)
  exact K _ _ _ _ _ dX3_putVarint_51 (Option.some.inj h).symm hP hD hS
set_option maxHeartbeats 40000000 in
set_option maxRecDepth 100000 in
theorem dB_X3_putVarint_5 {p : Program} {l : Launch} {e : Env} {s : State} {m : MethodId} {args : Array Value} {below : List Frame} {meth : Method} {c : Code} {Q : State → Prop} {A : Nat → Prop} {dC : Nat → ClassId} {dI : Nat → Nat → Nat} {a : Nat → Nat} {ac : Nat → ClassId} {n : Nat} {r : St × (St)} (C : nd_C p l s m args c A (dC, dI) cX3_putVarint 6 RX3 ow_dm_X3_putVarint (dk_X3s ac)) (K : nd_Kv p l e (headSpec ow_dm_X3_putVarint ({ frames := 1, cells := 0, slots := 0, locals := 21 })).room s m args below meth c Q A (dC, dI) cX3_putVarint (St × (St)) (dw_X3s a ac) r) {g5 : Int64 → Int32 → (St × (St)) → Option (St × (St))} (J5 : dj_X3_putVarint_5 p l e s m args below meth c Q A dC dI a ac g5 r) : dj_X3_putVarint_5 p l e s m args below meth c Q A dC dI a ac (dF_X3_putVarint_5 n (a 0) g5) r := by
  obtain ⟨hlt, hx, hb, hml, hown, hts, hN, hA, hK⟩ := id C
  intro x3 x5 s0 H locs ls h hP hD hS hl
  unfold dF_X3_putVarint_5 at h
  refine lv_iload hx hb dX3_putVarint_5 (lv_at hl 2 rfl) ?_
  refine lv_bipush (v := 7) hx hb dX3_putVarint_7 (by decide) ?_
  refine lv_icmp_ge (tgt := 45) hx hb dX3_putVarint_9 (by decide) (fun c1 => ?_) (fun c1 => ?_)
  · have h := nd_pos h c1
    exact (db_X3_putVarint_45 C K) (x3) s0 _ _ _ h hP hD hS (lv_sub hl [0, 1] rfl)
  · have h := nd_neg h c1
    refine lv_lload_n hx hb dX3_putVarint_12 rfl (lv_at hl 1 rfl) ?_
    refine lv_ldc2 hx hb hown (hts (.constantLong RX3 84 (127)) (List.mem_of_getElem? (i := 5) rfl)) dX3_putVarint_13 ?_
    refine W.lcmp hx hb dX3_putVarint_16 ?_
    refine lv_if_le (tgt := 45) hx hb dX3_putVarint_17 (by decide) (fun c5 => ?_) (fun c5 => ?_)
    · have h := nd_pos h c5
      exact (db_X3_putVarint_45 C K) (x3) s0 _ _ _ h hP hD hS (lv_sub hl [0, 1] rfl)
    · have h := nd_neg h c5
      refine lv_aload_n hx hb dX3_putVarint_20 rfl (lv_at hl 0 rfl) ?_
      refine lv_lload_n hx hb dX3_putVarint_21 rfl (lv_at hl 1 rfl) ?_
      refine lv_ldc2 hx hb hown (hts (.constantLong RX3 84 (127)) (List.mem_of_getElem? (i := 5) rfl)) dX3_putVarint_22 ?_
      refine lv_land hx hb dX3_putVarint_25 ?_
      refine lv_l2i hx hb dX3_putVarint_26 rfl ?_
      refine lv_sipush (v := 128) hx hb dX3_putVarint_27 (by decide) ?_
      refine lv_ior hx hb dX3_putVarint_30 ?_
      obtain ⟨s7, hq, h⟩ := nd_b1_e h
      have hPc := hP
      have hDc := hD
      have hKc := hK
      have hFc := nd_rs hD hS hA
      refine nd_cVv (As := [.int ((((x3 : Int64) &&& 127).toInt32) ||| 128)]) (rest := []) (w' := dw_X3s a ac s7) ⟨hx, hb, hml, hown, hts⟩ (fun sz => dm_X3_putByte l hlt dC dI a ac n (((((x3 : Int64) &&& 127).toInt32) ||| 128)) s0 hq sz) (cwV 1 hts gi_dm_X3_putVarint_0 rfl rfl rfl (by decide +kernel) ⟨Nat.le_of_ble_eq_true rfl, Nat.le_of_ble_eq_true rfl⟩) hPc hDc hKc hS hA hN (va_recv hKc hPc (ci := 4) (q0 := 1) rfl rfl) rfl hl.1 rfl (Nat.le_of_ble_eq_true rfl) dX3_putVarint_31 (fun H locs hP1 hD1 hk1 hS => ?_)
      have hP := hP1
      have hD := hD1.weaken (fun k q _ h => hFc q.1 h)
      refine lv_lload_n hx hb dX3_putVarint_34 rfl (lv_at hl 1 rfl) ?_
      refine lv_bipush (v := 7) hx hb dX3_putVarint_35 (by decide) ?_
      refine lv_lshr hx hb dX3_putVarint_37 rfl ?_
      refine lv_topl (fun z9 ez9 => ?_)
      have h := nd_at h ez9
      refine lv_lstore_n (lv' := [(3, .long z9), (0, .ref (a 1)), (5, .int x5)]) hx hb dX3_putVarint_38 rfl hl (by decide) rfl (fun ls hl => ?_)
      obtain ⟨z10, ez10, h⟩ := nd_let_e h
      refine lv_iinc (v := z10) (lv' := [(5, .int z10), (3, .long z9), (0, .ref (a 1))]) hx hb dX3_putVarint_39 hl (k := 2) rfl (by rw [ez10]) (by decide) rfl (fun ls hl => ?_)
      refine lv_goto (tgt := 5) hx hb dX3_putVarint_42 (by decide) ?_
      exact (J5) (z9) (z10) s7 _ _ _ h hP hD hS (lv_sub hl [2, 1, 0] rfl)
set_option maxHeartbeats 40000000 in
set_option maxRecDepth 100000 in
theorem db_X3_putVarint_5 {p : Program} {l : Launch} {e : Env} {s : State} {m : MethodId} {args : Array Value} {below : List Frame} {meth : Method} {c : Code} {Q : State → Prop} {A : Nat → Prop} {dC : Nat → ClassId} {dI : Nat → Nat → Nat} {a : Nat → Nat} {ac : Nat → ClassId} {n : Nat} {r : St × (St)} (C : nd_C p l s m args c A (dC, dI) cX3_putVarint 6 RX3 ow_dm_X3_putVarint (dk_X3s ac)) (K : nd_Kv p l e (headSpec ow_dm_X3_putVarint ({ frames := 1, cells := 0, slots := 0, locals := 21 })).room s m args below meth c Q A (dC, dI) cX3_putVarint (St × (St)) (dw_X3s a ac) r) (k : Nat) : dj_X3_putVarint_5 p l e s m args below meth c Q A dC dI a ac (df_X3_putVarint_5 n (a 0) k) r := by
  induction k with
  | zero => intro x3 x5 s0 H locs ls h; exact nomatch (show (none : Option (St × (St))) = some r from h)
  | succ k ih => exact dB_X3_putVarint_5 C K ih
set_option maxHeartbeats 40000000 in
set_option maxRecDepth 100000 in
theorem db_X3_putVarint_0 {p : Program} {l : Launch} {e : Env} {s : State} {m : MethodId} {args : Array Value} {below : List Frame} {meth : Method} {c : Code} {Q : State → Prop} {A : Nat → Prop} {dC : Nat → ClassId} {dI : Nat → Nat → Nat} {a : Nat → Nat} {ac : Nat → ClassId} {n : Nat} {r : St × (St)} (C : nd_C p l s m args c A (dC, dI) cX3_putVarint 6 RX3 ow_dm_X3_putVarint (dk_X3s ac)) (K : nd_Kv p l e (headSpec ow_dm_X3_putVarint ({ frames := 1, cells := 0, slots := 0, locals := 21 })).room s m args below meth c Q A (dC, dI) cX3_putVarint (St × (St)) (dw_X3s a ac) r) : dj_X3_putVarint_0 p l e s m args below meth c Q A dC dI a ac (df_X3_putVarint_0 n (a 0)) r := by
  obtain ⟨hlt, hx, hb, hml, hown, hts, hN, hA, hK⟩ := id C
  intro v0 s0 H locs ls h hP hD hS hl
  unfold df_X3_putVarint_0 at h
  refine lv_lload_n hx hb dX3_putVarint_0 rfl (lv_at hl 1 rfl) ?_
  refine lv_lstore_n (lv' := [(3, .long v0), (0, .ref (a 1)), (1, .long v0)]) hx hb dX3_putVarint_1 rfl hl (by decide) rfl (fun ls hl => ?_)
  refine lv_iconst (v := 0) hx hb dX3_putVarint_2 (by decide) ?_
  refine lv_istore (lv' := [(5, .int 0), (3, .long v0), (0, .ref (a 1)), (1, .long v0)]) hx hb dX3_putVarint_3 hl (by decide) rfl (fun ls hl => ?_)
  exact (db_X3_putVarint_5 C K n) (v0) (0) s0 _ _ _ h hP hD hS (lv_sub hl [2, 1, 0] rfl)
set_option maxHeartbeats 40000000 in
set_option maxRecDepth 100000 in
theorem dm_X3_putVarint (l : Launch) (hlt : l.stackTraces = false) (dC : Nat → ClassId) (dI : Nat → Nat → Nat) (a : Nat → Nat) (ac : Nat → ClassId) (n : Nat) (v0 : Int64) (s0 : St × (St)) {r : St × (St)} (h : df_X3_putVarint n (a 0) v0 s0 = some r) (sz : Nat) : Met l yX3_putVarint ow_dm_X3_putVarint ({ frames := 1, cells := 0, slots := 0, locals := 21 }) (va_Pc [.ref (a 1), .long v0] (fun U => U.heap.size = sz ∧ va_P (dC, dI) vwCl (dw_X3s a ac s0) U.heap ∧ va_K (dC, dI) vwCl (dk_X3s ac) U ∧ va_D (fun _ => True) (dw_X3s a ac s0) ∧ nv_E dI (va_A (dw_X3s a ac s0) sz) U)) (va_Qv (fun _ => True) (fun (_ : Unit) t => va_P (dC, dI) vwCl (dw_X3s a ac r) t.heap ∧ va_K (dC, dI) vwCl (dk_X3s ac) t ∧ va_D (va_A (dw_X3s a ac s0) sz) (dw_X3s a ac r)) (va_A (dw_X3s a ac s0) sz)) 0 0 (va_A (dw_X3s a ac s0) sz) := by
  refine Met.ofW (cc := cX3_putVarint) (maxL := 6) (ret := none) (by decide) rfl ?_
  intro p e s m args below meth c s₁ B hml hv
  obtain ⟨rfl, hsz, hP, hK, hD0, hN⟩ := hv
  have hx := B.exec
  have hb := B.bytes
  have hr := B.returns
  have hts := atoms_spec (ws := ow_dm_X3_putVarint) B.pre
  have hown : s.vm.findClass RX3 = some m.cls := findClass_of_methodNamed B.named
  have hlocks := B.notSynchronized
  subst hsz
  have hD := hD0.self (sz := s.heap.size)
  generalize hAe : va_A (dw_X3s a ac s0) s.heap.size = A at hD hN ⊢
  have hA : ∀ q : Nat, s.heap.size ≤ q → A q := fun q h => by rw [← hAe]; exact Or.inr h
  have hl := lv_entry ([.ref (a 1), .long v0]) (n := 6) (Nat.le_of_ble_eq_true rfl)
  rw [lg_entry_eq]
  generalize (lg_sl ([.ref (a 1), .long v0]) ++ List.replicate (6 - (lg_sl ([.ref (a 1), .long v0])).length) Slot.unset).toArray = ls at hl ⊢
  have hl : lv_has ls 6 [(0, .ref (a 1)), (1, .long v0)] := hl
  exact db_X3_putVarint_0 (dC := dC) (dI := dI) (a := a) (ac := ac) (n := n) (r := r) ⟨hlt, hx, hb, hml, hown, hts, hN, hA, hK⟩ (fun pc τ H locs ls d er hP hD hS => by subst er; exact W.vret hx hb hr (fun t ht hW => ⟨⟨(), rfl, trivial, by rw [ht]; exact hP, va_K.moved hW.alike hK, hD⟩, hS.F ht⟩) hS.2.2 d) v0 s0 _ _ _ h hP hD va_S.rf (lv_sub hl [0, 1] rfl)
def ow_dm_X3_likeBefore : List Cond := Cond.code yX3_likeBefore cX3_likeBefore 3 (some .int) :: ([Cond.fieldLink RX3 35 "TimeMachine$Events" "recorded" "I", Cond.methodLink RX3 62 yX3_bringsSame, Cond.instanceMethod yX3_bringsSame, Cond.selects RX3 yX3_bringsSame yX3_bringsSame, Cond.initialized RX3, Cond.methodLink RX3 66 yX3_difference, Cond.instanceMethod yX3_difference, Cond.selects RX3 yX3_difference yX3_difference] ++ (u_ws RX3 TX3 11 ++ (ow_dm_X3_bringsSame ++ (ow_dm_X3_difference ++ []))))
theorem gd_dm_X3_likeBefore : ∀ w ∈ ow_dm_X3_likeBefore, (w.onTables && w.keeps) = true ∨ ∃ ty, w = Cond.arrayClass ty := List.forall_mem_cons.mpr ⟨good_of_word rfl, List.forall_mem_append.mpr ⟨fun w h => good_of_word (List.all_eq_true.mp (by decide +kernel) w h), List.forall_mem_append.mpr ⟨gu_X3, List.forall_mem_append.mpr ⟨gd_dm_X3_bringsSame, List.forall_mem_append.mpr ⟨gd_dm_X3_difference, fun _ h => nomatch h⟩⟩⟩⟩⟩
theorem hi_dm_X3_likeBefore_X3 : ∀ w ∈ u_ws RX3 TX3 11, w ∈ ow_dm_X3_likeBefore := fun w h => List.mem_cons_of_mem _ (List.mem_append_right _ (List.mem_append_left _ h))
theorem gi_dm_X3_likeBefore_0 : GoodIn ow_dm_X3_likeBefore (wsV RX3 62 RX3 yX3_bringsSame ow_dm_X3_bringsSame) := goodIn_app (goodIn_of _ (by decide +kernel)) (fun w h => ⟨List.mem_cons_of_mem _ (List.mem_append_right _ (List.mem_append_right _ (List.mem_append_left _ h))), gd_dm_X3_bringsSame w h⟩)
theorem gi_dm_X3_likeBefore_1 : GoodIn ow_dm_X3_likeBefore (wsV RX3 66 RX3 yX3_difference ow_dm_X3_difference) := goodIn_app (goodIn_of _ (by decide +kernel)) (fun w h => ⟨List.mem_cons_of_mem _ (List.mem_append_right _ (List.mem_append_right _ (List.mem_append_right _ (List.mem_append_left _ h)))), gd_dm_X3_difference w h⟩)
def dj_X3_likeBefore_53 (p : Program) (l : Launch) (e : Env) (s : State) (m : MethodId) (args : Array Value) (below : List Frame) (meth : Method) (c : Code) (Q : State → Prop) (A : Nat → Prop) (dC : Nat → ClassId) (dI : Nat → Nat → Nat) (a : Nat → Nat) (ac : Nat → ClassId) (g : Int32 → (St) → Option (Int32 × (St))) (r : Int32 × (St)) : Prop := ∀ (x2 : Int32) (s0 : St) (H : Heap) (locs : List Loc) (ls : Array Slot), g x2 s0 = some r → va_P (dC, dI) vwCl (dw_X3c a ac s0) H → va_D A (dw_X3c a ac s0) → va_S A s.heap H locs → lv_has ls 3 [(2, .int x2)] → W p l e (headSpec ow_dm_X3_likeBefore ({ frames := 1, cells := 0, slots := 0, locals := 22 })).room s m args below meth c H locs 0 0 Q (F0 m 53 ls [])
def dj_X3_likeBefore_2 (p : Program) (l : Launch) (e : Env) (s : State) (m : MethodId) (args : Array Value) (below : List Frame) (meth : Method) (c : Code) (Q : State → Prop) (A : Nat → Prop) (dC : Nat → ClassId) (dI : Nat → Nat → Nat) (a : Nat → Nat) (ac : Nat → ClassId) (g : Int32 → Int32 → (St) → Option (Int32 × (St))) (r : Int32 × (St)) : Prop := ∀ (x1 : Int32) (x2 : Int32) (s0 : St) (H : Heap) (locs : List Loc) (ls : Array Slot), g x1 x2 s0 = some r → va_P (dC, dI) vwCl (dw_X3c a ac s0) H → va_D A (dw_X3c a ac s0) → va_S A s.heap H locs → lv_has ls 3 [(0, .ref (a 0)), (1, .int x1), (2, .int x2)] → W p l e (headSpec ow_dm_X3_likeBefore ({ frames := 1, cells := 0, slots := 0, locals := 22 })).room s m args below meth c H locs 0 0 Q (F0 m 2 ls [])
def dj_X3_likeBefore_0 (p : Program) (l : Launch) (e : Env) (s : State) (m : MethodId) (args : Array Value) (below : List Frame) (meth : Method) (c : Code) (Q : State → Prop) (A : Nat → Prop) (dC : Nat → ClassId) (dI : Nat → Nat → Nat) (a : Nat → Nat) (ac : Nat → ClassId) (g : Int32 → (St) → Option (Int32 × (St))) (r : Int32 × (St)) : Prop := ∀ (v0 : Int32) (s0 : St) (H : Heap) (locs : List Loc) (ls : Array Slot), g v0 s0 = some r → va_P (dC, dI) vwCl (dw_X3c a ac s0) H → va_D A (dw_X3c a ac s0) → va_S A s.heap H locs → lv_has ls 3 [(0, .ref (a 0)), (1, .int v0)] → W p l e (headSpec ow_dm_X3_likeBefore ({ frames := 1, cells := 0, slots := 0, locals := 22 })).room s m args below meth c H locs 0 0 Q (F0 m 0 ls [])
set_option maxHeartbeats 40000000 in
set_option maxRecDepth 100000 in
theorem db_X3_likeBefore_53 {p : Program} {l : Launch} {e : Env} {s : State} {m : MethodId} {args : Array Value} {below : List Frame} {meth : Method} {c : Code} {Q : State → Prop} {A : Nat → Prop} {dC : Nat → ClassId} {dI : Nat → Nat → Nat} {a : Nat → Nat} {ac : Nat → ClassId} {n : Nat} {r : Int32 × (St)} (C : nd_C p l s m args c A (dC, dI) cX3_likeBefore 3 RX3 ow_dm_X3_likeBefore (dk_X3c ac)) (K : nd_Ki p l e (headSpec ow_dm_X3_likeBefore ({ frames := 1, cells := 0, slots := 0, locals := 22 })).room s m args below meth c Q A (dC, dI) cX3_likeBefore .int (St) (dw_X3c a ac) r) : dj_X3_likeBefore_53 p l e s m args below meth c Q A dC dI a ac (df_X3_likeBefore_53 n) r := by
  obtain ⟨hlt, hx, hb, hml, hown, hts, hN, hA, hK⟩ := id C
  intro x2 s0 H locs ls h hP hD hS hl
  unfold df_X3_likeBefore_53 at h
  refine lv_iload_n hx hb dX3_likeBefore_53 rfl (lv_at hl 0 rfl) ?_
  exact K _ _ _ _ _ _ dX3_likeBefore_54 rfl (Option.some.inj h).symm hP hD hS
set_option maxHeartbeats 40000000 in
set_option maxRecDepth 100000 in
theorem dB_X3_likeBefore_2 {p : Program} {l : Launch} {e : Env} {s : State} {m : MethodId} {args : Array Value} {below : List Frame} {meth : Method} {c : Code} {Q : State → Prop} {A : Nat → Prop} {dC : Nat → ClassId} {dI : Nat → Nat → Nat} {a : Nat → Nat} {ac : Nat → ClassId} {n : Nat} {r : Int32 × (St)} (C : nd_C p l s m args c A (dC, dI) cX3_likeBefore 3 RX3 ow_dm_X3_likeBefore (dk_X3c ac)) (K : nd_Ki p l e (headSpec ow_dm_X3_likeBefore ({ frames := 1, cells := 0, slots := 0, locals := 22 })).room s m args below meth c Q A (dC, dI) cX3_likeBefore .int (St) (dw_X3c a ac) r) {g2 : Int32 → Int32 → (St) → Option (Int32 × (St))} (J2 : dj_X3_likeBefore_2 p l e s m args below meth c Q A dC dI a ac g2 r) : dj_X3_likeBefore_2 p l e s m args below meth c Q A dC dI a ac (dF_X3_likeBefore_2 n g2) r := by
  obtain ⟨hlt, hx, hb, hml, hown, hts, hN, hA, hK⟩ := id C
  intro x1 x2 s0 H locs ls h hP hD hS hl
  unfold dF_X3_likeBefore_2 at h
  refine lv_iload_n hx hb dX3_likeBefore_2 rfl (lv_at hl 1 rfl) ?_
  refine lv_if_le (tgt := 53) hx hb dX3_likeBefore_3 (by decide) (fun c1 => ?_) (fun c1 => ?_)
  · have h := nd_pos h c1
    exact (db_X3_likeBefore_53 C K) (x2) s0 _ _ _ h hP hD hS (lv_sub hl [2] rfl)
  · have h := nd_neg h c1
    refine lv_iload_n hx hb dX3_likeBefore_6 rfl (lv_at hl 1 rfl) ?_
    refine lv_iload_n hx hb dX3_likeBefore_7 rfl (lv_at hl 2 rfl) ?_
    refine lv_iadd hx hb dX3_likeBefore_8 ?_
    refine lv_aload_n hx hb dX3_likeBefore_9 rfl (lv_at hl 0 rfl) ?_
    refine va_get (D := (dC, dI)) (ci := 4) (v := .int (sI s0 0)) (C := RX3) (T := TX3) (N := 11) hx hb hts hi_dm_X3_likeBefore_X3 hown hK hP 0 rfl rfl 4 (by decide) (hts (.fieldLink RX3 35 "TimeMachine$Events" "recorded" "I") (List.mem_of_getElem? (i := 1) rfl)) (fun _ h9 => h9) rfl dX3_likeBefore_10 ?_
    refine lv_icmp_ge (tgt := 53) hx hb dX3_likeBefore_13 (by decide) (fun c2 => ?_) (fun c2 => ?_)
    · have h := nd_pos h c2
      exact (db_X3_likeBefore_53 C K) (x2) s0 _ _ _ h hP hD hS (lv_sub hl [2] rfl)
    · have h := nd_neg h c2
      refine lv_aload_n hx hb dX3_likeBefore_16 rfl (lv_at hl 0 rfl) ?_
      refine lv_iload_n hx hb dX3_likeBefore_17 rfl (lv_at hl 1 rfl) ?_
      refine lv_iload_n hx hb dX3_likeBefore_18 rfl (lv_at hl 2 rfl) ?_
      refine lv_iadd hx hb dX3_likeBefore_19 ?_
      refine lv_iload_n hx hb dX3_likeBefore_20 rfl (lv_at hl 1 rfl) ?_
      refine lv_iconst (v := 1) hx hb dX3_likeBefore_21 (by decide) ?_
      refine lv_isub hx hb dX3_likeBefore_22 ?_
      obtain ⟨q3, s4, hq, h⟩ := nd_b2_e h
      have hPc := hP
      have hDc := hD
      have hKc := hK
      have hFc := nd_rs hD hS hA
      refine nd_cVi (As := [.int (x1 + x2), .int (x1 - 1)]) (rest := []) (q := q3) (w' := dw_X3c a ac s4) ⟨hx, hb, hml, hown, hts⟩ (fun sz => dm_X3_bringsSame l hlt dC dI a ac n ((x1 + x2)) ((x1 - 1)) s0 hq sz) (cwV 2 hts gi_dm_X3_likeBefore_0 rfl rfl rfl (by decide +kernel) ⟨Nat.le_of_ble_eq_true rfl, Nat.le_of_ble_eq_true rfl⟩) hPc hDc hKc hS hA hN (va_recv hKc hPc (ci := 4) (q0 := 0) rfl rfl) rfl hl.1 rfl (Nat.le_of_ble_eq_true rfl) dX3_likeBefore_23 (fun H locs hP1 hD1 hk1 hS => ?_)
      have hP := hP1
      have hD := hD1.weaken (fun k q _ h => hFc q.1 h)
      refine lv_if_eq (tgt := 53) hx hb dX3_likeBefore_26 (by decide) (fun c6 => ?_) (fun c6 => ?_)
      · have h := nd_pos h c6
        exact (db_X3_likeBefore_53 C K) (x2) s4 _ _ _ h hP hD hS (lv_sub hl [2] rfl)
      · have h := nd_neg h c6
        refine lv_aload_n hx hb dX3_likeBefore_29 rfl (lv_at hl 0 rfl) ?_
        refine lv_iload_n hx hb dX3_likeBefore_30 rfl (lv_at hl 1 rfl) ?_
        refine lv_iload_n hx hb dX3_likeBefore_31 rfl (lv_at hl 2 rfl) ?_
        refine lv_iadd hx hb dX3_likeBefore_32 ?_
        obtain ⟨q7, s8, hq, h⟩ := nd_b2_e h
        have hPc := hP
        have hDc := hD
        have hKc := hK
        have hFc := nd_rs hD hS hA
        refine nd_cVl (As := [.int (x1 + x2)]) (rest := []) (q := q7) (w' := dw_X3c a ac s8) ⟨hx, hb, hml, hown, hts⟩ (fun sz => dm_X3_difference l hlt dC dI a ac n ((x1 + x2)) s4 hq sz) (cwV 1 hts gi_dm_X3_likeBefore_1 rfl rfl rfl (by decide +kernel) ⟨Nat.le_of_ble_eq_true rfl, Nat.le_of_ble_eq_true rfl⟩) hPc hDc hKc hS hA hN (va_recv hKc hPc (ci := 4) (q0 := 0) rfl rfl) rfl hl.1 rfl (Nat.le_of_ble_eq_true rfl) dX3_likeBefore_33 (fun H locs hP1 hD1 hk1 hS => ?_)
        have hP := hP1
        have hD := hD1.weaken (fun k q _ h => hFc q.1 h)
        refine lv_aload_n hx hb dX3_likeBefore_36 rfl (lv_at hl 0 rfl) ?_
        refine lv_iload_n hx hb dX3_likeBefore_37 rfl (lv_at hl 1 rfl) ?_
        refine lv_iconst (v := 1) hx hb dX3_likeBefore_38 (by decide) ?_
        refine lv_isub hx hb dX3_likeBefore_39 ?_
        obtain ⟨q10, s11, hq, h⟩ := nd_b2_e h
        have hPc := hP
        have hDc := hD
        have hKc := hK
        have hFc := nd_rs hD hS hA
        refine nd_cVl (As := [.int (x1 - 1)]) (rest := [.long q7]) (q := q10) (w' := dw_X3c a ac s11) ⟨hx, hb, hml, hown, hts⟩ (fun sz => dm_X3_difference l hlt dC dI a ac n ((x1 - 1)) s8 hq sz) (cwV 1 hts gi_dm_X3_likeBefore_1 rfl rfl rfl (by decide +kernel) ⟨Nat.le_of_ble_eq_true rfl, Nat.le_of_ble_eq_true rfl⟩) hPc hDc hKc hS hA hN (va_recv hKc hPc (ci := 4) (q0 := 0) rfl rfl) rfl hl.1 rfl (Nat.le_of_ble_eq_true rfl) dX3_likeBefore_40 (fun H locs hP1 hD1 hk1 hS => ?_)
        have hP := hP1
        have hD := hD1.weaken (fun k q _ h => hFc q.1 h)
        refine W.lcmp hx hb dX3_likeBefore_43 ?_
        refine lv_if_ne (tgt := 53) hx hb dX3_likeBefore_44 (by decide) (fun c13 => ?_) (fun c13 => ?_)
        · have h := nd_neg h c13
          exact (db_X3_likeBefore_53 C K) (x2) s11 _ _ _ h hP hD hS (lv_sub hl [2] rfl)
        · have h := nd_pos h c13
          obtain ⟨z14, ez14, h⟩ := nd_let_e h
          refine lv_iinc (v := z14) (lv' := [(2, .int z14), (0, .ref (a 0)), (1, .int x1)]) hx hb dX3_likeBefore_47 hl (k := 2) rfl (by rw [ez14]) (by decide) rfl (fun ls hl => ?_)
          refine lv_goto (tgt := 2) hx hb dX3_likeBefore_50 (by decide) ?_
          exact (J2) (x1) (z14) s11 _ _ _ h hP hD hS (lv_sub hl [1, 2, 0] rfl)
set_option maxHeartbeats 40000000 in
set_option maxRecDepth 100000 in
theorem db_X3_likeBefore_2 {p : Program} {l : Launch} {e : Env} {s : State} {m : MethodId} {args : Array Value} {below : List Frame} {meth : Method} {c : Code} {Q : State → Prop} {A : Nat → Prop} {dC : Nat → ClassId} {dI : Nat → Nat → Nat} {a : Nat → Nat} {ac : Nat → ClassId} {n : Nat} {r : Int32 × (St)} (C : nd_C p l s m args c A (dC, dI) cX3_likeBefore 3 RX3 ow_dm_X3_likeBefore (dk_X3c ac)) (K : nd_Ki p l e (headSpec ow_dm_X3_likeBefore ({ frames := 1, cells := 0, slots := 0, locals := 22 })).room s m args below meth c Q A (dC, dI) cX3_likeBefore .int (St) (dw_X3c a ac) r) (k : Nat) : dj_X3_likeBefore_2 p l e s m args below meth c Q A dC dI a ac (df_X3_likeBefore_2 n k) r := by
  induction k with
  | zero => intro x1 x2 s0 H locs ls h; exact nomatch (show (none : Option (Int32 × (St))) = some r from h)
  | succ k ih => exact dB_X3_likeBefore_2 C K ih
set_option maxHeartbeats 40000000 in
set_option maxRecDepth 100000 in
theorem db_X3_likeBefore_0 {p : Program} {l : Launch} {e : Env} {s : State} {m : MethodId} {args : Array Value} {below : List Frame} {meth : Method} {c : Code} {Q : State → Prop} {A : Nat → Prop} {dC : Nat → ClassId} {dI : Nat → Nat → Nat} {a : Nat → Nat} {ac : Nat → ClassId} {n : Nat} {r : Int32 × (St)} (C : nd_C p l s m args c A (dC, dI) cX3_likeBefore 3 RX3 ow_dm_X3_likeBefore (dk_X3c ac)) (K : nd_Ki p l e (headSpec ow_dm_X3_likeBefore ({ frames := 1, cells := 0, slots := 0, locals := 22 })).room s m args below meth c Q A (dC, dI) cX3_likeBefore .int (St) (dw_X3c a ac) r) : dj_X3_likeBefore_0 p l e s m args below meth c Q A dC dI a ac (df_X3_likeBefore_0 n) r := by
  obtain ⟨hlt, hx, hb, hml, hown, hts, hN, hA, hK⟩ := id C
  intro v0 s0 H locs ls h hP hD hS hl
  unfold df_X3_likeBefore_0 at h
  refine lv_iconst (v := 0) hx hb dX3_likeBefore_0 (by decide) ?_
  refine lv_istore_n (lv' := [(2, .int 0), (0, .ref (a 0)), (1, .int v0)]) hx hb dX3_likeBefore_1 rfl hl (by decide) rfl (fun ls hl => ?_)
  exact (db_X3_likeBefore_2 C K n) (v0) (0) s0 _ _ _ h hP hD hS (lv_sub hl [1, 2, 0] rfl)
set_option maxHeartbeats 40000000 in
set_option maxRecDepth 100000 in
theorem dm_X3_likeBefore (l : Launch) (hlt : l.stackTraces = false) (dC : Nat → ClassId) (dI : Nat → Nat → Nat) (a : Nat → Nat) (ac : Nat → ClassId) (n : Nat) (v0 : Int32) (s0 : St) {r : Int32 × (St)} (h : df_X3_likeBefore n v0 s0 = some r) (sz : Nat) : Met l yX3_likeBefore ow_dm_X3_likeBefore ({ frames := 1, cells := 0, slots := 0, locals := 22 }) (va_Pc [.ref (a 0), .int v0] (fun U => U.heap.size = sz ∧ va_P (dC, dI) vwCl (dw_X3c a ac s0) U.heap ∧ va_K (dC, dI) vwCl (dk_X3c ac) U ∧ va_D (fun _ => True) (dw_X3c a ac s0) ∧ nv_E dI (va_A (dw_X3c a ac s0) sz) U)) (va_Qi (fun x _ => x = r.1) (fun (_ : Unit) t => va_P (dC, dI) vwCl (dw_X3c a ac r.2) t.heap ∧ va_K (dC, dI) vwCl (dk_X3c ac) t ∧ va_D (va_A (dw_X3c a ac s0) sz) (dw_X3c a ac r.2)) (va_A (dw_X3c a ac s0) sz)) 0 0 (va_A (dw_X3c a ac s0) sz) := by
  refine Met.ofW (cc := cX3_likeBefore) (maxL := 3) (ret := (some .int)) (by decide) rfl ?_
  intro p e s m args below meth c s₁ B hml hv
  obtain ⟨rfl, hsz, hP, hK, hD0, hN⟩ := hv
  have hx := B.exec
  have hb := B.bytes
  have hr := B.returns
  have hts := atoms_spec (ws := ow_dm_X3_likeBefore) B.pre
  have hown : s.vm.findClass RX3 = some m.cls := findClass_of_methodNamed B.named
  have hlocks := B.notSynchronized
  subst hsz
  have hD := hD0.self (sz := s.heap.size)
  generalize hAe : va_A (dw_X3c a ac s0) s.heap.size = A at hD hN ⊢
  have hA : ∀ q : Nat, s.heap.size ≤ q → A q := fun q h => by rw [← hAe]; exact Or.inr h
  have hl := lv_entry ([.ref (a 0), .int v0]) (n := 3) (Nat.le_of_ble_eq_true rfl)
  rw [lg_entry_eq]
  generalize (lg_sl ([.ref (a 0), .int v0]) ++ List.replicate (3 - (lg_sl ([.ref (a 0), .int v0])).length) Slot.unset).toArray = ls at hl ⊢
  have hl : lv_has ls 3 [(0, .ref (a 0)), (1, .int v0)] := hl
  exact db_X3_likeBefore_0 (dC := dC) (dI := dI) (a := a) (ac := ac) (n := n) (r := r) ⟨hlt, hx, hb, hml, hown, hts, hN, hA, hK⟩ (fun pc v τ H locs ls d z er hP hD hS => by subst er; exact W.zret (v := v) hx hb hr z (fun t ht hW => ⟨⟨v, (), rfl, rfl, by rw [ht]; exact hP, va_K.moved hW.alike hK, hD⟩, hS.F ht⟩) hS.2.2 d) v0 s0 _ _ _ h hP hD va_S.rf (lv_sub hl [0, 1] rfl)
def ow_dm_X3_putBytes : List Cond := Cond.code yX3_putBytes cX3_putBytes 5 none :: ([Cond.methodLink RX3 59 yX3_putByte, Cond.instanceMethod yX3_putByte, Cond.selects RX3 yX3_putByte yX3_putByte, Cond.initialized RX3] ++ (ow_dm_X3_putByte ++ []))
theorem gd_dm_X3_putBytes : ∀ w ∈ ow_dm_X3_putBytes, (w.onTables && w.keeps) = true ∨ ∃ ty, w = Cond.arrayClass ty := List.forall_mem_cons.mpr ⟨good_of_word rfl, List.forall_mem_append.mpr ⟨fun w h => good_of_word (List.all_eq_true.mp (by decide +kernel) w h), List.forall_mem_append.mpr ⟨gd_dm_X3_putByte, fun _ h => nomatch h⟩⟩⟩
theorem gi_dm_X3_putBytes_0 : GoodIn ow_dm_X3_putBytes (wsV RX3 59 RX3 yX3_putByte ow_dm_X3_putByte) := goodIn_app (goodIn_of _ (by decide +kernel)) (fun w h => ⟨List.mem_cons_of_mem _ (List.mem_append_right _ (List.mem_append_left _ h)), gd_dm_X3_putByte w h⟩)
def dj_X3_putBytes_5 (p : Program) (l : Launch) (e : Env) (s : State) (m : MethodId) (args : Array Value) (below : List Frame) (meth : Method) (c : Code) (Q : State → Prop) (A : Nat → Prop) (dC : Nat → ClassId) (dI : Nat → Nat → Nat) (a : Nat → Nat) (ac : Nat → ClassId) (g : Int64 → Int32 → (St × (St)) → Option (St × (St))) (r : St × (St)) : Prop := ∀ (x1 : Int64) (x4 : Int32) (s0 : St × (St)) (H : Heap) (locs : List Loc) (ls : Array Slot), g x1 x4 s0 = some r → va_P (dC, dI) vwCl (dw_X3s a ac s0) H → va_D A (dw_X3s a ac s0) → va_S A s.heap H locs → lv_has ls 5 [(0, .ref (a 1)), (1, .long x1), (4, .int x4)] → W p l e (headSpec ow_dm_X3_putBytes ({ frames := 1, cells := 0, slots := 0, locals := 21 })).room s m args below meth c H locs 0 0 Q (F0 m 5 ls [])
def dj_X3_putBytes_0 (p : Program) (l : Launch) (e : Env) (s : State) (m : MethodId) (args : Array Value) (below : List Frame) (meth : Method) (c : Code) (Q : State → Prop) (A : Nat → Prop) (dC : Nat → ClassId) (dI : Nat → Nat → Nat) (a : Nat → Nat) (ac : Nat → ClassId) (g : Int64 → Int32 → (St × (St)) → Option (St × (St))) (r : St × (St)) : Prop := ∀ (v0 : Int64) (v1 : Int32) (s0 : St × (St)) (H : Heap) (locs : List Loc) (ls : Array Slot), g v0 v1 s0 = some r → va_P (dC, dI) vwCl (dw_X3s a ac s0) H → va_D A (dw_X3s a ac s0) → va_S A s.heap H locs → lv_has ls 5 [(0, .ref (a 1)), (1, .long v0), (3, .int v1)] → W p l e (headSpec ow_dm_X3_putBytes ({ frames := 1, cells := 0, slots := 0, locals := 21 })).room s m args below meth c H locs 0 0 Q (F0 m 0 ls [])
set_option maxHeartbeats 40000000 in
set_option maxRecDepth 100000 in
theorem dB_X3_putBytes_5 {p : Program} {l : Launch} {e : Env} {s : State} {m : MethodId} {args : Array Value} {below : List Frame} {meth : Method} {c : Code} {Q : State → Prop} {A : Nat → Prop} {dC : Nat → ClassId} {dI : Nat → Nat → Nat} {a : Nat → Nat} {ac : Nat → ClassId} {n : Nat} {r : St × (St)} (C : nd_C p l s m args c A (dC, dI) cX3_putBytes 5 RX3 ow_dm_X3_putBytes (dk_X3s ac)) (K : nd_Kv p l e (headSpec ow_dm_X3_putBytes ({ frames := 1, cells := 0, slots := 0, locals := 21 })).room s m args below meth c Q A (dC, dI) cX3_putBytes (St × (St)) (dw_X3s a ac) r) {g5 : Int64 → Int32 → (St × (St)) → Option (St × (St))} (J5 : dj_X3_putBytes_5 p l e s m args below meth c Q A dC dI a ac g5 r) : dj_X3_putBytes_5 p l e s m args below meth c Q A dC dI a ac (dF_X3_putBytes_5 n (a 0) g5) r := by
  obtain ⟨hlt, hx, hb, hml, hown, hts, hN, hA, hK⟩ := id C
  intro x1 x4 s0 H locs ls h hP hD hS hl
  unfold dF_X3_putBytes_5 at h
  refine lv_iload hx hb dX3_putBytes_5 (lv_at hl 2 rfl) ?_
  refine lv_if_lt (tgt := 28) hx hb dX3_putBytes_7 (by decide) (fun c2 => ?_) (fun c2 => ?_)
  · have h := nd_pos h c2
    exact K _ _ _ _ _ dX3_putBytes_28 (Option.some.inj h).symm hP hD hS
  · have h := nd_neg h c2
    refine lv_aload_n hx hb dX3_putBytes_10 rfl (lv_at hl 0 rfl) ?_
    refine lv_lload_n hx hb dX3_putBytes_11 rfl (lv_at hl 1 rfl) ?_
    refine lv_bipush (v := 8) hx hb dX3_putBytes_12 (by decide) ?_
    refine lv_iload hx hb dX3_putBytes_14 (lv_at hl 2 rfl) ?_
    refine lv_imul hx hb dX3_putBytes_16 ?_
    refine lv_lshr hx hb dX3_putBytes_17 rfl ?_
    refine lv_l2i hx hb dX3_putBytes_18 rfl ?_
    obtain ⟨s4, hq, h⟩ := nd_b1_e h
    have hPc := hP
    have hDc := hD
    have hKc := hK
    have hFc := nd_rs hD hS hA
    refine nd_cVv (As := [.int (((x1 : Int64) >>> (((8 * x4) : Int32).toInt64 &&& 63)).toInt32)]) (rest := []) (w' := dw_X3s a ac s4) ⟨hx, hb, hml, hown, hts⟩ (fun sz => dm_X3_putByte l hlt dC dI a ac n ((((x1 : Int64) >>> (((8 * x4) : Int32).toInt64 &&& 63)).toInt32)) s0 hq sz) (cwV 1 hts gi_dm_X3_putBytes_0 rfl rfl rfl (by decide +kernel) ⟨Nat.le_of_ble_eq_true rfl, Nat.le_of_ble_eq_true rfl⟩) hPc hDc hKc hS hA hN (va_recv hKc hPc (ci := 4) (q0 := 1) rfl rfl) rfl hl.1 rfl (Nat.le_of_ble_eq_true rfl) dX3_putBytes_19 (fun H locs hP1 hD1 hk1 hS => ?_)
    have hP := hP1
    have hD := hD1.weaken (fun k q _ h => hFc q.1 h)
    obtain ⟨z6, ez6, h⟩ := nd_let_e h
    refine lv_iinc (v := z6) (lv' := [(4, .int z6), (0, .ref (a 1)), (1, .long x1)]) hx hb dX3_putBytes_22 hl (k := 2) rfl (by rw [ez6]) (by decide) rfl (fun ls hl => ?_)
    refine lv_goto (tgt := 5) hx hb dX3_putBytes_25 (by decide) ?_
    exact (J5) (x1) (z6) s4 _ _ _ h hP hD hS (lv_sub hl [1, 2, 0] rfl)
set_option maxHeartbeats 40000000 in
set_option maxRecDepth 100000 in
theorem db_X3_putBytes_5 {p : Program} {l : Launch} {e : Env} {s : State} {m : MethodId} {args : Array Value} {below : List Frame} {meth : Method} {c : Code} {Q : State → Prop} {A : Nat → Prop} {dC : Nat → ClassId} {dI : Nat → Nat → Nat} {a : Nat → Nat} {ac : Nat → ClassId} {n : Nat} {r : St × (St)} (C : nd_C p l s m args c A (dC, dI) cX3_putBytes 5 RX3 ow_dm_X3_putBytes (dk_X3s ac)) (K : nd_Kv p l e (headSpec ow_dm_X3_putBytes ({ frames := 1, cells := 0, slots := 0, locals := 21 })).room s m args below meth c Q A (dC, dI) cX3_putBytes (St × (St)) (dw_X3s a ac) r) (k : Nat) : dj_X3_putBytes_5 p l e s m args below meth c Q A dC dI a ac (df_X3_putBytes_5 n (a 0) k) r := by
  induction k with
  | zero => intro x1 x4 s0 H locs ls h; exact nomatch (show (none : Option (St × (St))) = some r from h)
  | succ k ih => exact dB_X3_putBytes_5 C K ih
set_option maxHeartbeats 40000000 in
set_option maxRecDepth 100000 in
theorem db_X3_putBytes_0 {p : Program} {l : Launch} {e : Env} {s : State} {m : MethodId} {args : Array Value} {below : List Frame} {meth : Method} {c : Code} {Q : State → Prop} {A : Nat → Prop} {dC : Nat → ClassId} {dI : Nat → Nat → Nat} {a : Nat → Nat} {ac : Nat → ClassId} {n : Nat} {r : St × (St)} (C : nd_C p l s m args c A (dC, dI) cX3_putBytes 5 RX3 ow_dm_X3_putBytes (dk_X3s ac)) (K : nd_Kv p l e (headSpec ow_dm_X3_putBytes ({ frames := 1, cells := 0, slots := 0, locals := 21 })).room s m args below meth c Q A (dC, dI) cX3_putBytes (St × (St)) (dw_X3s a ac) r) : dj_X3_putBytes_0 p l e s m args below meth c Q A dC dI a ac (df_X3_putBytes_0 n (a 0)) r := by
  obtain ⟨hlt, hx, hb, hml, hown, hts, hN, hA, hK⟩ := id C
  intro v0 v1 s0 H locs ls h hP hD hS hl
  unfold df_X3_putBytes_0 at h
  refine lv_iload_n hx hb dX3_putBytes_0 rfl (lv_at hl 2 rfl) ?_
  refine lv_iconst (v := 1) hx hb dX3_putBytes_1 (by decide) ?_
  refine lv_isub hx hb dX3_putBytes_2 ?_
  refine lv_topi (fun z1 ez1 => ?_)
  have h := nd_at h ez1
  refine lv_istore (lv' := [(4, .int z1), (0, .ref (a 1)), (1, .long v0), (3, .int v1)]) hx hb dX3_putBytes_3 hl (by decide) rfl (fun ls hl => ?_)
  exact (db_X3_putBytes_5 C K n) (v0) (z1) s0 _ _ _ h hP hD hS (lv_sub hl [1, 2, 0] rfl)
set_option maxHeartbeats 40000000 in
set_option maxRecDepth 100000 in
theorem dm_X3_putBytes (l : Launch) (hlt : l.stackTraces = false) (dC : Nat → ClassId) (dI : Nat → Nat → Nat) (a : Nat → Nat) (ac : Nat → ClassId) (n : Nat) (v0 : Int64) (v1 : Int32) (s0 : St × (St)) {r : St × (St)} (h : df_X3_putBytes n (a 0) v0 v1 s0 = some r) (sz : Nat) : Met l yX3_putBytes ow_dm_X3_putBytes ({ frames := 1, cells := 0, slots := 0, locals := 21 }) (va_Pc [.ref (a 1), .long v0, .int v1] (fun U => U.heap.size = sz ∧ va_P (dC, dI) vwCl (dw_X3s a ac s0) U.heap ∧ va_K (dC, dI) vwCl (dk_X3s ac) U ∧ va_D (fun _ => True) (dw_X3s a ac s0) ∧ nv_E dI (va_A (dw_X3s a ac s0) sz) U)) (va_Qv (fun _ => True) (fun (_ : Unit) t => va_P (dC, dI) vwCl (dw_X3s a ac r) t.heap ∧ va_K (dC, dI) vwCl (dk_X3s ac) t ∧ va_D (va_A (dw_X3s a ac s0) sz) (dw_X3s a ac r)) (va_A (dw_X3s a ac s0) sz)) 0 0 (va_A (dw_X3s a ac s0) sz) := by
  refine Met.ofW (cc := cX3_putBytes) (maxL := 5) (ret := none) (by decide) rfl ?_
  intro p e s m args below meth c s₁ B hml hv
  obtain ⟨rfl, hsz, hP, hK, hD0, hN⟩ := hv
  have hx := B.exec
  have hb := B.bytes
  have hr := B.returns
  have hts := atoms_spec (ws := ow_dm_X3_putBytes) B.pre
  have hown : s.vm.findClass RX3 = some m.cls := findClass_of_methodNamed B.named
  have hlocks := B.notSynchronized
  subst hsz
  have hD := hD0.self (sz := s.heap.size)
  generalize hAe : va_A (dw_X3s a ac s0) s.heap.size = A at hD hN ⊢
  have hA : ∀ q : Nat, s.heap.size ≤ q → A q := fun q h => by rw [← hAe]; exact Or.inr h
  have hl := lv_entry ([.ref (a 1), .long v0, .int v1]) (n := 5) (Nat.le_of_ble_eq_true rfl)
  rw [lg_entry_eq]
  generalize (lg_sl ([.ref (a 1), .long v0, .int v1]) ++ List.replicate (5 - (lg_sl ([.ref (a 1), .long v0, .int v1])).length) Slot.unset).toArray = ls at hl ⊢
  have hl : lv_has ls 5 [(0, .ref (a 1)), (1, .long v0), (3, .int v1)] := hl
  exact db_X3_putBytes_0 (dC := dC) (dI := dI) (a := a) (ac := ac) (n := n) (r := r) ⟨hlt, hx, hb, hml, hown, hts, hN, hA, hK⟩ (fun pc τ H locs ls d er hP hD hS => by subst er; exact W.vret hx hb hr (fun t ht hW => ⟨⟨(), rfl, trivial, by rw [ht]; exact hP, va_K.moved hW.alike hK, hD⟩, hS.F ht⟩) hS.2.2 d) v0 v1 s0 _ _ _ h hP hD va_S.rf (lv_sub hl [0, 1, 2] rfl)
def ow_dm_X3_latest : List Cond := Cond.code yX3_latest cX3_latest 8 (some .int) :: ([Cond.fieldLink RX3 9 "TimeMachine$Events" "kind" "[I"] ++ (u_ws RX3 TX3 11 ++ []))
theorem gd_dm_X3_latest : ∀ w ∈ ow_dm_X3_latest, (w.onTables && w.keeps) = true ∨ ∃ ty, w = Cond.arrayClass ty := List.forall_mem_cons.mpr ⟨good_of_word rfl, List.forall_mem_append.mpr ⟨fun w h => good_of_word (List.all_eq_true.mp (by decide +kernel) w h), List.forall_mem_append.mpr ⟨gu_X3, fun _ h => nomatch h⟩⟩⟩
theorem hi_dm_X3_latest_X3 : ∀ w ∈ u_ws RX3 TX3 11, w ∈ ow_dm_X3_latest := fun w h => List.mem_cons_of_mem _ (List.mem_append_right _ (List.mem_append_left _ h))
def dj_X3_latest_41 (p : Program) (l : Launch) (e : Env) (s : State) (m : MethodId) (args : Array Value) (below : List Frame) (meth : Method) (c : Code) (Q : State → Prop) (A : Nat → Prop) (dC : Nat → ClassId) (dI : Nat → Nat → Nat) (a : Nat → Nat) (ac : Nat → ClassId) (g : Int32 → Int64 → Int32 → (St) → Option (Int32 × (St))) (r : Int32 × (St)) : Prop := ∀ (x1 : Int32) (x5 : Int64) (x7 : Int32) (s0 : St) (H : Heap) (locs : List Loc) (ls : Array Slot), g x1 x5 x7 s0 = some r → va_P (dC, dI) vwCl (dw_X3c a ac s0) H → va_D A (dw_X3c a ac s0) → va_S A s.heap H locs → lv_has ls 8 [(0, .ref (a 0)), (1, .int x1), (5, .long x5), (7, .int x7)] → W p l e (headSpec ow_dm_X3_latest ({ frames := 0, cells := 0, slots := 0, locals := 0 })).room s m args below meth c H locs 0 0 Q (F0 m 41 ls [])
def dj_X3_latest_9 (p : Program) (l : Launch) (e : Env) (s : State) (m : MethodId) (args : Array Value) (below : List Frame) (meth : Method) (c : Code) (Q : State → Prop) (A : Nat → Prop) (dC : Nat → ClassId) (dI : Nat → Nat → Nat) (a : Nat → Nat) (ac : Nat → ClassId) (g : Int32 → Int64 → Int32 → (St) → Option (Int32 × (St))) (r : Int32 × (St)) : Prop := ∀ (x1 : Int32) (x5 : Int64) (x7 : Int32) (s0 : St) (H : Heap) (locs : List Loc) (ls : Array Slot), g x1 x5 x7 s0 = some r → va_P (dC, dI) vwCl (dw_X3c a ac s0) H → va_D A (dw_X3c a ac s0) → va_S A s.heap H locs → lv_has ls 8 [(0, .ref (a 0)), (1, .int x1), (5, .long x5), (7, .int x7)] → W p l e (headSpec ow_dm_X3_latest ({ frames := 0, cells := 0, slots := 0, locals := 0 })).room s m args below meth c H locs 0 0 Q (F0 m 9 ls [])
def dj_X3_latest_0 (p : Program) (l : Launch) (e : Env) (s : State) (m : MethodId) (args : Array Value) (below : List Frame) (meth : Method) (c : Code) (Q : State → Prop) (A : Nat → Prop) (dC : Nat → ClassId) (dI : Nat → Nat → Nat) (a : Nat → Nat) (ac : Nat → ClassId) (g : Int32 → Int64 → Int32 → (St) → Option (Int32 × (St))) (r : Int32 × (St)) : Prop := ∀ (v0 : Int32) (v1 : Int64) (v2 : Int32) (s0 : St) (H : Heap) (locs : List Loc) (ls : Array Slot), g v0 v1 v2 s0 = some r → va_P (dC, dI) vwCl (dw_X3c a ac s0) H → va_D A (dw_X3c a ac s0) → va_S A s.heap H locs → lv_has ls 8 [(0, .ref (a 0)), (1, .int v0), (2, .long v1), (4, .int v2)] → W p l e (headSpec ow_dm_X3_latest ({ frames := 0, cells := 0, slots := 0, locals := 0 })).room s m args below meth c H locs 0 0 Q (F0 m 0 ls [])
set_option maxHeartbeats 40000000 in
set_option maxRecDepth 100000 in
theorem db_X3_latest_41 {p : Program} {l : Launch} {e : Env} {s : State} {m : MethodId} {args : Array Value} {below : List Frame} {meth : Method} {c : Code} {Q : State → Prop} {A : Nat → Prop} {dC : Nat → ClassId} {dI : Nat → Nat → Nat} {a : Nat → Nat} {ac : Nat → ClassId} {n : Nat} {r : Int32 × (St)} (C : nd_C p l s m args c A (dC, dI) cX3_latest 8 RX3 ow_dm_X3_latest (dk_X3c ac)) (K : nd_Ki p l e (headSpec ow_dm_X3_latest ({ frames := 0, cells := 0, slots := 0, locals := 0 })).room s m args below meth c Q A (dC, dI) cX3_latest .int (St) (dw_X3c a ac) r) {g9 : Int32 → Int64 → Int32 → (St) → Option (Int32 × (St))} (J9 : dj_X3_latest_9 p l e s m args below meth c Q A dC dI a ac g9 r) : dj_X3_latest_41 p l e s m args below meth c Q A dC dI a ac (df_X3_latest_41 n g9) r := by
  obtain ⟨hlt, hx, hb, hml, hown, hts, hN, hA, hK⟩ := id C
  intro x1 x5 x7 s0 H locs ls h hP hD hS hl
  unfold df_X3_latest_41 at h
  obtain ⟨z5, ez5, h⟩ := nd_let_e h
  refine lv_iinc (v := z5) (lv' := [(7, .int z5), (0, .ref (a 0)), (1, .int x1), (5, .long x5)]) hx hb dX3_latest_41 hl (k := 3) rfl (by rw [ez5]) (by decide) rfl (fun ls hl => ?_)
  refine lv_goto (tgt := 9) hx hb dX3_latest_44 (by decide) ?_
  exact (J9) (x1) (x5) (z5) s0 _ _ _ h hP hD hS (lv_sub hl [1, 2, 3, 0] rfl)
set_option maxHeartbeats 40000000 in
set_option maxRecDepth 100000 in
theorem dB_X3_latest_9 {p : Program} {l : Launch} {e : Env} {s : State} {m : MethodId} {args : Array Value} {below : List Frame} {meth : Method} {c : Code} {Q : State → Prop} {A : Nat → Prop} {dC : Nat → ClassId} {dI : Nat → Nat → Nat} {a : Nat → Nat} {ac : Nat → ClassId} {n : Nat} {r : Int32 × (St)} (C : nd_C p l s m args c A (dC, dI) cX3_latest 8 RX3 ow_dm_X3_latest (dk_X3c ac)) (K : nd_Ki p l e (headSpec ow_dm_X3_latest ({ frames := 0, cells := 0, slots := 0, locals := 0 })).room s m args below meth c Q A (dC, dI) cX3_latest .int (St) (dw_X3c a ac) r) {g9 : Int32 → Int64 → Int32 → (St) → Option (Int32 × (St))} (J9 : dj_X3_latest_9 p l e s m args below meth c Q A dC dI a ac g9 r) : dj_X3_latest_9 p l e s m args below meth c Q A dC dI a ac (dF_X3_latest_9 n g9) r := by
  obtain ⟨hlt, hx, hb, hml, hown, hts, hN, hA, hK⟩ := id C
  intro x1 x5 x7 s0 H locs ls h hP hD hS hl
  unfold dF_X3_latest_9 at h
  refine lv_iload hx hb dX3_latest_9 (lv_at hl 3 rfl) ?_
  refine lv_if_lt (tgt := 47) hx hb dX3_latest_11 (by decide) (fun c2 => ?_) (fun c2 => ?_)
  · have h := nd_pos h c2
    refine lv_iconst (v := (-1)) hx hb dX3_latest_47 (by decide) ?_
    exact K _ _ _ _ _ _ dX3_latest_48 rfl (Option.some.inj h).symm hP hD hS
  · have h := nd_neg h c2
    refine lv_aload_n hx hb dX3_latest_14 rfl (lv_at hl 0 rfl) ?_
    refine va_get (D := (dC, dI)) (ci := 4) (v := .ref (a 1)) (C := RX3) (T := TX3) (N := 11) hx hb hts hi_dm_X3_latest_X3 hown hK hP 0 rfl rfl 0 (by decide) (hts (.fieldLink RX3 9 "TimeMachine$Events" "kind" "[I") (List.mem_of_getElem? (i := 1) rfl)) (fun _ h9 => h9) rfl dX3_latest_15 ?_
    refine lv_iload hx hb dX3_latest_18 (lv_at hl 3 rfl) ?_
    obtain ⟨i3, h⟩ := nd_ck_e h
    refine va_iald (i := x7) hx hb hK hP 1 0 rfl rfl i3 dX3_latest_20 ?_
    refine lv_iload_n hx hb dX3_latest_21 rfl (lv_at hl 1 rfl) ?_
    refine lv_icmp_ne (tgt := 41) hx hb dX3_latest_22 (by decide) (fun c4 => ?_) (fun c4 => ?_)
    · have h := nd_neg h c4
      exact (db_X3_latest_41 C K J9) (x1) (x5) (x7) s0 _ _ _ h hP hD hS (lv_sub hl [0, 1, 2, 3] rfl)
    · have h := nd_pos h c4
      refine lv_lload hx hb dX3_latest_25 (lv_at hl 2 rfl) ?_
      refine lv_lconst (v := 1) hx hb dX3_latest_27 (by decide) ?_
      refine lv_lsub hx hb dX3_latest_28 ?_
      refine lv_topl (fun z6 ez6 => ?_)
      have h := nd_at h ez6
      refine lv_lstore (lv' := [(5, .long z6), (0, .ref (a 0)), (1, .int x1), (7, .int x7)]) hx hb dX3_latest_29 hl (by decide) rfl (fun ls hl => ?_)
      refine lv_lload hx hb dX3_latest_31 (lv_at hl 0 rfl) ?_
      refine lv_lconst (v := 0) hx hb dX3_latest_33 (by decide) ?_
      refine W.lcmp hx hb dX3_latest_34 ?_
      refine lv_if_ne (tgt := 41) hx hb dX3_latest_35 (by decide) (fun c7 => ?_) (fun c7 => ?_)
      · have h := nd_neg h c7
        exact (db_X3_latest_41 C K J9) (x1) (z6) (x7) s0 _ _ _ h hP hD hS (lv_sub hl [1, 2, 0, 3] rfl)
      · have h := nd_pos h c7
        refine lv_iload hx hb dX3_latest_38 (lv_at hl 3 rfl) ?_
        exact K _ _ _ _ _ _ dX3_latest_40 rfl (Option.some.inj h).symm hP hD hS
set_option maxHeartbeats 40000000 in
set_option maxRecDepth 100000 in
theorem db_X3_latest_9 {p : Program} {l : Launch} {e : Env} {s : State} {m : MethodId} {args : Array Value} {below : List Frame} {meth : Method} {c : Code} {Q : State → Prop} {A : Nat → Prop} {dC : Nat → ClassId} {dI : Nat → Nat → Nat} {a : Nat → Nat} {ac : Nat → ClassId} {n : Nat} {r : Int32 × (St)} (C : nd_C p l s m args c A (dC, dI) cX3_latest 8 RX3 ow_dm_X3_latest (dk_X3c ac)) (K : nd_Ki p l e (headSpec ow_dm_X3_latest ({ frames := 0, cells := 0, slots := 0, locals := 0 })).room s m args below meth c Q A (dC, dI) cX3_latest .int (St) (dw_X3c a ac) r) (k : Nat) : dj_X3_latest_9 p l e s m args below meth c Q A dC dI a ac (df_X3_latest_9 n k) r := by
  induction k with
  | zero => intro x1 x5 x7 s0 H locs ls h; exact nomatch (show (none : Option (Int32 × (St))) = some r from h)
  | succ k ih => exact dB_X3_latest_9 C K ih
set_option maxHeartbeats 40000000 in
set_option maxRecDepth 100000 in
theorem db_X3_latest_0 {p : Program} {l : Launch} {e : Env} {s : State} {m : MethodId} {args : Array Value} {below : List Frame} {meth : Method} {c : Code} {Q : State → Prop} {A : Nat → Prop} {dC : Nat → ClassId} {dI : Nat → Nat → Nat} {a : Nat → Nat} {ac : Nat → ClassId} {n : Nat} {r : Int32 × (St)} (C : nd_C p l s m args c A (dC, dI) cX3_latest 8 RX3 ow_dm_X3_latest (dk_X3c ac)) (K : nd_Ki p l e (headSpec ow_dm_X3_latest ({ frames := 0, cells := 0, slots := 0, locals := 0 })).room s m args below meth c Q A (dC, dI) cX3_latest .int (St) (dw_X3c a ac) r) : dj_X3_latest_0 p l e s m args below meth c Q A dC dI a ac (df_X3_latest_0 n) r := by
  obtain ⟨hlt, hx, hb, hml, hown, hts, hN, hA, hK⟩ := id C
  intro v0 v1 v2 s0 H locs ls h hP hD hS hl
  unfold df_X3_latest_0 at h
  refine lv_lload_n hx hb dX3_latest_0 rfl (lv_at hl 2 rfl) ?_
  refine lv_lstore (lv' := [(5, .long v1), (0, .ref (a 0)), (1, .int v0), (2, .long v1), (4, .int v2)]) hx hb dX3_latest_1 hl (by decide) rfl (fun ls hl => ?_)
  refine lv_iload hx hb dX3_latest_3 (lv_at hl 4 rfl) ?_
  refine lv_iconst (v := 1) hx hb dX3_latest_5 (by decide) ?_
  refine lv_isub hx hb dX3_latest_6 ?_
  refine lv_topi (fun z1 ez1 => ?_)
  have h := nd_at h ez1
  refine lv_istore (lv' := [(7, .int z1), (5, .long v1), (0, .ref (a 0)), (1, .int v0), (2, .long v1), (4, .int v2)]) hx hb dX3_latest_7 hl (by decide) rfl (fun ls hl => ?_)
  exact (db_X3_latest_9 C K n) (v0) (v1) (z1) s0 _ _ _ h hP hD hS (lv_sub hl [2, 3, 1, 0] rfl)
set_option maxHeartbeats 40000000 in
set_option maxRecDepth 100000 in
theorem dm_X3_latest (l : Launch) (hlt : l.stackTraces = false) (dC : Nat → ClassId) (dI : Nat → Nat → Nat) (a : Nat → Nat) (ac : Nat → ClassId) (n : Nat) (v0 : Int32) (v1 : Int64) (v2 : Int32) (s0 : St) {r : Int32 × (St)} (h : df_X3_latest n v0 v1 v2 s0 = some r) (sz : Nat) : Met l yX3_latest ow_dm_X3_latest ({ frames := 0, cells := 0, slots := 0, locals := 0 }) (va_Pc [.ref (a 0), .int v0, .long v1, .int v2] (fun U => U.heap.size = sz ∧ va_P (dC, dI) vwCl (dw_X3c a ac s0) U.heap ∧ va_K (dC, dI) vwCl (dk_X3c ac) U ∧ va_D (fun _ => True) (dw_X3c a ac s0) ∧ nv_E dI (va_A (dw_X3c a ac s0) sz) U)) (va_Qi (fun x _ => x = r.1) (fun (_ : Unit) t => va_P (dC, dI) vwCl (dw_X3c a ac r.2) t.heap ∧ va_K (dC, dI) vwCl (dk_X3c ac) t ∧ va_D (va_A (dw_X3c a ac s0) sz) (dw_X3c a ac r.2)) (va_A (dw_X3c a ac s0) sz)) 0 0 (va_A (dw_X3c a ac s0) sz) := by
  refine Met.ofW (cc := cX3_latest) (maxL := 8) (ret := (some .int)) (by decide) rfl ?_
  intro p e s m args below meth c s₁ B hml hv
  obtain ⟨rfl, hsz, hP, hK, hD0, hN⟩ := hv
  have hx := B.exec
  have hb := B.bytes
  have hr := B.returns
  have hts := atoms_spec (ws := ow_dm_X3_latest) B.pre
  have hown : s.vm.findClass RX3 = some m.cls := findClass_of_methodNamed B.named
  have hlocks := B.notSynchronized
  subst hsz
  have hD := hD0.self (sz := s.heap.size)
  generalize hAe : va_A (dw_X3c a ac s0) s.heap.size = A at hD hN ⊢
  have hA : ∀ q : Nat, s.heap.size ≤ q → A q := fun q h => by rw [← hAe]; exact Or.inr h
  have hl := lv_entry ([.ref (a 0), .int v0, .long v1, .int v2]) (n := 8) (Nat.le_of_ble_eq_true rfl)
  rw [lg_entry_eq]
  generalize (lg_sl ([.ref (a 0), .int v0, .long v1, .int v2]) ++ List.replicate (8 - (lg_sl ([.ref (a 0), .int v0, .long v1, .int v2])).length) Slot.unset).toArray = ls at hl ⊢
  have hl : lv_has ls 8 [(0, .ref (a 0)), (1, .int v0), (2, .long v1), (4, .int v2)] := hl
  exact db_X3_latest_0 (dC := dC) (dI := dI) (a := a) (ac := ac) (n := n) (r := r) ⟨hlt, hx, hb, hml, hown, hts, hN, hA, hK⟩ (fun pc v τ H locs ls d z er hP hD hS => by subst er; exact W.zret (v := v) hx hb hr z (fun t ht hW => ⟨⟨v, (), rfl, rfl, by rw [ht]; exact hP, va_K.moved hW.alike hK, hD⟩, hS.F ht⟩) hS.2.2 d) v0 v1 v2 s0 _ _ _ h hP hD va_S.rf (lv_sub hl [0, 1, 2, 3] rfl)
def ow_dm_X3_sameClock : List Cond := Cond.code yX3_sameClock cX3_sameClock 3 (some .int) :: ([Cond.methodLink RX3 80 yX3_latest, Cond.instanceMethod yX3_latest, Cond.selects RX3 yX3_latest yX3_latest, Cond.initialized RX3, Cond.fieldLink RX3 17 "TimeMachine$Events" "a" "[J"] ++ (u_ws RX3 TX3 11 ++ (ow_dm_X3_latest ++ [])))
theorem gd_dm_X3_sameClock : ∀ w ∈ ow_dm_X3_sameClock, (w.onTables && w.keeps) = true ∨ ∃ ty, w = Cond.arrayClass ty := List.forall_mem_cons.mpr ⟨good_of_word rfl, List.forall_mem_append.mpr ⟨fun w h => good_of_word (List.all_eq_true.mp (by decide +kernel) w h), List.forall_mem_append.mpr ⟨gu_X3, List.forall_mem_append.mpr ⟨gd_dm_X3_latest, fun _ h => nomatch h⟩⟩⟩⟩
theorem hi_dm_X3_sameClock_X3 : ∀ w ∈ u_ws RX3 TX3 11, w ∈ ow_dm_X3_sameClock := fun w h => List.mem_cons_of_mem _ (List.mem_append_right _ (List.mem_append_left _ h))
theorem gi_dm_X3_sameClock_0 : GoodIn ow_dm_X3_sameClock (wsV RX3 80 RX3 yX3_latest ow_dm_X3_latest) := goodIn_app (goodIn_of _ (by decide +kernel)) (fun w h => ⟨List.mem_cons_of_mem _ (List.mem_append_right _ (List.mem_append_right _ (List.mem_append_left _ h))), gd_dm_X3_latest w h⟩)
def dj_X3_sameClock_33 (p : Program) (l : Launch) (e : Env) (s : State) (m : MethodId) (args : Array Value) (below : List Frame) (meth : Method) (c : Code) (Q : State → Prop) (A : Nat → Prop) (dC : Nat → ClassId) (dI : Nat → Nat → Nat) (a : Nat → Nat) (ac : Nat → ClassId) (g : Int32 → (St) → Option (Int32 × (St))) (r : Int32 × (St)) : Prop := ∀ (y0 : Int32) (s0 : St) (H : Heap) (locs : List Loc) (ls : Array Slot), g y0 s0 = some r → va_P (dC, dI) vwCl (dw_X3c a ac s0) H → va_D A (dw_X3c a ac s0) → va_S A s.heap H locs → lv_has ls 3 [] → W p l e (headSpec ow_dm_X3_sameClock ({ frames := 1, cells := 0, slots := 0, locals := 27 })).room s m args below meth c H locs 0 0 Q (F0 m 33 ls [.int y0])
def dj_X3_sameClock_32 (p : Program) (l : Launch) (e : Env) (s : State) (m : MethodId) (args : Array Value) (below : List Frame) (meth : Method) (c : Code) (Q : State → Prop) (A : Nat → Prop) (dC : Nat → ClassId) (dI : Nat → Nat → Nat) (a : Nat → Nat) (ac : Nat → ClassId) (g : (St) → Option (Int32 × (St))) (r : Int32 × (St)) : Prop := ∀ (s0 : St) (H : Heap) (locs : List Loc) (ls : Array Slot), g s0 = some r → va_P (dC, dI) vwCl (dw_X3c a ac s0) H → va_D A (dw_X3c a ac s0) → va_S A s.heap H locs → lv_has ls 3 [] → W p l e (headSpec ow_dm_X3_sameClock ({ frames := 1, cells := 0, slots := 0, locals := 27 })).room s m args below meth c H locs 0 0 Q (F0 m 32 ls [])
def dj_X3_sameClock_0 (p : Program) (l : Launch) (e : Env) (s : State) (m : MethodId) (args : Array Value) (below : List Frame) (meth : Method) (c : Code) (Q : State → Prop) (A : Nat → Prop) (dC : Nat → ClassId) (dI : Nat → Nat → Nat) (a : Nat → Nat) (ac : Nat → ClassId) (g : Int32 → (St) → Option (Int32 × (St))) (r : Int32 × (St)) : Prop := ∀ (v0 : Int32) (s0 : St) (H : Heap) (locs : List Loc) (ls : Array Slot), g v0 s0 = some r → va_P (dC, dI) vwCl (dw_X3c a ac s0) H → va_D A (dw_X3c a ac s0) → va_S A s.heap H locs → lv_has ls 3 [(0, .ref (a 0)), (1, .int v0)] → W p l e (headSpec ow_dm_X3_sameClock ({ frames := 1, cells := 0, slots := 0, locals := 27 })).room s m args below meth c H locs 0 0 Q (F0 m 0 ls [])
set_option maxHeartbeats 40000000 in
set_option maxRecDepth 100000 in
theorem db_X3_sameClock_33 {p : Program} {l : Launch} {e : Env} {s : State} {m : MethodId} {args : Array Value} {below : List Frame} {meth : Method} {c : Code} {Q : State → Prop} {A : Nat → Prop} {dC : Nat → ClassId} {dI : Nat → Nat → Nat} {a : Nat → Nat} {ac : Nat → ClassId} {n : Nat} {r : Int32 × (St)} (C : nd_C p l s m args c A (dC, dI) cX3_sameClock 3 RX3 ow_dm_X3_sameClock (dk_X3c ac)) (K : nd_Ki p l e (headSpec ow_dm_X3_sameClock ({ frames := 1, cells := 0, slots := 0, locals := 27 })).room s m args below meth c Q A (dC, dI) cX3_sameClock .int (St) (dw_X3c a ac) r) : dj_X3_sameClock_33 p l e s m args below meth c Q A dC dI a ac (df_X3_sameClock_33 n) r := by
  obtain ⟨hlt, hx, hb, hml, hown, hts, hN, hA, hK⟩ := id C
  intro y0 s0 H locs ls h hP hD hS hl
  unfold df_X3_sameClock_33 at h
  exact K _ _ _ _ _ _ dX3_sameClock_33 rfl (Option.some.inj h).symm hP hD hS
set_option maxHeartbeats 40000000 in
set_option maxRecDepth 100000 in
theorem db_X3_sameClock_32 {p : Program} {l : Launch} {e : Env} {s : State} {m : MethodId} {args : Array Value} {below : List Frame} {meth : Method} {c : Code} {Q : State → Prop} {A : Nat → Prop} {dC : Nat → ClassId} {dI : Nat → Nat → Nat} {a : Nat → Nat} {ac : Nat → ClassId} {n : Nat} {r : Int32 × (St)} (C : nd_C p l s m args c A (dC, dI) cX3_sameClock 3 RX3 ow_dm_X3_sameClock (dk_X3c ac)) (K : nd_Ki p l e (headSpec ow_dm_X3_sameClock ({ frames := 1, cells := 0, slots := 0, locals := 27 })).room s m args below meth c Q A (dC, dI) cX3_sameClock .int (St) (dw_X3c a ac) r) : dj_X3_sameClock_32 p l e s m args below meth c Q A dC dI a ac (df_X3_sameClock_32 n) r := by
  obtain ⟨hlt, hx, hb, hml, hown, hts, hN, hA, hK⟩ := id C
  intro s0 H locs ls h hP hD hS hl
  unfold df_X3_sameClock_32 at h
  refine lv_iconst (v := 0) hx hb dX3_sameClock_32 (by decide) ?_
  exact (db_X3_sameClock_33 C K) (0) s0 _ _ _ h hP hD hS (lv_sub hl [] rfl)
set_option maxHeartbeats 40000000 in
set_option maxRecDepth 100000 in
theorem db_X3_sameClock_0 {p : Program} {l : Launch} {e : Env} {s : State} {m : MethodId} {args : Array Value} {below : List Frame} {meth : Method} {c : Code} {Q : State → Prop} {A : Nat → Prop} {dC : Nat → ClassId} {dI : Nat → Nat → Nat} {a : Nat → Nat} {ac : Nat → ClassId} {n : Nat} {r : Int32 × (St)} (C : nd_C p l s m args c A (dC, dI) cX3_sameClock 3 RX3 ow_dm_X3_sameClock (dk_X3c ac)) (K : nd_Ki p l e (headSpec ow_dm_X3_sameClock ({ frames := 1, cells := 0, slots := 0, locals := 27 })).room s m args below meth c Q A (dC, dI) cX3_sameClock .int (St) (dw_X3c a ac) r) : dj_X3_sameClock_0 p l e s m args below meth c Q A dC dI a ac (df_X3_sameClock_0 n) r := by
  obtain ⟨hlt, hx, hb, hml, hown, hts, hN, hA, hK⟩ := id C
  intro v0 s0 H locs ls h hP hD hS hl
  unfold df_X3_sameClock_0 at h
  refine lv_aload_n hx hb dX3_sameClock_0 rfl (lv_at hl 0 rfl) ?_
  refine lv_iconst (v := 3) hx hb dX3_sameClock_1 (by decide) ?_
  refine lv_lconst (v := 1) hx hb dX3_sameClock_2 (by decide) ?_
  refine lv_iload_n hx hb dX3_sameClock_3 rfl (lv_at hl 1 rfl) ?_
  obtain ⟨q1, s2, hq, h⟩ := nd_b2_e h
  have hPc := hP
  have hDc := hD
  have hKc := hK
  have hFc := nd_rs hD hS hA
  refine nd_cVi (As := [.int 3, .long 1, .int v0]) (rest := []) (q := q1) (w' := dw_X3c a ac s2) ⟨hx, hb, hml, hown, hts⟩ (fun sz => dm_X3_latest l hlt dC dI a ac n (3) (1) (v0) s0 hq sz) (cwV 3 hts gi_dm_X3_sameClock_0 rfl rfl rfl (by decide +kernel) ⟨Nat.le_of_ble_eq_true rfl, Nat.le_of_ble_eq_true rfl⟩) hPc hDc hKc hS hA hN (va_recv hKc hPc (ci := 4) (q0 := 0) rfl rfl) rfl hl.1 rfl (Nat.le_of_ble_eq_true rfl) dX3_sameClock_4 (fun H locs hP1 hD1 hk1 hS => ?_)
  have hP := hP1
  have hD := hD1.weaken (fun k q _ h => hFc q.1 h)
  refine lv_istore_n (lv' := [(2, .int q1), (0, .ref (a 0)), (1, .int v0)]) hx hb dX3_sameClock_7 rfl hl (by decide) rfl (fun ls hl => ?_)
  refine lv_iload_n hx hb dX3_sameClock_8 rfl (lv_at hl 0 rfl) ?_
  refine lv_if_lt (tgt := 32) hx hb dX3_sameClock_9 (by decide) (fun c4 => ?_) (fun c4 => ?_)
  · have h := nd_pos h c4
    exact (db_X3_sameClock_32 C K)  s2 _ _ _ h hP hD hS (lv_sub hl [] rfl)
  · have h := nd_neg h c4
    refine lv_aload_n hx hb dX3_sameClock_12 rfl (lv_at hl 1 rfl) ?_
    refine va_get (D := (dC, dI)) (ci := 4) (v := .ref (a 3)) (C := RX3) (T := TX3) (N := 11) hx hb hts hi_dm_X3_sameClock_X3 hown hK hP 0 rfl rfl 2 (by decide) (hts (.fieldLink RX3 17 "TimeMachine$Events" "a" "[J") (List.mem_of_getElem? (i := 5) rfl)) (fun _ h9 => h9) rfl dX3_sameClock_13 ?_
    refine lv_iload_n hx hb dX3_sameClock_16 rfl (lv_at hl 0 rfl) ?_
    obtain ⟨i5, h⟩ := nd_ck_e h
    refine va_lald (i := q1) hx hb hK hP 3 2 rfl rfl i5 dX3_sameClock_17 ?_
    refine lv_aload_n hx hb dX3_sameClock_18 rfl (lv_at hl 1 rfl) ?_
    refine va_get (D := (dC, dI)) (ci := 4) (v := .ref (a 3)) (C := RX3) (T := TX3) (N := 11) hx hb hts hi_dm_X3_sameClock_X3 hown hK hP 0 rfl rfl 2 (by decide) (hts (.fieldLink RX3 17 "TimeMachine$Events" "a" "[J") (List.mem_of_getElem? (i := 5) rfl)) (fun _ h9 => h9) rfl dX3_sameClock_19 ?_
    refine lv_iload_n hx hb dX3_sameClock_22 rfl (lv_at hl 2 rfl) ?_
    obtain ⟨i6, h⟩ := nd_ck_e h
    refine va_lald (i := v0) hx hb hK hP 3 2 rfl rfl i6 dX3_sameClock_23 ?_
    refine W.lcmp hx hb dX3_sameClock_24 ?_
    refine lv_if_ne (tgt := 32) hx hb dX3_sameClock_25 (by decide) (fun c7 => ?_) (fun c7 => ?_)
    · have h := nd_neg h c7
      exact (db_X3_sameClock_32 C K)  s2 _ _ _ h hP hD hS (lv_sub hl [] rfl)
    · have h := nd_pos h c7
      refine lv_iconst (v := 1) hx hb dX3_sameClock_28 (by decide) ?_
      refine lv_goto (tgt := 33) hx hb dX3_sameClock_29 (by decide) ?_
      exact (db_X3_sameClock_33 C K) (1) s2 _ _ _ h hP hD hS (lv_sub hl [] rfl)
set_option maxHeartbeats 40000000 in
set_option maxRecDepth 100000 in
theorem dm_X3_sameClock (l : Launch) (hlt : l.stackTraces = false) (dC : Nat → ClassId) (dI : Nat → Nat → Nat) (a : Nat → Nat) (ac : Nat → ClassId) (n : Nat) (v0 : Int32) (s0 : St) {r : Int32 × (St)} (h : df_X3_sameClock n v0 s0 = some r) (sz : Nat) : Met l yX3_sameClock ow_dm_X3_sameClock ({ frames := 1, cells := 0, slots := 0, locals := 27 }) (va_Pc [.ref (a 0), .int v0] (fun U => U.heap.size = sz ∧ va_P (dC, dI) vwCl (dw_X3c a ac s0) U.heap ∧ va_K (dC, dI) vwCl (dk_X3c ac) U ∧ va_D (fun _ => True) (dw_X3c a ac s0) ∧ nv_E dI (va_A (dw_X3c a ac s0) sz) U)) (va_Qi (fun x _ => x = r.1) (fun (_ : Unit) t => va_P (dC, dI) vwCl (dw_X3c a ac r.2) t.heap ∧ va_K (dC, dI) vwCl (dk_X3c ac) t ∧ va_D (va_A (dw_X3c a ac s0) sz) (dw_X3c a ac r.2)) (va_A (dw_X3c a ac s0) sz)) 0 0 (va_A (dw_X3c a ac s0) sz) := by
  refine Met.ofW (cc := cX3_sameClock) (maxL := 3) (ret := (some .int)) (by decide) rfl ?_
  intro p e s m args below meth c s₁ B hml hv
  obtain ⟨rfl, hsz, hP, hK, hD0, hN⟩ := hv
  have hx := B.exec
  have hb := B.bytes
  have hr := B.returns
  have hts := atoms_spec (ws := ow_dm_X3_sameClock) B.pre
  have hown : s.vm.findClass RX3 = some m.cls := findClass_of_methodNamed B.named
  have hlocks := B.notSynchronized
  subst hsz
  have hD := hD0.self (sz := s.heap.size)
  generalize hAe : va_A (dw_X3c a ac s0) s.heap.size = A at hD hN ⊢
  have hA : ∀ q : Nat, s.heap.size ≤ q → A q := fun q h => by rw [← hAe]; exact Or.inr h
  have hl := lv_entry ([.ref (a 0), .int v0]) (n := 3) (Nat.le_of_ble_eq_true rfl)
  rw [lg_entry_eq]
  generalize (lg_sl ([.ref (a 0), .int v0]) ++ List.replicate (3 - (lg_sl ([.ref (a 0), .int v0])).length) Slot.unset).toArray = ls at hl ⊢
  have hl : lv_has ls 3 [(0, .ref (a 0)), (1, .int v0)] := hl
  exact db_X3_sameClock_0 (dC := dC) (dI := dI) (a := a) (ac := ac) (n := n) (r := r) ⟨hlt, hx, hb, hml, hown, hts, hN, hA, hK⟩ (fun pc v τ H locs ls d z er hP hD hS => by subst er; exact W.zret (v := v) hx hb hr z (fun t ht hW => ⟨⟨v, (), rfl, rfl, by rw [ht]; exact hP, va_K.moved hW.alike hK, hD⟩, hS.F ht⟩) hS.2.2 d) v0 s0 _ _ _ h hP hD va_S.rf (lv_sub hl [0, 1] rfl)
def ow_dm_X3_sameTyped : List Cond := Cond.code yX3_sameTyped cX3_sameTyped 4 (some .int) :: ([Cond.fieldLink RX3 20 "TimeMachine$Events" "b" "[I", Cond.fieldLink RX3 9 "TimeMachine$Events" "kind" "[I", Cond.methodLink RX3 62 yX3_bringsSame, Cond.instanceMethod yX3_bringsSame, Cond.selects RX3 yX3_bringsSame yX3_bringsSame, Cond.initialized RX3] ++ (u_ws RX3 TX3 11 ++ (ow_dm_X3_bringsSame ++ [])))
theorem gd_dm_X3_sameTyped : ∀ w ∈ ow_dm_X3_sameTyped, (w.onTables && w.keeps) = true ∨ ∃ ty, w = Cond.arrayClass ty := List.forall_mem_cons.mpr ⟨good_of_word rfl, List.forall_mem_append.mpr ⟨fun w h => good_of_word (List.all_eq_true.mp (by decide +kernel) w h), List.forall_mem_append.mpr ⟨gu_X3, List.forall_mem_append.mpr ⟨gd_dm_X3_bringsSame, fun _ h => nomatch h⟩⟩⟩⟩
theorem hi_dm_X3_sameTyped_X3 : ∀ w ∈ u_ws RX3 TX3 11, w ∈ ow_dm_X3_sameTyped := fun w h => List.mem_cons_of_mem _ (List.mem_append_right _ (List.mem_append_left _ h))
theorem gi_dm_X3_sameTyped_0 : GoodIn ow_dm_X3_sameTyped (wsV RX3 62 RX3 yX3_bringsSame ow_dm_X3_bringsSame) := goodIn_app (goodIn_of _ (by decide +kernel)) (fun w h => ⟨List.mem_cons_of_mem _ (List.mem_append_right _ (List.mem_append_right _ (List.mem_append_left _ h))), gd_dm_X3_bringsSame w h⟩)
def dj_X3_sameTyped_56 (p : Program) (l : Launch) (e : Env) (s : State) (m : MethodId) (args : Array Value) (below : List Frame) (meth : Method) (c : Code) (Q : State → Prop) (A : Nat → Prop) (dC : Nat → ClassId) (dI : Nat → Nat → Nat) (a : Nat → Nat) (ac : Nat → ClassId) (g : (St) → Option (Int32 × (St))) (r : Int32 × (St)) : Prop := ∀ (s0 : St) (H : Heap) (locs : List Loc) (ls : Array Slot), g s0 = some r → va_P (dC, dI) vwCl (dw_X3c a ac s0) H → va_D A (dw_X3c a ac s0) → va_S A s.heap H locs → lv_has ls 4 [] → W p l e (headSpec ow_dm_X3_sameTyped ({ frames := 1, cells := 0, slots := 0, locals := 22 })).room s m args below meth c H locs 0 0 Q (F0 m 56 ls [])
def dj_X3_sameTyped_50 (p : Program) (l : Launch) (e : Env) (s : State) (m : MethodId) (args : Array Value) (below : List Frame) (meth : Method) (c : Code) (Q : State → Prop) (A : Nat → Prop) (dC : Nat → ClassId) (dI : Nat → Nat → Nat) (a : Nat → Nat) (ac : Nat → ClassId) (g : Int32 → Int32 → Int32 → (St) → Option (Int32 × (St))) (r : Int32 × (St)) : Prop := ∀ (x1 : Int32) (x2 : Int32) (x3 : Int32) (s0 : St) (H : Heap) (locs : List Loc) (ls : Array Slot), g x1 x2 x3 s0 = some r → va_P (dC, dI) vwCl (dw_X3c a ac s0) H → va_D A (dw_X3c a ac s0) → va_S A s.heap H locs → lv_has ls 4 [(0, .ref (a 0)), (1, .int x1), (2, .int x2), (3, .int x3)] → W p l e (headSpec ow_dm_X3_sameTyped ({ frames := 1, cells := 0, slots := 0, locals := 22 })).room s m args below meth c H locs 0 0 Q (F0 m 50 ls [])
def dj_X3_sameTyped_6 (p : Program) (l : Launch) (e : Env) (s : State) (m : MethodId) (args : Array Value) (below : List Frame) (meth : Method) (c : Code) (Q : State → Prop) (A : Nat → Prop) (dC : Nat → ClassId) (dI : Nat → Nat → Nat) (a : Nat → Nat) (ac : Nat → ClassId) (g : Int32 → Int32 → Int32 → (St) → Option (Int32 × (St))) (r : Int32 × (St)) : Prop := ∀ (x1 : Int32) (x2 : Int32) (x3 : Int32) (s0 : St) (H : Heap) (locs : List Loc) (ls : Array Slot), g x1 x2 x3 s0 = some r → va_P (dC, dI) vwCl (dw_X3c a ac s0) H → va_D A (dw_X3c a ac s0) → va_S A s.heap H locs → lv_has ls 4 [(0, .ref (a 0)), (1, .int x1), (2, .int x2), (3, .int x3)] → W p l e (headSpec ow_dm_X3_sameTyped ({ frames := 1, cells := 0, slots := 0, locals := 22 })).room s m args below meth c H locs 0 0 Q (F0 m 6 ls [])
def dj_X3_sameTyped_0 (p : Program) (l : Launch) (e : Env) (s : State) (m : MethodId) (args : Array Value) (below : List Frame) (meth : Method) (c : Code) (Q : State → Prop) (A : Nat → Prop) (dC : Nat → ClassId) (dI : Nat → Nat → Nat) (a : Nat → Nat) (ac : Nat → ClassId) (g : Int32 → (St) → Option (Int32 × (St))) (r : Int32 × (St)) : Prop := ∀ (v0 : Int32) (s0 : St) (H : Heap) (locs : List Loc) (ls : Array Slot), g v0 s0 = some r → va_P (dC, dI) vwCl (dw_X3c a ac s0) H → va_D A (dw_X3c a ac s0) → va_S A s.heap H locs → lv_has ls 4 [(0, .ref (a 0)), (1, .int v0)] → W p l e (headSpec ow_dm_X3_sameTyped ({ frames := 1, cells := 0, slots := 0, locals := 22 })).room s m args below meth c H locs 0 0 Q (F0 m 0 ls [])
set_option maxHeartbeats 40000000 in
set_option maxRecDepth 100000 in
theorem db_X3_sameTyped_56 {p : Program} {l : Launch} {e : Env} {s : State} {m : MethodId} {args : Array Value} {below : List Frame} {meth : Method} {c : Code} {Q : State → Prop} {A : Nat → Prop} {dC : Nat → ClassId} {dI : Nat → Nat → Nat} {a : Nat → Nat} {ac : Nat → ClassId} {n : Nat} {r : Int32 × (St)} (C : nd_C p l s m args c A (dC, dI) cX3_sameTyped 4 RX3 ow_dm_X3_sameTyped (dk_X3c ac)) (K : nd_Ki p l e (headSpec ow_dm_X3_sameTyped ({ frames := 1, cells := 0, slots := 0, locals := 22 })).room s m args below meth c Q A (dC, dI) cX3_sameTyped .int (St) (dw_X3c a ac) r) : dj_X3_sameTyped_56 p l e s m args below meth c Q A dC dI a ac (df_X3_sameTyped_56 n) r := by
  obtain ⟨hlt, hx, hb, hml, hown, hts, hN, hA, hK⟩ := id C
  intro s0 H locs ls h hP hD hS hl
  unfold df_X3_sameTyped_56 at h
  refine lv_iconst (v := 0) hx hb dX3_sameTyped_56 (by decide) ?_
  exact K _ _ _ _ _ _ dX3_sameTyped_57 rfl (Option.some.inj h).symm hP hD hS
set_option maxHeartbeats 40000000 in
set_option maxRecDepth 100000 in
theorem db_X3_sameTyped_50 {p : Program} {l : Launch} {e : Env} {s : State} {m : MethodId} {args : Array Value} {below : List Frame} {meth : Method} {c : Code} {Q : State → Prop} {A : Nat → Prop} {dC : Nat → ClassId} {dI : Nat → Nat → Nat} {a : Nat → Nat} {ac : Nat → ClassId} {n : Nat} {r : Int32 × (St)} (C : nd_C p l s m args c A (dC, dI) cX3_sameTyped 4 RX3 ow_dm_X3_sameTyped (dk_X3c ac)) (K : nd_Ki p l e (headSpec ow_dm_X3_sameTyped ({ frames := 1, cells := 0, slots := 0, locals := 22 })).room s m args below meth c Q A (dC, dI) cX3_sameTyped .int (St) (dw_X3c a ac) r) {g6 : Int32 → Int32 → Int32 → (St) → Option (Int32 × (St))} (J6 : dj_X3_sameTyped_6 p l e s m args below meth c Q A dC dI a ac g6 r) : dj_X3_sameTyped_50 p l e s m args below meth c Q A dC dI a ac (df_X3_sameTyped_50 n g6) r := by
  obtain ⟨hlt, hx, hb, hml, hown, hts, hN, hA, hK⟩ := id C
  intro x1 x2 x3 s0 H locs ls h hP hD hS hl
  unfold df_X3_sameTyped_50 at h
  obtain ⟨z8, ez8, h⟩ := nd_let_e h
  refine lv_iinc (v := z8) (lv' := [(3, .int z8), (0, .ref (a 0)), (1, .int x1), (2, .int x2)]) hx hb dX3_sameTyped_50 hl (k := 3) rfl (by rw [ez8]) (by decide) rfl (fun ls hl => ?_)
  refine lv_goto (tgt := 6) hx hb dX3_sameTyped_53 (by decide) ?_
  exact (J6) (x1) (x2) (z8) s0 _ _ _ h hP hD hS (lv_sub hl [1, 2, 3, 0] rfl)
set_option maxHeartbeats 40000000 in
set_option maxRecDepth 100000 in
theorem dB_X3_sameTyped_6 {p : Program} {l : Launch} {e : Env} {s : State} {m : MethodId} {args : Array Value} {below : List Frame} {meth : Method} {c : Code} {Q : State → Prop} {A : Nat → Prop} {dC : Nat → ClassId} {dI : Nat → Nat → Nat} {a : Nat → Nat} {ac : Nat → ClassId} {n : Nat} {r : Int32 × (St)} (C : nd_C p l s m args c A (dC, dI) cX3_sameTyped 4 RX3 ow_dm_X3_sameTyped (dk_X3c ac)) (K : nd_Ki p l e (headSpec ow_dm_X3_sameTyped ({ frames := 1, cells := 0, slots := 0, locals := 22 })).room s m args below meth c Q A (dC, dI) cX3_sameTyped .int (St) (dw_X3c a ac) r) {g6 : Int32 → Int32 → Int32 → (St) → Option (Int32 × (St))} (J6 : dj_X3_sameTyped_6 p l e s m args below meth c Q A dC dI a ac g6 r) : dj_X3_sameTyped_6 p l e s m args below meth c Q A dC dI a ac (dF_X3_sameTyped_6 n g6) r := by
  obtain ⟨hlt, hx, hb, hml, hown, hts, hN, hA, hK⟩ := id C
  intro x1 x2 x3 s0 H locs ls h hP hD hS hl
  unfold dF_X3_sameTyped_6 at h
  refine lv_iload_n hx hb dX3_sameTyped_6 rfl (lv_at hl 3 rfl) ?_
  refine lv_if_lt (tgt := 56) hx hb dX3_sameTyped_7 (by decide) (fun c2 => ?_) (fun c2 => ?_)
  · have h := nd_pos h c2
    exact (db_X3_sameTyped_56 C K)  s0 _ _ _ h hP hD hS (lv_sub hl [] rfl)
  · have h := nd_neg h c2
    refine lv_iload_n hx hb dX3_sameTyped_10 rfl (lv_at hl 2 rfl) ?_
    refine lv_bipush (v := 20) hx hb dX3_sameTyped_11 (by decide) ?_
    refine lv_icmp_ge (tgt := 56) hx hb dX3_sameTyped_13 (by decide) (fun c3 => ?_) (fun c3 => ?_)
    · have h := nd_pos h c3
      exact (db_X3_sameTyped_56 C K)  s0 _ _ _ h hP hD hS (lv_sub hl [] rfl)
    · have h := nd_neg h c3
      refine lv_aload_n hx hb dX3_sameTyped_16 rfl (lv_at hl 0 rfl) ?_
      refine va_get (D := (dC, dI)) (ci := 4) (v := .ref (a 4)) (C := RX3) (T := TX3) (N := 11) hx hb hts hi_dm_X3_sameTyped_X3 hown hK hP 0 rfl rfl 3 (by decide) (hts (.fieldLink RX3 20 "TimeMachine$Events" "b" "[I") (List.mem_of_getElem? (i := 1) rfl)) (fun _ h9 => h9) rfl dX3_sameTyped_17 ?_
      refine lv_iload_n hx hb dX3_sameTyped_20 rfl (lv_at hl 1 rfl) ?_
      obtain ⟨i4, h⟩ := nd_ck_e h
      refine va_iald (i := x1) hx hb hK hP 4 3 rfl rfl i4 dX3_sameTyped_21 ?_
      refine lv_iconst (v := 1) hx hb dX3_sameTyped_22 (by decide) ?_
      refine lv_icmp_le (tgt := 56) hx hb dX3_sameTyped_23 (by decide) (fun c5 => ?_) (fun c5 => ?_)
      · have h := nd_pos h c5
        exact (db_X3_sameTyped_56 C K)  s0 _ _ _ h hP hD hS (lv_sub hl [] rfl)
      · have h := nd_neg h c5
        refine lv_aload_n hx hb dX3_sameTyped_26 rfl (lv_at hl 0 rfl) ?_
        refine va_get (D := (dC, dI)) (ci := 4) (v := .ref (a 1)) (C := RX3) (T := TX3) (N := 11) hx hb hts hi_dm_X3_sameTyped_X3 hown hK hP 0 rfl rfl 0 (by decide) (hts (.fieldLink RX3 9 "TimeMachine$Events" "kind" "[I") (List.mem_of_getElem? (i := 2) rfl)) (fun _ h9 => h9) rfl dX3_sameTyped_27 ?_
        refine lv_iload_n hx hb dX3_sameTyped_30 rfl (lv_at hl 3 rfl) ?_
        obtain ⟨i6, h⟩ := nd_ck_e h
        refine va_iald (i := x3) hx hb hK hP 1 0 rfl rfl i6 dX3_sameTyped_31 ?_
        refine lv_iconst (v := 1) hx hb dX3_sameTyped_32 (by decide) ?_
        refine lv_icmp_ne (tgt := 50) hx hb dX3_sameTyped_33 (by decide) (fun c7 => ?_) (fun c7 => ?_)
        · have h := nd_neg h c7
          exact (db_X3_sameTyped_50 C K J6) (x1) (x2) (x3) s0 _ _ _ h hP hD hS (lv_sub hl [0, 1, 2, 3] rfl)
        · have h := nd_pos h c7
          obtain ⟨z9, ez9, h⟩ := nd_let_e h
          refine lv_iinc (v := z9) (lv' := [(2, .int z9), (0, .ref (a 0)), (1, .int x1), (3, .int x3)]) hx hb dX3_sameTyped_36 hl (k := 2) rfl (by rw [ez9]) (by decide) rfl (fun ls hl => ?_)
          refine lv_aload_n hx hb dX3_sameTyped_39 rfl (lv_at hl 1 rfl) ?_
          refine lv_iload_n hx hb dX3_sameTyped_40 rfl (lv_at hl 2 rfl) ?_
          refine lv_iload_n hx hb dX3_sameTyped_41 rfl (lv_at hl 3 rfl) ?_
          obtain ⟨q10, s11, hq, h⟩ := nd_b2_e h
          have hPc := hP
          have hDc := hD
          have hKc := hK
          have hFc := nd_rs hD hS hA
          refine nd_cVi (As := [.int x1, .int x3]) (rest := []) (q := q10) (w' := dw_X3c a ac s11) ⟨hx, hb, hml, hown, hts⟩ (fun sz => dm_X3_bringsSame l hlt dC dI a ac n (x1) (x3) s0 hq sz) (cwV 2 hts gi_dm_X3_sameTyped_0 rfl rfl rfl (by decide +kernel) ⟨Nat.le_of_ble_eq_true rfl, Nat.le_of_ble_eq_true rfl⟩) hPc hDc hKc hS hA hN (va_recv hKc hPc (ci := 4) (q0 := 0) rfl rfl) rfl hl.1 rfl (Nat.le_of_ble_eq_true rfl) dX3_sameTyped_42 (fun H locs hP1 hD1 hk1 hS => ?_)
          have hP := hP1
          have hD := hD1.weaken (fun k q _ h => hFc q.1 h)
          refine lv_if_eq (tgt := 50) hx hb dX3_sameTyped_45 (by decide) (fun c13 => ?_) (fun c13 => ?_)
          · have h := nd_pos h c13
            exact (db_X3_sameTyped_50 C K J6) (x1) (z9) (x3) s11 _ _ _ h hP hD hS (lv_sub hl [1, 2, 0, 3] rfl)
          · have h := nd_neg h c13
            refine lv_iload_n hx hb dX3_sameTyped_48 rfl (lv_at hl 0 rfl) ?_
            exact K _ _ _ _ _ _ dX3_sameTyped_49 rfl (Option.some.inj h).symm hP hD hS
set_option maxHeartbeats 40000000 in
set_option maxRecDepth 100000 in
theorem db_X3_sameTyped_6 {p : Program} {l : Launch} {e : Env} {s : State} {m : MethodId} {args : Array Value} {below : List Frame} {meth : Method} {c : Code} {Q : State → Prop} {A : Nat → Prop} {dC : Nat → ClassId} {dI : Nat → Nat → Nat} {a : Nat → Nat} {ac : Nat → ClassId} {n : Nat} {r : Int32 × (St)} (C : nd_C p l s m args c A (dC, dI) cX3_sameTyped 4 RX3 ow_dm_X3_sameTyped (dk_X3c ac)) (K : nd_Ki p l e (headSpec ow_dm_X3_sameTyped ({ frames := 1, cells := 0, slots := 0, locals := 22 })).room s m args below meth c Q A (dC, dI) cX3_sameTyped .int (St) (dw_X3c a ac) r) (k : Nat) : dj_X3_sameTyped_6 p l e s m args below meth c Q A dC dI a ac (df_X3_sameTyped_6 n k) r := by
  induction k with
  | zero => intro x1 x2 x3 s0 H locs ls h; exact nomatch (show (none : Option (Int32 × (St))) = some r from h)
  | succ k ih => exact dB_X3_sameTyped_6 C K ih
set_option maxHeartbeats 40000000 in
set_option maxRecDepth 100000 in
theorem db_X3_sameTyped_0 {p : Program} {l : Launch} {e : Env} {s : State} {m : MethodId} {args : Array Value} {below : List Frame} {meth : Method} {c : Code} {Q : State → Prop} {A : Nat → Prop} {dC : Nat → ClassId} {dI : Nat → Nat → Nat} {a : Nat → Nat} {ac : Nat → ClassId} {n : Nat} {r : Int32 × (St)} (C : nd_C p l s m args c A (dC, dI) cX3_sameTyped 4 RX3 ow_dm_X3_sameTyped (dk_X3c ac)) (K : nd_Ki p l e (headSpec ow_dm_X3_sameTyped ({ frames := 1, cells := 0, slots := 0, locals := 22 })).room s m args below meth c Q A (dC, dI) cX3_sameTyped .int (St) (dw_X3c a ac) r) : dj_X3_sameTyped_0 p l e s m args below meth c Q A dC dI a ac (df_X3_sameTyped_0 n) r := by
  obtain ⟨hlt, hx, hb, hml, hown, hts, hN, hA, hK⟩ := id C
  intro v0 s0 H locs ls h hP hD hS hl
  unfold df_X3_sameTyped_0 at h
  refine lv_iconst (v := 0) hx hb dX3_sameTyped_0 (by decide) ?_
  refine lv_istore_n (lv' := [(2, .int 0), (0, .ref (a 0)), (1, .int v0)]) hx hb dX3_sameTyped_1 rfl hl (by decide) rfl (fun ls hl => ?_)
  refine lv_iload_n hx hb dX3_sameTyped_2 rfl (lv_at hl 2 rfl) ?_
  refine lv_iconst (v := 1) hx hb dX3_sameTyped_3 (by decide) ?_
  refine lv_isub hx hb dX3_sameTyped_4 ?_
  refine lv_topi (fun z1 ez1 => ?_)
  have h := nd_at h ez1
  refine lv_istore_n (lv' := [(3, .int z1), (2, .int 0), (0, .ref (a 0)), (1, .int v0)]) hx hb dX3_sameTyped_5 rfl hl (by decide) rfl (fun ls hl => ?_)
  exact (db_X3_sameTyped_6 C K n) (v0) (0) (z1) s0 _ _ _ h hP hD hS (lv_sub hl [2, 3, 1, 0] rfl)
set_option maxHeartbeats 40000000 in
set_option maxRecDepth 100000 in
theorem dm_X3_sameTyped (l : Launch) (hlt : l.stackTraces = false) (dC : Nat → ClassId) (dI : Nat → Nat → Nat) (a : Nat → Nat) (ac : Nat → ClassId) (n : Nat) (v0 : Int32) (s0 : St) {r : Int32 × (St)} (h : df_X3_sameTyped n v0 s0 = some r) (sz : Nat) : Met l yX3_sameTyped ow_dm_X3_sameTyped ({ frames := 1, cells := 0, slots := 0, locals := 22 }) (va_Pc [.ref (a 0), .int v0] (fun U => U.heap.size = sz ∧ va_P (dC, dI) vwCl (dw_X3c a ac s0) U.heap ∧ va_K (dC, dI) vwCl (dk_X3c ac) U ∧ va_D (fun _ => True) (dw_X3c a ac s0) ∧ nv_E dI (va_A (dw_X3c a ac s0) sz) U)) (va_Qi (fun x _ => x = r.1) (fun (_ : Unit) t => va_P (dC, dI) vwCl (dw_X3c a ac r.2) t.heap ∧ va_K (dC, dI) vwCl (dk_X3c ac) t ∧ va_D (va_A (dw_X3c a ac s0) sz) (dw_X3c a ac r.2)) (va_A (dw_X3c a ac s0) sz)) 0 0 (va_A (dw_X3c a ac s0) sz) := by
  refine Met.ofW (cc := cX3_sameTyped) (maxL := 4) (ret := (some .int)) (by decide) rfl ?_
  intro p e s m args below meth c s₁ B hml hv
  obtain ⟨rfl, hsz, hP, hK, hD0, hN⟩ := hv
  have hx := B.exec
  have hb := B.bytes
  have hr := B.returns
  have hts := atoms_spec (ws := ow_dm_X3_sameTyped) B.pre
  have hown : s.vm.findClass RX3 = some m.cls := findClass_of_methodNamed B.named
  have hlocks := B.notSynchronized
  subst hsz
  have hD := hD0.self (sz := s.heap.size)
  generalize hAe : va_A (dw_X3c a ac s0) s.heap.size = A at hD hN ⊢
  have hA : ∀ q : Nat, s.heap.size ≤ q → A q := fun q h => by rw [← hAe]; exact Or.inr h
  have hl := lv_entry ([.ref (a 0), .int v0]) (n := 4) (Nat.le_of_ble_eq_true rfl)
  rw [lg_entry_eq]
  generalize (lg_sl ([.ref (a 0), .int v0]) ++ List.replicate (4 - (lg_sl ([.ref (a 0), .int v0])).length) Slot.unset).toArray = ls at hl ⊢
  have hl : lv_has ls 4 [(0, .ref (a 0)), (1, .int v0)] := hl
  exact db_X3_sameTyped_0 (dC := dC) (dI := dI) (a := a) (ac := ac) (n := n) (r := r) ⟨hlt, hx, hb, hml, hown, hts, hN, hA, hK⟩ (fun pc v τ H locs ls d z er hP hD hS => by subst er; exact W.zret (v := v) hx hb hr z (fun t ht hW => ⟨⟨v, (), rfl, rfl, by rw [ht]; exact hP, va_K.moved hW.alike hK, hD⟩, hS.F ht⟩) hS.2.2 d) v0 s0 _ _ _ h hP hD va_S.rf (lv_sub hl [0, 1] rfl)
def ow_dm_X3_putEntry : List Cond := Cond.code yX3_putEntry cX3_putEntry 5 none :: ([Cond.methodLink RX3 66 yX3_difference, Cond.instanceMethod yX3_difference, Cond.selects RX3 yX3_difference yX3_difference, Cond.initialized RX3, Cond.fieldLink RX3 9 "TimeMachine$Events" "kind" "[I", Cond.fieldLink RX3 17 "TimeMachine$Events" "a" "[J", Cond.methodLink RX3 59 yX3_putByte, Cond.instanceMethod yX3_putByte, Cond.selects RX3 yX3_putByte yX3_putByte, Cond.methodLink RX3 76 yX3_putBytes, Cond.instanceMethod yX3_putBytes, Cond.selects RX3 yX3_putBytes yX3_putBytes, Cond.methodLink RX3 47 yX3_putVarint, Cond.instanceMethod yX3_putVarint, Cond.selects RX3 yX3_putVarint yX3_putVarint, Cond.fieldLink RX3 20 "TimeMachine$Events" "b" "[I", Cond.methodLink RX3 73 yX3_sameClock, Cond.instanceMethod yX3_sameClock, Cond.selects RX3 yX3_sameClock yX3_sameClock, Cond.methodLink RX3 70 yX3_sameTyped, Cond.instanceMethod yX3_sameTyped, Cond.selects RX3 yX3_sameTyped yX3_sameTyped] ++ (u_ws RX3 TX3 11 ++ (ow_dm_X3_difference ++ (ow_dm_X3_putByte ++ (ow_dm_X3_putBytes ++ (ow_dm_X3_putVarint ++ (ow_dm_X3_sameClock ++ (ow_dm_X3_sameTyped ++ []))))))))
theorem gd_dm_X3_putEntry : ∀ w ∈ ow_dm_X3_putEntry, (w.onTables && w.keeps) = true ∨ ∃ ty, w = Cond.arrayClass ty := List.forall_mem_cons.mpr ⟨good_of_word rfl, List.forall_mem_append.mpr ⟨fun w h => good_of_word (List.all_eq_true.mp (by decide +kernel) w h), List.forall_mem_append.mpr ⟨gu_X3, List.forall_mem_append.mpr ⟨gd_dm_X3_difference, List.forall_mem_append.mpr ⟨gd_dm_X3_putByte, List.forall_mem_append.mpr ⟨gd_dm_X3_putBytes, List.forall_mem_append.mpr ⟨gd_dm_X3_putVarint, List.forall_mem_append.mpr ⟨gd_dm_X3_sameClock, List.forall_mem_append.mpr ⟨gd_dm_X3_sameTyped, fun _ h => nomatch h⟩⟩⟩⟩⟩⟩⟩⟩⟩
theorem hi_dm_X3_putEntry_X3 : ∀ w ∈ u_ws RX3 TX3 11, w ∈ ow_dm_X3_putEntry := fun w h => List.mem_cons_of_mem _ (List.mem_append_right _ (List.mem_append_left _ h))
theorem gi_dm_X3_putEntry_0 : GoodIn ow_dm_X3_putEntry (wsV RX3 66 RX3 yX3_difference ow_dm_X3_difference) := goodIn_app (goodIn_of _ (by decide +kernel)) (fun w h => ⟨List.mem_cons_of_mem _ (List.mem_append_right _ (List.mem_append_right _ (List.mem_append_left _ h))), gd_dm_X3_difference w h⟩)
theorem gi_dm_X3_putEntry_1 : GoodIn ow_dm_X3_putEntry (wsV RX3 59 RX3 yX3_putByte ow_dm_X3_putByte) := goodIn_app (goodIn_of _ (by decide +kernel)) (fun w h => ⟨List.mem_cons_of_mem _ (List.mem_append_right _ (List.mem_append_right _ (List.mem_append_right _ (List.mem_append_left _ h)))), gd_dm_X3_putByte w h⟩)
theorem gi_dm_X3_putEntry_2 : GoodIn ow_dm_X3_putEntry (wsV RX3 76 RX3 yX3_putBytes ow_dm_X3_putBytes) := goodIn_app (goodIn_of _ (by decide +kernel)) (fun w h => ⟨List.mem_cons_of_mem _ (List.mem_append_right _ (List.mem_append_right _ (List.mem_append_right _ (List.mem_append_right _ (List.mem_append_left _ h))))), gd_dm_X3_putBytes w h⟩)
theorem gi_dm_X3_putEntry_3 : GoodIn ow_dm_X3_putEntry (wsV RX3 47 RX3 yX3_putVarint ow_dm_X3_putVarint) := goodIn_app (goodIn_of _ (by decide +kernel)) (fun w h => ⟨List.mem_cons_of_mem _ (List.mem_append_right _ (List.mem_append_right _ (List.mem_append_right _ (List.mem_append_right _ (List.mem_append_right _ (List.mem_append_left _ h)))))), gd_dm_X3_putVarint w h⟩)
theorem gi_dm_X3_putEntry_4 : GoodIn ow_dm_X3_putEntry (wsV RX3 73 RX3 yX3_sameClock ow_dm_X3_sameClock) := goodIn_app (goodIn_of _ (by decide +kernel)) (fun w h => ⟨List.mem_cons_of_mem _ (List.mem_append_right _ (List.mem_append_right _ (List.mem_append_right _ (List.mem_append_right _ (List.mem_append_right _ (List.mem_append_right _ (List.mem_append_left _ h))))))), gd_dm_X3_sameClock w h⟩)
theorem gi_dm_X3_putEntry_5 : GoodIn ow_dm_X3_putEntry (wsV RX3 70 RX3 yX3_sameTyped ow_dm_X3_sameTyped) := goodIn_app (goodIn_of _ (by decide +kernel)) (fun w h => ⟨List.mem_cons_of_mem _ (List.mem_append_right _ (List.mem_append_right _ (List.mem_append_right _ (List.mem_append_right _ (List.mem_append_right _ (List.mem_append_right _ (List.mem_append_right _ (List.mem_append_left _ h)))))))), gd_dm_X3_sameTyped w h⟩)
def dj_X3_putEntry_306 (p : Program) (l : Launch) (e : Env) (s : State) (m : MethodId) (args : Array Value) (below : List Frame) (meth : Method) (c : Code) (Q : State → Prop) (A : Nat → Prop) (dC : Nat → ClassId) (dI : Nat → Nat → Nat) (a : Nat → Nat) (ac : Nat → ClassId) (g : (St × (St)) → Option (St × (St))) (r : St × (St)) : Prop := ∀ (s0 : St × (St)) (H : Heap) (locs : List Loc) (ls : Array Slot), g s0 = some r → va_P (dC, dI) vwCl (dw_X3s a ac s0) H → va_D A (dw_X3s a ac s0) → va_S A s.heap H locs → lv_has ls 5 [] → W p l e (headSpec ow_dm_X3_putEntry ({ frames := 2, cells := 0, slots := 0, locals := 49 })).room s m args below meth c H locs 0 0 Q (F0 m 306 ls [])
def dj_X3_putEntry_285 (p : Program) (l : Launch) (e : Env) (s : State) (m : MethodId) (args : Array Value) (below : List Frame) (meth : Method) (c : Code) (Q : State → Prop) (A : Nat → Prop) (dC : Nat → ClassId) (dI : Nat → Nat → Nat) (a : Nat → Nat) (ac : Nat → ClassId) (g : Int32 → (St × (St)) → Option (St × (St))) (r : St × (St)) : Prop := ∀ (x1 : Int32) (s0 : St × (St)) (H : Heap) (locs : List Loc) (ls : Array Slot), g x1 s0 = some r → va_P (dC, dI) vwCl (dw_X3s a ac s0) H → va_D A (dw_X3s a ac s0) → va_S A s.heap H locs → lv_has ls 5 [(0, .ref (a 1)), (1, .int x1)] → W p l e (headSpec ow_dm_X3_putEntry ({ frames := 2, cells := 0, slots := 0, locals := 49 })).room s m args below meth c H locs 0 0 Q (F0 m 285 ls [])
def dj_X3_putEntry_206 (p : Program) (l : Launch) (e : Env) (s : State) (m : MethodId) (args : Array Value) (below : List Frame) (meth : Method) (c : Code) (Q : State → Prop) (A : Nat → Prop) (dC : Nat → ClassId) (dI : Nat → Nat → Nat) (a : Nat → Nat) (ac : Nat → ClassId) (g : Int32 → Int32 → (St × (St)) → Option (St × (St))) (r : St × (St)) : Prop := ∀ (x1 : Int32) (x3 : Int32) (s0 : St × (St)) (H : Heap) (locs : List Loc) (ls : Array Slot), g x1 x3 s0 = some r → va_P (dC, dI) vwCl (dw_X3s a ac s0) H → va_D A (dw_X3s a ac s0) → va_S A s.heap H locs → lv_has ls 5 [(0, .ref (a 1)), (1, .int x1), (3, .int x3)] → W p l e (headSpec ow_dm_X3_putEntry ({ frames := 2, cells := 0, slots := 0, locals := 49 })).room s m args below meth c H locs 0 0 Q (F0 m 206 ls [])
def dj_X3_putEntry_183 (p : Program) (l : Launch) (e : Env) (s : State) (m : MethodId) (args : Array Value) (below : List Frame) (meth : Method) (c : Code) (Q : State → Prop) (A : Nat → Prop) (dC : Nat → ClassId) (dI : Nat → Nat → Nat) (a : Nat → Nat) (ac : Nat → ClassId) (g : Int32 → Int32 → (St × (St)) → Option (St × (St))) (r : St × (St)) : Prop := ∀ (x1 : Int32) (x3 : Int32) (s0 : St × (St)) (H : Heap) (locs : List Loc) (ls : Array Slot), g x1 x3 s0 = some r → va_P (dC, dI) vwCl (dw_X3s a ac s0) H → va_D A (dw_X3s a ac s0) → va_S A s.heap H locs → lv_has ls 5 [(0, .ref (a 1)), (1, .int x1), (3, .int x3)] → W p l e (headSpec ow_dm_X3_putEntry ({ frames := 2, cells := 0, slots := 0, locals := 49 })).room s m args below meth c H locs 0 0 Q (F0 m 183 ls [])
def dj_X3_putEntry_161 (p : Program) (l : Launch) (e : Env) (s : State) (m : MethodId) (args : Array Value) (below : List Frame) (meth : Method) (c : Code) (Q : State → Prop) (A : Nat → Prop) (dC : Nat → ClassId) (dI : Nat → Nat → Nat) (a : Nat → Nat) (ac : Nat → ClassId) (g : Int32 → Int32 → Int32 → Int32 → Int32 → Int32 → (St × (St)) → Option (St × (St))) (r : St × (St)) : Prop := ∀ (x1 : Int32) (x2 : Int32) (x3 : Int32) (x4 : Int32) (y1 : Int32) (y2 : Int32) (s0 : St × (St)) (H : Heap) (locs : List Loc) (ls : Array Slot), g x1 x2 x3 x4 y1 y2 s0 = some r → va_P (dC, dI) vwCl (dw_X3s a ac s0) H → va_D A (dw_X3s a ac s0) → va_S A s.heap H locs → lv_has ls 5 [(0, .ref (a 1)), (1, .int x1), (2, .int x2), (3, .int x3), (4, .int x4)] → W p l e (headSpec ow_dm_X3_putEntry ({ frames := 2, cells := 0, slots := 0, locals := 49 })).room s m args below meth c H locs 0 0 Q (F0 m 161 ls [.int y2, .int y1, .ref (a 1)])
def dj_X3_putEntry_144 (p : Program) (l : Launch) (e : Env) (s : State) (m : MethodId) (args : Array Value) (below : List Frame) (meth : Method) (c : Code) (Q : State → Prop) (A : Nat → Prop) (dC : Nat → ClassId) (dI : Nat → Nat → Nat) (a : Nat → Nat) (ac : Nat → ClassId) (g : Int32 → Int32 → Int32 → Int32 → (St × (St)) → Option (St × (St))) (r : St × (St)) : Prop := ∀ (x1 : Int32) (x2 : Int32) (x3 : Int32) (x4 : Int32) (s0 : St × (St)) (H : Heap) (locs : List Loc) (ls : Array Slot), g x1 x2 x3 x4 s0 = some r → va_P (dC, dI) vwCl (dw_X3s a ac s0) H → va_D A (dw_X3s a ac s0) → va_S A s.heap H locs → lv_has ls 5 [(0, .ref (a 1)), (1, .int x1), (2, .int x2), (3, .int x3), (4, .int x4)] → W p l e (headSpec ow_dm_X3_putEntry ({ frames := 2, cells := 0, slots := 0, locals := 49 })).room s m args below meth c H locs 0 0 Q (F0 m 144 ls [])
def dj_X3_putEntry_90 (p : Program) (l : Launch) (e : Env) (s : State) (m : MethodId) (args : Array Value) (below : List Frame) (meth : Method) (c : Code) (Q : State → Prop) (A : Nat → Prop) (dC : Nat → ClassId) (dI : Nat → Nat → Nat) (a : Nat → Nat) (ac : Nat → ClassId) (g : Int32 → Int32 → Int32 → (St × (St)) → Option (St × (St))) (r : St × (St)) : Prop := ∀ (x1 : Int32) (x2 : Int32) (x3 : Int32) (s0 : St × (St)) (H : Heap) (locs : List Loc) (ls : Array Slot), g x1 x2 x3 s0 = some r → va_P (dC, dI) vwCl (dw_X3s a ac s0) H → va_D A (dw_X3s a ac s0) → va_S A s.heap H locs → lv_has ls 5 [(0, .ref (a 1)), (1, .int x1), (2, .int x2), (3, .int x3)] → W p l e (headSpec ow_dm_X3_putEntry ({ frames := 2, cells := 0, slots := 0, locals := 49 })).room s m args below meth c H locs 0 0 Q (F0 m 90 ls [])
def dj_X3_putEntry_126 (p : Program) (l : Launch) (e : Env) (s : State) (m : MethodId) (args : Array Value) (below : List Frame) (meth : Method) (c : Code) (Q : State → Prop) (A : Nat → Prop) (dC : Nat → ClassId) (dI : Nat → Nat → Nat) (a : Nat → Nat) (ac : Nat → ClassId) (g : Int32 → Int32 → Int32 → Int32 → (St × (St)) → Option (St × (St))) (r : St × (St)) : Prop := ∀ (x1 : Int32) (x2 : Int32) (x3 : Int32) (y0 : Int32) (s0 : St × (St)) (H : Heap) (locs : List Loc) (ls : Array Slot), g x1 x2 x3 y0 s0 = some r → va_P (dC, dI) vwCl (dw_X3s a ac s0) H → va_D A (dw_X3s a ac s0) → va_S A s.heap H locs → lv_has ls 5 [(0, .ref (a 1)), (1, .int x1), (2, .int x2), (3, .int x3)] → W p l e (headSpec ow_dm_X3_putEntry ({ frames := 2, cells := 0, slots := 0, locals := 49 })).room s m args below meth c H locs 0 0 Q (F0 m 126 ls [.int y0])
def dj_X3_putEntry_67 (p : Program) (l : Launch) (e : Env) (s : State) (m : MethodId) (args : Array Value) (below : List Frame) (meth : Method) (c : Code) (Q : State → Prop) (A : Nat → Prop) (dC : Nat → ClassId) (dI : Nat → Nat → Nat) (a : Nat → Nat) (ac : Nat → ClassId) (g : Int32 → Int32 → Int32 → (St × (St)) → Option (St × (St))) (r : St × (St)) : Prop := ∀ (x1 : Int32) (x2 : Int32) (y0 : Int32) (s0 : St × (St)) (H : Heap) (locs : List Loc) (ls : Array Slot), g x1 x2 y0 s0 = some r → va_P (dC, dI) vwCl (dw_X3s a ac s0) H → va_D A (dw_X3s a ac s0) → va_S A s.heap H locs → lv_has ls 5 [(0, .ref (a 1)), (1, .int x1), (2, .int x2)] → W p l e (headSpec ow_dm_X3_putEntry ({ frames := 2, cells := 0, slots := 0, locals := 49 })).room s m args below meth c H locs 0 0 Q (F0 m 67 ls [.int y0])
def dj_X3_putEntry_29 (p : Program) (l : Launch) (e : Env) (s : State) (m : MethodId) (args : Array Value) (below : List Frame) (meth : Method) (c : Code) (Q : State → Prop) (A : Nat → Prop) (dC : Nat → ClassId) (dI : Nat → Nat → Nat) (a : Nat → Nat) (ac : Nat → ClassId) (g : Int32 → Int32 → (St × (St)) → Option (St × (St))) (r : St × (St)) : Prop := ∀ (x1 : Int32) (y0 : Int32) (s0 : St × (St)) (H : Heap) (locs : List Loc) (ls : Array Slot), g x1 y0 s0 = some r → va_P (dC, dI) vwCl (dw_X3s a ac s0) H → va_D A (dw_X3s a ac s0) → va_S A s.heap H locs → lv_has ls 5 [(0, .ref (a 1)), (1, .int x1)] → W p l e (headSpec ow_dm_X3_putEntry ({ frames := 2, cells := 0, slots := 0, locals := 49 })).room s m args below meth c H locs 0 0 Q (F0 m 29 ls [.int y0])
def dj_X3_putEntry_20 (p : Program) (l : Launch) (e : Env) (s : State) (m : MethodId) (args : Array Value) (below : List Frame) (meth : Method) (c : Code) (Q : State → Prop) (A : Nat → Prop) (dC : Nat → ClassId) (dI : Nat → Nat → Nat) (a : Nat → Nat) (ac : Nat → ClassId) (g : Int32 → Int64 → Int64 → (St × (St)) → Option (St × (St))) (r : St × (St)) : Prop := ∀ (x1 : Int32) (y0 : Int64) (y1 : Int64) (s0 : St × (St)) (H : Heap) (locs : List Loc) (ls : Array Slot), g x1 y0 y1 s0 = some r → va_P (dC, dI) vwCl (dw_X3s a ac s0) H → va_D A (dw_X3s a ac s0) → va_S A s.heap H locs → lv_has ls 5 [(0, .ref (a 1)), (1, .int x1)] → W p l e (headSpec ow_dm_X3_putEntry ({ frames := 2, cells := 0, slots := 0, locals := 49 })).room s m args below meth c H locs 0 0 Q (F0 m 20 ls [.long y1, .long y0])
def dj_X3_putEntry_0 (p : Program) (l : Launch) (e : Env) (s : State) (m : MethodId) (args : Array Value) (below : List Frame) (meth : Method) (c : Code) (Q : State → Prop) (A : Nat → Prop) (dC : Nat → ClassId) (dI : Nat → Nat → Nat) (a : Nat → Nat) (ac : Nat → ClassId) (g : Int32 → (St × (St)) → Option (St × (St))) (r : St × (St)) : Prop := ∀ (v0 : Int32) (s0 : St × (St)) (H : Heap) (locs : List Loc) (ls : Array Slot), g v0 s0 = some r → va_P (dC, dI) vwCl (dw_X3s a ac s0) H → va_D A (dw_X3s a ac s0) → va_S A s.heap H locs → lv_has ls 5 [(0, .ref (a 1)), (1, .int v0)] → W p l e (headSpec ow_dm_X3_putEntry ({ frames := 2, cells := 0, slots := 0, locals := 49 })).room s m args below meth c H locs 0 0 Q (F0 m 0 ls [])
set_option maxHeartbeats 40000000 in
set_option maxRecDepth 100000 in
theorem db_X3_putEntry_306 {p : Program} {l : Launch} {e : Env} {s : State} {m : MethodId} {args : Array Value} {below : List Frame} {meth : Method} {c : Code} {Q : State → Prop} {A : Nat → Prop} {dC : Nat → ClassId} {dI : Nat → Nat → Nat} {a : Nat → Nat} {ac : Nat → ClassId} {n : Nat} {r : St × (St)} (C : nd_C p l s m args c A (dC, dI) cX3_putEntry 5 RX3 ow_dm_X3_putEntry (dk_X3s ac)) (K : nd_Kv p l e (headSpec ow_dm_X3_putEntry ({ frames := 2, cells := 0, slots := 0, locals := 49 })).room s m args below meth c Q A (dC, dI) cX3_putEntry (St × (St)) (dw_X3s a ac) r) : dj_X3_putEntry_306 p l e s m args below meth c Q A dC dI a ac (df_X3_putEntry_306 n (a 0)) r := by
  obtain ⟨hlt, hx, hb, hml, hown, hts, hN, hA, hK⟩ := id C
  intro s0 H locs ls h hP hD hS hl
  unfold df_X3_putEntry_306 at h
  exact K _ _ _ _ _ dX3_putEntry_306 (Option.some.inj h).symm hP hD hS
set_option maxHeartbeats 40000000 in
set_option maxRecDepth 100000 in
theorem db_X3_putEntry_285 {p : Program} {l : Launch} {e : Env} {s : State} {m : MethodId} {args : Array Value} {below : List Frame} {meth : Method} {c : Code} {Q : State → Prop} {A : Nat → Prop} {dC : Nat → ClassId} {dI : Nat → Nat → Nat} {a : Nat → Nat} {ac : Nat → ClassId} {n : Nat} {r : St × (St)} (C : nd_C p l s m args c A (dC, dI) cX3_putEntry 5 RX3 ow_dm_X3_putEntry (dk_X3s ac)) (K : nd_Kv p l e (headSpec ow_dm_X3_putEntry ({ frames := 2, cells := 0, slots := 0, locals := 49 })).room s m args below meth c Q A (dC, dI) cX3_putEntry (St × (St)) (dw_X3s a ac) r) : dj_X3_putEntry_285 p l e s m args below meth c Q A dC dI a ac (df_X3_putEntry_285 n (a 0)) r := by
  obtain ⟨hlt, hx, hb, hml, hown, hts, hN, hA, hK⟩ := id C
  intro x1 s0 H locs ls h hP hD hS hl
  unfold df_X3_putEntry_285 at h
  refine lv_aload_n hx hb dX3_putEntry_285 rfl (lv_at hl 0 rfl) ?_
  refine va_get (D := (dC, dI)) (ci := 4) (v := .ref (a 2)) (C := RX3) (T := TX3) (N := 11) hx hb hts hi_dm_X3_putEntry_X3 hown hK hP 1 rfl rfl 0 (by decide) (hts (.fieldLink RX3 9 "TimeMachine$Events" "kind" "[I") (List.mem_of_getElem? (i := 5) rfl)) (fun _ h9 => h9) rfl dX3_putEntry_286 ?_
  refine lv_iload_n hx hb dX3_putEntry_289 rfl (lv_at hl 1 rfl) ?_
  obtain ⟨i33, h⟩ := nd_ck_e h
  refine va_iald (i := x1) hx hb hK hP 2 1 rfl rfl i33 dX3_putEntry_290 ?_
  refine lv_iconst (v := 4) hx hb dX3_putEntry_291 (by decide) ?_
  refine lv_icmp_ne (tgt := 306) hx hb dX3_putEntry_292 (by decide) (fun c34 => ?_) (fun c34 => ?_)
  · have h := nd_neg h c34
    exact (db_X3_putEntry_306 C K)  s0 _ _ _ h hP hD hS (lv_sub hl [] rfl)
  · have h := nd_pos h c34
    refine lv_aload_n hx hb dX3_putEntry_295 rfl (lv_at hl 0 rfl) ?_
    refine lv_aload_n hx hb dX3_putEntry_296 rfl (lv_at hl 0 rfl) ?_
    refine va_get (D := (dC, dI)) (ci := 4) (v := .ref (a 4)) (C := RX3) (T := TX3) (N := 11) hx hb hts hi_dm_X3_putEntry_X3 hown hK hP 1 rfl rfl 2 (by decide) (hts (.fieldLink RX3 17 "TimeMachine$Events" "a" "[J") (List.mem_of_getElem? (i := 6) rfl)) (fun _ h9 => h9) rfl dX3_putEntry_297 ?_
    refine lv_iload_n hx hb dX3_putEntry_300 rfl (lv_at hl 1 rfl) ?_
    obtain ⟨i35, h⟩ := nd_ck_e h
    refine va_lald (i := x1) hx hb hK hP 4 3 rfl rfl i35 dX3_putEntry_301 ?_
    refine lv_iconst (v := 4) hx hb dX3_putEntry_302 (by decide) ?_
    obtain ⟨s37, hq, h⟩ := nd_b1_e h
    have hPc := hP
    have hDc := hD
    have hKc := hK
    have hFc := nd_rs hD hS hA
    refine nd_cVv (As := [.long (sQ s0.2 1 (Int32.toNatClampNeg x1)), .int 4]) (rest := []) (w' := dw_X3s a ac s37) ⟨hx, hb, hml, hown, hts⟩ (fun sz => dm_X3_putBytes l hlt dC dI a ac n ((sQ s0.2 1 (Int32.toNatClampNeg x1))) (4) s0 hq sz) (cwV 2 hts gi_dm_X3_putEntry_2 rfl rfl rfl (by decide +kernel) ⟨Nat.le_of_ble_eq_true rfl, Nat.le_of_ble_eq_true rfl⟩) hPc hDc hKc hS hA hN (va_recv hKc hPc (ci := 4) (q0 := 1) rfl rfl) rfl hl.1 rfl (Nat.le_of_ble_eq_true rfl) dX3_putEntry_303 (fun H locs hP1 hD1 hk1 hS => ?_)
    have hP := hP1
    have hD := hD1.weaken (fun k q _ h => hFc q.1 h)
    exact (db_X3_putEntry_306 C K)  s37 _ _ _ h hP hD hS (lv_sub hl [] rfl)
set_option maxHeartbeats 40000000 in
set_option maxRecDepth 100000 in
theorem db_X3_putEntry_206 {p : Program} {l : Launch} {e : Env} {s : State} {m : MethodId} {args : Array Value} {below : List Frame} {meth : Method} {c : Code} {Q : State → Prop} {A : Nat → Prop} {dC : Nat → ClassId} {dI : Nat → Nat → Nat} {a : Nat → Nat} {ac : Nat → ClassId} {n : Nat} {r : St × (St)} (C : nd_C p l s m args c A (dC, dI) cX3_putEntry 5 RX3 ow_dm_X3_putEntry (dk_X3s ac)) (K : nd_Kv p l e (headSpec ow_dm_X3_putEntry ({ frames := 2, cells := 0, slots := 0, locals := 49 })).room s m args below meth c Q A (dC, dI) cX3_putEntry (St × (St)) (dw_X3s a ac) r) : dj_X3_putEntry_206 p l e s m args below meth c Q A dC dI a ac (df_X3_putEntry_206 n (a 0)) r := by
  obtain ⟨hlt, hx, hb, hml, hown, hts, hN, hA, hK⟩ := id C
  intro x1 x3 s0 H locs ls h hP hD hS hl
  unfold df_X3_putEntry_206 at h
  refine lv_aload_n hx hb dX3_putEntry_206 rfl (lv_at hl 0 rfl) ?_
  refine va_get (D := (dC, dI)) (ci := 4) (v := .ref (a 2)) (C := RX3) (T := TX3) (N := 11) hx hb hts hi_dm_X3_putEntry_X3 hown hK hP 1 rfl rfl 0 (by decide) (hts (.fieldLink RX3 9 "TimeMachine$Events" "kind" "[I") (List.mem_of_getElem? (i := 5) rfl)) (fun _ h9 => h9) rfl dX3_putEntry_207 ?_
  refine lv_iload_n hx hb dX3_putEntry_210 rfl (lv_at hl 1 rfl) ?_
  obtain ⟨i27, h⟩ := nd_ck_e h
  refine va_iald (i := x1) hx hb hK hP 2 1 rfl rfl i27 dX3_putEntry_211 ?_
  refine lv_iconst (v := 1) hx hb dX3_putEntry_212 (by decide) ?_
  refine lv_icmp_ne (tgt := 235) hx hb dX3_putEntry_213 (by decide) (fun c28 => ?_) (fun c28 => ?_)
  · have h := nd_neg h c28
    refine lv_aload_n hx hb dX3_putEntry_235 rfl (lv_at hl 0 rfl) ?_
    refine va_get (D := (dC, dI)) (ci := 4) (v := .ref (a 2)) (C := RX3) (T := TX3) (N := 11) hx hb hts hi_dm_X3_putEntry_X3 hown hK hP 1 rfl rfl 0 (by decide) (hts (.fieldLink RX3 9 "TimeMachine$Events" "kind" "[I") (List.mem_of_getElem? (i := 5) rfl)) (fun _ h9 => h9) rfl dX3_putEntry_236 ?_
    refine lv_iload_n hx hb dX3_putEntry_239 rfl (lv_at hl 1 rfl) ?_
    obtain ⟨i29, h⟩ := nd_ck_e h
    refine va_iald (i := x1) hx hb hK hP 2 1 rfl rfl i29 dX3_putEntry_240 ?_
    refine lv_iconst (v := 2) hx hb dX3_putEntry_241 (by decide) ?_
    refine lv_icmp_ne (tgt := 258) hx hb dX3_putEntry_242 (by decide) (fun c30 => ?_) (fun c30 => ?_)
    · have h := nd_neg h c30
      refine lv_aload_n hx hb dX3_putEntry_258 rfl (lv_at hl 0 rfl) ?_
      refine va_get (D := (dC, dI)) (ci := 4) (v := .ref (a 2)) (C := RX3) (T := TX3) (N := 11) hx hb hts hi_dm_X3_putEntry_X3 hown hK hP 1 rfl rfl 0 (by decide) (hts (.fieldLink RX3 9 "TimeMachine$Events" "kind" "[I") (List.mem_of_getElem? (i := 5) rfl)) (fun _ h9 => h9) rfl dX3_putEntry_259 ?_
      refine lv_iload_n hx hb dX3_putEntry_262 rfl (lv_at hl 1 rfl) ?_
      obtain ⟨i31, h⟩ := nd_ck_e h
      refine va_iald (i := x1) hx hb hK hP 2 1 rfl rfl i31 dX3_putEntry_263 ?_
      refine lv_iconst (v := 3) hx hb dX3_putEntry_264 (by decide) ?_
      refine lv_icmp_ne (tgt := 285) hx hb dX3_putEntry_265 (by decide) (fun c32 => ?_) (fun c32 => ?_)
      · have h := nd_neg h c32
        exact (db_X3_putEntry_285 C K) (x1) s0 _ _ _ h hP hD hS (lv_sub hl [0, 1] rfl)
      · have h := nd_pos h c32
        refine lv_iload_n hx hb dX3_putEntry_268 rfl (lv_at hl 2 rfl) ?_
        refine lv_if_ne (tgt := 285) hx hb dX3_putEntry_269 (by decide) (fun c39 => ?_) (fun c39 => ?_)
        · have h := nd_neg h c39
          exact (db_X3_putEntry_285 C K) (x1) s0 _ _ _ h hP hD hS (lv_sub hl [0, 1] rfl)
        · have h := nd_pos h c39
          refine lv_aload_n hx hb dX3_putEntry_272 rfl (lv_at hl 0 rfl) ?_
          refine lv_aload_n hx hb dX3_putEntry_273 rfl (lv_at hl 0 rfl) ?_
          refine va_get (D := (dC, dI)) (ci := 4) (v := .ref (a 4)) (C := RX3) (T := TX3) (N := 11) hx hb hts hi_dm_X3_putEntry_X3 hown hK hP 1 rfl rfl 2 (by decide) (hts (.fieldLink RX3 17 "TimeMachine$Events" "a" "[J") (List.mem_of_getElem? (i := 6) rfl)) (fun _ h9 => h9) rfl dX3_putEntry_274 ?_
          refine lv_iload_n hx hb dX3_putEntry_277 rfl (lv_at hl 1 rfl) ?_
          obtain ⟨i40, h⟩ := nd_ck_e h
          refine va_lald (i := x1) hx hb hK hP 4 3 rfl rfl i40 dX3_putEntry_278 ?_
          obtain ⟨s42, hq, h⟩ := nd_b1_e h
          have hPc := hP
          have hDc := hD
          have hKc := hK
          have hFc := nd_rs hD hS hA
          refine nd_cVv (As := [.long (sQ s0.2 1 (Int32.toNatClampNeg x1))]) (rest := []) (w' := dw_X3s a ac s42) ⟨hx, hb, hml, hown, hts⟩ (fun sz => dm_X3_putVarint l hlt dC dI a ac n ((sQ s0.2 1 (Int32.toNatClampNeg x1))) s0 hq sz) (cwV 1 hts gi_dm_X3_putEntry_3 rfl rfl rfl (by decide +kernel) ⟨Nat.le_of_ble_eq_true rfl, Nat.le_of_ble_eq_true rfl⟩) hPc hDc hKc hS hA hN (va_recv hKc hPc (ci := 4) (q0 := 1) rfl rfl) rfl hl.1 rfl (Nat.le_of_ble_eq_true rfl) dX3_putEntry_279 (fun H locs hP1 hD1 hk1 hS => ?_)
          have hP := hP1
          have hD := hD1.weaken (fun k q _ h => hFc q.1 h)
          refine lv_goto (tgt := 306) hx hb dX3_putEntry_282 (by decide) ?_
          exact (db_X3_putEntry_306 C K)  s42 _ _ _ h hP hD hS (lv_sub hl [] rfl)
    · have h := nd_pos h c30
      refine lv_aload_n hx hb dX3_putEntry_245 rfl (lv_at hl 0 rfl) ?_
      refine lv_aload_n hx hb dX3_putEntry_246 rfl (lv_at hl 0 rfl) ?_
      refine va_get (D := (dC, dI)) (ci := 4) (v := .ref (a 5)) (C := RX3) (T := TX3) (N := 11) hx hb hts hi_dm_X3_putEntry_X3 hown hK hP 1 rfl rfl 3 (by decide) (hts (.fieldLink RX3 20 "TimeMachine$Events" "b" "[I") (List.mem_of_getElem? (i := 16) rfl)) (fun _ h9 => h9) rfl dX3_putEntry_247 ?_
      refine lv_iload_n hx hb dX3_putEntry_250 rfl (lv_at hl 1 rfl) ?_
      obtain ⟨i44, h⟩ := nd_ck_e h
      refine va_iald (i := x1) hx hb hK hP 5 4 rfl rfl i44 dX3_putEntry_251 ?_
      obtain ⟨s46, hq, h⟩ := nd_b1_e h
      have hPc := hP
      have hDc := hD
      have hKc := hK
      have hFc := nd_rs hD hS hA
      refine nd_cVv (As := [.int (sR s0.2 1 (Int32.toNatClampNeg x1))]) (rest := []) (w' := dw_X3s a ac s46) ⟨hx, hb, hml, hown, hts⟩ (fun sz => dm_X3_putByte l hlt dC dI a ac n ((sR s0.2 1 (Int32.toNatClampNeg x1))) s0 hq sz) (cwV 1 hts gi_dm_X3_putEntry_1 rfl rfl rfl (by decide +kernel) ⟨Nat.le_of_ble_eq_true rfl, Nat.le_of_ble_eq_true rfl⟩) hPc hDc hKc hS hA hN (va_recv hKc hPc (ci := 4) (q0 := 1) rfl rfl) rfl hl.1 rfl (Nat.le_of_ble_eq_true rfl) dX3_putEntry_252 (fun H locs hP1 hD1 hk1 hS => ?_)
      have hP := hP1
      have hD := hD1.weaken (fun k q _ h => hFc q.1 h)
      refine lv_goto (tgt := 306) hx hb dX3_putEntry_255 (by decide) ?_
      exact (db_X3_putEntry_306 C K)  s46 _ _ _ h hP hD hS (lv_sub hl [] rfl)
  · have h := nd_pos h c28
    refine lv_aload_n hx hb dX3_putEntry_216 rfl (lv_at hl 0 rfl) ?_
    refine lv_aload_n hx hb dX3_putEntry_217 rfl (lv_at hl 0 rfl) ?_
    refine va_get (D := (dC, dI)) (ci := 4) (v := .ref (a 4)) (C := RX3) (T := TX3) (N := 11) hx hb hts hi_dm_X3_putEntry_X3 hown hK hP 1 rfl rfl 2 (by decide) (hts (.fieldLink RX3 17 "TimeMachine$Events" "a" "[J") (List.mem_of_getElem? (i := 6) rfl)) (fun _ h9 => h9) rfl dX3_putEntry_218 ?_
    refine lv_iload_n hx hb dX3_putEntry_221 rfl (lv_at hl 1 rfl) ?_
    obtain ⟨i48, h⟩ := nd_ck_e h
    refine va_lald (i := x1) hx hb hK hP 4 3 rfl rfl i48 dX3_putEntry_222 ?_
    refine lv_aload_n hx hb dX3_putEntry_223 rfl (lv_at hl 0 rfl) ?_
    refine va_get (D := (dC, dI)) (ci := 4) (v := .ref (a 5)) (C := RX3) (T := TX3) (N := 11) hx hb hts hi_dm_X3_putEntry_X3 hown hK hP 1 rfl rfl 3 (by decide) (hts (.fieldLink RX3 20 "TimeMachine$Events" "b" "[I") (List.mem_of_getElem? (i := 16) rfl)) (fun _ h9 => h9) rfl dX3_putEntry_224 ?_
    refine lv_iload_n hx hb dX3_putEntry_227 rfl (lv_at hl 1 rfl) ?_
    obtain ⟨i49, h⟩ := nd_ck_e h
    refine va_iald (i := x1) hx hb hK hP 5 4 rfl rfl i49 dX3_putEntry_228 ?_
    obtain ⟨s51, hq, h⟩ := nd_b1_e h
    have hPc := hP
    have hDc := hD
    have hKc := hK
    have hFc := nd_rs hD hS hA
    refine nd_cVv (As := [.long (sQ s0.2 1 (Int32.toNatClampNeg x1)), .int (sR s0.2 1 (Int32.toNatClampNeg x1))]) (rest := []) (w' := dw_X3s a ac s51) ⟨hx, hb, hml, hown, hts⟩ (fun sz => dm_X3_putBytes l hlt dC dI a ac n ((sQ s0.2 1 (Int32.toNatClampNeg x1))) ((sR s0.2 1 (Int32.toNatClampNeg x1))) s0 hq sz) (cwV 2 hts gi_dm_X3_putEntry_2 rfl rfl rfl (by decide +kernel) ⟨Nat.le_of_ble_eq_true rfl, Nat.le_of_ble_eq_true rfl⟩) hPc hDc hKc hS hA hN (va_recv hKc hPc (ci := 4) (q0 := 1) rfl rfl) rfl hl.1 rfl (Nat.le_of_ble_eq_true rfl) dX3_putEntry_229 (fun H locs hP1 hD1 hk1 hS => ?_)
    have hP := hP1
    have hD := hD1.weaken (fun k q _ h => hFc q.1 h)
    refine lv_goto (tgt := 306) hx hb dX3_putEntry_232 (by decide) ?_
    exact (db_X3_putEntry_306 C K)  s51 _ _ _ h hP hD hS (lv_sub hl [] rfl)
set_option maxHeartbeats 40000000 in
set_option maxRecDepth 100000 in
theorem db_X3_putEntry_183 {p : Program} {l : Launch} {e : Env} {s : State} {m : MethodId} {args : Array Value} {below : List Frame} {meth : Method} {c : Code} {Q : State → Prop} {A : Nat → Prop} {dC : Nat → ClassId} {dI : Nat → Nat → Nat} {a : Nat → Nat} {ac : Nat → ClassId} {n : Nat} {r : St × (St)} (C : nd_C p l s m args c A (dC, dI) cX3_putEntry 5 RX3 ow_dm_X3_putEntry (dk_X3s ac)) (K : nd_Kv p l e (headSpec ow_dm_X3_putEntry ({ frames := 2, cells := 0, slots := 0, locals := 49 })).room s m args below meth c Q A (dC, dI) cX3_putEntry (St × (St)) (dw_X3s a ac) r) : dj_X3_putEntry_183 p l e s m args below meth c Q A dC dI a ac (df_X3_putEntry_183 n (a 0)) r := by
  obtain ⟨hlt, hx, hb, hml, hown, hts, hN, hA, hK⟩ := id C
  intro x1 x3 s0 H locs ls h hP hD hS hl
  unfold df_X3_putEntry_183 at h
  refine lv_aload_n hx hb dX3_putEntry_183 rfl (lv_at hl 0 rfl) ?_
  refine va_get (D := (dC, dI)) (ci := 4) (v := .ref (a 2)) (C := RX3) (T := TX3) (N := 11) hx hb hts hi_dm_X3_putEntry_X3 hown hK hP 1 rfl rfl 0 (by decide) (hts (.fieldLink RX3 9 "TimeMachine$Events" "kind" "[I") (List.mem_of_getElem? (i := 5) rfl)) (fun _ h9 => h9) rfl dX3_putEntry_184 ?_
  refine lv_iload_n hx hb dX3_putEntry_187 rfl (lv_at hl 1 rfl) ?_
  obtain ⟨i25, h⟩ := nd_ck_e h
  refine va_iald (i := x1) hx hb hK hP 2 1 rfl rfl i25 dX3_putEntry_188 ?_
  refine lv_iconst (v := 1) hx hb dX3_putEntry_189 (by decide) ?_
  refine lv_icmp_ne (tgt := 206) hx hb dX3_putEntry_190 (by decide) (fun c26 => ?_) (fun c26 => ?_)
  · have h := nd_neg h c26
    exact (db_X3_putEntry_206 C K) (x1) (x3) s0 _ _ _ h hP hD hS (lv_sub hl [0, 1, 2] rfl)
  · have h := nd_pos h c26
    refine lv_iload_n hx hb dX3_putEntry_193 rfl (lv_at hl 2 rfl) ?_
    refine lv_if_le (tgt := 206) hx hb dX3_putEntry_194 (by decide) (fun c53 => ?_) (fun c53 => ?_)
    · have h := nd_pos h c53
      exact (db_X3_putEntry_206 C K) (x1) (x3) s0 _ _ _ h hP hD hS (lv_sub hl [0, 1, 2] rfl)
    · have h := nd_neg h c53
      refine lv_aload_n hx hb dX3_putEntry_197 rfl (lv_at hl 0 rfl) ?_
      refine lv_iload_n hx hb dX3_putEntry_198 rfl (lv_at hl 2 rfl) ?_
      refine lv_i2l hx hb dX3_putEntry_199 rfl ?_
      obtain ⟨s55, hq, h⟩ := nd_b1_e h
      have hPc := hP
      have hDc := hD
      have hKc := hK
      have hFc := nd_rs hD hS hA
      refine nd_cVv (As := [.long (x3.toInt64)]) (rest := []) (w' := dw_X3s a ac s55) ⟨hx, hb, hml, hown, hts⟩ (fun sz => dm_X3_putVarint l hlt dC dI a ac n ((x3.toInt64)) s0 hq sz) (cwV 1 hts gi_dm_X3_putEntry_3 rfl rfl rfl (by decide +kernel) ⟨Nat.le_of_ble_eq_true rfl, Nat.le_of_ble_eq_true rfl⟩) hPc hDc hKc hS hA hN (va_recv hKc hPc (ci := 4) (q0 := 1) rfl rfl) rfl hl.1 rfl (Nat.le_of_ble_eq_true rfl) dX3_putEntry_200 (fun H locs hP1 hD1 hk1 hS => ?_)
      have hP := hP1
      have hD := hD1.weaken (fun k q _ h => hFc q.1 h)
      refine lv_goto (tgt := 306) hx hb dX3_putEntry_203 (by decide) ?_
      exact (db_X3_putEntry_306 C K)  s55 _ _ _ h hP hD hS (lv_sub hl [] rfl)
set_option maxHeartbeats 40000000 in
set_option maxRecDepth 100000 in
theorem db_X3_putEntry_161 {p : Program} {l : Launch} {e : Env} {s : State} {m : MethodId} {args : Array Value} {below : List Frame} {meth : Method} {c : Code} {Q : State → Prop} {A : Nat → Prop} {dC : Nat → ClassId} {dI : Nat → Nat → Nat} {a : Nat → Nat} {ac : Nat → ClassId} {n : Nat} {r : St × (St)} (C : nd_C p l s m args c A (dC, dI) cX3_putEntry 5 RX3 ow_dm_X3_putEntry (dk_X3s ac)) (K : nd_Kv p l e (headSpec ow_dm_X3_putEntry ({ frames := 2, cells := 0, slots := 0, locals := 49 })).room s m args below meth c Q A (dC, dI) cX3_putEntry (St × (St)) (dw_X3s a ac) r) : dj_X3_putEntry_161 p l e s m args below meth c Q A dC dI a ac (df_X3_putEntry_161 n (a 0)) r := by
  obtain ⟨hlt, hx, hb, hml, hown, hts, hN, hA, hK⟩ := id C
  intro x1 x2 x3 x4 y1 y2 s0 H locs ls h hP hD hS hl
  unfold df_X3_putEntry_161 at h
  refine lv_ior hx hb dX3_putEntry_161 ?_
  refine lv_iload hx hb dX3_putEntry_162 (lv_at hl 4 rfl) ?_
  refine lv_iconst (v := 4) hx hb dX3_putEntry_164 (by decide) ?_
  refine lv_ishl hx hb dX3_putEntry_165 ?_
  refine lv_ior hx hb dX3_putEntry_166 ?_
  obtain ⟨s22, hq, h⟩ := nd_b1_e h
  have hPc := hP
  have hDc := hD
  have hKc := hK
  have hFc := nd_rs hD hS hA
  refine nd_cVv (As := [.int ((y1 ||| y2) ||| ((x4 : Int32) <<< ((4 : Int32) &&& 31)))]) (rest := []) (w' := dw_X3s a ac s22) ⟨hx, hb, hml, hown, hts⟩ (fun sz => dm_X3_putByte l hlt dC dI a ac n (((y1 ||| y2) ||| ((x4 : Int32) <<< ((4 : Int32) &&& 31)))) s0 hq sz) (cwV 1 hts gi_dm_X3_putEntry_1 rfl rfl rfl (by decide +kernel) ⟨Nat.le_of_ble_eq_true rfl, Nat.le_of_ble_eq_true rfl⟩) hPc hDc hKc hS hA hN (va_recv hKc hPc (ci := 4) (q0 := 1) rfl rfl) rfl hl.1 rfl (Nat.le_of_ble_eq_true rfl) dX3_putEntry_167 (fun H locs hP1 hD1 hk1 hS => ?_)
  have hP := hP1
  have hD := hD1.weaken (fun k q _ h => hFc q.1 h)
  refine lv_iload_n hx hb dX3_putEntry_170 rfl (lv_at hl 2 rfl) ?_
  refine lv_if_ne (tgt := 183) hx hb dX3_putEntry_171 (by decide) (fun c24 => ?_) (fun c24 => ?_)
  · have h := nd_neg h c24
    exact (db_X3_putEntry_183 C K) (x1) (x3) s22 _ _ _ h hP hD hS (lv_sub hl [0, 1, 3] rfl)
  · have h := nd_pos h c24
    refine lv_aload_n hx hb dX3_putEntry_174 rfl (lv_at hl 0 rfl) ?_
    refine lv_aload_n hx hb dX3_putEntry_175 rfl (lv_at hl 0 rfl) ?_
    refine lv_iload_n hx hb dX3_putEntry_176 rfl (lv_at hl 1 rfl) ?_
    obtain ⟨q57, s58, hq, h⟩ := nd_b2_e h
    have hPc := dp_X3s_1 hP
    have hDc := dd_X3s_1 hD
    have hKc := dy_X3s_1 hK
    have hFc := nd_rs hDc hS hA
    have hzA : ∀ q : Nat, H.size ≤ q → A q := fun q h => hA q (Nat.le_trans hS.1 h)
    refine nd_cVl (As := [.int x1]) (rest := [.ref (a 1)]) (q := q57) (w' := dw_X3c (fun k => a (k + 1)) (fun k => ac (k + 1)) s58) ⟨hx, hb, hml, hown, hts⟩ (fun sz => dm_X3_difference l hlt dC dI (fun k => a (k + 1)) (fun k => ac (k + 1)) n (x1) s22.2 hq sz) (cwV 1 hts gi_dm_X3_putEntry_0 rfl rfl rfl (by decide +kernel) ⟨Nat.le_of_ble_eq_true rfl, Nat.le_of_ble_eq_true rfl⟩) hPc hDc hKc hS hA hN (va_recv hKc hPc (ci := 4) (q0 := 0) rfl rfl) rfl hl.1 rfl (Nat.le_of_ble_eq_true rfl) dX3_putEntry_177 (fun H locs hP1 hD1 hk1 hS => ?_)
    obtain ⟨hP, hD⟩ := dn_X3s_1 hP hD hzA hk1 hP1 hD1
    obtain ⟨s60, es60, h⟩ := nd_let_e h
    have hP : va_P (dC, dI) vwCl (dw_X3s a ac s60) H := by rw [es60]; exact hP
    have hD : va_D A (dw_X3s a ac s60) := by rw [es60]; exact hD
    obtain ⟨s62, hq, h⟩ := nd_b1_e h
    have hPc := hP
    have hDc := hD
    have hKc := hK
    have hFc := nd_rs hD hS hA
    refine nd_cVv (As := [.long q57]) (rest := []) (w' := dw_X3s a ac s62) ⟨hx, hb, hml, hown, hts⟩ (fun sz => dm_X3_putVarint l hlt dC dI a ac n (q57) s60 hq sz) (cwV 1 hts gi_dm_X3_putEntry_3 rfl rfl rfl (by decide +kernel) ⟨Nat.le_of_ble_eq_true rfl, Nat.le_of_ble_eq_true rfl⟩) hPc hDc hKc hS hA hN (va_recv hKc hPc (ci := 4) (q0 := 1) rfl rfl) rfl hl.1 rfl (Nat.le_of_ble_eq_true rfl) dX3_putEntry_180 (fun H locs hP1 hD1 hk1 hS => ?_)
    have hP := hP1
    have hD := hD1.weaken (fun k q _ h => hFc q.1 h)
    exact (db_X3_putEntry_183 C K) (x1) (x3) s62 _ _ _ h hP hD hS (lv_sub hl [0, 1, 3] rfl)
set_option maxHeartbeats 40000000 in
set_option maxRecDepth 100000 in
theorem db_X3_putEntry_144 {p : Program} {l : Launch} {e : Env} {s : State} {m : MethodId} {args : Array Value} {below : List Frame} {meth : Method} {c : Code} {Q : State → Prop} {A : Nat → Prop} {dC : Nat → ClassId} {dI : Nat → Nat → Nat} {a : Nat → Nat} {ac : Nat → ClassId} {n : Nat} {r : St × (St)} (C : nd_C p l s m args c A (dC, dI) cX3_putEntry 5 RX3 ow_dm_X3_putEntry (dk_X3s ac)) (K : nd_Kv p l e (headSpec ow_dm_X3_putEntry ({ frames := 2, cells := 0, slots := 0, locals := 49 })).room s m args below meth c Q A (dC, dI) cX3_putEntry (St × (St)) (dw_X3s a ac) r) : dj_X3_putEntry_144 p l e s m args below meth c Q A dC dI a ac (df_X3_putEntry_144 n (a 0)) r := by
  obtain ⟨hlt, hx, hb, hml, hown, hts, hN, hA, hK⟩ := id C
  intro x1 x2 x3 x4 s0 H locs ls h hP hD hS hl
  unfold df_X3_putEntry_144 at h
  refine lv_aload_n hx hb dX3_putEntry_144 rfl (lv_at hl 0 rfl) ?_
  refine lv_aload_n hx hb dX3_putEntry_145 rfl (lv_at hl 0 rfl) ?_
  refine va_get (D := (dC, dI)) (ci := 4) (v := .ref (a 2)) (C := RX3) (T := TX3) (N := 11) hx hb hts hi_dm_X3_putEntry_X3 hown hK hP 1 rfl rfl 0 (by decide) (hts (.fieldLink RX3 9 "TimeMachine$Events" "kind" "[I") (List.mem_of_getElem? (i := 5) rfl)) (fun _ h9 => h9) rfl dX3_putEntry_146 ?_
  refine lv_iload_n hx hb dX3_putEntry_149 rfl (lv_at hl 1 rfl) ?_
  obtain ⟨i19, h⟩ := nd_ck_e h
  refine va_iald (i := x1) hx hb hK hP 2 1 rfl rfl i19 dX3_putEntry_150 ?_
  refine lv_iload_n hx hb dX3_putEntry_151 rfl (lv_at hl 2 rfl) ?_
  refine lv_if_eq (tgt := 160) hx hb dX3_putEntry_152 (by decide) (fun c20 => ?_) (fun c20 => ?_)
  · have h := nd_pos h c20
    refine lv_iconst (v := 0) hx hb dX3_putEntry_160 (by decide) ?_
    exact (db_X3_putEntry_161 C K) (x1) (x2) (x3) (x4) ((sR s0.2 0 (Int32.toNatClampNeg x1))) (0) s0 _ _ _ h hP hD hS (lv_sub hl [0, 1, 2, 3, 4] rfl)
  · have h := nd_neg h c20
    refine lv_bipush (v := 8) hx hb dX3_putEntry_155 (by decide) ?_
    refine lv_goto (tgt := 161) hx hb dX3_putEntry_157 (by decide) ?_
    exact (db_X3_putEntry_161 C K) (x1) (x2) (x3) (x4) ((sR s0.2 0 (Int32.toNatClampNeg x1))) (8) s0 _ _ _ h hP hD hS (lv_sub hl [0, 1, 2, 3, 4] rfl)
set_option maxHeartbeats 40000000 in
set_option maxRecDepth 100000 in
theorem db_X3_putEntry_90 {p : Program} {l : Launch} {e : Env} {s : State} {m : MethodId} {args : Array Value} {below : List Frame} {meth : Method} {c : Code} {Q : State → Prop} {A : Nat → Prop} {dC : Nat → ClassId} {dI : Nat → Nat → Nat} {a : Nat → Nat} {ac : Nat → ClassId} {n : Nat} {r : St × (St)} (C : nd_C p l s m args c A (dC, dI) cX3_putEntry 5 RX3 ow_dm_X3_putEntry (dk_X3s ac)) (K : nd_Kv p l e (headSpec ow_dm_X3_putEntry ({ frames := 2, cells := 0, slots := 0, locals := 49 })).room s m args below meth c Q A (dC, dI) cX3_putEntry (St × (St)) (dw_X3s a ac) r) : dj_X3_putEntry_90 p l e s m args below meth c Q A dC dI a ac (df_X3_putEntry_90 n (a 0)) r := by
  obtain ⟨hlt, hx, hb, hml, hown, hts, hN, hA, hK⟩ := id C
  intro x1 x2 x3 s0 H locs ls h hP hD hS hl
  unfold df_X3_putEntry_90 at h
  refine lv_aload_n hx hb dX3_putEntry_90 rfl (lv_at hl 0 rfl) ?_
  refine va_get (D := (dC, dI)) (ci := 4) (v := .ref (a 4)) (C := RX3) (T := TX3) (N := 11) hx hb hts hi_dm_X3_putEntry_X3 hown hK hP 1 rfl rfl 2 (by decide) (hts (.fieldLink RX3 17 "TimeMachine$Events" "a" "[J") (List.mem_of_getElem? (i := 6) rfl)) (fun _ h9 => h9) rfl dX3_putEntry_91 ?_
  refine lv_iload_n hx hb dX3_putEntry_94 rfl (lv_at hl 1 rfl) ?_
  obtain ⟨i17, h⟩ := nd_ck_e h
  refine va_lald (i := x1) hx hb hK hP 4 3 rfl rfl i17 dX3_putEntry_95 ?_
  refine lv_l2i hx hb dX3_putEntry_96 rfl ?_
  refine lv_topi (fun z18 ez18 => ?_)
  have h := nd_at h ez18
  refine lv_istore (lv' := [(4, .int z18), (0, .ref (a 1)), (1, .int x1), (2, .int x2), (3, .int x3)]) hx hb dX3_putEntry_97 hl (by decide) rfl (fun ls hl => ?_)
  refine lv_goto (tgt := 144) hx hb dX3_putEntry_99 (by decide) ?_
  exact (db_X3_putEntry_144 C K) (x1) (x2) (x3) (z18) s0 _ _ _ h hP hD hS (lv_sub hl [1, 2, 3, 4, 0] rfl)
set_option maxHeartbeats 40000000 in
set_option maxRecDepth 100000 in
theorem db_X3_putEntry_126 {p : Program} {l : Launch} {e : Env} {s : State} {m : MethodId} {args : Array Value} {below : List Frame} {meth : Method} {c : Code} {Q : State → Prop} {A : Nat → Prop} {dC : Nat → ClassId} {dI : Nat → Nat → Nat} {a : Nat → Nat} {ac : Nat → ClassId} {n : Nat} {r : St × (St)} (C : nd_C p l s m args c A (dC, dI) cX3_putEntry 5 RX3 ow_dm_X3_putEntry (dk_X3s ac)) (K : nd_Kv p l e (headSpec ow_dm_X3_putEntry ({ frames := 2, cells := 0, slots := 0, locals := 49 })).room s m args below meth c Q A (dC, dI) cX3_putEntry (St × (St)) (dw_X3s a ac) r) : dj_X3_putEntry_126 p l e s m args below meth c Q A dC dI a ac (df_X3_putEntry_126 n (a 0)) r := by
  obtain ⟨hlt, hx, hb, hml, hown, hts, hN, hA, hK⟩ := id C
  intro x1 x2 x3 y0 s0 H locs ls h hP hD hS hl
  unfold df_X3_putEntry_126 at h
  refine lv_istore (lv' := [(4, .int y0), (0, .ref (a 1)), (1, .int x1), (2, .int x2), (3, .int x3)]) hx hb dX3_putEntry_126 hl (by decide) rfl (fun ls hl => ?_)
  refine lv_goto (tgt := 144) hx hb dX3_putEntry_128 (by decide) ?_
  exact (db_X3_putEntry_144 C K) (x1) (x2) (x3) (y0) s0 _ _ _ h hP hD hS (lv_sub hl [1, 2, 3, 4, 0] rfl)
set_option maxHeartbeats 40000000 in
set_option maxRecDepth 100000 in
theorem db_X3_putEntry_67 {p : Program} {l : Launch} {e : Env} {s : State} {m : MethodId} {args : Array Value} {below : List Frame} {meth : Method} {c : Code} {Q : State → Prop} {A : Nat → Prop} {dC : Nat → ClassId} {dI : Nat → Nat → Nat} {a : Nat → Nat} {ac : Nat → ClassId} {n : Nat} {r : St × (St)} (C : nd_C p l s m args c A (dC, dI) cX3_putEntry 5 RX3 ow_dm_X3_putEntry (dk_X3s ac)) (K : nd_Kv p l e (headSpec ow_dm_X3_putEntry ({ frames := 2, cells := 0, slots := 0, locals := 49 })).room s m args below meth c Q A (dC, dI) cX3_putEntry (St × (St)) (dw_X3s a ac) r) : dj_X3_putEntry_67 p l e s m args below meth c Q A dC dI a ac (df_X3_putEntry_67 n (a 0)) r := by
  obtain ⟨hlt, hx, hb, hml, hown, hts, hN, hA, hK⟩ := id C
  intro x1 x2 y0 s0 H locs ls h hP hD hS hl
  unfold df_X3_putEntry_67 at h
  refine lv_istore_n (lv' := [(3, .int y0), (0, .ref (a 1)), (1, .int x1), (2, .int x2)]) hx hb dX3_putEntry_67 rfl hl (by decide) rfl (fun ls hl => ?_)
  refine lv_iconst (v := 0) hx hb dX3_putEntry_68 (by decide) ?_
  refine lv_istore (lv' := [(4, .int 0), (3, .int y0), (0, .ref (a 1)), (1, .int x1), (2, .int x2)]) hx hb dX3_putEntry_69 hl (by decide) rfl (fun ls hl => ?_)
  refine lv_aload_n hx hb dX3_putEntry_71 rfl (lv_at hl 2 rfl) ?_
  refine va_get (D := (dC, dI)) (ci := 4) (v := .ref (a 2)) (C := RX3) (T := TX3) (N := 11) hx hb hts hi_dm_X3_putEntry_X3 hown hK hP 1 rfl rfl 0 (by decide) (hts (.fieldLink RX3 9 "TimeMachine$Events" "kind" "[I") (List.mem_of_getElem? (i := 5) rfl)) (fun _ h9 => h9) rfl dX3_putEntry_72 ?_
  refine lv_iload_n hx hb dX3_putEntry_75 rfl (lv_at hl 3 rfl) ?_
  obtain ⟨i15, h⟩ := nd_ck_e h
  refine va_iald (i := x1) hx hb hK hP 2 1 rfl rfl i15 dX3_putEntry_76 ?_
  refine lv_if_eq (tgt := 90) hx hb dX3_putEntry_77 (by decide) (fun c16 => ?_) (fun c16 => ?_)
  · have h := nd_pos h c16
    exact (db_X3_putEntry_90 C K) (x1) (x2) (y0) s0 _ _ _ h hP hD hS (lv_sub hl [2, 3, 4, 1] rfl)
  · have h := nd_neg h c16
    refine lv_aload_n hx hb dX3_putEntry_80 rfl (lv_at hl 2 rfl) ?_
    refine va_get (D := (dC, dI)) (ci := 4) (v := .ref (a 2)) (C := RX3) (T := TX3) (N := 11) hx hb hts hi_dm_X3_putEntry_X3 hown hK hP 1 rfl rfl 0 (by decide) (hts (.fieldLink RX3 9 "TimeMachine$Events" "kind" "[I") (List.mem_of_getElem? (i := 5) rfl)) (fun _ h9 => h9) rfl dX3_putEntry_81 ?_
    refine lv_iload_n hx hb dX3_putEntry_84 rfl (lv_at hl 3 rfl) ?_
    obtain ⟨i64, h⟩ := nd_ck_e h
    refine va_iald (i := x1) hx hb hK hP 2 1 rfl rfl i64 dX3_putEntry_85 ?_
    refine lv_iconst (v := 2) hx hb dX3_putEntry_86 (by decide) ?_
    refine lv_icmp_ne (tgt := 102) hx hb dX3_putEntry_87 (by decide) (fun c65 => ?_) (fun c65 => ?_)
    · have h := nd_neg h c65
      refine lv_aload_n hx hb dX3_putEntry_102 rfl (lv_at hl 2 rfl) ?_
      refine va_get (D := (dC, dI)) (ci := 4) (v := .ref (a 2)) (C := RX3) (T := TX3) (N := 11) hx hb hts hi_dm_X3_putEntry_X3 hown hK hP 1 rfl rfl 0 (by decide) (hts (.fieldLink RX3 9 "TimeMachine$Events" "kind" "[I") (List.mem_of_getElem? (i := 5) rfl)) (fun _ h9 => h9) rfl dX3_putEntry_103 ?_
      refine lv_iload_n hx hb dX3_putEntry_106 rfl (lv_at hl 3 rfl) ?_
      obtain ⟨i66, h⟩ := nd_ck_e h
      refine va_iald (i := x1) hx hb hK hP 2 1 rfl rfl i66 dX3_putEntry_107 ?_
      refine lv_iconst (v := 1) hx hb dX3_putEntry_108 (by decide) ?_
      refine lv_icmp_ne (tgt := 131) hx hb dX3_putEntry_109 (by decide) (fun c67 => ?_) (fun c67 => ?_)
      · have h := nd_neg h c67
        refine lv_aload_n hx hb dX3_putEntry_131 rfl (lv_at hl 2 rfl) ?_
        refine va_get (D := (dC, dI)) (ci := 4) (v := .ref (a 2)) (C := RX3) (T := TX3) (N := 11) hx hb hts hi_dm_X3_putEntry_X3 hown hK hP 1 rfl rfl 0 (by decide) (hts (.fieldLink RX3 9 "TimeMachine$Events" "kind" "[I") (List.mem_of_getElem? (i := 5) rfl)) (fun _ h9 => h9) rfl dX3_putEntry_132 ?_
        refine lv_iload_n hx hb dX3_putEntry_135 rfl (lv_at hl 3 rfl) ?_
        obtain ⟨i68, h⟩ := nd_ck_e h
        refine va_iald (i := x1) hx hb hK hP 2 1 rfl rfl i68 dX3_putEntry_136 ?_
        refine lv_iconst (v := 3) hx hb dX3_putEntry_137 (by decide) ?_
        refine lv_icmp_ne (tgt := 144) hx hb dX3_putEntry_138 (by decide) (fun c69 => ?_) (fun c69 => ?_)
        · have h := nd_neg h c69
          exact (db_X3_putEntry_144 C K) (x1) (x2) (y0) (0) s0 _ _ _ h hP hD hS (lv_sub hl [2, 3, 4, 1, 0] rfl)
        · have h := nd_pos h c69
          refine lv_iload_n hx hb dX3_putEntry_141 rfl (lv_at hl 1 rfl) ?_
          refine lv_istore (lv' := [(4, .int y0), (3, .int y0), (0, .ref (a 1)), (1, .int x1), (2, .int x2)]) hx hb dX3_putEntry_142 hl (by decide) rfl (fun ls hl => ?_)
          exact (db_X3_putEntry_144 C K) (x1) (x2) (y0) (y0) s0 _ _ _ h hP hD hS (lv_sub hl [2, 3, 4, 1, 0] rfl)
      · have h := nd_pos h c67
        refine lv_iload_n hx hb dX3_putEntry_112 rfl (lv_at hl 1 rfl) ?_
        refine lv_if_le (tgt := 120) hx hb dX3_putEntry_113 (by decide) (fun c70 => ?_) (fun c70 => ?_)
        · have h := nd_pos h c70
          refine lv_aload_n hx hb dX3_putEntry_120 rfl (lv_at hl 2 rfl) ?_
          refine va_get (D := (dC, dI)) (ci := 4) (v := .ref (a 5)) (C := RX3) (T := TX3) (N := 11) hx hb hts hi_dm_X3_putEntry_X3 hown hK hP 1 rfl rfl 3 (by decide) (hts (.fieldLink RX3 20 "TimeMachine$Events" "b" "[I") (List.mem_of_getElem? (i := 16) rfl)) (fun _ h9 => h9) rfl dX3_putEntry_121 ?_
          refine lv_iload_n hx hb dX3_putEntry_124 rfl (lv_at hl 3 rfl) ?_
          obtain ⟨i71, h⟩ := nd_ck_e h
          refine va_iald (i := x1) hx hb hK hP 5 4 rfl rfl i71 dX3_putEntry_125 ?_
          exact (db_X3_putEntry_126 C K) (x1) (x2) (y0) ((sR s0.2 1 (Int32.toNatClampNeg x1))) s0 _ _ _ h hP hD hS (lv_sub hl [2, 3, 4, 1] rfl)
        · have h := nd_neg h c70
          refine lv_iconst (v := 0) hx hb dX3_putEntry_116 (by decide) ?_
          refine lv_goto (tgt := 126) hx hb dX3_putEntry_117 (by decide) ?_
          exact (db_X3_putEntry_126 C K) (x1) (x2) (y0) (0) s0 _ _ _ h hP hD hS (lv_sub hl [2, 3, 4, 1] rfl)
    · have h := nd_pos h c65
      exact (db_X3_putEntry_90 C K) (x1) (x2) (y0) s0 _ _ _ h hP hD hS (lv_sub hl [2, 3, 4, 1] rfl)
set_option maxHeartbeats 40000000 in
set_option maxRecDepth 100000 in
theorem db_X3_putEntry_29 {p : Program} {l : Launch} {e : Env} {s : State} {m : MethodId} {args : Array Value} {below : List Frame} {meth : Method} {c : Code} {Q : State → Prop} {A : Nat → Prop} {dC : Nat → ClassId} {dI : Nat → Nat → Nat} {a : Nat → Nat} {ac : Nat → ClassId} {n : Nat} {r : St × (St)} (C : nd_C p l s m args c A (dC, dI) cX3_putEntry 5 RX3 ow_dm_X3_putEntry (dk_X3s ac)) (K : nd_Kv p l e (headSpec ow_dm_X3_putEntry ({ frames := 2, cells := 0, slots := 0, locals := 49 })).room s m args below meth c Q A (dC, dI) cX3_putEntry (St × (St)) (dw_X3s a ac) r) : dj_X3_putEntry_29 p l e s m args below meth c Q A dC dI a ac (df_X3_putEntry_29 n (a 0)) r := by
  obtain ⟨hlt, hx, hb, hml, hown, hts, hN, hA, hK⟩ := id C
  intro x1 y0 s0 H locs ls h hP hD hS hl
  unfold df_X3_putEntry_29 at h
  refine lv_istore_n (lv' := [(2, .int y0), (0, .ref (a 1)), (1, .int x1)]) hx hb dX3_putEntry_29 rfl hl (by decide) rfl (fun ls hl => ?_)
  refine lv_aload_n hx hb dX3_putEntry_30 rfl (lv_at hl 1 rfl) ?_
  refine va_get (D := (dC, dI)) (ci := 4) (v := .ref (a 2)) (C := RX3) (T := TX3) (N := 11) hx hb hts hi_dm_X3_putEntry_X3 hown hK hP 1 rfl rfl 0 (by decide) (hts (.fieldLink RX3 9 "TimeMachine$Events" "kind" "[I") (List.mem_of_getElem? (i := 5) rfl)) (fun _ h9 => h9) rfl dX3_putEntry_31 ?_
  refine lv_iload_n hx hb dX3_putEntry_34 rfl (lv_at hl 2 rfl) ?_
  obtain ⟨i11, h⟩ := nd_ck_e h
  refine va_iald (i := x1) hx hb hK hP 2 1 rfl rfl i11 dX3_putEntry_35 ?_
  refine lv_iconst (v := 1) hx hb dX3_putEntry_36 (by decide) ?_
  refine lv_icmp_ne (tgt := 48) hx hb dX3_putEntry_37 (by decide) (fun c12 => ?_) (fun c12 => ?_)
  · have h := nd_neg h c12
    refine lv_aload_n hx hb dX3_putEntry_48 rfl (lv_at hl 1 rfl) ?_
    refine va_get (D := (dC, dI)) (ci := 4) (v := .ref (a 2)) (C := RX3) (T := TX3) (N := 11) hx hb hts hi_dm_X3_putEntry_X3 hown hK hP 1 rfl rfl 0 (by decide) (hts (.fieldLink RX3 9 "TimeMachine$Events" "kind" "[I") (List.mem_of_getElem? (i := 5) rfl)) (fun _ h9 => h9) rfl dX3_putEntry_49 ?_
    refine lv_iload_n hx hb dX3_putEntry_52 rfl (lv_at hl 2 rfl) ?_
    obtain ⟨i13, h⟩ := nd_ck_e h
    refine va_iald (i := x1) hx hb hK hP 2 1 rfl rfl i13 dX3_putEntry_53 ?_
    refine lv_iconst (v := 3) hx hb dX3_putEntry_54 (by decide) ?_
    refine lv_icmp_ne (tgt := 66) hx hb dX3_putEntry_55 (by decide) (fun c14 => ?_) (fun c14 => ?_)
    · have h := nd_neg h c14
      refine lv_iconst (v := 0) hx hb dX3_putEntry_66 (by decide) ?_
      exact (db_X3_putEntry_67 C K) (x1) (y0) (0) s0 _ _ _ h hP hD hS (lv_sub hl [1, 2, 0] rfl)
    · have h := nd_pos h c14
      refine lv_aload_n hx hb dX3_putEntry_58 rfl (lv_at hl 1 rfl) ?_
      refine lv_iload_n hx hb dX3_putEntry_59 rfl (lv_at hl 2 rfl) ?_
      obtain ⟨q72, s73, hq, h⟩ := nd_b2_e h
      have hPc := dp_X3s_1 hP
      have hDc := dd_X3s_1 hD
      have hKc := dy_X3s_1 hK
      have hFc := nd_rs hDc hS hA
      have hzA : ∀ q : Nat, H.size ≤ q → A q := fun q h => hA q (Nat.le_trans hS.1 h)
      refine nd_cVi (As := [.int x1]) (rest := []) (q := q72) (w' := dw_X3c (fun k => a (k + 1)) (fun k => ac (k + 1)) s73) ⟨hx, hb, hml, hown, hts⟩ (fun sz => dm_X3_sameClock l hlt dC dI (fun k => a (k + 1)) (fun k => ac (k + 1)) n (x1) s0.2 hq sz) (cwV 1 hts gi_dm_X3_putEntry_4 rfl rfl rfl (by decide +kernel) ⟨Nat.le_of_ble_eq_true rfl, Nat.le_of_ble_eq_true rfl⟩) hPc hDc hKc hS hA hN (va_recv hKc hPc (ci := 4) (q0 := 0) rfl rfl) rfl hl.1 rfl (Nat.le_of_ble_eq_true rfl) dX3_putEntry_60 (fun H locs hP1 hD1 hk1 hS => ?_)
      obtain ⟨hP, hD⟩ := dn_X3s_1 hP hD hzA hk1 hP1 hD1
      obtain ⟨s75, es75, h⟩ := nd_let_e h
      have hP : va_P (dC, dI) vwCl (dw_X3s a ac s75) H := by rw [es75]; exact hP
      have hD : va_D A (dw_X3s a ac s75) := by rw [es75]; exact hD
      refine lv_goto (tgt := 67) hx hb dX3_putEntry_63 (by decide) ?_
      exact (db_X3_putEntry_67 C K) (x1) (y0) (q72) s75 _ _ _ h hP hD hS (lv_sub hl [1, 2, 0] rfl)
  · have h := nd_pos h c12
    refine lv_aload_n hx hb dX3_putEntry_40 rfl (lv_at hl 1 rfl) ?_
    refine lv_iload_n hx hb dX3_putEntry_41 rfl (lv_at hl 2 rfl) ?_
    obtain ⟨q76, s77, hq, h⟩ := nd_b2_e h
    have hPc := dp_X3s_1 hP
    have hDc := dd_X3s_1 hD
    have hKc := dy_X3s_1 hK
    have hFc := nd_rs hDc hS hA
    have hzA : ∀ q : Nat, H.size ≤ q → A q := fun q h => hA q (Nat.le_trans hS.1 h)
    refine nd_cVi (As := [.int x1]) (rest := []) (q := q76) (w' := dw_X3c (fun k => a (k + 1)) (fun k => ac (k + 1)) s77) ⟨hx, hb, hml, hown, hts⟩ (fun sz => dm_X3_sameTyped l hlt dC dI (fun k => a (k + 1)) (fun k => ac (k + 1)) n (x1) s0.2 hq sz) (cwV 1 hts gi_dm_X3_putEntry_5 rfl rfl rfl (by decide +kernel) ⟨Nat.le_of_ble_eq_true rfl, Nat.le_of_ble_eq_true rfl⟩) hPc hDc hKc hS hA hN (va_recv hKc hPc (ci := 4) (q0 := 0) rfl rfl) rfl hl.1 rfl (Nat.le_of_ble_eq_true rfl) dX3_putEntry_42 (fun H locs hP1 hD1 hk1 hS => ?_)
    obtain ⟨hP, hD⟩ := dn_X3s_1 hP hD hzA hk1 hP1 hD1
    obtain ⟨s79, es79, h⟩ := nd_let_e h
    have hP : va_P (dC, dI) vwCl (dw_X3s a ac s79) H := by rw [es79]; exact hP
    have hD : va_D A (dw_X3s a ac s79) := by rw [es79]; exact hD
    refine lv_goto (tgt := 67) hx hb dX3_putEntry_45 (by decide) ?_
    exact (db_X3_putEntry_67 C K) (x1) (y0) (q76) s79 _ _ _ h hP hD hS (lv_sub hl [1, 2, 0] rfl)
set_option maxHeartbeats 40000000 in
set_option maxRecDepth 100000 in
theorem db_X3_putEntry_20 {p : Program} {l : Launch} {e : Env} {s : State} {m : MethodId} {args : Array Value} {below : List Frame} {meth : Method} {c : Code} {Q : State → Prop} {A : Nat → Prop} {dC : Nat → ClassId} {dI : Nat → Nat → Nat} {a : Nat → Nat} {ac : Nat → ClassId} {n : Nat} {r : St × (St)} (C : nd_C p l s m args c A (dC, dI) cX3_putEntry 5 RX3 ow_dm_X3_putEntry (dk_X3s ac)) (K : nd_Kv p l e (headSpec ow_dm_X3_putEntry ({ frames := 2, cells := 0, slots := 0, locals := 49 })).room s m args below meth c Q A (dC, dI) cX3_putEntry (St × (St)) (dw_X3s a ac) r) : dj_X3_putEntry_20 p l e s m args below meth c Q A dC dI a ac (df_X3_putEntry_20 n (a 0)) r := by
  obtain ⟨hlt, hx, hb, hml, hown, hts, hN, hA, hK⟩ := id C
  intro x1 y0 y1 s0 H locs ls h hP hD hS hl
  unfold df_X3_putEntry_20 at h
  refine W.lcmp hx hb dX3_putEntry_20 ?_
  refine lv_if_ne (tgt := 28) hx hb dX3_putEntry_21 (by decide) (fun c10 => ?_) (fun c10 => ?_)
  · have h := nd_neg h c10
    refine lv_iconst (v := 0) hx hb dX3_putEntry_28 (by decide) ?_
    exact (db_X3_putEntry_29 C K) (x1) (0) s0 _ _ _ h hP hD hS (lv_sub hl [0, 1] rfl)
  · have h := nd_pos h c10
    refine lv_iconst (v := 1) hx hb dX3_putEntry_24 (by decide) ?_
    refine lv_goto (tgt := 29) hx hb dX3_putEntry_25 (by decide) ?_
    exact (db_X3_putEntry_29 C K) (x1) (1) s0 _ _ _ h hP hD hS (lv_sub hl [0, 1] rfl)
set_option maxHeartbeats 40000000 in
set_option maxRecDepth 100000 in
theorem db_X3_putEntry_0 {p : Program} {l : Launch} {e : Env} {s : State} {m : MethodId} {args : Array Value} {below : List Frame} {meth : Method} {c : Code} {Q : State → Prop} {A : Nat → Prop} {dC : Nat → ClassId} {dI : Nat → Nat → Nat} {a : Nat → Nat} {ac : Nat → ClassId} {n : Nat} {r : St × (St)} (C : nd_C p l s m args c A (dC, dI) cX3_putEntry 5 RX3 ow_dm_X3_putEntry (dk_X3s ac)) (K : nd_Kv p l e (headSpec ow_dm_X3_putEntry ({ frames := 2, cells := 0, slots := 0, locals := 49 })).room s m args below meth c Q A (dC, dI) cX3_putEntry (St × (St)) (dw_X3s a ac) r) : dj_X3_putEntry_0 p l e s m args below meth c Q A dC dI a ac (df_X3_putEntry_0 n (a 0)) r := by
  obtain ⟨hlt, hx, hb, hml, hown, hts, hN, hA, hK⟩ := id C
  intro v0 s0 H locs ls h hP hD hS hl
  unfold df_X3_putEntry_0 at h
  refine lv_aload_n hx hb dX3_putEntry_0 rfl (lv_at hl 0 rfl) ?_
  refine lv_iload_n hx hb dX3_putEntry_1 rfl (lv_at hl 1 rfl) ?_
  obtain ⟨q1, s2, hq, h⟩ := nd_b2_e h
  have hPc := dp_X3s_1 hP
  have hDc := dd_X3s_1 hD
  have hKc := dy_X3s_1 hK
  have hFc := nd_rs hDc hS hA
  have hzA : ∀ q : Nat, H.size ≤ q → A q := fun q h => hA q (Nat.le_trans hS.1 h)
  refine nd_cVl (As := [.int v0]) (rest := []) (q := q1) (w' := dw_X3c (fun k => a (k + 1)) (fun k => ac (k + 1)) s2) ⟨hx, hb, hml, hown, hts⟩ (fun sz => dm_X3_difference l hlt dC dI (fun k => a (k + 1)) (fun k => ac (k + 1)) n (v0) s0.2 hq sz) (cwV 1 hts gi_dm_X3_putEntry_0 rfl rfl rfl (by decide +kernel) ⟨Nat.le_of_ble_eq_true rfl, Nat.le_of_ble_eq_true rfl⟩) hPc hDc hKc hS hA hN (va_recv hKc hPc (ci := 4) (q0 := 0) rfl rfl) rfl hl.1 rfl (Nat.le_of_ble_eq_true rfl) dX3_putEntry_2 (fun H locs hP1 hD1 hk1 hS => ?_)
  obtain ⟨hP, hD⟩ := dn_X3s_1 hP hD hzA hk1 hP1 hD1
  obtain ⟨s4, es4, h⟩ := nd_let_e h
  have hP : va_P (dC, dI) vwCl (dw_X3s a ac s4) H := by rw [es4]; exact hP
  have hD : va_D A (dw_X3s a ac s4) := by rw [es4]; exact hD
  refine lv_iload_n hx hb dX3_putEntry_5 rfl (lv_at hl 1 rfl) ?_
  refine lv_if_ne (tgt := 13) hx hb dX3_putEntry_6 (by decide) (fun c5 => ?_) (fun c5 => ?_)
  · have h := nd_neg h c5
    refine lv_aload_n hx hb dX3_putEntry_13 rfl (lv_at hl 0 rfl) ?_
    refine lv_iload_n hx hb dX3_putEntry_14 rfl (lv_at hl 1 rfl) ?_
    refine lv_iconst (v := 1) hx hb dX3_putEntry_15 (by decide) ?_
    refine lv_isub hx hb dX3_putEntry_16 ?_
    obtain ⟨q6, s7, hq, h⟩ := nd_b2_e h
    have hPc := dp_X3s_1 hP
    have hDc := dd_X3s_1 hD
    have hKc := dy_X3s_1 hK
    have hFc := nd_rs hDc hS hA
    have hzA : ∀ q : Nat, H.size ≤ q → A q := fun q h => hA q (Nat.le_trans hS.1 h)
    refine nd_cVl (As := [.int (v0 - 1)]) (rest := [.long q1]) (q := q6) (w' := dw_X3c (fun k => a (k + 1)) (fun k => ac (k + 1)) s7) ⟨hx, hb, hml, hown, hts⟩ (fun sz => dm_X3_difference l hlt dC dI (fun k => a (k + 1)) (fun k => ac (k + 1)) n ((v0 - 1)) s4.2 hq sz) (cwV 1 hts gi_dm_X3_putEntry_0 rfl rfl rfl (by decide +kernel) ⟨Nat.le_of_ble_eq_true rfl, Nat.le_of_ble_eq_true rfl⟩) hPc hDc hKc hS hA hN (va_recv hKc hPc (ci := 4) (q0 := 0) rfl rfl) rfl hl.1 rfl (Nat.le_of_ble_eq_true rfl) dX3_putEntry_17 (fun H locs hP1 hD1 hk1 hS => ?_)
    obtain ⟨hP, hD⟩ := dn_X3s_1 hP hD hzA hk1 hP1 hD1
    obtain ⟨s9, es9, h⟩ := nd_let_e h
    have hP : va_P (dC, dI) vwCl (dw_X3s a ac s9) H := by rw [es9]; exact hP
    have hD : va_D A (dw_X3s a ac s9) := by rw [es9]; exact hD
    exact (db_X3_putEntry_20 C K) (v0) (q1) (q6) s9 _ _ _ h hP hD hS (lv_sub hl [0, 1] rfl)
  · have h := nd_pos h c5
    refine lv_lconst (v := 0) hx hb dX3_putEntry_9 (by decide) ?_
    refine lv_goto (tgt := 20) hx hb dX3_putEntry_10 (by decide) ?_
    exact (db_X3_putEntry_20 C K) (v0) (q1) (0) s4 _ _ _ h hP hD hS (lv_sub hl [0, 1] rfl)
set_option maxHeartbeats 40000000 in
set_option maxRecDepth 100000 in
theorem dm_X3_putEntry (l : Launch) (hlt : l.stackTraces = false) (dC : Nat → ClassId) (dI : Nat → Nat → Nat) (a : Nat → Nat) (ac : Nat → ClassId) (n : Nat) (v0 : Int32) (s0 : St × (St)) {r : St × (St)} (h : df_X3_putEntry n (a 0) v0 s0 = some r) (sz : Nat) : Met l yX3_putEntry ow_dm_X3_putEntry ({ frames := 2, cells := 0, slots := 0, locals := 49 }) (va_Pc [.ref (a 1), .int v0] (fun U => U.heap.size = sz ∧ va_P (dC, dI) vwCl (dw_X3s a ac s0) U.heap ∧ va_K (dC, dI) vwCl (dk_X3s ac) U ∧ va_D (fun _ => True) (dw_X3s a ac s0) ∧ nv_E dI (va_A (dw_X3s a ac s0) sz) U)) (va_Qv (fun _ => True) (fun (_ : Unit) t => va_P (dC, dI) vwCl (dw_X3s a ac r) t.heap ∧ va_K (dC, dI) vwCl (dk_X3s ac) t ∧ va_D (va_A (dw_X3s a ac s0) sz) (dw_X3s a ac r)) (va_A (dw_X3s a ac s0) sz)) 0 0 (va_A (dw_X3s a ac s0) sz) := by
  refine Met.ofW (cc := cX3_putEntry) (maxL := 5) (ret := none) (by decide) rfl ?_
  intro p e s m args below meth c s₁ B hml hv
  obtain ⟨rfl, hsz, hP, hK, hD0, hN⟩ := hv
  have hx := B.exec
  have hb := B.bytes
  have hr := B.returns
  have hts := atoms_spec (ws := ow_dm_X3_putEntry) B.pre
  have hown : s.vm.findClass RX3 = some m.cls := findClass_of_methodNamed B.named
  have hlocks := B.notSynchronized
  subst hsz
  have hD := hD0.self (sz := s.heap.size)
  generalize hAe : va_A (dw_X3s a ac s0) s.heap.size = A at hD hN ⊢
  have hA : ∀ q : Nat, s.heap.size ≤ q → A q := fun q h => by rw [← hAe]; exact Or.inr h
  have hl := lv_entry ([.ref (a 1), .int v0]) (n := 5) (Nat.le_of_ble_eq_true rfl)
  rw [lg_entry_eq]
  generalize (lg_sl ([.ref (a 1), .int v0]) ++ List.replicate (5 - (lg_sl ([.ref (a 1), .int v0])).length) Slot.unset).toArray = ls at hl ⊢
  have hl : lv_has ls 5 [(0, .ref (a 1)), (1, .int v0)] := hl
  exact db_X3_putEntry_0 (dC := dC) (dI := dI) (a := a) (ac := ac) (n := n) (r := r) ⟨hlt, hx, hb, hml, hown, hts, hN, hA, hK⟩ (fun pc τ H locs ls d er hP hD hS => by subst er; exact W.vret hx hb hr (fun t ht hW => ⟨⟨(), rfl, trivial, by rw [ht]; exact hP, va_K.moved hW.alike hK, hD⟩, hS.F ht⟩) hS.2.2 d) v0 s0 _ _ _ h hP hD va_S.rf (lv_sub hl [0, 1] rfl)
def ow_dm_X3_writeLog : List Cond := Cond.code yX3_writeLog cX3_writeLog 4 (some .int) :: ([Cond.fieldLink RX3 23 "TimeMachine$Events" "row" "[B", Cond.fieldLink RX3 44 "TimeMachine$Events" "place" "I", Cond.fieldLink RX3 35 "TimeMachine$Events" "recorded" "I", Cond.methodLink RX3 47 yX3_putVarint, Cond.instanceMethod yX3_putVarint, Cond.selects RX3 yX3_putVarint yX3_putVarint, Cond.initialized RX3, Cond.methodLink RX3 51 yX3_likeBefore, Cond.instanceMethod yX3_likeBefore, Cond.selects RX3 yX3_likeBefore yX3_likeBefore, Cond.methodLink RX3 59 yX3_putByte, Cond.instanceMethod yX3_putByte, Cond.selects RX3 yX3_putByte yX3_putByte, Cond.methodLink RX3 55 yX3_putEntry, Cond.instanceMethod yX3_putEntry, Cond.selects RX3 yX3_putEntry yX3_putEntry] ++ (u_ws RX3 TX3 11 ++ (ow_dm_X3_putVarint ++ (ow_dm_X3_likeBefore ++ (ow_dm_X3_putByte ++ (ow_dm_X3_putEntry ++ []))))))
theorem gd_dm_X3_writeLog : ∀ w ∈ ow_dm_X3_writeLog, (w.onTables && w.keeps) = true ∨ ∃ ty, w = Cond.arrayClass ty := List.forall_mem_cons.mpr ⟨good_of_word rfl, List.forall_mem_append.mpr ⟨fun w h => good_of_word (List.all_eq_true.mp (by decide +kernel) w h), List.forall_mem_append.mpr ⟨gu_X3, List.forall_mem_append.mpr ⟨gd_dm_X3_putVarint, List.forall_mem_append.mpr ⟨gd_dm_X3_likeBefore, List.forall_mem_append.mpr ⟨gd_dm_X3_putByte, List.forall_mem_append.mpr ⟨gd_dm_X3_putEntry, fun _ h => nomatch h⟩⟩⟩⟩⟩⟩⟩
theorem hi_dm_X3_writeLog_X3 : ∀ w ∈ u_ws RX3 TX3 11, w ∈ ow_dm_X3_writeLog := fun w h => List.mem_cons_of_mem _ (List.mem_append_right _ (List.mem_append_left _ h))
theorem gi_dm_X3_writeLog_0 : GoodIn ow_dm_X3_writeLog (wsV RX3 47 RX3 yX3_putVarint ow_dm_X3_putVarint) := goodIn_app (goodIn_of _ (by decide +kernel)) (fun w h => ⟨List.mem_cons_of_mem _ (List.mem_append_right _ (List.mem_append_right _ (List.mem_append_left _ h))), gd_dm_X3_putVarint w h⟩)
theorem gi_dm_X3_writeLog_1 : GoodIn ow_dm_X3_writeLog (wsV RX3 51 RX3 yX3_likeBefore ow_dm_X3_likeBefore) := goodIn_app (goodIn_of _ (by decide +kernel)) (fun w h => ⟨List.mem_cons_of_mem _ (List.mem_append_right _ (List.mem_append_right _ (List.mem_append_right _ (List.mem_append_left _ h)))), gd_dm_X3_likeBefore w h⟩)
theorem gi_dm_X3_writeLog_2 : GoodIn ow_dm_X3_writeLog (wsV RX3 59 RX3 yX3_putByte ow_dm_X3_putByte) := goodIn_app (goodIn_of _ (by decide +kernel)) (fun w h => ⟨List.mem_cons_of_mem _ (List.mem_append_right _ (List.mem_append_right _ (List.mem_append_right _ (List.mem_append_right _ (List.mem_append_left _ h))))), gd_dm_X3_putByte w h⟩)
theorem gi_dm_X3_writeLog_3 : GoodIn ow_dm_X3_writeLog (wsV RX3 55 RX3 yX3_putEntry ow_dm_X3_putEntry) := goodIn_app (goodIn_of _ (by decide +kernel)) (fun w h => ⟨List.mem_cons_of_mem _ (List.mem_append_right _ (List.mem_append_right _ (List.mem_append_right _ (List.mem_append_right _ (List.mem_append_right _ (List.mem_append_left _ h)))))), gd_dm_X3_putEntry w h⟩)
def dj_X3_writeLog_85 (p : Program) (l : Launch) (e : Env) (s : State) (m : MethodId) (args : Array Value) (below : List Frame) (meth : Method) (c : Code) (Q : State → Prop) (A : Nat → Prop) (dC : Nat → ClassId) (dI : Nat → Nat → Nat) (a : Nat → Nat) (ac : Nat → ClassId) (g : Int32 → (St × (St)) → Option (Int32 × (St × (St)))) (r : Int32 × (St × (St))) : Prop := ∀ (x2 : Int32) (s0 : St × (St)) (H : Heap) (locs : List Loc) (ls : Array Slot), g x2 s0 = some r → va_P (dC, dI) vwCl (dw_X3s a ac s0) H → va_D A (dw_X3s a ac s0) → va_S A s.heap H locs → lv_has ls 4 [(0, .ref (a 1)), (2, .int x2)] → W p l e (headSpec ow_dm_X3_writeLog ({ frames := 3, cells := 0, slots := 0, locals := 73 })).room s m args below meth c H locs 0 0 Q (F0 m 85 ls [])
def dj_X3_writeLog_81 (p : Program) (l : Launch) (e : Env) (s : State) (m : MethodId) (args : Array Value) (below : List Frame) (meth : Method) (c : Code) (Q : State → Prop) (A : Nat → Prop) (dC : Nat → ClassId) (dI : Nat → Nat → Nat) (a : Nat → Nat) (ac : Nat → ClassId) (g : Int32 → Int32 → (St × (St)) → Option (Int32 × (St × (St)))) (r : Int32 × (St × (St))) : Prop := ∀ (x2 : Int32) (x3 : Int32) (s0 : St × (St)) (H : Heap) (locs : List Loc) (ls : Array Slot), g x2 x3 s0 = some r → va_P (dC, dI) vwCl (dw_X3s a ac s0) H → va_D A (dw_X3s a ac s0) → va_S A s.heap H locs → lv_has ls 4 [(0, .ref (a 1)), (2, .int x2), (3, .int x3)] → W p l e (headSpec ow_dm_X3_writeLog ({ frames := 3, cells := 0, slots := 0, locals := 73 })).room s m args below meth c H locs 0 0 Q (F0 m 81 ls [])
def dj_X3_writeLog_65 (p : Program) (l : Launch) (e : Env) (s : State) (m : MethodId) (args : Array Value) (below : List Frame) (meth : Method) (c : Code) (Q : State → Prop) (A : Nat → Prop) (dC : Nat → ClassId) (dI : Nat → Nat → Nat) (a : Nat → Nat) (ac : Nat → ClassId) (g : Int32 → Int32 → Int32 → Int32 → (St × (St)) → Option (Int32 × (St × (St)))) (r : Int32 × (St × (St))) : Prop := ∀ (x2 : Int32) (x3 : Int32) (y1 : Int32) (y2 : Int32) (s0 : St × (St)) (H : Heap) (locs : List Loc) (ls : Array Slot), g x2 x3 y1 y2 s0 = some r → va_P (dC, dI) vwCl (dw_X3s a ac s0) H → va_D A (dw_X3s a ac s0) → va_S A s.heap H locs → lv_has ls 4 [(0, .ref (a 1)), (2, .int x2), (3, .int x3)] → W p l e (headSpec ow_dm_X3_writeLog ({ frames := 3, cells := 0, slots := 0, locals := 73 })).room s m args below meth c H locs 0 0 Q (F0 m 65 ls [.int y2, .int y1, .ref (a 1)])
def dj_X3_writeLog_21 (p : Program) (l : Launch) (e : Env) (s : State) (m : MethodId) (args : Array Value) (below : List Frame) (meth : Method) (c : Code) (Q : State → Prop) (A : Nat → Prop) (dC : Nat → ClassId) (dI : Nat → Nat → Nat) (a : Nat → Nat) (ac : Nat → ClassId) (g : Int32 → (St × (St)) → Option (Int32 × (St × (St)))) (r : Int32 × (St × (St))) : Prop := ∀ (x2 : Int32) (s0 : St × (St)) (H : Heap) (locs : List Loc) (ls : Array Slot), g x2 s0 = some r → va_P (dC, dI) vwCl (dw_X3s a ac s0) H → va_D A (dw_X3s a ac s0) → va_S A s.heap H locs → lv_has ls 4 [(0, .ref (a 1)), (2, .int x2)] → W p l e (headSpec ow_dm_X3_writeLog ({ frames := 3, cells := 0, slots := 0, locals := 73 })).room s m args below meth c H locs 0 0 Q (F0 m 21 ls [])
def dj_X3_writeLog_0 (p : Program) (l : Launch) (e : Env) (s : State) (m : MethodId) (args : Array Value) (below : List Frame) (meth : Method) (c : Code) (Q : State → Prop) (A : Nat → Prop) (dC : Nat → ClassId) (dI : Nat → Nat → Nat) (a : Nat → Nat) (ac : Nat → ClassId) (g : (St × (St)) → Option (Int32 × (St × (St)))) (r : Int32 × (St × (St))) : Prop := ∀ (s0 : St × (St)) (H : Heap) (locs : List Loc) (ls : Array Slot), g s0 = some r → va_P (dC, dI) vwCl (dw_X3s a ac s0) H → va_D A (dw_X3s a ac s0) → va_S A s.heap H locs → lv_has ls 4 [(0, .ref (a 1)), (1, .ref (a 0))] → W p l e (headSpec ow_dm_X3_writeLog ({ frames := 3, cells := 0, slots := 0, locals := 73 })).room s m args below meth c H locs 0 0 Q (F0 m 0 ls [])
set_option maxHeartbeats 40000000 in
set_option maxRecDepth 100000 in
theorem db_X3_writeLog_85 {p : Program} {l : Launch} {e : Env} {s : State} {m : MethodId} {args : Array Value} {below : List Frame} {meth : Method} {c : Code} {Q : State → Prop} {A : Nat → Prop} {dC : Nat → ClassId} {dI : Nat → Nat → Nat} {a : Nat → Nat} {ac : Nat → ClassId} {n : Nat} {r : Int32 × (St × (St))} (C : nd_C p l s m args c A (dC, dI) cX3_writeLog 4 RX3 ow_dm_X3_writeLog (dk_X3s ac)) (K : nd_Ki p l e (headSpec ow_dm_X3_writeLog ({ frames := 3, cells := 0, slots := 0, locals := 73 })).room s m args below meth c Q A (dC, dI) cX3_writeLog .int (St × (St)) (dw_X3s a ac) r) {g21 : Int32 → (St × (St)) → Option (Int32 × (St × (St)))} (J21 : dj_X3_writeLog_21 p l e s m args below meth c Q A dC dI a ac g21 r) : dj_X3_writeLog_85 p l e s m args below meth c Q A dC dI a ac (df_X3_writeLog_85 n (a 0) g21) r := by
  obtain ⟨hlt, hx, hb, hml, hown, hts, hN, hA, hK⟩ := id C
  intro x2 s0 H locs ls h hP hD hS hl
  unfold df_X3_writeLog_85 at h
  refine lv_goto (tgt := 21) hx hb dX3_writeLog_85 (by decide) ?_
  exact (J21) (x2) s0 _ _ _ h hP hD hS (lv_sub hl [0, 1] rfl)
set_option maxHeartbeats 40000000 in
set_option maxRecDepth 100000 in
theorem db_X3_writeLog_81 {p : Program} {l : Launch} {e : Env} {s : State} {m : MethodId} {args : Array Value} {below : List Frame} {meth : Method} {c : Code} {Q : State → Prop} {A : Nat → Prop} {dC : Nat → ClassId} {dI : Nat → Nat → Nat} {a : Nat → Nat} {ac : Nat → ClassId} {n : Nat} {r : Int32 × (St × (St))} (C : nd_C p l s m args c A (dC, dI) cX3_writeLog 4 RX3 ow_dm_X3_writeLog (dk_X3s ac)) (K : nd_Ki p l e (headSpec ow_dm_X3_writeLog ({ frames := 3, cells := 0, slots := 0, locals := 73 })).room s m args below meth c Q A (dC, dI) cX3_writeLog .int (St × (St)) (dw_X3s a ac) r) {g21 : Int32 → (St × (St)) → Option (Int32 × (St × (St)))} (J21 : dj_X3_writeLog_21 p l e s m args below meth c Q A dC dI a ac g21 r) : dj_X3_writeLog_81 p l e s m args below meth c Q A dC dI a ac (df_X3_writeLog_81 n (a 0) g21) r := by
  obtain ⟨hlt, hx, hb, hml, hown, hts, hN, hA, hK⟩ := id C
  intro x2 x3 s0 H locs ls h hP hD hS hl
  unfold df_X3_writeLog_81 at h
  refine lv_iload_n hx hb dX3_writeLog_81 rfl (lv_at hl 1 rfl) ?_
  refine lv_iload_n hx hb dX3_writeLog_82 rfl (lv_at hl 2 rfl) ?_
  refine lv_iadd hx hb dX3_writeLog_83 ?_
  refine lv_topi (fun z17 ez17 => ?_)
  have h := nd_at h ez17
  refine lv_istore_n (lv' := [(2, .int z17), (0, .ref (a 1)), (3, .int x3)]) hx hb dX3_writeLog_84 rfl hl (by decide) rfl (fun ls hl => ?_)
  exact (db_X3_writeLog_85 C K J21) (z17) s0 _ _ _ h hP hD hS (lv_sub hl [1, 0] rfl)
set_option maxHeartbeats 40000000 in
set_option maxRecDepth 100000 in
theorem db_X3_writeLog_65 {p : Program} {l : Launch} {e : Env} {s : State} {m : MethodId} {args : Array Value} {below : List Frame} {meth : Method} {c : Code} {Q : State → Prop} {A : Nat → Prop} {dC : Nat → ClassId} {dI : Nat → Nat → Nat} {a : Nat → Nat} {ac : Nat → ClassId} {n : Nat} {r : Int32 × (St × (St))} (C : nd_C p l s m args c A (dC, dI) cX3_writeLog 4 RX3 ow_dm_X3_writeLog (dk_X3s ac)) (K : nd_Ki p l e (headSpec ow_dm_X3_writeLog ({ frames := 3, cells := 0, slots := 0, locals := 73 })).room s m args below meth c Q A (dC, dI) cX3_writeLog .int (St × (St)) (dw_X3s a ac) r) {g21 : Int32 → (St × (St)) → Option (Int32 × (St × (St)))} (J21 : dj_X3_writeLog_21 p l e s m args below meth c Q A dC dI a ac g21 r) : dj_X3_writeLog_65 p l e s m args below meth c Q A dC dI a ac (df_X3_writeLog_65 n (a 0) g21) r := by
  obtain ⟨hlt, hx, hb, hml, hown, hts, hN, hA, hK⟩ := id C
  intro x2 x3 y1 y2 s0 H locs ls h hP hD hS hl
  unfold df_X3_writeLog_65 at h
  refine lv_ior hx hb dX3_writeLog_65 ?_
  obtain ⟨s14, hq, h⟩ := nd_b1_e h
  have hPc := hP
  have hDc := hD
  have hKc := hK
  have hFc := nd_rs hD hS hA
  refine nd_cVv (As := [.int (y1 ||| y2)]) (rest := []) (w' := dw_X3s a ac s14) ⟨hx, hb, hml, hown, hts⟩ (fun sz => dm_X3_putByte l hlt dC dI a ac n ((y1 ||| y2)) s0 hq sz) (cwV 1 hts gi_dm_X3_writeLog_2 rfl rfl rfl (by decide +kernel) ⟨Nat.le_of_ble_eq_true rfl, Nat.le_of_ble_eq_true rfl⟩) hPc hDc hKc hS hA hN (va_recv hKc hPc (ci := 4) (q0 := 1) rfl rfl) rfl hl.1 rfl (Nat.le_of_ble_eq_true rfl) dX3_writeLog_66 (fun H locs hP1 hD1 hk1 hS => ?_)
  have hP := hP1
  have hD := hD1.weaken (fun k q _ h => hFc q.1 h)
  refine lv_iload_n hx hb dX3_writeLog_69 rfl (lv_at hl 2 rfl) ?_
  refine lv_bipush (v := 15) hx hb dX3_writeLog_70 (by decide) ?_
  refine lv_icmp_le (tgt := 81) hx hb dX3_writeLog_72 (by decide) (fun c16 => ?_) (fun c16 => ?_)
  · have h := nd_pos h c16
    exact (db_X3_writeLog_81 C K J21) (x2) (x3) s14 _ _ _ h hP hD hS (lv_sub hl [0, 1, 2] rfl)
  · have h := nd_neg h c16
    refine lv_aload_n hx hb dX3_writeLog_75 rfl (lv_at hl 0 rfl) ?_
    refine lv_iload_n hx hb dX3_writeLog_76 rfl (lv_at hl 2 rfl) ?_
    refine lv_i2l hx hb dX3_writeLog_77 rfl ?_
    obtain ⟨s19, hq, h⟩ := nd_b1_e h
    have hPc := hP
    have hDc := hD
    have hKc := hK
    have hFc := nd_rs hD hS hA
    refine nd_cVv (As := [.long (x3.toInt64)]) (rest := []) (w' := dw_X3s a ac s19) ⟨hx, hb, hml, hown, hts⟩ (fun sz => dm_X3_putVarint l hlt dC dI a ac n ((x3.toInt64)) s14 hq sz) (cwV 1 hts gi_dm_X3_writeLog_0 rfl rfl rfl (by decide +kernel) ⟨Nat.le_of_ble_eq_true rfl, Nat.le_of_ble_eq_true rfl⟩) hPc hDc hKc hS hA hN (va_recv hKc hPc (ci := 4) (q0 := 1) rfl rfl) rfl hl.1 rfl (Nat.le_of_ble_eq_true rfl) dX3_writeLog_78 (fun H locs hP1 hD1 hk1 hS => ?_)
    have hP := hP1
    have hD := hD1.weaken (fun k q _ h => hFc q.1 h)
    exact (db_X3_writeLog_81 C K J21) (x2) (x3) s19 _ _ _ h hP hD hS (lv_sub hl [0, 1, 2] rfl)
set_option maxHeartbeats 40000000 in
set_option maxRecDepth 100000 in
theorem dB_X3_writeLog_21 {p : Program} {l : Launch} {e : Env} {s : State} {m : MethodId} {args : Array Value} {below : List Frame} {meth : Method} {c : Code} {Q : State → Prop} {A : Nat → Prop} {dC : Nat → ClassId} {dI : Nat → Nat → Nat} {a : Nat → Nat} {ac : Nat → ClassId} {n : Nat} {r : Int32 × (St × (St))} (C : nd_C p l s m args c A (dC, dI) cX3_writeLog 4 RX3 ow_dm_X3_writeLog (dk_X3s ac)) (K : nd_Ki p l e (headSpec ow_dm_X3_writeLog ({ frames := 3, cells := 0, slots := 0, locals := 73 })).room s m args below meth c Q A (dC, dI) cX3_writeLog .int (St × (St)) (dw_X3s a ac) r) {g21 : Int32 → (St × (St)) → Option (Int32 × (St × (St)))} (J21 : dj_X3_writeLog_21 p l e s m args below meth c Q A dC dI a ac g21 r) : dj_X3_writeLog_21 p l e s m args below meth c Q A dC dI a ac (dF_X3_writeLog_21 n (a 0) g21) r := by
  obtain ⟨hlt, hx, hb, hml, hown, hts, hN, hA, hK⟩ := id C
  intro x2 s0 H locs ls h hP hD hS hl
  unfold dF_X3_writeLog_21 at h
  refine lv_iload_n hx hb dX3_writeLog_21 rfl (lv_at hl 1 rfl) ?_
  refine lv_aload_n hx hb dX3_writeLog_22 rfl (lv_at hl 0 rfl) ?_
  refine va_get (D := (dC, dI)) (ci := 4) (v := .int (sI s0.2 0)) (C := RX3) (T := TX3) (N := 11) hx hb hts hi_dm_X3_writeLog_X3 hown hK hP 1 rfl rfl 4 (by decide) (hts (.fieldLink RX3 35 "TimeMachine$Events" "recorded" "I") (List.mem_of_getElem? (i := 3) rfl)) (fun _ h9 => h9) rfl dX3_writeLog_23 ?_
  refine lv_icmp_ge (tgt := 88) hx hb dX3_writeLog_26 (by decide) (fun c6 => ?_) (fun c6 => ?_)
  · have h := nd_pos h c6
    refine lv_aload_n hx hb dX3_writeLog_88 rfl (lv_at hl 0 rfl) ?_
    refine va_get (D := (dC, dI)) (ci := 4) (v := .int (sI s0.2 2)) (C := RX3) (T := TX3) (N := 11) hx hb hts hi_dm_X3_writeLog_X3 hown hK hP 1 rfl rfl 7 (by decide) (hts (.fieldLink RX3 44 "TimeMachine$Events" "place" "I") (List.mem_of_getElem? (i := 2) rfl)) (fun _ h9 => h9) rfl dX3_writeLog_89 ?_
    exact K _ _ _ _ _ _ dX3_writeLog_92 rfl (Option.some.inj h).symm hP hD hS
  · have h := nd_neg h c6
    refine lv_aload_n hx hb dX3_writeLog_29 rfl (lv_at hl 0 rfl) ?_
    refine lv_iload_n hx hb dX3_writeLog_30 rfl (lv_at hl 1 rfl) ?_
    obtain ⟨q7, s8, hq, h⟩ := nd_b2_e h
    have hPc := dp_X3s_1 hP
    have hDc := dd_X3s_1 hD
    have hKc := dy_X3s_1 hK
    have hFc := nd_rs hDc hS hA
    have hzA : ∀ q : Nat, H.size ≤ q → A q := fun q h => hA q (Nat.le_trans hS.1 h)
    refine nd_cVi (As := [.int x2]) (rest := []) (q := q7) (w' := dw_X3c (fun k => a (k + 1)) (fun k => ac (k + 1)) s8) ⟨hx, hb, hml, hown, hts⟩ (fun sz => dm_X3_likeBefore l hlt dC dI (fun k => a (k + 1)) (fun k => ac (k + 1)) n (x2) s0.2 hq sz) (cwV 1 hts gi_dm_X3_writeLog_1 rfl rfl rfl (by decide +kernel) ⟨Nat.le_of_ble_eq_true rfl, Nat.le_of_ble_eq_true rfl⟩) hPc hDc hKc hS hA hN (va_recv hKc hPc (ci := 4) (q0 := 0) rfl rfl) rfl hl.1 rfl (Nat.le_of_ble_eq_true rfl) dX3_writeLog_31 (fun H locs hP1 hD1 hk1 hS => ?_)
    obtain ⟨hP, hD⟩ := dn_X3s_1 hP hD hzA hk1 hP1 hD1
    obtain ⟨s10, es10, h⟩ := nd_let_e h
    have hP : va_P (dC, dI) vwCl (dw_X3s a ac s10) H := by rw [es10]; exact hP
    have hD : va_D A (dw_X3s a ac s10) := by rw [es10]; exact hD
    refine lv_istore_n (lv' := [(3, .int q7), (0, .ref (a 1)), (2, .int x2)]) hx hb dX3_writeLog_34 rfl hl (by decide) rfl (fun ls hl => ?_)
    refine lv_iload_n hx hb dX3_writeLog_35 rfl (lv_at hl 0 rfl) ?_
    refine lv_if_ne (tgt := 50) hx hb dX3_writeLog_36 (by decide) (fun c11 => ?_) (fun c11 => ?_)
    · have h := nd_neg h c11
      refine lv_aload_n hx hb dX3_writeLog_50 rfl (lv_at hl 1 rfl) ?_
      refine lv_iconst (v := 5) hx hb dX3_writeLog_51 (by decide) ?_
      refine lv_iload_n hx hb dX3_writeLog_52 rfl (lv_at hl 0 rfl) ?_
      refine lv_bipush (v := 15) hx hb dX3_writeLog_53 (by decide) ?_
      refine lv_icmp_gt (tgt := 64) hx hb dX3_writeLog_55 (by decide) (fun c12 => ?_) (fun c12 => ?_)
      · have h := nd_pos h c12
        refine lv_iconst (v := 0) hx hb dX3_writeLog_64 (by decide) ?_
        exact (db_X3_writeLog_65 C K J21) (x2) (q7) (5) (0) s10 _ _ _ h hP hD hS (lv_sub hl [1, 2, 0] rfl)
      · have h := nd_neg h c12
        refine lv_iload_n hx hb dX3_writeLog_58 rfl (lv_at hl 0 rfl) ?_
        refine lv_iconst (v := 4) hx hb dX3_writeLog_59 (by decide) ?_
        refine lv_ishl hx hb dX3_writeLog_60 ?_
        refine lv_goto (tgt := 65) hx hb dX3_writeLog_61 (by decide) ?_
        exact (db_X3_writeLog_65 C K J21) (x2) (q7) (5) (((q7 : Int32) <<< ((4 : Int32) &&& 31))) s10 _ _ _ h hP hD hS (lv_sub hl [1, 2, 0] rfl)
    · have h := nd_pos h c11
      refine lv_aload_n hx hb dX3_writeLog_39 rfl (lv_at hl 1 rfl) ?_
      refine lv_iload_n hx hb dX3_writeLog_40 rfl (lv_at hl 2 rfl) ?_
      obtain ⟨s22, hq, h⟩ := nd_b1_e h
      have hPc := hP
      have hDc := hD
      have hKc := hK
      have hFc := nd_rs hD hS hA
      refine nd_cVv (As := [.int x2]) (rest := []) (w' := dw_X3s a ac s22) ⟨hx, hb, hml, hown, hts⟩ (fun sz => dm_X3_putEntry l hlt dC dI a ac n (x2) s10 hq sz) (cwV 1 hts gi_dm_X3_writeLog_3 rfl rfl rfl (by decide +kernel) ⟨Nat.le_of_ble_eq_true rfl, Nat.le_of_ble_eq_true rfl⟩) hPc hDc hKc hS hA hN (va_recv hKc hPc (ci := 4) (q0 := 1) rfl rfl) rfl hl.1 rfl (Nat.le_of_ble_eq_true rfl) dX3_writeLog_41 (fun H locs hP1 hD1 hk1 hS => ?_)
      have hP := hP1
      have hD := hD1.weaken (fun k q _ h => hFc q.1 h)
      obtain ⟨z24, ez24, h⟩ := nd_let_e h
      refine lv_iinc (v := z24) (lv' := [(2, .int z24), (3, .int q7), (0, .ref (a 1))]) hx hb dX3_writeLog_44 hl (k := 2) rfl (by rw [ez24]) (by decide) rfl (fun ls hl => ?_)
      refine lv_goto (tgt := 85) hx hb dX3_writeLog_47 (by decide) ?_
      exact (db_X3_writeLog_85 C K J21) (z24) s22 _ _ _ h hP hD hS (lv_sub hl [2, 0] rfl)
set_option maxHeartbeats 40000000 in
set_option maxRecDepth 100000 in
theorem db_X3_writeLog_21 {p : Program} {l : Launch} {e : Env} {s : State} {m : MethodId} {args : Array Value} {below : List Frame} {meth : Method} {c : Code} {Q : State → Prop} {A : Nat → Prop} {dC : Nat → ClassId} {dI : Nat → Nat → Nat} {a : Nat → Nat} {ac : Nat → ClassId} {n : Nat} {r : Int32 × (St × (St))} (C : nd_C p l s m args c A (dC, dI) cX3_writeLog 4 RX3 ow_dm_X3_writeLog (dk_X3s ac)) (K : nd_Ki p l e (headSpec ow_dm_X3_writeLog ({ frames := 3, cells := 0, slots := 0, locals := 73 })).room s m args below meth c Q A (dC, dI) cX3_writeLog .int (St × (St)) (dw_X3s a ac) r) (k : Nat) : dj_X3_writeLog_21 p l e s m args below meth c Q A dC dI a ac (df_X3_writeLog_21 n (a 0) k) r := by
  induction k with
  | zero => intro x2 s0 H locs ls h; exact nomatch (show (none : Option (Int32 × (St × (St)))) = some r from h)
  | succ k ih => exact dB_X3_writeLog_21 C K ih
set_option maxHeartbeats 40000000 in
set_option maxRecDepth 100000 in
theorem db_X3_writeLog_0 {p : Program} {l : Launch} {e : Env} {s : State} {m : MethodId} {args : Array Value} {below : List Frame} {meth : Method} {c : Code} {Q : State → Prop} {A : Nat → Prop} {dC : Nat → ClassId} {dI : Nat → Nat → Nat} {a : Nat → Nat} {ac : Nat → ClassId} {n : Nat} {r : Int32 × (St × (St))} (C : nd_C p l s m args c A (dC, dI) cX3_writeLog 4 RX3 ow_dm_X3_writeLog (dk_X3s ac)) (K : nd_Ki p l e (headSpec ow_dm_X3_writeLog ({ frames := 3, cells := 0, slots := 0, locals := 73 })).room s m args below meth c Q A (dC, dI) cX3_writeLog .int (St × (St)) (dw_X3s a ac) r) : dj_X3_writeLog_0 p l e s m args below meth c Q A dC dI a ac (df_X3_writeLog_0 n (a 0)) r := by
  obtain ⟨hlt, hx, hb, hml, hown, hts, hN, hA, hK⟩ := id C
  intro s0 H locs ls h hP hD hS hl
  unfold df_X3_writeLog_0 at h
  refine lv_aload_n hx hb dX3_writeLog_0 rfl (lv_at hl 0 rfl) ?_
  refine lv_aload_n hx hb dX3_writeLog_1 rfl (lv_at hl 1 rfl) ?_
  refine va_put (D := (dC, dI)) (ci := 4) (v := .ref (a 0)) (ty := .array .byte) (C := RX3) (T := TX3) (N := 11) hx hb hts hi_dm_X3_writeLog_X3 tyX3 tyX3_ok nmX3 hown hK hP hD hS 1 rfl rfl 6 (by decide) (hts (.fieldLink RX3 23 "TimeMachine$Events" "row" "[B") (List.mem_of_getElem? (i := 1) rfl)) (fun _ h9 => h9) rfl (by decide +kernel) rfl rfl (Nat.le_of_ble_eq_true rfl) dX3_writeLog_2 (fun H locs hP hD hS => ?_)
  obtain ⟨s1, es1, h⟩ := nd_let_e h
  have hP : va_P (dC, dI) vwCl (dw_X3s a ac s1) H := by rw [es1]; exact hP
  have hD : va_D A (dw_X3s a ac s1) := by rw [es1]; exact hD
  refine lv_aload_n hx hb dX3_writeLog_5 rfl (lv_at hl 0 rfl) ?_
  refine lv_iconst (v := 0) hx hb dX3_writeLog_6 (by decide) ?_
  refine va_put (D := (dC, dI)) (ci := 4) (v := .int 0) (ty := .int) (C := RX3) (T := TX3) (N := 11) hx hb hts hi_dm_X3_writeLog_X3 tyX3 tyX3_ok nmX3 hown hK hP hD hS 1 rfl rfl 7 (by decide) (hts (.fieldLink RX3 44 "TimeMachine$Events" "place" "I") (List.mem_of_getElem? (i := 2) rfl)) (fun _ h9 => h9) rfl (by decide +kernel) rfl rfl (Nat.le_of_ble_eq_true rfl) dX3_writeLog_7 (fun H locs hP hD hS => ?_)
  obtain ⟨s2, es2, h⟩ := nd_let_e h
  have hP : va_P (dC, dI) vwCl (dw_X3s a ac s2) H := by rw [es2]; exact hP
  have hD : va_D A (dw_X3s a ac s2) := by rw [es2]; exact hD
  refine lv_aload_n hx hb dX3_writeLog_10 rfl (lv_at hl 0 rfl) ?_
  refine lv_aload_n hx hb dX3_writeLog_11 rfl (lv_at hl 0 rfl) ?_
  refine va_get (D := (dC, dI)) (ci := 4) (v := .int (sI s2.2 0)) (C := RX3) (T := TX3) (N := 11) hx hb hts hi_dm_X3_writeLog_X3 hown hK hP 1 rfl rfl 4 (by decide) (hts (.fieldLink RX3 35 "TimeMachine$Events" "recorded" "I") (List.mem_of_getElem? (i := 3) rfl)) (fun _ h9 => h9) rfl dX3_writeLog_12 ?_
  refine lv_i2l hx hb dX3_writeLog_15 rfl ?_
  obtain ⟨s4, hq, h⟩ := nd_b1_e h
  have hPc := hP
  have hDc := hD
  have hKc := hK
  have hFc := nd_rs hD hS hA
  refine nd_cVv (As := [.long (((sI s2.2 0) : Int32).toInt64)]) (rest := []) (w' := dw_X3s a ac s4) ⟨hx, hb, hml, hown, hts⟩ (fun sz => dm_X3_putVarint l hlt dC dI a ac n ((((sI s2.2 0) : Int32).toInt64)) s2 hq sz) (cwV 1 hts gi_dm_X3_writeLog_0 rfl rfl rfl (by decide +kernel) ⟨Nat.le_of_ble_eq_true rfl, Nat.le_of_ble_eq_true rfl⟩) hPc hDc hKc hS hA hN (va_recv hKc hPc (ci := 4) (q0 := 1) rfl rfl) rfl hl.1 rfl (Nat.le_of_ble_eq_true rfl) dX3_writeLog_16 (fun H locs hP1 hD1 hk1 hS => ?_)
  have hP := hP1
  have hD := hD1.weaken (fun k q _ h => hFc q.1 h)
  refine lv_iconst (v := 0) hx hb dX3_writeLog_19 (by decide) ?_
  refine lv_istore_n (lv' := [(2, .int 0), (0, .ref (a 1)), (1, .ref (a 0))]) hx hb dX3_writeLog_20 rfl hl (by decide) rfl (fun ls hl => ?_)
  exact (db_X3_writeLog_21 C K n) (0) s4 _ _ _ h hP hD hS (lv_sub hl [1, 0] rfl)
set_option maxHeartbeats 40000000 in
set_option maxRecDepth 100000 in
theorem dm_X3_writeLog (l : Launch) (hlt : l.stackTraces = false) (dC : Nat → ClassId) (dI : Nat → Nat → Nat) (a : Nat → Nat) (ac : Nat → ClassId) (n : Nat) (s0 : St × (St)) {r : Int32 × (St × (St))} (h : df_X3_writeLog n (a 0) s0 = some r) (sz : Nat) : Met l yX3_writeLog ow_dm_X3_writeLog ({ frames := 3, cells := 0, slots := 0, locals := 73 }) (va_Pc [.ref (a 1), .ref (a 0)] (fun U => U.heap.size = sz ∧ va_P (dC, dI) vwCl (dw_X3s a ac s0) U.heap ∧ va_K (dC, dI) vwCl (dk_X3s ac) U ∧ va_D (fun _ => True) (dw_X3s a ac s0) ∧ nv_E dI (va_A (dw_X3s a ac s0) sz) U)) (va_Qi (fun x _ => x = r.1) (fun (_ : Unit) t => va_P (dC, dI) vwCl (dw_X3s a ac r.2) t.heap ∧ va_K (dC, dI) vwCl (dk_X3s ac) t ∧ va_D (va_A (dw_X3s a ac s0) sz) (dw_X3s a ac r.2)) (va_A (dw_X3s a ac s0) sz)) 0 0 (va_A (dw_X3s a ac s0) sz) := by
  refine Met.ofW (cc := cX3_writeLog) (maxL := 4) (ret := (some .int)) (by decide) rfl ?_
  intro p e s m args below meth c s₁ B hml hv
  obtain ⟨rfl, hsz, hP, hK, hD0, hN⟩ := hv
  have hx := B.exec
  have hb := B.bytes
  have hr := B.returns
  have hts := atoms_spec (ws := ow_dm_X3_writeLog) B.pre
  have hown : s.vm.findClass RX3 = some m.cls := findClass_of_methodNamed B.named
  have hlocks := B.notSynchronized
  subst hsz
  have hD := hD0.self (sz := s.heap.size)
  generalize hAe : va_A (dw_X3s a ac s0) s.heap.size = A at hD hN ⊢
  have hA : ∀ q : Nat, s.heap.size ≤ q → A q := fun q h => by rw [← hAe]; exact Or.inr h
  have hl := lv_entry ([.ref (a 1), .ref (a 0)]) (n := 4) (Nat.le_of_ble_eq_true rfl)
  rw [lg_entry_eq]
  generalize (lg_sl ([.ref (a 1), .ref (a 0)]) ++ List.replicate (4 - (lg_sl ([.ref (a 1), .ref (a 0)])).length) Slot.unset).toArray = ls at hl ⊢
  have hl : lv_has ls 4 [(0, .ref (a 1)), (1, .ref (a 0))] := hl
  exact db_X3_writeLog_0 (dC := dC) (dI := dI) (a := a) (ac := ac) (n := n) (r := r) ⟨hlt, hx, hb, hml, hown, hts, hN, hA, hK⟩ (fun pc v τ H locs ls d z er hP hD hS => by subst er; exact W.zret (v := v) hx hb hr z (fun t ht hW => ⟨⟨v, (), rfl, rfl, by rw [ht]; exact hP, va_K.moved hW.alike hK, hD⟩, hS.F ht⟩) hS.2.2 d) s0 _ _ _ h hP hD va_S.rf (lv_sub hl [0, 1] rfl)
def ow_dm_X3_blame : List Cond := Cond.code yX3_blame cX3_blame 3 none :: ([Cond.fieldLink RX3 95 "TimeMachine$Events" "fault" "I", Cond.fieldLink RX3 114 "TimeMachine$Events" "faultPlace" "I"] ++ (u_ws RX3 TX3 11 ++ []))
theorem gd_dm_X3_blame : ∀ w ∈ ow_dm_X3_blame, (w.onTables && w.keeps) = true ∨ ∃ ty, w = Cond.arrayClass ty := List.forall_mem_cons.mpr ⟨good_of_word rfl, List.forall_mem_append.mpr ⟨fun w h => good_of_word (List.all_eq_true.mp (by decide +kernel) w h), List.forall_mem_append.mpr ⟨gu_X3, fun _ h => nomatch h⟩⟩⟩
theorem hi_dm_X3_blame_X3 : ∀ w ∈ u_ws RX3 TX3 11, w ∈ ow_dm_X3_blame := fun w h => List.mem_cons_of_mem _ (List.mem_append_right _ (List.mem_append_left _ h))
def dj_X3_blame_17 (p : Program) (l : Launch) (e : Env) (s : State) (m : MethodId) (args : Array Value) (below : List Frame) (meth : Method) (c : Code) (Q : State → Prop) (A : Nat → Prop) (dC : Nat → ClassId) (dI : Nat → Nat → Nat) (a : Nat → Nat) (ac : Nat → ClassId) (g : (St) → Option (St)) (r : St) : Prop := ∀ (s0 : St) (H : Heap) (locs : List Loc) (ls : Array Slot), g s0 = some r → va_P (dC, dI) vwCl (dw_X3c a ac s0) H → va_D A (dw_X3c a ac s0) → va_S A s.heap H locs → lv_has ls 3 [] → W p l e (headSpec ow_dm_X3_blame ({ frames := 0, cells := 0, slots := 0, locals := 0 })).room s m args below meth c H locs 0 0 Q (F0 m 17 ls [])
def dj_X3_blame_0 (p : Program) (l : Launch) (e : Env) (s : State) (m : MethodId) (args : Array Value) (below : List Frame) (meth : Method) (c : Code) (Q : State → Prop) (A : Nat → Prop) (dC : Nat → ClassId) (dI : Nat → Nat → Nat) (a : Nat → Nat) (ac : Nat → ClassId) (g : Int32 → Int32 → (St) → Option (St)) (r : St) : Prop := ∀ (v0 : Int32) (v1 : Int32) (s0 : St) (H : Heap) (locs : List Loc) (ls : Array Slot), g v0 v1 s0 = some r → va_P (dC, dI) vwCl (dw_X3c a ac s0) H → va_D A (dw_X3c a ac s0) → va_S A s.heap H locs → lv_has ls 3 [(0, .ref (a 0)), (1, .int v0), (2, .int v1)] → W p l e (headSpec ow_dm_X3_blame ({ frames := 0, cells := 0, slots := 0, locals := 0 })).room s m args below meth c H locs 0 0 Q (F0 m 0 ls [])
set_option maxHeartbeats 40000000 in
set_option maxRecDepth 100000 in
theorem db_X3_blame_17 {p : Program} {l : Launch} {e : Env} {s : State} {m : MethodId} {args : Array Value} {below : List Frame} {meth : Method} {c : Code} {Q : State → Prop} {A : Nat → Prop} {dC : Nat → ClassId} {dI : Nat → Nat → Nat} {a : Nat → Nat} {ac : Nat → ClassId} {n : Nat} {r : St} (C : nd_C p l s m args c A (dC, dI) cX3_blame 3 RX3 ow_dm_X3_blame (dk_X3c ac)) (K : nd_Kv p l e (headSpec ow_dm_X3_blame ({ frames := 0, cells := 0, slots := 0, locals := 0 })).room s m args below meth c Q A (dC, dI) cX3_blame (St) (dw_X3c a ac) r) : dj_X3_blame_17 p l e s m args below meth c Q A dC dI a ac (df_X3_blame_17 n) r := by
  obtain ⟨hlt, hx, hb, hml, hown, hts, hN, hA, hK⟩ := id C
  intro s0 H locs ls h hP hD hS hl
  unfold df_X3_blame_17 at h
  exact K _ _ _ _ _ dX3_blame_17 (Option.some.inj h).symm hP hD hS
set_option maxHeartbeats 40000000 in
set_option maxRecDepth 100000 in
theorem db_X3_blame_0 {p : Program} {l : Launch} {e : Env} {s : State} {m : MethodId} {args : Array Value} {below : List Frame} {meth : Method} {c : Code} {Q : State → Prop} {A : Nat → Prop} {dC : Nat → ClassId} {dI : Nat → Nat → Nat} {a : Nat → Nat} {ac : Nat → ClassId} {n : Nat} {r : St} (C : nd_C p l s m args c A (dC, dI) cX3_blame 3 RX3 ow_dm_X3_blame (dk_X3c ac)) (K : nd_Kv p l e (headSpec ow_dm_X3_blame ({ frames := 0, cells := 0, slots := 0, locals := 0 })).room s m args below meth c Q A (dC, dI) cX3_blame (St) (dw_X3c a ac) r) : dj_X3_blame_0 p l e s m args below meth c Q A dC dI a ac (df_X3_blame_0 n) r := by
  obtain ⟨hlt, hx, hb, hml, hown, hts, hN, hA, hK⟩ := id C
  intro v0 v1 s0 H locs ls h hP hD hS hl
  unfold df_X3_blame_0 at h
  refine lv_aload_n hx hb dX3_blame_0 rfl (lv_at hl 0 rfl) ?_
  refine va_get (D := (dC, dI)) (ci := 4) (v := .int (sI s0 4)) (C := RX3) (T := TX3) (N := 11) hx hb hts hi_dm_X3_blame_X3 hown hK hP 0 rfl rfl 9 (by decide) (hts (.fieldLink RX3 95 "TimeMachine$Events" "fault" "I") (List.mem_of_getElem? (i := 1) rfl)) (fun _ h9 => h9) rfl dX3_blame_1 ?_
  refine lv_if_ne (tgt := 17) hx hb dX3_blame_4 (by decide) (fun c1 => ?_) (fun c1 => ?_)
  · have h := nd_neg h c1
    exact (db_X3_blame_17 C K)  s0 _ _ _ h hP hD hS (lv_sub hl [] rfl)
  · have h := nd_pos h c1
    refine lv_aload_n hx hb dX3_blame_7 rfl (lv_at hl 0 rfl) ?_
    refine lv_iload_n hx hb dX3_blame_8 rfl (lv_at hl 1 rfl) ?_
    refine va_put (D := (dC, dI)) (ci := 4) (v := .int v0) (ty := .int) (C := RX3) (T := TX3) (N := 11) hx hb hts hi_dm_X3_blame_X3 tyX3 tyX3_ok nmX3 hown hK hP hD hS 0 rfl rfl 9 (by decide) (hts (.fieldLink RX3 95 "TimeMachine$Events" "fault" "I") (List.mem_of_getElem? (i := 1) rfl)) (fun _ h9 => h9) rfl (by decide +kernel) rfl rfl (Nat.le_of_ble_eq_true rfl) dX3_blame_9 (fun H locs hP hD hS => ?_)
    obtain ⟨s2, es2, h⟩ := nd_let_e h
    have hP : va_P (dC, dI) vwCl (dw_X3c a ac s2) H := by rw [es2]; exact hP
    have hD : va_D A (dw_X3c a ac s2) := by rw [es2]; exact hD
    refine lv_aload_n hx hb dX3_blame_12 rfl (lv_at hl 0 rfl) ?_
    refine lv_iload_n hx hb dX3_blame_13 rfl (lv_at hl 2 rfl) ?_
    refine va_put (D := (dC, dI)) (ci := 4) (v := .int v1) (ty := .int) (C := RX3) (T := TX3) (N := 11) hx hb hts hi_dm_X3_blame_X3 tyX3 tyX3_ok nmX3 hown hK hP hD hS 0 rfl rfl 10 (by decide) (hts (.fieldLink RX3 114 "TimeMachine$Events" "faultPlace" "I") (List.mem_of_getElem? (i := 2) rfl)) (fun _ h9 => h9) rfl (by decide +kernel) rfl rfl (Nat.le_of_ble_eq_true rfl) dX3_blame_14 (fun H locs hP hD hS => ?_)
    obtain ⟨s3, es3, h⟩ := nd_let_e h
    have hP : va_P (dC, dI) vwCl (dw_X3c a ac s3) H := by rw [es3]; exact hP
    have hD : va_D A (dw_X3c a ac s3) := by rw [es3]; exact hD
    exact (db_X3_blame_17 C K)  s3 _ _ _ h hP hD hS (lv_sub hl [] rfl)
set_option maxHeartbeats 40000000 in
set_option maxRecDepth 100000 in
theorem dm_X3_blame (l : Launch) (hlt : l.stackTraces = false) (dC : Nat → ClassId) (dI : Nat → Nat → Nat) (a : Nat → Nat) (ac : Nat → ClassId) (n : Nat) (v0 : Int32) (v1 : Int32) (s0 : St) {r : St} (h : df_X3_blame n v0 v1 s0 = some r) (sz : Nat) : Met l yX3_blame ow_dm_X3_blame ({ frames := 0, cells := 0, slots := 0, locals := 0 }) (va_Pc [.ref (a 0), .int v0, .int v1] (fun U => U.heap.size = sz ∧ va_P (dC, dI) vwCl (dw_X3c a ac s0) U.heap ∧ va_K (dC, dI) vwCl (dk_X3c ac) U ∧ va_D (fun _ => True) (dw_X3c a ac s0) ∧ nv_E dI (va_A (dw_X3c a ac s0) sz) U)) (va_Qv (fun _ => True) (fun (_ : Unit) t => va_P (dC, dI) vwCl (dw_X3c a ac r) t.heap ∧ va_K (dC, dI) vwCl (dk_X3c ac) t ∧ va_D (va_A (dw_X3c a ac s0) sz) (dw_X3c a ac r)) (va_A (dw_X3c a ac s0) sz)) 0 0 (va_A (dw_X3c a ac s0) sz) := by
  refine Met.ofW (cc := cX3_blame) (maxL := 3) (ret := none) (by decide) rfl ?_
  intro p e s m args below meth c s₁ B hml hv
  obtain ⟨rfl, hsz, hP, hK, hD0, hN⟩ := hv
  have hx := B.exec
  have hb := B.bytes
  have hr := B.returns
  have hts := atoms_spec (ws := ow_dm_X3_blame) B.pre
  have hown : s.vm.findClass RX3 = some m.cls := findClass_of_methodNamed B.named
  have hlocks := B.notSynchronized
  subst hsz
  have hD := hD0.self (sz := s.heap.size)
  generalize hAe : va_A (dw_X3c a ac s0) s.heap.size = A at hD hN ⊢
  have hA : ∀ q : Nat, s.heap.size ≤ q → A q := fun q h => by rw [← hAe]; exact Or.inr h
  have hl := lv_entry ([.ref (a 0), .int v0, .int v1]) (n := 3) (Nat.le_of_ble_eq_true rfl)
  rw [lg_entry_eq]
  generalize (lg_sl ([.ref (a 0), .int v0, .int v1]) ++ List.replicate (3 - (lg_sl ([.ref (a 0), .int v0, .int v1])).length) Slot.unset).toArray = ls at hl ⊢
  have hl : lv_has ls 3 [(0, .ref (a 0)), (1, .int v0), (2, .int v1)] := hl
  exact db_X3_blame_0 (dC := dC) (dI := dI) (a := a) (ac := ac) (n := n) (r := r) ⟨hlt, hx, hb, hml, hown, hts, hN, hA, hK⟩ (fun pc τ H locs ls d er hP hD hS => by subst er; exact W.vret hx hb hr (fun t ht hW => ⟨⟨(), rfl, trivial, by rw [ht]; exact hP, va_K.moved hW.alike hK, hD⟩, hS.F ht⟩) hS.2.2 d) v0 v1 s0 _ _ _ h hP hD va_S.rf (lv_sub hl [0, 1, 2] rfl)
def ow_dm_X3_readByte : List Cond := Cond.code yX3_readByte cX3_readByte 1 (some .int) :: ([Cond.fieldLink RX3 44 "TimeMachine$Events" "place" "I", Cond.fieldLink RX3 92 "TimeMachine$Events" "stop" "I", Cond.fieldLink RX3 23 "TimeMachine$Events" "row" "[B", Cond.methodLink RX3 107 yX3_blame, Cond.instanceMethod yX3_blame, Cond.selects RX3 yX3_blame yX3_blame, Cond.initialized RX3] ++ (u_ws RX3 TX3 11 ++ (ow_dm_X3_blame ++ [])))
theorem gd_dm_X3_readByte : ∀ w ∈ ow_dm_X3_readByte, (w.onTables && w.keeps) = true ∨ ∃ ty, w = Cond.arrayClass ty := List.forall_mem_cons.mpr ⟨good_of_word rfl, List.forall_mem_append.mpr ⟨fun w h => good_of_word (List.all_eq_true.mp (by decide +kernel) w h), List.forall_mem_append.mpr ⟨gu_X3, List.forall_mem_append.mpr ⟨gd_dm_X3_blame, fun _ h => nomatch h⟩⟩⟩⟩
theorem hi_dm_X3_readByte_X3 : ∀ w ∈ u_ws RX3 TX3 11, w ∈ ow_dm_X3_readByte := fun w h => List.mem_cons_of_mem _ (List.mem_append_right _ (List.mem_append_left _ h))
theorem gi_dm_X3_readByte_0 : GoodIn ow_dm_X3_readByte (wsV RX3 107 RX3 yX3_blame ow_dm_X3_blame) := goodIn_app (goodIn_of _ (by decide +kernel)) (fun w h => ⟨List.mem_cons_of_mem _ (List.mem_append_right _ (List.mem_append_right _ (List.mem_append_left _ h))), gd_dm_X3_blame w h⟩)
def dj_X3_readByte_0 (p : Program) (l : Launch) (e : Env) (s : State) (m : MethodId) (args : Array Value) (below : List Frame) (meth : Method) (c : Code) (Q : State → Prop) (A : Nat → Prop) (dC : Nat → ClassId) (dI : Nat → Nat → Nat) (a : Nat → Nat) (ac : Nat → ClassId) (g : (St × (St)) → Option (Int32 × (St × (St)))) (r : Int32 × (St × (St))) : Prop := ∀ (s0 : St × (St)) (H : Heap) (locs : List Loc) (ls : Array Slot), g s0 = some r → va_P (dC, dI) vwCl (dw_X3s a ac s0) H → va_D A (dw_X3s a ac s0) → va_S A s.heap H locs → lv_has ls 1 [(0, .ref (a 1))] → W p l e (headSpec ow_dm_X3_readByte ({ frames := 1, cells := 0, slots := 0, locals := 22 })).room s m args below meth c H locs 0 0 Q (F0 m 0 ls [])
set_option maxHeartbeats 40000000 in
set_option maxRecDepth 100000 in
theorem db_X3_readByte_0 {p : Program} {l : Launch} {e : Env} {s : State} {m : MethodId} {args : Array Value} {below : List Frame} {meth : Method} {c : Code} {Q : State → Prop} {A : Nat → Prop} {dC : Nat → ClassId} {dI : Nat → Nat → Nat} {a : Nat → Nat} {ac : Nat → ClassId} {n : Nat} {r : Int32 × (St × (St))} (C : nd_C p l s m args c A (dC, dI) cX3_readByte 1 RX3 ow_dm_X3_readByte (dk_X3s ac)) (K : nd_Ki p l e (headSpec ow_dm_X3_readByte ({ frames := 1, cells := 0, slots := 0, locals := 22 })).room s m args below meth c Q A (dC, dI) cX3_readByte .int (St × (St)) (dw_X3s a ac) r) : dj_X3_readByte_0 p l e s m args below meth c Q A dC dI a ac (df_X3_readByte_0 n (a 0)) r := by
  obtain ⟨hlt, hx, hb, hml, hown, hts, hN, hA, hK⟩ := id C
  intro s0 H locs ls h hP hD hS hl
  unfold df_X3_readByte_0 at h
  refine lv_aload_n hx hb dX3_readByte_0 rfl (lv_at hl 0 rfl) ?_
  refine va_get (D := (dC, dI)) (ci := 4) (v := .int (sI s0.2 2)) (C := RX3) (T := TX3) (N := 11) hx hb hts hi_dm_X3_readByte_X3 hown hK hP 1 rfl rfl 7 (by decide) (hts (.fieldLink RX3 44 "TimeMachine$Events" "place" "I") (List.mem_of_getElem? (i := 1) rfl)) (fun _ h9 => h9) rfl dX3_readByte_1 ?_
  refine lv_aload_n hx hb dX3_readByte_4 rfl (lv_at hl 0 rfl) ?_
  refine va_get (D := (dC, dI)) (ci := 4) (v := .int (sI s0.2 3)) (C := RX3) (T := TX3) (N := 11) hx hb hts hi_dm_X3_readByte_X3 hown hK hP 1 rfl rfl 8 (by decide) (hts (.fieldLink RX3 92 "TimeMachine$Events" "stop" "I") (List.mem_of_getElem? (i := 2) rfl)) (fun _ h9 => h9) rfl dX3_readByte_5 ?_
  refine lv_icmp_lt (tgt := 22) hx hb dX3_readByte_8 (by decide) (fun c1 => ?_) (fun c1 => ?_)
  · have h := nd_pos h c1
    refine lv_aload_n hx hb dX3_readByte_22 rfl (lv_at hl 0 rfl) ?_
    refine lv_dup hx hb dX3_readByte_23 rfl ?_
    refine va_get (D := (dC, dI)) (ci := 4) (v := .int (sI s0.2 2)) (C := RX3) (T := TX3) (N := 11) hx hb hts hi_dm_X3_readByte_X3 hown hK hP 1 rfl rfl 7 (by decide) (hts (.fieldLink RX3 44 "TimeMachine$Events" "place" "I") (List.mem_of_getElem? (i := 1) rfl)) (fun _ h9 => h9) rfl dX3_readByte_24 ?_
    refine lv_iconst (v := 1) hx hb dX3_readByte_27 (by decide) ?_
    refine lv_iadd hx hb dX3_readByte_28 ?_
    refine va_put (D := (dC, dI)) (ci := 4) (v := .int ((sI s0.2 2) + 1)) (ty := .int) (C := RX3) (T := TX3) (N := 11) hx hb hts hi_dm_X3_readByte_X3 tyX3 tyX3_ok nmX3 hown hK hP hD hS 1 rfl rfl 7 (by decide) (hts (.fieldLink RX3 44 "TimeMachine$Events" "place" "I") (List.mem_of_getElem? (i := 1) rfl)) (fun _ h9 => h9) rfl (by decide +kernel) rfl rfl (Nat.le_of_ble_eq_true rfl) dX3_readByte_29 (fun H locs hP hD hS => ?_)
    obtain ⟨s2, es2, h⟩ := nd_let_e h
    have hP : va_P (dC, dI) vwCl (dw_X3s a ac s2) H := by rw [es2]; exact hP
    have hD : va_D A (dw_X3s a ac s2) := by rw [es2]; exact hD
    refine lv_aload_n hx hb dX3_readByte_32 rfl (lv_at hl 0 rfl) ?_
    obtain ⟨o3, h⟩ := nd_o_e h
    refine va_get (D := (dC, dI)) (ci := 4) (v := .ref (a 0)) (C := RX3) (T := TX3) (N := 11) hx hb hts hi_dm_X3_readByte_X3 hown hK hP 1 rfl rfl 6 (by decide) (hts (.fieldLink RX3 23 "TimeMachine$Events" "row" "[B") (List.mem_of_getElem? (i := 3) rfl)) (fun _ h9 => h9) (congrArg (fun z => some (va_rf z)) o3) dX3_readByte_33 ?_
    refine lv_aload_n hx hb dX3_readByte_36 rfl (lv_at hl 0 rfl) ?_
    refine va_get (D := (dC, dI)) (ci := 4) (v := .int (sI s2.2 2)) (C := RX3) (T := TX3) (N := 11) hx hb hts hi_dm_X3_readByte_X3 hown hK hP 1 rfl rfl 7 (by decide) (hts (.fieldLink RX3 44 "TimeMachine$Events" "place" "I") (List.mem_of_getElem? (i := 1) rfl)) (fun _ h9 => h9) rfl dX3_readByte_37 ?_
    refine lv_iconst (v := 1) hx hb dX3_readByte_40 (by decide) ?_
    refine lv_isub hx hb dX3_readByte_41 ?_
    obtain ⟨i4, h⟩ := nd_ck_e h
    refine va_bald (i := ((sI s2.2 2) - 1)) hx hb hK hP 0 0 rfl rfl i4 dX3_readByte_42 ?_
    refine lv_sipush (v := 255) hx hb dX3_readByte_43 (by decide) ?_
    refine lv_iand hx hb dX3_readByte_46 ?_
    exact K _ _ _ _ _ _ dX3_readByte_47 rfl (Option.some.inj h).symm hP hD hS
  · have h := nd_neg h c1
    refine lv_aload_n hx hb dX3_readByte_11 rfl (lv_at hl 0 rfl) ?_
    refine lv_iconst (v := 2) hx hb dX3_readByte_12 (by decide) ?_
    refine lv_aload_n hx hb dX3_readByte_13 rfl (lv_at hl 0 rfl) ?_
    refine va_get (D := (dC, dI)) (ci := 4) (v := .int (sI s0.2 3)) (C := RX3) (T := TX3) (N := 11) hx hb hts hi_dm_X3_readByte_X3 hown hK hP 1 rfl rfl 8 (by decide) (hts (.fieldLink RX3 92 "TimeMachine$Events" "stop" "I") (List.mem_of_getElem? (i := 2) rfl)) (fun _ h9 => h9) rfl dX3_readByte_14 ?_
    obtain ⟨s6, hq, h⟩ := nd_b1_e h
    have hPc := dp_X3s_1 hP
    have hDc := dd_X3s_1 hD
    have hKc := dy_X3s_1 hK
    have hFc := nd_rs hDc hS hA
    have hzA : ∀ q : Nat, H.size ≤ q → A q := fun q h => hA q (Nat.le_trans hS.1 h)
    refine nd_cVv (As := [.int 2, .int (sI s0.2 3)]) (rest := []) (w' := dw_X3c (fun k => a (k + 1)) (fun k => ac (k + 1)) s6) ⟨hx, hb, hml, hown, hts⟩ (fun sz => dm_X3_blame l hlt dC dI (fun k => a (k + 1)) (fun k => ac (k + 1)) n (2) ((sI s0.2 3)) s0.2 hq sz) (cwV 2 hts gi_dm_X3_readByte_0 rfl rfl rfl (by decide +kernel) ⟨Nat.le_of_ble_eq_true rfl, Nat.le_of_ble_eq_true rfl⟩) hPc hDc hKc hS hA hN (va_recv hKc hPc (ci := 4) (q0 := 0) rfl rfl) rfl hl.1 rfl (Nat.le_of_ble_eq_true rfl) dX3_readByte_17 (fun H locs hP1 hD1 hk1 hS => ?_)
    obtain ⟨hP, hD⟩ := dn_X3s_1 hP hD hzA hk1 hP1 hD1
    obtain ⟨s8, es8, h⟩ := nd_let_e h
    have hP : va_P (dC, dI) vwCl (dw_X3s a ac s8) H := by rw [es8]; exact hP
    have hD : va_D A (dw_X3s a ac s8) := by rw [es8]; exact hD
    refine lv_iconst (v := 0) hx hb dX3_readByte_20 (by decide) ?_
    exact K _ _ _ _ _ _ dX3_readByte_21 rfl (Option.some.inj h).symm hP hD hS
set_option maxHeartbeats 40000000 in
set_option maxRecDepth 100000 in
theorem dm_X3_readByte (l : Launch) (hlt : l.stackTraces = false) (dC : Nat → ClassId) (dI : Nat → Nat → Nat) (a : Nat → Nat) (ac : Nat → ClassId) (n : Nat) (s0 : St × (St)) {r : Int32 × (St × (St))} (h : df_X3_readByte n (a 0) s0 = some r) (sz : Nat) : Met l yX3_readByte ow_dm_X3_readByte ({ frames := 1, cells := 0, slots := 0, locals := 22 }) (va_Pc [.ref (a 1)] (fun U => U.heap.size = sz ∧ va_P (dC, dI) vwCl (dw_X3s a ac s0) U.heap ∧ va_K (dC, dI) vwCl (dk_X3s ac) U ∧ va_D (fun _ => True) (dw_X3s a ac s0) ∧ nv_E dI (va_A (dw_X3s a ac s0) sz) U)) (va_Qi (fun x _ => x = r.1) (fun (_ : Unit) t => va_P (dC, dI) vwCl (dw_X3s a ac r.2) t.heap ∧ va_K (dC, dI) vwCl (dk_X3s ac) t ∧ va_D (va_A (dw_X3s a ac s0) sz) (dw_X3s a ac r.2)) (va_A (dw_X3s a ac s0) sz)) 0 0 (va_A (dw_X3s a ac s0) sz) := by
  refine Met.ofW (cc := cX3_readByte) (maxL := 1) (ret := (some .int)) (by decide) rfl ?_
  intro p e s m args below meth c s₁ B hml hv
  obtain ⟨rfl, hsz, hP, hK, hD0, hN⟩ := hv
  have hx := B.exec
  have hb := B.bytes
  have hr := B.returns
  have hts := atoms_spec (ws := ow_dm_X3_readByte) B.pre
  have hown : s.vm.findClass RX3 = some m.cls := findClass_of_methodNamed B.named
  have hlocks := B.notSynchronized
  subst hsz
  have hD := hD0.self (sz := s.heap.size)
  generalize hAe : va_A (dw_X3s a ac s0) s.heap.size = A at hD hN ⊢
  have hA : ∀ q : Nat, s.heap.size ≤ q → A q := fun q h => by rw [← hAe]; exact Or.inr h
  have hl := lv_entry ([.ref (a 1)]) (n := 1) (Nat.le_of_ble_eq_true rfl)
  rw [lg_entry_eq]
  generalize (lg_sl ([.ref (a 1)]) ++ List.replicate (1 - (lg_sl ([.ref (a 1)])).length) Slot.unset).toArray = ls at hl ⊢
  have hl : lv_has ls 1 [(0, .ref (a 1))] := hl
  exact db_X3_readByte_0 (dC := dC) (dI := dI) (a := a) (ac := ac) (n := n) (r := r) ⟨hlt, hx, hb, hml, hown, hts, hN, hA, hK⟩ (fun pc v τ H locs ls d z er hP hD hS => by subst er; exact W.zret (v := v) hx hb hr z (fun t ht hW => ⟨⟨v, (), rfl, rfl, by rw [ht]; exact hP, va_K.moved hW.alike hK, hD⟩, hS.F ht⟩) hS.2.2 d) s0 _ _ _ h hP hD va_S.rf (lv_sub hl [0] rfl)
def ow_dm_X3_readVarint : List Cond := Cond.code yX3_readVarint cX3_readVarint 5 (some .long) :: ([Cond.fieldLink RX3 44 "TimeMachine$Events" "place" "I", Cond.methodLink RX3 107 yX3_blame, Cond.instanceMethod yX3_blame, Cond.selects RX3 yX3_blame yX3_blame, Cond.initialized RX3, Cond.fieldLink RX3 95 "TimeMachine$Events" "fault" "I", Cond.methodLink RX3 117 yX3_readByte, Cond.instanceMethod yX3_readByte, Cond.selects RX3 yX3_readByte yX3_readByte, Cond.constantLong RX3 31 (1099511627776)] ++ (u_ws RX3 TX3 11 ++ (ow_dm_X3_blame ++ (ow_dm_X3_readByte ++ []))))
theorem gd_dm_X3_readVarint : ∀ w ∈ ow_dm_X3_readVarint, (w.onTables && w.keeps) = true ∨ ∃ ty, w = Cond.arrayClass ty := List.forall_mem_cons.mpr ⟨good_of_word rfl, List.forall_mem_append.mpr ⟨fun w h => good_of_word (List.all_eq_true.mp (by decide +kernel) w h), List.forall_mem_append.mpr ⟨gu_X3, List.forall_mem_append.mpr ⟨gd_dm_X3_blame, List.forall_mem_append.mpr ⟨gd_dm_X3_readByte, fun _ h => nomatch h⟩⟩⟩⟩⟩
theorem hi_dm_X3_readVarint_X3 : ∀ w ∈ u_ws RX3 TX3 11, w ∈ ow_dm_X3_readVarint := fun w h => List.mem_cons_of_mem _ (List.mem_append_right _ (List.mem_append_left _ h))
theorem gi_dm_X3_readVarint_0 : GoodIn ow_dm_X3_readVarint (wsV RX3 107 RX3 yX3_blame ow_dm_X3_blame) := goodIn_app (goodIn_of _ (by decide +kernel)) (fun w h => ⟨List.mem_cons_of_mem _ (List.mem_append_right _ (List.mem_append_right _ (List.mem_append_left _ h))), gd_dm_X3_blame w h⟩)
theorem gi_dm_X3_readVarint_1 : GoodIn ow_dm_X3_readVarint (wsV RX3 117 RX3 yX3_readByte ow_dm_X3_readByte) := goodIn_app (goodIn_of _ (by decide +kernel)) (fun w h => ⟨List.mem_cons_of_mem _ (List.mem_append_right _ (List.mem_append_right _ (List.mem_append_right _ (List.mem_append_left _ h)))), gd_dm_X3_readByte w h⟩)
def dj_X3_readVarint_81 (p : Program) (l : Launch) (e : Env) (s : State) (m : MethodId) (args : Array Value) (below : List Frame) (meth : Method) (c : Code) (Q : State → Prop) (A : Nat → Prop) (dC : Nat → ClassId) (dI : Nat → Nat → Nat) (a : Nat → Nat) (ac : Nat → ClassId) (g : (St × (St)) → Option (Int64 × (St × (St)))) (r : Int64 × (St × (St))) : Prop := ∀ (s0 : St × (St)) (H : Heap) (locs : List Loc) (ls : Array Slot), g s0 = some r → va_P (dC, dI) vwCl (dw_X3s a ac s0) H → va_D A (dw_X3s a ac s0) → va_S A s.heap H locs → lv_has ls 5 [(0, .ref (a 1))] → W p l e (headSpec ow_dm_X3_readVarint ({ frames := 2, cells := 0, slots := 0, locals := 42 })).room s m args below meth c H locs 0 0 Q (F0 m 81 ls [])
def dj_X3_readVarint_73 (p : Program) (l : Launch) (e : Env) (s : State) (m : MethodId) (args : Array Value) (below : List Frame) (meth : Method) (c : Code) (Q : State → Prop) (A : Nat → Prop) (dC : Nat → ClassId) (dI : Nat → Nat → Nat) (a : Nat → Nat) (ac : Nat → ClassId) (g : Int64 → (St × (St)) → Option (Int64 × (St × (St)))) (r : Int64 × (St × (St))) : Prop := ∀ (x1 : Int64) (s0 : St × (St)) (H : Heap) (locs : List Loc) (ls : Array Slot), g x1 s0 = some r → va_P (dC, dI) vwCl (dw_X3s a ac s0) H → va_D A (dw_X3s a ac s0) → va_S A s.heap H locs → lv_has ls 5 [(1, .long x1)] → W p l e (headSpec ow_dm_X3_readVarint ({ frames := 2, cells := 0, slots := 0, locals := 42 })).room s m args below meth c H locs 0 0 Q (F0 m 73 ls [])
def dj_X3_readVarint_62 (p : Program) (l : Launch) (e : Env) (s : State) (m : MethodId) (args : Array Value) (below : List Frame) (meth : Method) (c : Code) (Q : State → Prop) (A : Nat → Prop) (dC : Nat → ClassId) (dI : Nat → Nat → Nat) (a : Nat → Nat) (ac : Nat → ClassId) (g : Int64 → (St × (St)) → Option (Int64 × (St × (St)))) (r : Int64 × (St × (St))) : Prop := ∀ (x1 : Int64) (s0 : St × (St)) (H : Heap) (locs : List Loc) (ls : Array Slot), g x1 s0 = some r → va_P (dC, dI) vwCl (dw_X3s a ac s0) H → va_D A (dw_X3s a ac s0) → va_S A s.heap H locs → lv_has ls 5 [(0, .ref (a 1)), (1, .long x1)] → W p l e (headSpec ow_dm_X3_readVarint ({ frames := 2, cells := 0, slots := 0, locals := 42 })).room s m args below meth c H locs 0 0 Q (F0 m 62 ls [])
def dj_X3_readVarint_54 (p : Program) (l : Launch) (e : Env) (s : State) (m : MethodId) (args : Array Value) (below : List Frame) (meth : Method) (c : Code) (Q : State → Prop) (A : Nat → Prop) (dC : Nat → ClassId) (dI : Nat → Nat → Nat) (a : Nat → Nat) (ac : Nat → ClassId) (g : Int64 → (St × (St)) → Option (Int64 × (St × (St)))) (r : Int64 × (St × (St))) : Prop := ∀ (x1 : Int64) (s0 : St × (St)) (H : Heap) (locs : List Loc) (ls : Array Slot), g x1 s0 = some r → va_P (dC, dI) vwCl (dw_X3s a ac s0) H → va_D A (dw_X3s a ac s0) → va_S A s.heap H locs → lv_has ls 5 [(0, .ref (a 1)), (1, .long x1)] → W p l e (headSpec ow_dm_X3_readVarint ({ frames := 2, cells := 0, slots := 0, locals := 42 })).room s m args below meth c H locs 0 0 Q (F0 m 54 ls [])
def dj_X3_readVarint_4 (p : Program) (l : Launch) (e : Env) (s : State) (m : MethodId) (args : Array Value) (below : List Frame) (meth : Method) (c : Code) (Q : State → Prop) (A : Nat → Prop) (dC : Nat → ClassId) (dI : Nat → Nat → Nat) (a : Nat → Nat) (ac : Nat → ClassId) (g : Int64 → Int32 → (St × (St)) → Option (Int64 × (St × (St)))) (r : Int64 × (St × (St))) : Prop := ∀ (x1 : Int64) (x3 : Int32) (s0 : St × (St)) (H : Heap) (locs : List Loc) (ls : Array Slot), g x1 x3 s0 = some r → va_P (dC, dI) vwCl (dw_X3s a ac s0) H → va_D A (dw_X3s a ac s0) → va_S A s.heap H locs → lv_has ls 5 [(0, .ref (a 1)), (1, .long x1), (3, .int x3)] → W p l e (headSpec ow_dm_X3_readVarint ({ frames := 2, cells := 0, slots := 0, locals := 42 })).room s m args below meth c H locs 0 0 Q (F0 m 4 ls [])
def dj_X3_readVarint_0 (p : Program) (l : Launch) (e : Env) (s : State) (m : MethodId) (args : Array Value) (below : List Frame) (meth : Method) (c : Code) (Q : State → Prop) (A : Nat → Prop) (dC : Nat → ClassId) (dI : Nat → Nat → Nat) (a : Nat → Nat) (ac : Nat → ClassId) (g : (St × (St)) → Option (Int64 × (St × (St)))) (r : Int64 × (St × (St))) : Prop := ∀ (s0 : St × (St)) (H : Heap) (locs : List Loc) (ls : Array Slot), g s0 = some r → va_P (dC, dI) vwCl (dw_X3s a ac s0) H → va_D A (dw_X3s a ac s0) → va_S A s.heap H locs → lv_has ls 5 [(0, .ref (a 1))] → W p l e (headSpec ow_dm_X3_readVarint ({ frames := 2, cells := 0, slots := 0, locals := 42 })).room s m args below meth c H locs 0 0 Q (F0 m 0 ls [])
set_option maxHeartbeats 40000000 in
set_option maxRecDepth 100000 in
theorem db_X3_readVarint_81 {p : Program} {l : Launch} {e : Env} {s : State} {m : MethodId} {args : Array Value} {below : List Frame} {meth : Method} {c : Code} {Q : State → Prop} {A : Nat → Prop} {dC : Nat → ClassId} {dI : Nat → Nat → Nat} {a : Nat → Nat} {ac : Nat → ClassId} {n : Nat} {r : Int64 × (St × (St))} (C : nd_C p l s m args c A (dC, dI) cX3_readVarint 5 RX3 ow_dm_X3_readVarint (dk_X3s ac)) (K : nd_Kl p l e (headSpec ow_dm_X3_readVarint ({ frames := 2, cells := 0, slots := 0, locals := 42 })).room s m args below meth c Q A (dC, dI) cX3_readVarint (St × (St)) (dw_X3s a ac) r) : dj_X3_readVarint_81 p l e s m args below meth c Q A dC dI a ac (df_X3_readVarint_81 n (a 0)) r := by
  obtain ⟨hlt, hx, hb, hml, hown, hts, hN, hA, hK⟩ := id C
  intro s0 H locs ls h hP hD hS hl
  unfold df_X3_readVarint_81 at h
  refine lv_aload_n hx hb dX3_readVarint_81 rfl (lv_at hl 0 rfl) ?_
  refine lv_iconst (v := 3) hx hb dX3_readVarint_82 (by decide) ?_
  refine lv_aload_n hx hb dX3_readVarint_83 rfl (lv_at hl 0 rfl) ?_
  refine va_get (D := (dC, dI)) (ci := 4) (v := .int (sI s0.2 2)) (C := RX3) (T := TX3) (N := 11) hx hb hts hi_dm_X3_readVarint_X3 hown hK hP 1 rfl rfl 7 (by decide) (hts (.fieldLink RX3 44 "TimeMachine$Events" "place" "I") (List.mem_of_getElem? (i := 1) rfl)) (fun _ h9 => h9) rfl dX3_readVarint_84 ?_
  refine lv_iconst (v := 1) hx hb dX3_readVarint_87 (by decide) ?_
  refine lv_isub hx hb dX3_readVarint_88 ?_
  obtain ⟨s3, hq, h⟩ := nd_b1_e h
  have hPc := dp_X3s_1 hP
  have hDc := dd_X3s_1 hD
  have hKc := dy_X3s_1 hK
  have hFc := nd_rs hDc hS hA
  have hzA : ∀ q : Nat, H.size ≤ q → A q := fun q h => hA q (Nat.le_trans hS.1 h)
  refine nd_cVv (As := [.int 3, .int ((sI s0.2 2) - 1)]) (rest := []) (w' := dw_X3c (fun k => a (k + 1)) (fun k => ac (k + 1)) s3) ⟨hx, hb, hml, hown, hts⟩ (fun sz => dm_X3_blame l hlt dC dI (fun k => a (k + 1)) (fun k => ac (k + 1)) n (3) (((sI s0.2 2) - 1)) s0.2 hq sz) (cwV 2 hts gi_dm_X3_readVarint_0 rfl rfl rfl (by decide +kernel) ⟨Nat.le_of_ble_eq_true rfl, Nat.le_of_ble_eq_true rfl⟩) hPc hDc hKc hS hA hN (va_recv hKc hPc (ci := 4) (q0 := 0) rfl rfl) rfl hl.1 rfl (Nat.le_of_ble_eq_true rfl) dX3_readVarint_89 (fun H locs hP1 hD1 hk1 hS => ?_)
  obtain ⟨hP, hD⟩ := dn_X3s_1 hP hD hzA hk1 hP1 hD1
  obtain ⟨s5, es5, h⟩ := nd_let_e h
  have hP : va_P (dC, dI) vwCl (dw_X3s a ac s5) H := by rw [es5]; exact hP
  have hD : va_D A (dw_X3s a ac s5) := by rw [es5]; exact hD
  refine lv_lconst (v := 0) hx hb dX3_readVarint_92 (by decide) ?_
  exact K _ _ _ _ _ _ dX3_readVarint_93 (Option.some.inj h).symm hP hD hS
set_option maxHeartbeats 40000000 in
set_option maxRecDepth 100000 in
theorem db_X3_readVarint_73 {p : Program} {l : Launch} {e : Env} {s : State} {m : MethodId} {args : Array Value} {below : List Frame} {meth : Method} {c : Code} {Q : State → Prop} {A : Nat → Prop} {dC : Nat → ClassId} {dI : Nat → Nat → Nat} {a : Nat → Nat} {ac : Nat → ClassId} {n : Nat} {r : Int64 × (St × (St))} (C : nd_C p l s m args c A (dC, dI) cX3_readVarint 5 RX3 ow_dm_X3_readVarint (dk_X3s ac)) (K : nd_Kl p l e (headSpec ow_dm_X3_readVarint ({ frames := 2, cells := 0, slots := 0, locals := 42 })).room s m args below meth c Q A (dC, dI) cX3_readVarint (St × (St)) (dw_X3s a ac) r) : dj_X3_readVarint_73 p l e s m args below meth c Q A dC dI a ac (df_X3_readVarint_73 n (a 0)) r := by
  obtain ⟨hlt, hx, hb, hml, hown, hts, hN, hA, hK⟩ := id C
  intro x1 s0 H locs ls h hP hD hS hl
  unfold df_X3_readVarint_73 at h
  refine lv_lload_n hx hb dX3_readVarint_73 rfl (lv_at hl 0 rfl) ?_
  exact K _ _ _ _ _ _ dX3_readVarint_74 (Option.some.inj h).symm hP hD hS
set_option maxHeartbeats 40000000 in
set_option maxRecDepth 100000 in
theorem db_X3_readVarint_62 {p : Program} {l : Launch} {e : Env} {s : State} {m : MethodId} {args : Array Value} {below : List Frame} {meth : Method} {c : Code} {Q : State → Prop} {A : Nat → Prop} {dC : Nat → ClassId} {dI : Nat → Nat → Nat} {a : Nat → Nat} {ac : Nat → ClassId} {n : Nat} {r : Int64 × (St × (St))} (C : nd_C p l s m args c A (dC, dI) cX3_readVarint 5 RX3 ow_dm_X3_readVarint (dk_X3s ac)) (K : nd_Kl p l e (headSpec ow_dm_X3_readVarint ({ frames := 2, cells := 0, slots := 0, locals := 42 })).room s m args below meth c Q A (dC, dI) cX3_readVarint (St × (St)) (dw_X3s a ac) r) : dj_X3_readVarint_62 p l e s m args below meth c Q A dC dI a ac (df_X3_readVarint_62 n (a 0)) r := by
  obtain ⟨hlt, hx, hb, hml, hown, hts, hN, hA, hK⟩ := id C
  intro x1 s0 H locs ls h hP hD hS hl
  unfold df_X3_readVarint_62 at h
  refine lv_aload_n hx hb dX3_readVarint_62 rfl (lv_at hl 0 rfl) ?_
  refine lv_iconst (v := 3) hx hb dX3_readVarint_63 (by decide) ?_
  refine lv_aload_n hx hb dX3_readVarint_64 rfl (lv_at hl 0 rfl) ?_
  refine va_get (D := (dC, dI)) (ci := 4) (v := .int (sI s0.2 2)) (C := RX3) (T := TX3) (N := 11) hx hb hts hi_dm_X3_readVarint_X3 hown hK hP 1 rfl rfl 7 (by decide) (hts (.fieldLink RX3 44 "TimeMachine$Events" "place" "I") (List.mem_of_getElem? (i := 1) rfl)) (fun _ h9 => h9) rfl dX3_readVarint_65 ?_
  refine lv_iconst (v := 1) hx hb dX3_readVarint_68 (by decide) ?_
  refine lv_isub hx hb dX3_readVarint_69 ?_
  obtain ⟨s16, hq, h⟩ := nd_b1_e h
  have hPc := dp_X3s_1 hP
  have hDc := dd_X3s_1 hD
  have hKc := dy_X3s_1 hK
  have hFc := nd_rs hDc hS hA
  have hzA : ∀ q : Nat, H.size ≤ q → A q := fun q h => hA q (Nat.le_trans hS.1 h)
  refine nd_cVv (As := [.int 3, .int ((sI s0.2 2) - 1)]) (rest := []) (w' := dw_X3c (fun k => a (k + 1)) (fun k => ac (k + 1)) s16) ⟨hx, hb, hml, hown, hts⟩ (fun sz => dm_X3_blame l hlt dC dI (fun k => a (k + 1)) (fun k => ac (k + 1)) n (3) (((sI s0.2 2) - 1)) s0.2 hq sz) (cwV 2 hts gi_dm_X3_readVarint_0 rfl rfl rfl (by decide +kernel) ⟨Nat.le_of_ble_eq_true rfl, Nat.le_of_ble_eq_true rfl⟩) hPc hDc hKc hS hA hN (va_recv hKc hPc (ci := 4) (q0 := 0) rfl rfl) rfl hl.1 rfl (Nat.le_of_ble_eq_true rfl) dX3_readVarint_70 (fun H locs hP1 hD1 hk1 hS => ?_)
  obtain ⟨hP, hD⟩ := dn_X3s_1 hP hD hzA hk1 hP1 hD1
  obtain ⟨s18, es18, h⟩ := nd_let_e h
  have hP : va_P (dC, dI) vwCl (dw_X3s a ac s18) H := by rw [es18]; exact hP
  have hD : va_D A (dw_X3s a ac s18) := by rw [es18]; exact hD
  exact (db_X3_readVarint_73 C K) (x1) s18 _ _ _ h hP hD hS (lv_sub hl [1] rfl)
set_option maxHeartbeats 40000000 in
set_option maxRecDepth 100000 in
theorem db_X3_readVarint_54 {p : Program} {l : Launch} {e : Env} {s : State} {m : MethodId} {args : Array Value} {below : List Frame} {meth : Method} {c : Code} {Q : State → Prop} {A : Nat → Prop} {dC : Nat → ClassId} {dI : Nat → Nat → Nat} {a : Nat → Nat} {ac : Nat → ClassId} {n : Nat} {r : Int64 × (St × (St))} (C : nd_C p l s m args c A (dC, dI) cX3_readVarint 5 RX3 ow_dm_X3_readVarint (dk_X3s ac)) (K : nd_Kl p l e (headSpec ow_dm_X3_readVarint ({ frames := 2, cells := 0, slots := 0, locals := 42 })).room s m args below meth c Q A (dC, dI) cX3_readVarint (St × (St)) (dw_X3s a ac) r) : dj_X3_readVarint_54 p l e s m args below meth c Q A dC dI a ac (df_X3_readVarint_54 n (a 0)) r := by
  obtain ⟨hlt, hx, hb, hml, hown, hts, hN, hA, hK⟩ := id C
  intro x1 s0 H locs ls h hP hD hS hl
  unfold df_X3_readVarint_54 at h
  refine lv_lload_n hx hb dX3_readVarint_54 rfl (lv_at hl 1 rfl) ?_
  refine lv_ldc2 hx hb hown (hts (.constantLong RX3 31 (1099511627776)) (List.mem_of_getElem? (i := 10) rfl)) dX3_readVarint_55 ?_
  refine W.lcmp hx hb dX3_readVarint_58 ?_
  refine lv_if_le (tgt := 73) hx hb dX3_readVarint_59 (by decide) (fun c14 => ?_) (fun c14 => ?_)
  · have h := nd_pos h c14
    exact (db_X3_readVarint_73 C K) (x1) s0 _ _ _ h hP hD hS (lv_sub hl [1] rfl)
  · have h := nd_neg h c14
    exact (db_X3_readVarint_62 C K) (x1) s0 _ _ _ h hP hD hS (lv_sub hl [0, 1] rfl)
set_option maxHeartbeats 40000000 in
set_option maxRecDepth 100000 in
theorem dB_X3_readVarint_4 {p : Program} {l : Launch} {e : Env} {s : State} {m : MethodId} {args : Array Value} {below : List Frame} {meth : Method} {c : Code} {Q : State → Prop} {A : Nat → Prop} {dC : Nat → ClassId} {dI : Nat → Nat → Nat} {a : Nat → Nat} {ac : Nat → ClassId} {n : Nat} {r : Int64 × (St × (St))} (C : nd_C p l s m args c A (dC, dI) cX3_readVarint 5 RX3 ow_dm_X3_readVarint (dk_X3s ac)) (K : nd_Kl p l e (headSpec ow_dm_X3_readVarint ({ frames := 2, cells := 0, slots := 0, locals := 42 })).room s m args below meth c Q A (dC, dI) cX3_readVarint (St × (St)) (dw_X3s a ac) r) {g4 : Int64 → Int32 → (St × (St)) → Option (Int64 × (St × (St)))} (J4 : dj_X3_readVarint_4 p l e s m args below meth c Q A dC dI a ac g4 r) : dj_X3_readVarint_4 p l e s m args below meth c Q A dC dI a ac (dF_X3_readVarint_4 n (a 0) g4) r := by
  obtain ⟨hlt, hx, hb, hml, hown, hts, hN, hA, hK⟩ := id C
  intro x1 x3 s0 H locs ls h hP hD hS hl
  unfold dF_X3_readVarint_4 at h
  refine lv_iload_n hx hb dX3_readVarint_4 rfl (lv_at hl 2 rfl) ?_
  refine lv_bipush (v := 7) hx hb dX3_readVarint_5 (by decide) ?_
  refine lv_icmp_ge (tgt := 81) hx hb dX3_readVarint_7 (by decide) (fun c1 => ?_) (fun c1 => ?_)
  · have h := nd_pos h c1
    exact (db_X3_readVarint_81 C K)  s0 _ _ _ h hP hD hS (lv_sub hl [0] rfl)
  · have h := nd_neg h c1
    refine lv_aload_n hx hb dX3_readVarint_10 rfl (lv_at hl 0 rfl) ?_
    refine va_get (D := (dC, dI)) (ci := 4) (v := .int (sI s0.2 4)) (C := RX3) (T := TX3) (N := 11) hx hb hts hi_dm_X3_readVarint_X3 hown hK hP 1 rfl rfl 9 (by decide) (hts (.fieldLink RX3 95 "TimeMachine$Events" "fault" "I") (List.mem_of_getElem? (i := 6) rfl)) (fun _ h9 => h9) rfl dX3_readVarint_11 ?_
    refine lv_if_ne (tgt := 81) hx hb dX3_readVarint_14 (by decide) (fun c6 => ?_) (fun c6 => ?_)
    · have h := nd_neg h c6
      exact (db_X3_readVarint_81 C K)  s0 _ _ _ h hP hD hS (lv_sub hl [0] rfl)
    · have h := nd_pos h c6
      refine lv_aload_n hx hb dX3_readVarint_17 rfl (lv_at hl 0 rfl) ?_
      obtain ⟨q7, s8, hq, h⟩ := nd_b2_e h
      have hPc := hP
      have hDc := hD
      have hKc := hK
      have hFc := nd_rs hD hS hA
      refine nd_cVi (As := []) (rest := []) (q := q7) (w' := dw_X3s a ac s8) ⟨hx, hb, hml, hown, hts⟩ (fun sz => dm_X3_readByte l hlt dC dI a ac n  s0 hq sz) (cwV 0 hts gi_dm_X3_readVarint_1 rfl rfl rfl (by decide +kernel) ⟨Nat.le_of_ble_eq_true rfl, Nat.le_of_ble_eq_true rfl⟩) hPc hDc hKc hS hA hN (va_recv hKc hPc (ci := 4) (q0 := 1) rfl rfl) rfl hl.1 rfl (Nat.le_of_ble_eq_true rfl) dX3_readVarint_18 (fun H locs hP1 hD1 hk1 hS => ?_)
      have hP := hP1
      have hD := hD1.weaken (fun k q _ h => hFc q.1 h)
      refine lv_istore (lv' := [(4, .int q7), (0, .ref (a 1)), (1, .long x1), (3, .int x3)]) hx hb dX3_readVarint_21 hl (by decide) rfl (fun ls hl => ?_)
      refine lv_lload_n hx hb dX3_readVarint_23 rfl (lv_at hl 2 rfl) ?_
      refine lv_iload hx hb dX3_readVarint_24 (lv_at hl 0 rfl) ?_
      refine lv_bipush (v := 127) hx hb dX3_readVarint_26 (by decide) ?_
      refine lv_iand hx hb dX3_readVarint_28 ?_
      refine lv_i2l hx hb dX3_readVarint_29 rfl ?_
      refine lv_bipush (v := 7) hx hb dX3_readVarint_30 (by decide) ?_
      refine lv_iload_n hx hb dX3_readVarint_32 rfl (lv_at hl 3 rfl) ?_
      refine lv_imul hx hb dX3_readVarint_33 ?_
      refine lv_lshl hx hb dX3_readVarint_34 rfl ?_
      refine lv_lor hx hb dX3_readVarint_35 ?_
      refine lv_topl (fun z10 ez10 => ?_)
      have h := nd_at h ez10
      refine lv_lstore_n (lv' := [(1, .long z10), (4, .int q7), (0, .ref (a 1)), (3, .int x3)]) hx hb dX3_readVarint_36 rfl hl (by decide) rfl (fun ls hl => ?_)
      refine lv_iload hx hb dX3_readVarint_37 (lv_at hl 1 rfl) ?_
      refine lv_sipush (v := 128) hx hb dX3_readVarint_39 (by decide) ?_
      refine lv_icmp_ge (tgt := 75) hx hb dX3_readVarint_42 (by decide) (fun c11 => ?_) (fun c11 => ?_)
      · have h := nd_pos h c11
        obtain ⟨z12, ez12, h⟩ := nd_let_e h
        refine lv_iinc (v := z12) (lv' := [(3, .int z12), (1, .long z10), (4, .int q7), (0, .ref (a 1))]) hx hb dX3_readVarint_75 hl (k := 3) rfl (by rw [ez12]) (by decide) rfl (fun ls hl => ?_)
        refine lv_goto (tgt := 4) hx hb dX3_readVarint_78 (by decide) ?_
        exact (J4) (z10) (z12) s8 _ _ _ h hP hD hS (lv_sub hl [3, 1, 0] rfl)
      · have h := nd_neg h c11
        refine lv_iload_n hx hb dX3_readVarint_45 rfl (lv_at hl 3 rfl) ?_
        refine lv_if_le (tgt := 54) hx hb dX3_readVarint_46 (by decide) (fun c13 => ?_) (fun c13 => ?_)
        · have h := nd_pos h c13
          exact (db_X3_readVarint_54 C K) (z10) s8 _ _ _ h hP hD hS (lv_sub hl [2, 0] rfl)
        · have h := nd_neg h c13
          refine lv_iload hx hb dX3_readVarint_49 (lv_at hl 1 rfl) ?_
          refine lv_if_eq (tgt := 62) hx hb dX3_readVarint_51 (by decide) (fun c19 => ?_) (fun c19 => ?_)
          · have h := nd_pos h c19
            exact (db_X3_readVarint_62 C K) (z10) s8 _ _ _ h hP hD hS (lv_sub hl [2, 0] rfl)
          · have h := nd_neg h c19
            exact (db_X3_readVarint_54 C K) (z10) s8 _ _ _ h hP hD hS (lv_sub hl [2, 0] rfl)
set_option maxHeartbeats 40000000 in
set_option maxRecDepth 100000 in
theorem db_X3_readVarint_4 {p : Program} {l : Launch} {e : Env} {s : State} {m : MethodId} {args : Array Value} {below : List Frame} {meth : Method} {c : Code} {Q : State → Prop} {A : Nat → Prop} {dC : Nat → ClassId} {dI : Nat → Nat → Nat} {a : Nat → Nat} {ac : Nat → ClassId} {n : Nat} {r : Int64 × (St × (St))} (C : nd_C p l s m args c A (dC, dI) cX3_readVarint 5 RX3 ow_dm_X3_readVarint (dk_X3s ac)) (K : nd_Kl p l e (headSpec ow_dm_X3_readVarint ({ frames := 2, cells := 0, slots := 0, locals := 42 })).room s m args below meth c Q A (dC, dI) cX3_readVarint (St × (St)) (dw_X3s a ac) r) (k : Nat) : dj_X3_readVarint_4 p l e s m args below meth c Q A dC dI a ac (df_X3_readVarint_4 n (a 0) k) r := by
  induction k with
  | zero => intro x1 x3 s0 H locs ls h; exact nomatch (show (none : Option (Int64 × (St × (St)))) = some r from h)
  | succ k ih => exact dB_X3_readVarint_4 C K ih
set_option maxHeartbeats 40000000 in
set_option maxRecDepth 100000 in
theorem db_X3_readVarint_0 {p : Program} {l : Launch} {e : Env} {s : State} {m : MethodId} {args : Array Value} {below : List Frame} {meth : Method} {c : Code} {Q : State → Prop} {A : Nat → Prop} {dC : Nat → ClassId} {dI : Nat → Nat → Nat} {a : Nat → Nat} {ac : Nat → ClassId} {n : Nat} {r : Int64 × (St × (St))} (C : nd_C p l s m args c A (dC, dI) cX3_readVarint 5 RX3 ow_dm_X3_readVarint (dk_X3s ac)) (K : nd_Kl p l e (headSpec ow_dm_X3_readVarint ({ frames := 2, cells := 0, slots := 0, locals := 42 })).room s m args below meth c Q A (dC, dI) cX3_readVarint (St × (St)) (dw_X3s a ac) r) : dj_X3_readVarint_0 p l e s m args below meth c Q A dC dI a ac (df_X3_readVarint_0 n (a 0)) r := by
  obtain ⟨hlt, hx, hb, hml, hown, hts, hN, hA, hK⟩ := id C
  intro s0 H locs ls h hP hD hS hl
  unfold df_X3_readVarint_0 at h
  refine lv_lconst (v := 0) hx hb dX3_readVarint_0 (by decide) ?_
  refine lv_lstore_n (lv' := [(1, .long 0), (0, .ref (a 1))]) hx hb dX3_readVarint_1 rfl hl (by decide) rfl (fun ls hl => ?_)
  refine lv_iconst (v := 0) hx hb dX3_readVarint_2 (by decide) ?_
  refine lv_istore_n (lv' := [(3, .int 0), (1, .long 0), (0, .ref (a 1))]) hx hb dX3_readVarint_3 rfl hl (by decide) rfl (fun ls hl => ?_)
  exact (db_X3_readVarint_4 C K n) (0) (0) s0 _ _ _ h hP hD hS (lv_sub hl [2, 1, 0] rfl)
set_option maxHeartbeats 40000000 in
set_option maxRecDepth 100000 in
theorem dm_X3_readVarint (l : Launch) (hlt : l.stackTraces = false) (dC : Nat → ClassId) (dI : Nat → Nat → Nat) (a : Nat → Nat) (ac : Nat → ClassId) (n : Nat) (s0 : St × (St)) {r : Int64 × (St × (St))} (h : df_X3_readVarint n (a 0) s0 = some r) (sz : Nat) : Met l yX3_readVarint ow_dm_X3_readVarint ({ frames := 2, cells := 0, slots := 0, locals := 42 }) (va_Pc [.ref (a 1)] (fun U => U.heap.size = sz ∧ va_P (dC, dI) vwCl (dw_X3s a ac s0) U.heap ∧ va_K (dC, dI) vwCl (dk_X3s ac) U ∧ va_D (fun _ => True) (dw_X3s a ac s0) ∧ nv_E dI (va_A (dw_X3s a ac s0) sz) U)) (va_Ql (fun x _ => x = r.1) (fun (_ : Unit) t => va_P (dC, dI) vwCl (dw_X3s a ac r.2) t.heap ∧ va_K (dC, dI) vwCl (dk_X3s ac) t ∧ va_D (va_A (dw_X3s a ac s0) sz) (dw_X3s a ac r.2)) (va_A (dw_X3s a ac s0) sz)) 0 0 (va_A (dw_X3s a ac s0) sz) := by
  refine Met.ofW (cc := cX3_readVarint) (maxL := 5) (ret := (some .long)) (by decide) rfl ?_
  intro p e s m args below meth c s₁ B hml hv
  obtain ⟨rfl, hsz, hP, hK, hD0, hN⟩ := hv
  have hx := B.exec
  have hb := B.bytes
  have hr := B.returns
  have hts := atoms_spec (ws := ow_dm_X3_readVarint) B.pre
  have hown : s.vm.findClass RX3 = some m.cls := findClass_of_methodNamed B.named
  have hlocks := B.notSynchronized
  subst hsz
  have hD := hD0.self (sz := s.heap.size)
  generalize hAe : va_A (dw_X3s a ac s0) s.heap.size = A at hD hN ⊢
  have hA : ∀ q : Nat, s.heap.size ≤ q → A q := fun q h => by rw [← hAe]; exact Or.inr h
  have hl := lv_entry ([.ref (a 1)]) (n := 5) (Nat.le_of_ble_eq_true rfl)
  rw [lg_entry_eq]
  generalize (lg_sl ([.ref (a 1)]) ++ List.replicate (5 - (lg_sl ([.ref (a 1)])).length) Slot.unset).toArray = ls at hl ⊢
  have hl : lv_has ls 5 [(0, .ref (a 1))] := hl
  exact db_X3_readVarint_0 (dC := dC) (dI := dI) (a := a) (ac := ac) (n := n) (r := r) ⟨hlt, hx, hb, hml, hown, hts, hN, hA, hK⟩ (fun pc v τ H locs ls d er hP hD hS => by subst er; exact W.lret (v := v) hx hb hr (fun t ht hW => ⟨⟨v, (), rfl, rfl, by rw [ht]; exact hP, va_K.moved hW.alike hK, hD⟩, hS.F ht⟩) hS.2.2 d) s0 _ _ _ h hP hD va_S.rf (lv_sub hl [0] rfl)
def ow_dm_X3_isHead : List Cond := Cond.code yX3_isHead cX3_isHead 3 (some .boolean) :: ([] ++ [])
theorem gd_dm_X3_isHead : ∀ w ∈ ow_dm_X3_isHead, (w.onTables && w.keeps) = true ∨ ∃ ty, w = Cond.arrayClass ty := List.forall_mem_cons.mpr ⟨good_of_word rfl, List.forall_mem_append.mpr ⟨fun w h => good_of_word (List.all_eq_true.mp (by decide +kernel) w h), fun _ h => nomatch h⟩⟩
def dj_X3_isHead_40 (p : Program) (l : Launch) (e : Env) (s : State) (m : MethodId) (args : Array Value) (below : List Frame) (meth : Method) (c : Code) (Q : State → Prop) (A : Nat → Prop) (dC : Nat → ClassId) (dI : Nat → Nat → Nat) (a : Nat → Nat) (ac : Nat → ClassId) (g : (Unit) → Option (Int32 × (Unit))) (r : Int32 × (Unit)) : Prop := ∀ (s0 : Unit) (H : Heap) (locs : List Loc) (ls : Array Slot), g s0 = some r → va_P (dC, dI) vwCl (dw_P a ac s0) H → va_D A (dw_P a ac s0) → va_S A s.heap H locs → lv_has ls 3 [] → W p l e (headSpec ow_dm_X3_isHead ({ frames := 0, cells := 0, slots := 0, locals := 0 })).room s m args below meth c H locs 0 0 Q (F0 m 40 ls [])
def dj_X3_isHead_53 (p : Program) (l : Launch) (e : Env) (s : State) (m : MethodId) (args : Array Value) (below : List Frame) (meth : Method) (c : Code) (Q : State → Prop) (A : Nat → Prop) (dC : Nat → ClassId) (dI : Nat → Nat → Nat) (a : Nat → Nat) (ac : Nat → ClassId) (g : Int32 → (Unit) → Option (Int32 × (Unit))) (r : Int32 × (Unit)) : Prop := ∀ (y0 : Int32) (s0 : Unit) (H : Heap) (locs : List Loc) (ls : Array Slot), g y0 s0 = some r → va_P (dC, dI) vwCl (dw_P a ac s0) H → va_D A (dw_P a ac s0) → va_S A s.heap H locs → lv_has ls 3 [] → W p l e (headSpec ow_dm_X3_isHead ({ frames := 0, cells := 0, slots := 0, locals := 0 })).room s m args below meth c H locs 0 0 Q (F0 m 53 ls [.int y0])
def dj_X3_isHead_64 (p : Program) (l : Launch) (e : Env) (s : State) (m : MethodId) (args : Array Value) (below : List Frame) (meth : Method) (c : Code) (Q : State → Prop) (A : Nat → Prop) (dC : Nat → ClassId) (dI : Nat → Nat → Nat) (a : Nat → Nat) (ac : Nat → ClassId) (g : Int32 → (Unit) → Option (Int32 × (Unit))) (r : Int32 × (Unit)) : Prop := ∀ (y0 : Int32) (s0 : Unit) (H : Heap) (locs : List Loc) (ls : Array Slot), g y0 s0 = some r → va_P (dC, dI) vwCl (dw_P a ac s0) H → va_D A (dw_P a ac s0) → va_S A s.heap H locs → lv_has ls 3 [] → W p l e (headSpec ow_dm_X3_isHead ({ frames := 0, cells := 0, slots := 0, locals := 0 })).room s m args below meth c H locs 0 0 Q (F0 m 64 ls [.int y0])
def dj_X3_isHead_74 (p : Program) (l : Launch) (e : Env) (s : State) (m : MethodId) (args : Array Value) (below : List Frame) (meth : Method) (c : Code) (Q : State → Prop) (A : Nat → Prop) (dC : Nat → ClassId) (dI : Nat → Nat → Nat) (a : Nat → Nat) (ac : Nat → ClassId) (g : Int32 → (Unit) → Option (Int32 × (Unit))) (r : Int32 × (Unit)) : Prop := ∀ (y0 : Int32) (s0 : Unit) (H : Heap) (locs : List Loc) (ls : Array Slot), g y0 s0 = some r → va_P (dC, dI) vwCl (dw_P a ac s0) H → va_D A (dw_P a ac s0) → va_S A s.heap H locs → lv_has ls 3 [] → W p l e (headSpec ow_dm_X3_isHead ({ frames := 0, cells := 0, slots := 0, locals := 0 })).room s m args below meth c H locs 0 0 Q (F0 m 74 ls [.int y0])
def dj_X3_isHead_84 (p : Program) (l : Launch) (e : Env) (s : State) (m : MethodId) (args : Array Value) (below : List Frame) (meth : Method) (c : Code) (Q : State → Prop) (A : Nat → Prop) (dC : Nat → ClassId) (dI : Nat → Nat → Nat) (a : Nat → Nat) (ac : Nat → ClassId) (g : Int32 → (Unit) → Option (Int32 × (Unit))) (r : Int32 × (Unit)) : Prop := ∀ (y0 : Int32) (s0 : Unit) (H : Heap) (locs : List Loc) (ls : Array Slot), g y0 s0 = some r → va_P (dC, dI) vwCl (dw_P a ac s0) H → va_D A (dw_P a ac s0) → va_S A s.heap H locs → lv_has ls 3 [] → W p l e (headSpec ow_dm_X3_isHead ({ frames := 0, cells := 0, slots := 0, locals := 0 })).room s m args below meth c H locs 0 0 Q (F0 m 84 ls [.int y0])
def dj_X3_isHead_0 (p : Program) (l : Launch) (e : Env) (s : State) (m : MethodId) (args : Array Value) (below : List Frame) (meth : Method) (c : Code) (Q : State → Prop) (A : Nat → Prop) (dC : Nat → ClassId) (dI : Nat → Nat → Nat) (a : Nat → Nat) (ac : Nat → ClassId) (g : Int32 → Int32 → Int32 → (Unit) → Option (Int32 × (Unit))) (r : Int32 × (Unit)) : Prop := ∀ (v0 : Int32) (v1 : Int32) (v2 : Int32) (s0 : Unit) (H : Heap) (locs : List Loc) (ls : Array Slot), g v0 v1 v2 s0 = some r → va_P (dC, dI) vwCl (dw_P a ac s0) H → va_D A (dw_P a ac s0) → va_S A s.heap H locs → lv_has ls 3 [(0, .int v0), (1, .int v1), (2, .int v2)] → W p l e (headSpec ow_dm_X3_isHead ({ frames := 0, cells := 0, slots := 0, locals := 0 })).room s m args below meth c H locs 0 0 Q (F0 m 0 ls [])
set_option maxHeartbeats 40000000 in
set_option maxRecDepth 100000 in
theorem db_X3_isHead_40 {p : Program} {l : Launch} {e : Env} {s : State} {m : MethodId} {args : Array Value} {below : List Frame} {meth : Method} {c : Code} {Q : State → Prop} {A : Nat → Prop} {dC : Nat → ClassId} {dI : Nat → Nat → Nat} {a : Nat → Nat} {ac : Nat → ClassId} {n : Nat} {r : Int32 × (Unit)} (C : nd_C p l s m args c A (dC, dI) cX3_isHead 3 RX3 ow_dm_X3_isHead (dk_P ac)) (K : nd_Ki p l e (headSpec ow_dm_X3_isHead ({ frames := 0, cells := 0, slots := 0, locals := 0 })).room s m args below meth c Q A (dC, dI) cX3_isHead .boolean (Unit) (dw_P a ac) r) : dj_X3_isHead_40 p l e s m args below meth c Q A dC dI a ac (df_X3_isHead_40 n) r := by
  obtain ⟨hlt, hx, hb, hml, hown, hts, hN, hA, hK⟩ := id C
  intro s0 H locs ls h hP hD hS hl
  unfold df_X3_isHead_40 at h
  refine lv_iconst (v := 1) hx hb dX3_isHead_40 (by decide) ?_
  exact K _ _ _ _ _ _ dX3_isHead_41 (by first | rfl | decide) (Option.some.inj h).symm hP hD hS
set_option maxHeartbeats 40000000 in
set_option maxRecDepth 100000 in
theorem db_X3_isHead_53 {p : Program} {l : Launch} {e : Env} {s : State} {m : MethodId} {args : Array Value} {below : List Frame} {meth : Method} {c : Code} {Q : State → Prop} {A : Nat → Prop} {dC : Nat → ClassId} {dI : Nat → Nat → Nat} {a : Nat → Nat} {ac : Nat → ClassId} {n : Nat} {r : Int32 × (Unit)} (C : nd_C p l s m args c A (dC, dI) cX3_isHead 3 RX3 ow_dm_X3_isHead (dk_P ac)) (K : nd_Ki p l e (headSpec ow_dm_X3_isHead ({ frames := 0, cells := 0, slots := 0, locals := 0 })).room s m args below meth c Q A (dC, dI) cX3_isHead .boolean (Unit) (dw_P a ac) r) : dj_X3_isHead_53 p l e s m args below meth c Q A dC dI a ac (df_X3_isHead_53 n) r := by
  obtain ⟨hlt, hx, hb, hml, hown, hts, hN, hA, hK⟩ := id C
  intro y0 s0 H locs ls h hP hD hS hl
  unfold df_X3_isHead_53 at h
  obtain ⟨n4, h⟩ := nd_z_e ⟨_, rfl⟩ h
  exact K _ _ _ _ _ _ dX3_isHead_53 n4 (Option.some.inj h).symm hP hD hS
set_option maxHeartbeats 40000000 in
set_option maxRecDepth 100000 in
theorem db_X3_isHead_64 {p : Program} {l : Launch} {e : Env} {s : State} {m : MethodId} {args : Array Value} {below : List Frame} {meth : Method} {c : Code} {Q : State → Prop} {A : Nat → Prop} {dC : Nat → ClassId} {dI : Nat → Nat → Nat} {a : Nat → Nat} {ac : Nat → ClassId} {n : Nat} {r : Int32 × (Unit)} (C : nd_C p l s m args c A (dC, dI) cX3_isHead 3 RX3 ow_dm_X3_isHead (dk_P ac)) (K : nd_Ki p l e (headSpec ow_dm_X3_isHead ({ frames := 0, cells := 0, slots := 0, locals := 0 })).room s m args below meth c Q A (dC, dI) cX3_isHead .boolean (Unit) (dw_P a ac) r) : dj_X3_isHead_64 p l e s m args below meth c Q A dC dI a ac (df_X3_isHead_64 n) r := by
  obtain ⟨hlt, hx, hb, hml, hown, hts, hN, hA, hK⟩ := id C
  intro y0 s0 H locs ls h hP hD hS hl
  unfold df_X3_isHead_64 at h
  obtain ⟨n8, h⟩ := nd_z_e ⟨_, rfl⟩ h
  exact K _ _ _ _ _ _ dX3_isHead_64 n8 (Option.some.inj h).symm hP hD hS

