def ow_dm_X19_pack : List Cond := Cond.code yX19_pack cX19_pack 2 (some .int) :: ([Cond.fieldLink RX19 113 "TimeMachineModel" "code" "I", Cond.fieldLink RX19 74 "TimeMachineModel" "codec" "LTimeMachineModel$Codec;", Cond.methodLink RX19 356 yX14_clear, Cond.instanceMethod yX14_clear, Cond.selects RX14 yX14_clear yX14_clear, Cond.initialized RX14, Cond.fieldLink RX19 192 "TimeMachineModel" "events" "I", Cond.methodLink RX19 363 yX14_pack, Cond.instanceMethod yX14_pack, Cond.selects RX14 yX14_pack yX14_pack, Cond.fieldLink RX19 366 "TimeMachineModel" "logged" "I", Cond.fieldLink RX19 110 "TimeMachineModel" "log" "[I", Cond.fieldLink RX19 85 "TimeMachineModel" "kind" "[I", Cond.fieldLink RX19 91 "TimeMachineModel" "when" "[I", Cond.fieldLink RX19 100 "TimeMachineModel" "a" "[J", Cond.fieldLink RX19 88 "TimeMachineModel" "b" "[I", Cond.methodLink RX19 359 yX14_take, Cond.instanceMethod yX14_take, Cond.selects RX14 yX14_take yX14_take] ++ (u_ws RX19 TX19 36 ++ (u_ws RX14 TX14 11 ++ (ow_dm_X14_clear ++ (ow_dm_X14_pack ++ (ow_dm_X14_take ++ []))))))
theorem gd_dm_X19_pack : ∀ w ∈ ow_dm_X19_pack, (w.onTables && w.keeps) = true ∨ ∃ ty, w = Cond.arrayClass ty := List.forall_mem_cons.mpr ⟨good_of_word rfl, List.forall_mem_append.mpr ⟨fun w h => good_of_word (List.all_eq_true.mp (by decide +kernel) w h), List.forall_mem_append.mpr ⟨gu_X19, List.forall_mem_append.mpr ⟨gu_X14, List.forall_mem_append.mpr ⟨gd_dm_X14_clear, List.forall_mem_append.mpr ⟨gd_dm_X14_pack, List.forall_mem_append.mpr ⟨gd_dm_X14_take, fun _ h => nomatch h⟩⟩⟩⟩⟩⟩⟩
theorem hi_dm_X19_pack_X19 : ∀ w ∈ u_ws RX19 TX19 36, w ∈ ow_dm_X19_pack := fun w h => List.mem_cons_of_mem _ (List.mem_append_right _ (List.mem_append_left _ h))
theorem hi_dm_X19_pack_X14 : ∀ w ∈ u_ws RX14 TX14 11, w ∈ ow_dm_X19_pack := fun w h => List.mem_cons_of_mem _ (List.mem_append_right _ (List.mem_append_right _ (List.mem_append_left _ h)))
theorem gi_dm_X19_pack_0 : GoodIn ow_dm_X19_pack (wsV RX19 356 RX14 yX14_clear ow_dm_X14_clear) := goodIn_app (goodIn_of _ (by decide +kernel)) (fun w h => ⟨List.mem_cons_of_mem _ (List.mem_append_right _ (List.mem_append_right _ (List.mem_append_right _ (List.mem_append_left _ h)))), gd_dm_X14_clear w h⟩)
theorem gi_dm_X19_pack_1 : GoodIn ow_dm_X19_pack (wsV RX19 363 RX14 yX14_pack ow_dm_X14_pack) := goodIn_app (goodIn_of _ (by decide +kernel)) (fun w h => ⟨List.mem_cons_of_mem _ (List.mem_append_right _ (List.mem_append_right _ (List.mem_append_right _ (List.mem_append_right _ (List.mem_append_left _ h))))), gd_dm_X14_pack w h⟩)
theorem gi_dm_X19_pack_2 : GoodIn ow_dm_X19_pack (wsV RX19 359 RX14 yX14_take ow_dm_X14_take) := goodIn_app (goodIn_of _ (by decide +kernel)) (fun w h => ⟨List.mem_cons_of_mem _ (List.mem_append_right _ (List.mem_append_right _ (List.mem_append_right _ (List.mem_append_right _ (List.mem_append_right _ (List.mem_append_left _ h)))))), gd_dm_X14_take w h⟩)
def dj_X19_pack_90 (p : Program) (l : Launch) (e : Env) (s : State) (m : MethodId) (args : Array Value) (below : List Frame) (meth : Method) (c : Code) (Q : State → Prop) (A : Nat → Prop) (dC : Nat → ClassId) (dI : Nat → Nat → Nat) (a : Nat → Nat) (ac : Nat → ClassId) (g : Int32 → (St × (St) × (St × (St × (St))) × (St) × (St)) → Option (Int32 × (St × (St) × (St × (St × (St))) × (St) × (St)))) (r : Int32 × (St × (St) × (St × (St × (St))) × (St) × (St))) : Prop := ∀ (x1 : Int32) (s0 : St × (St) × (St × (St × (St))) × (St) × (St)) (H : Heap) (locs : List Loc) (ls : Array Slot), g x1 s0 = some r → va_P (dC, dI) vwCl (dw_X19 a ac s0) H → va_D A (dw_X19 a ac s0) → va_S A s.heap H locs → lv_has ls 2 [(0, .ref (a 0)), (1, .int x1)] → W p l e (headSpec ow_dm_X19_pack ({ frames := 4, cells := 0, slots := 0, locals := 95 })).room s m args below meth c H locs 0 0 Q (F0 m 90 ls [])
def dj_X19_pack_54 (p : Program) (l : Launch) (e : Env) (s : State) (m : MethodId) (args : Array Value) (below : List Frame) (meth : Method) (c : Code) (Q : State → Prop) (A : Nat → Prop) (dC : Nat → ClassId) (dI : Nat → Nat → Nat) (a : Nat → Nat) (ac : Nat → ClassId) (g : Int32 → Int32 → Int32 → Int32 → (St × (St) × (St × (St × (St))) × (St) × (St)) → Option (Int32 × (St × (St) × (St × (St × (St))) × (St) × (St)))) (r : Int32 × (St × (St) × (St × (St × (St))) × (St) × (St))) : Prop := ∀ (x1 : Int32) (y1 : Int32) (y2 : Int32) (y3 : Int32) (s0 : St × (St) × (St × (St × (St))) × (St) × (St)) (H : Heap) (locs : List Loc) (ls : Array Slot), g x1 y1 y2 y3 s0 = some r → va_P (dC, dI) vwCl (dw_X19 a ac s0) H → va_D A (dw_X19 a ac s0) → va_S A s.heap H locs → lv_has ls 2 [(0, .ref (a 0)), (1, .int x1)] → W p l e (headSpec ow_dm_X19_pack ({ frames := 4, cells := 0, slots := 0, locals := 95 })).room s m args below meth c H locs 0 0 Q (F0 m 54 ls [.int y3, .int y2, .int y1, .ref (a 86)])
def dj_X19_pack_14 (p : Program) (l : Launch) (e : Env) (s : State) (m : MethodId) (args : Array Value) (below : List Frame) (meth : Method) (c : Code) (Q : State → Prop) (A : Nat → Prop) (dC : Nat → ClassId) (dI : Nat → Nat → Nat) (a : Nat → Nat) (ac : Nat → ClassId) (g : Int32 → (St × (St) × (St × (St × (St))) × (St) × (St)) → Option (Int32 × (St × (St) × (St × (St × (St))) × (St) × (St)))) (r : Int32 × (St × (St) × (St × (St × (St))) × (St) × (St))) : Prop := ∀ (x1 : Int32) (s0 : St × (St) × (St × (St × (St))) × (St) × (St)) (H : Heap) (locs : List Loc) (ls : Array Slot), g x1 s0 = some r → va_P (dC, dI) vwCl (dw_X19 a ac s0) H → va_D A (dw_X19 a ac s0) → va_S A s.heap H locs → lv_has ls 2 [(0, .ref (a 0)), (1, .int x1)] → W p l e (headSpec ow_dm_X19_pack ({ frames := 4, cells := 0, slots := 0, locals := 95 })).room s m args below meth c H locs 0 0 Q (F0 m 14 ls [])
def dj_X19_pack_0 (p : Program) (l : Launch) (e : Env) (s : State) (m : MethodId) (args : Array Value) (below : List Frame) (meth : Method) (c : Code) (Q : State → Prop) (A : Nat → Prop) (dC : Nat → ClassId) (dI : Nat → Nat → Nat) (a : Nat → Nat) (ac : Nat → ClassId) (g : (St × (St) × (St × (St × (St))) × (St) × (St)) → Option (Int32 × (St × (St) × (St × (St × (St))) × (St) × (St)))) (r : Int32 × (St × (St) × (St × (St × (St))) × (St) × (St))) : Prop := ∀ (s0 : St × (St) × (St × (St × (St))) × (St) × (St)) (H : Heap) (locs : List Loc) (ls : Array Slot), g s0 = some r → va_P (dC, dI) vwCl (dw_X19 a ac s0) H → va_D A (dw_X19 a ac s0) → va_S A s.heap H locs → lv_has ls 2 [(0, .ref (a 0))] → W p l e (headSpec ow_dm_X19_pack ({ frames := 4, cells := 0, slots := 0, locals := 95 })).room s m args below meth c H locs 0 0 Q (F0 m 0 ls [])
set_option maxHeartbeats 40000000 in
set_option maxRecDepth 100000 in
theorem dB_X19_pack_90 {p : Program} {l : Launch} {e : Env} {s : State} {m : MethodId} {args : Array Value} {below : List Frame} {meth : Method} {c : Code} {Q : State → Prop} {A : Nat → Prop} {dC : Nat → ClassId} {dI : Nat → Nat → Nat} {a : Nat → Nat} {ac : Nat → ClassId} {n : Nat} {r : Int32 × (St × (St) × (St × (St × (St))) × (St) × (St))} (C : nd_C p l s m args c A (dC, dI) cX19_pack 2 RX19 ow_dm_X19_pack (dk_X19 ac)) (K : nd_Ki p l e (headSpec ow_dm_X19_pack ({ frames := 4, cells := 0, slots := 0, locals := 95 })).room s m args below meth c Q A (dC, dI) cX19_pack .int (St × (St) × (St × (St × (St))) × (St) × (St)) (dw_X19 a ac) r) {g90 : Int32 → (St × (St) × (St × (St × (St))) × (St) × (St)) → Option (Int32 × (St × (St) × (St × (St × (St))) × (St) × (St)))} (J90 : dj_X19_pack_90 p l e s m args below meth c Q A dC dI a ac g90 r) : dj_X19_pack_90 p l e s m args below meth c Q A dC dI a ac (dF_X19_pack_90 n g90) r := by
  obtain ⟨hlt, hx, hb, hml, hown, hts, hN, hA, hK⟩ := id C
  intro x1 s0 H locs ls h hP hD hS hl
  unfold dF_X19_pack_90 at h
  refine lv_iload_n hx hb dX19_pack_90 rfl (lv_at hl 1 rfl) ?_
  refine lv_aload_n hx hb dX19_pack_91 rfl (lv_at hl 0 rfl) ?_
  refine va_get (D := (dC, dI)) (ci := 20) (v := .int (sI s0.1 12)) (C := RX19) (T := TX19) (N := 36) hx hb hts hi_dm_X19_pack_X19 hown hK hP 0 rfl rfl 35 (by decide) (hts (.fieldLink RX19 366 "TimeMachineModel" "logged" "I") (List.mem_of_getElem? (i := 11) rfl)) (fun _ h9 => h9) rfl dX19_pack_92 ?_
  refine lv_icmp_ge (tgt := 119) hx hb dX19_pack_95 (by decide) (fun c12 => ?_) (fun c12 => ?_)
  · have h := nd_pos h c12
    refine lv_aload_n hx hb dX19_pack_119 rfl (lv_at hl 0 rfl) ?_
    refine va_get (D := (dC, dI)) (ci := 20) (v := .int (sI s0.1 12)) (C := RX19) (T := TX19) (N := 36) hx hb hts hi_dm_X19_pack_X19 hown hK hP 0 rfl rfl 35 (by decide) (hts (.fieldLink RX19 366 "TimeMachineModel" "logged" "I") (List.mem_of_getElem? (i := 11) rfl)) (fun _ h9 => h9) rfl dX19_pack_120 ?_
    exact K _ _ _ _ _ _ dX19_pack_123 rfl (Option.some.inj h).symm hP hD hS
  · have h := nd_neg h c12
    refine lv_aload_n hx hb dX19_pack_98 rfl (lv_at hl 0 rfl) ?_
    refine va_get (D := (dC, dI)) (ci := 20) (v := .ref (a 14)) (C := RX19) (T := TX19) (N := 36) hx hb hts hi_dm_X19_pack_X19 hown hK hP 0 rfl rfl 34 (by decide) (hts (.fieldLink RX19 110 "TimeMachineModel" "log" "[I") (List.mem_of_getElem? (i := 12) rfl)) (fun _ h9 => h9) rfl dX19_pack_99 ?_
    refine lv_iload_n hx hb dX19_pack_102 rfl (lv_at hl 1 rfl) ?_
    refine lv_aload_n hx hb dX19_pack_103 rfl (lv_at hl 0 rfl) ?_
    refine va_get (D := (dC, dI)) (ci := 20) (v := .ref (a 86)) (C := RX19) (T := TX19) (N := 36) hx hb hts hi_dm_X19_pack_X19 hown hK hP 0 rfl rfl 15 (by decide) (hts (.fieldLink RX19 74 "TimeMachineModel" "codec" "LTimeMachineModel$Codec;") (List.mem_of_getElem? (i := 2) rfl)) (fun _ h9 => h9) rfl dX19_pack_104 ?_
    refine va_getN (D := (dC, dI)) (ci := 15) (v := .ref (a 91)) (C := RX14) (T := TX14) (N := 11) hx hb hts hi_dm_X19_pack_X14 hown hK hP 86 rfl rfl 5 (by decide) (va_Nw.use rfl (hN.1 ("TimeMachineModel", 369, "TimeMachineModel$Codec", "packed", "[I", "TimeMachineModel") (by decide))) (fun _ h9 => h9) rfl dX19_pack_107 ?_
    refine lv_iload_n hx hb dX19_pack_110 rfl (lv_at hl 1 rfl) ?_
    obtain ⟨i13, h⟩ := nd_ck_e h
    refine va_iald (i := x1) hx hb hK hP 91 85 rfl rfl i13 dX19_pack_111 ?_
    obtain ⟨i14, h⟩ := nd_ck_e h
    refine va_iast (i := x1) (x := (sR s0.2.2.2.1 2 (Int32.toNatClampNeg x1))) hx hb hK hP hD hS 14 13 rfl rfl i14 dX19_pack_112 (fun H locs hP hD hS => ?_)
    obtain ⟨s15, es15, h⟩ := nd_let_e h
    have hP : va_P (dC, dI) vwCl (dw_X19 a ac s15) H := by rw [es15]; exact hP
    have hD : va_D A (dw_X19 a ac s15) := by rw [es15]; exact hD
    obtain ⟨z16, ez16, h⟩ := nd_let_e h
    refine lv_iinc (v := z16) (lv' := [(1, .int z16), (0, .ref (a 0))]) hx hb dX19_pack_113 hl (k := 1) rfl (by rw [ez16]) (by decide) rfl (fun ls hl => ?_)
    refine lv_goto (tgt := 90) hx hb dX19_pack_116 (by decide) ?_
    exact (J90) (z16) s15 _ _ _ h hP hD hS (lv_sub hl [1, 0] rfl)
set_option maxHeartbeats 40000000 in
set_option maxRecDepth 100000 in
theorem db_X19_pack_90 {p : Program} {l : Launch} {e : Env} {s : State} {m : MethodId} {args : Array Value} {below : List Frame} {meth : Method} {c : Code} {Q : State → Prop} {A : Nat → Prop} {dC : Nat → ClassId} {dI : Nat → Nat → Nat} {a : Nat → Nat} {ac : Nat → ClassId} {n : Nat} {r : Int32 × (St × (St) × (St × (St × (St))) × (St) × (St))} (C : nd_C p l s m args c A (dC, dI) cX19_pack 2 RX19 ow_dm_X19_pack (dk_X19 ac)) (K : nd_Ki p l e (headSpec ow_dm_X19_pack ({ frames := 4, cells := 0, slots := 0, locals := 95 })).room s m args below meth c Q A (dC, dI) cX19_pack .int (St × (St) × (St × (St × (St))) × (St) × (St)) (dw_X19 a ac) r) (k : Nat) : dj_X19_pack_90 p l e s m args below meth c Q A dC dI a ac (df_X19_pack_90 n k) r := by
  induction k with
  | zero => intro x1 s0 H locs ls h; exact nomatch (show (none : Option (Int32 × (St × (St) × (St × (St × (St))) × (St) × (St)))) = some r from h)
  | succ k ih => exact dB_X19_pack_90 C K ih
set_option maxHeartbeats 40000000 in
set_option maxRecDepth 100000 in
theorem db_X19_pack_54 {p : Program} {l : Launch} {e : Env} {s : State} {m : MethodId} {args : Array Value} {below : List Frame} {meth : Method} {c : Code} {Q : State → Prop} {A : Nat → Prop} {dC : Nat → ClassId} {dI : Nat → Nat → Nat} {a : Nat → Nat} {ac : Nat → ClassId} {n : Nat} {r : Int32 × (St × (St) × (St × (St × (St))) × (St) × (St))} (C : nd_C p l s m args c A (dC, dI) cX19_pack 2 RX19 ow_dm_X19_pack (dk_X19 ac)) (K : nd_Ki p l e (headSpec ow_dm_X19_pack ({ frames := 4, cells := 0, slots := 0, locals := 95 })).room s m args below meth c Q A (dC, dI) cX19_pack .int (St × (St) × (St × (St × (St))) × (St) × (St)) (dw_X19 a ac) r) {g14 : Int32 → (St × (St) × (St × (St × (St))) × (St) × (St)) → Option (Int32 × (St × (St) × (St × (St × (St))) × (St) × (St)))} (J14 : dj_X19_pack_14 p l e s m args below meth c Q A dC dI a ac g14 r) : dj_X19_pack_54 p l e s m args below meth c Q A dC dI a ac (df_X19_pack_54 n g14) r := by
  obtain ⟨hlt, hx, hb, hml, hown, hts, hN, hA, hK⟩ := id C
  intro x1 y1 y2 y3 s0 H locs ls h hP hD hS hl
  unfold df_X19_pack_54 at h
  refine lv_isub hx hb dX19_pack_54 ?_
  refine lv_i2l hx hb dX19_pack_55 rfl ?_
  refine lv_aload_n hx hb dX19_pack_56 rfl (lv_at hl 0 rfl) ?_
  refine va_get (D := (dC, dI)) (ci := 20) (v := .ref (a 11)) (C := RX19) (T := TX19) (N := 36) hx hb hts hi_dm_X19_pack_X19 hown hK hP 0 rfl rfl 31 (by decide) (hts (.fieldLink RX19 100 "TimeMachineModel" "a" "[J") (List.mem_of_getElem? (i := 15) rfl)) (fun _ h9 => h9) rfl dX19_pack_57 ?_
  refine lv_iload_n hx hb dX19_pack_60 rfl (lv_at hl 1 rfl) ?_
  obtain ⟨i21, h⟩ := nd_ck_e h
  refine va_lald (i := x1) hx hb hK hP 11 10 rfl rfl i21 dX19_pack_61 ?_
  refine lv_aload_n hx hb dX19_pack_62 rfl (lv_at hl 0 rfl) ?_
  refine va_get (D := (dC, dI)) (ci := 20) (v := .ref (a 7)) (C := RX19) (T := TX19) (N := 36) hx hb hts hi_dm_X19_pack_X19 hown hK hP 0 rfl rfl 27 (by decide) (hts (.fieldLink RX19 88 "TimeMachineModel" "b" "[I") (List.mem_of_getElem? (i := 16) rfl)) (fun _ h9 => h9) rfl dX19_pack_63 ?_
  refine lv_iload_n hx hb dX19_pack_66 rfl (lv_at hl 1 rfl) ?_
  obtain ⟨i22, h⟩ := nd_ck_e h
  refine va_iald (i := x1) hx hb hK hP 7 6 rfl rfl i22 dX19_pack_67 ?_
  obtain ⟨s24, hq, h⟩ := nd_b1_e h
  have hPc := dp_X19_86 hP
  have hDc := dd_X19_86 hD
  have hKc := dy_X19_86 hK
  have hFc := nd_rs hDc hS hA
  have hzA : ∀ q : Nat, H.size ≤ q → A q := fun q h => hA q (Nat.le_trans hS.1 h)
  refine nd_cVv (As := [.int y1, .long (((y2 - y3) : Int32).toInt64), .long (sQ s0.1 0 (Int32.toNatClampNeg x1)), .int (sR s0.1 6 (Int32.toNatClampNeg x1))]) (rest := []) (w' := dw_X14 (fun k => a (k + 86)) (fun k => ac (k + 86)) s24) ⟨hx, hb, hml, hown, hts⟩ (fun sz => dm_X14_take l hlt dC dI (fun k => a (k + 86)) (fun k => ac (k + 86)) n (y1) ((((y2 - y3) : Int32).toInt64)) ((sQ s0.1 0 (Int32.toNatClampNeg x1))) ((sR s0.1 6 (Int32.toNatClampNeg x1))) s0.2.2.2.1 hq sz) (cwV 4 hts gi_dm_X19_pack_2 rfl rfl rfl (by decide +kernel) ⟨Nat.le_of_ble_eq_true rfl, Nat.le_of_ble_eq_true rfl⟩) hPc hDc hKc hS hA hN (va_recv hKc hPc (ci := 15) (q0 := 0) rfl rfl) rfl hl.1 rfl (Nat.le_of_ble_eq_true rfl) dX19_pack_68 (fun H locs hP1 hD1 hk1 hS => ?_)
  obtain ⟨hP, hD⟩ := dn_X19_86 hP hD hzA hk1 hP1 hD1
  obtain ⟨s26, es26, h⟩ := nd_let_e h
  have hP : va_P (dC, dI) vwCl (dw_X19 a ac s26) H := by rw [es26]; exact hP
  have hD : va_D A (dw_X19 a ac s26) := by rw [es26]; exact hD
  obtain ⟨z27, ez27, h⟩ := nd_let_e h
  refine lv_iinc (v := z27) (lv' := [(1, .int z27), (0, .ref (a 0))]) hx hb dX19_pack_71 hl (k := 1) rfl (by rw [ez27]) (by decide) rfl (fun ls hl => ?_)
  refine lv_goto (tgt := 14) hx hb dX19_pack_74 (by decide) ?_
  exact (J14) (z27) s26 _ _ _ h hP hD hS (lv_sub hl [1, 0] rfl)
set_option maxHeartbeats 40000000 in
set_option maxRecDepth 100000 in
theorem dB_X19_pack_14 {p : Program} {l : Launch} {e : Env} {s : State} {m : MethodId} {args : Array Value} {below : List Frame} {meth : Method} {c : Code} {Q : State → Prop} {A : Nat → Prop} {dC : Nat → ClassId} {dI : Nat → Nat → Nat} {a : Nat → Nat} {ac : Nat → ClassId} {n : Nat} {r : Int32 × (St × (St) × (St × (St × (St))) × (St) × (St))} (C : nd_C p l s m args c A (dC, dI) cX19_pack 2 RX19 ow_dm_X19_pack (dk_X19 ac)) (K : nd_Ki p l e (headSpec ow_dm_X19_pack ({ frames := 4, cells := 0, slots := 0, locals := 95 })).room s m args below meth c Q A (dC, dI) cX19_pack .int (St × (St) × (St × (St × (St))) × (St) × (St)) (dw_X19 a ac) r) {g14 : Int32 → (St × (St) × (St × (St × (St))) × (St) × (St)) → Option (Int32 × (St × (St) × (St × (St × (St))) × (St) × (St)))} (J14 : dj_X19_pack_14 p l e s m args below meth c Q A dC dI a ac g14 r) : dj_X19_pack_14 p l e s m args below meth c Q A dC dI a ac (dF_X19_pack_14 n g14) r := by
  obtain ⟨hlt, hx, hb, hml, hown, hts, hN, hA, hK⟩ := id C
  intro x1 s0 H locs ls h hP hD hS hl
  unfold dF_X19_pack_14 at h
  refine lv_iload_n hx hb dX19_pack_14 rfl (lv_at hl 1 rfl) ?_
  refine lv_aload_n hx hb dX19_pack_15 rfl (lv_at hl 0 rfl) ?_
  refine va_get (D := (dC, dI)) (ci := 20) (v := .int (sI s0.1 8)) (C := RX19) (T := TX19) (N := 36) hx hb hts hi_dm_X19_pack_X19 hown hK hP 0 rfl rfl 22 (by decide) (hts (.fieldLink RX19 192 "TimeMachineModel" "events" "I") (List.mem_of_getElem? (i := 7) rfl)) (fun _ h9 => h9) rfl dX19_pack_16 ?_
  refine lv_icmp_ge (tgt := 77) hx hb dX19_pack_19 (by decide) (fun c6 => ?_) (fun c6 => ?_)
  · have h := nd_pos h c6
    refine lv_aload_n hx hb dX19_pack_77 rfl (lv_at hl 0 rfl) ?_
    refine lv_aload_n hx hb dX19_pack_78 rfl (lv_at hl 0 rfl) ?_
    refine va_get (D := (dC, dI)) (ci := 20) (v := .ref (a 86)) (C := RX19) (T := TX19) (N := 36) hx hb hts hi_dm_X19_pack_X19 hown hK hP 0 rfl rfl 15 (by decide) (hts (.fieldLink RX19 74 "TimeMachineModel" "codec" "LTimeMachineModel$Codec;") (List.mem_of_getElem? (i := 2) rfl)) (fun _ h9 => h9) rfl dX19_pack_79 ?_
    obtain ⟨q7, s8, hq, h⟩ := nd_b2_e h
    have hPc := dp_X19_86 hP
    have hDc := dd_X19_86 hD
    have hKc := dy_X19_86 hK
    have hFc := nd_rs hDc hS hA
    have hzA : ∀ q : Nat, H.size ≤ q → A q := fun q h => hA q (Nat.le_trans hS.1 h)
    refine nd_cVi (As := []) (rest := [.ref (a 0)]) (q := q7) (w' := dw_X14 (fun k => a (k + 86)) (fun k => ac (k + 86)) s8) ⟨hx, hb, hml, hown, hts⟩ (fun sz => dm_X14_pack l hlt dC dI (fun k => a (k + 86)) (fun k => ac (k + 86)) n  s0.2.2.2.1 hq sz) (cwV 0 hts gi_dm_X19_pack_1 rfl rfl rfl (by decide +kernel) ⟨Nat.le_of_ble_eq_true rfl, Nat.le_of_ble_eq_true rfl⟩) hPc hDc hKc hS hA hN (va_recv hKc hPc (ci := 15) (q0 := 0) rfl rfl) rfl hl.1 rfl (Nat.le_of_ble_eq_true rfl) dX19_pack_82 (fun H locs hP1 hD1 hk1 hS => ?_)
    obtain ⟨hP, hD⟩ := dn_X19_86 hP hD hzA hk1 hP1 hD1
    obtain ⟨s10, es10, h⟩ := nd_let_e h
    have hP : va_P (dC, dI) vwCl (dw_X19 a ac s10) H := by rw [es10]; exact hP
    have hD : va_D A (dw_X19 a ac s10) := by rw [es10]; exact hD
    refine va_put (D := (dC, dI)) (ci := 20) (v := .int q7) (ty := .int) (C := RX19) (T := TX19) (N := 36) hx hb hts hi_dm_X19_pack_X19 tyX19 tyX19_ok nmX19 hown hK hP hD hS 0 rfl rfl 35 (by decide) (hts (.fieldLink RX19 366 "TimeMachineModel" "logged" "I") (List.mem_of_getElem? (i := 11) rfl)) (fun _ h9 => h9) rfl (by decide +kernel) rfl rfl (Nat.le_of_ble_eq_true rfl) dX19_pack_85 (fun H locs hP hD hS => ?_)
    obtain ⟨s11, es11, h⟩ := nd_let_e h
    have hP : va_P (dC, dI) vwCl (dw_X19 a ac s11) H := by rw [es11]; exact hP
    have hD : va_D A (dw_X19 a ac s11) := by rw [es11]; exact hD
    refine lv_iconst (v := 0) hx hb dX19_pack_88 (by decide) ?_
    refine lv_istore_n (lv' := [(1, .int 0), (0, .ref (a 0))]) hx hb dX19_pack_89 rfl hl (by decide) rfl (fun ls hl => ?_)
    exact (db_X19_pack_90 C K n) (0) s11 _ _ _ h hP hD hS (lv_sub hl [1, 0] rfl)
  · have h := nd_neg h c6
    refine lv_aload_n hx hb dX19_pack_22 rfl (lv_at hl 0 rfl) ?_
    refine va_get (D := (dC, dI)) (ci := 20) (v := .ref (a 86)) (C := RX19) (T := TX19) (N := 36) hx hb hts hi_dm_X19_pack_X19 hown hK hP 0 rfl rfl 15 (by decide) (hts (.fieldLink RX19 74 "TimeMachineModel" "codec" "LTimeMachineModel$Codec;") (List.mem_of_getElem? (i := 2) rfl)) (fun _ h9 => h9) rfl dX19_pack_23 ?_
    refine lv_aload_n hx hb dX19_pack_26 rfl (lv_at hl 0 rfl) ?_
    refine va_get (D := (dC, dI)) (ci := 20) (v := .ref (a 6)) (C := RX19) (T := TX19) (N := 36) hx hb hts hi_dm_X19_pack_X19 hown hK hP 0 rfl rfl 26 (by decide) (hts (.fieldLink RX19 85 "TimeMachineModel" "kind" "[I") (List.mem_of_getElem? (i := 13) rfl)) (fun _ h9 => h9) rfl dX19_pack_27 ?_
    refine lv_iload_n hx hb dX19_pack_30 rfl (lv_at hl 1 rfl) ?_
    obtain ⟨i17, h⟩ := nd_ck_e h
    refine va_iald (i := x1) hx hb hK hP 6 5 rfl rfl i17 dX19_pack_31 ?_
    refine lv_aload_n hx hb dX19_pack_32 rfl (lv_at hl 0 rfl) ?_
    refine va_get (D := (dC, dI)) (ci := 20) (v := .ref (a 8)) (C := RX19) (T := TX19) (N := 36) hx hb hts hi_dm_X19_pack_X19 hown hK hP 0 rfl rfl 28 (by decide) (hts (.fieldLink RX19 91 "TimeMachineModel" "when" "[I") (List.mem_of_getElem? (i := 14) rfl)) (fun _ h9 => h9) rfl dX19_pack_33 ?_
    refine lv_iload_n hx hb dX19_pack_36 rfl (lv_at hl 1 rfl) ?_
    obtain ⟨i18, h⟩ := nd_ck_e h
    refine va_iald (i := x1) hx hb hK hP 8 7 rfl rfl i18 dX19_pack_37 ?_
    refine lv_iload_n hx hb dX19_pack_38 rfl (lv_at hl 1 rfl) ?_
    refine lv_if_ne (tgt := 46) hx hb dX19_pack_39 (by decide) (fun c19 => ?_) (fun c19 => ?_)
    · have h := nd_neg h c19
      refine lv_aload_n hx hb dX19_pack_46 rfl (lv_at hl 0 rfl) ?_
      refine va_get (D := (dC, dI)) (ci := 20) (v := .ref (a 8)) (C := RX19) (T := TX19) (N := 36) hx hb hts hi_dm_X19_pack_X19 hown hK hP 0 rfl rfl 28 (by decide) (hts (.fieldLink RX19 91 "TimeMachineModel" "when" "[I") (List.mem_of_getElem? (i := 14) rfl)) (fun _ h9 => h9) rfl dX19_pack_47 ?_
      refine lv_iload_n hx hb dX19_pack_50 rfl (lv_at hl 1 rfl) ?_
      refine lv_iconst (v := 1) hx hb dX19_pack_51 (by decide) ?_
      refine lv_isub hx hb dX19_pack_52 ?_
      obtain ⟨i20, h⟩ := nd_ck_e h
      refine va_iald (i := (x1 - 1)) hx hb hK hP 8 7 rfl rfl i20 dX19_pack_53 ?_
      exact (db_X19_pack_54 C K J14) (x1) ((sR s0.1 5 (Int32.toNatClampNeg x1))) ((sR s0.1 7 (Int32.toNatClampNeg x1))) ((sR s0.1 7 (Int32.toNatClampNeg (x1 - 1)))) s0 _ _ _ h hP hD hS (lv_sub hl [0, 1] rfl)
    · have h := nd_pos h c19
      refine lv_iconst (v := 0) hx hb dX19_pack_42 (by decide) ?_
      refine lv_goto (tgt := 54) hx hb dX19_pack_43 (by decide) ?_
      exact (db_X19_pack_54 C K J14) (x1) ((sR s0.1 5 (Int32.toNatClampNeg x1))) ((sR s0.1 7 (Int32.toNatClampNeg x1))) (0) s0 _ _ _ h hP hD hS (lv_sub hl [0, 1] rfl)
set_option maxHeartbeats 40000000 in
set_option maxRecDepth 100000 in
theorem db_X19_pack_14 {p : Program} {l : Launch} {e : Env} {s : State} {m : MethodId} {args : Array Value} {below : List Frame} {meth : Method} {c : Code} {Q : State → Prop} {A : Nat → Prop} {dC : Nat → ClassId} {dI : Nat → Nat → Nat} {a : Nat → Nat} {ac : Nat → ClassId} {n : Nat} {r : Int32 × (St × (St) × (St × (St × (St))) × (St) × (St))} (C : nd_C p l s m args c A (dC, dI) cX19_pack 2 RX19 ow_dm_X19_pack (dk_X19 ac)) (K : nd_Ki p l e (headSpec ow_dm_X19_pack ({ frames := 4, cells := 0, slots := 0, locals := 95 })).room s m args below meth c Q A (dC, dI) cX19_pack .int (St × (St) × (St × (St × (St))) × (St) × (St)) (dw_X19 a ac) r) (k : Nat) : dj_X19_pack_14 p l e s m args below meth c Q A dC dI a ac (df_X19_pack_14 n k) r := by
  induction k with
  | zero => intro x1 s0 H locs ls h; exact nomatch (show (none : Option (Int32 × (St × (St) × (St × (St × (St))) × (St) × (St)))) = some r from h)
  | succ k ih => exact dB_X19_pack_14 C K ih
set_option maxHeartbeats 40000000 in
set_option maxRecDepth 100000 in
theorem db_X19_pack_0 {p : Program} {l : Launch} {e : Env} {s : State} {m : MethodId} {args : Array Value} {below : List Frame} {meth : Method} {c : Code} {Q : State → Prop} {A : Nat → Prop} {dC : Nat → ClassId} {dI : Nat → Nat → Nat} {a : Nat → Nat} {ac : Nat → ClassId} {n : Nat} {r : Int32 × (St × (St) × (St × (St × (St))) × (St) × (St))} (C : nd_C p l s m args c A (dC, dI) cX19_pack 2 RX19 ow_dm_X19_pack (dk_X19 ac)) (K : nd_Ki p l e (headSpec ow_dm_X19_pack ({ frames := 4, cells := 0, slots := 0, locals := 95 })).room s m args below meth c Q A (dC, dI) cX19_pack .int (St × (St) × (St × (St × (St))) × (St) × (St)) (dw_X19 a ac) r) : dj_X19_pack_0 p l e s m args below meth c Q A dC dI a ac (df_X19_pack_0 n) r := by
  obtain ⟨hlt, hx, hb, hml, hown, hts, hN, hA, hK⟩ := id C
  intro s0 H locs ls h hP hD hS hl
  unfold df_X19_pack_0 at h
  refine lv_aload_n hx hb dX19_pack_0 rfl (lv_at hl 0 rfl) ?_
  refine lv_iconst (v := 0) hx hb dX19_pack_1 (by decide) ?_
  refine va_put (D := (dC, dI)) (ci := 20) (v := .int 0) (ty := .int) (C := RX19) (T := TX19) (N := 36) hx hb hts hi_dm_X19_pack_X19 tyX19 tyX19_ok nmX19 hown hK hP hD hS 0 rfl rfl 0 (by decide) (hts (.fieldLink RX19 113 "TimeMachineModel" "code" "I") (List.mem_of_getElem? (i := 1) rfl)) (fun _ h9 => h9) rfl (by decide +kernel) rfl rfl (Nat.le_of_ble_eq_true rfl) dX19_pack_2 (fun H locs hP hD hS => ?_)
  obtain ⟨s1, es1, h⟩ := nd_let_e h
  have hP : va_P (dC, dI) vwCl (dw_X19 a ac s1) H := by rw [es1]; exact hP
  have hD : va_D A (dw_X19 a ac s1) := by rw [es1]; exact hD
  refine lv_aload_n hx hb dX19_pack_5 rfl (lv_at hl 0 rfl) ?_
  refine va_get (D := (dC, dI)) (ci := 20) (v := .ref (a 86)) (C := RX19) (T := TX19) (N := 36) hx hb hts hi_dm_X19_pack_X19 hown hK hP 0 rfl rfl 15 (by decide) (hts (.fieldLink RX19 74 "TimeMachineModel" "codec" "LTimeMachineModel$Codec;") (List.mem_of_getElem? (i := 2) rfl)) (fun _ h9 => h9) rfl dX19_pack_6 ?_
  obtain ⟨s3, hq, h⟩ := nd_b1_e h
  have hPc := dp_X19_86 hP
  have hDc := dd_X19_86 hD
  have hKc := dy_X19_86 hK
  have hFc := nd_rs hDc hS hA
  have hzA : ∀ q : Nat, H.size ≤ q → A q := fun q h => hA q (Nat.le_trans hS.1 h)
  refine nd_cVv (As := []) (rest := []) (w' := dw_X14 (fun k => a (k + 86)) (fun k => ac (k + 86)) s3) ⟨hx, hb, hml, hown, hts⟩ (fun sz => dm_X14_clear l hlt dC dI (fun k => a (k + 86)) (fun k => ac (k + 86)) n  s1.2.2.2.1 hq sz) (cwV 0 hts gi_dm_X19_pack_0 rfl rfl rfl (by decide +kernel) ⟨Nat.le_of_ble_eq_true rfl, Nat.le_of_ble_eq_true rfl⟩) hPc hDc hKc hS hA hN (va_recv hKc hPc (ci := 15) (q0 := 0) rfl rfl) rfl hl.1 rfl (Nat.le_of_ble_eq_true rfl) dX19_pack_9 (fun H locs hP1 hD1 hk1 hS => ?_)
  obtain ⟨hP, hD⟩ := dn_X19_86 hP hD hzA hk1 hP1 hD1
  obtain ⟨s5, es5, h⟩ := nd_let_e h
  have hP : va_P (dC, dI) vwCl (dw_X19 a ac s5) H := by rw [es5]; exact hP
  have hD : va_D A (dw_X19 a ac s5) := by rw [es5]; exact hD
  refine lv_iconst (v := 0) hx hb dX19_pack_12 (by decide) ?_
  refine lv_istore_n (lv' := [(1, .int 0), (0, .ref (a 0))]) hx hb dX19_pack_13 rfl hl (by decide) rfl (fun ls hl => ?_)
  exact (db_X19_pack_14 C K n) (0) s5 _ _ _ h hP hD hS (lv_sub hl [1, 0] rfl)
set_option maxHeartbeats 40000000 in
set_option maxRecDepth 100000 in
theorem dm_X19_pack (l : Launch) (hlt : l.stackTraces = false) (dC : Nat → ClassId) (dI : Nat → Nat → Nat) (a : Nat → Nat) (ac : Nat → ClassId) (n : Nat) (s0 : St × (St) × (St × (St × (St))) × (St) × (St)) {r : Int32 × (St × (St) × (St × (St × (St))) × (St) × (St))} (h : df_X19_pack n s0 = some r) (sz : Nat) : Met l yX19_pack ow_dm_X19_pack ({ frames := 4, cells := 0, slots := 0, locals := 95 }) (va_Pc [.ref (a 0)] (fun U => U.heap.size = sz ∧ va_P (dC, dI) vwCl (dw_X19 a ac s0) U.heap ∧ va_K (dC, dI) vwCl (dk_X19 ac) U ∧ va_D (fun _ => True) (dw_X19 a ac s0) ∧ nv_E dI (va_A (dw_X19 a ac s0) sz) U)) (va_Qi (fun x _ => x = r.1) (fun (_ : Unit) t => va_P (dC, dI) vwCl (dw_X19 a ac r.2) t.heap ∧ va_K (dC, dI) vwCl (dk_X19 ac) t ∧ va_D (va_A (dw_X19 a ac s0) sz) (dw_X19 a ac r.2)) (va_A (dw_X19 a ac s0) sz)) 0 0 (va_A (dw_X19 a ac s0) sz) := by
  refine Met.ofW (cc := cX19_pack) (maxL := 2) (ret := (some .int)) (by decide) rfl ?_
  intro p e s m args below meth c s₁ B hml hv
  obtain ⟨rfl, hsz, hP, hK, hD0, hN⟩ := hv
  have hx := B.exec
  have hb := B.bytes
  have hr := B.returns
  have hts := atoms_spec (ws := ow_dm_X19_pack) B.pre
  have hown : s.vm.findClass RX19 = some m.cls := findClass_of_methodNamed B.named
  have hlocks := B.notSynchronized
  subst hsz
  have hD := hD0.self (sz := s.heap.size)
  generalize hAe : va_A (dw_X19 a ac s0) s.heap.size = A at hD hN ⊢
  have hA : ∀ q : Nat, s.heap.size ≤ q → A q := fun q h => by rw [← hAe]; exact Or.inr h
  have hl := lv_entry ([.ref (a 0)]) (n := 2) (Nat.le_of_ble_eq_true rfl)
  rw [lg_entry_eq]
  generalize (lg_sl ([.ref (a 0)]) ++ List.replicate (2 - (lg_sl ([.ref (a 0)])).length) Slot.unset).toArray = ls at hl ⊢
  have hl : lv_has ls 2 [(0, .ref (a 0))] := hl
  exact db_X19_pack_0 (dC := dC) (dI := dI) (a := a) (ac := ac) (n := n) (r := r) ⟨hlt, hx, hb, hml, hown, hts, hN, hA, hK⟩ (fun pc v τ H locs ls d z er hP hD hS => by subst er; exact W.zret (v := v) hx hb hr z (fun t ht hW => ⟨⟨v, (), rfl, rfl, by rw [ht]; exact hP, va_K.moved hW.alike hK, hD⟩, hS.F ht⟩) hS.2.2 d) s0 _ _ _ h hP hD va_S.rf (lv_sub hl [0] rfl)
def ow_dm_X19_logByte : List Cond := Cond.code yX19_logByte cX19_logByte 2 (some .int) :: ([Cond.fieldLink RX19 113 "TimeMachineModel" "code" "I", Cond.fieldLink RX19 366 "TimeMachineModel" "logged" "I", Cond.fieldLink RX19 110 "TimeMachineModel" "log" "[I"] ++ (u_ws RX19 TX19 36 ++ []))
theorem gd_dm_X19_logByte : ∀ w ∈ ow_dm_X19_logByte, (w.onTables && w.keeps) = true ∨ ∃ ty, w = Cond.arrayClass ty := List.forall_mem_cons.mpr ⟨good_of_word rfl, List.forall_mem_append.mpr ⟨fun w h => good_of_word (List.all_eq_true.mp (by decide +kernel) w h), List.forall_mem_append.mpr ⟨gu_X19, fun _ h => nomatch h⟩⟩⟩
theorem hi_dm_X19_logByte_X19 : ∀ w ∈ u_ws RX19 TX19 36, w ∈ ow_dm_X19_logByte := fun w h => List.mem_cons_of_mem _ (List.mem_append_right _ (List.mem_append_left _ h))
def dj_X19_logByte_27 (p : Program) (l : Launch) (e : Env) (s : State) (m : MethodId) (args : Array Value) (below : List Frame) (meth : Method) (c : Code) (Q : State → Prop) (A : Nat → Prop) (dC : Nat → ClassId) (dI : Nat → Nat → Nat) (a : Nat → Nat) (ac : Nat → ClassId) (g : Int32 → (St × (St) × (St × (St × (St))) × (St) × (St)) → Option (Int32 × (St × (St) × (St × (St × (St))) × (St) × (St)))) (r : Int32 × (St × (St) × (St × (St × (St))) × (St) × (St))) : Prop := ∀ (y0 : Int32) (s0 : St × (St) × (St × (St × (St))) × (St) × (St)) (H : Heap) (locs : List Loc) (ls : Array Slot), g y0 s0 = some r → va_P (dC, dI) vwCl (dw_X19 a ac s0) H → va_D A (dw_X19 a ac s0) → va_S A s.heap H locs → lv_has ls 2 [] → W p l e (headSpec ow_dm_X19_logByte ({ frames := 0, cells := 0, slots := 0, locals := 0 })).room s m args below meth c H locs 0 0 Q (F0 m 27 ls [.int y0])
def dj_X19_logByte_17 (p : Program) (l : Launch) (e : Env) (s : State) (m : MethodId) (args : Array Value) (below : List Frame) (meth : Method) (c : Code) (Q : State → Prop) (A : Nat → Prop) (dC : Nat → ClassId) (dI : Nat → Nat → Nat) (a : Nat → Nat) (ac : Nat → ClassId) (g : (St × (St) × (St × (St × (St))) × (St) × (St)) → Option (Int32 × (St × (St) × (St × (St × (St))) × (St) × (St)))) (r : Int32 × (St × (St) × (St × (St × (St))) × (St) × (St))) : Prop := ∀ (s0 : St × (St) × (St × (St × (St))) × (St) × (St)) (H : Heap) (locs : List Loc) (ls : Array Slot), g s0 = some r → va_P (dC, dI) vwCl (dw_X19 a ac s0) H → va_D A (dw_X19 a ac s0) → va_S A s.heap H locs → lv_has ls 2 [] → W p l e (headSpec ow_dm_X19_logByte ({ frames := 0, cells := 0, slots := 0, locals := 0 })).room s m args below meth c H locs 0 0 Q (F0 m 17 ls [])
def dj_X19_logByte_0 (p : Program) (l : Launch) (e : Env) (s : State) (m : MethodId) (args : Array Value) (below : List Frame) (meth : Method) (c : Code) (Q : State → Prop) (A : Nat → Prop) (dC : Nat → ClassId) (dI : Nat → Nat → Nat) (a : Nat → Nat) (ac : Nat → ClassId) (g : Int32 → (St × (St) × (St × (St × (St))) × (St) × (St)) → Option (Int32 × (St × (St) × (St × (St × (St))) × (St) × (St)))) (r : Int32 × (St × (St) × (St × (St × (St))) × (St) × (St))) : Prop := ∀ (v0 : Int32) (s0 : St × (St) × (St × (St × (St))) × (St) × (St)) (H : Heap) (locs : List Loc) (ls : Array Slot), g v0 s0 = some r → va_P (dC, dI) vwCl (dw_X19 a ac s0) H → va_D A (dw_X19 a ac s0) → va_S A s.heap H locs → lv_has ls 2 [(0, .ref (a 0)), (1, .int v0)] → W p l e (headSpec ow_dm_X19_logByte ({ frames := 0, cells := 0, slots := 0, locals := 0 })).room s m args below meth c H locs 0 0 Q (F0 m 0 ls [])
set_option maxHeartbeats 40000000 in
set_option maxRecDepth 100000 in
theorem db_X19_logByte_27 {p : Program} {l : Launch} {e : Env} {s : State} {m : MethodId} {args : Array Value} {below : List Frame} {meth : Method} {c : Code} {Q : State → Prop} {A : Nat → Prop} {dC : Nat → ClassId} {dI : Nat → Nat → Nat} {a : Nat → Nat} {ac : Nat → ClassId} {n : Nat} {r : Int32 × (St × (St) × (St × (St × (St))) × (St) × (St))} (C : nd_C p l s m args c A (dC, dI) cX19_logByte 2 RX19 ow_dm_X19_logByte (dk_X19 ac)) (K : nd_Ki p l e (headSpec ow_dm_X19_logByte ({ frames := 0, cells := 0, slots := 0, locals := 0 })).room s m args below meth c Q A (dC, dI) cX19_logByte .int (St × (St) × (St × (St × (St))) × (St) × (St)) (dw_X19 a ac) r) : dj_X19_logByte_27 p l e s m args below meth c Q A dC dI a ac (df_X19_logByte_27 n) r := by
  obtain ⟨hlt, hx, hb, hml, hown, hts, hN, hA, hK⟩ := id C
  intro y0 s0 H locs ls h hP hD hS hl
  unfold df_X19_logByte_27 at h
  exact K _ _ _ _ _ _ dX19_logByte_27 rfl (Option.some.inj h).symm hP hD hS
set_option maxHeartbeats 40000000 in
set_option maxRecDepth 100000 in
theorem db_X19_logByte_17 {p : Program} {l : Launch} {e : Env} {s : State} {m : MethodId} {args : Array Value} {below : List Frame} {meth : Method} {c : Code} {Q : State → Prop} {A : Nat → Prop} {dC : Nat → ClassId} {dI : Nat → Nat → Nat} {a : Nat → Nat} {ac : Nat → ClassId} {n : Nat} {r : Int32 × (St × (St) × (St × (St × (St))) × (St) × (St))} (C : nd_C p l s m args c A (dC, dI) cX19_logByte 2 RX19 ow_dm_X19_logByte (dk_X19 ac)) (K : nd_Ki p l e (headSpec ow_dm_X19_logByte ({ frames := 0, cells := 0, slots := 0, locals := 0 })).room s m args below meth c Q A (dC, dI) cX19_logByte .int (St × (St) × (St × (St × (St))) × (St) × (St)) (dw_X19 a ac) r) : dj_X19_logByte_17 p l e s m args below meth c Q A dC dI a ac (df_X19_logByte_17 n) r := by
  obtain ⟨hlt, hx, hb, hml, hown, hts, hN, hA, hK⟩ := id C
  intro s0 H locs ls h hP hD hS hl
  unfold df_X19_logByte_17 at h
  refine lv_iconst (v := (-1)) hx hb dX19_logByte_17 (by decide) ?_
  refine lv_goto (tgt := 27) hx hb dX19_logByte_18 (by decide) ?_
  exact (db_X19_logByte_27 C K) ((-1)) s0 _ _ _ h hP hD hS (lv_sub hl [] rfl)
set_option maxHeartbeats 40000000 in
set_option maxRecDepth 100000 in
theorem db_X19_logByte_0 {p : Program} {l : Launch} {e : Env} {s : State} {m : MethodId} {args : Array Value} {below : List Frame} {meth : Method} {c : Code} {Q : State → Prop} {A : Nat → Prop} {dC : Nat → ClassId} {dI : Nat → Nat → Nat} {a : Nat → Nat} {ac : Nat → ClassId} {n : Nat} {r : Int32 × (St × (St) × (St × (St × (St))) × (St) × (St))} (C : nd_C p l s m args c A (dC, dI) cX19_logByte 2 RX19 ow_dm_X19_logByte (dk_X19 ac)) (K : nd_Ki p l e (headSpec ow_dm_X19_logByte ({ frames := 0, cells := 0, slots := 0, locals := 0 })).room s m args below meth c Q A (dC, dI) cX19_logByte .int (St × (St) × (St × (St × (St))) × (St) × (St)) (dw_X19 a ac) r) : dj_X19_logByte_0 p l e s m args below meth c Q A dC dI a ac (df_X19_logByte_0 n) r := by
  obtain ⟨hlt, hx, hb, hml, hown, hts, hN, hA, hK⟩ := id C
  intro v0 s0 H locs ls h hP hD hS hl
  unfold df_X19_logByte_0 at h
  refine lv_aload_n hx hb dX19_logByte_0 rfl (lv_at hl 0 rfl) ?_
  refine lv_iconst (v := 0) hx hb dX19_logByte_1 (by decide) ?_
  refine va_put (D := (dC, dI)) (ci := 20) (v := .int 0) (ty := .int) (C := RX19) (T := TX19) (N := 36) hx hb hts hi_dm_X19_logByte_X19 tyX19 tyX19_ok nmX19 hown hK hP hD hS 0 rfl rfl 0 (by decide) (hts (.fieldLink RX19 113 "TimeMachineModel" "code" "I") (List.mem_of_getElem? (i := 1) rfl)) (fun _ h9 => h9) rfl (by decide +kernel) rfl rfl (Nat.le_of_ble_eq_true rfl) dX19_logByte_2 (fun H locs hP hD hS => ?_)
  obtain ⟨s1, es1, h⟩ := nd_let_e h
  have hP : va_P (dC, dI) vwCl (dw_X19 a ac s1) H := by rw [es1]; exact hP
  have hD : va_D A (dw_X19 a ac s1) := by rw [es1]; exact hD
  refine lv_iload_n hx hb dX19_logByte_5 rfl (lv_at hl 1 rfl) ?_
  refine lv_if_lt (tgt := 17) hx hb dX19_logByte_6 (by decide) (fun c2 => ?_) (fun c2 => ?_)
  · have h := nd_pos h c2
    exact (db_X19_logByte_17 C K)  s1 _ _ _ h hP hD hS (lv_sub hl [] rfl)
  · have h := nd_neg h c2
    refine lv_iload_n hx hb dX19_logByte_9 rfl (lv_at hl 1 rfl) ?_
    refine lv_aload_n hx hb dX19_logByte_10 rfl (lv_at hl 0 rfl) ?_
    refine va_get (D := (dC, dI)) (ci := 20) (v := .int (sI s1.1 12)) (C := RX19) (T := TX19) (N := 36) hx hb hts hi_dm_X19_logByte_X19 hown hK hP 0 rfl rfl 35 (by decide) (hts (.fieldLink RX19 366 "TimeMachineModel" "logged" "I") (List.mem_of_getElem? (i := 2) rfl)) (fun _ h9 => h9) rfl dX19_logByte_11 ?_
    refine lv_icmp_lt (tgt := 21) hx hb dX19_logByte_14 (by decide) (fun c3 => ?_) (fun c3 => ?_)
    · have h := nd_pos h c3
      refine lv_aload_n hx hb dX19_logByte_21 rfl (lv_at hl 0 rfl) ?_
      refine va_get (D := (dC, dI)) (ci := 20) (v := .ref (a 14)) (C := RX19) (T := TX19) (N := 36) hx hb hts hi_dm_X19_logByte_X19 hown hK hP 0 rfl rfl 34 (by decide) (hts (.fieldLink RX19 110 "TimeMachineModel" "log" "[I") (List.mem_of_getElem? (i := 3) rfl)) (fun _ h9 => h9) rfl dX19_logByte_22 ?_
      refine lv_iload_n hx hb dX19_logByte_25 rfl (lv_at hl 1 rfl) ?_
      obtain ⟨i4, h⟩ := nd_ck_e h
      refine va_iald (i := v0) hx hb hK hP 14 13 rfl rfl i4 dX19_logByte_26 ?_
      exact (db_X19_logByte_27 C K) ((sR s1.1 10 (Int32.toNatClampNeg v0))) s1 _ _ _ h hP hD hS (lv_sub hl [] rfl)
    · have h := nd_neg h c3
      exact (db_X19_logByte_17 C K)  s1 _ _ _ h hP hD hS (lv_sub hl [] rfl)
set_option maxHeartbeats 40000000 in
set_option maxRecDepth 100000 in
theorem dm_X19_logByte (l : Launch) (hlt : l.stackTraces = false) (dC : Nat → ClassId) (dI : Nat → Nat → Nat) (a : Nat → Nat) (ac : Nat → ClassId) (n : Nat) (v0 : Int32) (s0 : St × (St) × (St × (St × (St))) × (St) × (St)) {r : Int32 × (St × (St) × (St × (St × (St))) × (St) × (St))} (h : df_X19_logByte n v0 s0 = some r) (sz : Nat) : Met l yX19_logByte ow_dm_X19_logByte ({ frames := 0, cells := 0, slots := 0, locals := 0 }) (va_Pc [.ref (a 0), .int v0] (fun U => U.heap.size = sz ∧ va_P (dC, dI) vwCl (dw_X19 a ac s0) U.heap ∧ va_K (dC, dI) vwCl (dk_X19 ac) U ∧ va_D (fun _ => True) (dw_X19 a ac s0) ∧ nv_E dI (va_A (dw_X19 a ac s0) sz) U)) (va_Qi (fun x _ => x = r.1) (fun (_ : Unit) t => va_P (dC, dI) vwCl (dw_X19 a ac r.2) t.heap ∧ va_K (dC, dI) vwCl (dk_X19 ac) t ∧ va_D (va_A (dw_X19 a ac s0) sz) (dw_X19 a ac r.2)) (va_A (dw_X19 a ac s0) sz)) 0 0 (va_A (dw_X19 a ac s0) sz) := by
  refine Met.ofW (cc := cX19_logByte) (maxL := 2) (ret := (some .int)) (by decide) rfl ?_
  intro p e s m args below meth c s₁ B hml hv
  obtain ⟨rfl, hsz, hP, hK, hD0, hN⟩ := hv
  have hx := B.exec
  have hb := B.bytes
  have hr := B.returns
  have hts := atoms_spec (ws := ow_dm_X19_logByte) B.pre
  have hown : s.vm.findClass RX19 = some m.cls := findClass_of_methodNamed B.named
  have hlocks := B.notSynchronized
  subst hsz
  have hD := hD0.self (sz := s.heap.size)
  generalize hAe : va_A (dw_X19 a ac s0) s.heap.size = A at hD hN ⊢
  have hA : ∀ q : Nat, s.heap.size ≤ q → A q := fun q h => by rw [← hAe]; exact Or.inr h
  have hl := lv_entry ([.ref (a 0), .int v0]) (n := 2) (Nat.le_of_ble_eq_true rfl)
  rw [lg_entry_eq]
  generalize (lg_sl ([.ref (a 0), .int v0]) ++ List.replicate (2 - (lg_sl ([.ref (a 0), .int v0])).length) Slot.unset).toArray = ls at hl ⊢
  have hl : lv_has ls 2 [(0, .ref (a 0)), (1, .int v0)] := hl
  exact db_X19_logByte_0 (dC := dC) (dI := dI) (a := a) (ac := ac) (n := n) (r := r) ⟨hlt, hx, hb, hml, hown, hts, hN, hA, hK⟩ (fun pc v τ H locs ls d z er hP hD hS => by subst er; exact W.zret (v := v) hx hb hr z (fun t ht hW => ⟨⟨v, (), rfl, rfl, by rw [ht]; exact hP, va_K.moved hW.alike hK, hD⟩, hS.F ht⟩) hS.2.2 d) v0 s0 _ _ _ h hP hD va_S.rf (lv_sub hl [0, 1] rfl)
def ow_dm_X19_event : List Cond := Cond.code yX19_event cX19_event 3 (some .long) :: ([Cond.fieldLink RX19 113 "TimeMachineModel" "code" "I", Cond.constantLong RX19 292 (-1), Cond.fieldLink RX19 192 "TimeMachineModel" "events" "I", Cond.fieldLink RX19 88 "TimeMachineModel" "b" "[I", Cond.fieldLink RX19 100 "TimeMachineModel" "a" "[J", Cond.fieldLink RX19 91 "TimeMachineModel" "when" "[I", Cond.fieldLink RX19 85 "TimeMachineModel" "kind" "[I"] ++ (u_ws RX19 TX19 36 ++ []))
theorem gd_dm_X19_event : ∀ w ∈ ow_dm_X19_event, (w.onTables && w.keeps) = true ∨ ∃ ty, w = Cond.arrayClass ty := List.forall_mem_cons.mpr ⟨good_of_word rfl, List.forall_mem_append.mpr ⟨fun w h => good_of_word (List.all_eq_true.mp (by decide +kernel) w h), List.forall_mem_append.mpr ⟨gu_X19, fun _ h => nomatch h⟩⟩⟩
theorem hi_dm_X19_event_X19 : ∀ w ∈ u_ws RX19 TX19 36, w ∈ ow_dm_X19_event := fun w h => List.mem_cons_of_mem _ (List.mem_append_right _ (List.mem_append_left _ h))
def dj_X19_event_17 (p : Program) (l : Launch) (e : Env) (s : State) (m : MethodId) (args : Array Value) (below : List Frame) (meth : Method) (c : Code) (Q : State → Prop) (A : Nat → Prop) (dC : Nat → ClassId) (dI : Nat → Nat → Nat) (a : Nat → Nat) (ac : Nat → ClassId) (g : (St × (St) × (St × (St × (St))) × (St) × (St)) → Option (Int64 × (St × (St) × (St × (St × (St))) × (St) × (St)))) (r : Int64 × (St × (St) × (St × (St × (St))) × (St) × (St))) : Prop := ∀ (s0 : St × (St) × (St × (St × (St))) × (St) × (St)) (H : Heap) (locs : List Loc) (ls : Array Slot), g s0 = some r → va_P (dC, dI) vwCl (dw_X19 a ac s0) H → va_D A (dw_X19 a ac s0) → va_S A s.heap H locs → lv_has ls 3 [] → W p l e (headSpec ow_dm_X19_event ({ frames := 0, cells := 0, slots := 0, locals := 0 })).room s m args below meth c H locs 0 0 Q (F0 m 17 ls [])
def dj_X19_event_82 (p : Program) (l : Launch) (e : Env) (s : State) (m : MethodId) (args : Array Value) (below : List Frame) (meth : Method) (c : Code) (Q : State → Prop) (A : Nat → Prop) (dC : Nat → ClassId) (dI : Nat → Nat → Nat) (a : Nat → Nat) (ac : Nat → ClassId) (g : Int64 → (St × (St) × (St × (St × (St))) × (St) × (St)) → Option (Int64 × (St × (St) × (St × (St × (St))) × (St) × (St)))) (r : Int64 × (St × (St) × (St × (St × (St))) × (St) × (St))) : Prop := ∀ (y0 : Int64) (s0 : St × (St) × (St × (St × (St))) × (St) × (St)) (H : Heap) (locs : List Loc) (ls : Array Slot), g y0 s0 = some r → va_P (dC, dI) vwCl (dw_X19 a ac s0) H → va_D A (dw_X19 a ac s0) → va_S A s.heap H locs → lv_has ls 3 [] → W p l e (headSpec ow_dm_X19_event ({ frames := 0, cells := 0, slots := 0, locals := 0 })).room s m args below meth c H locs 0 0 Q (F0 m 82 ls [.long y0])
def dj_X19_event_0 (p : Program) (l : Launch) (e : Env) (s : State) (m : MethodId) (args : Array Value) (below : List Frame) (meth : Method) (c : Code) (Q : State → Prop) (A : Nat → Prop) (dC : Nat → ClassId) (dI : Nat → Nat → Nat) (a : Nat → Nat) (ac : Nat → ClassId) (g : Int32 → Int32 → (St × (St) × (St × (St × (St))) × (St) × (St)) → Option (Int64 × (St × (St) × (St × (St × (St))) × (St) × (St)))) (r : Int64 × (St × (St) × (St × (St × (St))) × (St) × (St))) : Prop := ∀ (v0 : Int32) (v1 : Int32) (s0 : St × (St) × (St × (St × (St))) × (St) × (St)) (H : Heap) (locs : List Loc) (ls : Array Slot), g v0 v1 s0 = some r → va_P (dC, dI) vwCl (dw_X19 a ac s0) H → va_D A (dw_X19 a ac s0) → va_S A s.heap H locs → lv_has ls 3 [(0, .ref (a 0)), (1, .int v0), (2, .int v1)] → W p l e (headSpec ow_dm_X19_event ({ frames := 0, cells := 0, slots := 0, locals := 0 })).room s m args below meth c H locs 0 0 Q (F0 m 0 ls [])
set_option maxHeartbeats 40000000 in
set_option maxRecDepth 100000 in
theorem db_X19_event_17 {p : Program} {l : Launch} {e : Env} {s : State} {m : MethodId} {args : Array Value} {below : List Frame} {meth : Method} {c : Code} {Q : State → Prop} {A : Nat → Prop} {dC : Nat → ClassId} {dI : Nat → Nat → Nat} {a : Nat → Nat} {ac : Nat → ClassId} {n : Nat} {r : Int64 × (St × (St) × (St × (St × (St))) × (St) × (St))} (C : nd_C p l s m args c A (dC, dI) cX19_event 3 RX19 ow_dm_X19_event (dk_X19 ac)) (K : nd_Kl p l e (headSpec ow_dm_X19_event ({ frames := 0, cells := 0, slots := 0, locals := 0 })).room s m args below meth c Q A (dC, dI) cX19_event (St × (St) × (St × (St × (St))) × (St) × (St)) (dw_X19 a ac) r) : dj_X19_event_17 p l e s m args below meth c Q A dC dI a ac (df_X19_event_17 n) r := by
  obtain ⟨hlt, hx, hb, hml, hown, hts, hN, hA, hK⟩ := id C
  intro s0 H locs ls h hP hD hS hl
  unfold df_X19_event_17 at h
  refine lv_ldc2 hx hb hown (hts (.constantLong RX19 292 (-1)) (List.mem_of_getElem? (i := 2) rfl)) dX19_event_17 ?_
  exact K _ _ _ _ _ _ dX19_event_20 (Option.some.inj h).symm hP hD hS
set_option maxHeartbeats 40000000 in
set_option maxRecDepth 100000 in
theorem db_X19_event_82 {p : Program} {l : Launch} {e : Env} {s : State} {m : MethodId} {args : Array Value} {below : List Frame} {meth : Method} {c : Code} {Q : State → Prop} {A : Nat → Prop} {dC : Nat → ClassId} {dI : Nat → Nat → Nat} {a : Nat → Nat} {ac : Nat → ClassId} {n : Nat} {r : Int64 × (St × (St) × (St × (St × (St))) × (St) × (St))} (C : nd_C p l s m args c A (dC, dI) cX19_event 3 RX19 ow_dm_X19_event (dk_X19 ac)) (K : nd_Kl p l e (headSpec ow_dm_X19_event ({ frames := 0, cells := 0, slots := 0, locals := 0 })).room s m args below meth c Q A (dC, dI) cX19_event (St × (St) × (St × (St × (St))) × (St) × (St)) (dw_X19 a ac) r) : dj_X19_event_82 p l e s m args below meth c Q A dC dI a ac (df_X19_event_82 n) r := by
  obtain ⟨hlt, hx, hb, hml, hown, hts, hN, hA, hK⟩ := id C
  intro y0 s0 H locs ls h hP hD hS hl
  unfold df_X19_event_82 at h
  exact K _ _ _ _ _ _ dX19_event_82 (Option.some.inj h).symm hP hD hS
set_option maxHeartbeats 40000000 in
set_option maxRecDepth 100000 in
theorem db_X19_event_0 {p : Program} {l : Launch} {e : Env} {s : State} {m : MethodId} {args : Array Value} {below : List Frame} {meth : Method} {c : Code} {Q : State → Prop} {A : Nat → Prop} {dC : Nat → ClassId} {dI : Nat → Nat → Nat} {a : Nat → Nat} {ac : Nat → ClassId} {n : Nat} {r : Int64 × (St × (St) × (St × (St × (St))) × (St) × (St))} (C : nd_C p l s m args c A (dC, dI) cX19_event 3 RX19 ow_dm_X19_event (dk_X19 ac)) (K : nd_Kl p l e (headSpec ow_dm_X19_event ({ frames := 0, cells := 0, slots := 0, locals := 0 })).room s m args below meth c Q A (dC, dI) cX19_event (St × (St) × (St × (St × (St))) × (St) × (St)) (dw_X19 a ac) r) : dj_X19_event_0 p l e s m args below meth c Q A dC dI a ac (df_X19_event_0 n) r := by
  obtain ⟨hlt, hx, hb, hml, hown, hts, hN, hA, hK⟩ := id C
  intro v0 v1 s0 H locs ls h hP hD hS hl
  unfold df_X19_event_0 at h
  refine lv_aload_n hx hb dX19_event_0 rfl (lv_at hl 0 rfl) ?_
  refine lv_iconst (v := 0) hx hb dX19_event_1 (by decide) ?_
  refine va_put (D := (dC, dI)) (ci := 20) (v := .int 0) (ty := .int) (C := RX19) (T := TX19) (N := 36) hx hb hts hi_dm_X19_event_X19 tyX19 tyX19_ok nmX19 hown hK hP hD hS 0 rfl rfl 0 (by decide) (hts (.fieldLink RX19 113 "TimeMachineModel" "code" "I") (List.mem_of_getElem? (i := 1) rfl)) (fun _ h9 => h9) rfl (by decide +kernel) rfl rfl (Nat.le_of_ble_eq_true rfl) dX19_event_2 (fun H locs hP hD hS => ?_)
  obtain ⟨s1, es1, h⟩ := nd_let_e h
  have hP : va_P (dC, dI) vwCl (dw_X19 a ac s1) H := by rw [es1]; exact hP
  have hD : va_D A (dw_X19 a ac s1) := by rw [es1]; exact hD
  refine lv_iload_n hx hb dX19_event_5 rfl (lv_at hl 1 rfl) ?_
  refine lv_if_lt (tgt := 17) hx hb dX19_event_6 (by decide) (fun c2 => ?_) (fun c2 => ?_)
  · have h := nd_pos h c2
    exact (db_X19_event_17 C K)  s1 _ _ _ h hP hD hS (lv_sub hl [] rfl)
  · have h := nd_neg h c2
    refine lv_iload_n hx hb dX19_event_9 rfl (lv_at hl 1 rfl) ?_
    refine lv_aload_n hx hb dX19_event_10 rfl (lv_at hl 0 rfl) ?_
    refine va_get (D := (dC, dI)) (ci := 20) (v := .int (sI s1.1 8)) (C := RX19) (T := TX19) (N := 36) hx hb hts hi_dm_X19_event_X19 hown hK hP 0 rfl rfl 22 (by decide) (hts (.fieldLink RX19 192 "TimeMachineModel" "events" "I") (List.mem_of_getElem? (i := 3) rfl)) (fun _ h9 => h9) rfl dX19_event_11 ?_
    refine lv_icmp_lt (tgt := 21) hx hb dX19_event_14 (by decide) (fun c3 => ?_) (fun c3 => ?_)
    · have h := nd_pos h c3
      refine lv_iload_n hx hb dX19_event_21 rfl (lv_at hl 2 rfl) ?_
      refine lv_if_ne (tgt := 35) hx hb dX19_event_22 (by decide) (fun c4 => ?_) (fun c4 => ?_)
      · have h := nd_neg h c4
        refine lv_iload_n hx hb dX19_event_35 rfl (lv_at hl 2 rfl) ?_
        refine lv_iconst (v := 1) hx hb dX19_event_36 (by decide) ?_
        refine lv_icmp_ne (tgt := 50) hx hb dX19_event_37 (by decide) (fun c5 => ?_) (fun c5 => ?_)
        · have h := nd_neg h c5
          refine lv_iload_n hx hb dX19_event_50 rfl (lv_at hl 2 rfl) ?_
          refine lv_iconst (v := 2) hx hb dX19_event_51 (by decide) ?_
          refine lv_icmp_ne (tgt := 64) hx hb dX19_event_52 (by decide) (fun c6 => ?_) (fun c6 => ?_)
          · have h := nd_neg h c6
            refine lv_iload_n hx hb dX19_event_64 rfl (lv_at hl 2 rfl) ?_
            refine lv_iconst (v := 3) hx hb dX19_event_65 (by decide) ?_
            refine lv_icmp_ne (tgt := 79) hx hb dX19_event_66 (by decide) (fun c7 => ?_) (fun c7 => ?_)
            · have h := nd_neg h c7
              refine lv_ldc2 hx hb hown (hts (.constantLong RX19 292 (-1)) (List.mem_of_getElem? (i := 2) rfl)) dX19_event_79 ?_
              exact (db_X19_event_82 C K) ((-1)) s1 _ _ _ h hP hD hS (lv_sub hl [] rfl)
            · have h := nd_pos h c7
              refine lv_aload_n hx hb dX19_event_69 rfl (lv_at hl 0 rfl) ?_
              refine va_get (D := (dC, dI)) (ci := 20) (v := .ref (a 7)) (C := RX19) (T := TX19) (N := 36) hx hb hts hi_dm_X19_event_X19 hown hK hP 0 rfl rfl 27 (by decide) (hts (.fieldLink RX19 88 "TimeMachineModel" "b" "[I") (List.mem_of_getElem? (i := 4) rfl)) (fun _ h9 => h9) rfl dX19_event_70 ?_
              refine lv_iload_n hx hb dX19_event_73 rfl (lv_at hl 1 rfl) ?_
              obtain ⟨i8, h⟩ := nd_ck_e h
              refine va_iald (i := v0) hx hb hK hP 7 6 rfl rfl i8 dX19_event_74 ?_
              refine lv_i2l hx hb dX19_event_75 rfl ?_
              refine lv_goto (tgt := 82) hx hb dX19_event_76 (by decide) ?_
              exact (db_X19_event_82 C K) ((((sR s1.1 6 (Int32.toNatClampNeg v0)) : Int32).toInt64)) s1 _ _ _ h hP hD hS (lv_sub hl [] rfl)
          · have h := nd_pos h c6
            refine lv_aload_n hx hb dX19_event_55 rfl (lv_at hl 0 rfl) ?_
            refine va_get (D := (dC, dI)) (ci := 20) (v := .ref (a 11)) (C := RX19) (T := TX19) (N := 36) hx hb hts hi_dm_X19_event_X19 hown hK hP 0 rfl rfl 31 (by decide) (hts (.fieldLink RX19 100 "TimeMachineModel" "a" "[J") (List.mem_of_getElem? (i := 5) rfl)) (fun _ h9 => h9) rfl dX19_event_56 ?_
            refine lv_iload_n hx hb dX19_event_59 rfl (lv_at hl 1 rfl) ?_
            obtain ⟨i9, h⟩ := nd_ck_e h
            refine va_lald (i := v0) hx hb hK hP 11 10 rfl rfl i9 dX19_event_60 ?_
            refine lv_goto (tgt := 82) hx hb dX19_event_61 (by decide) ?_
            exact (db_X19_event_82 C K) ((sQ s1.1 0 (Int32.toNatClampNeg v0))) s1 _ _ _ h hP hD hS (lv_sub hl [] rfl)
        · have h := nd_pos h c5
          refine lv_aload_n hx hb dX19_event_40 rfl (lv_at hl 0 rfl) ?_
          refine va_get (D := (dC, dI)) (ci := 20) (v := .ref (a 8)) (C := RX19) (T := TX19) (N := 36) hx hb hts hi_dm_X19_event_X19 hown hK hP 0 rfl rfl 28 (by decide) (hts (.fieldLink RX19 91 "TimeMachineModel" "when" "[I") (List.mem_of_getElem? (i := 6) rfl)) (fun _ h9 => h9) rfl dX19_event_41 ?_
          refine lv_iload_n hx hb dX19_event_44 rfl (lv_at hl 1 rfl) ?_
          obtain ⟨i10, h⟩ := nd_ck_e h
          refine va_iald (i := v0) hx hb hK hP 8 7 rfl rfl i10 dX19_event_45 ?_
          refine lv_i2l hx hb dX19_event_46 rfl ?_
          refine lv_goto (tgt := 82) hx hb dX19_event_47 (by decide) ?_
          exact (db_X19_event_82 C K) ((((sR s1.1 7 (Int32.toNatClampNeg v0)) : Int32).toInt64)) s1 _ _ _ h hP hD hS (lv_sub hl [] rfl)
      · have h := nd_pos h c4
        refine lv_aload_n hx hb dX19_event_25 rfl (lv_at hl 0 rfl) ?_
        refine va_get (D := (dC, dI)) (ci := 20) (v := .ref (a 6)) (C := RX19) (T := TX19) (N := 36) hx hb hts hi_dm_X19_event_X19 hown hK hP 0 rfl rfl 26 (by decide) (hts (.fieldLink RX19 85 "TimeMachineModel" "kind" "[I") (List.mem_of_getElem? (i := 7) rfl)) (fun _ h9 => h9) rfl dX19_event_26 ?_
        refine lv_iload_n hx hb dX19_event_29 rfl (lv_at hl 1 rfl) ?_
        obtain ⟨i11, h⟩ := nd_ck_e h
        refine va_iald (i := v0) hx hb hK hP 6 5 rfl rfl i11 dX19_event_30 ?_
        refine lv_i2l hx hb dX19_event_31 rfl ?_
        refine lv_goto (tgt := 82) hx hb dX19_event_32 (by decide) ?_
        exact (db_X19_event_82 C K) ((((sR s1.1 5 (Int32.toNatClampNeg v0)) : Int32).toInt64)) s1 _ _ _ h hP hD hS (lv_sub hl [] rfl)
    · have h := nd_neg h c3
      exact (db_X19_event_17 C K)  s1 _ _ _ h hP hD hS (lv_sub hl [] rfl)
set_option maxHeartbeats 40000000 in
set_option maxRecDepth 100000 in
theorem dm_X19_event (l : Launch) (hlt : l.stackTraces = false) (dC : Nat → ClassId) (dI : Nat → Nat → Nat) (a : Nat → Nat) (ac : Nat → ClassId) (n : Nat) (v0 : Int32) (v1 : Int32) (s0 : St × (St) × (St × (St × (St))) × (St) × (St)) {r : Int64 × (St × (St) × (St × (St × (St))) × (St) × (St))} (h : df_X19_event n v0 v1 s0 = some r) (sz : Nat) : Met l yX19_event ow_dm_X19_event ({ frames := 0, cells := 0, slots := 0, locals := 0 }) (va_Pc [.ref (a 0), .int v0, .int v1] (fun U => U.heap.size = sz ∧ va_P (dC, dI) vwCl (dw_X19 a ac s0) U.heap ∧ va_K (dC, dI) vwCl (dk_X19 ac) U ∧ va_D (fun _ => True) (dw_X19 a ac s0) ∧ nv_E dI (va_A (dw_X19 a ac s0) sz) U)) (va_Ql (fun x _ => x = r.1) (fun (_ : Unit) t => va_P (dC, dI) vwCl (dw_X19 a ac r.2) t.heap ∧ va_K (dC, dI) vwCl (dk_X19 ac) t ∧ va_D (va_A (dw_X19 a ac s0) sz) (dw_X19 a ac r.2)) (va_A (dw_X19 a ac s0) sz)) 0 0 (va_A (dw_X19 a ac s0) sz) := by
  refine Met.ofW (cc := cX19_event) (maxL := 3) (ret := (some .long)) (by decide) rfl ?_
  intro p e s m args below meth c s₁ B hml hv
  obtain ⟨rfl, hsz, hP, hK, hD0, hN⟩ := hv
  have hx := B.exec
  have hb := B.bytes
  have hr := B.returns
  have hts := atoms_spec (ws := ow_dm_X19_event) B.pre
  have hown : s.vm.findClass RX19 = some m.cls := findClass_of_methodNamed B.named
  have hlocks := B.notSynchronized
  subst hsz
  have hD := hD0.self (sz := s.heap.size)
  generalize hAe : va_A (dw_X19 a ac s0) s.heap.size = A at hD hN ⊢
  have hA : ∀ q : Nat, s.heap.size ≤ q → A q := fun q h => by rw [← hAe]; exact Or.inr h
  have hl := lv_entry ([.ref (a 0), .int v0, .int v1]) (n := 3) (Nat.le_of_ble_eq_true rfl)
  rw [lg_entry_eq]
  generalize (lg_sl ([.ref (a 0), .int v0, .int v1]) ++ List.replicate (3 - (lg_sl ([.ref (a 0), .int v0, .int v1])).length) Slot.unset).toArray = ls at hl ⊢
  have hl : lv_has ls 3 [(0, .ref (a 0)), (1, .int v0), (2, .int v1)] := hl
  exact db_X19_event_0 (dC := dC) (dI := dI) (a := a) (ac := ac) (n := n) (r := r) ⟨hlt, hx, hb, hml, hown, hts, hN, hA, hK⟩ (fun pc v τ H locs ls d er hP hD hS => by subst er; exact W.lret (v := v) hx hb hr (fun t ht hW => ⟨⟨v, (), rfl, rfl, by rw [ht]; exact hP, va_K.moved hW.alike hK, hD⟩, hS.F ht⟩) hS.2.2 d) v0 v1 s0 _ _ _ h hP hD va_S.rf (lv_sub hl [0, 1, 2] rfl)

