def ow_dm_X16_show : List Cond := .code yX16_show cX16_show 3 none :: ([.fieldLink RX16 147 "TimeMachineModel$Machine" "shown" "J", .constantLong RX16 497 (2048), .fieldLink RX16 112 "TimeMachineModel$Machine" "shownBytes" "[I"] ++ (u_ws RX16 TX16 56 ++ []))
theorem gd_dm_X16_show : ∀ w ∈ ow_dm_X16_show, (w.onTables && w.keeps) = true ∨ ∃ ty, w = Cond.arrayClass ty := List.forall_mem_cons.mpr ⟨good_of_word rfl, List.forall_mem_append.mpr ⟨fun w h => good_of_word (List.all_eq_true.mp (by decide +kernel) w h), List.forall_mem_append.mpr ⟨gu_X16, fun _ h => nomatch h⟩⟩⟩
theorem hi_dm_X16_show_X16 : ∀ w ∈ u_ws RX16 TX16 56, w ∈ ow_dm_X16_show := fun w h => List.mem_cons_of_mem _ (List.mem_append_right _ (List.mem_append_left _ h))
def dj_X16_show_66 (p : Program) (l : Launch) (e : Env) (s : State) (m : MethodId) (args : Array Value) (below : List Frame) (meth : Method) (c : Code) (Q : State → Prop) (A : Nat → Prop) (dC : Nat → ClassId) (dI : Nat → Nat → Nat) (a : Nat → Nat) (ac : Nat → ClassId) (g : Int32 → Int32 → (St × (St)) → Option (St × (St))) (r : St × (St)) : Prop := ∀ (x1 : Int32) (y1 : Int32) (s0 : St × (St)) (H : Heap) (locs : List Loc) (ls : Array Slot), g x1 y1 s0 = some r → va_P (dC, dI) vwCl (dw_X16 a ac s0) H → va_D A (dw_X16 a ac s0) → va_S A s.heap H locs → lv_has ls 3 [(0, .ref (a 0)), (1, .int x1)] → W p l e (headSpec ow_dm_X16_show ({ frames := 0, cells := 0, slots := 0, locals := 0 })).room s m args below meth c H locs 0 0 Q (F0 m 66 ls [.int y1, .ref (a 34)])
def dj_X16_show_40 (p : Program) (l : Launch) (e : Env) (s : State) (m : MethodId) (args : Array Value) (below : List Frame) (meth : Method) (c : Code) (Q : State → Prop) (A : Nat → Prop) (dC : Nat → ClassId) (dI : Nat → Nat → Nat) (a : Nat → Nat) (ac : Nat → ClassId) (g : Int32 → (St × (St)) → Option (St × (St))) (r : St × (St)) : Prop := ∀ (x1 : Int32) (s0 : St × (St)) (H : Heap) (locs : List Loc) (ls : Array Slot), g x1 s0 = some r → va_P (dC, dI) vwCl (dw_X16 a ac s0) H → va_D A (dw_X16 a ac s0) → va_S A s.heap H locs → lv_has ls 3 [(0, .ref (a 0)), (1, .int x1)] → W p l e (headSpec ow_dm_X16_show ({ frames := 0, cells := 0, slots := 0, locals := 0 })).room s m args below meth c H locs 0 0 Q (F0 m 40 ls [])
def dj_X16_show_13 (p : Program) (l : Launch) (e : Env) (s : State) (m : MethodId) (args : Array Value) (below : List Frame) (meth : Method) (c : Code) (Q : State → Prop) (A : Nat → Prop) (dC : Nat → ClassId) (dI : Nat → Nat → Nat) (a : Nat → Nat) (ac : Nat → ClassId) (g : Int32 → Int32 → (St × (St)) → Option (St × (St))) (r : St × (St)) : Prop := ∀ (x1 : Int32) (x2 : Int32) (s0 : St × (St)) (H : Heap) (locs : List Loc) (ls : Array Slot), g x1 x2 s0 = some r → va_P (dC, dI) vwCl (dw_X16 a ac s0) H → va_D A (dw_X16 a ac s0) → va_S A s.heap H locs → lv_has ls 3 [(0, .ref (a 0)), (1, .int x1), (2, .int x2)] → W p l e (headSpec ow_dm_X16_show ({ frames := 0, cells := 0, slots := 0, locals := 0 })).room s m args below meth c H locs 0 0 Q (F0 m 13 ls [])
def dj_X16_show_0 (p : Program) (l : Launch) (e : Env) (s : State) (m : MethodId) (args : Array Value) (below : List Frame) (meth : Method) (c : Code) (Q : State → Prop) (A : Nat → Prop) (dC : Nat → ClassId) (dI : Nat → Nat → Nat) (a : Nat → Nat) (ac : Nat → ClassId) (g : Int32 → (St × (St)) → Option (St × (St))) (r : St × (St)) : Prop := ∀ (v0 : Int32) (s0 : St × (St)) (H : Heap) (locs : List Loc) (ls : Array Slot), g v0 s0 = some r → va_P (dC, dI) vwCl (dw_X16 a ac s0) H → va_D A (dw_X16 a ac s0) → va_S A s.heap H locs → lv_has ls 3 [(0, .ref (a 0)), (1, .int v0)] → W p l e (headSpec ow_dm_X16_show ({ frames := 0, cells := 0, slots := 0, locals := 0 })).room s m args below meth c H locs 0 0 Q (F0 m 0 ls [])
set_option maxHeartbeats 40000000 in
set_option maxRecDepth 100000 in
theorem db_X16_show_66 {p : Program} {l : Launch} {e : Env} {s : State} {m : MethodId} {args : Array Value} {below : List Frame} {meth : Method} {c : Code} {Q : State → Prop} {A : Nat → Prop} {dC : Nat → ClassId} {dI : Nat → Nat → Nat} {a : Nat → Nat} {ac : Nat → ClassId} {n : Nat} {r : St × (St)} (C : nd_C p l s m args c A (dC, dI) cX16_show 3 RX16 ow_dm_X16_show (dk_X16 ac)) (K : nd_Kv p l e (headSpec ow_dm_X16_show ({ frames := 0, cells := 0, slots := 0, locals := 0 })).room s m args below meth c Q A (dC, dI) cX16_show (St × (St)) (dw_X16 a ac) r) : dj_X16_show_66 p l e s m args below meth c Q A dC dI a ac (df_X16_show_66 n) r := by
  obtain ⟨hlt, hx, hb, hml, hown, hts, hN, hA, hK⟩ := id C
  intro x1 y1 s0 H locs ls h hP hD hS hl
  unfold df_X16_show_66 at h
  refine lv_iload_n hx hb dX16_show_66 rfl (lv_at hl 1 rfl) ?_
  obtain ⟨i3, h⟩ := nd_ck_e h
  refine va_iast (i := y1) (x := x1) hx hb hK hP hD hS 34 33 rfl rfl i3 dX16_show_67 (fun H locs hP hD hS => ?_)
  obtain ⟨s4, es4, h⟩ := nd_let_e h
  have hP : va_P (dC, dI) vwCl (dw_X16 a ac s4) H := by rw [es4]; exact hP
  have hD : va_D A (dw_X16 a ac s4) := by rw [es4]; exact hD
  refine lv_aload_n hx hb dX16_show_68 rfl (lv_at hl 0 rfl) ?_
  refine lv_dup hx hb dX16_show_69 rfl ?_
  refine va_get (D := (dC, dI)) (ci := 17) (v := .long (sL s4.1 2)) (C := RX16) (T := TX16) (N := 56) hx hb hts hi_dm_X16_show_X16 hown hK hP 0 rfl rfl 45 (by decide) (hts (.fieldLink RX16 147 "TimeMachineModel$Machine" "shown" "J") (List.mem_of_getElem? (i := 1) rfl)) (fun _ h9 => h9) rfl dX16_show_70 ?_
  refine lv_lconst (v := 1) hx hb dX16_show_73 (by decide) ?_
  refine lv_ladd hx hb dX16_show_74 ?_
  refine va_put (D := (dC, dI)) (ci := 17) (v := .long (((sL s4.1 2) : Int64) + 1)) (ty := .long) (C := RX16) (T := TX16) (N := 56) hx hb hts hi_dm_X16_show_X16 tyX16 tyX16_ok nmX16 hown hK hP hD hS 0 rfl rfl 45 (by decide) (hts (.fieldLink RX16 147 "TimeMachineModel$Machine" "shown" "J") (List.mem_of_getElem? (i := 1) rfl)) (fun _ h9 => h9) rfl (by decide +kernel) rfl rfl (Nat.le_of_ble_eq_true rfl) dX16_show_75 (fun H locs hP hD hS => ?_)
  obtain ⟨s5, es5, h⟩ := nd_let_e h
  have hP : va_P (dC, dI) vwCl (dw_X16 a ac s5) H := by rw [es5]; exact hP
  have hD : va_D A (dw_X16 a ac s5) := by rw [es5]; exact hD
  exact K _ _ _ _ _ dX16_show_78 (Option.some.inj h).symm hP hD hS
set_option maxHeartbeats 40000000 in
set_option maxRecDepth 100000 in
theorem db_X16_show_40 {p : Program} {l : Launch} {e : Env} {s : State} {m : MethodId} {args : Array Value} {below : List Frame} {meth : Method} {c : Code} {Q : State → Prop} {A : Nat → Prop} {dC : Nat → ClassId} {dI : Nat → Nat → Nat} {a : Nat → Nat} {ac : Nat → ClassId} {n : Nat} {r : St × (St)} (C : nd_C p l s m args c A (dC, dI) cX16_show 3 RX16 ow_dm_X16_show (dk_X16 ac)) (K : nd_Kv p l e (headSpec ow_dm_X16_show ({ frames := 0, cells := 0, slots := 0, locals := 0 })).room s m args below meth c Q A (dC, dI) cX16_show (St × (St)) (dw_X16 a ac) r) : dj_X16_show_40 p l e s m args below meth c Q A dC dI a ac (df_X16_show_40 n) r := by
  obtain ⟨hlt, hx, hb, hml, hown, hts, hN, hA, hK⟩ := id C
  intro x1 s0 H locs ls h hP hD hS hl
  unfold df_X16_show_40 at h
  refine lv_aload_n hx hb dX16_show_40 rfl (lv_at hl 0 rfl) ?_
  refine va_get (D := (dC, dI)) (ci := 17) (v := .ref (a 34)) (C := RX16) (T := TX16) (N := 56) hx hb hts hi_dm_X16_show_X16 hown hK hP 0 rfl rfl 44 (by decide) (hts (.fieldLink RX16 112 "TimeMachineModel$Machine" "shownBytes" "[I") (List.mem_of_getElem? (i := 3) rfl)) (fun _ h9 => h9) rfl dX16_show_41 ?_
  refine lv_aload_n hx hb dX16_show_44 rfl (lv_at hl 0 rfl) ?_
  refine va_get (D := (dC, dI)) (ci := 17) (v := .long (sL s0.1 2)) (C := RX16) (T := TX16) (N := 56) hx hb hts hi_dm_X16_show_X16 hown hK hP 0 rfl rfl 45 (by decide) (hts (.fieldLink RX16 147 "TimeMachineModel$Machine" "shown" "J") (List.mem_of_getElem? (i := 1) rfl)) (fun _ h9 => h9) rfl dX16_show_45 ?_
  refine lv_ldc2 hx hb hown (hts (.constantLong RX16 497 (2048)) (List.mem_of_getElem? (i := 2) rfl)) dX16_show_48 ?_
  refine W.lcmp hx hb dX16_show_51 ?_
  refine lv_if_ge (tgt := 63) hx hb dX16_show_52 (by decide) (fun c2 => ?_) (fun c2 => ?_)
  · have h := nd_pos h c2
    refine lv_sipush (v := 2047) hx hb dX16_show_63 (by decide) ?_
    exact (db_X16_show_66 C K) (x1) (2047) s0 _ _ _ h hP hD hS (lv_sub hl [0, 1] rfl)
  · have h := nd_neg h c2
    refine lv_aload_n hx hb dX16_show_55 rfl (lv_at hl 0 rfl) ?_
    refine va_get (D := (dC, dI)) (ci := 17) (v := .long (sL s0.1 2)) (C := RX16) (T := TX16) (N := 56) hx hb hts hi_dm_X16_show_X16 hown hK hP 0 rfl rfl 45 (by decide) (hts (.fieldLink RX16 147 "TimeMachineModel$Machine" "shown" "J") (List.mem_of_getElem? (i := 1) rfl)) (fun _ h9 => h9) rfl dX16_show_56 ?_
    refine lv_l2i hx hb dX16_show_59 rfl ?_
    refine lv_goto (tgt := 66) hx hb dX16_show_60 (by decide) ?_
    exact (db_X16_show_66 C K) (x1) (((sL s0.1 2).toInt32)) s0 _ _ _ h hP hD hS (lv_sub hl [0, 1] rfl)
set_option maxHeartbeats 40000000 in
set_option maxRecDepth 100000 in
theorem dB_X16_show_13 {p : Program} {l : Launch} {e : Env} {s : State} {m : MethodId} {args : Array Value} {below : List Frame} {meth : Method} {c : Code} {Q : State → Prop} {A : Nat → Prop} {dC : Nat → ClassId} {dI : Nat → Nat → Nat} {a : Nat → Nat} {ac : Nat → ClassId} {n : Nat} {r : St × (St)} (C : nd_C p l s m args c A (dC, dI) cX16_show 3 RX16 ow_dm_X16_show (dk_X16 ac)) (K : nd_Kv p l e (headSpec ow_dm_X16_show ({ frames := 0, cells := 0, slots := 0, locals := 0 })).room s m args below meth c Q A (dC, dI) cX16_show (St × (St)) (dw_X16 a ac) r) {g13 : Int32 → Int32 → (St × (St)) → Option (St × (St))} (J13 : dj_X16_show_13 p l e s m args below meth c Q A dC dI a ac g13 r) : dj_X16_show_13 p l e s m args below meth c Q A dC dI a ac (dF_X16_show_13 n g13) r := by
  obtain ⟨hlt, hx, hb, hml, hown, hts, hN, hA, hK⟩ := id C
  intro x1 x2 s0 H locs ls h hP hD hS hl
  unfold dF_X16_show_13 at h
  refine lv_iload_n hx hb dX16_show_13 rfl (lv_at hl 2 rfl) ?_
  refine lv_sipush (v := 2048) hx hb dX16_show_14 (by decide) ?_
  refine lv_icmp_ge (tgt := 40) hx hb dX16_show_17 (by decide) (fun c6 => ?_) (fun c6 => ?_)
  · have h := nd_pos h c6
    exact (db_X16_show_40 C K) (x1) s0 _ _ _ h hP hD hS (lv_sub hl [0, 1] rfl)
  · have h := nd_neg h c6
    refine lv_aload_n hx hb dX16_show_20 rfl (lv_at hl 0 rfl) ?_
    refine va_get (D := (dC, dI)) (ci := 17) (v := .ref (a 34)) (C := RX16) (T := TX16) (N := 56) hx hb hts hi_dm_X16_show_X16 hown hK hP 0 rfl rfl 44 (by decide) (hts (.fieldLink RX16 112 "TimeMachineModel$Machine" "shownBytes" "[I") (List.mem_of_getElem? (i := 3) rfl)) (fun _ h9 => h9) rfl dX16_show_21 ?_
    refine lv_iload_n hx hb dX16_show_24 rfl (lv_at hl 2 rfl) ?_
    refine lv_iconst (v := 1) hx hb dX16_show_25 (by decide) ?_
    refine lv_isub hx hb dX16_show_26 ?_
    refine lv_aload_n hx hb dX16_show_27 rfl (lv_at hl 0 rfl) ?_
    refine va_get (D := (dC, dI)) (ci := 17) (v := .ref (a 34)) (C := RX16) (T := TX16) (N := 56) hx hb hts hi_dm_X16_show_X16 hown hK hP 0 rfl rfl 44 (by decide) (hts (.fieldLink RX16 112 "TimeMachineModel$Machine" "shownBytes" "[I") (List.mem_of_getElem? (i := 3) rfl)) (fun _ h9 => h9) rfl dX16_show_28 ?_
    refine lv_iload_n hx hb dX16_show_31 rfl (lv_at hl 2 rfl) ?_
    obtain ⟨i7, h⟩ := nd_ck_e h
    refine va_iald (i := x2) hx hb hK hP 34 33 rfl rfl i7 dX16_show_32 ?_
    obtain ⟨i8, h⟩ := nd_ck_e h
    refine va_iast (i := (x2 - 1)) (x := (sR s0.1 32 (Int32.toNatClampNeg x2))) hx hb hK hP hD hS 34 33 rfl rfl i8 dX16_show_33 (fun H locs hP hD hS => ?_)
    obtain ⟨s9, es9, h⟩ := nd_let_e h
    have hP : va_P (dC, dI) vwCl (dw_X16 a ac s9) H := by rw [es9]; exact hP
    have hD : va_D A (dw_X16 a ac s9) := by rw [es9]; exact hD
    obtain ⟨z10, ez10, h⟩ := nd_let_e h
    refine lv_iinc (v := z10) (lv' := [(2, .int z10), (0, .ref (a 0)), (1, .int x1)]) hx hb dX16_show_34 hl (k := 2) rfl (by rw [ez10]) (by decide) rfl (fun ls hl => ?_)
    refine lv_goto (tgt := 13) hx hb dX16_show_37 (by decide) ?_
    exact (J13) (x1) (z10) s9 _ _ _ h hP hD hS (lv_sub hl [1, 2, 0] rfl)
set_option maxHeartbeats 40000000 in
set_option maxRecDepth 100000 in
theorem db_X16_show_13 {p : Program} {l : Launch} {e : Env} {s : State} {m : MethodId} {args : Array Value} {below : List Frame} {meth : Method} {c : Code} {Q : State → Prop} {A : Nat → Prop} {dC : Nat → ClassId} {dI : Nat → Nat → Nat} {a : Nat → Nat} {ac : Nat → ClassId} {n : Nat} {r : St × (St)} (C : nd_C p l s m args c A (dC, dI) cX16_show 3 RX16 ow_dm_X16_show (dk_X16 ac)) (K : nd_Kv p l e (headSpec ow_dm_X16_show ({ frames := 0, cells := 0, slots := 0, locals := 0 })).room s m args below meth c Q A (dC, dI) cX16_show (St × (St)) (dw_X16 a ac) r) (k : Nat) : dj_X16_show_13 p l e s m args below meth c Q A dC dI a ac (df_X16_show_13 n k) r := by
  induction k with
  | zero => intro x1 x2 s0 H locs ls h; exact nomatch (show (none : Option (St × (St))) = some r from h)
  | succ k ih => exact dB_X16_show_13 C K ih
set_option maxHeartbeats 40000000 in
set_option maxRecDepth 100000 in
theorem db_X16_show_0 {p : Program} {l : Launch} {e : Env} {s : State} {m : MethodId} {args : Array Value} {below : List Frame} {meth : Method} {c : Code} {Q : State → Prop} {A : Nat → Prop} {dC : Nat → ClassId} {dI : Nat → Nat → Nat} {a : Nat → Nat} {ac : Nat → ClassId} {n : Nat} {r : St × (St)} (C : nd_C p l s m args c A (dC, dI) cX16_show 3 RX16 ow_dm_X16_show (dk_X16 ac)) (K : nd_Kv p l e (headSpec ow_dm_X16_show ({ frames := 0, cells := 0, slots := 0, locals := 0 })).room s m args below meth c Q A (dC, dI) cX16_show (St × (St)) (dw_X16 a ac) r) : dj_X16_show_0 p l e s m args below meth c Q A dC dI a ac (df_X16_show_0 n) r := by
  obtain ⟨hlt, hx, hb, hml, hown, hts, hN, hA, hK⟩ := id C
  intro v0 s0 H locs ls h hP hD hS hl
  unfold df_X16_show_0 at h
  refine lv_aload_n hx hb dX16_show_0 rfl (lv_at hl 0 rfl) ?_
  refine va_get (D := (dC, dI)) (ci := 17) (v := .long (sL s0.1 2)) (C := RX16) (T := TX16) (N := 56) hx hb hts hi_dm_X16_show_X16 hown hK hP 0 rfl rfl 45 (by decide) (hts (.fieldLink RX16 147 "TimeMachineModel$Machine" "shown" "J") (List.mem_of_getElem? (i := 1) rfl)) (fun _ h9 => h9) rfl dX16_show_1 ?_
  refine lv_ldc2 hx hb hown (hts (.constantLong RX16 497 (2048)) (List.mem_of_getElem? (i := 2) rfl)) dX16_show_4 ?_
  refine W.lcmp hx hb dX16_show_7 ?_
  refine lv_if_lt (tgt := 40) hx hb dX16_show_8 (by decide) (fun c1 => ?_) (fun c1 => ?_)
  · have h := nd_pos h c1
    exact (db_X16_show_40 C K) (v0) s0 _ _ _ h hP hD hS (lv_sub hl [0, 1] rfl)
  · have h := nd_neg h c1
    refine lv_iconst (v := 1) hx hb dX16_show_11 (by decide) ?_
    refine lv_istore_n (lv' := [(2, .int 1), (0, .ref (a 0)), (1, .int v0)]) hx hb dX16_show_12 rfl hl (by decide) rfl (fun ls hl => ?_)
    exact (db_X16_show_13 C K n) (v0) (1) s0 _ _ _ h hP hD hS (lv_sub hl [1, 2, 0] rfl)
set_option maxHeartbeats 40000000 in
set_option maxRecDepth 100000 in
theorem dm_X16_show (l : Launch) (hlt : l.stackTraces = false) (dC : Nat → ClassId) (dI : Nat → Nat → Nat) (a : Nat → Nat) (ac : Nat → ClassId) (n : Nat) (v0 : Int32) (s0 : St × (St)) {r : St × (St)} (h : df_X16_show n v0 s0 = some r) (sz : Nat) : Met l yX16_show ow_dm_X16_show ({ frames := 0, cells := 0, slots := 0, locals := 0 }) (va_Pc [.ref (a 0), .int v0] (fun U => U.heap.size = sz ∧ va_P (dC, dI) vwCl (dw_X16 a ac s0) U.heap ∧ va_K (dC, dI) vwCl (dk_X16 ac) U ∧ va_D (fun _ => True) (dw_X16 a ac s0) ∧ nv_E (va_A (dw_X16 a ac s0) sz) U)) (va_Qv (fun _ => True) (fun (_ : Unit) t => va_P (dC, dI) vwCl (dw_X16 a ac r) t.heap ∧ va_K (dC, dI) vwCl (dk_X16 ac) t ∧ va_D (va_A (dw_X16 a ac s0) sz) (dw_X16 a ac r)) (va_A (dw_X16 a ac s0) sz)) 0 0 (va_A (dw_X16 a ac s0) sz) := by
  refine Met.ofW (cc := cX16_show) (maxL := 3) (ret := none) (by decide) rfl ?_
  intro p e s m args below meth c s₁ B hml hv
  obtain ⟨rfl, hsz, hP, hK, hD0, hN⟩ := hv
  have hx := B.exec
  have hb := B.bytes
  have hr := B.returns
  have hts := atoms_spec (ws := ow_dm_X16_show) B.pre
  have hown : s.vm.findClass RX16 = some m.cls := findClass_of_methodNamed B.named
  have hlocks := B.notSynchronized
  subst hsz
  have hD := hD0.self (sz := s.heap.size)
  generalize hAe : va_A (dw_X16 a ac s0) s.heap.size = A at hD hN ⊢
  have hA : ∀ q : Nat, s.heap.size ≤ q → A q := fun q h => by rw [← hAe]; exact Or.inr h
  have hl := lv_entry ([.ref (a 0), .int v0]) (n := 3) (Nat.le_of_ble_eq_true rfl)
  rw [lg_entry_eq]
  generalize (lg_sl ([.ref (a 0), .int v0]) ++ List.replicate (3 - (lg_sl ([.ref (a 0), .int v0])).length) Slot.unset).toArray = ls at hl ⊢
  have hl : lv_has ls 3 [(0, .ref (a 0)), (1, .int v0)] := hl
  exact db_X16_show_0 (dC := dC) (dI := dI) (a := a) (ac := ac) (n := n) (r := r) ⟨hlt, hx, hb, hml, hown, hts, hN, hA, hK⟩ (fun pc τ H locs ls d er hP hD hS => by subst er; exact W.vret hx hb hr (fun t ht hW => ⟨⟨(), rfl, trivial, by rw [ht]; exact hP, va_K.moved hW.alike hK, hD⟩, hS.F ht⟩) hS.2.2 d) v0 s0 _ _ _ h hP hD va_S.rf (lv_sub hl [0, 1] rfl)
def ow_dm_X16_writeFile : List Cond := .code yX16_writeFile cX16_writeFile 7 (some .int) :: ([.fieldLink RX16 82 "TimeMachineModel$Machine" "right" "[I", .fieldLink RX16 79 "TimeMachineModel$Machine" "position" "[I", .fieldLink RX16 100 "TimeMachineModel$Machine" "length" "[I", .fieldLink RX16 103 "TimeMachineModel$Machine" "fileBytes" "[I", .methodLink RX16 235 yX16_byteAt, .instanceMethod yX16_byteAt, .selects RX16 yX16_byteAt yX16_byteAt, .initialized RX16] ++ (u_ws RX16 TX16 56 ++ (ow_dm_X16_byteAt ++ [])))
theorem gd_dm_X16_writeFile : ∀ w ∈ ow_dm_X16_writeFile, (w.onTables && w.keeps) = true ∨ ∃ ty, w = Cond.arrayClass ty := List.forall_mem_cons.mpr ⟨good_of_word rfl, List.forall_mem_append.mpr ⟨fun w h => good_of_word (List.all_eq_true.mp (by decide +kernel) w h), List.forall_mem_append.mpr ⟨gu_X16, List.forall_mem_append.mpr ⟨gd_dm_X16_byteAt, fun _ h => nomatch h⟩⟩⟩⟩
theorem hi_dm_X16_writeFile_X16 : ∀ w ∈ u_ws RX16 TX16 56, w ∈ ow_dm_X16_writeFile := fun w h => List.mem_cons_of_mem _ (List.mem_append_right _ (List.mem_append_left _ h))
theorem gi_dm_X16_writeFile_0 : GoodIn ow_dm_X16_writeFile (wsV RX16 235 RX16 yX16_byteAt ow_dm_X16_byteAt) := goodIn_app (goodIn_of _ (by decide +kernel)) (fun w h => ⟨List.mem_cons_of_mem _ (List.mem_append_right _ (List.mem_append_right _ (List.mem_append_left _ h))), gd_dm_X16_byteAt w h⟩)
def dj_X16_writeFile_168 (p : Program) (l : Launch) (e : Env) (s : State) (m : MethodId) (args : Array Value) (below : List Frame) (meth : Method) (c : Code) (Q : State → Prop) (A : Nat → Prop) (dC : Nat → ClassId) (dI : Nat → Nat → Nat) (a : Nat → Nat) (ac : Nat → ClassId) (g : Int32 → Int32 → Int32 → (St × (St)) → Option (Int32 × (St × (St)))) (r : Int32 × (St × (St))) : Prop := ∀ (x4 : Int32) (y1 : Int32) (y2 : Int32) (s0 : St × (St)) (H : Heap) (locs : List Loc) (ls : Array Slot), g x4 y1 y2 s0 = some r → va_P (dC, dI) vwCl (dw_X16 a ac s0) H → va_D A (dw_X16 a ac s0) → va_S A s.heap H locs → lv_has ls 7 [(4, .int x4)] → W p l e (headSpec ow_dm_X16_writeFile ({ frames := 2, cells := 0, slots := 0, locals := 42 })).room s m args below meth c H locs 0 0 Q (F0 m 168 ls [.int y2, .int y1, .ref (a 30)])
def dj_X16_writeFile_87 (p : Program) (l : Launch) (e : Env) (s : State) (m : MethodId) (args : Array Value) (below : List Frame) (meth : Method) (c : Code) (Q : State → Prop) (A : Nat → Prop) (dC : Nat → ClassId) (dI : Nat → Nat → Nat) (a : Nat → Nat) (ac : Nat → ClassId) (g : Int32 → Int32 → Int32 → Int32 → Int32 → Int32 → (St × (St)) → Option (Int32 × (St × (St)))) (r : Int32 × (St × (St))) : Prop := ∀ (x1 : Int32) (x2 : Int32) (x3 : Int32) (x4 : Int32) (x5 : Int32) (x6 : Int32) (s0 : St × (St)) (H : Heap) (locs : List Loc) (ls : Array Slot), g x1 x2 x3 x4 x5 x6 s0 = some r → va_P (dC, dI) vwCl (dw_X16 a ac s0) H → va_D A (dw_X16 a ac s0) → va_S A s.heap H locs → lv_has ls 7 [(0, .ref (a 0)), (1, .int x1), (2, .int x2), (3, .int x3), (4, .int x4), (5, .int x5), (6, .int x6)] → W p l e (headSpec ow_dm_X16_writeFile ({ frames := 2, cells := 0, slots := 0, locals := 42 })).room s m args below meth c H locs 0 0 Q (F0 m 87 ls [])
def dj_X16_writeFile_57 (p : Program) (l : Launch) (e : Env) (s : State) (m : MethodId) (args : Array Value) (below : List Frame) (meth : Method) (c : Code) (Q : State → Prop) (A : Nat → Prop) (dC : Nat → ClassId) (dI : Nat → Nat → Nat) (a : Nat → Nat) (ac : Nat → ClassId) (g : Int32 → Int32 → Int32 → Int32 → Int32 → Int32 → (St × (St)) → Option (Int32 × (St × (St)))) (r : Int32 × (St × (St))) : Prop := ∀ (x1 : Int32) (x2 : Int32) (x3 : Int32) (x4 : Int32) (x5 : Int32) (x6 : Int32) (s0 : St × (St)) (H : Heap) (locs : List Loc) (ls : Array Slot), g x1 x2 x3 x4 x5 x6 s0 = some r → va_P (dC, dI) vwCl (dw_X16 a ac s0) H → va_D A (dw_X16 a ac s0) → va_S A s.heap H locs → lv_has ls 7 [(0, .ref (a 0)), (1, .int x1), (2, .int x2), (3, .int x3), (4, .int x4), (5, .int x5), (6, .int x6)] → W p l e (headSpec ow_dm_X16_writeFile ({ frames := 2, cells := 0, slots := 0, locals := 42 })).room s m args below meth c H locs 0 0 Q (F0 m 57 ls [])
def dj_X16_writeFile_33 (p : Program) (l : Launch) (e : Env) (s : State) (m : MethodId) (args : Array Value) (below : List Frame) (meth : Method) (c : Code) (Q : State → Prop) (A : Nat → Prop) (dC : Nat → ClassId) (dI : Nat → Nat → Nat) (a : Nat → Nat) (ac : Nat → ClassId) (g : Int32 → Int32 → Int32 → Int32 → Int32 → (St × (St)) → Option (Int32 × (St × (St)))) (r : Int32 × (St × (St))) : Prop := ∀ (x1 : Int32) (x2 : Int32) (x3 : Int32) (x4 : Int32) (y0 : Int32) (s0 : St × (St)) (H : Heap) (locs : List Loc) (ls : Array Slot), g x1 x2 x3 x4 y0 s0 = some r → va_P (dC, dI) vwCl (dw_X16 a ac s0) H → va_D A (dw_X16 a ac s0) → va_S A s.heap H locs → lv_has ls 7 [(0, .ref (a 0)), (1, .int x1), (2, .int x2), (3, .int x3), (4, .int x4)] → W p l e (headSpec ow_dm_X16_writeFile ({ frames := 2, cells := 0, slots := 0, locals := 42 })).room s m args below meth c H locs 0 0 Q (F0 m 33 ls [.int y0])
def dj_X16_writeFile_0 (p : Program) (l : Launch) (e : Env) (s : State) (m : MethodId) (args : Array Value) (below : List Frame) (meth : Method) (c : Code) (Q : State → Prop) (A : Nat → Prop) (dC : Nat → ClassId) (dI : Nat → Nat → Nat) (a : Nat → Nat) (ac : Nat → ClassId) (g : Int32 → Int32 → Int32 → Int32 → (St × (St)) → Option (Int32 × (St × (St)))) (r : Int32 × (St × (St))) : Prop := ∀ (v0 : Int32) (v1 : Int32) (v2 : Int32) (v3 : Int32) (s0 : St × (St)) (H : Heap) (locs : List Loc) (ls : Array Slot), g v0 v1 v2 v3 s0 = some r → va_P (dC, dI) vwCl (dw_X16 a ac s0) H → va_D A (dw_X16 a ac s0) → va_S A s.heap H locs → lv_has ls 7 [(0, .ref (a 0)), (1, .int v0), (2, .int v1), (3, .int v2), (4, .int v3)] → W p l e (headSpec ow_dm_X16_writeFile ({ frames := 2, cells := 0, slots := 0, locals := 42 })).room s m args below meth c H locs 0 0 Q (F0 m 0 ls [])
set_option maxHeartbeats 40000000 in
set_option maxRecDepth 100000 in
theorem db_X16_writeFile_168 {p : Program} {l : Launch} {e : Env} {s : State} {m : MethodId} {args : Array Value} {below : List Frame} {meth : Method} {c : Code} {Q : State → Prop} {A : Nat → Prop} {dC : Nat → ClassId} {dI : Nat → Nat → Nat} {a : Nat → Nat} {ac : Nat → ClassId} {n : Nat} {r : Int32 × (St × (St))} (C : nd_C p l s m args c A (dC, dI) cX16_writeFile 7 RX16 ow_dm_X16_writeFile (dk_X16 ac)) (K : nd_Ki p l e (headSpec ow_dm_X16_writeFile ({ frames := 2, cells := 0, slots := 0, locals := 42 })).room s m args below meth c Q A (dC, dI) cX16_writeFile .int (St × (St)) (dw_X16 a ac) r) : dj_X16_writeFile_168 p l e s m args below meth c Q A dC dI a ac (df_X16_writeFile_168 n) r := by
  obtain ⟨hlt, hx, hb, hml, hown, hts, hN, hA, hK⟩ := id C
  intro x4 y1 y2 s0 H locs ls h hP hD hS hl
  unfold df_X16_writeFile_168 at h
  obtain ⟨i15, h⟩ := nd_ck_e h
  refine va_iast (i := y1) (x := y2) hx hb hK hP hD hS 30 29 rfl rfl i15 dX16_writeFile_168 (fun H locs hP hD hS => ?_)
  obtain ⟨s16, es16, h⟩ := nd_let_e h
  have hP : va_P (dC, dI) vwCl (dw_X16 a ac s16) H := by rw [es16]; exact hP
  have hD : va_D A (dw_X16 a ac s16) := by rw [es16]; exact hD
  refine lv_iload hx hb dX16_writeFile_169 (lv_at hl 0 rfl) ?_
  exact K _ _ _ _ _ _ dX16_writeFile_171 rfl (Option.some.inj h).symm hP hD hS
set_option maxHeartbeats 40000000 in
set_option maxRecDepth 100000 in
theorem dB_X16_writeFile_87 {p : Program} {l : Launch} {e : Env} {s : State} {m : MethodId} {args : Array Value} {below : List Frame} {meth : Method} {c : Code} {Q : State → Prop} {A : Nat → Prop} {dC : Nat → ClassId} {dI : Nat → Nat → Nat} {a : Nat → Nat} {ac : Nat → ClassId} {n : Nat} {r : Int32 × (St × (St))} (C : nd_C p l s m args c A (dC, dI) cX16_writeFile 7 RX16 ow_dm_X16_writeFile (dk_X16 ac)) (K : nd_Ki p l e (headSpec ow_dm_X16_writeFile ({ frames := 2, cells := 0, slots := 0, locals := 42 })).room s m args below meth c Q A (dC, dI) cX16_writeFile .int (St × (St)) (dw_X16 a ac) r) {g87 : Int32 → Int32 → Int32 → Int32 → Int32 → Int32 → (St × (St)) → Option (Int32 × (St × (St)))} (J87 : dj_X16_writeFile_87 p l e s m args below meth c Q A dC dI a ac g87 r) : dj_X16_writeFile_87 p l e s m args below meth c Q A dC dI a ac (dF_X16_writeFile_87 n g87) r := by
  obtain ⟨hlt, hx, hb, hml, hown, hts, hN, hA, hK⟩ := id C
  intro x1 x2 x3 x4 x5 x6 s0 H locs ls h hP hD hS hl
  unfold dF_X16_writeFile_87 at h
  refine lv_iload hx hb dX16_writeFile_87 (lv_at hl 6 rfl) ?_
  refine lv_iload hx hb dX16_writeFile_89 (lv_at hl 4 rfl) ?_
  refine lv_icmp_ge (tgt := 124) hx hb dX16_writeFile_91 (by decide) (fun c9 => ?_) (fun c9 => ?_)
  · have h := nd_pos h c9
    refine lv_aload_n hx hb dX16_writeFile_124 rfl (lv_at hl 0 rfl) ?_
    refine va_get (D := (dC, dI)) (ci := 17) (v := .ref (a 23)) (C := RX16) (T := TX16) (N := 56) hx hb hts hi_dm_X16_writeFile_X16 hown hK hP 0 rfl rfl 32 (by decide) (hts (.fieldLink RX16 79 "TimeMachineModel$Machine" "position" "[I") (List.mem_of_getElem? (i := 2) rfl)) (fun _ h9 => h9) rfl dX16_writeFile_125 ?_
    refine lv_iload_n hx hb dX16_writeFile_128 rfl (lv_at hl 1 rfl) ?_
    refine lv_iload hx hb dX16_writeFile_129 (lv_at hl 5 rfl) ?_
    refine lv_iload hx hb dX16_writeFile_131 (lv_at hl 4 rfl) ?_
    refine lv_iadd hx hb dX16_writeFile_133 ?_
    obtain ⟨i10, h⟩ := nd_ck_e h
    refine va_iast (i := x1) (x := (x5 + x4)) hx hb hK hP hD hS 23 22 rfl rfl i10 dX16_writeFile_134 (fun H locs hP hD hS => ?_)
    obtain ⟨s11, es11, h⟩ := nd_let_e h
    have hP : va_P (dC, dI) vwCl (dw_X16 a ac s11) H := by rw [es11]; exact hP
    have hD : va_D A (dw_X16 a ac s11) := by rw [es11]; exact hD
    refine lv_aload_n hx hb dX16_writeFile_135 rfl (lv_at hl 0 rfl) ?_
    refine va_get (D := (dC, dI)) (ci := 17) (v := .ref (a 30)) (C := RX16) (T := TX16) (N := 56) hx hb hts hi_dm_X16_writeFile_X16 hown hK hP 0 rfl rfl 39 (by decide) (hts (.fieldLink RX16 100 "TimeMachineModel$Machine" "length" "[I") (List.mem_of_getElem? (i := 3) rfl)) (fun _ h9 => h9) rfl dX16_writeFile_136 ?_
    refine lv_iload_n hx hb dX16_writeFile_139 rfl (lv_at hl 2 rfl) ?_
    refine lv_iload hx hb dX16_writeFile_140 (lv_at hl 5 rfl) ?_
    refine lv_iload hx hb dX16_writeFile_142 (lv_at hl 4 rfl) ?_
    refine lv_iadd hx hb dX16_writeFile_144 ?_
    refine lv_aload_n hx hb dX16_writeFile_145 rfl (lv_at hl 0 rfl) ?_
    refine va_get (D := (dC, dI)) (ci := 17) (v := .ref (a 30)) (C := RX16) (T := TX16) (N := 56) hx hb hts hi_dm_X16_writeFile_X16 hown hK hP 0 rfl rfl 39 (by decide) (hts (.fieldLink RX16 100 "TimeMachineModel$Machine" "length" "[I") (List.mem_of_getElem? (i := 3) rfl)) (fun _ h9 => h9) rfl dX16_writeFile_146 ?_
    refine lv_iload_n hx hb dX16_writeFile_149 rfl (lv_at hl 2 rfl) ?_
    obtain ⟨i12, h⟩ := nd_ck_e h
    refine va_iald (i := x2) hx hb hK hP 30 29 rfl rfl i12 dX16_writeFile_150 ?_
    refine lv_icmp_le (tgt := 162) hx hb dX16_writeFile_151 (by decide) (fun c13 => ?_) (fun c13 => ?_)
    · have h := nd_pos h c13
      refine lv_aload_n hx hb dX16_writeFile_162 rfl (lv_at hl 0 rfl) ?_
      refine va_get (D := (dC, dI)) (ci := 17) (v := .ref (a 30)) (C := RX16) (T := TX16) (N := 56) hx hb hts hi_dm_X16_writeFile_X16 hown hK hP 0 rfl rfl 39 (by decide) (hts (.fieldLink RX16 100 "TimeMachineModel$Machine" "length" "[I") (List.mem_of_getElem? (i := 3) rfl)) (fun _ h9 => h9) rfl dX16_writeFile_163 ?_
      refine lv_iload_n hx hb dX16_writeFile_166 rfl (lv_at hl 2 rfl) ?_
      obtain ⟨i14, h⟩ := nd_ck_e h
      refine va_iald (i := x2) hx hb hK hP 30 29 rfl rfl i14 dX16_writeFile_167 ?_
      exact (db_X16_writeFile_168 C K) (x4) (x2) ((sR s11.1 28 (Int32.toNatClampNeg x2))) s11 _ _ _ h hP hD hS (lv_sub hl [4] rfl)
    · have h := nd_neg h c13
      refine lv_iload hx hb dX16_writeFile_154 (lv_at hl 5 rfl) ?_
      refine lv_iload hx hb dX16_writeFile_156 (lv_at hl 4 rfl) ?_
      refine lv_iadd hx hb dX16_writeFile_158 ?_
      refine lv_goto (tgt := 168) hx hb dX16_writeFile_159 (by decide) ?_
      exact (db_X16_writeFile_168 C K) (x4) (x2) ((x5 + x4)) s11 _ _ _ h hP hD hS (lv_sub hl [4] rfl)
  · have h := nd_neg h c9
    refine lv_aload_n hx hb dX16_writeFile_94 rfl (lv_at hl 0 rfl) ?_
    refine va_get (D := (dC, dI)) (ci := 17) (v := .ref (a 31)) (C := RX16) (T := TX16) (N := 56) hx hb hts hi_dm_X16_writeFile_X16 hown hK hP 0 rfl rfl 40 (by decide) (hts (.fieldLink RX16 103 "TimeMachineModel$Machine" "fileBytes" "[I") (List.mem_of_getElem? (i := 4) rfl)) (fun _ h9 => h9) rfl dX16_writeFile_95 ?_
    refine lv_sipush (v := 512) hx hb dX16_writeFile_98 (by decide) ?_
    refine lv_iload_n hx hb dX16_writeFile_101 rfl (lv_at hl 2 rfl) ?_
    refine lv_imul hx hb dX16_writeFile_102 ?_
    refine lv_iload hx hb dX16_writeFile_103 (lv_at hl 5 rfl) ?_
    refine lv_iadd hx hb dX16_writeFile_105 ?_
    refine lv_iload hx hb dX16_writeFile_106 (lv_at hl 6 rfl) ?_
    refine lv_iadd hx hb dX16_writeFile_108 ?_
    refine lv_aload_n hx hb dX16_writeFile_109 rfl (lv_at hl 0 rfl) ?_
    refine lv_iload_n hx hb dX16_writeFile_110 rfl (lv_at hl 3 rfl) ?_
    refine lv_iload hx hb dX16_writeFile_111 (lv_at hl 6 rfl) ?_
    refine lv_iadd hx hb dX16_writeFile_113 ?_
    obtain ⟨q17, s18, hq, h⟩ := nd_b2_e h
    have hPc := hP
    have hDc := hD
    have hKc := hK
    have hFc := nd_rs hD hS hA
    refine nd_cVi (As := [.int (x3 + x6)]) (rest := [.int (((512 * x2) + x5) + x6), .ref (a 31)]) (q := q17) (w' := dw_X16 a ac s18) ⟨hx, hb, hml, hown, hts⟩ (fun sz => dm_X16_byteAt l hlt dC dI a ac n ((x3 + x6)) s0 hq sz) (cwV 1 hts gi_dm_X16_writeFile_0 rfl rfl rfl (by decide +kernel) ⟨Nat.le_of_ble_eq_true rfl, Nat.le_of_ble_eq_true rfl⟩) hPc hDc hKc hS hA hN (va_recv hKc hPc (ci := 17) (q0 := 0) rfl rfl) rfl hl.1 rfl (Nat.le_of_ble_eq_true rfl) dX16_writeFile_114 (fun H locs hP1 hD1 hk1 hS => ?_)
    have hP := hP1
    have hD := hD1.weaken (fun k q _ h => hFc q.1 h)
    obtain ⟨i20, h⟩ := nd_ck_e h
    refine va_iast (i := (((512 * x2) + x5) + x6)) (x := q17) hx hb hK hP hD hS 31 30 rfl rfl i20 dX16_writeFile_117 (fun H locs hP hD hS => ?_)
    obtain ⟨s21, es21, h⟩ := nd_let_e h
    have hP : va_P (dC, dI) vwCl (dw_X16 a ac s21) H := by rw [es21]; exact hP
    have hD : va_D A (dw_X16 a ac s21) := by rw [es21]; exact hD
    obtain ⟨z22, ez22, h⟩ := nd_let_e h
    refine lv_iinc (v := z22) (lv' := [(6, .int z22), (0, .ref (a 0)), (1, .int x1), (2, .int x2), (3, .int x3), (4, .int x4), (5, .int x5)]) hx hb dX16_writeFile_118 hl (k := 6) rfl (by rw [ez22]) (by decide) rfl (fun ls hl => ?_)
    refine lv_goto (tgt := 87) hx hb dX16_writeFile_121 (by decide) ?_
    exact (J87) (x1) (x2) (x3) (x4) (x5) (z22) s21 _ _ _ h hP hD hS (lv_sub hl [1, 2, 3, 4, 5, 6, 0] rfl)
set_option maxHeartbeats 40000000 in
set_option maxRecDepth 100000 in
theorem db_X16_writeFile_87 {p : Program} {l : Launch} {e : Env} {s : State} {m : MethodId} {args : Array Value} {below : List Frame} {meth : Method} {c : Code} {Q : State → Prop} {A : Nat → Prop} {dC : Nat → ClassId} {dI : Nat → Nat → Nat} {a : Nat → Nat} {ac : Nat → ClassId} {n : Nat} {r : Int32 × (St × (St))} (C : nd_C p l s m args c A (dC, dI) cX16_writeFile 7 RX16 ow_dm_X16_writeFile (dk_X16 ac)) (K : nd_Ki p l e (headSpec ow_dm_X16_writeFile ({ frames := 2, cells := 0, slots := 0, locals := 42 })).room s m args below meth c Q A (dC, dI) cX16_writeFile .int (St × (St)) (dw_X16 a ac) r) (k : Nat) : dj_X16_writeFile_87 p l e s m args below meth c Q A dC dI a ac (df_X16_writeFile_87 n k) r := by
  induction k with
  | zero => intro x1 x2 x3 x4 x5 x6 s0 H locs ls h; exact nomatch (show (none : Option (Int32 × (St × (St)))) = some r from h)
  | succ k ih => exact dB_X16_writeFile_87 C K ih
set_option maxHeartbeats 40000000 in
set_option maxRecDepth 100000 in
theorem dB_X16_writeFile_57 {p : Program} {l : Launch} {e : Env} {s : State} {m : MethodId} {args : Array Value} {below : List Frame} {meth : Method} {c : Code} {Q : State → Prop} {A : Nat → Prop} {dC : Nat → ClassId} {dI : Nat → Nat → Nat} {a : Nat → Nat} {ac : Nat → ClassId} {n : Nat} {r : Int32 × (St × (St))} (C : nd_C p l s m args c A (dC, dI) cX16_writeFile 7 RX16 ow_dm_X16_writeFile (dk_X16 ac)) (K : nd_Ki p l e (headSpec ow_dm_X16_writeFile ({ frames := 2, cells := 0, slots := 0, locals := 42 })).room s m args below meth c Q A (dC, dI) cX16_writeFile .int (St × (St)) (dw_X16 a ac) r) {g57 : Int32 → Int32 → Int32 → Int32 → Int32 → Int32 → (St × (St)) → Option (Int32 × (St × (St)))} (J57 : dj_X16_writeFile_57 p l e s m args below meth c Q A dC dI a ac g57 r) : dj_X16_writeFile_57 p l e s m args below meth c Q A dC dI a ac (dF_X16_writeFile_57 n g57) r := by
  obtain ⟨hlt, hx, hb, hml, hown, hts, hN, hA, hK⟩ := id C
  intro x1 x2 x3 x4 x5 x6 s0 H locs ls h hP hD hS hl
  unfold dF_X16_writeFile_57 at h
  refine lv_iload hx hb dX16_writeFile_57 (lv_at hl 6 rfl) ?_
  refine lv_iload hx hb dX16_writeFile_59 (lv_at hl 5 rfl) ?_
  refine lv_icmp_ge (tgt := 84) hx hb dX16_writeFile_61 (by decide) (fun c8 => ?_) (fun c8 => ?_)
  · have h := nd_pos h c8
    refine lv_iconst (v := 0) hx hb dX16_writeFile_84 (by decide) ?_
    refine lv_istore (lv' := [(6, .int 0), (0, .ref (a 0)), (1, .int x1), (2, .int x2), (3, .int x3), (4, .int x4), (5, .int x5)]) hx hb dX16_writeFile_85 hl (by decide) rfl (fun ls hl => ?_)
    exact (db_X16_writeFile_87 C K n) (x1) (x2) (x3) (x4) (x5) (0) s0 _ _ _ h hP hD hS (lv_sub hl [1, 2, 3, 4, 5, 6, 0] rfl)
  · have h := nd_neg h c8
    refine lv_aload_n hx hb dX16_writeFile_64 rfl (lv_at hl 0 rfl) ?_
    refine va_get (D := (dC, dI)) (ci := 17) (v := .ref (a 31)) (C := RX16) (T := TX16) (N := 56) hx hb hts hi_dm_X16_writeFile_X16 hown hK hP 0 rfl rfl 40 (by decide) (hts (.fieldLink RX16 103 "TimeMachineModel$Machine" "fileBytes" "[I") (List.mem_of_getElem? (i := 4) rfl)) (fun _ h9 => h9) rfl dX16_writeFile_65 ?_
    refine lv_sipush (v := 512) hx hb dX16_writeFile_68 (by decide) ?_
    refine lv_iload_n hx hb dX16_writeFile_71 rfl (lv_at hl 2 rfl) ?_
    refine lv_imul hx hb dX16_writeFile_72 ?_
    refine lv_iload hx hb dX16_writeFile_73 (lv_at hl 6 rfl) ?_
    refine lv_iadd hx hb dX16_writeFile_75 ?_
    refine lv_iconst (v := 0) hx hb dX16_writeFile_76 (by decide) ?_
    obtain ⟨i23, h⟩ := nd_ck_e h
    refine va_iast (i := ((512 * x2) + x6)) (x := 0) hx hb hK hP hD hS 31 30 rfl rfl i23 dX16_writeFile_77 (fun H locs hP hD hS => ?_)
    obtain ⟨s24, es24, h⟩ := nd_let_e h
    have hP : va_P (dC, dI) vwCl (dw_X16 a ac s24) H := by rw [es24]; exact hP
    have hD : va_D A (dw_X16 a ac s24) := by rw [es24]; exact hD
    obtain ⟨z25, ez25, h⟩ := nd_let_e h
    refine lv_iinc (v := z25) (lv' := [(6, .int z25), (0, .ref (a 0)), (1, .int x1), (2, .int x2), (3, .int x3), (4, .int x4), (5, .int x5)]) hx hb dX16_writeFile_78 hl (k := 6) rfl (by rw [ez25]) (by decide) rfl (fun ls hl => ?_)
    refine lv_goto (tgt := 57) hx hb dX16_writeFile_81 (by decide) ?_
    exact (J57) (x1) (x2) (x3) (x4) (x5) (z25) s24 _ _ _ h hP hD hS (lv_sub hl [1, 2, 3, 4, 5, 6, 0] rfl)
set_option maxHeartbeats 40000000 in
set_option maxRecDepth 100000 in
theorem db_X16_writeFile_57 {p : Program} {l : Launch} {e : Env} {s : State} {m : MethodId} {args : Array Value} {below : List Frame} {meth : Method} {c : Code} {Q : State → Prop} {A : Nat → Prop} {dC : Nat → ClassId} {dI : Nat → Nat → Nat} {a : Nat → Nat} {ac : Nat → ClassId} {n : Nat} {r : Int32 × (St × (St))} (C : nd_C p l s m args c A (dC, dI) cX16_writeFile 7 RX16 ow_dm_X16_writeFile (dk_X16 ac)) (K : nd_Ki p l e (headSpec ow_dm_X16_writeFile ({ frames := 2, cells := 0, slots := 0, locals := 42 })).room s m args below meth c Q A (dC, dI) cX16_writeFile .int (St × (St)) (dw_X16 a ac) r) (k : Nat) : dj_X16_writeFile_57 p l e s m args below meth c Q A dC dI a ac (df_X16_writeFile_57 n k) r := by
  induction k with
  | zero => intro x1 x2 x3 x4 x5 x6 s0 H locs ls h; exact nomatch (show (none : Option (Int32 × (St × (St)))) = some r from h)
  | succ k ih => exact dB_X16_writeFile_57 C K ih
set_option maxHeartbeats 40000000 in
set_option maxRecDepth 100000 in
theorem db_X16_writeFile_33 {p : Program} {l : Launch} {e : Env} {s : State} {m : MethodId} {args : Array Value} {below : List Frame} {meth : Method} {c : Code} {Q : State → Prop} {A : Nat → Prop} {dC : Nat → ClassId} {dI : Nat → Nat → Nat} {a : Nat → Nat} {ac : Nat → ClassId} {n : Nat} {r : Int32 × (St × (St))} (C : nd_C p l s m args c A (dC, dI) cX16_writeFile 7 RX16 ow_dm_X16_writeFile (dk_X16 ac)) (K : nd_Ki p l e (headSpec ow_dm_X16_writeFile ({ frames := 2, cells := 0, slots := 0, locals := 42 })).room s m args below meth c Q A (dC, dI) cX16_writeFile .int (St × (St)) (dw_X16 a ac) r) : dj_X16_writeFile_33 p l e s m args below meth c Q A dC dI a ac (df_X16_writeFile_33 n) r := by
  obtain ⟨hlt, hx, hb, hml, hown, hts, hN, hA, hK⟩ := id C
  intro x1 x2 x3 x4 y0 s0 H locs ls h hP hD hS hl
  unfold df_X16_writeFile_33 at h
  refine lv_istore (lv' := [(5, .int y0), (0, .ref (a 0)), (1, .int x1), (2, .int x2), (3, .int x3), (4, .int x4)]) hx hb dX16_writeFile_33 hl (by decide) rfl (fun ls hl => ?_)
  refine lv_iload hx hb dX16_writeFile_35 (lv_at hl 0 rfl) ?_
  refine lv_iload hx hb dX16_writeFile_37 (lv_at hl 5 rfl) ?_
  refine lv_iadd hx hb dX16_writeFile_39 ?_
  refine lv_sipush (v := 512) hx hb dX16_writeFile_40 (by decide) ?_
  refine lv_icmp_le (tgt := 49) hx hb dX16_writeFile_43 (by decide) (fun c5 => ?_) (fun c5 => ?_)
  · have h := nd_pos h c5
    refine lv_aload_n hx hb dX16_writeFile_49 rfl (lv_at hl 1 rfl) ?_
    refine va_get (D := (dC, dI)) (ci := 17) (v := .ref (a 30)) (C := RX16) (T := TX16) (N := 56) hx hb hts hi_dm_X16_writeFile_X16 hown hK hP 0 rfl rfl 39 (by decide) (hts (.fieldLink RX16 100 "TimeMachineModel$Machine" "length" "[I") (List.mem_of_getElem? (i := 3) rfl)) (fun _ h9 => h9) rfl dX16_writeFile_50 ?_
    refine lv_iload_n hx hb dX16_writeFile_53 rfl (lv_at hl 3 rfl) ?_
    obtain ⟨i6, h⟩ := nd_ck_e h
    refine va_iald (i := x2) hx hb hK hP 30 29 rfl rfl i6 dX16_writeFile_54 ?_
    refine lv_topi (fun z7 ez7 => ?_)
    have h := nd_at h ez7
    refine lv_istore (lv' := [(6, .int z7), (5, .int y0), (0, .ref (a 0)), (1, .int x1), (2, .int x2), (3, .int x3), (4, .int x4)]) hx hb dX16_writeFile_55 hl (by decide) rfl (fun ls hl => ?_)
    exact (db_X16_writeFile_57 C K n) (x1) (x2) (x3) (x4) (y0) (z7) s0 _ _ _ h hP hD hS (lv_sub hl [2, 3, 4, 5, 6, 1, 0] rfl)
  · have h := nd_neg h c5
    refine lv_bipush (v := (-7)) hx hb dX16_writeFile_46 (by decide) ?_
    exact K _ _ _ _ _ _ dX16_writeFile_48 rfl (Option.some.inj h).symm hP hD hS
set_option maxHeartbeats 40000000 in
set_option maxRecDepth 100000 in
theorem db_X16_writeFile_0 {p : Program} {l : Launch} {e : Env} {s : State} {m : MethodId} {args : Array Value} {below : List Frame} {meth : Method} {c : Code} {Q : State → Prop} {A : Nat → Prop} {dC : Nat → ClassId} {dI : Nat → Nat → Nat} {a : Nat → Nat} {ac : Nat → ClassId} {n : Nat} {r : Int32 × (St × (St))} (C : nd_C p l s m args c A (dC, dI) cX16_writeFile 7 RX16 ow_dm_X16_writeFile (dk_X16 ac)) (K : nd_Ki p l e (headSpec ow_dm_X16_writeFile ({ frames := 2, cells := 0, slots := 0, locals := 42 })).room s m args below meth c Q A (dC, dI) cX16_writeFile .int (St × (St)) (dw_X16 a ac) r) : dj_X16_writeFile_0 p l e s m args below meth c Q A dC dI a ac (df_X16_writeFile_0 n) r := by
  obtain ⟨hlt, hx, hb, hml, hown, hts, hN, hA, hK⟩ := id C
  intro v0 v1 v2 v3 s0 H locs ls h hP hD hS hl
  unfold df_X16_writeFile_0 at h
  refine lv_iload hx hb dX16_writeFile_0 (lv_at hl 4 rfl) ?_
  refine lv_if_ne (tgt := 7) hx hb dX16_writeFile_2 (by decide) (fun c1 => ?_) (fun c1 => ?_)
  · have h := nd_neg h c1
    refine lv_aload_n hx hb dX16_writeFile_7 rfl (lv_at hl 0 rfl) ?_
    refine va_get (D := (dC, dI)) (ci := 17) (v := .ref (a 24)) (C := RX16) (T := TX16) (N := 56) hx hb hts hi_dm_X16_writeFile_X16 hown hK hP 0 rfl rfl 33 (by decide) (hts (.fieldLink RX16 82 "TimeMachineModel$Machine" "right" "[I") (List.mem_of_getElem? (i := 1) rfl)) (fun _ h9 => h9) rfl dX16_writeFile_8 ?_
    refine lv_iload_n hx hb dX16_writeFile_11 rfl (lv_at hl 1 rfl) ?_
    obtain ⟨i2, h⟩ := nd_ck_e h
    refine va_iald (i := v0) hx hb hK hP 24 23 rfl rfl i2 dX16_writeFile_12 ?_
    refine lv_iconst (v := 4) hx hb dX16_writeFile_13 (by decide) ?_
    refine lv_iand hx hb dX16_writeFile_14 ?_
    refine lv_if_le (tgt := 27) hx hb dX16_writeFile_15 (by decide) (fun c3 => ?_) (fun c3 => ?_)
    · have h := nd_pos h c3
      refine lv_aload_n hx hb dX16_writeFile_27 rfl (lv_at hl 0 rfl) ?_
      refine va_get (D := (dC, dI)) (ci := 17) (v := .ref (a 23)) (C := RX16) (T := TX16) (N := 56) hx hb hts hi_dm_X16_writeFile_X16 hown hK hP 0 rfl rfl 32 (by decide) (hts (.fieldLink RX16 79 "TimeMachineModel$Machine" "position" "[I") (List.mem_of_getElem? (i := 2) rfl)) (fun _ h9 => h9) rfl dX16_writeFile_28 ?_
      refine lv_iload_n hx hb dX16_writeFile_31 rfl (lv_at hl 1 rfl) ?_
      obtain ⟨i4, h⟩ := nd_ck_e h
      refine va_iald (i := v0) hx hb hK hP 23 22 rfl rfl i4 dX16_writeFile_32 ?_
      exact (db_X16_writeFile_33 C K) (v0) (v1) (v2) (v3) ((sR s0.1 21 (Int32.toNatClampNeg v0))) s0 _ _ _ h hP hD hS (lv_sub hl [0, 1, 2, 3, 4] rfl)
    · have h := nd_neg h c3
      refine lv_aload_n hx hb dX16_writeFile_18 rfl (lv_at hl 0 rfl) ?_
      refine va_get (D := (dC, dI)) (ci := 17) (v := .ref (a 30)) (C := RX16) (T := TX16) (N := 56) hx hb hts hi_dm_X16_writeFile_X16 hown hK hP 0 rfl rfl 39 (by decide) (hts (.fieldLink RX16 100 "TimeMachineModel$Machine" "length" "[I") (List.mem_of_getElem? (i := 3) rfl)) (fun _ h9 => h9) rfl dX16_writeFile_19 ?_
      refine lv_iload_n hx hb dX16_writeFile_22 rfl (lv_at hl 2 rfl) ?_
      obtain ⟨i26, h⟩ := nd_ck_e h
      refine va_iald (i := v1) hx hb hK hP 30 29 rfl rfl i26 dX16_writeFile_23 ?_
      refine lv_goto (tgt := 33) hx hb dX16_writeFile_24 (by decide) ?_
      exact (db_X16_writeFile_33 C K) (v0) (v1) (v2) (v3) ((sR s0.1 28 (Int32.toNatClampNeg v1))) s0 _ _ _ h hP hD hS (lv_sub hl [0, 1, 2, 3, 4] rfl)
  · have h := nd_pos h c1
    refine lv_iconst (v := 0) hx hb dX16_writeFile_5 (by decide) ?_
    exact K _ _ _ _ _ _ dX16_writeFile_6 rfl (Option.some.inj h).symm hP hD hS
set_option maxHeartbeats 40000000 in
set_option maxRecDepth 100000 in
theorem dm_X16_writeFile (l : Launch) (hlt : l.stackTraces = false) (dC : Nat → ClassId) (dI : Nat → Nat → Nat) (a : Nat → Nat) (ac : Nat → ClassId) (n : Nat) (v0 : Int32) (v1 : Int32) (v2 : Int32) (v3 : Int32) (s0 : St × (St)) {r : Int32 × (St × (St))} (h : df_X16_writeFile n v0 v1 v2 v3 s0 = some r) (sz : Nat) : Met l yX16_writeFile ow_dm_X16_writeFile ({ frames := 2, cells := 0, slots := 0, locals := 42 }) (va_Pc [.ref (a 0), .int v0, .int v1, .int v2, .int v3] (fun U => U.heap.size = sz ∧ va_P (dC, dI) vwCl (dw_X16 a ac s0) U.heap ∧ va_K (dC, dI) vwCl (dk_X16 ac) U ∧ va_D (fun _ => True) (dw_X16 a ac s0) ∧ nv_E (va_A (dw_X16 a ac s0) sz) U)) (va_Qi (fun x _ => x = r.1) (fun (_ : Unit) t => va_P (dC, dI) vwCl (dw_X16 a ac r.2) t.heap ∧ va_K (dC, dI) vwCl (dk_X16 ac) t ∧ va_D (va_A (dw_X16 a ac s0) sz) (dw_X16 a ac r.2)) (va_A (dw_X16 a ac s0) sz)) 0 0 (va_A (dw_X16 a ac s0) sz) := by
  refine Met.ofW (cc := cX16_writeFile) (maxL := 7) (ret := (some .int)) (by decide) rfl ?_
  intro p e s m args below meth c s₁ B hml hv
  obtain ⟨rfl, hsz, hP, hK, hD0, hN⟩ := hv
  have hx := B.exec
  have hb := B.bytes
  have hr := B.returns
  have hts := atoms_spec (ws := ow_dm_X16_writeFile) B.pre
  have hown : s.vm.findClass RX16 = some m.cls := findClass_of_methodNamed B.named
  have hlocks := B.notSynchronized
  subst hsz
  have hD := hD0.self (sz := s.heap.size)
  generalize hAe : va_A (dw_X16 a ac s0) s.heap.size = A at hD hN ⊢
  have hA : ∀ q : Nat, s.heap.size ≤ q → A q := fun q h => by rw [← hAe]; exact Or.inr h
  have hl := lv_entry ([.ref (a 0), .int v0, .int v1, .int v2, .int v3]) (n := 7) (Nat.le_of_ble_eq_true rfl)
  rw [lg_entry_eq]
  generalize (lg_sl ([.ref (a 0), .int v0, .int v1, .int v2, .int v3]) ++ List.replicate (7 - (lg_sl ([.ref (a 0), .int v0, .int v1, .int v2, .int v3])).length) Slot.unset).toArray = ls at hl ⊢
  have hl : lv_has ls 7 [(0, .ref (a 0)), (1, .int v0), (2, .int v1), (3, .int v2), (4, .int v3)] := hl
  exact db_X16_writeFile_0 (dC := dC) (dI := dI) (a := a) (ac := ac) (n := n) (r := r) ⟨hlt, hx, hb, hml, hown, hts, hN, hA, hK⟩ (fun pc v τ H locs ls d z er hP hD hS => by subst er; exact W.zret (v := v) hx hb hr z (fun t ht hW => ⟨⟨v, (), rfl, rfl, by rw [ht]; exact hP, va_K.moved hW.alike hK, hD⟩, hS.F ht⟩) hS.2.2 d) v0 v1 v2 v3 s0 _ _ _ h hP hD va_S.rf (lv_sub hl [0, 1, 2, 3, 4] rfl)
def ow_dm_X16_write7 : List Cond := .code yX16_write7 cX16_write7 7 (some .int) :: ([.fieldLink RX16 232 "TimeMachineModel$Machine" "p" "I", .methodLink RX16 478 yX16_mayAll, .instanceMethod yX16_mayAll, .selects RX16 yX16_mayAll yX16_mayAll, .initialized RX16, .methodLink RX16 491 yX16_openingOf, .instanceMethod yX16_openingOf, .selects RX16 yX16_openingOf yX16_openingOf, .fieldLink RX16 82 "TimeMachineModel$Machine" "right" "[I", .fieldLink RX16 76 "TimeMachineModel$Machine" "thing" "[I", .fieldLink RX16 73 "TimeMachineModel$Machine" "kind" "[I", .methodLink RX16 264 yX16_waits, .instanceMethod yX16_waits, .selects RX16 yX16_waits yX16_waits, .fieldLink RX16 97 "TimeMachineModel$Machine" "pipeBytes" "[I", .fieldLink RX16 94 "TimeMachineModel$Machine" "piped" "[I", .methodLink RX16 235 yX16_byteAt, .instanceMethod yX16_byteAt, .selects RX16 yX16_byteAt yX16_byteAt, .methodLink RX16 502 yX16_show, .instanceMethod yX16_show, .selects RX16 yX16_show yX16_show, .methodLink RX16 415 yX16_tell, .instanceMethod yX16_tell, .selects RX16 yX16_tell yX16_tell, .methodLink RX16 499 yX16_writeFile, .instanceMethod yX16_writeFile, .selects RX16 yX16_writeFile yX16_writeFile, .methodLink RX16 243 yX16_ends, .instanceMethod yX16_ends, .selects RX16 yX16_ends yX16_ends] ++ (u_ws RX16 TX16 56 ++ (ow_dm_X16_mayAll ++ (ow_dm_X16_openingOf ++ (ow_dm_X16_waits ++ (ow_dm_X16_byteAt ++ (ow_dm_X16_show ++ (ow_dm_X16_tell ++ (ow_dm_X16_writeFile ++ (ow_dm_X16_ends ++ []))))))))))
theorem gd_dm_X16_write7 : ∀ w ∈ ow_dm_X16_write7, (w.onTables && w.keeps) = true ∨ ∃ ty, w = Cond.arrayClass ty := List.forall_mem_cons.mpr ⟨good_of_word rfl, List.forall_mem_append.mpr ⟨fun w h => good_of_word (List.all_eq_true.mp (by decide +kernel) w h), List.forall_mem_append.mpr ⟨gu_X16, List.forall_mem_append.mpr ⟨gd_dm_X16_mayAll, List.forall_mem_append.mpr ⟨gd_dm_X16_openingOf, List.forall_mem_append.mpr ⟨gd_dm_X16_waits, List.forall_mem_append.mpr ⟨gd_dm_X16_byteAt, List.forall_mem_append.mpr ⟨gd_dm_X16_show, List.forall_mem_append.mpr ⟨gd_dm_X16_tell, List.forall_mem_append.mpr ⟨gd_dm_X16_writeFile, List.forall_mem_append.mpr ⟨gd_dm_X16_ends, fun _ h => nomatch h⟩⟩⟩⟩⟩⟩⟩⟩⟩⟩⟩
theorem hi_dm_X16_write7_X16 : ∀ w ∈ u_ws RX16 TX16 56, w ∈ ow_dm_X16_write7 := fun w h => List.mem_cons_of_mem _ (List.mem_append_right _ (List.mem_append_left _ h))
theorem gi_dm_X16_write7_0 : GoodIn ow_dm_X16_write7 (wsV RX16 478 RX16 yX16_mayAll ow_dm_X16_mayAll) := goodIn_app (goodIn_of _ (by decide +kernel)) (fun w h => ⟨List.mem_cons_of_mem _ (List.mem_append_right _ (List.mem_append_right _ (List.mem_append_left _ h))), gd_dm_X16_mayAll w h⟩)
theorem gi_dm_X16_write7_1 : GoodIn ow_dm_X16_write7 (wsV RX16 491 RX16 yX16_openingOf ow_dm_X16_openingOf) := goodIn_app (goodIn_of _ (by decide +kernel)) (fun w h => ⟨List.mem_cons_of_mem _ (List.mem_append_right _ (List.mem_append_right _ (List.mem_append_right _ (List.mem_append_left _ h)))), gd_dm_X16_openingOf w h⟩)
theorem gi_dm_X16_write7_2 : GoodIn ow_dm_X16_write7 (wsV RX16 264 RX16 yX16_waits ow_dm_X16_waits) := goodIn_app (goodIn_of _ (by decide +kernel)) (fun w h => ⟨List.mem_cons_of_mem _ (List.mem_append_right _ (List.mem_append_right _ (List.mem_append_right _ (List.mem_append_right _ (List.mem_append_left _ h))))), gd_dm_X16_waits w h⟩)
theorem gi_dm_X16_write7_3 : GoodIn ow_dm_X16_write7 (wsV RX16 235 RX16 yX16_byteAt ow_dm_X16_byteAt) := goodIn_app (goodIn_of _ (by decide +kernel)) (fun w h => ⟨List.mem_cons_of_mem _ (List.mem_append_right _ (List.mem_append_right _ (List.mem_append_right _ (List.mem_append_right _ (List.mem_append_right _ (List.mem_append_left _ h)))))), gd_dm_X16_byteAt w h⟩)
theorem gi_dm_X16_write7_4 : GoodIn ow_dm_X16_write7 (wsV RX16 502 RX16 yX16_show ow_dm_X16_show) := goodIn_app (goodIn_of _ (by decide +kernel)) (fun w h => ⟨List.mem_cons_of_mem _ (List.mem_append_right _ (List.mem_append_right _ (List.mem_append_right _ (List.mem_append_right _ (List.mem_append_right _ (List.mem_append_right _ (List.mem_append_left _ h))))))), gd_dm_X16_show w h⟩)
theorem gi_dm_X16_write7_5 : GoodIn ow_dm_X16_write7 (wsV RX16 415 RX16 yX16_tell ow_dm_X16_tell) := goodIn_app (goodIn_of _ (by decide +kernel)) (fun w h => ⟨List.mem_cons_of_mem _ (List.mem_append_right _ (List.mem_append_right _ (List.mem_append_right _ (List.mem_append_right _ (List.mem_append_right _ (List.mem_append_right _ (List.mem_append_right _ (List.mem_append_left _ h)))))))), gd_dm_X16_tell w h⟩)
theorem gi_dm_X16_write7_6 : GoodIn ow_dm_X16_write7 (wsV RX16 499 RX16 yX16_writeFile ow_dm_X16_writeFile) := goodIn_app (goodIn_of _ (by decide +kernel)) (fun w h => ⟨List.mem_cons_of_mem _ (List.mem_append_right _ (List.mem_append_right _ (List.mem_append_right _ (List.mem_append_right _ (List.mem_append_right _ (List.mem_append_right _ (List.mem_append_right _ (List.mem_append_right _ (List.mem_append_left _ h))))))))), gd_dm_X16_writeFile w h⟩)
theorem gi_dm_X16_write7_7 : GoodIn ow_dm_X16_write7 (wsV RX16 243 RX16 yX16_ends ow_dm_X16_ends) := goodIn_app (goodIn_of _ (by decide +kernel)) (fun w h => ⟨List.mem_cons_of_mem _ (List.mem_append_right _ (List.mem_append_right _ (List.mem_append_right _ (List.mem_append_right _ (List.mem_append_right _ (List.mem_append_right _ (List.mem_append_right _ (List.mem_append_right _ (List.mem_append_right _ (List.mem_append_left _ h)))))))))), gd_dm_X16_ends w h⟩)
def dj_X16_write7_11 (p : Program) (l : Launch) (e : Env) (s : State) (m : MethodId) (args : Array Value) (below : List Frame) (meth : Method) (c : Code) (Q : State → Prop) (A : Nat → Prop) (dC : Nat → ClassId) (dI : Nat → Nat → Nat) (a : Nat → Nat) (ac : Nat → ClassId) (g : (St × (St)) → Option (Int32 × (St × (St)))) (r : Int32 × (St × (St))) : Prop := ∀ (s0 : St × (St)) (H : Heap) (locs : List Loc) (ls : Array Slot), g s0 = some r → va_P (dC, dI) vwCl (dw_X16 a ac s0) H → va_D A (dw_X16 a ac s0) → va_S A s.heap H locs → lv_has ls 7 [] → W p l e (headSpec ow_dm_X16_write7 ({ frames := 3, cells := 0, slots := 0, locals := 71 })).room s m args below meth c H locs 0 0 Q (F0 m 11 ls [])
def dj_X16_write7_60 (p : Program) (l : Launch) (e : Env) (s : State) (m : MethodId) (args : Array Value) (below : List Frame) (meth : Method) (c : Code) (Q : State → Prop) (A : Nat → Prop) (dC : Nat → ClassId) (dI : Nat → Nat → Nat) (a : Nat → Nat) (ac : Nat → ClassId) (g : (St × (St)) → Option (Int32 × (St × (St)))) (r : Int32 × (St × (St))) : Prop := ∀ (s0 : St × (St)) (H : Heap) (locs : List Loc) (ls : Array Slot), g s0 = some r → va_P (dC, dI) vwCl (dw_X16 a ac s0) H → va_D A (dw_X16 a ac s0) → va_S A s.heap H locs → lv_has ls 7 [] → W p l e (headSpec ow_dm_X16_write7 ({ frames := 3, cells := 0, slots := 0, locals := 71 })).room s m args below meth c H locs 0 0 Q (F0 m 60 ls [])
def dj_X16_write7_207 (p : Program) (l : Launch) (e : Env) (s : State) (m : MethodId) (args : Array Value) (below : List Frame) (meth : Method) (c : Code) (Q : State → Prop) (A : Nat → Prop) (dC : Nat → ClassId) (dI : Nat → Nat → Nat) (a : Nat → Nat) (ac : Nat → ClassId) (g : Int32 → Int32 → Int32 → Int32 → Int32 → (St × (St)) → Option (Int32 × (St × (St)))) (r : Int32 × (St × (St))) : Prop := ∀ (x2 : Int32) (x3 : Int32) (x4 : Int32) (x5 : Int32) (x6 : Int32) (s0 : St × (St)) (H : Heap) (locs : List Loc) (ls : Array Slot), g x2 x3 x4 x5 x6 s0 = some r → va_P (dC, dI) vwCl (dw_X16 a ac s0) H → va_D A (dw_X16 a ac s0) → va_S A s.heap H locs → lv_has ls 7 [(0, .ref (a 0)), (2, .int x2), (3, .int x3), (4, .int x4), (5, .int x5), (6, .int x6)] → W p l e (headSpec ow_dm_X16_write7 ({ frames := 3, cells := 0, slots := 0, locals := 71 })).room s m args below meth c H locs 0 0 Q (F0 m 207 ls [])
def dj_X16_write7_137 (p : Program) (l : Launch) (e : Env) (s : State) (m : MethodId) (args : Array Value) (below : List Frame) (meth : Method) (c : Code) (Q : State → Prop) (A : Nat → Prop) (dC : Nat → ClassId) (dI : Nat → Nat → Nat) (a : Nat → Nat) (ac : Nat → ClassId) (g : Int32 → Int32 → Int32 → Int32 → Int32 → (St × (St)) → Option (Int32 × (St × (St)))) (r : Int32 × (St × (St))) : Prop := ∀ (x2 : Int32) (x3 : Int32) (x4 : Int32) (x5 : Int32) (x6 : Int32) (s0 : St × (St)) (H : Heap) (locs : List Loc) (ls : Array Slot), g x2 x3 x4 x5 x6 s0 = some r → va_P (dC, dI) vwCl (dw_X16 a ac s0) H → va_D A (dw_X16 a ac s0) → va_S A s.heap H locs → lv_has ls 7 [(0, .ref (a 0)), (2, .int x2), (3, .int x3), (4, .int x4), (5, .int x5), (6, .int x6)] → W p l e (headSpec ow_dm_X16_write7 ({ frames := 3, cells := 0, slots := 0, locals := 71 })).room s m args below meth c H locs 0 0 Q (F0 m 137 ls [])
def dj_X16_write7_95 (p : Program) (l : Launch) (e : Env) (s : State) (m : MethodId) (args : Array Value) (below : List Frame) (meth : Method) (c : Code) (Q : State → Prop) (A : Nat → Prop) (dC : Nat → ClassId) (dI : Nat → Nat → Nat) (a : Nat → Nat) (ac : Nat → ClassId) (g : Int32 → Int32 → Int32 → Int32 → (St × (St)) → Option (Int32 × (St × (St)))) (r : Int32 × (St × (St))) : Prop := ∀ (x2 : Int32) (x3 : Int32) (x4 : Int32) (x5 : Int32) (s0 : St × (St)) (H : Heap) (locs : List Loc) (ls : Array Slot), g x2 x3 x4 x5 s0 = some r → va_P (dC, dI) vwCl (dw_X16 a ac s0) H → va_D A (dw_X16 a ac s0) → va_S A s.heap H locs → lv_has ls 7 [(0, .ref (a 0)), (2, .int x2), (3, .int x3), (4, .int x4), (5, .int x5)] → W p l e (headSpec ow_dm_X16_write7 ({ frames := 3, cells := 0, slots := 0, locals := 71 })).room s m args below meth c H locs 0 0 Q (F0 m 95 ls [])
def dj_X16_write7_0 (p : Program) (l : Launch) (e : Env) (s : State) (m : MethodId) (args : Array Value) (below : List Frame) (meth : Method) (c : Code) (Q : State → Prop) (A : Nat → Prop) (dC : Nat → ClassId) (dI : Nat → Nat → Nat) (a : Nat → Nat) (ac : Nat → ClassId) (g : Int32 → Int32 → Int32 → (St × (St)) → Option (Int32 × (St × (St)))) (r : Int32 × (St × (St))) : Prop := ∀ (v0 : Int32) (v1 : Int32) (v2 : Int32) (s0 : St × (St)) (H : Heap) (locs : List Loc) (ls : Array Slot), g v0 v1 v2 s0 = some r → va_P (dC, dI) vwCl (dw_X16 a ac s0) H → va_D A (dw_X16 a ac s0) → va_S A s.heap H locs → lv_has ls 7 [(0, .ref (a 0)), (1, .int v0), (2, .int v1), (3, .int v2)] → W p l e (headSpec ow_dm_X16_write7 ({ frames := 3, cells := 0, slots := 0, locals := 71 })).room s m args below meth c H locs 0 0 Q (F0 m 0 ls [])
set_option maxHeartbeats 40000000 in
set_option maxRecDepth 100000 in
theorem db_X16_write7_11 {p : Program} {l : Launch} {e : Env} {s : State} {m : MethodId} {args : Array Value} {below : List Frame} {meth : Method} {c : Code} {Q : State → Prop} {A : Nat → Prop} {dC : Nat → ClassId} {dI : Nat → Nat → Nat} {a : Nat → Nat} {ac : Nat → ClassId} {n : Nat} {r : Int32 × (St × (St))} (C : nd_C p l s m args c A (dC, dI) cX16_write7 7 RX16 ow_dm_X16_write7 (dk_X16 ac)) (K : nd_Ki p l e (headSpec ow_dm_X16_write7 ({ frames := 3, cells := 0, slots := 0, locals := 71 })).room s m args below meth c Q A (dC, dI) cX16_write7 .int (St × (St)) (dw_X16 a ac) r) : dj_X16_write7_11 p l e s m args below meth c Q A dC dI a ac (df_X16_write7_11 n) r := by
  obtain ⟨hlt, hx, hb, hml, hown, hts, hN, hA, hK⟩ := id C
  intro s0 H locs ls h hP hD hS hl
  unfold df_X16_write7_11 at h
  refine lv_bipush (v := (-22)) hx hb dX16_write7_11 (by decide) ?_
  exact K _ _ _ _ _ _ dX16_write7_13 rfl (Option.some.inj h).symm hP hD hS
set_option maxHeartbeats 40000000 in
set_option maxRecDepth 100000 in
theorem db_X16_write7_60 {p : Program} {l : Launch} {e : Env} {s : State} {m : MethodId} {args : Array Value} {below : List Frame} {meth : Method} {c : Code} {Q : State → Prop} {A : Nat → Prop} {dC : Nat → ClassId} {dI : Nat → Nat → Nat} {a : Nat → Nat} {ac : Nat → ClassId} {n : Nat} {r : Int32 × (St × (St))} (C : nd_C p l s m args c A (dC, dI) cX16_write7 7 RX16 ow_dm_X16_write7 (dk_X16 ac)) (K : nd_Ki p l e (headSpec ow_dm_X16_write7 ({ frames := 3, cells := 0, slots := 0, locals := 71 })).room s m args below meth c Q A (dC, dI) cX16_write7 .int (St × (St)) (dw_X16 a ac) r) : dj_X16_write7_60 p l e s m args below meth c Q A dC dI a ac (df_X16_write7_60 n) r := by
  obtain ⟨hlt, hx, hb, hml, hown, hts, hN, hA, hK⟩ := id C
  intro s0 H locs ls h hP hD hS hl
  unfold df_X16_write7_60 at h
  refine lv_iconst (v := (-1)) hx hb dX16_write7_60 (by decide) ?_
  exact K _ _ _ _ _ _ dX16_write7_61 rfl (Option.some.inj h).symm hP hD hS
set_option maxHeartbeats 40000000 in
set_option maxRecDepth 100000 in
theorem db_X16_write7_207 {p : Program} {l : Launch} {e : Env} {s : State} {m : MethodId} {args : Array Value} {below : List Frame} {meth : Method} {c : Code} {Q : State → Prop} {A : Nat → Prop} {dC : Nat → ClassId} {dI : Nat → Nat → Nat} {a : Nat → Nat} {ac : Nat → ClassId} {n : Nat} {r : Int32 × (St × (St))} (C : nd_C p l s m args c A (dC, dI) cX16_write7 7 RX16 ow_dm_X16_write7 (dk_X16 ac)) (K : nd_Ki p l e (headSpec ow_dm_X16_write7 ({ frames := 3, cells := 0, slots := 0, locals := 71 })).room s m args below meth c Q A (dC, dI) cX16_write7 .int (St × (St)) (dw_X16 a ac) r) {g137 : Int32 → Int32 → Int32 → Int32 → Int32 → (St × (St)) → Option (Int32 × (St × (St)))} (J137 : dj_X16_write7_137 p l e s m args below meth c Q A dC dI a ac g137 r) : dj_X16_write7_207 p l e s m args below meth c Q A dC dI a ac (df_X16_write7_207 n g137) r := by
  obtain ⟨hlt, hx, hb, hml, hown, hts, hN, hA, hK⟩ := id C
  intro x2 x3 x4 x5 x6 s0 H locs ls h hP hD hS hl
  unfold df_X16_write7_207 at h
  obtain ⟨z35, ez35, h⟩ := nd_let_e h
  refine lv_iinc (v := z35) (lv' := [(6, .int z35), (0, .ref (a 0)), (2, .int x2), (3, .int x3), (4, .int x4), (5, .int x5)]) hx hb dX16_write7_207 hl (k := 5) rfl (by rw [ez35]) (by decide) rfl (fun ls hl => ?_)
  refine lv_goto (tgt := 137) hx hb dX16_write7_210 (by decide) ?_
  exact (J137) (x2) (x3) (x4) (x5) (z35) s0 _ _ _ h hP hD hS (lv_sub hl [1, 2, 3, 4, 5, 0] rfl)
set_option maxHeartbeats 40000000 in
set_option maxRecDepth 100000 in
theorem dB_X16_write7_137 {p : Program} {l : Launch} {e : Env} {s : State} {m : MethodId} {args : Array Value} {below : List Frame} {meth : Method} {c : Code} {Q : State → Prop} {A : Nat → Prop} {dC : Nat → ClassId} {dI : Nat → Nat → Nat} {a : Nat → Nat} {ac : Nat → ClassId} {n : Nat} {r : Int32 × (St × (St))} (C : nd_C p l s m args c A (dC, dI) cX16_write7 7 RX16 ow_dm_X16_write7 (dk_X16 ac)) (K : nd_Ki p l e (headSpec ow_dm_X16_write7 ({ frames := 3, cells := 0, slots := 0, locals := 71 })).room s m args below meth c Q A (dC, dI) cX16_write7 .int (St × (St)) (dw_X16 a ac) r) {g137 : Int32 → Int32 → Int32 → Int32 → Int32 → (St × (St)) → Option (Int32 × (St × (St)))} (J137 : dj_X16_write7_137 p l e s m args below meth c Q A dC dI a ac g137 r) : dj_X16_write7_137 p l e s m args below meth c Q A dC dI a ac (dF_X16_write7_137 n g137) r := by
  obtain ⟨hlt, hx, hb, hml, hown, hts, hN, hA, hK⟩ := id C
  intro x2 x3 x4 x5 x6 s0 H locs ls h hP hD hS hl
  unfold dF_X16_write7_137 at h
  refine lv_iload hx hb dX16_write7_137 (lv_at hl 5 rfl) ?_
  refine lv_iload_n hx hb dX16_write7_139 rfl (lv_at hl 2 rfl) ?_
  refine lv_icmp_ge (tgt := 213) hx hb dX16_write7_140 (by decide) (fun c23 => ?_) (fun c23 => ?_)
  · have h := nd_pos h c23
    refine lv_iload_n hx hb dX16_write7_213 rfl (lv_at hl 2 rfl) ?_
    exact K _ _ _ _ _ _ dX16_write7_214 rfl (Option.some.inj h).symm hP hD hS
  · have h := nd_neg h c23
    refine lv_aload_n hx hb dX16_write7_143 rfl (lv_at hl 0 rfl) ?_
    refine va_get (D := (dC, dI)) (ci := 17) (v := .ref (a 21)) (C := RX16) (T := TX16) (N := 56) hx hb hts hi_dm_X16_write7_X16 hown hK hP 0 rfl rfl 30 (by decide) (hts (.fieldLink RX16 73 "TimeMachineModel$Machine" "kind" "[I") (List.mem_of_getElem? (i := 11) rfl)) (fun _ h9 => h9) rfl dX16_write7_144 ?_
    refine lv_iload hx hb dX16_write7_147 (lv_at hl 3 rfl) ?_
    obtain ⟨i24, h⟩ := nd_ck_e h
    refine va_iald (i := x4) hx hb hK hP 21 20 rfl rfl i24 dX16_write7_149 ?_
    refine lv_iconst (v := 4) hx hb dX16_write7_150 (by decide) ?_
    refine lv_icmp_ne (tgt := 169) hx hb dX16_write7_151 (by decide) (fun c25 => ?_) (fun c25 => ?_)
    · have h := nd_neg h c25
      refine lv_aload_n hx hb dX16_write7_169 rfl (lv_at hl 0 rfl) ?_
      refine va_get (D := (dC, dI)) (ci := 17) (v := .ref (a 29)) (C := RX16) (T := TX16) (N := 56) hx hb hts hi_dm_X16_write7_X16 hown hK hP 0 rfl rfl 38 (by decide) (hts (.fieldLink RX16 97 "TimeMachineModel$Machine" "pipeBytes" "[I") (List.mem_of_getElem? (i := 15) rfl)) (fun _ h9 => h9) rfl dX16_write7_170 ?_
      refine lv_sipush (v := 512) hx hb dX16_write7_173 (by decide) ?_
      refine lv_iload hx hb dX16_write7_176 (lv_at hl 4 rfl) ?_
      refine lv_imul hx hb dX16_write7_178 ?_
      refine lv_aload_n hx hb dX16_write7_179 rfl (lv_at hl 0 rfl) ?_
      refine va_get (D := (dC, dI)) (ci := 17) (v := .ref (a 28)) (C := RX16) (T := TX16) (N := 56) hx hb hts hi_dm_X16_write7_X16 hown hK hP 0 rfl rfl 37 (by decide) (hts (.fieldLink RX16 94 "TimeMachineModel$Machine" "piped" "[I") (List.mem_of_getElem? (i := 16) rfl)) (fun _ h9 => h9) rfl dX16_write7_180 ?_
      refine lv_iload hx hb dX16_write7_183 (lv_at hl 4 rfl) ?_
      obtain ⟨i26, h⟩ := nd_ck_e h
      refine va_iald (i := x5) hx hb hK hP 28 27 rfl rfl i26 dX16_write7_185 ?_
      refine lv_iadd hx hb dX16_write7_186 ?_
      refine lv_aload_n hx hb dX16_write7_187 rfl (lv_at hl 0 rfl) ?_
      refine lv_iload_n hx hb dX16_write7_188 rfl (lv_at hl 1 rfl) ?_
      refine lv_iload hx hb dX16_write7_189 (lv_at hl 5 rfl) ?_
      refine lv_iadd hx hb dX16_write7_191 ?_
      obtain ⟨q27, s28, hq, h⟩ := nd_b2_e h
      have hPc := hP
      have hDc := hD
      have hKc := hK
      have hFc := nd_rs hD hS hA
      refine nd_cVi (As := [.int (x2 + x6)]) (rest := [.int ((512 * x5) + (sR s0.1 26 (Int32.toNatClampNeg x5))), .ref (a 29)]) (q := q27) (w' := dw_X16 a ac s28) ⟨hx, hb, hml, hown, hts⟩ (fun sz => dm_X16_byteAt l hlt dC dI a ac n ((x2 + x6)) s0 hq sz) (cwV 1 hts gi_dm_X16_write7_3 rfl rfl rfl (by decide +kernel) ⟨Nat.le_of_ble_eq_true rfl, Nat.le_of_ble_eq_true rfl⟩) hPc hDc hKc hS hA hN (va_recv hKc hPc (ci := 17) (q0 := 0) rfl rfl) rfl hl.1 rfl (Nat.le_of_ble_eq_true rfl) dX16_write7_192 (fun H locs hP1 hD1 hk1 hS => ?_)
      have hP := hP1
      have hD := hD1.weaken (fun k q _ h => hFc q.1 h)
      obtain ⟨i30, h⟩ := nd_ck_e h
      refine va_iast (i := ((512 * x5) + (sR s0.1 26 (Int32.toNatClampNeg x5)))) (x := q27) hx hb hK hP hD hS 29 28 rfl rfl i30 dX16_write7_195 (fun H locs hP hD hS => ?_)
      obtain ⟨s31, es31, h⟩ := nd_let_e h
      have hP : va_P (dC, dI) vwCl (dw_X16 a ac s31) H := by rw [es31]; exact hP
      have hD : va_D A (dw_X16 a ac s31) := by rw [es31]; exact hD
      refine lv_aload_n hx hb dX16_write7_196 rfl (lv_at hl 0 rfl) ?_
      refine va_get (D := (dC, dI)) (ci := 17) (v := .ref (a 28)) (C := RX16) (T := TX16) (N := 56) hx hb hts hi_dm_X16_write7_X16 hown hK hP 0 rfl rfl 37 (by decide) (hts (.fieldLink RX16 94 "TimeMachineModel$Machine" "piped" "[I") (List.mem_of_getElem? (i := 16) rfl)) (fun _ h9 => h9) rfl dX16_write7_197 ?_
      refine lv_iload hx hb dX16_write7_200 (lv_at hl 4 rfl) ?_
      refine lv_dup2_11 hx hb dX16_write7_202 rfl rfl ?_
      obtain ⟨i32, h⟩ := nd_ck_e h
      refine va_iald (i := x5) hx hb hK hP 28 27 rfl rfl i32 dX16_write7_203 ?_
      refine lv_iconst (v := 1) hx hb dX16_write7_204 (by decide) ?_
      refine lv_iadd hx hb dX16_write7_205 ?_
      obtain ⟨i33, h⟩ := nd_ck_e h
      refine va_iast (i := x5) (x := ((sR s31.1 26 (Int32.toNatClampNeg x5)) + 1)) hx hb hK hP hD hS 28 27 rfl rfl i33 dX16_write7_206 (fun H locs hP hD hS => ?_)
      obtain ⟨s34, es34, h⟩ := nd_let_e h
      have hP : va_P (dC, dI) vwCl (dw_X16 a ac s34) H := by rw [es34]; exact hP
      have hD : va_D A (dw_X16 a ac s34) := by rw [es34]; exact hD
      exact (db_X16_write7_207 C K J137) (x2) (x3) (x4) (x5) (x6) s34 _ _ _ h hP hD hS (lv_sub hl [0, 1, 2, 3, 4, 5] rfl)
    · have h := nd_pos h c25
      refine lv_aload_n hx hb dX16_write7_154 rfl (lv_at hl 0 rfl) ?_
      refine lv_aload_n hx hb dX16_write7_155 rfl (lv_at hl 0 rfl) ?_
      refine lv_iload_n hx hb dX16_write7_156 rfl (lv_at hl 1 rfl) ?_
      refine lv_iload hx hb dX16_write7_157 (lv_at hl 5 rfl) ?_
      refine lv_iadd hx hb dX16_write7_159 ?_
      obtain ⟨q36, s37, hq, h⟩ := nd_b2_e h
      have hPc := hP
      have hDc := hD
      have hKc := hK
      have hFc := nd_rs hD hS hA
      refine nd_cVi (As := [.int (x2 + x6)]) (rest := [.ref (a 0)]) (q := q36) (w' := dw_X16 a ac s37) ⟨hx, hb, hml, hown, hts⟩ (fun sz => dm_X16_byteAt l hlt dC dI a ac n ((x2 + x6)) s0 hq sz) (cwV 1 hts gi_dm_X16_write7_3 rfl rfl rfl (by decide +kernel) ⟨Nat.le_of_ble_eq_true rfl, Nat.le_of_ble_eq_true rfl⟩) hPc hDc hKc hS hA hN (va_recv hKc hPc (ci := 17) (q0 := 0) rfl rfl) rfl hl.1 rfl (Nat.le_of_ble_eq_true rfl) dX16_write7_160 (fun H locs hP1 hD1 hk1 hS => ?_)
      have hP := hP1
      have hD := hD1.weaken (fun k q _ h => hFc q.1 h)
      obtain ⟨s40, hq, h⟩ := nd_b1_e h
      have hPc := hP
      have hDc := hD
      have hKc := hK
      have hFc := nd_rs hD hS hA
      refine nd_cVv (As := [.int q36]) (rest := []) (w' := dw_X16 a ac s40) ⟨hx, hb, hml, hown, hts⟩ (fun sz => dm_X16_show l hlt dC dI a ac n (q36) s37 hq sz) (cwV 1 hts gi_dm_X16_write7_4 rfl rfl rfl (by decide +kernel) ⟨Nat.le_of_ble_eq_true rfl, Nat.le_of_ble_eq_true rfl⟩) hPc hDc hKc hS hA hN (va_recv hKc hPc (ci := 17) (q0 := 0) rfl rfl) rfl hl.1 rfl (Nat.le_of_ble_eq_true rfl) dX16_write7_163 (fun H locs hP1 hD1 hk1 hS => ?_)
      have hP := hP1
      have hD := hD1.weaken (fun k q _ h => hFc q.1 h)
      refine lv_goto (tgt := 207) hx hb dX16_write7_166 (by decide) ?_
      exact (db_X16_write7_207 C K J137) (x2) (x3) (x4) (x5) (x6) s40 _ _ _ h hP hD hS (lv_sub hl [0, 1, 2, 3, 4, 5] rfl)
set_option maxHeartbeats 40000000 in
set_option maxRecDepth 100000 in
theorem db_X16_write7_137 {p : Program} {l : Launch} {e : Env} {s : State} {m : MethodId} {args : Array Value} {below : List Frame} {meth : Method} {c : Code} {Q : State → Prop} {A : Nat → Prop} {dC : Nat → ClassId} {dI : Nat → Nat → Nat} {a : Nat → Nat} {ac : Nat → ClassId} {n : Nat} {r : Int32 × (St × (St))} (C : nd_C p l s m args c A (dC, dI) cX16_write7 7 RX16 ow_dm_X16_write7 (dk_X16 ac)) (K : nd_Ki p l e (headSpec ow_dm_X16_write7 ({ frames := 3, cells := 0, slots := 0, locals := 71 })).room s m args below meth c Q A (dC, dI) cX16_write7 .int (St × (St)) (dw_X16 a ac) r) (k : Nat) : dj_X16_write7_137 p l e s m args below meth c Q A dC dI a ac (df_X16_write7_137 n k) r := by
  induction k with
  | zero => intro x2 x3 x4 x5 x6 s0 H locs ls h; exact nomatch (show (none : Option (Int32 × (St × (St)))) = some r from h)
  | succ k ih => exact dB_X16_write7_137 C K ih
set_option maxHeartbeats 40000000 in
set_option maxRecDepth 100000 in
theorem db_X16_write7_95 {p : Program} {l : Launch} {e : Env} {s : State} {m : MethodId} {args : Array Value} {below : List Frame} {meth : Method} {c : Code} {Q : State → Prop} {A : Nat → Prop} {dC : Nat → ClassId} {dI : Nat → Nat → Nat} {a : Nat → Nat} {ac : Nat → ClassId} {n : Nat} {r : Int32 × (St × (St))} (C : nd_C p l s m args c A (dC, dI) cX16_write7 7 RX16 ow_dm_X16_write7 (dk_X16 ac)) (K : nd_Ki p l e (headSpec ow_dm_X16_write7 ({ frames := 3, cells := 0, slots := 0, locals := 71 })).room s m args below meth c Q A (dC, dI) cX16_write7 .int (St × (St)) (dw_X16 a ac) r) : dj_X16_write7_95 p l e s m args below meth c Q A dC dI a ac (df_X16_write7_95 n) r := by
  obtain ⟨hlt, hx, hb, hml, hown, hts, hN, hA, hK⟩ := id C
  intro x2 x3 x4 x5 s0 H locs ls h hP hD hS hl
  unfold df_X16_write7_95 at h
  refine lv_aload_n hx hb dX16_write7_95 rfl (lv_at hl 0 rfl) ?_
  refine va_get (D := (dC, dI)) (ci := 17) (v := .ref (a 21)) (C := RX16) (T := TX16) (N := 56) hx hb hts hi_dm_X16_write7_X16 hown hK hP 0 rfl rfl 30 (by decide) (hts (.fieldLink RX16 73 "TimeMachineModel$Machine" "kind" "[I") (List.mem_of_getElem? (i := 11) rfl)) (fun _ h9 => h9) rfl dX16_write7_96 ?_
  refine lv_iload hx hb dX16_write7_99 (lv_at hl 3 rfl) ?_
  obtain ⟨i17, h⟩ := nd_ck_e h
  refine va_iald (i := x4) hx hb hK hP 21 20 rfl rfl i17 dX16_write7_101 ?_
  refine lv_iconst (v := 3) hx hb dX16_write7_102 (by decide) ?_
  refine lv_icmp_ne (tgt := 117) hx hb dX16_write7_103 (by decide) (fun c18 => ?_) (fun c18 => ?_)
  · have h := nd_neg h c18
    refine lv_aload_n hx hb dX16_write7_117 rfl (lv_at hl 0 rfl) ?_
    refine lv_iload hx hb dX16_write7_118 (lv_at hl 3 rfl) ?_
    refine lv_iconst (v := 0) hx hb dX16_write7_120 (by decide) ?_
    refine lv_iload_n hx hb dX16_write7_121 rfl (lv_at hl 2 rfl) ?_
    obtain ⟨q19, s20, hq, h⟩ := nd_b2_e h
    have hPc := hP
    have hDc := hD
    have hKc := hK
    have hFc := nd_rs hD hS hA
    refine nd_cVi (As := [.int x4, .int 0, .int x3]) (rest := []) (q := q19) (w' := dw_X16 a ac s20) ⟨hx, hb, hml, hown, hts⟩ (fun sz => dm_X16_waits l hlt dC dI a ac n (x4) (0) (x3) s0 hq sz) (cwV 3 hts gi_dm_X16_write7_2 rfl rfl rfl (by decide +kernel) ⟨Nat.le_of_ble_eq_true rfl, Nat.le_of_ble_eq_true rfl⟩) hPc hDc hKc hS hA hN (va_recv hKc hPc (ci := 17) (q0 := 0) rfl rfl) rfl hl.1 rfl (Nat.le_of_ble_eq_true rfl) dX16_write7_122 (fun H locs hP1 hD1 hk1 hS => ?_)
    have hP := hP1
    have hD := hD1.weaken (fun k q _ h => hFc q.1 h)
    refine lv_if_eq (tgt := 134) hx hb dX16_write7_125 (by decide) (fun c22 => ?_) (fun c22 => ?_)
    · have h := nd_pos h c22
      refine lv_iconst (v := 0) hx hb dX16_write7_134 (by decide) ?_
      refine lv_istore (lv' := [(6, .int 0), (0, .ref (a 0)), (2, .int x2), (3, .int x3), (4, .int x4), (5, .int x5)]) hx hb dX16_write7_135 hl (by decide) rfl (fun ls hl => ?_)
      exact (db_X16_write7_137 C K n) (x2) (x3) (x4) (x5) (0) s20 _ _ _ h hP hD hS (lv_sub hl [1, 2, 3, 4, 5, 0] rfl)
    · have h := nd_neg h c22
      refine lv_aload_n hx hb dX16_write7_128 rfl (lv_at hl 0 rfl) ?_
      refine lv_iconst (v := 1) hx hb dX16_write7_129 (by decide) ?_
      obtain ⟨q42, s43, hq, h⟩ := nd_b2_e h
      have hPc := hP
      have hDc := hD
      have hKc := hK
      have hFc := nd_rs hD hS hA
      refine nd_cVi (As := [.int 1]) (rest := []) (q := q42) (w' := dw_X16 a ac s43) ⟨hx, hb, hml, hown, hts⟩ (fun sz => dm_X16_tell l hlt dC dI a ac n (1) s20 hq sz) (cwV 1 hts gi_dm_X16_write7_5 rfl rfl rfl (by decide +kernel) ⟨Nat.le_of_ble_eq_true rfl, Nat.le_of_ble_eq_true rfl⟩) hPc hDc hKc hS hA hN (va_recv hKc hPc (ci := 17) (q0 := 0) rfl rfl) rfl hl.1 rfl (Nat.le_of_ble_eq_true rfl) dX16_write7_130 (fun H locs hP1 hD1 hk1 hS => ?_)
      have hP := hP1
      have hD := hD1.weaken (fun k q _ h => hFc q.1 h)
      exact K _ _ _ _ _ _ dX16_write7_133 rfl (Option.some.inj h).symm hP hD hS
  · have h := nd_pos h c18
    refine lv_aload_n hx hb dX16_write7_106 rfl (lv_at hl 0 rfl) ?_
    refine lv_iload hx hb dX16_write7_107 (lv_at hl 3 rfl) ?_
    refine lv_iload hx hb dX16_write7_109 (lv_at hl 4 rfl) ?_
    refine lv_iload_n hx hb dX16_write7_111 rfl (lv_at hl 1 rfl) ?_
    refine lv_iload_n hx hb dX16_write7_112 rfl (lv_at hl 2 rfl) ?_
    obtain ⟨q45, s46, hq, h⟩ := nd_b2_e h
    have hPc := hP
    have hDc := hD
    have hKc := hK
    have hFc := nd_rs hD hS hA
    refine nd_cVi (As := [.int x4, .int x5, .int x2, .int x3]) (rest := []) (q := q45) (w' := dw_X16 a ac s46) ⟨hx, hb, hml, hown, hts⟩ (fun sz => dm_X16_writeFile l hlt dC dI a ac n (x4) (x5) (x2) (x3) s0 hq sz) (cwV 4 hts gi_dm_X16_write7_6 rfl rfl rfl (by decide +kernel) ⟨Nat.le_of_ble_eq_true rfl, Nat.le_of_ble_eq_true rfl⟩) hPc hDc hKc hS hA hN (va_recv hKc hPc (ci := 17) (q0 := 0) rfl rfl) rfl hl.1 rfl (Nat.le_of_ble_eq_true rfl) dX16_write7_113 (fun H locs hP1 hD1 hk1 hS => ?_)
    have hP := hP1
    have hD := hD1.weaken (fun k q _ h => hFc q.1 h)
    exact K _ _ _ _ _ _ dX16_write7_116 rfl (Option.some.inj h).symm hP hD hS
set_option maxHeartbeats 40000000 in
set_option maxRecDepth 100000 in
theorem db_X16_write7_0 {p : Program} {l : Launch} {e : Env} {s : State} {m : MethodId} {args : Array Value} {below : List Frame} {meth : Method} {c : Code} {Q : State → Prop} {A : Nat → Prop} {dC : Nat → ClassId} {dI : Nat → Nat → Nat} {a : Nat → Nat} {ac : Nat → ClassId} {n : Nat} {r : Int32 × (St × (St))} (C : nd_C p l s m args c A (dC, dI) cX16_write7 7 RX16 ow_dm_X16_write7 (dk_X16 ac)) (K : nd_Ki p l e (headSpec ow_dm_X16_write7 ({ frames := 3, cells := 0, slots := 0, locals := 71 })).room s m args below meth c Q A (dC, dI) cX16_write7 .int (St × (St)) (dw_X16 a ac) r) : dj_X16_write7_0 p l e s m args below meth c Q A dC dI a ac (df_X16_write7_0 n) r := by
  obtain ⟨hlt, hx, hb, hml, hown, hts, hN, hA, hK⟩ := id C
  intro v0 v1 v2 s0 H locs ls h hP hD hS hl
  unfold df_X16_write7_0 at h
  refine lv_iload_n hx hb dX16_write7_0 rfl (lv_at hl 3 rfl) ?_
  refine lv_if_lt (tgt := 11) hx hb dX16_write7_1 (by decide) (fun c1 => ?_) (fun c1 => ?_)
  · have h := nd_pos h c1
    exact (db_X16_write7_11 C K)  s0 _ _ _ h hP hD hS (lv_sub hl [] rfl)
  · have h := nd_neg h c1
    refine lv_iload_n hx hb dX16_write7_4 rfl (lv_at hl 3 rfl) ?_
    refine lv_sipush (v := 512) hx hb dX16_write7_5 (by decide) ?_
    refine lv_icmp_le (tgt := 14) hx hb dX16_write7_8 (by decide) (fun c2 => ?_) (fun c2 => ?_)
    · have h := nd_pos h c2
      refine lv_aload_n hx hb dX16_write7_14 rfl (lv_at hl 0 rfl) ?_
      refine lv_aload_n hx hb dX16_write7_15 rfl (lv_at hl 0 rfl) ?_
      refine va_get (D := (dC, dI)) (ci := 17) (v := .int (sI s0.1 12)) (C := RX16) (T := TX16) (N := 56) hx hb hts hi_dm_X16_write7_X16 hown hK hP 0 rfl rfl 51 (by decide) (hts (.fieldLink RX16 232 "TimeMachineModel$Machine" "p" "I") (List.mem_of_getElem? (i := 1) rfl)) (fun _ h9 => h9) rfl dX16_write7_16 ?_
      refine lv_iload_n hx hb dX16_write7_19 rfl (lv_at hl 2 rfl) ?_
      refine lv_iload_n hx hb dX16_write7_20 rfl (lv_at hl 3 rfl) ?_
      refine lv_iconst (v := 1) hx hb dX16_write7_21 (by decide) ?_
      obtain ⟨q3, s4, hq, h⟩ := nd_b2_e h
      have hPc := hP
      have hDc := hD
      have hKc := hK
      have hFc := nd_rs hD hS hA
      refine nd_cVi (As := [.int (sI s0.1 12), .int v1, .int v2, .int 1]) (rest := []) (q := q3) (w' := dw_X16 a ac s4) ⟨hx, hb, hml, hown, hts⟩ (fun sz => dm_X16_mayAll l hlt dC dI a ac n ((sI s0.1 12)) (v1) (v2) (1) s0 hq sz) (cwV 4 hts gi_dm_X16_write7_0 rfl rfl rfl (by decide +kernel) ⟨Nat.le_of_ble_eq_true rfl, Nat.le_of_ble_eq_true rfl⟩) hPc hDc hKc hS hA hN (va_recv hKc hPc (ci := 17) (q0 := 0) rfl rfl) rfl hl.1 rfl (Nat.le_of_ble_eq_true rfl) dX16_write7_22 (fun H locs hP1 hD1 hk1 hS => ?_)
      have hP := hP1
      have hD := hD1.weaken (fun k q _ h => hFc q.1 h)
      refine lv_if_ne (tgt := 31) hx hb dX16_write7_25 (by decide) (fun c6 => ?_) (fun c6 => ?_)
      · have h := nd_neg h c6
        refine lv_aload_n hx hb dX16_write7_31 rfl (lv_at hl 0 rfl) ?_
        refine lv_aload_n hx hb dX16_write7_32 rfl (lv_at hl 0 rfl) ?_
        refine va_get (D := (dC, dI)) (ci := 17) (v := .int (sI s4.1 12)) (C := RX16) (T := TX16) (N := 56) hx hb hts hi_dm_X16_write7_X16 hown hK hP 0 rfl rfl 51 (by decide) (hts (.fieldLink RX16 232 "TimeMachineModel$Machine" "p" "I") (List.mem_of_getElem? (i := 1) rfl)) (fun _ h9 => h9) rfl dX16_write7_33 ?_
        refine lv_iload_n hx hb dX16_write7_36 rfl (lv_at hl 1 rfl) ?_
        obtain ⟨q7, s8, hq, h⟩ := nd_b2_e h
        have hPc := hP
        have hDc := hD
        have hKc := hK
        have hFc := nd_rs hD hS hA
        refine nd_cVi (As := [.int (sI s4.1 12), .int v0]) (rest := []) (q := q7) (w' := dw_X16 a ac s8) ⟨hx, hb, hml, hown, hts⟩ (fun sz => dm_X16_openingOf l hlt dC dI a ac n ((sI s4.1 12)) (v0) s4 hq sz) (cwV 2 hts gi_dm_X16_write7_1 rfl rfl rfl (by decide +kernel) ⟨Nat.le_of_ble_eq_true rfl, Nat.le_of_ble_eq_true rfl⟩) hPc hDc hKc hS hA hN (va_recv hKc hPc (ci := 17) (q0 := 0) rfl rfl) rfl hl.1 rfl (Nat.le_of_ble_eq_true rfl) dX16_write7_37 (fun H locs hP1 hD1 hk1 hS => ?_)
        have hP := hP1
        have hD := hD1.weaken (fun k q _ h => hFc q.1 h)
        refine lv_istore (lv' := [(4, .int q7), (0, .ref (a 0)), (1, .int v0), (2, .int v1), (3, .int v2)]) hx hb dX16_write7_40 hl (by decide) rfl (fun ls hl => ?_)
        refine lv_iload hx hb dX16_write7_42 (lv_at hl 0 rfl) ?_
        refine lv_iconst (v := (-1)) hx hb dX16_write7_44 (by decide) ?_
        refine lv_icmp_eq (tgt := 60) hx hb dX16_write7_45 (by decide) (fun c10 => ?_) (fun c10 => ?_)
        · have h := nd_pos h c10
          exact (db_X16_write7_60 C K)  s8 _ _ _ h hP hD hS (lv_sub hl [] rfl)
        · have h := nd_neg h c10
          refine lv_aload_n hx hb dX16_write7_48 rfl (lv_at hl 1 rfl) ?_
          refine va_get (D := (dC, dI)) (ci := 17) (v := .ref (a 24)) (C := RX16) (T := TX16) (N := 56) hx hb hts hi_dm_X16_write7_X16 hown hK hP 0 rfl rfl 33 (by decide) (hts (.fieldLink RX16 82 "TimeMachineModel$Machine" "right" "[I") (List.mem_of_getElem? (i := 9) rfl)) (fun _ h9 => h9) rfl dX16_write7_49 ?_
          refine lv_iload hx hb dX16_write7_52 (lv_at hl 0 rfl) ?_
          obtain ⟨i11, h⟩ := nd_ck_e h
          refine va_iald (i := q7) hx hb hK hP 24 23 rfl rfl i11 dX16_write7_54 ?_
          refine lv_iconst (v := 2) hx hb dX16_write7_55 (by decide) ?_
          refine lv_iand hx hb dX16_write7_56 ?_
          refine lv_if_ne (tgt := 62) hx hb dX16_write7_57 (by decide) (fun c12 => ?_) (fun c12 => ?_)
          · have h := nd_neg h c12
            refine lv_aload_n hx hb dX16_write7_62 rfl (lv_at hl 1 rfl) ?_
            refine va_get (D := (dC, dI)) (ci := 17) (v := .ref (a 22)) (C := RX16) (T := TX16) (N := 56) hx hb hts hi_dm_X16_write7_X16 hown hK hP 0 rfl rfl 31 (by decide) (hts (.fieldLink RX16 76 "TimeMachineModel$Machine" "thing" "[I") (List.mem_of_getElem? (i := 10) rfl)) (fun _ h9 => h9) rfl dX16_write7_63 ?_
            refine lv_iload hx hb dX16_write7_66 (lv_at hl 0 rfl) ?_
            obtain ⟨i13, h⟩ := nd_ck_e h
            refine va_iald (i := q7) hx hb hK hP 22 21 rfl rfl i13 dX16_write7_68 ?_
            refine lv_topi (fun z14 ez14 => ?_)
            have h := nd_at h ez14
            refine lv_istore (lv' := [(5, .int z14), (4, .int q7), (0, .ref (a 0)), (1, .int v0), (2, .int v1), (3, .int v2)]) hx hb dX16_write7_69 hl (by decide) rfl (fun ls hl => ?_)
            refine lv_aload_n hx hb dX16_write7_71 rfl (lv_at hl 2 rfl) ?_
            refine va_get (D := (dC, dI)) (ci := 17) (v := .ref (a 21)) (C := RX16) (T := TX16) (N := 56) hx hb hts hi_dm_X16_write7_X16 hown hK hP 0 rfl rfl 30 (by decide) (hts (.fieldLink RX16 73 "TimeMachineModel$Machine" "kind" "[I") (List.mem_of_getElem? (i := 11) rfl)) (fun _ h9 => h9) rfl dX16_write7_72 ?_
            refine lv_iload hx hb dX16_write7_75 (lv_at hl 1 rfl) ?_
            obtain ⟨i15, h⟩ := nd_ck_e h
            refine va_iald (i := q7) hx hb hK hP 21 20 rfl rfl i15 dX16_write7_77 ?_
            refine lv_iconst (v := 2) hx hb dX16_write7_78 (by decide) ?_
            refine lv_icmp_ne (tgt := 95) hx hb dX16_write7_79 (by decide) (fun c16 => ?_) (fun c16 => ?_)
            · have h := nd_neg h c16
              exact (db_X16_write7_95 C K) (v1) (v2) (q7) (z14) s8 _ _ _ h hP hD hS (lv_sub hl [2, 4, 5, 1, 0] rfl)
            · have h := nd_pos h c16
              refine lv_aload_n hx hb dX16_write7_82 rfl (lv_at hl 2 rfl) ?_
              refine lv_iconst (v := 1) hx hb dX16_write7_83 (by decide) ?_
              refine lv_iload hx hb dX16_write7_84 (lv_at hl 0 rfl) ?_
              obtain ⟨q48, s49, hq, h⟩ := nd_b2_e h
              have hPc := hP
              have hDc := hD
              have hKc := hK
              have hFc := nd_rs hD hS hA
              refine nd_cVi (As := [.int 1, .int z14]) (rest := []) (q := q48) (w' := dw_X16 a ac s49) ⟨hx, hb, hml, hown, hts⟩ (fun sz => dm_X16_ends l hlt dC dI a ac n (1) (z14) s8 hq sz) (cwV 2 hts gi_dm_X16_write7_7 rfl rfl rfl (by decide +kernel) ⟨Nat.le_of_ble_eq_true rfl, Nat.le_of_ble_eq_true rfl⟩) hPc hDc hKc hS hA hN (va_recv hKc hPc (ci := 17) (q0 := 0) rfl rfl) rfl hl.1 rfl (Nat.le_of_ble_eq_true rfl) dX16_write7_86 (fun H locs hP1 hD1 hk1 hS => ?_)
              have hP := hP1
              have hD := hD1.weaken (fun k q _ h => hFc q.1 h)
              refine lv_if_ne (tgt := 95) hx hb dX16_write7_89 (by decide) (fun c51 => ?_) (fun c51 => ?_)
              · have h := nd_neg h c51
                exact (db_X16_write7_95 C K) (v1) (v2) (q7) (z14) s49 _ _ _ h hP hD hS (lv_sub hl [2, 4, 5, 1, 0] rfl)
              · have h := nd_pos h c51
                refine lv_bipush (v := (-5)) hx hb dX16_write7_92 (by decide) ?_
                exact K _ _ _ _ _ _ dX16_write7_94 rfl (Option.some.inj h).symm hP hD hS
          · have h := nd_pos h c12
            exact (db_X16_write7_60 C K)  s8 _ _ _ h hP hD hS (lv_sub hl [] rfl)
      · have h := nd_pos h c6
        refine lv_bipush (v := (-14)) hx hb dX16_write7_28 (by decide) ?_
        exact K _ _ _ _ _ _ dX16_write7_30 rfl (Option.some.inj h).symm hP hD hS
    · have h := nd_neg h c2
      exact (db_X16_write7_11 C K)  s0 _ _ _ h hP hD hS (lv_sub hl [] rfl)
set_option maxHeartbeats 40000000 in
set_option maxRecDepth 100000 in
theorem dm_X16_write7 (l : Launch) (hlt : l.stackTraces = false) (dC : Nat → ClassId) (dI : Nat → Nat → Nat) (a : Nat → Nat) (ac : Nat → ClassId) (n : Nat) (v0 : Int32) (v1 : Int32) (v2 : Int32) (s0 : St × (St)) {r : Int32 × (St × (St))} (h : df_X16_write7 n v0 v1 v2 s0 = some r) (sz : Nat) : Met l yX16_write7 ow_dm_X16_write7 ({ frames := 3, cells := 0, slots := 0, locals := 71 }) (va_Pc [.ref (a 0), .int v0, .int v1, .int v2] (fun U => U.heap.size = sz ∧ va_P (dC, dI) vwCl (dw_X16 a ac s0) U.heap ∧ va_K (dC, dI) vwCl (dk_X16 ac) U ∧ va_D (fun _ => True) (dw_X16 a ac s0) ∧ nv_E (va_A (dw_X16 a ac s0) sz) U)) (va_Qi (fun x _ => x = r.1) (fun (_ : Unit) t => va_P (dC, dI) vwCl (dw_X16 a ac r.2) t.heap ∧ va_K (dC, dI) vwCl (dk_X16 ac) t ∧ va_D (va_A (dw_X16 a ac s0) sz) (dw_X16 a ac r.2)) (va_A (dw_X16 a ac s0) sz)) 0 0 (va_A (dw_X16 a ac s0) sz) := by
  refine Met.ofW (cc := cX16_write7) (maxL := 7) (ret := (some .int)) (by decide) rfl ?_
  intro p e s m args below meth c s₁ B hml hv
  obtain ⟨rfl, hsz, hP, hK, hD0, hN⟩ := hv
  have hx := B.exec
  have hb := B.bytes
  have hr := B.returns
  have hts := atoms_spec (ws := ow_dm_X16_write7) B.pre
  have hown : s.vm.findClass RX16 = some m.cls := findClass_of_methodNamed B.named
  have hlocks := B.notSynchronized
  subst hsz
  have hD := hD0.self (sz := s.heap.size)
  generalize hAe : va_A (dw_X16 a ac s0) s.heap.size = A at hD hN ⊢
  have hA : ∀ q : Nat, s.heap.size ≤ q → A q := fun q h => by rw [← hAe]; exact Or.inr h
  have hl := lv_entry ([.ref (a 0), .int v0, .int v1, .int v2]) (n := 7) (Nat.le_of_ble_eq_true rfl)
  rw [lg_entry_eq]
  generalize (lg_sl ([.ref (a 0), .int v0, .int v1, .int v2]) ++ List.replicate (7 - (lg_sl ([.ref (a 0), .int v0, .int v1, .int v2])).length) Slot.unset).toArray = ls at hl ⊢
  have hl : lv_has ls 7 [(0, .ref (a 0)), (1, .int v0), (2, .int v1), (3, .int v2)] := hl
  exact db_X16_write7_0 (dC := dC) (dI := dI) (a := a) (ac := ac) (n := n) (r := r) ⟨hlt, hx, hb, hml, hown, hts, hN, hA, hK⟩ (fun pc v τ H locs ls d z er hP hD hS => by subst er; exact W.zret (v := v) hx hb hr z (fun t ht hW => ⟨⟨v, (), rfl, rfl, by rw [ht]; exact hP, va_K.moved hW.alike hK, hD⟩, hS.F ht⟩) hS.2.2 d) v0 v1 v2 s0 _ _ _ h hP hD va_S.rf (lv_sub hl [0, 1, 2, 3] rfl)
def ow_dm_X16_close : List Cond := .code yX16_close cX16_close 2 (some .int) :: ([.fieldLink RX16 232 "TimeMachineModel$Machine" "p" "I", .methodLink RX16 491 yX16_openingOf, .instanceMethod yX16_openingOf, .selects RX16 yX16_openingOf yX16_openingOf, .initialized RX16, .fieldLink RX16 57 "TimeMachineModel$Machine" "descriptor" "[I", .methodLink RX16 252 yX16_sweep, .instanceMethod yX16_sweep, .selects RX16 yX16_sweep yX16_sweep] ++ (u_ws RX16 TX16 56 ++ (ow_dm_X16_openingOf ++ (ow_dm_X16_sweep ++ []))))
theorem gd_dm_X16_close : ∀ w ∈ ow_dm_X16_close, (w.onTables && w.keeps) = true ∨ ∃ ty, w = Cond.arrayClass ty := List.forall_mem_cons.mpr ⟨good_of_word rfl, List.forall_mem_append.mpr ⟨fun w h => good_of_word (List.all_eq_true.mp (by decide +kernel) w h), List.forall_mem_append.mpr ⟨gu_X16, List.forall_mem_append.mpr ⟨gd_dm_X16_openingOf, List.forall_mem_append.mpr ⟨gd_dm_X16_sweep, fun _ h => nomatch h⟩⟩⟩⟩⟩
theorem hi_dm_X16_close_X16 : ∀ w ∈ u_ws RX16 TX16 56, w ∈ ow_dm_X16_close := fun w h => List.mem_cons_of_mem _ (List.mem_append_right _ (List.mem_append_left _ h))
theorem gi_dm_X16_close_0 : GoodIn ow_dm_X16_close (wsV RX16 491 RX16 yX16_openingOf ow_dm_X16_openingOf) := goodIn_app (goodIn_of _ (by decide +kernel)) (fun w h => ⟨List.mem_cons_of_mem _ (List.mem_append_right _ (List.mem_append_right _ (List.mem_append_left _ h))), gd_dm_X16_openingOf w h⟩)
theorem gi_dm_X16_close_1 : GoodIn ow_dm_X16_close (wsV RX16 252 RX16 yX16_sweep ow_dm_X16_sweep) := goodIn_app (goodIn_of _ (by decide +kernel)) (fun w h => ⟨List.mem_cons_of_mem _ (List.mem_append_right _ (List.mem_append_right _ (List.mem_append_right _ (List.mem_append_left _ h)))), gd_dm_X16_sweep w h⟩)
def dj_X16_close_0 (p : Program) (l : Launch) (e : Env) (s : State) (m : MethodId) (args : Array Value) (below : List Frame) (meth : Method) (c : Code) (Q : State → Prop) (A : Nat → Prop) (dC : Nat → ClassId) (dI : Nat → Nat → Nat) (a : Nat → Nat) (ac : Nat → ClassId) (g : Int32 → (St × (St)) → Option (Int32 × (St × (St)))) (r : Int32 × (St × (St))) : Prop := ∀ (v0 : Int32) (s0 : St × (St)) (H : Heap) (locs : List Loc) (ls : Array Slot), g v0 s0 = some r → va_P (dC, dI) vwCl (dw_X16 a ac s0) H → va_D A (dw_X16 a ac s0) → va_S A s.heap H locs → lv_has ls 2 [(0, .ref (a 0)), (1, .int v0)] → W p l e (headSpec ow_dm_X16_close ({ frames := 2, cells := 0, slots := 0, locals := 45 })).room s m args below meth c H locs 0 0 Q (F0 m 0 ls [])
set_option maxHeartbeats 40000000 in
set_option maxRecDepth 100000 in
theorem db_X16_close_0 {p : Program} {l : Launch} {e : Env} {s : State} {m : MethodId} {args : Array Value} {below : List Frame} {meth : Method} {c : Code} {Q : State → Prop} {A : Nat → Prop} {dC : Nat → ClassId} {dI : Nat → Nat → Nat} {a : Nat → Nat} {ac : Nat → ClassId} {n : Nat} {r : Int32 × (St × (St))} (C : nd_C p l s m args c A (dC, dI) cX16_close 2 RX16 ow_dm_X16_close (dk_X16 ac)) (K : nd_Ki p l e (headSpec ow_dm_X16_close ({ frames := 2, cells := 0, slots := 0, locals := 45 })).room s m args below meth c Q A (dC, dI) cX16_close .int (St × (St)) (dw_X16 a ac) r) : dj_X16_close_0 p l e s m args below meth c Q A dC dI a ac (df_X16_close_0 n) r := by
  obtain ⟨hlt, hx, hb, hml, hown, hts, hN, hA, hK⟩ := id C
  intro v0 s0 H locs ls h hP hD hS hl
  unfold df_X16_close_0 at h
  refine lv_aload_n hx hb dX16_close_0 rfl (lv_at hl 0 rfl) ?_
  refine lv_aload_n hx hb dX16_close_1 rfl (lv_at hl 0 rfl) ?_
  refine va_get (D := (dC, dI)) (ci := 17) (v := .int (sI s0.1 12)) (C := RX16) (T := TX16) (N := 56) hx hb hts hi_dm_X16_close_X16 hown hK hP 0 rfl rfl 51 (by decide) (hts (.fieldLink RX16 232 "TimeMachineModel$Machine" "p" "I") (List.mem_of_getElem? (i := 1) rfl)) (fun _ h9 => h9) rfl dX16_close_2 ?_
  refine lv_iload_n hx hb dX16_close_5 rfl (lv_at hl 1 rfl) ?_
  obtain ⟨q1, s2, hq, h⟩ := nd_b2_e h
  have hPc := hP
  have hDc := hD
  have hKc := hK
  have hFc := nd_rs hD hS hA
  refine nd_cVi (As := [.int (sI s0.1 12), .int v0]) (rest := []) (q := q1) (w' := dw_X16 a ac s2) ⟨hx, hb, hml, hown, hts⟩ (fun sz => dm_X16_openingOf l hlt dC dI a ac n ((sI s0.1 12)) (v0) s0 hq sz) (cwV 2 hts gi_dm_X16_close_0 rfl rfl rfl (by decide +kernel) ⟨Nat.le_of_ble_eq_true rfl, Nat.le_of_ble_eq_true rfl⟩) hPc hDc hKc hS hA hN (va_recv hKc hPc (ci := 17) (q0 := 0) rfl rfl) rfl hl.1 rfl (Nat.le_of_ble_eq_true rfl) dX16_close_6 (fun H locs hP1 hD1 hk1 hS => ?_)
  have hP := hP1
  have hD := hD1.weaken (fun k q _ h => hFc q.1 h)
  refine lv_iconst (v := (-1)) hx hb dX16_close_9 (by decide) ?_
  refine lv_icmp_ne (tgt := 15) hx hb dX16_close_10 (by decide) (fun c4 => ?_) (fun c4 => ?_)
  · have h := nd_neg h c4
    refine lv_aload_n hx hb dX16_close_15 rfl (lv_at hl 0 rfl) ?_
    refine va_get (D := (dC, dI)) (ci := 17) (v := .ref (a 16)) (C := RX16) (T := TX16) (N := 56) hx hb hts hi_dm_X16_close_X16 hown hK hP 0 rfl rfl 24 (by decide) (hts (.fieldLink RX16 57 "TimeMachineModel$Machine" "descriptor" "[I") (List.mem_of_getElem? (i := 6) rfl)) (fun _ h9 => h9) rfl dX16_close_16 ?_
    refine lv_bipush (v := 16) hx hb dX16_close_19 (by decide) ?_
    refine lv_aload_n hx hb dX16_close_21 rfl (lv_at hl 0 rfl) ?_
    refine va_get (D := (dC, dI)) (ci := 17) (v := .int (sI s2.1 12)) (C := RX16) (T := TX16) (N := 56) hx hb hts hi_dm_X16_close_X16 hown hK hP 0 rfl rfl 51 (by decide) (hts (.fieldLink RX16 232 "TimeMachineModel$Machine" "p" "I") (List.mem_of_getElem? (i := 1) rfl)) (fun _ h9 => h9) rfl dX16_close_22 ?_
    refine lv_imul hx hb dX16_close_25 ?_
    refine lv_iload_n hx hb dX16_close_26 rfl (lv_at hl 1 rfl) ?_
    refine lv_iadd hx hb dX16_close_27 ?_
    refine lv_iconst (v := (-1)) hx hb dX16_close_28 (by decide) ?_
    obtain ⟨i5, h⟩ := nd_ck_e h
    refine va_iast (i := ((16 * (sI s2.1 12)) + v0)) (x := (-1)) hx hb hK hP hD hS 16 15 rfl rfl i5 dX16_close_29 (fun H locs hP hD hS => ?_)
    obtain ⟨s6, es6, h⟩ := nd_let_e h
    have hP : va_P (dC, dI) vwCl (dw_X16 a ac s6) H := by rw [es6]; exact hP
    have hD : va_D A (dw_X16 a ac s6) := by rw [es6]; exact hD
    refine lv_aload_n hx hb dX16_close_30 rfl (lv_at hl 0 rfl) ?_
    obtain ⟨s8, hq, h⟩ := nd_b1_e h
    have hPc := hP
    have hDc := hD
    have hKc := hK
    have hFc := nd_rs hD hS hA
    refine nd_cVv (As := []) (rest := []) (w' := dw_X16 a ac s8) ⟨hx, hb, hml, hown, hts⟩ (fun sz => dm_X16_sweep l hlt dC dI a ac n  s6 hq sz) (cwV 0 hts gi_dm_X16_close_1 rfl rfl rfl (by decide +kernel) ⟨Nat.le_of_ble_eq_true rfl, Nat.le_of_ble_eq_true rfl⟩) hPc hDc hKc hS hA hN (va_recv hKc hPc (ci := 17) (q0 := 0) rfl rfl) rfl hl.1 rfl (Nat.le_of_ble_eq_true rfl) dX16_close_31 (fun H locs hP1 hD1 hk1 hS => ?_)
    have hP := hP1
    have hD := hD1.weaken (fun k q _ h => hFc q.1 h)
    refine lv_iconst (v := 0) hx hb dX16_close_34 (by decide) ?_
    exact K _ _ _ _ _ _ dX16_close_35 rfl (Option.some.inj h).symm hP hD hS
  · have h := nd_pos h c4
    refine lv_iconst (v := (-1)) hx hb dX16_close_13 (by decide) ?_
    exact K _ _ _ _ _ _ dX16_close_14 rfl (Option.some.inj h).symm hP hD hS
set_option maxHeartbeats 40000000 in
set_option maxRecDepth 100000 in
theorem dm_X16_close (l : Launch) (hlt : l.stackTraces = false) (dC : Nat → ClassId) (dI : Nat → Nat → Nat) (a : Nat → Nat) (ac : Nat → ClassId) (n : Nat) (v0 : Int32) (s0 : St × (St)) {r : Int32 × (St × (St))} (h : df_X16_close n v0 s0 = some r) (sz : Nat) : Met l yX16_close ow_dm_X16_close ({ frames := 2, cells := 0, slots := 0, locals := 45 }) (va_Pc [.ref (a 0), .int v0] (fun U => U.heap.size = sz ∧ va_P (dC, dI) vwCl (dw_X16 a ac s0) U.heap ∧ va_K (dC, dI) vwCl (dk_X16 ac) U ∧ va_D (fun _ => True) (dw_X16 a ac s0) ∧ nv_E (va_A (dw_X16 a ac s0) sz) U)) (va_Qi (fun x _ => x = r.1) (fun (_ : Unit) t => va_P (dC, dI) vwCl (dw_X16 a ac r.2) t.heap ∧ va_K (dC, dI) vwCl (dk_X16 ac) t ∧ va_D (va_A (dw_X16 a ac s0) sz) (dw_X16 a ac r.2)) (va_A (dw_X16 a ac s0) sz)) 0 0 (va_A (dw_X16 a ac s0) sz) := by
  refine Met.ofW (cc := cX16_close) (maxL := 2) (ret := (some .int)) (by decide) rfl ?_
  intro p e s m args below meth c s₁ B hml hv
  obtain ⟨rfl, hsz, hP, hK, hD0, hN⟩ := hv
  have hx := B.exec
  have hb := B.bytes
  have hr := B.returns
  have hts := atoms_spec (ws := ow_dm_X16_close) B.pre
  have hown : s.vm.findClass RX16 = some m.cls := findClass_of_methodNamed B.named
  have hlocks := B.notSynchronized
  subst hsz
  have hD := hD0.self (sz := s.heap.size)
  generalize hAe : va_A (dw_X16 a ac s0) s.heap.size = A at hD hN ⊢
  have hA : ∀ q : Nat, s.heap.size ≤ q → A q := fun q h => by rw [← hAe]; exact Or.inr h
  have hl := lv_entry ([.ref (a 0), .int v0]) (n := 2) (Nat.le_of_ble_eq_true rfl)
  rw [lg_entry_eq]
  generalize (lg_sl ([.ref (a 0), .int v0]) ++ List.replicate (2 - (lg_sl ([.ref (a 0), .int v0])).length) Slot.unset).toArray = ls at hl ⊢
  have hl : lv_has ls 2 [(0, .ref (a 0)), (1, .int v0)] := hl
  exact db_X16_close_0 (dC := dC) (dI := dI) (a := a) (ac := ac) (n := n) (r := r) ⟨hlt, hx, hb, hml, hown, hts, hN, hA, hK⟩ (fun pc v τ H locs ls d z er hP hD hS => by subst er; exact W.zret (v := v) hx hb hr z (fun t ht hW => ⟨⟨v, (), rfl, rfl, by rw [ht]; exact hP, va_K.moved hW.alike hK, hD⟩, hS.F ht⟩) hS.2.2 d) v0 s0 _ _ _ h hP hD va_S.rf (lv_sub hl [0, 1] rfl)
def ow_dm_X16_dup : List Cond := .code yX16_dup cX16_dup 4 (some .int) :: ([.fieldLink RX16 232 "TimeMachineModel$Machine" "p" "I", .methodLink RX16 491 yX16_openingOf, .instanceMethod yX16_openingOf, .selects RX16 yX16_openingOf yX16_openingOf, .initialized RX16, .fieldLink RX16 57 "TimeMachineModel$Machine" "descriptor" "[I", .methodLink RX16 252 yX16_sweep, .instanceMethod yX16_sweep, .selects RX16 yX16_sweep yX16_sweep, .methodLink RX16 249 yX16_freeDescriptor, .instanceMethod yX16_freeDescriptor, .selects RX16 yX16_freeDescriptor yX16_freeDescriptor, .methodLink RX16 488 yX16_give, .instanceMethod yX16_give, .selects RX16 yX16_give yX16_give] ++ (u_ws RX16 TX16 56 ++ (ow_dm_X16_openingOf ++ (ow_dm_X16_sweep ++ (ow_dm_X16_freeDescriptor ++ (ow_dm_X16_give ++ []))))))
theorem gd_dm_X16_dup : ∀ w ∈ ow_dm_X16_dup, (w.onTables && w.keeps) = true ∨ ∃ ty, w = Cond.arrayClass ty := List.forall_mem_cons.mpr ⟨good_of_word rfl, List.forall_mem_append.mpr ⟨fun w h => good_of_word (List.all_eq_true.mp (by decide +kernel) w h), List.forall_mem_append.mpr ⟨gu_X16, List.forall_mem_append.mpr ⟨gd_dm_X16_openingOf, List.forall_mem_append.mpr ⟨gd_dm_X16_sweep, List.forall_mem_append.mpr ⟨gd_dm_X16_freeDescriptor, List.forall_mem_append.mpr ⟨gd_dm_X16_give, fun _ h => nomatch h⟩⟩⟩⟩⟩⟩⟩
theorem hi_dm_X16_dup_X16 : ∀ w ∈ u_ws RX16 TX16 56, w ∈ ow_dm_X16_dup := fun w h => List.mem_cons_of_mem _ (List.mem_append_right _ (List.mem_append_left _ h))
theorem gi_dm_X16_dup_0 : GoodIn ow_dm_X16_dup (wsV RX16 491 RX16 yX16_openingOf ow_dm_X16_openingOf) := goodIn_app (goodIn_of _ (by decide +kernel)) (fun w h => ⟨List.mem_cons_of_mem _ (List.mem_append_right _ (List.mem_append_right _ (List.mem_append_left _ h))), gd_dm_X16_openingOf w h⟩)
theorem gi_dm_X16_dup_1 : GoodIn ow_dm_X16_dup (wsV RX16 252 RX16 yX16_sweep ow_dm_X16_sweep) := goodIn_app (goodIn_of _ (by decide +kernel)) (fun w h => ⟨List.mem_cons_of_mem _ (List.mem_append_right _ (List.mem_append_right _ (List.mem_append_right _ (List.mem_append_left _ h)))), gd_dm_X16_sweep w h⟩)
theorem gi_dm_X16_dup_2 : GoodIn ow_dm_X16_dup (wsV RX16 249 RX16 yX16_freeDescriptor ow_dm_X16_freeDescriptor) := goodIn_app (goodIn_of _ (by decide +kernel)) (fun w h => ⟨List.mem_cons_of_mem _ (List.mem_append_right _ (List.mem_append_right _ (List.mem_append_right _ (List.mem_append_right _ (List.mem_append_left _ h))))), gd_dm_X16_freeDescriptor w h⟩)
theorem gi_dm_X16_dup_3 : GoodIn ow_dm_X16_dup (wsV RX16 488 RX16 yX16_give ow_dm_X16_give) := goodIn_app (goodIn_of _ (by decide +kernel)) (fun w h => ⟨List.mem_cons_of_mem _ (List.mem_append_right _ (List.mem_append_right _ (List.mem_append_right _ (List.mem_append_right _ (List.mem_append_right _ (List.mem_append_left _ h)))))), gd_dm_X16_give w h⟩)
def dj_X16_dup_11 (p : Program) (l : Launch) (e : Env) (s : State) (m : MethodId) (args : Array Value) (below : List Frame) (meth : Method) (c : Code) (Q : State → Prop) (A : Nat → Prop) (dC : Nat → ClassId) (dI : Nat → Nat → Nat) (a : Nat → Nat) (ac : Nat → ClassId) (g : (St × (St)) → Option (Int32 × (St × (St)))) (r : Int32 × (St × (St))) : Prop := ∀ (s0 : St × (St)) (H : Heap) (locs : List Loc) (ls : Array Slot), g s0 = some r → va_P (dC, dI) vwCl (dw_X16 a ac s0) H → va_D A (dw_X16 a ac s0) → va_S A s.heap H locs → lv_has ls 4 [] → W p l e (headSpec ow_dm_X16_dup ({ frames := 2, cells := 0, slots := 0, locals := 45 })).room s m args below meth c H locs 0 0 Q (F0 m 11 ls [])
def dj_X16_dup_53 (p : Program) (l : Launch) (e : Env) (s : State) (m : MethodId) (args : Array Value) (below : List Frame) (meth : Method) (c : Code) (Q : State → Prop) (A : Nat → Prop) (dC : Nat → ClassId) (dI : Nat → Nat → Nat) (a : Nat → Nat) (ac : Nat → ClassId) (g : Int32 → (St × (St)) → Option (Int32 × (St × (St)))) (r : Int32 × (St × (St))) : Prop := ∀ (y0 : Int32) (s0 : St × (St)) (H : Heap) (locs : List Loc) (ls : Array Slot), g y0 s0 = some r → va_P (dC, dI) vwCl (dw_X16 a ac s0) H → va_D A (dw_X16 a ac s0) → va_S A s.heap H locs → lv_has ls 4 [] → W p l e (headSpec ow_dm_X16_dup ({ frames := 2, cells := 0, slots := 0, locals := 45 })).room s m args below meth c H locs 0 0 Q (F0 m 53 ls [.int y0])
def dj_X16_dup_0 (p : Program) (l : Launch) (e : Env) (s : State) (m : MethodId) (args : Array Value) (below : List Frame) (meth : Method) (c : Code) (Q : State → Prop) (A : Nat → Prop) (dC : Nat → ClassId) (dI : Nat → Nat → Nat) (a : Nat → Nat) (ac : Nat → ClassId) (g : Int32 → Int32 → (St × (St)) → Option (Int32 × (St × (St)))) (r : Int32 × (St × (St))) : Prop := ∀ (v0 : Int32) (v1 : Int32) (s0 : St × (St)) (H : Heap) (locs : List Loc) (ls : Array Slot), g v0 v1 s0 = some r → va_P (dC, dI) vwCl (dw_X16 a ac s0) H → va_D A (dw_X16 a ac s0) → va_S A s.heap H locs → lv_has ls 4 [(0, .ref (a 0)), (1, .int v0), (2, .int v1)] → W p l e (headSpec ow_dm_X16_dup ({ frames := 2, cells := 0, slots := 0, locals := 45 })).room s m args below meth c H locs 0 0 Q (F0 m 0 ls [])
set_option maxHeartbeats 40000000 in
set_option maxRecDepth 100000 in
theorem db_X16_dup_11 {p : Program} {l : Launch} {e : Env} {s : State} {m : MethodId} {args : Array Value} {below : List Frame} {meth : Method} {c : Code} {Q : State → Prop} {A : Nat → Prop} {dC : Nat → ClassId} {dI : Nat → Nat → Nat} {a : Nat → Nat} {ac : Nat → ClassId} {n : Nat} {r : Int32 × (St × (St))} (C : nd_C p l s m args c A (dC, dI) cX16_dup 4 RX16 ow_dm_X16_dup (dk_X16 ac)) (K : nd_Ki p l e (headSpec ow_dm_X16_dup ({ frames := 2, cells := 0, slots := 0, locals := 45 })).room s m args below meth c Q A (dC, dI) cX16_dup .int (St × (St)) (dw_X16 a ac) r) : dj_X16_dup_11 p l e s m args below meth c Q A dC dI a ac (df_X16_dup_11 n) r := by
  obtain ⟨hlt, hx, hb, hml, hown, hts, hN, hA, hK⟩ := id C
  intro s0 H locs ls h hP hD hS hl
  unfold df_X16_dup_11 at h
  refine lv_bipush (v := (-22)) hx hb dX16_dup_11 (by decide) ?_
  exact K _ _ _ _ _ _ dX16_dup_13 rfl (Option.some.inj h).symm hP hD hS
set_option maxHeartbeats 40000000 in
set_option maxRecDepth 100000 in
theorem db_X16_dup_53 {p : Program} {l : Launch} {e : Env} {s : State} {m : MethodId} {args : Array Value} {below : List Frame} {meth : Method} {c : Code} {Q : State → Prop} {A : Nat → Prop} {dC : Nat → ClassId} {dI : Nat → Nat → Nat} {a : Nat → Nat} {ac : Nat → ClassId} {n : Nat} {r : Int32 × (St × (St))} (C : nd_C p l s m args c A (dC, dI) cX16_dup 4 RX16 ow_dm_X16_dup (dk_X16 ac)) (K : nd_Ki p l e (headSpec ow_dm_X16_dup ({ frames := 2, cells := 0, slots := 0, locals := 45 })).room s m args below meth c Q A (dC, dI) cX16_dup .int (St × (St)) (dw_X16 a ac) r) : dj_X16_dup_53 p l e s m args below meth c Q A dC dI a ac (df_X16_dup_53 n) r := by
  obtain ⟨hlt, hx, hb, hml, hown, hts, hN, hA, hK⟩ := id C
  intro y0 s0 H locs ls h hP hD hS hl
  unfold df_X16_dup_53 at h
  exact K _ _ _ _ _ _ dX16_dup_53 rfl (Option.some.inj h).symm hP hD hS
set_option maxHeartbeats 40000000 in
set_option maxRecDepth 100000 in
theorem db_X16_dup_0 {p : Program} {l : Launch} {e : Env} {s : State} {m : MethodId} {args : Array Value} {below : List Frame} {meth : Method} {c : Code} {Q : State → Prop} {A : Nat → Prop} {dC : Nat → ClassId} {dI : Nat → Nat → Nat} {a : Nat → Nat} {ac : Nat → ClassId} {n : Nat} {r : Int32 × (St × (St))} (C : nd_C p l s m args c A (dC, dI) cX16_dup 4 RX16 ow_dm_X16_dup (dk_X16 ac)) (K : nd_Ki p l e (headSpec ow_dm_X16_dup ({ frames := 2, cells := 0, slots := 0, locals := 45 })).room s m args below meth c Q A (dC, dI) cX16_dup .int (St × (St)) (dw_X16 a ac) r) : dj_X16_dup_0 p l e s m args below meth c Q A dC dI a ac (df_X16_dup_0 n) r := by
  obtain ⟨hlt, hx, hb, hml, hown, hts, hN, hA, hK⟩ := id C
  intro v0 v1 s0 H locs ls h hP hD hS hl
  unfold df_X16_dup_0 at h
  refine lv_iload_n hx hb dX16_dup_0 rfl (lv_at hl 2 rfl) ?_
  refine lv_iconst (v := (-1)) hx hb dX16_dup_1 (by decide) ?_
  refine lv_icmp_lt (tgt := 11) hx hb dX16_dup_2 (by decide) (fun c1 => ?_) (fun c1 => ?_)
  · have h := nd_pos h c1
    exact (db_X16_dup_11 C K)  s0 _ _ _ h hP hD hS (lv_sub hl [] rfl)
  · have h := nd_neg h c1
    refine lv_iload_n hx hb dX16_dup_5 rfl (lv_at hl 2 rfl) ?_
    refine lv_bipush (v := 15) hx hb dX16_dup_6 (by decide) ?_
    refine lv_icmp_le (tgt := 14) hx hb dX16_dup_8 (by decide) (fun c2 => ?_) (fun c2 => ?_)
    · have h := nd_pos h c2
      refine lv_aload_n hx hb dX16_dup_14 rfl (lv_at hl 0 rfl) ?_
      refine lv_aload_n hx hb dX16_dup_15 rfl (lv_at hl 0 rfl) ?_
      refine va_get (D := (dC, dI)) (ci := 17) (v := .int (sI s0.1 12)) (C := RX16) (T := TX16) (N := 56) hx hb hts hi_dm_X16_dup_X16 hown hK hP 0 rfl rfl 51 (by decide) (hts (.fieldLink RX16 232 "TimeMachineModel$Machine" "p" "I") (List.mem_of_getElem? (i := 1) rfl)) (fun _ h9 => h9) rfl dX16_dup_16 ?_
      refine lv_iload_n hx hb dX16_dup_19 rfl (lv_at hl 1 rfl) ?_
      obtain ⟨q3, s4, hq, h⟩ := nd_b2_e h
      have hPc := hP
      have hDc := hD
      have hKc := hK
      have hFc := nd_rs hD hS hA
      refine nd_cVi (As := [.int (sI s0.1 12), .int v0]) (rest := []) (q := q3) (w' := dw_X16 a ac s4) ⟨hx, hb, hml, hown, hts⟩ (fun sz => dm_X16_openingOf l hlt dC dI a ac n ((sI s0.1 12)) (v0) s0 hq sz) (cwV 2 hts gi_dm_X16_dup_0 rfl rfl rfl (by decide +kernel) ⟨Nat.le_of_ble_eq_true rfl, Nat.le_of_ble_eq_true rfl⟩) hPc hDc hKc hS hA hN (va_recv hKc hPc (ci := 17) (q0 := 0) rfl rfl) rfl hl.1 rfl (Nat.le_of_ble_eq_true rfl) dX16_dup_20 (fun H locs hP1 hD1 hk1 hS => ?_)
      have hP := hP1
      have hD := hD1.weaken (fun k q _ h => hFc q.1 h)
      refine lv_istore_n (lv' := [(3, .int q3), (0, .ref (a 0)), (1, .int v0), (2, .int v1)]) hx hb dX16_dup_23 rfl hl (by decide) rfl (fun ls hl => ?_)
      refine lv_iload_n hx hb dX16_dup_24 rfl (lv_at hl 0 rfl) ?_
      refine lv_iconst (v := (-1)) hx hb dX16_dup_25 (by decide) ?_
      refine lv_icmp_ne (tgt := 31) hx hb dX16_dup_26 (by decide) (fun c6 => ?_) (fun c6 => ?_)
      · have h := nd_neg h c6
        refine lv_iload_n hx hb dX16_dup_31 rfl (lv_at hl 3 rfl) ?_
        refine lv_if_ge (tgt := 54) hx hb dX16_dup_32 (by decide) (fun c7 => ?_) (fun c7 => ?_)
        · have h := nd_pos h c7
          refine lv_aload_n hx hb dX16_dup_54 rfl (lv_at hl 1 rfl) ?_
          refine va_get (D := (dC, dI)) (ci := 17) (v := .ref (a 16)) (C := RX16) (T := TX16) (N := 56) hx hb hts hi_dm_X16_dup_X16 hown hK hP 0 rfl rfl 24 (by decide) (hts (.fieldLink RX16 57 "TimeMachineModel$Machine" "descriptor" "[I") (List.mem_of_getElem? (i := 6) rfl)) (fun _ h9 => h9) rfl dX16_dup_55 ?_
          refine lv_bipush (v := 16) hx hb dX16_dup_58 (by decide) ?_
          refine lv_aload_n hx hb dX16_dup_60 rfl (lv_at hl 1 rfl) ?_
          refine va_get (D := (dC, dI)) (ci := 17) (v := .int (sI s4.1 12)) (C := RX16) (T := TX16) (N := 56) hx hb hts hi_dm_X16_dup_X16 hown hK hP 0 rfl rfl 51 (by decide) (hts (.fieldLink RX16 232 "TimeMachineModel$Machine" "p" "I") (List.mem_of_getElem? (i := 1) rfl)) (fun _ h9 => h9) rfl dX16_dup_61 ?_
          refine lv_imul hx hb dX16_dup_64 ?_
          refine lv_iload_n hx hb dX16_dup_65 rfl (lv_at hl 3 rfl) ?_
          refine lv_iadd hx hb dX16_dup_66 ?_
          refine lv_iload_n hx hb dX16_dup_67 rfl (lv_at hl 0 rfl) ?_
          obtain ⟨i8, h⟩ := nd_ck_e h
          refine va_iast (i := ((16 * (sI s4.1 12)) + v1)) (x := q3) hx hb hK hP hD hS 16 15 rfl rfl i8 dX16_dup_68 (fun H locs hP hD hS => ?_)
          obtain ⟨s9, es9, h⟩ := nd_let_e h
          have hP : va_P (dC, dI) vwCl (dw_X16 a ac s9) H := by rw [es9]; exact hP
          have hD : va_D A (dw_X16 a ac s9) := by rw [es9]; exact hD
          refine lv_aload_n hx hb dX16_dup_69 rfl (lv_at hl 1 rfl) ?_
          obtain ⟨s11, hq, h⟩ := nd_b1_e h
          have hPc := hP
          have hDc := hD
          have hKc := hK
          have hFc := nd_rs hD hS hA
          refine nd_cVv (As := []) (rest := []) (w' := dw_X16 a ac s11) ⟨hx, hb, hml, hown, hts⟩ (fun sz => dm_X16_sweep l hlt dC dI a ac n  s9 hq sz) (cwV 0 hts gi_dm_X16_dup_1 rfl rfl rfl (by decide +kernel) ⟨Nat.le_of_ble_eq_true rfl, Nat.le_of_ble_eq_true rfl⟩) hPc hDc hKc hS hA hN (va_recv hKc hPc (ci := 17) (q0 := 0) rfl rfl) rfl hl.1 rfl (Nat.le_of_ble_eq_true rfl) dX16_dup_70 (fun H locs hP1 hD1 hk1 hS => ?_)
          have hP := hP1
          have hD := hD1.weaken (fun k q _ h => hFc q.1 h)
          refine lv_iload_n hx hb dX16_dup_73 rfl (lv_at hl 3 rfl) ?_
          exact K _ _ _ _ _ _ dX16_dup_74 rfl (Option.some.inj h).symm hP hD hS
        · have h := nd_neg h c7
          refine lv_aload_n hx hb dX16_dup_35 rfl (lv_at hl 1 rfl) ?_
          obtain ⟨q13, s14, hq, h⟩ := nd_b2_e h
          have hPc := hP
          have hDc := hD
          have hKc := hK
          have hFc := nd_rs hD hS hA
          refine nd_cVi (As := []) (rest := []) (q := q13) (w' := dw_X16 a ac s14) ⟨hx, hb, hml, hown, hts⟩ (fun sz => dm_X16_freeDescriptor l hlt dC dI a ac n  s4 hq sz) (cwV 0 hts gi_dm_X16_dup_2 rfl rfl rfl (by decide +kernel) ⟨Nat.le_of_ble_eq_true rfl, Nat.le_of_ble_eq_true rfl⟩) hPc hDc hKc hS hA hN (va_recv hKc hPc (ci := 17) (q0 := 0) rfl rfl) rfl hl.1 rfl (Nat.le_of_ble_eq_true rfl) dX16_dup_36 (fun H locs hP1 hD1 hk1 hS => ?_)
          have hP := hP1
          have hD := hD1.weaken (fun k q _ h => hFc q.1 h)
          refine lv_iconst (v := (-1)) hx hb dX16_dup_39 (by decide) ?_
          refine lv_icmp_ne (tgt := 48) hx hb dX16_dup_40 (by decide) (fun c16 => ?_) (fun c16 => ?_)
          · have h := nd_neg h c16
            refine lv_aload_n hx hb dX16_dup_48 rfl (lv_at hl 1 rfl) ?_
            refine lv_iload_n hx hb dX16_dup_49 rfl (lv_at hl 0 rfl) ?_
            obtain ⟨q17, s18, hq, h⟩ := nd_b2_e h
            have hPc := hP
            have hDc := hD
            have hKc := hK
            have hFc := nd_rs hD hS hA
            refine nd_cVi (As := [.int q3]) (rest := []) (q := q17) (w' := dw_X16 a ac s18) ⟨hx, hb, hml, hown, hts⟩ (fun sz => dm_X16_give l hlt dC dI a ac n (q3) s14 hq sz) (cwV 1 hts gi_dm_X16_dup_3 rfl rfl rfl (by decide +kernel) ⟨Nat.le_of_ble_eq_true rfl, Nat.le_of_ble_eq_true rfl⟩) hPc hDc hKc hS hA hN (va_recv hKc hPc (ci := 17) (q0 := 0) rfl rfl) rfl hl.1 rfl (Nat.le_of_ble_eq_true rfl) dX16_dup_50 (fun H locs hP1 hD1 hk1 hS => ?_)
            have hP := hP1
            have hD := hD1.weaken (fun k q _ h => hFc q.1 h)
            exact (db_X16_dup_53 C K) (q17) s18 _ _ _ h hP hD hS (lv_sub hl [] rfl)
          · have h := nd_pos h c16
            refine lv_bipush (v := (-4)) hx hb dX16_dup_43 (by decide) ?_
            refine lv_goto (tgt := 53) hx hb dX16_dup_45 (by decide) ?_
            exact (db_X16_dup_53 C K) ((-4)) s14 _ _ _ h hP hD hS (lv_sub hl [] rfl)
      · have h := nd_pos h c6
        refine lv_iconst (v := (-1)) hx hb dX16_dup_29 (by decide) ?_
        exact K _ _ _ _ _ _ dX16_dup_30 rfl (Option.some.inj h).symm hP hD hS
    · have h := nd_neg h c2
      exact (db_X16_dup_11 C K)  s0 _ _ _ h hP hD hS (lv_sub hl [] rfl)
set_option maxHeartbeats 40000000 in
set_option maxRecDepth 100000 in
theorem dm_X16_dup (l : Launch) (hlt : l.stackTraces = false) (dC : Nat → ClassId) (dI : Nat → Nat → Nat) (a : Nat → Nat) (ac : Nat → ClassId) (n : Nat) (v0 : Int32) (v1 : Int32) (s0 : St × (St)) {r : Int32 × (St × (St))} (h : df_X16_dup n v0 v1 s0 = some r) (sz : Nat) : Met l yX16_dup ow_dm_X16_dup ({ frames := 2, cells := 0, slots := 0, locals := 45 }) (va_Pc [.ref (a 0), .int v0, .int v1] (fun U => U.heap.size = sz ∧ va_P (dC, dI) vwCl (dw_X16 a ac s0) U.heap ∧ va_K (dC, dI) vwCl (dk_X16 ac) U ∧ va_D (fun _ => True) (dw_X16 a ac s0) ∧ nv_E (va_A (dw_X16 a ac s0) sz) U)) (va_Qi (fun x _ => x = r.1) (fun (_ : Unit) t => va_P (dC, dI) vwCl (dw_X16 a ac r.2) t.heap ∧ va_K (dC, dI) vwCl (dk_X16 ac) t ∧ va_D (va_A (dw_X16 a ac s0) sz) (dw_X16 a ac r.2)) (va_A (dw_X16 a ac s0) sz)) 0 0 (va_A (dw_X16 a ac s0) sz) := by
  refine Met.ofW (cc := cX16_dup) (maxL := 4) (ret := (some .int)) (by decide) rfl ?_
  intro p e s m args below meth c s₁ B hml hv
  obtain ⟨rfl, hsz, hP, hK, hD0, hN⟩ := hv
  have hx := B.exec
  have hb := B.bytes
  have hr := B.returns
  have hts := atoms_spec (ws := ow_dm_X16_dup) B.pre
  have hown : s.vm.findClass RX16 = some m.cls := findClass_of_methodNamed B.named
  have hlocks := B.notSynchronized
  subst hsz
  have hD := hD0.self (sz := s.heap.size)
  generalize hAe : va_A (dw_X16 a ac s0) s.heap.size = A at hD hN ⊢
  have hA : ∀ q : Nat, s.heap.size ≤ q → A q := fun q h => by rw [← hAe]; exact Or.inr h
  have hl := lv_entry ([.ref (a 0), .int v0, .int v1]) (n := 4) (Nat.le_of_ble_eq_true rfl)
  rw [lg_entry_eq]
  generalize (lg_sl ([.ref (a 0), .int v0, .int v1]) ++ List.replicate (4 - (lg_sl ([.ref (a 0), .int v0, .int v1])).length) Slot.unset).toArray = ls at hl ⊢
  have hl : lv_has ls 4 [(0, .ref (a 0)), (1, .int v0), (2, .int v1)] := hl
  exact db_X16_dup_0 (dC := dC) (dI := dI) (a := a) (ac := ac) (n := n) (r := r) ⟨hlt, hx, hb, hml, hown, hts, hN, hA, hK⟩ (fun pc v τ H locs ls d z er hP hD hS => by subst er; exact W.zret (v := v) hx hb hr z (fun t ht hW => ⟨⟨v, (), rfl, rfl, by rw [ht]; exact hP, va_K.moved hW.alike hK, hD⟩, hS.F ht⟩) hS.2.2 d) v0 v1 s0 _ _ _ h hP hD va_S.rf (lv_sub hl [0, 1, 2] rfl)
def ow_dm_X16_nameAt : List Cond := .code yX16_nameAt cX16_nameAt 6 (some .int) :: ([.fieldLink RX16 232 "TimeMachineModel$Machine" "p" "I", .methodLink RX16 218 yX16_may, .instanceMethod yX16_may, .selects RX16 yX16_may yX16_may, .initialized RX16, .methodLink RX16 235 yX16_byteAt, .instanceMethod yX16_byteAt, .selects RX16 yX16_byteAt yX16_byteAt, .fieldLink RX16 115 "TimeMachineModel$Machine" "name" "[I"] ++ (u_ws RX16 TX16 56 ++ (ow_dm_X16_may ++ (ow_dm_X16_byteAt ++ []))))
theorem gd_dm_X16_nameAt : ∀ w ∈ ow_dm_X16_nameAt, (w.onTables && w.keeps) = true ∨ ∃ ty, w = Cond.arrayClass ty := List.forall_mem_cons.mpr ⟨good_of_word rfl, List.forall_mem_append.mpr ⟨fun w h => good_of_word (List.all_eq_true.mp (by decide +kernel) w h), List.forall_mem_append.mpr ⟨gu_X16, List.forall_mem_append.mpr ⟨gd_dm_X16_may, List.forall_mem_append.mpr ⟨gd_dm_X16_byteAt, fun _ h => nomatch h⟩⟩⟩⟩⟩
theorem hi_dm_X16_nameAt_X16 : ∀ w ∈ u_ws RX16 TX16 56, w ∈ ow_dm_X16_nameAt := fun w h => List.mem_cons_of_mem _ (List.mem_append_right _ (List.mem_append_left _ h))
theorem gi_dm_X16_nameAt_0 : GoodIn ow_dm_X16_nameAt (wsV RX16 218 RX16 yX16_may ow_dm_X16_may) := goodIn_app (goodIn_of _ (by decide +kernel)) (fun w h => ⟨List.mem_cons_of_mem _ (List.mem_append_right _ (List.mem_append_right _ (List.mem_append_left _ h))), gd_dm_X16_may w h⟩)
theorem gi_dm_X16_nameAt_1 : GoodIn ow_dm_X16_nameAt (wsV RX16 235 RX16 yX16_byteAt ow_dm_X16_byteAt) := goodIn_app (goodIn_of _ (by decide +kernel)) (fun w h => ⟨List.mem_cons_of_mem _ (List.mem_append_right _ (List.mem_append_right _ (List.mem_append_right _ (List.mem_append_left _ h)))), gd_dm_X16_byteAt w h⟩)
def dj_X16_nameAt_107 (p : Program) (l : Launch) (e : Env) (s : State) (m : MethodId) (args : Array Value) (below : List Frame) (meth : Method) (c : Code) (Q : State → Prop) (A : Nat → Prop) (dC : Nat → ClassId) (dI : Nat → Nat → Nat) (a : Nat → Nat) (ac : Nat → ClassId) (g : Int32 → Int32 → Int32 → Int32 → Int32 → (St × (St)) → Option (Int32 × (St × (St)))) (r : Int32 × (St × (St))) : Prop := ∀ (x1 : Int32) (x2 : Int32) (x4 : Int32) (x5 : Int32) (y0 : Int32) (s0 : St × (St)) (H : Heap) (locs : List Loc) (ls : Array Slot), g x1 x2 x4 x5 y0 s0 = some r → va_P (dC, dI) vwCl (dw_X16 a ac s0) H → va_D A (dw_X16 a ac s0) → va_S A s.heap H locs → lv_has ls 6 [(0, .ref (a 0)), (1, .int x1), (2, .int x2), (4, .int x4), (5, .int x5)] → W p l e (headSpec ow_dm_X16_nameAt ({ frames := 2, cells := 0, slots := 0, locals := 45 })).room s m args below meth c H locs 0 0 Q (F0 m 107 ls [.int y0])
def dj_X16_nameAt_106 (p : Program) (l : Launch) (e : Env) (s : State) (m : MethodId) (args : Array Value) (below : List Frame) (meth : Method) (c : Code) (Q : State → Prop) (A : Nat → Prop) (dC : Nat → ClassId) (dI : Nat → Nat → Nat) (a : Nat → Nat) (ac : Nat → ClassId) (g : Int32 → Int32 → Int32 → Int32 → (St × (St)) → Option (Int32 × (St × (St)))) (r : Int32 × (St × (St))) : Prop := ∀ (x1 : Int32) (x2 : Int32) (x4 : Int32) (x5 : Int32) (s0 : St × (St)) (H : Heap) (locs : List Loc) (ls : Array Slot), g x1 x2 x4 x5 s0 = some r → va_P (dC, dI) vwCl (dw_X16 a ac s0) H → va_D A (dw_X16 a ac s0) → va_S A s.heap H locs → lv_has ls 6 [(0, .ref (a 0)), (1, .int x1), (2, .int x2), (4, .int x4), (5, .int x5)] → W p l e (headSpec ow_dm_X16_nameAt ({ frames := 2, cells := 0, slots := 0, locals := 45 })).room s m args below meth c H locs 0 0 Q (F0 m 106 ls [])
def dj_X16_nameAt_83 (p : Program) (l : Launch) (e : Env) (s : State) (m : MethodId) (args : Array Value) (below : List Frame) (meth : Method) (c : Code) (Q : State → Prop) (A : Nat → Prop) (dC : Nat → ClassId) (dI : Nat → Nat → Nat) (a : Nat → Nat) (ac : Nat → ClassId) (g : Int32 → (St × (St)) → Option (Int32 × (St × (St)))) (r : Int32 × (St × (St))) : Prop := ∀ (y0 : Int32) (s0 : St × (St)) (H : Heap) (locs : List Loc) (ls : Array Slot), g y0 s0 = some r → va_P (dC, dI) vwCl (dw_X16 a ac s0) H → va_D A (dw_X16 a ac s0) → va_S A s.heap H locs → lv_has ls 6 [] → W p l e (headSpec ow_dm_X16_nameAt ({ frames := 2, cells := 0, slots := 0, locals := 45 })).room s m args below meth c H locs 0 0 Q (F0 m 83 ls [.int y0])
def dj_X16_nameAt_81 (p : Program) (l : Launch) (e : Env) (s : State) (m : MethodId) (args : Array Value) (below : List Frame) (meth : Method) (c : Code) (Q : State → Prop) (A : Nat → Prop) (dC : Nat → ClassId) (dI : Nat → Nat → Nat) (a : Nat → Nat) (ac : Nat → ClassId) (g : (St × (St)) → Option (Int32 × (St × (St)))) (r : Int32 × (St × (St))) : Prop := ∀ (s0 : St × (St)) (H : Heap) (locs : List Loc) (ls : Array Slot), g s0 = some r → va_P (dC, dI) vwCl (dw_X16 a ac s0) H → va_D A (dw_X16 a ac s0) → va_S A s.heap H locs → lv_has ls 6 [] → W p l e (headSpec ow_dm_X16_nameAt ({ frames := 2, cells := 0, slots := 0, locals := 45 })).room s m args below meth c H locs 0 0 Q (F0 m 81 ls [])
def dj_X16_nameAt_28 (p : Program) (l : Launch) (e : Env) (s : State) (m : MethodId) (args : Array Value) (below : List Frame) (meth : Method) (c : Code) (Q : State → Prop) (A : Nat → Prop) (dC : Nat → ClassId) (dI : Nat → Nat → Nat) (a : Nat → Nat) (ac : Nat → ClassId) (g : Int32 → Int32 → Int32 → Int32 → (St × (St)) → Option (Int32 × (St × (St)))) (r : Int32 × (St × (St))) : Prop := ∀ (x1 : Int32) (x2 : Int32) (x3 : Int32) (x4 : Int32) (s0 : St × (St)) (H : Heap) (locs : List Loc) (ls : Array Slot), g x1 x2 x3 x4 s0 = some r → va_P (dC, dI) vwCl (dw_X16 a ac s0) H → va_D A (dw_X16 a ac s0) → va_S A s.heap H locs → lv_has ls 6 [(0, .ref (a 0)), (1, .int x1), (2, .int x2), (3, .int x3), (4, .int x4)] → W p l e (headSpec ow_dm_X16_nameAt ({ frames := 2, cells := 0, slots := 0, locals := 45 })).room s m args below meth c H locs 0 0 Q (F0 m 28 ls [])
def dj_X16_nameAt_2 (p : Program) (l : Launch) (e : Env) (s : State) (m : MethodId) (args : Array Value) (below : List Frame) (meth : Method) (c : Code) (Q : State → Prop) (A : Nat → Prop) (dC : Nat → ClassId) (dI : Nat → Nat → Nat) (a : Nat → Nat) (ac : Nat → ClassId) (g : Int32 → Int32 → (St × (St)) → Option (Int32 × (St × (St)))) (r : Int32 × (St × (St))) : Prop := ∀ (x1 : Int32) (x2 : Int32) (s0 : St × (St)) (H : Heap) (locs : List Loc) (ls : Array Slot), g x1 x2 s0 = some r → va_P (dC, dI) vwCl (dw_X16 a ac s0) H → va_D A (dw_X16 a ac s0) → va_S A s.heap H locs → lv_has ls 6 [(0, .ref (a 0)), (1, .int x1), (2, .int x2)] → W p l e (headSpec ow_dm_X16_nameAt ({ frames := 2, cells := 0, slots := 0, locals := 45 })).room s m args below meth c H locs 0 0 Q (F0 m 2 ls [])
def dj_X16_nameAt_0 (p : Program) (l : Launch) (e : Env) (s : State) (m : MethodId) (args : Array Value) (below : List Frame) (meth : Method) (c : Code) (Q : State → Prop) (A : Nat → Prop) (dC : Nat → ClassId) (dI : Nat → Nat → Nat) (a : Nat → Nat) (ac : Nat → ClassId) (g : Int32 → (St × (St)) → Option (Int32 × (St × (St)))) (r : Int32 × (St × (St))) : Prop := ∀ (v0 : Int32) (s0 : St × (St)) (H : Heap) (locs : List Loc) (ls : Array Slot), g v0 s0 = some r → va_P (dC, dI) vwCl (dw_X16 a ac s0) H → va_D A (dw_X16 a ac s0) → va_S A s.heap H locs → lv_has ls 6 [(0, .ref (a 0)), (1, .int v0)] → W p l e (headSpec ow_dm_X16_nameAt ({ frames := 2, cells := 0, slots := 0, locals := 45 })).room s m args below meth c H locs 0 0 Q (F0 m 0 ls [])
set_option maxHeartbeats 40000000 in
set_option maxRecDepth 100000 in
theorem db_X16_nameAt_107 {p : Program} {l : Launch} {e : Env} {s : State} {m : MethodId} {args : Array Value} {below : List Frame} {meth : Method} {c : Code} {Q : State → Prop} {A : Nat → Prop} {dC : Nat → ClassId} {dI : Nat → Nat → Nat} {a : Nat → Nat} {ac : Nat → ClassId} {n : Nat} {r : Int32 × (St × (St))} (C : nd_C p l s m args c A (dC, dI) cX16_nameAt 6 RX16 ow_dm_X16_nameAt (dk_X16 ac)) (K : nd_Ki p l e (headSpec ow_dm_X16_nameAt ({ frames := 2, cells := 0, slots := 0, locals := 45 })).room s m args below meth c Q A (dC, dI) cX16_nameAt .int (St × (St)) (dw_X16 a ac) r) {g28 : Int32 → Int32 → Int32 → Int32 → (St × (St)) → Option (Int32 × (St × (St)))} (J28 : dj_X16_nameAt_28 p l e s m args below meth c Q A dC dI a ac g28 r) : dj_X16_nameAt_107 p l e s m args below meth c Q A dC dI a ac (df_X16_nameAt_107 n g28) r := by
  obtain ⟨hlt, hx, hb, hml, hown, hts, hN, hA, hK⟩ := id C
  intro x1 x2 x4 x5 y0 s0 H locs ls h hP hD hS hl
  unfold df_X16_nameAt_107 at h
  refine lv_istore_n (lv' := [(3, .int y0), (0, .ref (a 0)), (1, .int x1), (2, .int x2), (4, .int x4), (5, .int x5)]) hx hb dX16_nameAt_107 rfl hl (by decide) rfl (fun ls hl => ?_)
  refine lv_aload_n hx hb dX16_nameAt_108 rfl (lv_at hl 1 rfl) ?_
  refine va_get (D := (dC, dI)) (ci := 17) (v := .ref (a 35)) (C := RX16) (T := TX16) (N := 56) hx hb hts hi_dm_X16_nameAt_X16 hown hK hP 0 rfl rfl 46 (by decide) (hts (.fieldLink RX16 115 "TimeMachineModel$Machine" "name" "[I") (List.mem_of_getElem? (i := 9) rfl)) (fun _ h9 => h9) rfl dX16_nameAt_109 ?_
  refine lv_iload hx hb dX16_nameAt_112 (lv_at hl 4 rfl) ?_
  refine lv_iload hx hb dX16_nameAt_114 (lv_at hl 5 rfl) ?_
  obtain ⟨i12, h⟩ := nd_ck_e h
  refine va_iast (i := x4) (x := x5) hx hb hK hP hD hS 35 34 rfl rfl i12 dX16_nameAt_116 (fun H locs hP hD hS => ?_)
  obtain ⟨s13, es13, h⟩ := nd_let_e h
  have hP : va_P (dC, dI) vwCl (dw_X16 a ac s13) H := by rw [es13]; exact hP
  have hD : va_D A (dw_X16 a ac s13) := by rw [es13]; exact hD
  obtain ⟨z14, ez14, h⟩ := nd_let_e h
  refine lv_iinc (v := z14) (lv' := [(2, .int z14), (3, .int y0), (0, .ref (a 0)), (1, .int x1), (4, .int x4), (5, .int x5)]) hx hb dX16_nameAt_117 hl (k := 3) rfl (by rw [ez14]) (by decide) rfl (fun ls hl => ?_)
  obtain ⟨z15, ez15, h⟩ := nd_let_e h
  refine lv_iinc (v := z15) (lv' := [(4, .int z15), (2, .int z14), (3, .int y0), (0, .ref (a 0)), (1, .int x1), (5, .int x5)]) hx hb dX16_nameAt_120 hl (k := 4) rfl (by rw [ez15]) (by decide) rfl (fun ls hl => ?_)
  refine lv_goto (tgt := 28) hx hb dX16_nameAt_123 (by decide) ?_
  exact (J28) (x1) (z14) (y0) (z15) s13 _ _ _ h hP hD hS (lv_sub hl [3, 4, 1, 2, 0] rfl)
set_option maxHeartbeats 40000000 in
set_option maxRecDepth 100000 in
theorem db_X16_nameAt_106 {p : Program} {l : Launch} {e : Env} {s : State} {m : MethodId} {args : Array Value} {below : List Frame} {meth : Method} {c : Code} {Q : State → Prop} {A : Nat → Prop} {dC : Nat → ClassId} {dI : Nat → Nat → Nat} {a : Nat → Nat} {ac : Nat → ClassId} {n : Nat} {r : Int32 × (St × (St))} (C : nd_C p l s m args c A (dC, dI) cX16_nameAt 6 RX16 ow_dm_X16_nameAt (dk_X16 ac)) (K : nd_Ki p l e (headSpec ow_dm_X16_nameAt ({ frames := 2, cells := 0, slots := 0, locals := 45 })).room s m args below meth c Q A (dC, dI) cX16_nameAt .int (St × (St)) (dw_X16 a ac) r) {g28 : Int32 → Int32 → Int32 → Int32 → (St × (St)) → Option (Int32 × (St × (St)))} (J28 : dj_X16_nameAt_28 p l e s m args below meth c Q A dC dI a ac g28 r) : dj_X16_nameAt_106 p l e s m args below meth c Q A dC dI a ac (df_X16_nameAt_106 n g28) r := by
  obtain ⟨hlt, hx, hb, hml, hown, hts, hN, hA, hK⟩ := id C
  intro x1 x2 x4 x5 s0 H locs ls h hP hD hS hl
  unfold df_X16_nameAt_106 at h
  refine lv_iconst (v := 0) hx hb dX16_nameAt_106 (by decide) ?_
  exact (db_X16_nameAt_107 C K J28) (x1) (x2) (x4) (x5) (0) s0 _ _ _ h hP hD hS (lv_sub hl [0, 1, 2, 3, 4] rfl)
set_option maxHeartbeats 40000000 in
set_option maxRecDepth 100000 in
theorem db_X16_nameAt_83 {p : Program} {l : Launch} {e : Env} {s : State} {m : MethodId} {args : Array Value} {below : List Frame} {meth : Method} {c : Code} {Q : State → Prop} {A : Nat → Prop} {dC : Nat → ClassId} {dI : Nat → Nat → Nat} {a : Nat → Nat} {ac : Nat → ClassId} {n : Nat} {r : Int32 × (St × (St))} (C : nd_C p l s m args c A (dC, dI) cX16_nameAt 6 RX16 ow_dm_X16_nameAt (dk_X16 ac)) (K : nd_Ki p l e (headSpec ow_dm_X16_nameAt ({ frames := 2, cells := 0, slots := 0, locals := 45 })).room s m args below meth c Q A (dC, dI) cX16_nameAt .int (St × (St)) (dw_X16 a ac) r) : dj_X16_nameAt_83 p l e s m args below meth c Q A dC dI a ac (df_X16_nameAt_83 n) r := by
  obtain ⟨hlt, hx, hb, hml, hown, hts, hN, hA, hK⟩ := id C
  intro y0 s0 H locs ls h hP hD hS hl
  unfold df_X16_nameAt_83 at h
  exact K _ _ _ _ _ _ dX16_nameAt_83 rfl (Option.some.inj h).symm hP hD hS
set_option maxHeartbeats 40000000 in
set_option maxRecDepth 100000 in
theorem db_X16_nameAt_81 {p : Program} {l : Launch} {e : Env} {s : State} {m : MethodId} {args : Array Value} {below : List Frame} {meth : Method} {c : Code} {Q : State → Prop} {A : Nat → Prop} {dC : Nat → ClassId} {dI : Nat → Nat → Nat} {a : Nat → Nat} {ac : Nat → ClassId} {n : Nat} {r : Int32 × (St × (St))} (C : nd_C p l s m args c A (dC, dI) cX16_nameAt 6 RX16 ow_dm_X16_nameAt (dk_X16 ac)) (K : nd_Ki p l e (headSpec ow_dm_X16_nameAt ({ frames := 2, cells := 0, slots := 0, locals := 45 })).room s m args below meth c Q A (dC, dI) cX16_nameAt .int (St × (St)) (dw_X16 a ac) r) : dj_X16_nameAt_81 p l e s m args below meth c Q A dC dI a ac (df_X16_nameAt_81 n) r := by
  obtain ⟨hlt, hx, hb, hml, hown, hts, hN, hA, hK⟩ := id C
  intro s0 H locs ls h hP hD hS hl
  unfold df_X16_nameAt_81 at h
  refine lv_bipush (v := (-22)) hx hb dX16_nameAt_81 (by decide) ?_
  exact (db_X16_nameAt_83 C K) ((-22)) s0 _ _ _ h hP hD hS (lv_sub hl [] rfl)
set_option maxHeartbeats 40000000 in
set_option maxRecDepth 100000 in
theorem dB_X16_nameAt_28 {p : Program} {l : Launch} {e : Env} {s : State} {m : MethodId} {args : Array Value} {below : List Frame} {meth : Method} {c : Code} {Q : State → Prop} {A : Nat → Prop} {dC : Nat → ClassId} {dI : Nat → Nat → Nat} {a : Nat → Nat} {ac : Nat → ClassId} {n : Nat} {r : Int32 × (St × (St))} (C : nd_C p l s m args c A (dC, dI) cX16_nameAt 6 RX16 ow_dm_X16_nameAt (dk_X16 ac)) (K : nd_Ki p l e (headSpec ow_dm_X16_nameAt ({ frames := 2, cells := 0, slots := 0, locals := 45 })).room s m args below meth c Q A (dC, dI) cX16_nameAt .int (St × (St)) (dw_X16 a ac) r) {g28 : Int32 → Int32 → Int32 → Int32 → (St × (St)) → Option (Int32 × (St × (St)))} (J28 : dj_X16_nameAt_28 p l e s m args below meth c Q A dC dI a ac g28 r) : dj_X16_nameAt_28 p l e s m args below meth c Q A dC dI a ac (dF_X16_nameAt_28 n g28) r := by
  obtain ⟨hlt, hx, hb, hml, hown, hts, hN, hA, hK⟩ := id C
  intro x1 x2 x3 x4 s0 H locs ls h hP hD hS hl
  unfold dF_X16_nameAt_28 at h
  refine lv_iload hx hb dX16_nameAt_28 (lv_at hl 4 rfl) ?_
  refine lv_bipush (v := 16) hx hb dX16_nameAt_30 (by decide) ?_
  refine lv_icmp_ge (tgt := 126) hx hb dX16_nameAt_32 (by decide) (fun c2 => ?_) (fun c2 => ?_)
  · have h := nd_pos h c2
    refine lv_bipush (v := (-22)) hx hb dX16_nameAt_126 (by decide) ?_
    exact K _ _ _ _ _ _ dX16_nameAt_128 rfl (Option.some.inj h).symm hP hD hS
  · have h := nd_neg h c2
    refine lv_aload_n hx hb dX16_nameAt_35 rfl (lv_at hl 0 rfl) ?_
    refine lv_aload_n hx hb dX16_nameAt_36 rfl (lv_at hl 0 rfl) ?_
    refine va_get (D := (dC, dI)) (ci := 17) (v := .int (sI s0.1 12)) (C := RX16) (T := TX16) (N := 56) hx hb hts hi_dm_X16_nameAt_X16 hown hK hP 0 rfl rfl 51 (by decide) (hts (.fieldLink RX16 232 "TimeMachineModel$Machine" "p" "I") (List.mem_of_getElem? (i := 1) rfl)) (fun _ h9 => h9) rfl dX16_nameAt_37 ?_
    refine lv_iload_n hx hb dX16_nameAt_40 rfl (lv_at hl 1 rfl) ?_
    refine lv_iload hx hb dX16_nameAt_41 (lv_at hl 4 rfl) ?_
    refine lv_iadd hx hb dX16_nameAt_43 ?_
    refine lv_iconst (v := 1) hx hb dX16_nameAt_44 (by decide) ?_
    obtain ⟨q3, s4, hq, h⟩ := nd_b2_e h
    have hPc := hP
    have hDc := hD
    have hKc := hK
    have hFc := nd_rs hD hS hA
    refine nd_cVi (As := [.int (sI s0.1 12), .int (x1 + x4), .int 1]) (rest := []) (q := q3) (w' := dw_X16 a ac s4) ⟨hx, hb, hml, hown, hts⟩ (fun sz => dm_X16_may l hlt dC dI a ac n ((sI s0.1 12)) ((x1 + x4)) (1) s0 hq sz) (cwV 3 hts gi_dm_X16_nameAt_0 rfl rfl rfl (by decide +kernel) ⟨Nat.le_of_ble_eq_true rfl, Nat.le_of_ble_eq_true rfl⟩) hPc hDc hKc hS hA hN (va_recv hKc hPc (ci := 17) (q0 := 0) rfl rfl) rfl hl.1 rfl (Nat.le_of_ble_eq_true rfl) dX16_nameAt_45 (fun H locs hP1 hD1 hk1 hS => ?_)
    have hP := hP1
    have hD := hD1.weaken (fun k q _ h => hFc q.1 h)
    refine lv_if_ne (tgt := 54) hx hb dX16_nameAt_48 (by decide) (fun c6 => ?_) (fun c6 => ?_)
    · have h := nd_neg h c6
      refine lv_aload_n hx hb dX16_nameAt_54 rfl (lv_at hl 0 rfl) ?_
      refine lv_iload_n hx hb dX16_nameAt_55 rfl (lv_at hl 1 rfl) ?_
      refine lv_iload hx hb dX16_nameAt_56 (lv_at hl 4 rfl) ?_
      refine lv_iadd hx hb dX16_nameAt_58 ?_
      obtain ⟨q7, s8, hq, h⟩ := nd_b2_e h
      have hPc := hP
      have hDc := hD
      have hKc := hK
      have hFc := nd_rs hD hS hA
      refine nd_cVi (As := [.int (x1 + x4)]) (rest := []) (q := q7) (w' := dw_X16 a ac s8) ⟨hx, hb, hml, hown, hts⟩ (fun sz => dm_X16_byteAt l hlt dC dI a ac n ((x1 + x4)) s4 hq sz) (cwV 1 hts gi_dm_X16_nameAt_1 rfl rfl rfl (by decide +kernel) ⟨Nat.le_of_ble_eq_true rfl, Nat.le_of_ble_eq_true rfl⟩) hPc hDc hKc hS hA hN (va_recv hKc hPc (ci := 17) (q0 := 0) rfl rfl) rfl hl.1 rfl (Nat.le_of_ble_eq_true rfl) dX16_nameAt_59 (fun H locs hP1 hD1 hk1 hS => ?_)
      have hP := hP1
      have hD := hD1.weaken (fun k q _ h => hFc q.1 h)
      refine lv_istore (lv' := [(5, .int q7), (0, .ref (a 0)), (1, .int x1), (2, .int x2), (3, .int x3), (4, .int x4)]) hx hb dX16_nameAt_62 hl (by decide) rfl (fun ls hl => ?_)
      refine lv_iload hx hb dX16_nameAt_64 (lv_at hl 0 rfl) ?_
      refine lv_if_ne (tgt := 84) hx hb dX16_nameAt_66 (by decide) (fun c10 => ?_) (fun c10 => ?_)
      · have h := nd_neg h c10
        refine lv_iload_n hx hb dX16_nameAt_84 rfl (lv_at hl 4 rfl) ?_
        refine lv_if_eq (tgt := 106) hx hb dX16_nameAt_85 (by decide) (fun c11 => ?_) (fun c11 => ?_)
        · have h := nd_pos h c11
          exact (db_X16_nameAt_106 C K J28) (x1) (x2) (x4) (q7) s8 _ _ _ h hP hD hS (lv_sub hl [1, 2, 3, 5, 0] rfl)
        · have h := nd_neg h c11
          refine lv_iload hx hb dX16_nameAt_88 (lv_at hl 0 rfl) ?_
          refine lv_bipush (v := 32) hx hb dX16_nameAt_90 (by decide) ?_
          refine lv_icmp_le (tgt := 106) hx hb dX16_nameAt_92 (by decide) (fun c16 => ?_) (fun c16 => ?_)
          · have h := nd_pos h c16
            exact (db_X16_nameAt_106 C K J28) (x1) (x2) (x4) (q7) s8 _ _ _ h hP hD hS (lv_sub hl [1, 2, 3, 5, 0] rfl)
          · have h := nd_neg h c16
            refine lv_iload hx hb dX16_nameAt_95 (lv_at hl 0 rfl) ?_
            refine lv_bipush (v := 127) hx hb dX16_nameAt_97 (by decide) ?_
            refine lv_icmp_ge (tgt := 106) hx hb dX16_nameAt_99 (by decide) (fun c17 => ?_) (fun c17 => ?_)
            · have h := nd_pos h c17
              exact (db_X16_nameAt_106 C K J28) (x1) (x2) (x4) (q7) s8 _ _ _ h hP hD hS (lv_sub hl [1, 2, 3, 5, 0] rfl)
            · have h := nd_neg h c17
              refine lv_iconst (v := 1) hx hb dX16_nameAt_102 (by decide) ?_
              refine lv_goto (tgt := 107) hx hb dX16_nameAt_103 (by decide) ?_
              exact (db_X16_nameAt_107 C K J28) (x1) (x2) (x4) (q7) (1) s8 _ _ _ h hP hD hS (lv_sub hl [1, 2, 3, 5, 0] rfl)
      · have h := nd_pos h c10
        refine lv_iload_n hx hb dX16_nameAt_69 rfl (lv_at hl 3 rfl) ?_
        refine lv_if_le (tgt := 81) hx hb dX16_nameAt_70 (by decide) (fun c18 => ?_) (fun c18 => ?_)
        · have h := nd_pos h c18
          exact (db_X16_nameAt_81 C K)  s8 _ _ _ h hP hD hS (lv_sub hl [] rfl)
        · have h := nd_neg h c18
          refine lv_iload_n hx hb dX16_nameAt_73 rfl (lv_at hl 4 rfl) ?_
          refine lv_if_eq (tgt := 81) hx hb dX16_nameAt_74 (by decide) (fun c19 => ?_) (fun c19 => ?_)
          · have h := nd_pos h c19
            exact (db_X16_nameAt_81 C K)  s8 _ _ _ h hP hD hS (lv_sub hl [] rfl)
          · have h := nd_neg h c19
            refine lv_iconst (v := 0) hx hb dX16_nameAt_77 (by decide) ?_
            refine lv_goto (tgt := 83) hx hb dX16_nameAt_78 (by decide) ?_
            exact (db_X16_nameAt_83 C K) (0) s8 _ _ _ h hP hD hS (lv_sub hl [] rfl)
    · have h := nd_pos h c6
      refine lv_bipush (v := (-14)) hx hb dX16_nameAt_51 (by decide) ?_
      exact K _ _ _ _ _ _ dX16_nameAt_53 rfl (Option.some.inj h).symm hP hD hS
set_option maxHeartbeats 40000000 in
set_option maxRecDepth 100000 in
theorem db_X16_nameAt_28 {p : Program} {l : Launch} {e : Env} {s : State} {m : MethodId} {args : Array Value} {below : List Frame} {meth : Method} {c : Code} {Q : State → Prop} {A : Nat → Prop} {dC : Nat → ClassId} {dI : Nat → Nat → Nat} {a : Nat → Nat} {ac : Nat → ClassId} {n : Nat} {r : Int32 × (St × (St))} (C : nd_C p l s m args c A (dC, dI) cX16_nameAt 6 RX16 ow_dm_X16_nameAt (dk_X16 ac)) (K : nd_Ki p l e (headSpec ow_dm_X16_nameAt ({ frames := 2, cells := 0, slots := 0, locals := 45 })).room s m args below meth c Q A (dC, dI) cX16_nameAt .int (St × (St)) (dw_X16 a ac) r) (k : Nat) : dj_X16_nameAt_28 p l e s m args below meth c Q A dC dI a ac (df_X16_nameAt_28 n k) r := by
  induction k with
  | zero => intro x1 x2 x3 x4 s0 H locs ls h; exact nomatch (show (none : Option (Int32 × (St × (St)))) = some r from h)
  | succ k ih => exact dB_X16_nameAt_28 C K ih
set_option maxHeartbeats 40000000 in
set_option maxRecDepth 100000 in
theorem dB_X16_nameAt_2 {p : Program} {l : Launch} {e : Env} {s : State} {m : MethodId} {args : Array Value} {below : List Frame} {meth : Method} {c : Code} {Q : State → Prop} {A : Nat → Prop} {dC : Nat → ClassId} {dI : Nat → Nat → Nat} {a : Nat → Nat} {ac : Nat → ClassId} {n : Nat} {r : Int32 × (St × (St))} (C : nd_C p l s m args c A (dC, dI) cX16_nameAt 6 RX16 ow_dm_X16_nameAt (dk_X16 ac)) (K : nd_Ki p l e (headSpec ow_dm_X16_nameAt ({ frames := 2, cells := 0, slots := 0, locals := 45 })).room s m args below meth c Q A (dC, dI) cX16_nameAt .int (St × (St)) (dw_X16 a ac) r) {g2 : Int32 → Int32 → (St × (St)) → Option (Int32 × (St × (St)))} (J2 : dj_X16_nameAt_2 p l e s m args below meth c Q A dC dI a ac g2 r) : dj_X16_nameAt_2 p l e s m args below meth c Q A dC dI a ac (dF_X16_nameAt_2 n g2) r := by
  obtain ⟨hlt, hx, hb, hml, hown, hts, hN, hA, hK⟩ := id C
  intro x1 x2 s0 H locs ls h hP hD hS hl
  unfold dF_X16_nameAt_2 at h
  refine lv_iload_n hx hb dX16_nameAt_2 rfl (lv_at hl 2 rfl) ?_
  refine lv_bipush (v := 16) hx hb dX16_nameAt_3 (by decide) ?_
  refine lv_icmp_ge (tgt := 21) hx hb dX16_nameAt_5 (by decide) (fun c1 => ?_) (fun c1 => ?_)
  · have h := nd_pos h c1
    refine lv_iconst (v := 0) hx hb dX16_nameAt_21 (by decide) ?_
    refine lv_istore_n (lv' := [(2, .int 0), (0, .ref (a 0)), (1, .int x1)]) hx hb dX16_nameAt_22 rfl hl (by decide) rfl (fun ls hl => ?_)
    refine lv_iconst (v := 1) hx hb dX16_nameAt_23 (by decide) ?_
    refine lv_istore_n (lv' := [(3, .int 1), (2, .int 0), (0, .ref (a 0)), (1, .int x1)]) hx hb dX16_nameAt_24 rfl hl (by decide) rfl (fun ls hl => ?_)
    refine lv_iconst (v := 0) hx hb dX16_nameAt_25 (by decide) ?_
    refine lv_istore (lv' := [(4, .int 0), (3, .int 1), (2, .int 0), (0, .ref (a 0)), (1, .int x1)]) hx hb dX16_nameAt_26 hl (by decide) rfl (fun ls hl => ?_)
    exact (db_X16_nameAt_28 C K n) (x1) (0) (1) (0) s0 _ _ _ h hP hD hS (lv_sub hl [3, 4, 2, 1, 0] rfl)
  · have h := nd_neg h c1
    refine lv_aload_n hx hb dX16_nameAt_8 rfl (lv_at hl 0 rfl) ?_
    refine va_get (D := (dC, dI)) (ci := 17) (v := .ref (a 35)) (C := RX16) (T := TX16) (N := 56) hx hb hts hi_dm_X16_nameAt_X16 hown hK hP 0 rfl rfl 46 (by decide) (hts (.fieldLink RX16 115 "TimeMachineModel$Machine" "name" "[I") (List.mem_of_getElem? (i := 9) rfl)) (fun _ h9 => h9) rfl dX16_nameAt_9 ?_
    refine lv_iload_n hx hb dX16_nameAt_12 rfl (lv_at hl 2 rfl) ?_
    refine lv_iconst (v := 0) hx hb dX16_nameAt_13 (by decide) ?_
    obtain ⟨i20, h⟩ := nd_ck_e h
    refine va_iast (i := x2) (x := 0) hx hb hK hP hD hS 35 34 rfl rfl i20 dX16_nameAt_14 (fun H locs hP hD hS => ?_)
    obtain ⟨s21, es21, h⟩ := nd_let_e h
    have hP : va_P (dC, dI) vwCl (dw_X16 a ac s21) H := by rw [es21]; exact hP
    have hD : va_D A (dw_X16 a ac s21) := by rw [es21]; exact hD
    obtain ⟨z22, ez22, h⟩ := nd_let_e h
    refine lv_iinc (v := z22) (lv' := [(2, .int z22), (0, .ref (a 0)), (1, .int x1)]) hx hb dX16_nameAt_15 hl (k := 2) rfl (by rw [ez22]) (by decide) rfl (fun ls hl => ?_)
    refine lv_goto (tgt := 2) hx hb dX16_nameAt_18 (by decide) ?_
    exact (J2) (x1) (z22) s21 _ _ _ h hP hD hS (lv_sub hl [1, 2, 0] rfl)
set_option maxHeartbeats 40000000 in
set_option maxRecDepth 100000 in
theorem db_X16_nameAt_2 {p : Program} {l : Launch} {e : Env} {s : State} {m : MethodId} {args : Array Value} {below : List Frame} {meth : Method} {c : Code} {Q : State → Prop} {A : Nat → Prop} {dC : Nat → ClassId} {dI : Nat → Nat → Nat} {a : Nat → Nat} {ac : Nat → ClassId} {n : Nat} {r : Int32 × (St × (St))} (C : nd_C p l s m args c A (dC, dI) cX16_nameAt 6 RX16 ow_dm_X16_nameAt (dk_X16 ac)) (K : nd_Ki p l e (headSpec ow_dm_X16_nameAt ({ frames := 2, cells := 0, slots := 0, locals := 45 })).room s m args below meth c Q A (dC, dI) cX16_nameAt .int (St × (St)) (dw_X16 a ac) r) (k : Nat) : dj_X16_nameAt_2 p l e s m args below meth c Q A dC dI a ac (df_X16_nameAt_2 n k) r := by
  induction k with
  | zero => intro x1 x2 s0 H locs ls h; exact nomatch (show (none : Option (Int32 × (St × (St)))) = some r from h)
  | succ k ih => exact dB_X16_nameAt_2 C K ih
set_option maxHeartbeats 40000000 in
set_option maxRecDepth 100000 in
theorem db_X16_nameAt_0 {p : Program} {l : Launch} {e : Env} {s : State} {m : MethodId} {args : Array Value} {below : List Frame} {meth : Method} {c : Code} {Q : State → Prop} {A : Nat → Prop} {dC : Nat → ClassId} {dI : Nat → Nat → Nat} {a : Nat → Nat} {ac : Nat → ClassId} {n : Nat} {r : Int32 × (St × (St))} (C : nd_C p l s m args c A (dC, dI) cX16_nameAt 6 RX16 ow_dm_X16_nameAt (dk_X16 ac)) (K : nd_Ki p l e (headSpec ow_dm_X16_nameAt ({ frames := 2, cells := 0, slots := 0, locals := 45 })).room s m args below meth c Q A (dC, dI) cX16_nameAt .int (St × (St)) (dw_X16 a ac) r) : dj_X16_nameAt_0 p l e s m args below meth c Q A dC dI a ac (df_X16_nameAt_0 n) r := by
  obtain ⟨hlt, hx, hb, hml, hown, hts, hN, hA, hK⟩ := id C
  intro v0 s0 H locs ls h hP hD hS hl
  unfold df_X16_nameAt_0 at h
  refine lv_iconst (v := 0) hx hb dX16_nameAt_0 (by decide) ?_
  refine lv_istore_n (lv' := [(2, .int 0), (0, .ref (a 0)), (1, .int v0)]) hx hb dX16_nameAt_1 rfl hl (by decide) rfl (fun ls hl => ?_)
  exact (db_X16_nameAt_2 C K n) (v0) (0) s0 _ _ _ h hP hD hS (lv_sub hl [1, 2, 0] rfl)
set_option maxHeartbeats 40000000 in
set_option maxRecDepth 100000 in
theorem dm_X16_nameAt (l : Launch) (hlt : l.stackTraces = false) (dC : Nat → ClassId) (dI : Nat → Nat → Nat) (a : Nat → Nat) (ac : Nat → ClassId) (n : Nat) (v0 : Int32) (s0 : St × (St)) {r : Int32 × (St × (St))} (h : df_X16_nameAt n v0 s0 = some r) (sz : Nat) : Met l yX16_nameAt ow_dm_X16_nameAt ({ frames := 2, cells := 0, slots := 0, locals := 45 }) (va_Pc [.ref (a 0), .int v0] (fun U => U.heap.size = sz ∧ va_P (dC, dI) vwCl (dw_X16 a ac s0) U.heap ∧ va_K (dC, dI) vwCl (dk_X16 ac) U ∧ va_D (fun _ => True) (dw_X16 a ac s0) ∧ nv_E (va_A (dw_X16 a ac s0) sz) U)) (va_Qi (fun x _ => x = r.1) (fun (_ : Unit) t => va_P (dC, dI) vwCl (dw_X16 a ac r.2) t.heap ∧ va_K (dC, dI) vwCl (dk_X16 ac) t ∧ va_D (va_A (dw_X16 a ac s0) sz) (dw_X16 a ac r.2)) (va_A (dw_X16 a ac s0) sz)) 0 0 (va_A (dw_X16 a ac s0) sz) := by
  refine Met.ofW (cc := cX16_nameAt) (maxL := 6) (ret := (some .int)) (by decide) rfl ?_
  intro p e s m args below meth c s₁ B hml hv
  obtain ⟨rfl, hsz, hP, hK, hD0, hN⟩ := hv
  have hx := B.exec
  have hb := B.bytes
  have hr := B.returns
  have hts := atoms_spec (ws := ow_dm_X16_nameAt) B.pre
  have hown : s.vm.findClass RX16 = some m.cls := findClass_of_methodNamed B.named
  have hlocks := B.notSynchronized
  subst hsz
  have hD := hD0.self (sz := s.heap.size)
  generalize hAe : va_A (dw_X16 a ac s0) s.heap.size = A at hD hN ⊢
  have hA : ∀ q : Nat, s.heap.size ≤ q → A q := fun q h => by rw [← hAe]; exact Or.inr h
  have hl := lv_entry ([.ref (a 0), .int v0]) (n := 6) (Nat.le_of_ble_eq_true rfl)
  rw [lg_entry_eq]
  generalize (lg_sl ([.ref (a 0), .int v0]) ++ List.replicate (6 - (lg_sl ([.ref (a 0), .int v0])).length) Slot.unset).toArray = ls at hl ⊢
  have hl : lv_has ls 6 [(0, .ref (a 0)), (1, .int v0)] := hl
  exact db_X16_nameAt_0 (dC := dC) (dI := dI) (a := a) (ac := ac) (n := n) (r := r) ⟨hlt, hx, hb, hml, hown, hts, hN, hA, hK⟩ (fun pc v τ H locs ls d z er hP hD hS => by subst er; exact W.zret (v := v) hx hb hr z (fun t ht hW => ⟨⟨v, (), rfl, rfl, by rw [ht]; exact hP, va_K.moved hW.alike hK, hD⟩, hS.F ht⟩) hS.2.2 d) v0 s0 _ _ _ h hP hD va_S.rf (lv_sub hl [0, 1] rfl)
def ow_dm_X16_named : List Cond := .code yX16_named cX16_named 4 (some .int) :: ([.fieldLink RX16 88 "TimeMachineModel$Machine" "isFile" "[Z", .fieldLink RX16 106 "TimeMachineModel$Machine" "names" "[I", .fieldLink RX16 115 "TimeMachineModel$Machine" "name" "[I", .fieldLink RX16 91 "TimeMachineModel$Machine" "isNamed" "[Z"] ++ (u_ws RX16 TX16 56 ++ []))
theorem gd_dm_X16_named : ∀ w ∈ ow_dm_X16_named, (w.onTables && w.keeps) = true ∨ ∃ ty, w = Cond.arrayClass ty := List.forall_mem_cons.mpr ⟨good_of_word rfl, List.forall_mem_append.mpr ⟨fun w h => good_of_word (List.all_eq_true.mp (by decide +kernel) w h), List.forall_mem_append.mpr ⟨gu_X16, fun _ h => nomatch h⟩⟩⟩
theorem hi_dm_X16_named_X16 : ∀ w ∈ u_ws RX16 TX16 56, w ∈ ow_dm_X16_named := fun w h => List.mem_cons_of_mem _ (List.mem_append_right _ (List.mem_append_left _ h))
def dj_X16_named_76 (p : Program) (l : Launch) (e : Env) (s : State) (m : MethodId) (args : Array Value) (below : List Frame) (meth : Method) (c : Code) (Q : State → Prop) (A : Nat → Prop) (dC : Nat → ClassId) (dI : Nat → Nat → Nat) (a : Nat → Nat) (ac : Nat → ClassId) (g : Int32 → Int32 → (St × (St)) → Option (Int32 × (St × (St)))) (r : Int32 × (St × (St))) : Prop := ∀ (x1 : Int32) (x2 : Int32) (s0 : St × (St)) (H : Heap) (locs : List Loc) (ls : Array Slot), g x1 x2 s0 = some r → va_P (dC, dI) vwCl (dw_X16 a ac s0) H → va_D A (dw_X16 a ac s0) → va_S A s.heap H locs → lv_has ls 4 [(0, .ref (a 0)), (1, .int x1), (2, .int x2)] → W p l e (headSpec ow_dm_X16_named ({ frames := 0, cells := 0, slots := 0, locals := 0 })).room s m args below meth c H locs 0 0 Q (F0 m 76 ls [])
def dj_X16_named_69 (p : Program) (l : Launch) (e : Env) (s : State) (m : MethodId) (args : Array Value) (below : List Frame) (meth : Method) (c : Code) (Q : State → Prop) (A : Nat → Prop) (dC : Nat → ClassId) (dI : Nat → Nat → Nat) (a : Nat → Nat) (ac : Nat → ClassId) (g : Int32 → Int32 → Int32 → (St × (St)) → Option (Int32 × (St × (St)))) (r : Int32 × (St × (St))) : Prop := ∀ (x1 : Int32) (x3 : Int32) (y0 : Int32) (s0 : St × (St)) (H : Heap) (locs : List Loc) (ls : Array Slot), g x1 x3 y0 s0 = some r → va_P (dC, dI) vwCl (dw_X16 a ac s0) H → va_D A (dw_X16 a ac s0) → va_S A s.heap H locs → lv_has ls 4 [(0, .ref (a 0)), (1, .int x1), (3, .int x3)] → W p l e (headSpec ow_dm_X16_named ({ frames := 0, cells := 0, slots := 0, locals := 0 })).room s m args below meth c H locs 0 0 Q (F0 m 69 ls [.int y0])
def dj_X16_named_34 (p : Program) (l : Launch) (e : Env) (s : State) (m : MethodId) (args : Array Value) (below : List Frame) (meth : Method) (c : Code) (Q : State → Prop) (A : Nat → Prop) (dC : Nat → ClassId) (dI : Nat → Nat → Nat) (a : Nat → Nat) (ac : Nat → ClassId) (g : Int32 → Int32 → Int32 → (St × (St)) → Option (Int32 × (St × (St)))) (r : Int32 × (St × (St))) : Prop := ∀ (x1 : Int32) (x2 : Int32) (x3 : Int32) (s0 : St × (St)) (H : Heap) (locs : List Loc) (ls : Array Slot), g x1 x2 x3 s0 = some r → va_P (dC, dI) vwCl (dw_X16 a ac s0) H → va_D A (dw_X16 a ac s0) → va_S A s.heap H locs → lv_has ls 4 [(0, .ref (a 0)), (1, .int x1), (2, .int x2), (3, .int x3)] → W p l e (headSpec ow_dm_X16_named ({ frames := 0, cells := 0, slots := 0, locals := 0 })).room s m args below meth c H locs 0 0 Q (F0 m 34 ls [])
def dj_X16_named_31 (p : Program) (l : Launch) (e : Env) (s : State) (m : MethodId) (args : Array Value) (below : List Frame) (meth : Method) (c : Code) (Q : State → Prop) (A : Nat → Prop) (dC : Nat → ClassId) (dI : Nat → Nat → Nat) (a : Nat → Nat) (ac : Nat → ClassId) (g : Int32 → Int32 → (St × (St)) → Option (Int32 × (St × (St)))) (r : Int32 × (St × (St))) : Prop := ∀ (x1 : Int32) (y0 : Int32) (s0 : St × (St)) (H : Heap) (locs : List Loc) (ls : Array Slot), g x1 y0 s0 = some r → va_P (dC, dI) vwCl (dw_X16 a ac s0) H → va_D A (dw_X16 a ac s0) → va_S A s.heap H locs → lv_has ls 4 [(0, .ref (a 0)), (1, .int x1)] → W p l e (headSpec ow_dm_X16_named ({ frames := 0, cells := 0, slots := 0, locals := 0 })).room s m args below meth c H locs 0 0 Q (F0 m 31 ls [.int y0])
def dj_X16_named_30 (p : Program) (l : Launch) (e : Env) (s : State) (m : MethodId) (args : Array Value) (below : List Frame) (meth : Method) (c : Code) (Q : State → Prop) (A : Nat → Prop) (dC : Nat → ClassId) (dI : Nat → Nat → Nat) (a : Nat → Nat) (ac : Nat → ClassId) (g : Int32 → (St × (St)) → Option (Int32 × (St × (St)))) (r : Int32 × (St × (St))) : Prop := ∀ (x1 : Int32) (s0 : St × (St)) (H : Heap) (locs : List Loc) (ls : Array Slot), g x1 s0 = some r → va_P (dC, dI) vwCl (dw_X16 a ac s0) H → va_D A (dw_X16 a ac s0) → va_S A s.heap H locs → lv_has ls 4 [(0, .ref (a 0)), (1, .int x1)] → W p l e (headSpec ow_dm_X16_named ({ frames := 0, cells := 0, slots := 0, locals := 0 })).room s m args below meth c H locs 0 0 Q (F0 m 30 ls [])
def dj_X16_named_2 (p : Program) (l : Launch) (e : Env) (s : State) (m : MethodId) (args : Array Value) (below : List Frame) (meth : Method) (c : Code) (Q : State → Prop) (A : Nat → Prop) (dC : Nat → ClassId) (dI : Nat → Nat → Nat) (a : Nat → Nat) (ac : Nat → ClassId) (g : Int32 → (St × (St)) → Option (Int32 × (St × (St)))) (r : Int32 × (St × (St))) : Prop := ∀ (x1 : Int32) (s0 : St × (St)) (H : Heap) (locs : List Loc) (ls : Array Slot), g x1 s0 = some r → va_P (dC, dI) vwCl (dw_X16 a ac s0) H → va_D A (dw_X16 a ac s0) → va_S A s.heap H locs → lv_has ls 4 [(0, .ref (a 0)), (1, .int x1)] → W p l e (headSpec ow_dm_X16_named ({ frames := 0, cells := 0, slots := 0, locals := 0 })).room s m args below meth c H locs 0 0 Q (F0 m 2 ls [])
def dj_X16_named_0 (p : Program) (l : Launch) (e : Env) (s : State) (m : MethodId) (args : Array Value) (below : List Frame) (meth : Method) (c : Code) (Q : State → Prop) (A : Nat → Prop) (dC : Nat → ClassId) (dI : Nat → Nat → Nat) (a : Nat → Nat) (ac : Nat → ClassId) (g : (St × (St)) → Option (Int32 × (St × (St)))) (r : Int32 × (St × (St))) : Prop := ∀ (s0 : St × (St)) (H : Heap) (locs : List Loc) (ls : Array Slot), g s0 = some r → va_P (dC, dI) vwCl (dw_X16 a ac s0) H → va_D A (dw_X16 a ac s0) → va_S A s.heap H locs → lv_has ls 4 [(0, .ref (a 0))] → W p l e (headSpec ow_dm_X16_named ({ frames := 0, cells := 0, slots := 0, locals := 0 })).room s m args below meth c H locs 0 0 Q (F0 m 0 ls [])
set_option maxHeartbeats 40000000 in
set_option maxRecDepth 100000 in
theorem db_X16_named_76 {p : Program} {l : Launch} {e : Env} {s : State} {m : MethodId} {args : Array Value} {below : List Frame} {meth : Method} {c : Code} {Q : State → Prop} {A : Nat → Prop} {dC : Nat → ClassId} {dI : Nat → Nat → Nat} {a : Nat → Nat} {ac : Nat → ClassId} {n : Nat} {r : Int32 × (St × (St))} (C : nd_C p l s m args c A (dC, dI) cX16_named 4 RX16 ow_dm_X16_named (dk_X16 ac)) (K : nd_Ki p l e (headSpec ow_dm_X16_named ({ frames := 0, cells := 0, slots := 0, locals := 0 })).room s m args below meth c Q A (dC, dI) cX16_named .int (St × (St)) (dw_X16 a ac) r) {g2 : Int32 → (St × (St)) → Option (Int32 × (St × (St)))} (J2 : dj_X16_named_2 p l e s m args below meth c Q A dC dI a ac g2 r) : dj_X16_named_76 p l e s m args below meth c Q A dC dI a ac (df_X16_named_76 n g2) r := by
  obtain ⟨hlt, hx, hb, hml, hown, hts, hN, hA, hK⟩ := id C
  intro x1 x2 s0 H locs ls h hP hD hS hl
  unfold df_X16_named_76 at h
  refine lv_iload_n hx hb dX16_named_76 rfl (lv_at hl 2 rfl) ?_
  refine lv_if_eq (tgt := 82) hx hb dX16_named_77 (by decide) (fun c5 => ?_) (fun c5 => ?_)
  · have h := nd_pos h c5
    obtain ⟨z6, ez6, h⟩ := nd_let_e h
    refine lv_iinc (v := z6) (lv' := [(1, .int z6), (0, .ref (a 0)), (2, .int x2)]) hx hb dX16_named_82 hl (k := 1) rfl (by rw [ez6]) (by decide) rfl (fun ls hl => ?_)
    refine lv_goto (tgt := 2) hx hb dX16_named_85 (by decide) ?_
    exact (J2) (z6) s0 _ _ _ h hP hD hS (lv_sub hl [1, 0] rfl)
  · have h := nd_neg h c5
    refine lv_iload_n hx hb dX16_named_80 rfl (lv_at hl 1 rfl) ?_
    exact K _ _ _ _ _ _ dX16_named_81 rfl (Option.some.inj h).symm hP hD hS
set_option maxHeartbeats 40000000 in
set_option maxRecDepth 100000 in
theorem db_X16_named_69 {p : Program} {l : Launch} {e : Env} {s : State} {m : MethodId} {args : Array Value} {below : List Frame} {meth : Method} {c : Code} {Q : State → Prop} {A : Nat → Prop} {dC : Nat → ClassId} {dI : Nat → Nat → Nat} {a : Nat → Nat} {ac : Nat → ClassId} {n : Nat} {r : Int32 × (St × (St))} (C : nd_C p l s m args c A (dC, dI) cX16_named 4 RX16 ow_dm_X16_named (dk_X16 ac)) (K : nd_Ki p l e (headSpec ow_dm_X16_named ({ frames := 0, cells := 0, slots := 0, locals := 0 })).room s m args below meth c Q A (dC, dI) cX16_named .int (St × (St)) (dw_X16 a ac) r) {g2 : Int32 → (St × (St)) → Option (Int32 × (St × (St)))} {g34 : Int32 → Int32 → Int32 → (St × (St)) → Option (Int32 × (St × (St)))} (J2 : dj_X16_named_2 p l e s m args below meth c Q A dC dI a ac g2 r) (J34 : dj_X16_named_34 p l e s m args below meth c Q A dC dI a ac g34 r) : dj_X16_named_69 p l e s m args below meth c Q A dC dI a ac (df_X16_named_69 n g2 g34) r := by
  obtain ⟨hlt, hx, hb, hml, hown, hts, hN, hA, hK⟩ := id C
  intro x1 x3 y0 s0 H locs ls h hP hD hS hl
  unfold df_X16_named_69 at h
  refine lv_istore_n (lv' := [(2, .int y0), (0, .ref (a 0)), (1, .int x1), (3, .int x3)]) hx hb dX16_named_69 rfl hl (by decide) rfl (fun ls hl => ?_)
  obtain ⟨z11, ez11, h⟩ := nd_let_e h
  refine lv_iinc (v := z11) (lv' := [(3, .int z11), (2, .int y0), (0, .ref (a 0)), (1, .int x1)]) hx hb dX16_named_70 hl (k := 3) rfl (by rw [ez11]) (by decide) rfl (fun ls hl => ?_)
  refine lv_goto (tgt := 34) hx hb dX16_named_73 (by decide) ?_
  exact (J34) (x1) (y0) (z11) s0 _ _ _ h hP hD hS (lv_sub hl [2, 3, 1, 0] rfl)
set_option maxHeartbeats 40000000 in
set_option maxRecDepth 100000 in
theorem dB_X16_named_34 {p : Program} {l : Launch} {e : Env} {s : State} {m : MethodId} {args : Array Value} {below : List Frame} {meth : Method} {c : Code} {Q : State → Prop} {A : Nat → Prop} {dC : Nat → ClassId} {dI : Nat → Nat → Nat} {a : Nat → Nat} {ac : Nat → ClassId} {n : Nat} {r : Int32 × (St × (St))} (C : nd_C p l s m args c A (dC, dI) cX16_named 4 RX16 ow_dm_X16_named (dk_X16 ac)) (K : nd_Ki p l e (headSpec ow_dm_X16_named ({ frames := 0, cells := 0, slots := 0, locals := 0 })).room s m args below meth c Q A (dC, dI) cX16_named .int (St × (St)) (dw_X16 a ac) r) {g2 : Int32 → (St × (St)) → Option (Int32 × (St × (St)))} (J2 : dj_X16_named_2 p l e s m args below meth c Q A dC dI a ac g2 r) {g34 : Int32 → Int32 → Int32 → (St × (St)) → Option (Int32 × (St × (St)))} (J34 : dj_X16_named_34 p l e s m args below meth c Q A dC dI a ac g34 r) : dj_X16_named_34 p l e s m args below meth c Q A dC dI a ac (dF_X16_named_34 n g2 g34) r := by
  obtain ⟨hlt, hx, hb, hml, hown, hts, hN, hA, hK⟩ := id C
  intro x1 x2 x3 s0 H locs ls h hP hD hS hl
  unfold dF_X16_named_34 at h
  refine lv_iload_n hx hb dX16_named_34 rfl (lv_at hl 3 rfl) ?_
  refine lv_bipush (v := 16) hx hb dX16_named_35 (by decide) ?_
  refine lv_icmp_ge (tgt := 76) hx hb dX16_named_37 (by decide) (fun c4 => ?_) (fun c4 => ?_)
  · have h := nd_pos h c4
    exact (db_X16_named_76 C K J2) (x1) (x2) s0 _ _ _ h hP hD hS (lv_sub hl [0, 1, 2] rfl)
  · have h := nd_neg h c4
    refine lv_iload_n hx hb dX16_named_40 rfl (lv_at hl 2 rfl) ?_
    refine lv_if_eq (tgt := 76) hx hb dX16_named_41 (by decide) (fun c7 => ?_) (fun c7 => ?_)
    · have h := nd_pos h c7
      exact (db_X16_named_76 C K J2) (x1) (x2) s0 _ _ _ h hP hD hS (lv_sub hl [0, 1, 2] rfl)
    · have h := nd_neg h c7
      refine lv_aload_n hx hb dX16_named_44 rfl (lv_at hl 0 rfl) ?_
      refine va_get (D := (dC, dI)) (ci := 17) (v := .ref (a 32)) (C := RX16) (T := TX16) (N := 56) hx hb hts hi_dm_X16_named_X16 hown hK hP 0 rfl rfl 41 (by decide) (hts (.fieldLink RX16 106 "TimeMachineModel$Machine" "names" "[I") (List.mem_of_getElem? (i := 2) rfl)) (fun _ h9 => h9) rfl dX16_named_45 ?_
      refine lv_bipush (v := 16) hx hb dX16_named_48 (by decide) ?_
      refine lv_iload_n hx hb dX16_named_50 rfl (lv_at hl 1 rfl) ?_
      refine lv_imul hx hb dX16_named_51 ?_
      refine lv_iload_n hx hb dX16_named_52 rfl (lv_at hl 3 rfl) ?_
      refine lv_iadd hx hb dX16_named_53 ?_
      obtain ⟨i8, h⟩ := nd_ck_e h
      refine va_iald (i := ((16 * x1) + x3)) hx hb hK hP 32 31 rfl rfl i8 dX16_named_54 ?_
      refine lv_aload_n hx hb dX16_named_55 rfl (lv_at hl 0 rfl) ?_
      refine va_get (D := (dC, dI)) (ci := 17) (v := .ref (a 35)) (C := RX16) (T := TX16) (N := 56) hx hb hts hi_dm_X16_named_X16 hown hK hP 0 rfl rfl 46 (by decide) (hts (.fieldLink RX16 115 "TimeMachineModel$Machine" "name" "[I") (List.mem_of_getElem? (i := 3) rfl)) (fun _ h9 => h9) rfl dX16_named_56 ?_
      refine lv_iload_n hx hb dX16_named_59 rfl (lv_at hl 3 rfl) ?_
      obtain ⟨i9, h⟩ := nd_ck_e h
      refine va_iald (i := x3) hx hb hK hP 35 34 rfl rfl i9 dX16_named_60 ?_
      refine lv_icmp_ne (tgt := 68) hx hb dX16_named_61 (by decide) (fun c10 => ?_) (fun c10 => ?_)
      · have h := nd_neg h c10
        refine lv_iconst (v := 0) hx hb dX16_named_68 (by decide) ?_
        exact (db_X16_named_69 C K J2 J34) (x1) (x3) (0) s0 _ _ _ h hP hD hS (lv_sub hl [0, 1, 3] rfl)
      · have h := nd_pos h c10
        refine lv_iconst (v := 1) hx hb dX16_named_64 (by decide) ?_
        refine lv_goto (tgt := 69) hx hb dX16_named_65 (by decide) ?_
        exact (db_X16_named_69 C K J2 J34) (x1) (x3) (1) s0 _ _ _ h hP hD hS (lv_sub hl [0, 1, 3] rfl)
set_option maxHeartbeats 40000000 in
set_option maxRecDepth 100000 in
theorem db_X16_named_34 {p : Program} {l : Launch} {e : Env} {s : State} {m : MethodId} {args : Array Value} {below : List Frame} {meth : Method} {c : Code} {Q : State → Prop} {A : Nat → Prop} {dC : Nat → ClassId} {dI : Nat → Nat → Nat} {a : Nat → Nat} {ac : Nat → ClassId} {n : Nat} {r : Int32 × (St × (St))} (C : nd_C p l s m args c A (dC, dI) cX16_named 4 RX16 ow_dm_X16_named (dk_X16 ac)) (K : nd_Ki p l e (headSpec ow_dm_X16_named ({ frames := 0, cells := 0, slots := 0, locals := 0 })).room s m args below meth c Q A (dC, dI) cX16_named .int (St × (St)) (dw_X16 a ac) r) {g2 : Int32 → (St × (St)) → Option (Int32 × (St × (St)))} (J2 : dj_X16_named_2 p l e s m args below meth c Q A dC dI a ac g2 r) (k : Nat) : dj_X16_named_34 p l e s m args below meth c Q A dC dI a ac (df_X16_named_34 n g2 k) r := by
  induction k with
  | zero => intro x1 x2 x3 s0 H locs ls h; exact nomatch (show (none : Option (Int32 × (St × (St)))) = some r from h)
  | succ k ih => exact dB_X16_named_34 C K J2 ih
set_option maxHeartbeats 40000000 in
set_option maxRecDepth 100000 in
theorem db_X16_named_31 {p : Program} {l : Launch} {e : Env} {s : State} {m : MethodId} {args : Array Value} {below : List Frame} {meth : Method} {c : Code} {Q : State → Prop} {A : Nat → Prop} {dC : Nat → ClassId} {dI : Nat → Nat → Nat} {a : Nat → Nat} {ac : Nat → ClassId} {n : Nat} {r : Int32 × (St × (St))} (C : nd_C p l s m args c A (dC, dI) cX16_named 4 RX16 ow_dm_X16_named (dk_X16 ac)) (K : nd_Ki p l e (headSpec ow_dm_X16_named ({ frames := 0, cells := 0, slots := 0, locals := 0 })).room s m args below meth c Q A (dC, dI) cX16_named .int (St × (St)) (dw_X16 a ac) r) {g2 : Int32 → (St × (St)) → Option (Int32 × (St × (St)))} (J2 : dj_X16_named_2 p l e s m args below meth c Q A dC dI a ac g2 r) : dj_X16_named_31 p l e s m args below meth c Q A dC dI a ac (df_X16_named_31 n g2) r := by
  obtain ⟨hlt, hx, hb, hml, hown, hts, hN, hA, hK⟩ := id C
  intro x1 y0 s0 H locs ls h hP hD hS hl
  unfold df_X16_named_31 at h
  refine lv_istore_n (lv' := [(2, .int y0), (0, .ref (a 0)), (1, .int x1)]) hx hb dX16_named_31 rfl hl (by decide) rfl (fun ls hl => ?_)
  refine lv_iconst (v := 0) hx hb dX16_named_32 (by decide) ?_
  refine lv_istore_n (lv' := [(3, .int 0), (2, .int y0), (0, .ref (a 0)), (1, .int x1)]) hx hb dX16_named_33 rfl hl (by decide) rfl (fun ls hl => ?_)
  exact (db_X16_named_34 C K J2 n) (x1) (y0) (0) s0 _ _ _ h hP hD hS (lv_sub hl [2, 3, 1, 0] rfl)
set_option maxHeartbeats 40000000 in
set_option maxRecDepth 100000 in
theorem db_X16_named_30 {p : Program} {l : Launch} {e : Env} {s : State} {m : MethodId} {args : Array Value} {below : List Frame} {meth : Method} {c : Code} {Q : State → Prop} {A : Nat → Prop} {dC : Nat → ClassId} {dI : Nat → Nat → Nat} {a : Nat → Nat} {ac : Nat → ClassId} {n : Nat} {r : Int32 × (St × (St))} (C : nd_C p l s m args c A (dC, dI) cX16_named 4 RX16 ow_dm_X16_named (dk_X16 ac)) (K : nd_Ki p l e (headSpec ow_dm_X16_named ({ frames := 0, cells := 0, slots := 0, locals := 0 })).room s m args below meth c Q A (dC, dI) cX16_named .int (St × (St)) (dw_X16 a ac) r) {g2 : Int32 → (St × (St)) → Option (Int32 × (St × (St)))} (J2 : dj_X16_named_2 p l e s m args below meth c Q A dC dI a ac g2 r) : dj_X16_named_30 p l e s m args below meth c Q A dC dI a ac (df_X16_named_30 n g2) r := by
  obtain ⟨hlt, hx, hb, hml, hown, hts, hN, hA, hK⟩ := id C
  intro x1 s0 H locs ls h hP hD hS hl
  unfold df_X16_named_30 at h
  refine lv_iconst (v := 0) hx hb dX16_named_30 (by decide) ?_
  exact (db_X16_named_31 C K J2) (x1) (0) s0 _ _ _ h hP hD hS (lv_sub hl [0, 1] rfl)
set_option maxHeartbeats 40000000 in
set_option maxRecDepth 100000 in
theorem dB_X16_named_2 {p : Program} {l : Launch} {e : Env} {s : State} {m : MethodId} {args : Array Value} {below : List Frame} {meth : Method} {c : Code} {Q : State → Prop} {A : Nat → Prop} {dC : Nat → ClassId} {dI : Nat → Nat → Nat} {a : Nat → Nat} {ac : Nat → ClassId} {n : Nat} {r : Int32 × (St × (St))} (C : nd_C p l s m args c A (dC, dI) cX16_named 4 RX16 ow_dm_X16_named (dk_X16 ac)) (K : nd_Ki p l e (headSpec ow_dm_X16_named ({ frames := 0, cells := 0, slots := 0, locals := 0 })).room s m args below meth c Q A (dC, dI) cX16_named .int (St × (St)) (dw_X16 a ac) r) {g2 : Int32 → (St × (St)) → Option (Int32 × (St × (St)))} (J2 : dj_X16_named_2 p l e s m args below meth c Q A dC dI a ac g2 r) : dj_X16_named_2 p l e s m args below meth c Q A dC dI a ac (dF_X16_named_2 n g2) r := by
  obtain ⟨hlt, hx, hb, hml, hown, hts, hN, hA, hK⟩ := id C
  intro x1 s0 H locs ls h hP hD hS hl
  unfold dF_X16_named_2 at h
  refine lv_iload_n hx hb dX16_named_2 rfl (lv_at hl 1 rfl) ?_
  refine lv_bipush (v := 16) hx hb dX16_named_3 (by decide) ?_
  refine lv_icmp_ge (tgt := 88) hx hb dX16_named_5 (by decide) (fun c1 => ?_) (fun c1 => ?_)
  · have h := nd_pos h c1
    refine lv_iconst (v := (-1)) hx hb dX16_named_88 (by decide) ?_
    exact K _ _ _ _ _ _ dX16_named_89 rfl (Option.some.inj h).symm hP hD hS
  · have h := nd_neg h c1
    refine lv_aload_n hx hb dX16_named_8 rfl (lv_at hl 0 rfl) ?_
    refine va_get (D := (dC, dI)) (ci := 17) (v := .ref (a 26)) (C := RX16) (T := TX16) (N := 56) hx hb hts hi_dm_X16_named_X16 hown hK hP 0 rfl rfl 35 (by decide) (hts (.fieldLink RX16 88 "TimeMachineModel$Machine" "isFile" "[Z") (List.mem_of_getElem? (i := 1) rfl)) (fun _ h9 => h9) rfl dX16_named_9 ?_
    refine lv_iload_n hx hb dX16_named_12 rfl (lv_at hl 1 rfl) ?_
    obtain ⟨i2, h⟩ := nd_ck_e h
    refine va_zald (i := x1) hx hb hK hP 26 25 rfl rfl i2 dX16_named_13 ?_
    refine lv_if_eq (tgt := 30) hx hb dX16_named_14 (by decide) (fun c3 => ?_) (fun c3 => ?_)
    · have h := nd_pos h c3
      exact (db_X16_named_30 C K J2) (x1) s0 _ _ _ h hP hD hS (lv_sub hl [0, 1] rfl)
    · have h := nd_neg h c3
      refine lv_aload_n hx hb dX16_named_17 rfl (lv_at hl 0 rfl) ?_
      refine va_get (D := (dC, dI)) (ci := 17) (v := .ref (a 27)) (C := RX16) (T := TX16) (N := 56) hx hb hts hi_dm_X16_named_X16 hown hK hP 0 rfl rfl 36 (by decide) (hts (.fieldLink RX16 91 "TimeMachineModel$Machine" "isNamed" "[Z") (List.mem_of_getElem? (i := 4) rfl)) (fun _ h9 => h9) rfl dX16_named_18 ?_
      refine lv_iload_n hx hb dX16_named_21 rfl (lv_at hl 1 rfl) ?_
      obtain ⟨i12, h⟩ := nd_ck_e h
      refine va_zald (i := x1) hx hb hK hP 27 26 rfl rfl i12 dX16_named_22 ?_
      refine lv_if_eq (tgt := 30) hx hb dX16_named_23 (by decide) (fun c13 => ?_) (fun c13 => ?_)
      · have h := nd_pos h c13
        exact (db_X16_named_30 C K J2) (x1) s0 _ _ _ h hP hD hS (lv_sub hl [0, 1] rfl)
      · have h := nd_neg h c13
        refine lv_iconst (v := 1) hx hb dX16_named_26 (by decide) ?_
        refine lv_goto (tgt := 31) hx hb dX16_named_27 (by decide) ?_
        exact (db_X16_named_31 C K J2) (x1) (1) s0 _ _ _ h hP hD hS (lv_sub hl [0, 1] rfl)
set_option maxHeartbeats 40000000 in
set_option maxRecDepth 100000 in
theorem db_X16_named_2 {p : Program} {l : Launch} {e : Env} {s : State} {m : MethodId} {args : Array Value} {below : List Frame} {meth : Method} {c : Code} {Q : State → Prop} {A : Nat → Prop} {dC : Nat → ClassId} {dI : Nat → Nat → Nat} {a : Nat → Nat} {ac : Nat → ClassId} {n : Nat} {r : Int32 × (St × (St))} (C : nd_C p l s m args c A (dC, dI) cX16_named 4 RX16 ow_dm_X16_named (dk_X16 ac)) (K : nd_Ki p l e (headSpec ow_dm_X16_named ({ frames := 0, cells := 0, slots := 0, locals := 0 })).room s m args below meth c Q A (dC, dI) cX16_named .int (St × (St)) (dw_X16 a ac) r) (k : Nat) : dj_X16_named_2 p l e s m args below meth c Q A dC dI a ac (df_X16_named_2 n k) r := by
  induction k with
  | zero => intro x1 s0 H locs ls h; exact nomatch (show (none : Option (Int32 × (St × (St)))) = some r from h)
  | succ k ih => exact dB_X16_named_2 C K ih
set_option maxHeartbeats 40000000 in
set_option maxRecDepth 100000 in
theorem db_X16_named_0 {p : Program} {l : Launch} {e : Env} {s : State} {m : MethodId} {args : Array Value} {below : List Frame} {meth : Method} {c : Code} {Q : State → Prop} {A : Nat → Prop} {dC : Nat → ClassId} {dI : Nat → Nat → Nat} {a : Nat → Nat} {ac : Nat → ClassId} {n : Nat} {r : Int32 × (St × (St))} (C : nd_C p l s m args c A (dC, dI) cX16_named 4 RX16 ow_dm_X16_named (dk_X16 ac)) (K : nd_Ki p l e (headSpec ow_dm_X16_named ({ frames := 0, cells := 0, slots := 0, locals := 0 })).room s m args below meth c Q A (dC, dI) cX16_named .int (St × (St)) (dw_X16 a ac) r) : dj_X16_named_0 p l e s m args below meth c Q A dC dI a ac (df_X16_named_0 n) r := by
  obtain ⟨hlt, hx, hb, hml, hown, hts, hN, hA, hK⟩ := id C
  intro s0 H locs ls h hP hD hS hl
  unfold df_X16_named_0 at h
  refine lv_iconst (v := 0) hx hb dX16_named_0 (by decide) ?_
  refine lv_istore_n (lv' := [(1, .int 0), (0, .ref (a 0))]) hx hb dX16_named_1 rfl hl (by decide) rfl (fun ls hl => ?_)
  exact (db_X16_named_2 C K n) (0) s0 _ _ _ h hP hD hS (lv_sub hl [1, 0] rfl)
set_option maxHeartbeats 40000000 in
set_option maxRecDepth 100000 in
theorem dm_X16_named (l : Launch) (hlt : l.stackTraces = false) (dC : Nat → ClassId) (dI : Nat → Nat → Nat) (a : Nat → Nat) (ac : Nat → ClassId) (n : Nat) (s0 : St × (St)) {r : Int32 × (St × (St))} (h : df_X16_named n s0 = some r) (sz : Nat) : Met l yX16_named ow_dm_X16_named ({ frames := 0, cells := 0, slots := 0, locals := 0 }) (va_Pc [.ref (a 0)] (fun U => U.heap.size = sz ∧ va_P (dC, dI) vwCl (dw_X16 a ac s0) U.heap ∧ va_K (dC, dI) vwCl (dk_X16 ac) U ∧ va_D (fun _ => True) (dw_X16 a ac s0) ∧ nv_E (va_A (dw_X16 a ac s0) sz) U)) (va_Qi (fun x _ => x = r.1) (fun (_ : Unit) t => va_P (dC, dI) vwCl (dw_X16 a ac r.2) t.heap ∧ va_K (dC, dI) vwCl (dk_X16 ac) t ∧ va_D (va_A (dw_X16 a ac s0) sz) (dw_X16 a ac r.2)) (va_A (dw_X16 a ac s0) sz)) 0 0 (va_A (dw_X16 a ac s0) sz) := by
  refine Met.ofW (cc := cX16_named) (maxL := 4) (ret := (some .int)) (by decide) rfl ?_
  intro p e s m args below meth c s₁ B hml hv
  obtain ⟨rfl, hsz, hP, hK, hD0, hN⟩ := hv
  have hx := B.exec
  have hb := B.bytes
  have hr := B.returns
  have hts := atoms_spec (ws := ow_dm_X16_named) B.pre
  have hown : s.vm.findClass RX16 = some m.cls := findClass_of_methodNamed B.named
  have hlocks := B.notSynchronized
  subst hsz
  have hD := hD0.self (sz := s.heap.size)
  generalize hAe : va_A (dw_X16 a ac s0) s.heap.size = A at hD hN ⊢
  have hA : ∀ q : Nat, s.heap.size ≤ q → A q := fun q h => by rw [← hAe]; exact Or.inr h
  have hl := lv_entry ([.ref (a 0)]) (n := 4) (Nat.le_of_ble_eq_true rfl)
  rw [lg_entry_eq]
  generalize (lg_sl ([.ref (a 0)]) ++ List.replicate (4 - (lg_sl ([.ref (a 0)])).length) Slot.unset).toArray = ls at hl ⊢
  have hl : lv_has ls 4 [(0, .ref (a 0))] := hl
  exact db_X16_named_0 (dC := dC) (dI := dI) (a := a) (ac := ac) (n := n) (r := r) ⟨hlt, hx, hb, hml, hown, hts, hN, hA, hK⟩ (fun pc v τ H locs ls d z er hP hD hS => by subst er; exact W.zret (v := v) hx hb hr z (fun t ht hW => ⟨⟨v, (), rfl, rfl, by rw [ht]; exact hP, va_K.moved hW.alike hK, hD⟩, hS.F ht⟩) hS.2.2 d) s0 _ _ _ h hP hD va_S.rf (lv_sub hl [0] rfl)
def ow_dm_X16_entitle : List Cond := .code yX16_entitle cX16_entitle 3 none :: ([.fieldLink RX16 91 "TimeMachineModel$Machine" "isNamed" "[Z", .fieldLink RX16 106 "TimeMachineModel$Machine" "names" "[I", .fieldLink RX16 115 "TimeMachineModel$Machine" "name" "[I"] ++ (u_ws RX16 TX16 56 ++ []))
theorem gd_dm_X16_entitle : ∀ w ∈ ow_dm_X16_entitle, (w.onTables && w.keeps) = true ∨ ∃ ty, w = Cond.arrayClass ty := List.forall_mem_cons.mpr ⟨good_of_word rfl, List.forall_mem_append.mpr ⟨fun w h => good_of_word (List.all_eq_true.mp (by decide +kernel) w h), List.forall_mem_append.mpr ⟨gu_X16, fun _ h => nomatch h⟩⟩⟩
theorem hi_dm_X16_entitle_X16 : ∀ w ∈ u_ws RX16 TX16 56, w ∈ ow_dm_X16_entitle := fun w h => List.mem_cons_of_mem _ (List.mem_append_right _ (List.mem_append_left _ h))
def dj_X16_entitle_9 (p : Program) (l : Launch) (e : Env) (s : State) (m : MethodId) (args : Array Value) (below : List Frame) (meth : Method) (c : Code) (Q : State → Prop) (A : Nat → Prop) (dC : Nat → ClassId) (dI : Nat → Nat → Nat) (a : Nat → Nat) (ac : Nat → ClassId) (g : Int32 → Int32 → (St × (St)) → Option (St × (St))) (r : St × (St)) : Prop := ∀ (x1 : Int32) (x2 : Int32) (s0 : St × (St)) (H : Heap) (locs : List Loc) (ls : Array Slot), g x1 x2 s0 = some r → va_P (dC, dI) vwCl (dw_X16 a ac s0) H → va_D A (dw_X16 a ac s0) → va_S A s.heap H locs → lv_has ls 3 [(0, .ref (a 0)), (1, .int x1), (2, .int x2)] → W p l e (headSpec ow_dm_X16_entitle ({ frames := 0, cells := 0, slots := 0, locals := 0 })).room s m args below meth c H locs 0 0 Q (F0 m 9 ls [])
def dj_X16_entitle_0 (p : Program) (l : Launch) (e : Env) (s : State) (m : MethodId) (args : Array Value) (below : List Frame) (meth : Method) (c : Code) (Q : State → Prop) (A : Nat → Prop) (dC : Nat → ClassId) (dI : Nat → Nat → Nat) (a : Nat → Nat) (ac : Nat → ClassId) (g : Int32 → (St × (St)) → Option (St × (St))) (r : St × (St)) : Prop := ∀ (v0 : Int32) (s0 : St × (St)) (H : Heap) (locs : List Loc) (ls : Array Slot), g v0 s0 = some r → va_P (dC, dI) vwCl (dw_X16 a ac s0) H → va_D A (dw_X16 a ac s0) → va_S A s.heap H locs → lv_has ls 3 [(0, .ref (a 0)), (1, .int v0)] → W p l e (headSpec ow_dm_X16_entitle ({ frames := 0, cells := 0, slots := 0, locals := 0 })).room s m args below meth c H locs 0 0 Q (F0 m 0 ls [])
set_option maxHeartbeats 40000000 in
set_option maxRecDepth 100000 in
theorem dB_X16_entitle_9 {p : Program} {l : Launch} {e : Env} {s : State} {m : MethodId} {args : Array Value} {below : List Frame} {meth : Method} {c : Code} {Q : State → Prop} {A : Nat → Prop} {dC : Nat → ClassId} {dI : Nat → Nat → Nat} {a : Nat → Nat} {ac : Nat → ClassId} {n : Nat} {r : St × (St)} (C : nd_C p l s m args c A (dC, dI) cX16_entitle 3 RX16 ow_dm_X16_entitle (dk_X16 ac)) (K : nd_Kv p l e (headSpec ow_dm_X16_entitle ({ frames := 0, cells := 0, slots := 0, locals := 0 })).room s m args below meth c Q A (dC, dI) cX16_entitle (St × (St)) (dw_X16 a ac) r) {g9 : Int32 → Int32 → (St × (St)) → Option (St × (St))} (J9 : dj_X16_entitle_9 p l e s m args below meth c Q A dC dI a ac g9 r) : dj_X16_entitle_9 p l e s m args below meth c Q A dC dI a ac (dF_X16_entitle_9 n g9) r := by
  obtain ⟨hlt, hx, hb, hml, hown, hts, hN, hA, hK⟩ := id C
  intro x1 x2 s0 H locs ls h hP hD hS hl
  unfold dF_X16_entitle_9 at h
  refine lv_iload_n hx hb dX16_entitle_9 rfl (lv_at hl 2 rfl) ?_
  refine lv_bipush (v := 16) hx hb dX16_entitle_10 (by decide) ?_
  refine lv_icmp_ge (tgt := 38) hx hb dX16_entitle_12 (by decide) (fun c3 => ?_) (fun c3 => ?_)
  · have h := nd_pos h c3
    exact K _ _ _ _ _ dX16_entitle_38 (Option.some.inj h).symm hP hD hS
  · have h := nd_neg h c3
    refine lv_aload_n hx hb dX16_entitle_15 rfl (lv_at hl 0 rfl) ?_
    refine va_get (D := (dC, dI)) (ci := 17) (v := .ref (a 32)) (C := RX16) (T := TX16) (N := 56) hx hb hts hi_dm_X16_entitle_X16 hown hK hP 0 rfl rfl 41 (by decide) (hts (.fieldLink RX16 106 "TimeMachineModel$Machine" "names" "[I") (List.mem_of_getElem? (i := 2) rfl)) (fun _ h9 => h9) rfl dX16_entitle_16 ?_
    refine lv_bipush (v := 16) hx hb dX16_entitle_19 (by decide) ?_
    refine lv_iload_n hx hb dX16_entitle_21 rfl (lv_at hl 1 rfl) ?_
    refine lv_imul hx hb dX16_entitle_22 ?_
    refine lv_iload_n hx hb dX16_entitle_23 rfl (lv_at hl 2 rfl) ?_
    refine lv_iadd hx hb dX16_entitle_24 ?_
    refine lv_aload_n hx hb dX16_entitle_25 rfl (lv_at hl 0 rfl) ?_
    refine va_get (D := (dC, dI)) (ci := 17) (v := .ref (a 35)) (C := RX16) (T := TX16) (N := 56) hx hb hts hi_dm_X16_entitle_X16 hown hK hP 0 rfl rfl 46 (by decide) (hts (.fieldLink RX16 115 "TimeMachineModel$Machine" "name" "[I") (List.mem_of_getElem? (i := 3) rfl)) (fun _ h9 => h9) rfl dX16_entitle_26 ?_
    refine lv_iload_n hx hb dX16_entitle_29 rfl (lv_at hl 2 rfl) ?_
    obtain ⟨i4, h⟩ := nd_ck_e h
    refine va_iald (i := x2) hx hb hK hP 35 34 rfl rfl i4 dX16_entitle_30 ?_
    obtain ⟨i5, h⟩ := nd_ck_e h
    refine va_iast (i := ((16 * x1) + x2)) (x := (sR s0.1 33 (Int32.toNatClampNeg x2))) hx hb hK hP hD hS 32 31 rfl rfl i5 dX16_entitle_31 (fun H locs hP hD hS => ?_)
    obtain ⟨s6, es6, h⟩ := nd_let_e h
    have hP : va_P (dC, dI) vwCl (dw_X16 a ac s6) H := by rw [es6]; exact hP
    have hD : va_D A (dw_X16 a ac s6) := by rw [es6]; exact hD
    obtain ⟨z7, ez7, h⟩ := nd_let_e h
    refine lv_iinc (v := z7) (lv' := [(2, .int z7), (0, .ref (a 0)), (1, .int x1)]) hx hb dX16_entitle_32 hl (k := 2) rfl (by rw [ez7]) (by decide) rfl (fun ls hl => ?_)
    refine lv_goto (tgt := 9) hx hb dX16_entitle_35 (by decide) ?_
    exact (J9) (x1) (z7) s6 _ _ _ h hP hD hS (lv_sub hl [1, 2, 0] rfl)
set_option maxHeartbeats 40000000 in
set_option maxRecDepth 100000 in
theorem db_X16_entitle_9 {p : Program} {l : Launch} {e : Env} {s : State} {m : MethodId} {args : Array Value} {below : List Frame} {meth : Method} {c : Code} {Q : State → Prop} {A : Nat → Prop} {dC : Nat → ClassId} {dI : Nat → Nat → Nat} {a : Nat → Nat} {ac : Nat → ClassId} {n : Nat} {r : St × (St)} (C : nd_C p l s m args c A (dC, dI) cX16_entitle 3 RX16 ow_dm_X16_entitle (dk_X16 ac)) (K : nd_Kv p l e (headSpec ow_dm_X16_entitle ({ frames := 0, cells := 0, slots := 0, locals := 0 })).room s m args below meth c Q A (dC, dI) cX16_entitle (St × (St)) (dw_X16 a ac) r) (k : Nat) : dj_X16_entitle_9 p l e s m args below meth c Q A dC dI a ac (df_X16_entitle_9 n k) r := by
  induction k with
  | zero => intro x1 x2 s0 H locs ls h; exact nomatch (show (none : Option (St × (St))) = some r from h)
  | succ k ih => exact dB_X16_entitle_9 C K ih
