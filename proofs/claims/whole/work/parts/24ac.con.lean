set_option maxHeartbeats 40000000 in
set_option maxRecDepth 100000 in
theorem dB_X3_writeLog_21 {p : Program} {l : Launch} {e : Env} {s : State} {m : MethodId} {args : Array Value} {below : List Frame} {meth : Method} {c : Code} {Q : State → Prop} {A : Nat → Prop} {dC : Nat → ClassId} {dI : Nat → Nat → Nat} {a : Nat → Nat} {ac : Nat → ClassId} {n : Nat} {r : Int32 × (St × (St))} (C : nd_C p l s m args c A (dC, dI) cX3_writeLog 4 RX3 ow_dm_X3_writeLog (dk_X3s ac)) (K : nd_Ki p l e (headSpec ow_dm_X3_writeLog ({ frames := 3, cells := 0, slots := 0, locals := 73 })).room s m args below meth c Q A (dC, dI) cX3_writeLog .int (St × (St)) (dw_X3s a ac) r) {g21 : Int32 → (St × (St)) → Option (Int32 × (St × (St)))} (J21 : dj_X3_writeLog_21 p l e s m args below meth c Q A dC dI a ac g21 r) : dj_X3_writeLog_21 p l e s m args below meth c Q A dC dI a ac (dF_X3_writeLog_21 n (a 0) g21) r := by
  obtain ⟨hlt, hx, hb, hml, hown, hts, hN, hA, hK⟩ := id C
  intro x2 s0 H locs ls h hP hD hS hl
  unfold dF_X3_writeLog_21 at h
  refine lv_iload_n hx hb dX3_writeLog_21 rfl (lv_at hl 1 rfl) ?_
  refine lv_aload_n hx hb dX3_writeLog_22 rfl (lv_at hl 0 rfl) ?_
  refine va_get (D := (dC, dI)) (ci := 4) (v := .int (sI s0.2 0)) (C := RX3) (T := TX3) (N := 11) hx hb hts hi_dm_X3_writeLog_X3 hown hK hP 1 rfl rfl 4 (by decide) (hts (.fieldLink RX3 35 "TimeMachine$Events" "recorded" "I") (List.mem_of_getElem? (i := 3) rfl)) (fun _ h9 => h9) rfl dX3_writeLog_23 ?_
  refine lv_icmp_ge (tgt := 88) hx hb dX3_writeLog_26 (by decide) (fun c6 => ?_) (fun c6 => ?_)
  · have h := nd_pos h c6
    refine lv_aload_n hx hb dX3_writeLog_88 rfl (lv_at hl 0 rfl) ?_
    refine va_get (D := (dC, dI)) (ci := 4) (v := .int (sI s0.2 2)) (C := RX3) (T := TX3) (N := 11) hx hb hts hi_dm_X3_writeLog_X3 hown hK hP 1 rfl rfl 7 (by decide) (hts (.fieldLink RX3 44 "TimeMachine$Events" "place" "I") (List.mem_of_getElem? (i := 2) rfl)) (fun _ h9 => h9) rfl dX3_writeLog_89 ?_
    exact K _ _ _ _ _ _ dX3_writeLog_92 rfl (Option.some.inj h).symm hP hD hS
  · have h := nd_neg h c6
    refine lv_aload_n hx hb dX3_writeLog_29 rfl (lv_at hl 0 rfl) ?_
    refine lv_iload_n hx hb dX3_writeLog_30 rfl (lv_at hl 1 rfl) ?_
    obtain ⟨q7, s8, hq, h⟩ := nd_b2_e h
    have hPc := dp_X3s_1 hP
    have hDc := dd_X3s_1 hD
    have hKc := dy_X3s_1 hK
    have hFc := nd_rs hDc hS hA
    have hzA : ∀ q : Nat, H.size ≤ q → A q := fun q h => hA q (Nat.le_trans hS.1 h)
    refine nd_cVi (As := [.int x2]) (rest := []) (q := q7) (w' := dw_X3c (fun k => a (k + 1)) (fun k => ac (k + 1)) s8) ⟨hx, hb, hml, hown, hts⟩ (fun sz => dm_X3_likeBefore l hlt dC dI (fun k => a (k + 1)) (fun k => ac (k + 1)) n (x2) s0.2 hq sz) (cwV 1 hts gi_dm_X3_writeLog_1 rfl rfl rfl (by decide +kernel) ⟨Nat.le_of_ble_eq_true rfl, Nat.le_of_ble_eq_true rfl⟩) hPc hDc hKc hS hA hN (va_recv hKc hPc (ci := 4) (q0 := 0) rfl rfl) rfl hl.1 rfl (Nat.le_of_ble_eq_true rfl) dX3_writeLog_31 (fun H locs hP1 hD1 hk1 hS => ?_)
    obtain ⟨hP, hD⟩ := dn_X3s_1 hP hD hzA hk1 hP1 hD1
    obtain ⟨s10, es10, h⟩ := nd_let_e h
    have hP : va_P (dC, dI) vwCl (dw_X3s a ac s10) H := by rw [es10]; exact hP
    have hD : va_D A (dw_X3s a ac s10) := by rw [es10]; exact hD
    refine lv_istore_n (lv' := [(3, .int q7), (0, .ref (a 1)), (2, .int x2)]) hx hb dX3_writeLog_34 rfl hl (by decide) rfl (fun ls hl => ?_)
    refine lv_iload_n hx hb dX3_writeLog_35 rfl (lv_at hl 0 rfl) ?_
    refine lv_if_ne (tgt := 50) hx hb dX3_writeLog_36 (by decide) (fun c11 => ?_) (fun c11 => ?_)
    · have h := nd_neg h c11
      refine lv_aload_n hx hb dX3_writeLog_50 rfl (lv_at hl 1 rfl) ?_
      refine lv_iconst (v := 5) hx hb dX3_writeLog_51 (by decide) ?_
      refine lv_iload_n hx hb dX3_writeLog_52 rfl (lv_at hl 0 rfl) ?_
      refine lv_bipush (v := 15) hx hb dX3_writeLog_53 (by decide) ?_
      refine lv_icmp_gt (tgt := 64) hx hb dX3_writeLog_55 (by decide) (fun c12 => ?_) (fun c12 => ?_)
      · have h := nd_pos h c12
        refine lv_iconst (v := 0) hx hb dX3_writeLog_64 (by decide) ?_
        exact (db_X3_writeLog_65 C K J21) (x2) (q7) (5) (0) s10 _ _ _ h hP hD hS (lv_sub hl [1, 2, 0] rfl)
      · have h := nd_neg h c12
        refine lv_iload_n hx hb dX3_writeLog_58 rfl (lv_at hl 0 rfl) ?_
        refine lv_iconst (v := 4) hx hb dX3_writeLog_59 (by decide) ?_
        refine lv_ishl hx hb dX3_writeLog_60 ?_
        refine lv_goto (tgt := 65) hx hb dX3_writeLog_61 (by decide) ?_
        exact (db_X3_writeLog_65 C K J21) (x2) (q7) (5) (((q7 : Int32) <<< ((4 : Int32) &&& 31))) s10 _ _ _ h hP hD hS (lv_sub hl [1, 2, 0] rfl)
    · have h := nd_pos h c11
      refine lv_aload_n hx hb dX3_writeLog_39 rfl (lv_at hl 1 rfl) ?_
      refine lv_iload_n hx hb dX3_writeLog_40 rfl (lv_at hl 2 rfl) ?_
      obtain ⟨s22, hq, h⟩ := nd_b1_e h
      have hPc := hP
      have hDc := hD
      have hKc := hK
      have hFc := nd_rs hD hS hA
      refine nd_cVv (As := [.int x2]) (rest := []) (w' := dw_X3s a ac s22) ⟨hx, hb, hml, hown, hts⟩ (fun sz => dm_X3_putEntry l hlt dC dI a ac n (x2) s10 hq sz) (cwV 1 hts gi_dm_X3_writeLog_3 rfl rfl rfl (by decide +kernel) ⟨Nat.le_of_ble_eq_true rfl, Nat.le_of_ble_eq_true rfl⟩) hPc hDc hKc hS hA hN (va_recv hKc hPc (ci := 4) (q0 := 1) rfl rfl) rfl hl.1 rfl (Nat.le_of_ble_eq_true rfl) dX3_writeLog_41 (fun H locs hP1 hD1 hk1 hS => ?_)
      have hP := hP1
      have hD := hD1.weaken (fun k q _ h => hFc q.1 h)
      obtain ⟨z24, ez24, h⟩ := nd_let_e h
      refine lv_iinc (v := z24) (lv' := [(2, .int z24), (3, .int q7), (0, .ref (a 1))]) hx hb dX3_writeLog_44 hl (k := 2) rfl (by rw [ez24]) (by decide) rfl (fun ls hl => ?_)
      refine lv_goto (tgt := 85) hx hb dX3_writeLog_47 (by decide) ?_
      exact (db_X3_writeLog_85 C K J21) (z24) s22 _ _ _ h hP hD hS (lv_sub hl [2, 0] rfl)
set_option maxHeartbeats 40000000 in
set_option maxRecDepth 100000 in
theorem db_X3_writeLog_21 {p : Program} {l : Launch} {e : Env} {s : State} {m : MethodId} {args : Array Value} {below : List Frame} {meth : Method} {c : Code} {Q : State → Prop} {A : Nat → Prop} {dC : Nat → ClassId} {dI : Nat → Nat → Nat} {a : Nat → Nat} {ac : Nat → ClassId} {n : Nat} {r : Int32 × (St × (St))} (C : nd_C p l s m args c A (dC, dI) cX3_writeLog 4 RX3 ow_dm_X3_writeLog (dk_X3s ac)) (K : nd_Ki p l e (headSpec ow_dm_X3_writeLog ({ frames := 3, cells := 0, slots := 0, locals := 73 })).room s m args below meth c Q A (dC, dI) cX3_writeLog .int (St × (St)) (dw_X3s a ac) r) (k : Nat) : dj_X3_writeLog_21 p l e s m args below meth c Q A dC dI a ac (df_X3_writeLog_21 n (a 0) k) r := by
  induction k with
  | zero => intro x2 s0 H locs ls h; exact nomatch (show (none : Option (Int32 × (St × (St)))) = some r from h)
  | succ k ih => exact dB_X3_writeLog_21 C K ih
set_option maxHeartbeats 40000000 in
set_option maxRecDepth 100000 in
theorem db_X3_writeLog_0 {p : Program} {l : Launch} {e : Env} {s : State} {m : MethodId} {args : Array Value} {below : List Frame} {meth : Method} {c : Code} {Q : State → Prop} {A : Nat → Prop} {dC : Nat → ClassId} {dI : Nat → Nat → Nat} {a : Nat → Nat} {ac : Nat → ClassId} {n : Nat} {r : Int32 × (St × (St))} (C : nd_C p l s m args c A (dC, dI) cX3_writeLog 4 RX3 ow_dm_X3_writeLog (dk_X3s ac)) (K : nd_Ki p l e (headSpec ow_dm_X3_writeLog ({ frames := 3, cells := 0, slots := 0, locals := 73 })).room s m args below meth c Q A (dC, dI) cX3_writeLog .int (St × (St)) (dw_X3s a ac) r) : dj_X3_writeLog_0 p l e s m args below meth c Q A dC dI a ac (df_X3_writeLog_0 n (a 0)) r := by
  obtain ⟨hlt, hx, hb, hml, hown, hts, hN, hA, hK⟩ := id C
  intro s0 H locs ls h hP hD hS hl
  unfold df_X3_writeLog_0 at h
  refine lv_aload_n hx hb dX3_writeLog_0 rfl (lv_at hl 0 rfl) ?_
  refine lv_aload_n hx hb dX3_writeLog_1 rfl (lv_at hl 1 rfl) ?_
  refine va_put (D := (dC, dI)) (ci := 4) (v := .ref (a 0)) (ty := .array .byte) (C := RX3) (T := TX3) (N := 11) hx hb hts hi_dm_X3_writeLog_X3 tyX3 tyX3_ok nmX3 hown hK hP hD hS 1 rfl rfl 6 (by decide) (hts (.fieldLink RX3 23 "TimeMachine$Events" "row" "[B") (List.mem_of_getElem? (i := 1) rfl)) (fun _ h9 => h9) rfl (by decide +kernel) rfl rfl (Nat.le_of_ble_eq_true rfl) dX3_writeLog_2 (fun H locs hP hD hS => ?_)
  obtain ⟨s1, es1, h⟩ := nd_let_e h
  have hP : va_P (dC, dI) vwCl (dw_X3s a ac s1) H := by rw [es1]; exact hP
  have hD : va_D A (dw_X3s a ac s1) := by rw [es1]; exact hD
  refine lv_aload_n hx hb dX3_writeLog_5 rfl (lv_at hl 0 rfl) ?_
  refine lv_iconst (v := 0) hx hb dX3_writeLog_6 (by decide) ?_
  refine va_put (D := (dC, dI)) (ci := 4) (v := .int 0) (ty := .int) (C := RX3) (T := TX3) (N := 11) hx hb hts hi_dm_X3_writeLog_X3 tyX3 tyX3_ok nmX3 hown hK hP hD hS 1 rfl rfl 7 (by decide) (hts (.fieldLink RX3 44 "TimeMachine$Events" "place" "I") (List.mem_of_getElem? (i := 2) rfl)) (fun _ h9 => h9) rfl (by decide +kernel) rfl rfl (Nat.le_of_ble_eq_true rfl) dX3_writeLog_7 (fun H locs hP hD hS => ?_)
  obtain ⟨s2, es2, h⟩ := nd_let_e h
  have hP : va_P (dC, dI) vwCl (dw_X3s a ac s2) H := by rw [es2]; exact hP
  have hD : va_D A (dw_X3s a ac s2) := by rw [es2]; exact hD
  refine lv_aload_n hx hb dX3_writeLog_10 rfl (lv_at hl 0 rfl) ?_
  refine lv_aload_n hx hb dX3_writeLog_11 rfl (lv_at hl 0 rfl) ?_
  refine va_get (D := (dC, dI)) (ci := 4) (v := .int (sI s2.2 0)) (C := RX3) (T := TX3) (N := 11) hx hb hts hi_dm_X3_writeLog_X3 hown hK hP 1 rfl rfl 4 (by decide) (hts (.fieldLink RX3 35 "TimeMachine$Events" "recorded" "I") (List.mem_of_getElem? (i := 3) rfl)) (fun _ h9 => h9) rfl dX3_writeLog_12 ?_
  refine lv_i2l hx hb dX3_writeLog_15 rfl ?_
  obtain ⟨s4, hq, h⟩ := nd_b1_e h
  have hPc := hP
  have hDc := hD
  have hKc := hK
  have hFc := nd_rs hD hS hA
  refine nd_cVv (As := [.long (((sI s2.2 0) : Int32).toInt64)]) (rest := []) (w' := dw_X3s a ac s4) ⟨hx, hb, hml, hown, hts⟩ (fun sz => dm_X3_putVarint l hlt dC dI a ac n ((((sI s2.2 0) : Int32).toInt64)) s2 hq sz) (cwV 1 hts gi_dm_X3_writeLog_0 rfl rfl rfl (by decide +kernel) ⟨Nat.le_of_ble_eq_true rfl, Nat.le_of_ble_eq_true rfl⟩) hPc hDc hKc hS hA hN (va_recv hKc hPc (ci := 4) (q0 := 1) rfl rfl) rfl hl.1 rfl (Nat.le_of_ble_eq_true rfl) dX3_writeLog_16 (fun H locs hP1 hD1 hk1 hS => ?_)
  have hP := hP1
  have hD := hD1.weaken (fun k q _ h => hFc q.1 h)
  refine lv_iconst (v := 0) hx hb dX3_writeLog_19 (by decide) ?_
  refine lv_istore_n (lv' := [(2, .int 0), (0, .ref (a 1)), (1, .ref (a 0))]) hx hb dX3_writeLog_20 rfl hl (by decide) rfl (fun ls hl => ?_)
  exact (db_X3_writeLog_21 C K n) (0) s4 _ _ _ h hP hD hS (lv_sub hl [1, 0] rfl)
set_option maxHeartbeats 40000000 in
set_option maxRecDepth 100000 in
theorem dm_X3_writeLog (l : Launch) (hlt : l.stackTraces = false) (dC : Nat → ClassId) (dI : Nat → Nat → Nat) (a : Nat → Nat) (ac : Nat → ClassId) (n : Nat) (s0 : St × (St)) {r : Int32 × (St × (St))} (h : df_X3_writeLog n (a 0) s0 = some r) (sz : Nat) : Met l yX3_writeLog ow_dm_X3_writeLog ({ frames := 3, cells := 0, slots := 0, locals := 73 }) (va_Pc [.ref (a 1), .ref (a 0)] (fun U => U.heap.size = sz ∧ va_P (dC, dI) vwCl (dw_X3s a ac s0) U.heap ∧ va_K (dC, dI) vwCl (dk_X3s ac) U ∧ va_D (fun _ => True) (dw_X3s a ac s0) ∧ nv_E (va_A (dw_X3s a ac s0) sz) U)) (va_Qi (fun x _ => x = r.1) (fun (_ : Unit) t => va_P (dC, dI) vwCl (dw_X3s a ac r.2) t.heap ∧ va_K (dC, dI) vwCl (dk_X3s ac) t ∧ va_D (va_A (dw_X3s a ac s0) sz) (dw_X3s a ac r.2)) (va_A (dw_X3s a ac s0) sz)) 0 0 (va_A (dw_X3s a ac s0) sz) := by
  refine Met.ofW (cc := cX3_writeLog) (maxL := 4) (ret := (some .int)) (by decide) rfl ?_
  intro p e s m args below meth c s₁ B hml hv
  obtain ⟨rfl, hsz, hP, hK, hD0, hN⟩ := hv
  have hx := B.exec
  have hb := B.bytes
  have hr := B.returns
  have hts := atoms_spec (ws := ow_dm_X3_writeLog) B.pre
  have hown : s.vm.findClass RX3 = some m.cls := findClass_of_methodNamed B.named
  have hlocks := B.notSynchronized
  subst hsz
  have hD := hD0.self (sz := s.heap.size)
  generalize hAe : va_A (dw_X3s a ac s0) s.heap.size = A at hD hN ⊢
  have hA : ∀ q : Nat, s.heap.size ≤ q → A q := fun q h => by rw [← hAe]; exact Or.inr h
  have hl := lv_entry ([.ref (a 1), .ref (a 0)]) (n := 4) (Nat.le_of_ble_eq_true rfl)
  rw [lg_entry_eq]
  generalize (lg_sl ([.ref (a 1), .ref (a 0)]) ++ List.replicate (4 - (lg_sl ([.ref (a 1), .ref (a 0)])).length) Slot.unset).toArray = ls at hl ⊢
  have hl : lv_has ls 4 [(0, .ref (a 1)), (1, .ref (a 0))] := hl
  exact db_X3_writeLog_0 (dC := dC) (dI := dI) (a := a) (ac := ac) (n := n) (r := r) ⟨hlt, hx, hb, hml, hown, hts, hN, hA, hK⟩ (fun pc v τ H locs ls d z er hP hD hS => by subst er; exact W.zret (v := v) hx hb hr z (fun t ht hW => ⟨⟨v, (), rfl, rfl, by rw [ht]; exact hP, va_K.moved hW.alike hK, hD⟩, hS.F ht⟩) hS.2.2 d) s0 _ _ _ h hP hD va_S.rf (lv_sub hl [0, 1] rfl)
def ow_dm_X3_blame : List Cond := .code yX3_blame cX3_blame 3 none :: ([.fieldLink RX3 95 "TimeMachine$Events" "fault" "I", .fieldLink RX3 114 "TimeMachine$Events" "faultPlace" "I"] ++ (u_ws RX3 TX3 11 ++ []))
theorem gd_dm_X3_blame : ∀ w ∈ ow_dm_X3_blame, (w.onTables && w.keeps) = true ∨ ∃ ty, w = Cond.arrayClass ty := List.forall_mem_cons.mpr ⟨good_of_word rfl, List.forall_mem_append.mpr ⟨fun w h => good_of_word (List.all_eq_true.mp (by decide +kernel) w h), List.forall_mem_append.mpr ⟨gu_X3, fun _ h => nomatch h⟩⟩⟩
theorem hi_dm_X3_blame_X3 : ∀ w ∈ u_ws RX3 TX3 11, w ∈ ow_dm_X3_blame := fun w h => List.mem_cons_of_mem _ (List.mem_append_right _ (List.mem_append_left _ h))
def dj_X3_blame_17 (p : Program) (l : Launch) (e : Env) (s : State) (m : MethodId) (args : Array Value) (below : List Frame) (meth : Method) (c : Code) (Q : State → Prop) (A : Nat → Prop) (dC : Nat → ClassId) (dI : Nat → Nat → Nat) (a : Nat → Nat) (ac : Nat → ClassId) (g : (St) → Option (St)) (r : St) : Prop := ∀ (s0 : St) (H : Heap) (locs : List Loc) (ls : Array Slot), g s0 = some r → va_P (dC, dI) vwCl (dw_X3c a ac s0) H → va_D A (dw_X3c a ac s0) → va_S A s.heap H locs → lv_has ls 3 [] → W p l e (headSpec ow_dm_X3_blame ({ frames := 0, cells := 0, slots := 0, locals := 0 })).room s m args below meth c H locs 0 0 Q (F0 m 17 ls [])
def dj_X3_blame_0 (p : Program) (l : Launch) (e : Env) (s : State) (m : MethodId) (args : Array Value) (below : List Frame) (meth : Method) (c : Code) (Q : State → Prop) (A : Nat → Prop) (dC : Nat → ClassId) (dI : Nat → Nat → Nat) (a : Nat → Nat) (ac : Nat → ClassId) (g : Int32 → Int32 → (St) → Option (St)) (r : St) : Prop := ∀ (v0 : Int32) (v1 : Int32) (s0 : St) (H : Heap) (locs : List Loc) (ls : Array Slot), g v0 v1 s0 = some r → va_P (dC, dI) vwCl (dw_X3c a ac s0) H → va_D A (dw_X3c a ac s0) → va_S A s.heap H locs → lv_has ls 3 [(0, .ref (a 0)), (1, .int v0), (2, .int v1)] → W p l e (headSpec ow_dm_X3_blame ({ frames := 0, cells := 0, slots := 0, locals := 0 })).room s m args below meth c H locs 0 0 Q (F0 m 0 ls [])
set_option maxHeartbeats 40000000 in
set_option maxRecDepth 100000 in
theorem db_X3_blame_17 {p : Program} {l : Launch} {e : Env} {s : State} {m : MethodId} {args : Array Value} {below : List Frame} {meth : Method} {c : Code} {Q : State → Prop} {A : Nat → Prop} {dC : Nat → ClassId} {dI : Nat → Nat → Nat} {a : Nat → Nat} {ac : Nat → ClassId} {n : Nat} {r : St} (C : nd_C p l s m args c A (dC, dI) cX3_blame 3 RX3 ow_dm_X3_blame (dk_X3c ac)) (K : nd_Kv p l e (headSpec ow_dm_X3_blame ({ frames := 0, cells := 0, slots := 0, locals := 0 })).room s m args below meth c Q A (dC, dI) cX3_blame (St) (dw_X3c a ac) r) : dj_X3_blame_17 p l e s m args below meth c Q A dC dI a ac (df_X3_blame_17 n) r := by
  obtain ⟨hlt, hx, hb, hml, hown, hts, hN, hA, hK⟩ := id C
  intro s0 H locs ls h hP hD hS hl
  unfold df_X3_blame_17 at h
  exact K _ _ _ _ _ dX3_blame_17 (Option.some.inj h).symm hP hD hS
set_option maxHeartbeats 40000000 in
set_option maxRecDepth 100000 in
theorem db_X3_blame_0 {p : Program} {l : Launch} {e : Env} {s : State} {m : MethodId} {args : Array Value} {below : List Frame} {meth : Method} {c : Code} {Q : State → Prop} {A : Nat → Prop} {dC : Nat → ClassId} {dI : Nat → Nat → Nat} {a : Nat → Nat} {ac : Nat → ClassId} {n : Nat} {r : St} (C : nd_C p l s m args c A (dC, dI) cX3_blame 3 RX3 ow_dm_X3_blame (dk_X3c ac)) (K : nd_Kv p l e (headSpec ow_dm_X3_blame ({ frames := 0, cells := 0, slots := 0, locals := 0 })).room s m args below meth c Q A (dC, dI) cX3_blame (St) (dw_X3c a ac) r) : dj_X3_blame_0 p l e s m args below meth c Q A dC dI a ac (df_X3_blame_0 n) r := by
  obtain ⟨hlt, hx, hb, hml, hown, hts, hN, hA, hK⟩ := id C
  intro v0 v1 s0 H locs ls h hP hD hS hl
  unfold df_X3_blame_0 at h
  refine lv_aload_n hx hb dX3_blame_0 rfl (lv_at hl 0 rfl) ?_
  refine va_get (D := (dC, dI)) (ci := 4) (v := .int (sI s0 4)) (C := RX3) (T := TX3) (N := 11) hx hb hts hi_dm_X3_blame_X3 hown hK hP 0 rfl rfl 9 (by decide) (hts (.fieldLink RX3 95 "TimeMachine$Events" "fault" "I") (List.mem_of_getElem? (i := 1) rfl)) (fun _ h9 => h9) rfl dX3_blame_1 ?_
  refine lv_if_ne (tgt := 17) hx hb dX3_blame_4 (by decide) (fun c1 => ?_) (fun c1 => ?_)
  · have h := nd_neg h c1
    exact (db_X3_blame_17 C K)  s0 _ _ _ h hP hD hS (lv_sub hl [] rfl)
  · have h := nd_pos h c1
    refine lv_aload_n hx hb dX3_blame_7 rfl (lv_at hl 0 rfl) ?_
    refine lv_iload_n hx hb dX3_blame_8 rfl (lv_at hl 1 rfl) ?_
    refine va_put (D := (dC, dI)) (ci := 4) (v := .int v0) (ty := .int) (C := RX3) (T := TX3) (N := 11) hx hb hts hi_dm_X3_blame_X3 tyX3 tyX3_ok nmX3 hown hK hP hD hS 0 rfl rfl 9 (by decide) (hts (.fieldLink RX3 95 "TimeMachine$Events" "fault" "I") (List.mem_of_getElem? (i := 1) rfl)) (fun _ h9 => h9) rfl (by decide +kernel) rfl rfl (Nat.le_of_ble_eq_true rfl) dX3_blame_9 (fun H locs hP hD hS => ?_)
    obtain ⟨s2, es2, h⟩ := nd_let_e h
    have hP : va_P (dC, dI) vwCl (dw_X3c a ac s2) H := by rw [es2]; exact hP
    have hD : va_D A (dw_X3c a ac s2) := by rw [es2]; exact hD
    refine lv_aload_n hx hb dX3_blame_12 rfl (lv_at hl 0 rfl) ?_
    refine lv_iload_n hx hb dX3_blame_13 rfl (lv_at hl 2 rfl) ?_
    refine va_put (D := (dC, dI)) (ci := 4) (v := .int v1) (ty := .int) (C := RX3) (T := TX3) (N := 11) hx hb hts hi_dm_X3_blame_X3 tyX3 tyX3_ok nmX3 hown hK hP hD hS 0 rfl rfl 10 (by decide) (hts (.fieldLink RX3 114 "TimeMachine$Events" "faultPlace" "I") (List.mem_of_getElem? (i := 2) rfl)) (fun _ h9 => h9) rfl (by decide +kernel) rfl rfl (Nat.le_of_ble_eq_true rfl) dX3_blame_14 (fun H locs hP hD hS => ?_)
    obtain ⟨s3, es3, h⟩ := nd_let_e h
    have hP : va_P (dC, dI) vwCl (dw_X3c a ac s3) H := by rw [es3]; exact hP
    have hD : va_D A (dw_X3c a ac s3) := by rw [es3]; exact hD
    exact (db_X3_blame_17 C K)  s3 _ _ _ h hP hD hS (lv_sub hl [] rfl)
set_option maxHeartbeats 40000000 in
set_option maxRecDepth 100000 in
theorem dm_X3_blame (l : Launch) (hlt : l.stackTraces = false) (dC : Nat → ClassId) (dI : Nat → Nat → Nat) (a : Nat → Nat) (ac : Nat → ClassId) (n : Nat) (v0 : Int32) (v1 : Int32) (s0 : St) {r : St} (h : df_X3_blame n v0 v1 s0 = some r) (sz : Nat) : Met l yX3_blame ow_dm_X3_blame ({ frames := 0, cells := 0, slots := 0, locals := 0 }) (va_Pc [.ref (a 0), .int v0, .int v1] (fun U => U.heap.size = sz ∧ va_P (dC, dI) vwCl (dw_X3c a ac s0) U.heap ∧ va_K (dC, dI) vwCl (dk_X3c ac) U ∧ va_D (fun _ => True) (dw_X3c a ac s0) ∧ nv_E (va_A (dw_X3c a ac s0) sz) U)) (va_Qv (fun _ => True) (fun (_ : Unit) t => va_P (dC, dI) vwCl (dw_X3c a ac r) t.heap ∧ va_K (dC, dI) vwCl (dk_X3c ac) t ∧ va_D (va_A (dw_X3c a ac s0) sz) (dw_X3c a ac r)) (va_A (dw_X3c a ac s0) sz)) 0 0 (va_A (dw_X3c a ac s0) sz) := by
  refine Met.ofW (cc := cX3_blame) (maxL := 3) (ret := none) (by decide) rfl ?_
  intro p e s m args below meth c s₁ B hml hv
  obtain ⟨rfl, hsz, hP, hK, hD0, hN⟩ := hv
  have hx := B.exec
  have hb := B.bytes
  have hr := B.returns
  have hts := atoms_spec (ws := ow_dm_X3_blame) B.pre
  have hown : s.vm.findClass RX3 = some m.cls := findClass_of_methodNamed B.named
  have hlocks := B.notSynchronized
  subst hsz
  have hD := hD0.self (sz := s.heap.size)
  generalize hAe : va_A (dw_X3c a ac s0) s.heap.size = A at hD hN ⊢
  have hA : ∀ q : Nat, s.heap.size ≤ q → A q := fun q h => by rw [← hAe]; exact Or.inr h
  have hl := lv_entry ([.ref (a 0), .int v0, .int v1]) (n := 3) (Nat.le_of_ble_eq_true rfl)
  rw [lg_entry_eq]
  generalize (lg_sl ([.ref (a 0), .int v0, .int v1]) ++ List.replicate (3 - (lg_sl ([.ref (a 0), .int v0, .int v1])).length) Slot.unset).toArray = ls at hl ⊢
  have hl : lv_has ls 3 [(0, .ref (a 0)), (1, .int v0), (2, .int v1)] := hl
  exact db_X3_blame_0 (dC := dC) (dI := dI) (a := a) (ac := ac) (n := n) (r := r) ⟨hlt, hx, hb, hml, hown, hts, hN, hA, hK⟩ (fun pc τ H locs ls d er hP hD hS => by subst er; exact W.vret hx hb hr (fun t ht hW => ⟨⟨(), rfl, trivial, by rw [ht]; exact hP, va_K.moved hW.alike hK, hD⟩, hS.F ht⟩) hS.2.2 d) v0 v1 s0 _ _ _ h hP hD va_S.rf (lv_sub hl [0, 1, 2] rfl)
def ow_dm_X3_readByte : List Cond := .code yX3_readByte cX3_readByte 1 (some .int) :: ([.fieldLink RX3 44 "TimeMachine$Events" "place" "I", .fieldLink RX3 92 "TimeMachine$Events" "stop" "I", .fieldLink RX3 23 "TimeMachine$Events" "row" "[B", .methodLink RX3 107 yX3_blame, .instanceMethod yX3_blame, .selects RX3 yX3_blame yX3_blame, .initialized RX3] ++ (u_ws RX3 TX3 11 ++ (ow_dm_X3_blame ++ [])))
theorem gd_dm_X3_readByte : ∀ w ∈ ow_dm_X3_readByte, (w.onTables && w.keeps) = true ∨ ∃ ty, w = Cond.arrayClass ty := List.forall_mem_cons.mpr ⟨good_of_word rfl, List.forall_mem_append.mpr ⟨fun w h => good_of_word (List.all_eq_true.mp (by decide +kernel) w h), List.forall_mem_append.mpr ⟨gu_X3, List.forall_mem_append.mpr ⟨gd_dm_X3_blame, fun _ h => nomatch h⟩⟩⟩⟩
theorem hi_dm_X3_readByte_X3 : ∀ w ∈ u_ws RX3 TX3 11, w ∈ ow_dm_X3_readByte := fun w h => List.mem_cons_of_mem _ (List.mem_append_right _ (List.mem_append_left _ h))
theorem gi_dm_X3_readByte_0 : GoodIn ow_dm_X3_readByte (wsV RX3 107 RX3 yX3_blame ow_dm_X3_blame) := goodIn_app (goodIn_of _ (by decide +kernel)) (fun w h => ⟨List.mem_cons_of_mem _ (List.mem_append_right _ (List.mem_append_right _ (List.mem_append_left _ h))), gd_dm_X3_blame w h⟩)
def dj_X3_readByte_0 (p : Program) (l : Launch) (e : Env) (s : State) (m : MethodId) (args : Array Value) (below : List Frame) (meth : Method) (c : Code) (Q : State → Prop) (A : Nat → Prop) (dC : Nat → ClassId) (dI : Nat → Nat → Nat) (a : Nat → Nat) (ac : Nat → ClassId) (g : (St × (St)) → Option (Int32 × (St × (St)))) (r : Int32 × (St × (St))) : Prop := ∀ (s0 : St × (St)) (H : Heap) (locs : List Loc) (ls : Array Slot), g s0 = some r → va_P (dC, dI) vwCl (dw_X3s a ac s0) H → va_D A (dw_X3s a ac s0) → va_S A s.heap H locs → lv_has ls 1 [(0, .ref (a 1))] → W p l e (headSpec ow_dm_X3_readByte ({ frames := 1, cells := 0, slots := 0, locals := 22 })).room s m args below meth c H locs 0 0 Q (F0 m 0 ls [])
set_option maxHeartbeats 40000000 in
set_option maxRecDepth 100000 in
theorem db_X3_readByte_0 {p : Program} {l : Launch} {e : Env} {s : State} {m : MethodId} {args : Array Value} {below : List Frame} {meth : Method} {c : Code} {Q : State → Prop} {A : Nat → Prop} {dC : Nat → ClassId} {dI : Nat → Nat → Nat} {a : Nat → Nat} {ac : Nat → ClassId} {n : Nat} {r : Int32 × (St × (St))} (C : nd_C p l s m args c A (dC, dI) cX3_readByte 1 RX3 ow_dm_X3_readByte (dk_X3s ac)) (K : nd_Ki p l e (headSpec ow_dm_X3_readByte ({ frames := 1, cells := 0, slots := 0, locals := 22 })).room s m args below meth c Q A (dC, dI) cX3_readByte .int (St × (St)) (dw_X3s a ac) r) : dj_X3_readByte_0 p l e s m args below meth c Q A dC dI a ac (df_X3_readByte_0 n (a 0)) r := by
  obtain ⟨hlt, hx, hb, hml, hown, hts, hN, hA, hK⟩ := id C
  intro s0 H locs ls h hP hD hS hl
  unfold df_X3_readByte_0 at h
  refine lv_aload_n hx hb dX3_readByte_0 rfl (lv_at hl 0 rfl) ?_
  refine va_get (D := (dC, dI)) (ci := 4) (v := .int (sI s0.2 2)) (C := RX3) (T := TX3) (N := 11) hx hb hts hi_dm_X3_readByte_X3 hown hK hP 1 rfl rfl 7 (by decide) (hts (.fieldLink RX3 44 "TimeMachine$Events" "place" "I") (List.mem_of_getElem? (i := 1) rfl)) (fun _ h9 => h9) rfl dX3_readByte_1 ?_
  refine lv_aload_n hx hb dX3_readByte_4 rfl (lv_at hl 0 rfl) ?_
  refine va_get (D := (dC, dI)) (ci := 4) (v := .int (sI s0.2 3)) (C := RX3) (T := TX3) (N := 11) hx hb hts hi_dm_X3_readByte_X3 hown hK hP 1 rfl rfl 8 (by decide) (hts (.fieldLink RX3 92 "TimeMachine$Events" "stop" "I") (List.mem_of_getElem? (i := 2) rfl)) (fun _ h9 => h9) rfl dX3_readByte_5 ?_
  refine lv_icmp_lt (tgt := 22) hx hb dX3_readByte_8 (by decide) (fun c1 => ?_) (fun c1 => ?_)
  · have h := nd_pos h c1
    refine lv_aload_n hx hb dX3_readByte_22 rfl (lv_at hl 0 rfl) ?_
    refine lv_dup hx hb dX3_readByte_23 rfl ?_
    refine va_get (D := (dC, dI)) (ci := 4) (v := .int (sI s0.2 2)) (C := RX3) (T := TX3) (N := 11) hx hb hts hi_dm_X3_readByte_X3 hown hK hP 1 rfl rfl 7 (by decide) (hts (.fieldLink RX3 44 "TimeMachine$Events" "place" "I") (List.mem_of_getElem? (i := 1) rfl)) (fun _ h9 => h9) rfl dX3_readByte_24 ?_
    refine lv_iconst (v := 1) hx hb dX3_readByte_27 (by decide) ?_
    refine lv_iadd hx hb dX3_readByte_28 ?_
    refine va_put (D := (dC, dI)) (ci := 4) (v := .int ((sI s0.2 2) + 1)) (ty := .int) (C := RX3) (T := TX3) (N := 11) hx hb hts hi_dm_X3_readByte_X3 tyX3 tyX3_ok nmX3 hown hK hP hD hS 1 rfl rfl 7 (by decide) (hts (.fieldLink RX3 44 "TimeMachine$Events" "place" "I") (List.mem_of_getElem? (i := 1) rfl)) (fun _ h9 => h9) rfl (by decide +kernel) rfl rfl (Nat.le_of_ble_eq_true rfl) dX3_readByte_29 (fun H locs hP hD hS => ?_)
    obtain ⟨s2, es2, h⟩ := nd_let_e h
    have hP : va_P (dC, dI) vwCl (dw_X3s a ac s2) H := by rw [es2]; exact hP
    have hD : va_D A (dw_X3s a ac s2) := by rw [es2]; exact hD
    refine lv_aload_n hx hb dX3_readByte_32 rfl (lv_at hl 0 rfl) ?_
    obtain ⟨o3, h⟩ := nd_o_e h
    refine va_get (D := (dC, dI)) (ci := 4) (v := .ref (a 0)) (C := RX3) (T := TX3) (N := 11) hx hb hts hi_dm_X3_readByte_X3 hown hK hP 1 rfl rfl 6 (by decide) (hts (.fieldLink RX3 23 "TimeMachine$Events" "row" "[B") (List.mem_of_getElem? (i := 3) rfl)) (fun _ h9 => h9) (congrArg (fun z => some (va_rf z)) o3) dX3_readByte_33 ?_
    refine lv_aload_n hx hb dX3_readByte_36 rfl (lv_at hl 0 rfl) ?_
    refine va_get (D := (dC, dI)) (ci := 4) (v := .int (sI s2.2 2)) (C := RX3) (T := TX3) (N := 11) hx hb hts hi_dm_X3_readByte_X3 hown hK hP 1 rfl rfl 7 (by decide) (hts (.fieldLink RX3 44 "TimeMachine$Events" "place" "I") (List.mem_of_getElem? (i := 1) rfl)) (fun _ h9 => h9) rfl dX3_readByte_37 ?_
    refine lv_iconst (v := 1) hx hb dX3_readByte_40 (by decide) ?_
    refine lv_isub hx hb dX3_readByte_41 ?_
    obtain ⟨i4, h⟩ := nd_ck_e h
    refine va_bald (i := ((sI s2.2 2) - 1)) hx hb hK hP 0 0 rfl rfl i4 dX3_readByte_42 ?_
    refine lv_sipush (v := 255) hx hb dX3_readByte_43 (by decide) ?_
    refine lv_iand hx hb dX3_readByte_46 ?_
    exact K _ _ _ _ _ _ dX3_readByte_47 rfl (Option.some.inj h).symm hP hD hS
  · have h := nd_neg h c1
    refine lv_aload_n hx hb dX3_readByte_11 rfl (lv_at hl 0 rfl) ?_
    refine lv_iconst (v := 2) hx hb dX3_readByte_12 (by decide) ?_
    refine lv_aload_n hx hb dX3_readByte_13 rfl (lv_at hl 0 rfl) ?_
    refine va_get (D := (dC, dI)) (ci := 4) (v := .int (sI s0.2 3)) (C := RX3) (T := TX3) (N := 11) hx hb hts hi_dm_X3_readByte_X3 hown hK hP 1 rfl rfl 8 (by decide) (hts (.fieldLink RX3 92 "TimeMachine$Events" "stop" "I") (List.mem_of_getElem? (i := 2) rfl)) (fun _ h9 => h9) rfl dX3_readByte_14 ?_
    obtain ⟨s6, hq, h⟩ := nd_b1_e h
    have hPc := dp_X3s_1 hP
    have hDc := dd_X3s_1 hD
    have hKc := dy_X3s_1 hK
    have hFc := nd_rs hDc hS hA
    have hzA : ∀ q : Nat, H.size ≤ q → A q := fun q h => hA q (Nat.le_trans hS.1 h)
    refine nd_cVv (As := [.int 2, .int (sI s0.2 3)]) (rest := []) (w' := dw_X3c (fun k => a (k + 1)) (fun k => ac (k + 1)) s6) ⟨hx, hb, hml, hown, hts⟩ (fun sz => dm_X3_blame l hlt dC dI (fun k => a (k + 1)) (fun k => ac (k + 1)) n (2) ((sI s0.2 3)) s0.2 hq sz) (cwV 2 hts gi_dm_X3_readByte_0 rfl rfl rfl (by decide +kernel) ⟨Nat.le_of_ble_eq_true rfl, Nat.le_of_ble_eq_true rfl⟩) hPc hDc hKc hS hA hN (va_recv hKc hPc (ci := 4) (q0 := 0) rfl rfl) rfl hl.1 rfl (Nat.le_of_ble_eq_true rfl) dX3_readByte_17 (fun H locs hP1 hD1 hk1 hS => ?_)
    obtain ⟨hP, hD⟩ := dn_X3s_1 hP hD hzA hk1 hP1 hD1
    obtain ⟨s8, es8, h⟩ := nd_let_e h
    have hP : va_P (dC, dI) vwCl (dw_X3s a ac s8) H := by rw [es8]; exact hP
    have hD : va_D A (dw_X3s a ac s8) := by rw [es8]; exact hD
    refine lv_iconst (v := 0) hx hb dX3_readByte_20 (by decide) ?_
    exact K _ _ _ _ _ _ dX3_readByte_21 rfl (Option.some.inj h).symm hP hD hS
set_option maxHeartbeats 40000000 in
set_option maxRecDepth 100000 in
theorem dm_X3_readByte (l : Launch) (hlt : l.stackTraces = false) (dC : Nat → ClassId) (dI : Nat → Nat → Nat) (a : Nat → Nat) (ac : Nat → ClassId) (n : Nat) (s0 : St × (St)) {r : Int32 × (St × (St))} (h : df_X3_readByte n (a 0) s0 = some r) (sz : Nat) : Met l yX3_readByte ow_dm_X3_readByte ({ frames := 1, cells := 0, slots := 0, locals := 22 }) (va_Pc [.ref (a 1)] (fun U => U.heap.size = sz ∧ va_P (dC, dI) vwCl (dw_X3s a ac s0) U.heap ∧ va_K (dC, dI) vwCl (dk_X3s ac) U ∧ va_D (fun _ => True) (dw_X3s a ac s0) ∧ nv_E (va_A (dw_X3s a ac s0) sz) U)) (va_Qi (fun x _ => x = r.1) (fun (_ : Unit) t => va_P (dC, dI) vwCl (dw_X3s a ac r.2) t.heap ∧ va_K (dC, dI) vwCl (dk_X3s ac) t ∧ va_D (va_A (dw_X3s a ac s0) sz) (dw_X3s a ac r.2)) (va_A (dw_X3s a ac s0) sz)) 0 0 (va_A (dw_X3s a ac s0) sz) := by
  refine Met.ofW (cc := cX3_readByte) (maxL := 1) (ret := (some .int)) (by decide) rfl ?_
  intro p e s m args below meth c s₁ B hml hv
  obtain ⟨rfl, hsz, hP, hK, hD0, hN⟩ := hv
  have hx := B.exec
  have hb := B.bytes
  have hr := B.returns
  have hts := atoms_spec (ws := ow_dm_X3_readByte) B.pre
  have hown : s.vm.findClass RX3 = some m.cls := findClass_of_methodNamed B.named
  have hlocks := B.notSynchronized
  subst hsz
  have hD := hD0.self (sz := s.heap.size)
  generalize hAe : va_A (dw_X3s a ac s0) s.heap.size = A at hD hN ⊢
  have hA : ∀ q : Nat, s.heap.size ≤ q → A q := fun q h => by rw [← hAe]; exact Or.inr h
  have hl := lv_entry ([.ref (a 1)]) (n := 1) (Nat.le_of_ble_eq_true rfl)
  rw [lg_entry_eq]
  generalize (lg_sl ([.ref (a 1)]) ++ List.replicate (1 - (lg_sl ([.ref (a 1)])).length) Slot.unset).toArray = ls at hl ⊢
  have hl : lv_has ls 1 [(0, .ref (a 1))] := hl
  exact db_X3_readByte_0 (dC := dC) (dI := dI) (a := a) (ac := ac) (n := n) (r := r) ⟨hlt, hx, hb, hml, hown, hts, hN, hA, hK⟩ (fun pc v τ H locs ls d z er hP hD hS => by subst er; exact W.zret (v := v) hx hb hr z (fun t ht hW => ⟨⟨v, (), rfl, rfl, by rw [ht]; exact hP, va_K.moved hW.alike hK, hD⟩, hS.F ht⟩) hS.2.2 d) s0 _ _ _ h hP hD va_S.rf (lv_sub hl [0] rfl)
def ow_dm_X3_readVarint : List Cond := .code yX3_readVarint cX3_readVarint 5 (some .long) :: ([.fieldLink RX3 44 "TimeMachine$Events" "place" "I", .methodLink RX3 107 yX3_blame, .instanceMethod yX3_blame, .selects RX3 yX3_blame yX3_blame, .initialized RX3, .fieldLink RX3 95 "TimeMachine$Events" "fault" "I", .methodLink RX3 117 yX3_readByte, .instanceMethod yX3_readByte, .selects RX3 yX3_readByte yX3_readByte, .constantLong RX3 31 (1099511627776)] ++ (u_ws RX3 TX3 11 ++ (ow_dm_X3_blame ++ (ow_dm_X3_readByte ++ []))))
theorem gd_dm_X3_readVarint : ∀ w ∈ ow_dm_X3_readVarint, (w.onTables && w.keeps) = true ∨ ∃ ty, w = Cond.arrayClass ty := List.forall_mem_cons.mpr ⟨good_of_word rfl, List.forall_mem_append.mpr ⟨fun w h => good_of_word (List.all_eq_true.mp (by decide +kernel) w h), List.forall_mem_append.mpr ⟨gu_X3, List.forall_mem_append.mpr ⟨gd_dm_X3_blame, List.forall_mem_append.mpr ⟨gd_dm_X3_readByte, fun _ h => nomatch h⟩⟩⟩⟩⟩
theorem hi_dm_X3_readVarint_X3 : ∀ w ∈ u_ws RX3 TX3 11, w ∈ ow_dm_X3_readVarint := fun w h => List.mem_cons_of_mem _ (List.mem_append_right _ (List.mem_append_left _ h))
theorem gi_dm_X3_readVarint_0 : GoodIn ow_dm_X3_readVarint (wsV RX3 107 RX3 yX3_blame ow_dm_X3_blame) := goodIn_app (goodIn_of _ (by decide +kernel)) (fun w h => ⟨List.mem_cons_of_mem _ (List.mem_append_right _ (List.mem_append_right _ (List.mem_append_left _ h))), gd_dm_X3_blame w h⟩)
theorem gi_dm_X3_readVarint_1 : GoodIn ow_dm_X3_readVarint (wsV RX3 117 RX3 yX3_readByte ow_dm_X3_readByte) := goodIn_app (goodIn_of _ (by decide +kernel)) (fun w h => ⟨List.mem_cons_of_mem _ (List.mem_append_right _ (List.mem_append_right _ (List.mem_append_right _ (List.mem_append_left _ h)))), gd_dm_X3_readByte w h⟩)
def dj_X3_readVarint_81 (p : Program) (l : Launch) (e : Env) (s : State) (m : MethodId) (args : Array Value) (below : List Frame) (meth : Method) (c : Code) (Q : State → Prop) (A : Nat → Prop) (dC : Nat → ClassId) (dI : Nat → Nat → Nat) (a : Nat → Nat) (ac : Nat → ClassId) (g : (St × (St)) → Option (Int64 × (St × (St)))) (r : Int64 × (St × (St))) : Prop := ∀ (s0 : St × (St)) (H : Heap) (locs : List Loc) (ls : Array Slot), g s0 = some r → va_P (dC, dI) vwCl (dw_X3s a ac s0) H → va_D A (dw_X3s a ac s0) → va_S A s.heap H locs → lv_has ls 5 [(0, .ref (a 1))] → W p l e (headSpec ow_dm_X3_readVarint ({ frames := 2, cells := 0, slots := 0, locals := 42 })).room s m args below meth c H locs 0 0 Q (F0 m 81 ls [])
def dj_X3_readVarint_73 (p : Program) (l : Launch) (e : Env) (s : State) (m : MethodId) (args : Array Value) (below : List Frame) (meth : Method) (c : Code) (Q : State → Prop) (A : Nat → Prop) (dC : Nat → ClassId) (dI : Nat → Nat → Nat) (a : Nat → Nat) (ac : Nat → ClassId) (g : Int64 → (St × (St)) → Option (Int64 × (St × (St)))) (r : Int64 × (St × (St))) : Prop := ∀ (x1 : Int64) (s0 : St × (St)) (H : Heap) (locs : List Loc) (ls : Array Slot), g x1 s0 = some r → va_P (dC, dI) vwCl (dw_X3s a ac s0) H → va_D A (dw_X3s a ac s0) → va_S A s.heap H locs → lv_has ls 5 [(1, .long x1)] → W p l e (headSpec ow_dm_X3_readVarint ({ frames := 2, cells := 0, slots := 0, locals := 42 })).room s m args below meth c H locs 0 0 Q (F0 m 73 ls [])
def dj_X3_readVarint_62 (p : Program) (l : Launch) (e : Env) (s : State) (m : MethodId) (args : Array Value) (below : List Frame) (meth : Method) (c : Code) (Q : State → Prop) (A : Nat → Prop) (dC : Nat → ClassId) (dI : Nat → Nat → Nat) (a : Nat → Nat) (ac : Nat → ClassId) (g : Int64 → (St × (St)) → Option (Int64 × (St × (St)))) (r : Int64 × (St × (St))) : Prop := ∀ (x1 : Int64) (s0 : St × (St)) (H : Heap) (locs : List Loc) (ls : Array Slot), g x1 s0 = some r → va_P (dC, dI) vwCl (dw_X3s a ac s0) H → va_D A (dw_X3s a ac s0) → va_S A s.heap H locs → lv_has ls 5 [(0, .ref (a 1)), (1, .long x1)] → W p l e (headSpec ow_dm_X3_readVarint ({ frames := 2, cells := 0, slots := 0, locals := 42 })).room s m args below meth c H locs 0 0 Q (F0 m 62 ls [])
def dj_X3_readVarint_54 (p : Program) (l : Launch) (e : Env) (s : State) (m : MethodId) (args : Array Value) (below : List Frame) (meth : Method) (c : Code) (Q : State → Prop) (A : Nat → Prop) (dC : Nat → ClassId) (dI : Nat → Nat → Nat) (a : Nat → Nat) (ac : Nat → ClassId) (g : Int64 → (St × (St)) → Option (Int64 × (St × (St)))) (r : Int64 × (St × (St))) : Prop := ∀ (x1 : Int64) (s0 : St × (St)) (H : Heap) (locs : List Loc) (ls : Array Slot), g x1 s0 = some r → va_P (dC, dI) vwCl (dw_X3s a ac s0) H → va_D A (dw_X3s a ac s0) → va_S A s.heap H locs → lv_has ls 5 [(0, .ref (a 1)), (1, .long x1)] → W p l e (headSpec ow_dm_X3_readVarint ({ frames := 2, cells := 0, slots := 0, locals := 42 })).room s m args below meth c H locs 0 0 Q (F0 m 54 ls [])
def dj_X3_readVarint_4 (p : Program) (l : Launch) (e : Env) (s : State) (m : MethodId) (args : Array Value) (below : List Frame) (meth : Method) (c : Code) (Q : State → Prop) (A : Nat → Prop) (dC : Nat → ClassId) (dI : Nat → Nat → Nat) (a : Nat → Nat) (ac : Nat → ClassId) (g : Int64 → Int32 → (St × (St)) → Option (Int64 × (St × (St)))) (r : Int64 × (St × (St))) : Prop := ∀ (x1 : Int64) (x3 : Int32) (s0 : St × (St)) (H : Heap) (locs : List Loc) (ls : Array Slot), g x1 x3 s0 = some r → va_P (dC, dI) vwCl (dw_X3s a ac s0) H → va_D A (dw_X3s a ac s0) → va_S A s.heap H locs → lv_has ls 5 [(0, .ref (a 1)), (1, .long x1), (3, .int x3)] → W p l e (headSpec ow_dm_X3_readVarint ({ frames := 2, cells := 0, slots := 0, locals := 42 })).room s m args below meth c H locs 0 0 Q (F0 m 4 ls [])
def dj_X3_readVarint_0 (p : Program) (l : Launch) (e : Env) (s : State) (m : MethodId) (args : Array Value) (below : List Frame) (meth : Method) (c : Code) (Q : State → Prop) (A : Nat → Prop) (dC : Nat → ClassId) (dI : Nat → Nat → Nat) (a : Nat → Nat) (ac : Nat → ClassId) (g : (St × (St)) → Option (Int64 × (St × (St)))) (r : Int64 × (St × (St))) : Prop := ∀ (s0 : St × (St)) (H : Heap) (locs : List Loc) (ls : Array Slot), g s0 = some r → va_P (dC, dI) vwCl (dw_X3s a ac s0) H → va_D A (dw_X3s a ac s0) → va_S A s.heap H locs → lv_has ls 5 [(0, .ref (a 1))] → W p l e (headSpec ow_dm_X3_readVarint ({ frames := 2, cells := 0, slots := 0, locals := 42 })).room s m args below meth c H locs 0 0 Q (F0 m 0 ls [])
set_option maxHeartbeats 40000000 in
set_option maxRecDepth 100000 in
theorem db_X3_readVarint_81 {p : Program} {l : Launch} {e : Env} {s : State} {m : MethodId} {args : Array Value} {below : List Frame} {meth : Method} {c : Code} {Q : State → Prop} {A : Nat → Prop} {dC : Nat → ClassId} {dI : Nat → Nat → Nat} {a : Nat → Nat} {ac : Nat → ClassId} {n : Nat} {r : Int64 × (St × (St))} (C : nd_C p l s m args c A (dC, dI) cX3_readVarint 5 RX3 ow_dm_X3_readVarint (dk_X3s ac)) (K : nd_Kl p l e (headSpec ow_dm_X3_readVarint ({ frames := 2, cells := 0, slots := 0, locals := 42 })).room s m args below meth c Q A (dC, dI) cX3_readVarint (St × (St)) (dw_X3s a ac) r) : dj_X3_readVarint_81 p l e s m args below meth c Q A dC dI a ac (df_X3_readVarint_81 n (a 0)) r := by
  obtain ⟨hlt, hx, hb, hml, hown, hts, hN, hA, hK⟩ := id C
  intro s0 H locs ls h hP hD hS hl
  unfold df_X3_readVarint_81 at h
  refine lv_aload_n hx hb dX3_readVarint_81 rfl (lv_at hl 0 rfl) ?_
  refine lv_iconst (v := 3) hx hb dX3_readVarint_82 (by decide) ?_
  refine lv_aload_n hx hb dX3_readVarint_83 rfl (lv_at hl 0 rfl) ?_
  refine va_get (D := (dC, dI)) (ci := 4) (v := .int (sI s0.2 2)) (C := RX3) (T := TX3) (N := 11) hx hb hts hi_dm_X3_readVarint_X3 hown hK hP 1 rfl rfl 7 (by decide) (hts (.fieldLink RX3 44 "TimeMachine$Events" "place" "I") (List.mem_of_getElem? (i := 1) rfl)) (fun _ h9 => h9) rfl dX3_readVarint_84 ?_
  refine lv_iconst (v := 1) hx hb dX3_readVarint_87 (by decide) ?_
  refine lv_isub hx hb dX3_readVarint_88 ?_
  obtain ⟨s3, hq, h⟩ := nd_b1_e h
  have hPc := dp_X3s_1 hP
  have hDc := dd_X3s_1 hD
  have hKc := dy_X3s_1 hK
  have hFc := nd_rs hDc hS hA
  have hzA : ∀ q : Nat, H.size ≤ q → A q := fun q h => hA q (Nat.le_trans hS.1 h)
  refine nd_cVv (As := [.int 3, .int ((sI s0.2 2) - 1)]) (rest := []) (w' := dw_X3c (fun k => a (k + 1)) (fun k => ac (k + 1)) s3) ⟨hx, hb, hml, hown, hts⟩ (fun sz => dm_X3_blame l hlt dC dI (fun k => a (k + 1)) (fun k => ac (k + 1)) n (3) (((sI s0.2 2) - 1)) s0.2 hq sz) (cwV 2 hts gi_dm_X3_readVarint_0 rfl rfl rfl (by decide +kernel) ⟨Nat.le_of_ble_eq_true rfl, Nat.le_of_ble_eq_true rfl⟩) hPc hDc hKc hS hA hN (va_recv hKc hPc (ci := 4) (q0 := 0) rfl rfl) rfl hl.1 rfl (Nat.le_of_ble_eq_true rfl) dX3_readVarint_89 (fun H locs hP1 hD1 hk1 hS => ?_)
  obtain ⟨hP, hD⟩ := dn_X3s_1 hP hD hzA hk1 hP1 hD1
  obtain ⟨s5, es5, h⟩ := nd_let_e h
  have hP : va_P (dC, dI) vwCl (dw_X3s a ac s5) H := by rw [es5]; exact hP
  have hD : va_D A (dw_X3s a ac s5) := by rw [es5]; exact hD
  refine lv_lconst (v := 0) hx hb dX3_readVarint_92 (by decide) ?_
  exact K _ _ _ _ _ _ dX3_readVarint_93 (Option.some.inj h).symm hP hD hS
set_option maxHeartbeats 40000000 in
set_option maxRecDepth 100000 in
theorem db_X3_readVarint_73 {p : Program} {l : Launch} {e : Env} {s : State} {m : MethodId} {args : Array Value} {below : List Frame} {meth : Method} {c : Code} {Q : State → Prop} {A : Nat → Prop} {dC : Nat → ClassId} {dI : Nat → Nat → Nat} {a : Nat → Nat} {ac : Nat → ClassId} {n : Nat} {r : Int64 × (St × (St))} (C : nd_C p l s m args c A (dC, dI) cX3_readVarint 5 RX3 ow_dm_X3_readVarint (dk_X3s ac)) (K : nd_Kl p l e (headSpec ow_dm_X3_readVarint ({ frames := 2, cells := 0, slots := 0, locals := 42 })).room s m args below meth c Q A (dC, dI) cX3_readVarint (St × (St)) (dw_X3s a ac) r) : dj_X3_readVarint_73 p l e s m args below meth c Q A dC dI a ac (df_X3_readVarint_73 n (a 0)) r := by
  obtain ⟨hlt, hx, hb, hml, hown, hts, hN, hA, hK⟩ := id C
  intro x1 s0 H locs ls h hP hD hS hl
  unfold df_X3_readVarint_73 at h
  refine lv_lload_n hx hb dX3_readVarint_73 rfl (lv_at hl 0 rfl) ?_
  exact K _ _ _ _ _ _ dX3_readVarint_74 (Option.some.inj h).symm hP hD hS
set_option maxHeartbeats 40000000 in
set_option maxRecDepth 100000 in
theorem db_X3_readVarint_62 {p : Program} {l : Launch} {e : Env} {s : State} {m : MethodId} {args : Array Value} {below : List Frame} {meth : Method} {c : Code} {Q : State → Prop} {A : Nat → Prop} {dC : Nat → ClassId} {dI : Nat → Nat → Nat} {a : Nat → Nat} {ac : Nat → ClassId} {n : Nat} {r : Int64 × (St × (St))} (C : nd_C p l s m args c A (dC, dI) cX3_readVarint 5 RX3 ow_dm_X3_readVarint (dk_X3s ac)) (K : nd_Kl p l e (headSpec ow_dm_X3_readVarint ({ frames := 2, cells := 0, slots := 0, locals := 42 })).room s m args below meth c Q A (dC, dI) cX3_readVarint (St × (St)) (dw_X3s a ac) r) : dj_X3_readVarint_62 p l e s m args below meth c Q A dC dI a ac (df_X3_readVarint_62 n (a 0)) r := by
  obtain ⟨hlt, hx, hb, hml, hown, hts, hN, hA, hK⟩ := id C
  intro x1 s0 H locs ls h hP hD hS hl
  unfold df_X3_readVarint_62 at h
  refine lv_aload_n hx hb dX3_readVarint_62 rfl (lv_at hl 0 rfl) ?_
  refine lv_iconst (v := 3) hx hb dX3_readVarint_63 (by decide) ?_
  refine lv_aload_n hx hb dX3_readVarint_64 rfl (lv_at hl 0 rfl) ?_
  refine va_get (D := (dC, dI)) (ci := 4) (v := .int (sI s0.2 2)) (C := RX3) (T := TX3) (N := 11) hx hb hts hi_dm_X3_readVarint_X3 hown hK hP 1 rfl rfl 7 (by decide) (hts (.fieldLink RX3 44 "TimeMachine$Events" "place" "I") (List.mem_of_getElem? (i := 1) rfl)) (fun _ h9 => h9) rfl dX3_readVarint_65 ?_
  refine lv_iconst (v := 1) hx hb dX3_readVarint_68 (by decide) ?_
  refine lv_isub hx hb dX3_readVarint_69 ?_
  obtain ⟨s16, hq, h⟩ := nd_b1_e h
  have hPc := dp_X3s_1 hP
  have hDc := dd_X3s_1 hD
  have hKc := dy_X3s_1 hK
  have hFc := nd_rs hDc hS hA
  have hzA : ∀ q : Nat, H.size ≤ q → A q := fun q h => hA q (Nat.le_trans hS.1 h)
  refine nd_cVv (As := [.int 3, .int ((sI s0.2 2) - 1)]) (rest := []) (w' := dw_X3c (fun k => a (k + 1)) (fun k => ac (k + 1)) s16) ⟨hx, hb, hml, hown, hts⟩ (fun sz => dm_X3_blame l hlt dC dI (fun k => a (k + 1)) (fun k => ac (k + 1)) n (3) (((sI s0.2 2) - 1)) s0.2 hq sz) (cwV 2 hts gi_dm_X3_readVarint_0 rfl rfl rfl (by decide +kernel) ⟨Nat.le_of_ble_eq_true rfl, Nat.le_of_ble_eq_true rfl⟩) hPc hDc hKc hS hA hN (va_recv hKc hPc (ci := 4) (q0 := 0) rfl rfl) rfl hl.1 rfl (Nat.le_of_ble_eq_true rfl) dX3_readVarint_70 (fun H locs hP1 hD1 hk1 hS => ?_)
  obtain ⟨hP, hD⟩ := dn_X3s_1 hP hD hzA hk1 hP1 hD1
  obtain ⟨s18, es18, h⟩ := nd_let_e h
  have hP : va_P (dC, dI) vwCl (dw_X3s a ac s18) H := by rw [es18]; exact hP
  have hD : va_D A (dw_X3s a ac s18) := by rw [es18]; exact hD
  exact (db_X3_readVarint_73 C K) (x1) s18 _ _ _ h hP hD hS (lv_sub hl [1] rfl)
set_option maxHeartbeats 40000000 in
set_option maxRecDepth 100000 in
theorem db_X3_readVarint_54 {p : Program} {l : Launch} {e : Env} {s : State} {m : MethodId} {args : Array Value} {below : List Frame} {meth : Method} {c : Code} {Q : State → Prop} {A : Nat → Prop} {dC : Nat → ClassId} {dI : Nat → Nat → Nat} {a : Nat → Nat} {ac : Nat → ClassId} {n : Nat} {r : Int64 × (St × (St))} (C : nd_C p l s m args c A (dC, dI) cX3_readVarint 5 RX3 ow_dm_X3_readVarint (dk_X3s ac)) (K : nd_Kl p l e (headSpec ow_dm_X3_readVarint ({ frames := 2, cells := 0, slots := 0, locals := 42 })).room s m args below meth c Q A (dC, dI) cX3_readVarint (St × (St)) (dw_X3s a ac) r) : dj_X3_readVarint_54 p l e s m args below meth c Q A dC dI a ac (df_X3_readVarint_54 n (a 0)) r := by
  obtain ⟨hlt, hx, hb, hml, hown, hts, hN, hA, hK⟩ := id C
  intro x1 s0 H locs ls h hP hD hS hl
  unfold df_X3_readVarint_54 at h
  refine lv_lload_n hx hb dX3_readVarint_54 rfl (lv_at hl 1 rfl) ?_
  refine lv_ldc2 hx hb hown (hts (.constantLong RX3 31 (1099511627776)) (List.mem_of_getElem? (i := 10) rfl)) dX3_readVarint_55 ?_
  refine W.lcmp hx hb dX3_readVarint_58 ?_
  refine lv_if_le (tgt := 73) hx hb dX3_readVarint_59 (by decide) (fun c14 => ?_) (fun c14 => ?_)
  · have h := nd_pos h c14
    exact (db_X3_readVarint_73 C K) (x1) s0 _ _ _ h hP hD hS (lv_sub hl [1] rfl)
  · have h := nd_neg h c14
    exact (db_X3_readVarint_62 C K) (x1) s0 _ _ _ h hP hD hS (lv_sub hl [0, 1] rfl)
set_option maxHeartbeats 40000000 in
set_option maxRecDepth 100000 in
theorem dB_X3_readVarint_4 {p : Program} {l : Launch} {e : Env} {s : State} {m : MethodId} {args : Array Value} {below : List Frame} {meth : Method} {c : Code} {Q : State → Prop} {A : Nat → Prop} {dC : Nat → ClassId} {dI : Nat → Nat → Nat} {a : Nat → Nat} {ac : Nat → ClassId} {n : Nat} {r : Int64 × (St × (St))} (C : nd_C p l s m args c A (dC, dI) cX3_readVarint 5 RX3 ow_dm_X3_readVarint (dk_X3s ac)) (K : nd_Kl p l e (headSpec ow_dm_X3_readVarint ({ frames := 2, cells := 0, slots := 0, locals := 42 })).room s m args below meth c Q A (dC, dI) cX3_readVarint (St × (St)) (dw_X3s a ac) r) {g4 : Int64 → Int32 → (St × (St)) → Option (Int64 × (St × (St)))} (J4 : dj_X3_readVarint_4 p l e s m args below meth c Q A dC dI a ac g4 r) : dj_X3_readVarint_4 p l e s m args below meth c Q A dC dI a ac (dF_X3_readVarint_4 n (a 0) g4) r := by
  obtain ⟨hlt, hx, hb, hml, hown, hts, hN, hA, hK⟩ := id C
  intro x1 x3 s0 H locs ls h hP hD hS hl
  unfold dF_X3_readVarint_4 at h
  refine lv_iload_n hx hb dX3_readVarint_4 rfl (lv_at hl 2 rfl) ?_
  refine lv_bipush (v := 7) hx hb dX3_readVarint_5 (by decide) ?_
  refine lv_icmp_ge (tgt := 81) hx hb dX3_readVarint_7 (by decide) (fun c1 => ?_) (fun c1 => ?_)
  · have h := nd_pos h c1
    exact (db_X3_readVarint_81 C K)  s0 _ _ _ h hP hD hS (lv_sub hl [0] rfl)
  · have h := nd_neg h c1
    refine lv_aload_n hx hb dX3_readVarint_10 rfl (lv_at hl 0 rfl) ?_
    refine va_get (D := (dC, dI)) (ci := 4) (v := .int (sI s0.2 4)) (C := RX3) (T := TX3) (N := 11) hx hb hts hi_dm_X3_readVarint_X3 hown hK hP 1 rfl rfl 9 (by decide) (hts (.fieldLink RX3 95 "TimeMachine$Events" "fault" "I") (List.mem_of_getElem? (i := 6) rfl)) (fun _ h9 => h9) rfl dX3_readVarint_11 ?_
    refine lv_if_ne (tgt := 81) hx hb dX3_readVarint_14 (by decide) (fun c6 => ?_) (fun c6 => ?_)
    · have h := nd_neg h c6
      exact (db_X3_readVarint_81 C K)  s0 _ _ _ h hP hD hS (lv_sub hl [0] rfl)
    · have h := nd_pos h c6
      refine lv_aload_n hx hb dX3_readVarint_17 rfl (lv_at hl 0 rfl) ?_
      obtain ⟨q7, s8, hq, h⟩ := nd_b2_e h
      have hPc := hP
      have hDc := hD
      have hKc := hK
      have hFc := nd_rs hD hS hA
      refine nd_cVi (As := []) (rest := []) (q := q7) (w' := dw_X3s a ac s8) ⟨hx, hb, hml, hown, hts⟩ (fun sz => dm_X3_readByte l hlt dC dI a ac n  s0 hq sz) (cwV 0 hts gi_dm_X3_readVarint_1 rfl rfl rfl (by decide +kernel) ⟨Nat.le_of_ble_eq_true rfl, Nat.le_of_ble_eq_true rfl⟩) hPc hDc hKc hS hA hN (va_recv hKc hPc (ci := 4) (q0 := 1) rfl rfl) rfl hl.1 rfl (Nat.le_of_ble_eq_true rfl) dX3_readVarint_18 (fun H locs hP1 hD1 hk1 hS => ?_)
      have hP := hP1
      have hD := hD1.weaken (fun k q _ h => hFc q.1 h)
      refine lv_istore (lv' := [(4, .int q7), (0, .ref (a 1)), (1, .long x1), (3, .int x3)]) hx hb dX3_readVarint_21 hl (by decide) rfl (fun ls hl => ?_)
      refine lv_lload_n hx hb dX3_readVarint_23 rfl (lv_at hl 2 rfl) ?_
      refine lv_iload hx hb dX3_readVarint_24 (lv_at hl 0 rfl) ?_
      refine lv_bipush (v := 127) hx hb dX3_readVarint_26 (by decide) ?_
      refine lv_iand hx hb dX3_readVarint_28 ?_
      refine lv_i2l hx hb dX3_readVarint_29 rfl ?_
      refine lv_bipush (v := 7) hx hb dX3_readVarint_30 (by decide) ?_
      refine lv_iload_n hx hb dX3_readVarint_32 rfl (lv_at hl 3 rfl) ?_
      refine lv_imul hx hb dX3_readVarint_33 ?_
      refine lv_lshl hx hb dX3_readVarint_34 rfl ?_
      refine lv_lor hx hb dX3_readVarint_35 ?_
      refine lv_topl (fun z10 ez10 => ?_)
      have h := nd_at h ez10
      refine lv_lstore_n (lv' := [(1, .long z10), (4, .int q7), (0, .ref (a 1)), (3, .int x3)]) hx hb dX3_readVarint_36 rfl hl (by decide) rfl (fun ls hl => ?_)
      refine lv_iload hx hb dX3_readVarint_37 (lv_at hl 1 rfl) ?_
      refine lv_sipush (v := 128) hx hb dX3_readVarint_39 (by decide) ?_
      refine lv_icmp_ge (tgt := 75) hx hb dX3_readVarint_42 (by decide) (fun c11 => ?_) (fun c11 => ?_)
      · have h := nd_pos h c11
        obtain ⟨z12, ez12, h⟩ := nd_let_e h
        refine lv_iinc (v := z12) (lv' := [(3, .int z12), (1, .long z10), (4, .int q7), (0, .ref (a 1))]) hx hb dX3_readVarint_75 hl (k := 3) rfl (by rw [ez12]) (by decide) rfl (fun ls hl => ?_)
        refine lv_goto (tgt := 4) hx hb dX3_readVarint_78 (by decide) ?_
        exact (J4) (z10) (z12) s8 _ _ _ h hP hD hS (lv_sub hl [3, 1, 0] rfl)
      · have h := nd_neg h c11
        refine lv_iload_n hx hb dX3_readVarint_45 rfl (lv_at hl 3 rfl) ?_
        refine lv_if_le (tgt := 54) hx hb dX3_readVarint_46 (by decide) (fun c13 => ?_) (fun c13 => ?_)
        · have h := nd_pos h c13
          exact (db_X3_readVarint_54 C K) (z10) s8 _ _ _ h hP hD hS (lv_sub hl [2, 0] rfl)
        · have h := nd_neg h c13
          refine lv_iload hx hb dX3_readVarint_49 (lv_at hl 1 rfl) ?_
          refine lv_if_eq (tgt := 62) hx hb dX3_readVarint_51 (by decide) (fun c19 => ?_) (fun c19 => ?_)
          · have h := nd_pos h c19
            exact (db_X3_readVarint_62 C K) (z10) s8 _ _ _ h hP hD hS (lv_sub hl [2, 0] rfl)
          · have h := nd_neg h c19
            exact (db_X3_readVarint_54 C K) (z10) s8 _ _ _ h hP hD hS (lv_sub hl [2, 0] rfl)
set_option maxHeartbeats 40000000 in
set_option maxRecDepth 100000 in
theorem db_X3_readVarint_4 {p : Program} {l : Launch} {e : Env} {s : State} {m : MethodId} {args : Array Value} {below : List Frame} {meth : Method} {c : Code} {Q : State → Prop} {A : Nat → Prop} {dC : Nat → ClassId} {dI : Nat → Nat → Nat} {a : Nat → Nat} {ac : Nat → ClassId} {n : Nat} {r : Int64 × (St × (St))} (C : nd_C p l s m args c A (dC, dI) cX3_readVarint 5 RX3 ow_dm_X3_readVarint (dk_X3s ac)) (K : nd_Kl p l e (headSpec ow_dm_X3_readVarint ({ frames := 2, cells := 0, slots := 0, locals := 42 })).room s m args below meth c Q A (dC, dI) cX3_readVarint (St × (St)) (dw_X3s a ac) r) (k : Nat) : dj_X3_readVarint_4 p l e s m args below meth c Q A dC dI a ac (df_X3_readVarint_4 n (a 0) k) r := by
  induction k with
  | zero => intro x1 x3 s0 H locs ls h; exact nomatch (show (none : Option (Int64 × (St × (St)))) = some r from h)
  | succ k ih => exact dB_X3_readVarint_4 C K ih
set_option maxHeartbeats 40000000 in
set_option maxRecDepth 100000 in
theorem db_X3_readVarint_0 {p : Program} {l : Launch} {e : Env} {s : State} {m : MethodId} {args : Array Value} {below : List Frame} {meth : Method} {c : Code} {Q : State → Prop} {A : Nat → Prop} {dC : Nat → ClassId} {dI : Nat → Nat → Nat} {a : Nat → Nat} {ac : Nat → ClassId} {n : Nat} {r : Int64 × (St × (St))} (C : nd_C p l s m args c A (dC, dI) cX3_readVarint 5 RX3 ow_dm_X3_readVarint (dk_X3s ac)) (K : nd_Kl p l e (headSpec ow_dm_X3_readVarint ({ frames := 2, cells := 0, slots := 0, locals := 42 })).room s m args below meth c Q A (dC, dI) cX3_readVarint (St × (St)) (dw_X3s a ac) r) : dj_X3_readVarint_0 p l e s m args below meth c Q A dC dI a ac (df_X3_readVarint_0 n (a 0)) r := by
  obtain ⟨hlt, hx, hb, hml, hown, hts, hN, hA, hK⟩ := id C
  intro s0 H locs ls h hP hD hS hl
  unfold df_X3_readVarint_0 at h
  refine lv_lconst (v := 0) hx hb dX3_readVarint_0 (by decide) ?_
  refine lv_lstore_n (lv' := [(1, .long 0), (0, .ref (a 1))]) hx hb dX3_readVarint_1 rfl hl (by decide) rfl (fun ls hl => ?_)
  refine lv_iconst (v := 0) hx hb dX3_readVarint_2 (by decide) ?_
  refine lv_istore_n (lv' := [(3, .int 0), (1, .long 0), (0, .ref (a 1))]) hx hb dX3_readVarint_3 rfl hl (by decide) rfl (fun ls hl => ?_)
  exact (db_X3_readVarint_4 C K n) (0) (0) s0 _ _ _ h hP hD hS (lv_sub hl [2, 1, 0] rfl)
set_option maxHeartbeats 40000000 in
set_option maxRecDepth 100000 in
theorem dm_X3_readVarint (l : Launch) (hlt : l.stackTraces = false) (dC : Nat → ClassId) (dI : Nat → Nat → Nat) (a : Nat → Nat) (ac : Nat → ClassId) (n : Nat) (s0 : St × (St)) {r : Int64 × (St × (St))} (h : df_X3_readVarint n (a 0) s0 = some r) (sz : Nat) : Met l yX3_readVarint ow_dm_X3_readVarint ({ frames := 2, cells := 0, slots := 0, locals := 42 }) (va_Pc [.ref (a 1)] (fun U => U.heap.size = sz ∧ va_P (dC, dI) vwCl (dw_X3s a ac s0) U.heap ∧ va_K (dC, dI) vwCl (dk_X3s ac) U ∧ va_D (fun _ => True) (dw_X3s a ac s0) ∧ nv_E (va_A (dw_X3s a ac s0) sz) U)) (va_Ql (fun x _ => x = r.1) (fun (_ : Unit) t => va_P (dC, dI) vwCl (dw_X3s a ac r.2) t.heap ∧ va_K (dC, dI) vwCl (dk_X3s ac) t ∧ va_D (va_A (dw_X3s a ac s0) sz) (dw_X3s a ac r.2)) (va_A (dw_X3s a ac s0) sz)) 0 0 (va_A (dw_X3s a ac s0) sz) := by
  refine Met.ofW (cc := cX3_readVarint) (maxL := 5) (ret := (some .long)) (by decide) rfl ?_
  intro p e s m args below meth c s₁ B hml hv
  obtain ⟨rfl, hsz, hP, hK, hD0, hN⟩ := hv
  have hx := B.exec
  have hb := B.bytes
  have hr := B.returns
  have hts := atoms_spec (ws := ow_dm_X3_readVarint) B.pre
  have hown : s.vm.findClass RX3 = some m.cls := findClass_of_methodNamed B.named
  have hlocks := B.notSynchronized
  subst hsz
  have hD := hD0.self (sz := s.heap.size)
  generalize hAe : va_A (dw_X3s a ac s0) s.heap.size = A at hD hN ⊢
  have hA : ∀ q : Nat, s.heap.size ≤ q → A q := fun q h => by rw [← hAe]; exact Or.inr h
  have hl := lv_entry ([.ref (a 1)]) (n := 5) (Nat.le_of_ble_eq_true rfl)
  rw [lg_entry_eq]
  generalize (lg_sl ([.ref (a 1)]) ++ List.replicate (5 - (lg_sl ([.ref (a 1)])).length) Slot.unset).toArray = ls at hl ⊢
  have hl : lv_has ls 5 [(0, .ref (a 1))] := hl
  exact db_X3_readVarint_0 (dC := dC) (dI := dI) (a := a) (ac := ac) (n := n) (r := r) ⟨hlt, hx, hb, hml, hown, hts, hN, hA, hK⟩ (fun pc v τ H locs ls d er hP hD hS => by subst er; exact W.lret (v := v) hx hb hr (fun t ht hW => ⟨⟨v, (), rfl, rfl, by rw [ht]; exact hP, va_K.moved hW.alike hK, hD⟩, hS.F ht⟩) hS.2.2 d) s0 _ _ _ h hP hD va_S.rf (lv_sub hl [0] rfl)
def ow_dm_X3_isHead : List Cond := .code yX3_isHead cX3_isHead 3 (some .boolean) :: ([] ++ [])
theorem gd_dm_X3_isHead : ∀ w ∈ ow_dm_X3_isHead, (w.onTables && w.keeps) = true ∨ ∃ ty, w = Cond.arrayClass ty := List.forall_mem_cons.mpr ⟨good_of_word rfl, List.forall_mem_append.mpr ⟨fun w h => good_of_word (List.all_eq_true.mp (by decide +kernel) w h), fun _ h => nomatch h⟩⟩
def dj_X3_isHead_40 (p : Program) (l : Launch) (e : Env) (s : State) (m : MethodId) (args : Array Value) (below : List Frame) (meth : Method) (c : Code) (Q : State → Prop) (A : Nat → Prop) (dC : Nat → ClassId) (dI : Nat → Nat → Nat) (a : Nat → Nat) (ac : Nat → ClassId) (g : (Unit) → Option (Int32 × (Unit))) (r : Int32 × (Unit)) : Prop := ∀ (s0 : Unit) (H : Heap) (locs : List Loc) (ls : Array Slot), g s0 = some r → va_P (dC, dI) vwCl (dw_P a ac s0) H → va_D A (dw_P a ac s0) → va_S A s.heap H locs → lv_has ls 3 [] → W p l e (headSpec ow_dm_X3_isHead ({ frames := 0, cells := 0, slots := 0, locals := 0 })).room s m args below meth c H locs 0 0 Q (F0 m 40 ls [])
def dj_X3_isHead_53 (p : Program) (l : Launch) (e : Env) (s : State) (m : MethodId) (args : Array Value) (below : List Frame) (meth : Method) (c : Code) (Q : State → Prop) (A : Nat → Prop) (dC : Nat → ClassId) (dI : Nat → Nat → Nat) (a : Nat → Nat) (ac : Nat → ClassId) (g : Int32 → (Unit) → Option (Int32 × (Unit))) (r : Int32 × (Unit)) : Prop := ∀ (y0 : Int32) (s0 : Unit) (H : Heap) (locs : List Loc) (ls : Array Slot), g y0 s0 = some r → va_P (dC, dI) vwCl (dw_P a ac s0) H → va_D A (dw_P a ac s0) → va_S A s.heap H locs → lv_has ls 3 [] → W p l e (headSpec ow_dm_X3_isHead ({ frames := 0, cells := 0, slots := 0, locals := 0 })).room s m args below meth c H locs 0 0 Q (F0 m 53 ls [.int y0])
def dj_X3_isHead_64 (p : Program) (l : Launch) (e : Env) (s : State) (m : MethodId) (args : Array Value) (below : List Frame) (meth : Method) (c : Code) (Q : State → Prop) (A : Nat → Prop) (dC : Nat → ClassId) (dI : Nat → Nat → Nat) (a : Nat → Nat) (ac : Nat → ClassId) (g : Int32 → (Unit) → Option (Int32 × (Unit))) (r : Int32 × (Unit)) : Prop := ∀ (y0 : Int32) (s0 : Unit) (H : Heap) (locs : List Loc) (ls : Array Slot), g y0 s0 = some r → va_P (dC, dI) vwCl (dw_P a ac s0) H → va_D A (dw_P a ac s0) → va_S A s.heap H locs → lv_has ls 3 [] → W p l e (headSpec ow_dm_X3_isHead ({ frames := 0, cells := 0, slots := 0, locals := 0 })).room s m args below meth c H locs 0 0 Q (F0 m 64 ls [.int y0])
def dj_X3_isHead_74 (p : Program) (l : Launch) (e : Env) (s : State) (m : MethodId) (args : Array Value) (below : List Frame) (meth : Method) (c : Code) (Q : State → Prop) (A : Nat → Prop) (dC : Nat → ClassId) (dI : Nat → Nat → Nat) (a : Nat → Nat) (ac : Nat → ClassId) (g : Int32 → (Unit) → Option (Int32 × (Unit))) (r : Int32 × (Unit)) : Prop := ∀ (y0 : Int32) (s0 : Unit) (H : Heap) (locs : List Loc) (ls : Array Slot), g y0 s0 = some r → va_P (dC, dI) vwCl (dw_P a ac s0) H → va_D A (dw_P a ac s0) → va_S A s.heap H locs → lv_has ls 3 [] → W p l e (headSpec ow_dm_X3_isHead ({ frames := 0, cells := 0, slots := 0, locals := 0 })).room s m args below meth c H locs 0 0 Q (F0 m 74 ls [.int y0])
def dj_X3_isHead_84 (p : Program) (l : Launch) (e : Env) (s : State) (m : MethodId) (args : Array Value) (below : List Frame) (meth : Method) (c : Code) (Q : State → Prop) (A : Nat → Prop) (dC : Nat → ClassId) (dI : Nat → Nat → Nat) (a : Nat → Nat) (ac : Nat → ClassId) (g : Int32 → (Unit) → Option (Int32 × (Unit))) (r : Int32 × (Unit)) : Prop := ∀ (y0 : Int32) (s0 : Unit) (H : Heap) (locs : List Loc) (ls : Array Slot), g y0 s0 = some r → va_P (dC, dI) vwCl (dw_P a ac s0) H → va_D A (dw_P a ac s0) → va_S A s.heap H locs → lv_has ls 3 [] → W p l e (headSpec ow_dm_X3_isHead ({ frames := 0, cells := 0, slots := 0, locals := 0 })).room s m args below meth c H locs 0 0 Q (F0 m 84 ls [.int y0])
def dj_X3_isHead_0 (p : Program) (l : Launch) (e : Env) (s : State) (m : MethodId) (args : Array Value) (below : List Frame) (meth : Method) (c : Code) (Q : State → Prop) (A : Nat → Prop) (dC : Nat → ClassId) (dI : Nat → Nat → Nat) (a : Nat → Nat) (ac : Nat → ClassId) (g : Int32 → Int32 → Int32 → (Unit) → Option (Int32 × (Unit))) (r : Int32 × (Unit)) : Prop := ∀ (v0 : Int32) (v1 : Int32) (v2 : Int32) (s0 : Unit) (H : Heap) (locs : List Loc) (ls : Array Slot), g v0 v1 v2 s0 = some r → va_P (dC, dI) vwCl (dw_P a ac s0) H → va_D A (dw_P a ac s0) → va_S A s.heap H locs → lv_has ls 3 [(0, .int v0), (1, .int v1), (2, .int v2)] → W p l e (headSpec ow_dm_X3_isHead ({ frames := 0, cells := 0, slots := 0, locals := 0 })).room s m args below meth c H locs 0 0 Q (F0 m 0 ls [])
set_option maxHeartbeats 40000000 in
set_option maxRecDepth 100000 in
theorem db_X3_isHead_40 {p : Program} {l : Launch} {e : Env} {s : State} {m : MethodId} {args : Array Value} {below : List Frame} {meth : Method} {c : Code} {Q : State → Prop} {A : Nat → Prop} {dC : Nat → ClassId} {dI : Nat → Nat → Nat} {a : Nat → Nat} {ac : Nat → ClassId} {n : Nat} {r : Int32 × (Unit)} (C : nd_C p l s m args c A (dC, dI) cX3_isHead 3 RX3 ow_dm_X3_isHead (dk_P ac)) (K : nd_Ki p l e (headSpec ow_dm_X3_isHead ({ frames := 0, cells := 0, slots := 0, locals := 0 })).room s m args below meth c Q A (dC, dI) cX3_isHead .boolean (Unit) (dw_P a ac) r) : dj_X3_isHead_40 p l e s m args below meth c Q A dC dI a ac (df_X3_isHead_40 n) r := by
  obtain ⟨hlt, hx, hb, hml, hown, hts, hN, hA, hK⟩ := id C
  intro s0 H locs ls h hP hD hS hl
  unfold df_X3_isHead_40 at h
  refine lv_iconst (v := 1) hx hb dX3_isHead_40 (by decide) ?_
  exact K _ _ _ _ _ _ dX3_isHead_41 (by first | rfl | decide) (Option.some.inj h).symm hP hD hS
set_option maxHeartbeats 40000000 in
set_option maxRecDepth 100000 in
theorem db_X3_isHead_53 {p : Program} {l : Launch} {e : Env} {s : State} {m : MethodId} {args : Array Value} {below : List Frame} {meth : Method} {c : Code} {Q : State → Prop} {A : Nat → Prop} {dC : Nat → ClassId} {dI : Nat → Nat → Nat} {a : Nat → Nat} {ac : Nat → ClassId} {n : Nat} {r : Int32 × (Unit)} (C : nd_C p l s m args c A (dC, dI) cX3_isHead 3 RX3 ow_dm_X3_isHead (dk_P ac)) (K : nd_Ki p l e (headSpec ow_dm_X3_isHead ({ frames := 0, cells := 0, slots := 0, locals := 0 })).room s m args below meth c Q A (dC, dI) cX3_isHead .boolean (Unit) (dw_P a ac) r) : dj_X3_isHead_53 p l e s m args below meth c Q A dC dI a ac (df_X3_isHead_53 n) r := by
  obtain ⟨hlt, hx, hb, hml, hown, hts, hN, hA, hK⟩ := id C
  intro y0 s0 H locs ls h hP hD hS hl
  unfold df_X3_isHead_53 at h
  obtain ⟨n4, h⟩ := nd_z_e ⟨_, rfl⟩ h
  exact K _ _ _ _ _ _ dX3_isHead_53 n4 (Option.some.inj h).symm hP hD hS
set_option maxHeartbeats 40000000 in
set_option maxRecDepth 100000 in
theorem db_X3_isHead_64 {p : Program} {l : Launch} {e : Env} {s : State} {m : MethodId} {args : Array Value} {below : List Frame} {meth : Method} {c : Code} {Q : State → Prop} {A : Nat → Prop} {dC : Nat → ClassId} {dI : Nat → Nat → Nat} {a : Nat → Nat} {ac : Nat → ClassId} {n : Nat} {r : Int32 × (Unit)} (C : nd_C p l s m args c A (dC, dI) cX3_isHead 3 RX3 ow_dm_X3_isHead (dk_P ac)) (K : nd_Ki p l e (headSpec ow_dm_X3_isHead ({ frames := 0, cells := 0, slots := 0, locals := 0 })).room s m args below meth c Q A (dC, dI) cX3_isHead .boolean (Unit) (dw_P a ac) r) : dj_X3_isHead_64 p l e s m args below meth c Q A dC dI a ac (df_X3_isHead_64 n) r := by
  obtain ⟨hlt, hx, hb, hml, hown, hts, hN, hA, hK⟩ := id C
  intro y0 s0 H locs ls h hP hD hS hl
  unfold df_X3_isHead_64 at h
  obtain ⟨n8, h⟩ := nd_z_e ⟨_, rfl⟩ h
  exact K _ _ _ _ _ _ dX3_isHead_64 n8 (Option.some.inj h).symm hP hD hS
set_option maxHeartbeats 40000000 in
set_option maxRecDepth 100000 in
theorem db_X3_isHead_74 {p : Program} {l : Launch} {e : Env} {s : State} {m : MethodId} {args : Array Value} {below : List Frame} {meth : Method} {c : Code} {Q : State → Prop} {A : Nat → Prop} {dC : Nat → ClassId} {dI : Nat → Nat → Nat} {a : Nat → Nat} {ac : Nat → ClassId} {n : Nat} {r : Int32 × (Unit)} (C : nd_C p l s m args c A (dC, dI) cX3_isHead 3 RX3 ow_dm_X3_isHead (dk_P ac)) (K : nd_Ki p l e (headSpec ow_dm_X3_isHead ({ frames := 0, cells := 0, slots := 0, locals := 0 })).room s m args below meth c Q A (dC, dI) cX3_isHead .boolean (Unit) (dw_P a ac) r) : dj_X3_isHead_74 p l e s m args below meth c Q A dC dI a ac (df_X3_isHead_74 n) r := by
  obtain ⟨hlt, hx, hb, hml, hown, hts, hN, hA, hK⟩ := id C
  intro y0 s0 H locs ls h hP hD hS hl
  unfold df_X3_isHead_74 at h
  obtain ⟨n11, h⟩ := nd_z_e ⟨_, rfl⟩ h
  exact K _ _ _ _ _ _ dX3_isHead_74 n11 (Option.some.inj h).symm hP hD hS
set_option maxHeartbeats 40000000 in
set_option maxRecDepth 100000 in
theorem db_X3_isHead_84 {p : Program} {l : Launch} {e : Env} {s : State} {m : MethodId} {args : Array Value} {below : List Frame} {meth : Method} {c : Code} {Q : State → Prop} {A : Nat → Prop} {dC : Nat → ClassId} {dI : Nat → Nat → Nat} {a : Nat → Nat} {ac : Nat → ClassId} {n : Nat} {r : Int32 × (Unit)} (C : nd_C p l s m args c A (dC, dI) cX3_isHead 3 RX3 ow_dm_X3_isHead (dk_P ac)) (K : nd_Ki p l e (headSpec ow_dm_X3_isHead ({ frames := 0, cells := 0, slots := 0, locals := 0 })).room s m args below meth c Q A (dC, dI) cX3_isHead .boolean (Unit) (dw_P a ac) r) : dj_X3_isHead_84 p l e s m args below meth c Q A dC dI a ac (df_X3_isHead_84 n) r := by
  obtain ⟨hlt, hx, hb, hml, hown, hts, hN, hA, hK⟩ := id C
  intro y0 s0 H locs ls h hP hD hS hl
  unfold df_X3_isHead_84 at h
  obtain ⟨n14, h⟩ := nd_z_e ⟨_, rfl⟩ h
  exact K _ _ _ _ _ _ dX3_isHead_84 n14 (Option.some.inj h).symm hP hD hS
set_option maxHeartbeats 40000000 in
set_option maxRecDepth 100000 in
theorem db_X3_isHead_0 {p : Program} {l : Launch} {e : Env} {s : State} {m : MethodId} {args : Array Value} {below : List Frame} {meth : Method} {c : Code} {Q : State → Prop} {A : Nat → Prop} {dC : Nat → ClassId} {dI : Nat → Nat → Nat} {a : Nat → Nat} {ac : Nat → ClassId} {n : Nat} {r : Int32 × (Unit)} (C : nd_C p l s m args c A (dC, dI) cX3_isHead 3 RX3 ow_dm_X3_isHead (dk_P ac)) (K : nd_Ki p l e (headSpec ow_dm_X3_isHead ({ frames := 0, cells := 0, slots := 0, locals := 0 })).room s m args below meth c Q A (dC, dI) cX3_isHead .boolean (Unit) (dw_P a ac) r) : dj_X3_isHead_0 p l e s m args below meth c Q A dC dI a ac (df_X3_isHead_0 n) r := by
  obtain ⟨hlt, hx, hb, hml, hown, hts, hN, hA, hK⟩ := id C
  intro v0 v1 v2 s0 H locs ls h hP hD hS hl
  unfold df_X3_isHead_0 at h
  refine lv_iload_n hx hb dX3_isHead_0 rfl (lv_at hl 0 rfl) ?_
  by_cases c1 : v0 = 0
  · have h := nd_pos h c1
    refine lv_tableIn (off := 39) (tgt := 40) hx hb dX3_isHead_1 (by rw [c1]; decide) (by rw [c1]; decide) (by rw [c1]; decide) (by decide) ?_
    exact (db_X3_isHead_40 C K)  s0 _ _ _ h hP hD hS (lv_sub hl [] rfl)
  have h := nd_neg h c1
  by_cases c2 : v0 = 1
  · have h := nd_pos h c2
    refine lv_tableIn (off := 41) (tgt := 42) hx hb dX3_isHead_1 (by rw [c2]; decide) (by rw [c2]; decide) (by rw [c2]; decide) (by decide) ?_
    refine lv_iload_n hx hb dX3_isHead_42 rfl (lv_at hl 1 rfl) ?_
    refine lv_bipush (v := 8) hx hb dX3_isHead_43 (by decide) ?_
    refine lv_icmp_gt (tgt := 52) hx hb dX3_isHead_45 (by decide) (fun c3 => ?_) (fun c3 => ?_)
    · have h := nd_pos h c3
      refine lv_iconst (v := 0) hx hb dX3_isHead_52 (by decide) ?_
      exact (db_X3_isHead_53 C K) (0) s0 _ _ _ h hP hD hS (lv_sub hl [] rfl)
    · have h := nd_neg h c3
      refine lv_iconst (v := 1) hx hb dX3_isHead_48 (by decide) ?_
      refine lv_goto (tgt := 53) hx hb dX3_isHead_49 (by decide) ?_
      exact (db_X3_isHead_53 C K) (1) s0 _ _ _ h hP hD hS (lv_sub hl [] rfl)
  have h := nd_neg h c2
  by_cases c5 : v0 = 2
  · have h := nd_pos h c5
    refine lv_tableIn (off := 39) (tgt := 40) hx hb dX3_isHead_1 (by rw [c5]; decide) (by rw [c5]; decide) (by rw [c5]; decide) (by decide) ?_
    exact (db_X3_isHead_40 C K)  s0 _ _ _ h hP hD hS (lv_sub hl [] rfl)
  have h := nd_neg h c5
  by_cases c6 : v0 = 3
  · have h := nd_pos h c6
    refine lv_tableIn (off := 53) (tgt := 54) hx hb dX3_isHead_1 (by rw [c6]; decide) (by rw [c6]; decide) (by rw [c6]; decide) (by decide) ?_
    refine lv_iload_n hx hb dX3_isHead_54 rfl (lv_at hl 1 rfl) ?_
    refine lv_iconst (v := 1) hx hb dX3_isHead_55 (by decide) ?_
    refine lv_icmp_gt (tgt := 63) hx hb dX3_isHead_56 (by decide) (fun c7 => ?_) (fun c7 => ?_)
    · have h := nd_pos h c7
      refine lv_iconst (v := 0) hx hb dX3_isHead_63 (by decide) ?_
      exact (db_X3_isHead_64 C K) (0) s0 _ _ _ h hP hD hS (lv_sub hl [] rfl)
    · have h := nd_neg h c7
      refine lv_iconst (v := 1) hx hb dX3_isHead_59 (by decide) ?_
      refine lv_goto (tgt := 64) hx hb dX3_isHead_60 (by decide) ?_
      exact (db_X3_isHead_64 C K) (1) s0 _ _ _ h hP hD hS (lv_sub hl [] rfl)
  have h := nd_neg h c6
  by_cases c9 : v0 = 4
  · have h := nd_pos h c9
    refine lv_tableIn (off := 64) (tgt := 65) hx hb dX3_isHead_1 (by rw [c9]; decide) (by rw [c9]; decide) (by rw [c9]; decide) (by decide) ?_
    refine lv_iload_n hx hb dX3_isHead_65 rfl (lv_at hl 1 rfl) ?_
    refine lv_if_ne (tgt := 73) hx hb dX3_isHead_66 (by decide) (fun c10 => ?_) (fun c10 => ?_)
    · have h := nd_neg h c10
      refine lv_iconst (v := 0) hx hb dX3_isHead_73 (by decide) ?_
      exact (db_X3_isHead_74 C K) (0) s0 _ _ _ h hP hD hS (lv_sub hl [] rfl)
    · have h := nd_pos h c10
      refine lv_iconst (v := 1) hx hb dX3_isHead_69 (by decide) ?_
      refine lv_goto (tgt := 74) hx hb dX3_isHead_70 (by decide) ?_
      exact (db_X3_isHead_74 C K) (1) s0 _ _ _ h hP hD hS (lv_sub hl [] rfl)
  have h := nd_neg h c9
  by_cases c12 : v0 = 5
  · have h := nd_pos h c12
    refine lv_tableIn (off := 74) (tgt := 75) hx hb dX3_isHead_1 (by rw [c12]; decide) (by rw [c12]; decide) (by rw [c12]; decide) (by decide) ?_
    refine lv_iload_n hx hb dX3_isHead_75 rfl (lv_at hl 2 rfl) ?_
    refine lv_if_ne (tgt := 83) hx hb dX3_isHead_76 (by decide) (fun c13 => ?_) (fun c13 => ?_)
    · have h := nd_neg h c13
      refine lv_iconst (v := 0) hx hb dX3_isHead_83 (by decide) ?_
      exact (db_X3_isHead_84 C K) (0) s0 _ _ _ h hP hD hS (lv_sub hl [] rfl)
    · have h := nd_pos h c13
      refine lv_iconst (v := 1) hx hb dX3_isHead_79 (by decide) ?_
      refine lv_goto (tgt := 84) hx hb dX3_isHead_80 (by decide) ?_
      exact (db_X3_isHead_84 C K) (1) s0 _ _ _ h hP hD hS (lv_sub hl [] rfl)
  have h := nd_neg h c12
  refine lv_tableOut (tgt := 85) hx hb dX3_isHead_1 (by have g0 := nv_nei c1 (k := 0) (by decide); have g1 := nv_nei c2 (k := 1) (by decide); have g2 := nv_nei c5 (k := 2) (by decide); have g3 := nv_nei c6 (k := 3) (by decide); have g4 := nv_nei c9 (k := 4) (by decide); have g5 := nv_nei c12 (k := 5) (by decide); omega) (by decide) ?_
  refine lv_iconst (v := 0) hx hb dX3_isHead_85 (by decide) ?_
  exact K _ _ _ _ _ _ dX3_isHead_86 (by first | rfl | decide) (Option.some.inj h).symm hP hD hS
set_option maxHeartbeats 40000000 in
set_option maxRecDepth 100000 in
theorem dm_X3_isHead (l : Launch) (hlt : l.stackTraces = false) (dC : Nat → ClassId) (dI : Nat → Nat → Nat) (a : Nat → Nat) (ac : Nat → ClassId) (n : Nat) (v0 : Int32) (v1 : Int32) (v2 : Int32) (s0 : Unit) {r : Int32 × (Unit)} (h : df_X3_isHead n v0 v1 v2 s0 = some r) (sz : Nat) : Met l yX3_isHead ow_dm_X3_isHead ({ frames := 0, cells := 0, slots := 0, locals := 0 }) (va_Pc [.int v0, .int v1, .int v2] (fun U => U.heap.size = sz ∧ va_P (dC, dI) vwCl (dw_P a ac s0) U.heap ∧ va_K (dC, dI) vwCl (dk_P ac) U ∧ va_D (fun _ => True) (dw_P a ac s0) ∧ nv_E (va_A (dw_P a ac s0) sz) U)) (va_Qi (fun x _ => x = r.1) (fun (_ : Unit) t => va_P (dC, dI) vwCl (dw_P a ac r.2) t.heap ∧ va_K (dC, dI) vwCl (dk_P ac) t ∧ va_D (va_A (dw_P a ac s0) sz) (dw_P a ac r.2)) (va_A (dw_P a ac s0) sz)) 0 0 (va_A (dw_P a ac s0) sz) := by
  refine Met.ofW (cc := cX3_isHead) (maxL := 3) (ret := (some .boolean)) (by decide) rfl ?_
  intro p e s m args below meth c s₁ B hml hv
  obtain ⟨rfl, hsz, hP, hK, hD0, hN⟩ := hv
  have hx := B.exec
  have hb := B.bytes
  have hr := B.returns
  have hts := atoms_spec (ws := ow_dm_X3_isHead) B.pre
  have hown : s.vm.findClass RX3 = some m.cls := findClass_of_methodNamed B.named
  have hlocks := B.notSynchronized
  subst hsz
  have hD := hD0.self (sz := s.heap.size)
  generalize hAe : va_A (dw_P a ac s0) s.heap.size = A at hD hN ⊢
  have hA : ∀ q : Nat, s.heap.size ≤ q → A q := fun q h => by rw [← hAe]; exact Or.inr h
  have hl := lv_entry ([.int v0, .int v1, .int v2]) (n := 3) (Nat.le_of_ble_eq_true rfl)
  rw [lg_entry_eq]
  generalize (lg_sl ([.int v0, .int v1, .int v2]) ++ List.replicate (3 - (lg_sl ([.int v0, .int v1, .int v2])).length) Slot.unset).toArray = ls at hl ⊢
  have hl : lv_has ls 3 [(0, .int v0), (1, .int v1), (2, .int v2)] := hl
  exact db_X3_isHead_0 (dC := dC) (dI := dI) (a := a) (ac := ac) (n := n) (r := r) ⟨hlt, hx, hb, hml, hown, hts, hN, hA, hK⟩ (fun pc v τ H locs ls d z er hP hD hS => by subst er; exact W.zret (v := v) hx hb hr z (fun t ht hW => ⟨⟨v, (), rfl, rfl, by rw [ht]; exact hP, va_K.moved hW.alike hK, hD⟩, hS.F ht⟩) hS.2.2 d) v0 v1 v2 s0 _ _ _ h hP hD va_S.rf (lv_sub hl [0, 1, 2] rfl)
def ow_dm_X3_readBytes : List Cond := .code yX3_readBytes cX3_readBytes 5 (some .long) :: ([.fieldLink RX3 95 "TimeMachine$Events" "fault" "I", .methodLink RX3 117 yX3_readByte, .instanceMethod yX3_readByte, .selects RX3 yX3_readByte yX3_readByte, .initialized RX3] ++ (u_ws RX3 TX3 11 ++ (ow_dm_X3_readByte ++ [])))
theorem gd_dm_X3_readBytes : ∀ w ∈ ow_dm_X3_readBytes, (w.onTables && w.keeps) = true ∨ ∃ ty, w = Cond.arrayClass ty := List.forall_mem_cons.mpr ⟨good_of_word rfl, List.forall_mem_append.mpr ⟨fun w h => good_of_word (List.all_eq_true.mp (by decide +kernel) w h), List.forall_mem_append.mpr ⟨gu_X3, List.forall_mem_append.mpr ⟨gd_dm_X3_readByte, fun _ h => nomatch h⟩⟩⟩⟩
theorem hi_dm_X3_readBytes_X3 : ∀ w ∈ u_ws RX3 TX3 11, w ∈ ow_dm_X3_readBytes := fun w h => List.mem_cons_of_mem _ (List.mem_append_right _ (List.mem_append_left _ h))
theorem gi_dm_X3_readBytes_0 : GoodIn ow_dm_X3_readBytes (wsV RX3 117 RX3 yX3_readByte ow_dm_X3_readByte) := goodIn_app (goodIn_of _ (by decide +kernel)) (fun w h => ⟨List.mem_cons_of_mem _ (List.mem_append_right _ (List.mem_append_right _ (List.mem_append_left _ h))), gd_dm_X3_readByte w h⟩)
def dj_X3_readBytes_35 (p : Program) (l : Launch) (e : Env) (s : State) (m : MethodId) (args : Array Value) (below : List Frame) (meth : Method) (c : Code) (Q : State → Prop) (A : Nat → Prop) (dC : Nat → ClassId) (dI : Nat → Nat → Nat) (a : Nat → Nat) (ac : Nat → ClassId) (g : Int64 → (St × (St)) → Option (Int64 × (St × (St)))) (r : Int64 × (St × (St))) : Prop := ∀ (x2 : Int64) (s0 : St × (St)) (H : Heap) (locs : List Loc) (ls : Array Slot), g x2 s0 = some r → va_P (dC, dI) vwCl (dw_X3s a ac s0) H → va_D A (dw_X3s a ac s0) → va_S A s.heap H locs → lv_has ls 5 [(2, .long x2)] → W p l e (headSpec ow_dm_X3_readBytes ({ frames := 2, cells := 0, slots := 0, locals := 42 })).room s m args below meth c H locs 0 0 Q (F0 m 35 ls [])
def dj_X3_readBytes_5 (p : Program) (l : Launch) (e : Env) (s : State) (m : MethodId) (args : Array Value) (below : List Frame) (meth : Method) (c : Code) (Q : State → Prop) (A : Nat → Prop) (dC : Nat → ClassId) (dI : Nat → Nat → Nat) (a : Nat → Nat) (ac : Nat → ClassId) (g : Int32 → Int64 → Int32 → (St × (St)) → Option (Int64 × (St × (St)))) (r : Int64 × (St × (St))) : Prop := ∀ (x1 : Int32) (x2 : Int64) (x4 : Int32) (s0 : St × (St)) (H : Heap) (locs : List Loc) (ls : Array Slot), g x1 x2 x4 s0 = some r → va_P (dC, dI) vwCl (dw_X3s a ac s0) H → va_D A (dw_X3s a ac s0) → va_S A s.heap H locs → lv_has ls 5 [(0, .ref (a 1)), (1, .int x1), (2, .long x2), (4, .int x4)] → W p l e (headSpec ow_dm_X3_readBytes ({ frames := 2, cells := 0, slots := 0, locals := 42 })).room s m args below meth c H locs 0 0 Q (F0 m 5 ls [])
def dj_X3_readBytes_0 (p : Program) (l : Launch) (e : Env) (s : State) (m : MethodId) (args : Array Value) (below : List Frame) (meth : Method) (c : Code) (Q : State → Prop) (A : Nat → Prop) (dC : Nat → ClassId) (dI : Nat → Nat → Nat) (a : Nat → Nat) (ac : Nat → ClassId) (g : Int32 → (St × (St)) → Option (Int64 × (St × (St)))) (r : Int64 × (St × (St))) : Prop := ∀ (v0 : Int32) (s0 : St × (St)) (H : Heap) (locs : List Loc) (ls : Array Slot), g v0 s0 = some r → va_P (dC, dI) vwCl (dw_X3s a ac s0) H → va_D A (dw_X3s a ac s0) → va_S A s.heap H locs → lv_has ls 5 [(0, .ref (a 1)), (1, .int v0)] → W p l e (headSpec ow_dm_X3_readBytes ({ frames := 2, cells := 0, slots := 0, locals := 42 })).room s m args below meth c H locs 0 0 Q (F0 m 0 ls [])
set_option maxHeartbeats 40000000 in
set_option maxRecDepth 100000 in
theorem db_X3_readBytes_35 {p : Program} {l : Launch} {e : Env} {s : State} {m : MethodId} {args : Array Value} {below : List Frame} {meth : Method} {c : Code} {Q : State → Prop} {A : Nat → Prop} {dC : Nat → ClassId} {dI : Nat → Nat → Nat} {a : Nat → Nat} {ac : Nat → ClassId} {n : Nat} {r : Int64 × (St × (St))} (C : nd_C p l s m args c A (dC, dI) cX3_readBytes 5 RX3 ow_dm_X3_readBytes (dk_X3s ac)) (K : nd_Kl p l e (headSpec ow_dm_X3_readBytes ({ frames := 2, cells := 0, slots := 0, locals := 42 })).room s m args below meth c Q A (dC, dI) cX3_readBytes (St × (St)) (dw_X3s a ac) r) : dj_X3_readBytes_35 p l e s m args below meth c Q A dC dI a ac (df_X3_readBytes_35 n (a 0)) r := by
  obtain ⟨hlt, hx, hb, hml, hown, hts, hN, hA, hK⟩ := id C
  intro x2 s0 H locs ls h hP hD hS hl
  unfold df_X3_readBytes_35 at h
  refine lv_lload_n hx hb dX3_readBytes_35 rfl (lv_at hl 0 rfl) ?_
  exact K _ _ _ _ _ _ dX3_readBytes_36 (Option.some.inj h).symm hP hD hS
set_option maxHeartbeats 40000000 in
set_option maxRecDepth 100000 in
theorem dB_X3_readBytes_5 {p : Program} {l : Launch} {e : Env} {s : State} {m : MethodId} {args : Array Value} {below : List Frame} {meth : Method} {c : Code} {Q : State → Prop} {A : Nat → Prop} {dC : Nat → ClassId} {dI : Nat → Nat → Nat} {a : Nat → Nat} {ac : Nat → ClassId} {n : Nat} {r : Int64 × (St × (St))} (C : nd_C p l s m args c A (dC, dI) cX3_readBytes 5 RX3 ow_dm_X3_readBytes (dk_X3s ac)) (K : nd_Kl p l e (headSpec ow_dm_X3_readBytes ({ frames := 2, cells := 0, slots := 0, locals := 42 })).room s m args below meth c Q A (dC, dI) cX3_readBytes (St × (St)) (dw_X3s a ac) r) {g5 : Int32 → Int64 → Int32 → (St × (St)) → Option (Int64 × (St × (St)))} (J5 : dj_X3_readBytes_5 p l e s m args below meth c Q A dC dI a ac g5 r) : dj_X3_readBytes_5 p l e s m args below meth c Q A dC dI a ac (dF_X3_readBytes_5 n (a 0) g5) r := by
  obtain ⟨hlt, hx, hb, hml, hown, hts, hN, hA, hK⟩ := id C
  intro x1 x2 x4 s0 H locs ls h hP hD hS hl
  unfold dF_X3_readBytes_5 at h
  refine lv_iload hx hb dX3_readBytes_5 (lv_at hl 3 rfl) ?_
  refine lv_iload_n hx hb dX3_readBytes_7 rfl (lv_at hl 1 rfl) ?_
  refine lv_icmp_ge (tgt := 35) hx hb dX3_readBytes_8 (by decide) (fun c1 => ?_) (fun c1 => ?_)
  · have h := nd_pos h c1
    exact (db_X3_readBytes_35 C K) (x2) s0 _ _ _ h hP hD hS (lv_sub hl [2] rfl)
  · have h := nd_neg h c1
    refine lv_aload_n hx hb dX3_readBytes_11 rfl (lv_at hl 0 rfl) ?_
    refine va_get (D := (dC, dI)) (ci := 4) (v := .int (sI s0.2 4)) (C := RX3) (T := TX3) (N := 11) hx hb hts hi_dm_X3_readBytes_X3 hown hK hP 1 rfl rfl 9 (by decide) (hts (.fieldLink RX3 95 "TimeMachine$Events" "fault" "I") (List.mem_of_getElem? (i := 1) rfl)) (fun _ h9 => h9) rfl dX3_readBytes_12 ?_
    refine lv_if_ne (tgt := 35) hx hb dX3_readBytes_15 (by decide) (fun c2 => ?_) (fun c2 => ?_)
    · have h := nd_neg h c2
      exact (db_X3_readBytes_35 C K) (x2) s0 _ _ _ h hP hD hS (lv_sub hl [2] rfl)
    · have h := nd_pos h c2
      refine lv_lload_n hx hb dX3_readBytes_18 rfl (lv_at hl 2 rfl) ?_
      refine lv_bipush (v := 8) hx hb dX3_readBytes_19 (by decide) ?_
      refine lv_lshl hx hb dX3_readBytes_21 rfl ?_
      refine lv_aload_n hx hb dX3_readBytes_22 rfl (lv_at hl 0 rfl) ?_
      obtain ⟨q3, s4, hq, h⟩ := nd_b2_e h
      have hPc := hP
      have hDc := hD
      have hKc := hK
      have hFc := nd_rs hD hS hA
      refine nd_cVi (As := []) (rest := [.long ((x2 : Int64) <<< ((8 : Int32).toInt64 &&& 63))]) (q := q3) (w' := dw_X3s a ac s4) ⟨hx, hb, hml, hown, hts⟩ (fun sz => dm_X3_readByte l hlt dC dI a ac n  s0 hq sz) (cwV 0 hts gi_dm_X3_readBytes_0 rfl rfl rfl (by decide +kernel) ⟨Nat.le_of_ble_eq_true rfl, Nat.le_of_ble_eq_true rfl⟩) hPc hDc hKc hS hA hN (va_recv hKc hPc (ci := 4) (q0 := 1) rfl rfl) rfl hl.1 rfl (Nat.le_of_ble_eq_true rfl) dX3_readBytes_23 (fun H locs hP1 hD1 hk1 hS => ?_)
      have hP := hP1
      have hD := hD1.weaken (fun k q _ h => hFc q.1 h)
      refine lv_i2l hx hb dX3_readBytes_26 rfl ?_
      refine lv_lor hx hb dX3_readBytes_27 ?_
      refine lv_topl (fun z6 ez6 => ?_)
      have h := nd_at h ez6
      refine lv_lstore_n (lv' := [(2, .long z6), (0, .ref (a 1)), (1, .int x1), (4, .int x4)]) hx hb dX3_readBytes_28 rfl hl (by decide) rfl (fun ls hl => ?_)
      obtain ⟨z7, ez7, h⟩ := nd_let_e h
      refine lv_iinc (v := z7) (lv' := [(4, .int z7), (2, .long z6), (0, .ref (a 1)), (1, .int x1)]) hx hb dX3_readBytes_29 hl (k := 3) rfl (by rw [ez7]) (by decide) rfl (fun ls hl => ?_)
      refine lv_goto (tgt := 5) hx hb dX3_readBytes_32 (by decide) ?_
      exact (J5) (x1) (z6) (z7) s4 _ _ _ h hP hD hS (lv_sub hl [2, 3, 1, 0] rfl)
set_option maxHeartbeats 40000000 in
set_option maxRecDepth 100000 in
theorem db_X3_readBytes_5 {p : Program} {l : Launch} {e : Env} {s : State} {m : MethodId} {args : Array Value} {below : List Frame} {meth : Method} {c : Code} {Q : State → Prop} {A : Nat → Prop} {dC : Nat → ClassId} {dI : Nat → Nat → Nat} {a : Nat → Nat} {ac : Nat → ClassId} {n : Nat} {r : Int64 × (St × (St))} (C : nd_C p l s m args c A (dC, dI) cX3_readBytes 5 RX3 ow_dm_X3_readBytes (dk_X3s ac)) (K : nd_Kl p l e (headSpec ow_dm_X3_readBytes ({ frames := 2, cells := 0, slots := 0, locals := 42 })).room s m args below meth c Q A (dC, dI) cX3_readBytes (St × (St)) (dw_X3s a ac) r) (k : Nat) : dj_X3_readBytes_5 p l e s m args below meth c Q A dC dI a ac (df_X3_readBytes_5 n (a 0) k) r := by
  induction k with
  | zero => intro x1 x2 x4 s0 H locs ls h; exact nomatch (show (none : Option (Int64 × (St × (St)))) = some r from h)
  | succ k ih => exact dB_X3_readBytes_5 C K ih
set_option maxHeartbeats 40000000 in
set_option maxRecDepth 100000 in
theorem db_X3_readBytes_0 {p : Program} {l : Launch} {e : Env} {s : State} {m : MethodId} {args : Array Value} {below : List Frame} {meth : Method} {c : Code} {Q : State → Prop} {A : Nat → Prop} {dC : Nat → ClassId} {dI : Nat → Nat → Nat} {a : Nat → Nat} {ac : Nat → ClassId} {n : Nat} {r : Int64 × (St × (St))} (C : nd_C p l s m args c A (dC, dI) cX3_readBytes 5 RX3 ow_dm_X3_readBytes (dk_X3s ac)) (K : nd_Kl p l e (headSpec ow_dm_X3_readBytes ({ frames := 2, cells := 0, slots := 0, locals := 42 })).room s m args below meth c Q A (dC, dI) cX3_readBytes (St × (St)) (dw_X3s a ac) r) : dj_X3_readBytes_0 p l e s m args below meth c Q A dC dI a ac (df_X3_readBytes_0 n (a 0)) r := by
  obtain ⟨hlt, hx, hb, hml, hown, hts, hN, hA, hK⟩ := id C
  intro v0 s0 H locs ls h hP hD hS hl
  unfold df_X3_readBytes_0 at h
  refine lv_lconst (v := 0) hx hb dX3_readBytes_0 (by decide) ?_
  refine lv_lstore_n (lv' := [(2, .long 0), (0, .ref (a 1)), (1, .int v0)]) hx hb dX3_readBytes_1 rfl hl (by decide) rfl (fun ls hl => ?_)
  refine lv_iconst (v := 0) hx hb dX3_readBytes_2 (by decide) ?_
  refine lv_istore (lv' := [(4, .int 0), (2, .long 0), (0, .ref (a 1)), (1, .int v0)]) hx hb dX3_readBytes_3 hl (by decide) rfl (fun ls hl => ?_)
  exact (db_X3_readBytes_5 C K n) (v0) (0) (0) s0 _ _ _ h hP hD hS (lv_sub hl [2, 3, 1, 0] rfl)
set_option maxHeartbeats 40000000 in
set_option maxRecDepth 100000 in
theorem dm_X3_readBytes (l : Launch) (hlt : l.stackTraces = false) (dC : Nat → ClassId) (dI : Nat → Nat → Nat) (a : Nat → Nat) (ac : Nat → ClassId) (n : Nat) (v0 : Int32) (s0 : St × (St)) {r : Int64 × (St × (St))} (h : df_X3_readBytes n (a 0) v0 s0 = some r) (sz : Nat) : Met l yX3_readBytes ow_dm_X3_readBytes ({ frames := 2, cells := 0, slots := 0, locals := 42 }) (va_Pc [.ref (a 1), .int v0] (fun U => U.heap.size = sz ∧ va_P (dC, dI) vwCl (dw_X3s a ac s0) U.heap ∧ va_K (dC, dI) vwCl (dk_X3s ac) U ∧ va_D (fun _ => True) (dw_X3s a ac s0) ∧ nv_E (va_A (dw_X3s a ac s0) sz) U)) (va_Ql (fun x _ => x = r.1) (fun (_ : Unit) t => va_P (dC, dI) vwCl (dw_X3s a ac r.2) t.heap ∧ va_K (dC, dI) vwCl (dk_X3s ac) t ∧ va_D (va_A (dw_X3s a ac s0) sz) (dw_X3s a ac r.2)) (va_A (dw_X3s a ac s0) sz)) 0 0 (va_A (dw_X3s a ac s0) sz) := by
  refine Met.ofW (cc := cX3_readBytes) (maxL := 5) (ret := (some .long)) (by decide) rfl ?_
  intro p e s m args below meth c s₁ B hml hv
  obtain ⟨rfl, hsz, hP, hK, hD0, hN⟩ := hv
  have hx := B.exec
  have hb := B.bytes
  have hr := B.returns
  have hts := atoms_spec (ws := ow_dm_X3_readBytes) B.pre
  have hown : s.vm.findClass RX3 = some m.cls := findClass_of_methodNamed B.named
  have hlocks := B.notSynchronized
  subst hsz
  have hD := hD0.self (sz := s.heap.size)
  generalize hAe : va_A (dw_X3s a ac s0) s.heap.size = A at hD hN ⊢
  have hA : ∀ q : Nat, s.heap.size ≤ q → A q := fun q h => by rw [← hAe]; exact Or.inr h
  have hl := lv_entry ([.ref (a 1), .int v0]) (n := 5) (Nat.le_of_ble_eq_true rfl)
  rw [lg_entry_eq]
  generalize (lg_sl ([.ref (a 1), .int v0]) ++ List.replicate (5 - (lg_sl ([.ref (a 1), .int v0])).length) Slot.unset).toArray = ls at hl ⊢
  have hl : lv_has ls 5 [(0, .ref (a 1)), (1, .int v0)] := hl
  exact db_X3_readBytes_0 (dC := dC) (dI := dI) (a := a) (ac := ac) (n := n) (r := r) ⟨hlt, hx, hb, hml, hown, hts, hN, hA, hK⟩ (fun pc v τ H locs ls d er hP hD hS => by subst er; exact W.lret (v := v) hx hb hr (fun t ht hW => ⟨⟨v, (), rfl, rfl, by rw [ht]; exact hP, va_K.moved hW.alike hK, hD⟩, hS.F ht⟩) hS.2.2 d) v0 s0 _ _ _ h hP hD va_S.rf (lv_sub hl [0, 1] rfl)
def ow_dm_X3_readBrought : List Cond := .code yX3_readBrought cX3_readBrought 13 none :: ([.fieldLink RX3 44 "TimeMachine$Events" "place" "I", .fieldLink RX3 95 "TimeMachine$Events" "fault" "I", .methodLink RX3 133 yX3_add, .instanceMethod yX3_add, .selects RX3 yX3_add yX3_add, .initialized RX3, .methodLink RX3 137 yX3_readBytes, .instanceMethod yX3_readBytes, .selects RX3 yX3_readBytes yX3_readBytes, .methodLink RX3 101 yX3_readVarint, .instanceMethod yX3_readVarint, .selects RX3 yX3_readVarint yX3_readVarint, .fieldLink RX3 39 "TimeMachine$Events" "total" "I", .methodLink RX3 80 yX3_latest, .instanceMethod yX3_latest, .selects RX3 yX3_latest yX3_latest, .fieldLink RX3 17 "TimeMachine$Events" "a" "[J", .methodLink RX3 107 yX3_blame, .instanceMethod yX3_blame, .selects RX3 yX3_blame yX3_blame, .methodLink RX3 117 yX3_readByte, .instanceMethod yX3_readByte, .selects RX3 yX3_readByte yX3_readByte, .fieldLink RX3 20 "TimeMachine$Events" "b" "[I"] ++ (u_ws RX3 TX3 11 ++ (ow_dm_X3_add ++ (ow_dm_X3_readBytes ++ (ow_dm_X3_readVarint ++ (ow_dm_X3_latest ++ (ow_dm_X3_blame ++ (ow_dm_X3_readByte ++ []))))))))
theorem gd_dm_X3_readBrought : ∀ w ∈ ow_dm_X3_readBrought, (w.onTables && w.keeps) = true ∨ ∃ ty, w = Cond.arrayClass ty := List.forall_mem_cons.mpr ⟨good_of_word rfl, List.forall_mem_append.mpr ⟨fun w h => good_of_word (List.all_eq_true.mp (by decide +kernel) w h), List.forall_mem_append.mpr ⟨gu_X3, List.forall_mem_append.mpr ⟨gd_dm_X3_add, List.forall_mem_append.mpr ⟨gd_dm_X3_readBytes, List.forall_mem_append.mpr ⟨gd_dm_X3_readVarint, List.forall_mem_append.mpr ⟨gd_dm_X3_latest, List.forall_mem_append.mpr ⟨gd_dm_X3_blame, List.forall_mem_append.mpr ⟨gd_dm_X3_readByte, fun _ h => nomatch h⟩⟩⟩⟩⟩⟩⟩⟩⟩
theorem hi_dm_X3_readBrought_X3 : ∀ w ∈ u_ws RX3 TX3 11, w ∈ ow_dm_X3_readBrought := fun w h => List.mem_cons_of_mem _ (List.mem_append_right _ (List.mem_append_left _ h))
theorem gi_dm_X3_readBrought_0 : GoodIn ow_dm_X3_readBrought (wsV RX3 133 RX3 yX3_add ow_dm_X3_add) := goodIn_app (goodIn_of _ (by decide +kernel)) (fun w h => ⟨List.mem_cons_of_mem _ (List.mem_append_right _ (List.mem_append_right _ (List.mem_append_left _ h))), gd_dm_X3_add w h⟩)
theorem gi_dm_X3_readBrought_1 : GoodIn ow_dm_X3_readBrought (wsV RX3 137 RX3 yX3_readBytes ow_dm_X3_readBytes) := goodIn_app (goodIn_of _ (by decide +kernel)) (fun w h => ⟨List.mem_cons_of_mem _ (List.mem_append_right _ (List.mem_append_right _ (List.mem_append_right _ (List.mem_append_left _ h)))), gd_dm_X3_readBytes w h⟩)
theorem gi_dm_X3_readBrought_2 : GoodIn ow_dm_X3_readBrought (wsV RX3 101 RX3 yX3_readVarint ow_dm_X3_readVarint) := goodIn_app (goodIn_of _ (by decide +kernel)) (fun w h => ⟨List.mem_cons_of_mem _ (List.mem_append_right _ (List.mem_append_right _ (List.mem_append_right _ (List.mem_append_right _ (List.mem_append_left _ h))))), gd_dm_X3_readVarint w h⟩)
theorem gi_dm_X3_readBrought_3 : GoodIn ow_dm_X3_readBrought (wsV RX3 80 RX3 yX3_latest ow_dm_X3_latest) := goodIn_app (goodIn_of _ (by decide +kernel)) (fun w h => ⟨List.mem_cons_of_mem _ (List.mem_append_right _ (List.mem_append_right _ (List.mem_append_right _ (List.mem_append_right _ (List.mem_append_right _ (List.mem_append_left _ h)))))), gd_dm_X3_latest w h⟩)
theorem gi_dm_X3_readBrought_4 : GoodIn ow_dm_X3_readBrought (wsV RX3 107 RX3 yX3_blame ow_dm_X3_blame) := goodIn_app (goodIn_of _ (by decide +kernel)) (fun w h => ⟨List.mem_cons_of_mem _ (List.mem_append_right _ (List.mem_append_right _ (List.mem_append_right _ (List.mem_append_right _ (List.mem_append_right _ (List.mem_append_right _ (List.mem_append_left _ h))))))), gd_dm_X3_blame w h⟩)
theorem gi_dm_X3_readBrought_5 : GoodIn ow_dm_X3_readBrought (wsV RX3 117 RX3 yX3_readByte ow_dm_X3_readByte) := goodIn_app (goodIn_of _ (by decide +kernel)) (fun w h => ⟨List.mem_cons_of_mem _ (List.mem_append_right _ (List.mem_append_right _ (List.mem_append_right _ (List.mem_append_right _ (List.mem_append_right _ (List.mem_append_right _ (List.mem_append_right _ (List.mem_append_left _ h)))))))), gd_dm_X3_readByte w h⟩)
def dj_X3_readBrought_235 (p : Program) (l : Launch) (e : Env) (s : State) (m : MethodId) (args : Array Value) (below : List Frame) (meth : Method) (c : Code) (Q : State → Prop) (A : Nat → Prop) (dC : Nat → ClassId) (dI : Nat → Nat → Nat) (a : Nat → Nat) (ac : Nat → ClassId) (g : (St × (St)) → Option (St × (St))) (r : St × (St)) : Prop := ∀ (s0 : St × (St)) (H : Heap) (locs : List Loc) (ls : Array Slot), g s0 = some r → va_P (dC, dI) vwCl (dw_X3s a ac s0) H → va_D A (dw_X3s a ac s0) → va_S A s.heap H locs → lv_has ls 13 [] → W p l e (headSpec ow_dm_X3_readBrought ({ frames := 3, cells := 0, slots := 0, locals := 66 })).room s m args below meth c H locs 0 0 Q (F0 m 235 ls [])
def dj_X3_readBrought_216 (p : Program) (l : Launch) (e : Env) (s : State) (m : MethodId) (args : Array Value) (below : List Frame) (meth : Method) (c : Code) (Q : State → Prop) (A : Nat → Prop) (dC : Nat → ClassId) (dI : Nat → Nat → Nat) (a : Nat → Nat) (ac : Nat → ClassId) (g : Int32 → Int64 → Int64 → Int32 → (St × (St)) → Option (St × (St))) (r : St × (St)) : Prop := ∀ (x2 : Int32) (x4 : Int64) (x6 : Int64) (x8 : Int32) (s0 : St × (St)) (H : Heap) (locs : List Loc) (ls : Array Slot), g x2 x4 x6 x8 s0 = some r → va_P (dC, dI) vwCl (dw_X3s a ac s0) H → va_D A (dw_X3s a ac s0) → va_S A s.heap H locs → lv_has ls 13 [(0, .ref (a 1)), (2, .int x2), (4, .long x4), (6, .long x6), (8, .int x8)] → W p l e (headSpec ow_dm_X3_readBrought ({ frames := 3, cells := 0, slots := 0, locals := 66 })).room s m args below meth c H locs 0 0 Q (F0 m 216 ls [])
def dj_X3_readBrought_190 (p : Program) (l : Launch) (e : Env) (s : State) (m : MethodId) (args : Array Value) (below : List Frame) (meth : Method) (c : Code) (Q : State → Prop) (A : Nat → Prop) (dC : Nat → ClassId) (dI : Nat → Nat → Nat) (a : Nat → Nat) (ac : Nat → ClassId) (g : Int32 → Int64 → Int64 → Int32 → (St × (St)) → Option (St × (St))) (r : St × (St)) : Prop := ∀ (x2 : Int32) (x4 : Int64) (x6 : Int64) (x8 : Int32) (s0 : St × (St)) (H : Heap) (locs : List Loc) (ls : Array Slot), g x2 x4 x6 x8 s0 = some r → va_P (dC, dI) vwCl (dw_X3s a ac s0) H → va_D A (dw_X3s a ac s0) → va_S A s.heap H locs → lv_has ls 13 [(0, .ref (a 1)), (2, .int x2), (4, .long x4), (6, .long x6), (8, .int x8)] → W p l e (headSpec ow_dm_X3_readBrought ({ frames := 3, cells := 0, slots := 0, locals := 66 })).room s m args below meth c H locs 0 0 Q (F0 m 190 ls [])
def dj_X3_readBrought_187 (p : Program) (l : Launch) (e : Env) (s : State) (m : MethodId) (args : Array Value) (below : List Frame) (meth : Method) (c : Code) (Q : State → Prop) (A : Nat → Prop) (dC : Nat → ClassId) (dI : Nat → Nat → Nat) (a : Nat → Nat) (ac : Nat → ClassId) (g : Int32 → Int64 → Int64 → Int32 → (St × (St)) → Option (St × (St))) (r : St × (St)) : Prop := ∀ (x2 : Int32) (x4 : Int64) (x6 : Int64) (x8 : Int32) (s0 : St × (St)) (H : Heap) (locs : List Loc) (ls : Array Slot), g x2 x4 x6 x8 s0 = some r → va_P (dC, dI) vwCl (dw_X3s a ac s0) H → va_D A (dw_X3s a ac s0) → va_S A s.heap H locs → lv_has ls 13 [(0, .ref (a 1)), (2, .int x2), (4, .long x4), (6, .long x6), (8, .int x8)] → W p l e (headSpec ow_dm_X3_readBrought ({ frames := 3, cells := 0, slots := 0, locals := 66 })).room s m args below meth c H locs 0 0 Q (F0 m 187 ls [])
def dj_X3_readBrought_132 (p : Program) (l : Launch) (e : Env) (s : State) (m : MethodId) (args : Array Value) (below : List Frame) (meth : Method) (c : Code) (Q : State → Prop) (A : Nat → Prop) (dC : Nat → ClassId) (dI : Nat → Nat → Nat) (a : Nat → Nat) (ac : Nat → ClassId) (g : Int32 → Int64 → Int64 → Int32 → Int32 → (St × (St)) → Option (St × (St))) (r : St × (St)) : Prop := ∀ (x2 : Int32) (x4 : Int64) (x6 : Int64) (x8 : Int32) (x9 : Int32) (s0 : St × (St)) (H : Heap) (locs : List Loc) (ls : Array Slot), g x2 x4 x6 x8 x9 s0 = some r → va_P (dC, dI) vwCl (dw_X3s a ac s0) H → va_D A (dw_X3s a ac s0) → va_S A s.heap H locs → lv_has ls 13 [(0, .ref (a 1)), (2, .int x2), (4, .long x4), (6, .long x6), (8, .int x8), (9, .int x9)] → W p l e (headSpec ow_dm_X3_readBrought ({ frames := 3, cells := 0, slots := 0, locals := 66 })).room s m args below meth c H locs 0 0 Q (F0 m 132 ls [])
def dj_X3_readBrought_90 (p : Program) (l : Launch) (e : Env) (s : State) (m : MethodId) (args : Array Value) (below : List Frame) (meth : Method) (c : Code) (Q : State → Prop) (A : Nat → Prop) (dC : Nat → ClassId) (dI : Nat → Nat → Nat) (a : Nat → Nat) (ac : Nat → ClassId) (g : Int32 → Int32 → Int32 → Int64 → Int64 → Int32 → Int32 → (St × (St)) → Option (St × (St))) (r : St × (St)) : Prop := ∀ (x1 : Int32) (x2 : Int32) (x3 : Int32) (x4 : Int64) (x6 : Int64) (x8 : Int32) (x9 : Int32) (s0 : St × (St)) (H : Heap) (locs : List Loc) (ls : Array Slot), g x1 x2 x3 x4 x6 x8 x9 s0 = some r → va_P (dC, dI) vwCl (dw_X3s a ac s0) H → va_D A (dw_X3s a ac s0) → va_S A s.heap H locs → lv_has ls 13 [(0, .ref (a 1)), (1, .int x1), (2, .int x2), (3, .int x3), (4, .long x4), (6, .long x6), (8, .int x8), (9, .int x9)] → W p l e (headSpec ow_dm_X3_readBrought ({ frames := 3, cells := 0, slots := 0, locals := 66 })).room s m args below meth c H locs 0 0 Q (F0 m 90 ls [])
def dj_X3_readBrought_87 (p : Program) (l : Launch) (e : Env) (s : State) (m : MethodId) (args : Array Value) (below : List Frame) (meth : Method) (c : Code) (Q : State → Prop) (A : Nat → Prop) (dC : Nat → ClassId) (dI : Nat → Nat → Nat) (a : Nat → Nat) (ac : Nat → ClassId) (g : Int32 → Int64 → Int64 → Int32 → (St × (St)) → Option (St × (St))) (r : St × (St)) : Prop := ∀ (x2 : Int32) (x4 : Int64) (x6 : Int64) (x8 : Int32) (s0 : St × (St)) (H : Heap) (locs : List Loc) (ls : Array Slot), g x2 x4 x6 x8 s0 = some r → va_P (dC, dI) vwCl (dw_X3s a ac s0) H → va_D A (dw_X3s a ac s0) → va_S A s.heap H locs → lv_has ls 13 [(0, .ref (a 1)), (2, .int x2), (4, .long x4), (6, .long x6), (8, .int x8)] → W p l e (headSpec ow_dm_X3_readBrought ({ frames := 3, cells := 0, slots := 0, locals := 66 })).room s m args below meth c H locs 0 0 Q (F0 m 87 ls [])
def dj_X3_readBrought_42 (p : Program) (l : Launch) (e : Env) (s : State) (m : MethodId) (args : Array Value) (below : List Frame) (meth : Method) (c : Code) (Q : State → Prop) (A : Nat → Prop) (dC : Nat → ClassId) (dI : Nat → Nat → Nat) (a : Nat → Nat) (ac : Nat → ClassId) (g : Int32 → Int32 → Int64 → Int64 → Int32 → Int64 → (St × (St)) → Option (St × (St))) (r : St × (St)) : Prop := ∀ (x1 : Int32) (x2 : Int32) (x4 : Int64) (x6 : Int64) (x8 : Int32) (x10 : Int64) (s0 : St × (St)) (H : Heap) (locs : List Loc) (ls : Array Slot), g x1 x2 x4 x6 x8 x10 s0 = some r → va_P (dC, dI) vwCl (dw_X3s a ac s0) H → va_D A (dw_X3s a ac s0) → va_S A s.heap H locs → lv_has ls 13 [(0, .ref (a 1)), (1, .int x1), (2, .int x2), (4, .long x4), (6, .long x6), (8, .int x8), (10, .long x10)] → W p l e (headSpec ow_dm_X3_readBrought ({ frames := 3, cells := 0, slots := 0, locals := 66 })).room s m args below meth c H locs 0 0 Q (F0 m 42 ls [])
def dj_X3_readBrought_0 (p : Program) (l : Launch) (e : Env) (s : State) (m : MethodId) (args : Array Value) (below : List Frame) (meth : Method) (c : Code) (Q : State → Prop) (A : Nat → Prop) (dC : Nat → ClassId) (dI : Nat → Nat → Nat) (a : Nat → Nat) (ac : Nat → ClassId) (g : Int32 → Int32 → Int32 → Int64 → (St × (St)) → Option (St × (St))) (r : St × (St)) : Prop := ∀ (v0 : Int32) (v1 : Int32) (v2 : Int32) (v3 : Int64) (s0 : St × (St)) (H : Heap) (locs : List Loc) (ls : Array Slot), g v0 v1 v2 v3 s0 = some r → va_P (dC, dI) vwCl (dw_X3s a ac s0) H → va_D A (dw_X3s a ac s0) → va_S A s.heap H locs → lv_has ls 13 [(0, .ref (a 1)), (1, .int v0), (2, .int v1), (3, .int v2), (4, .long v3)] → W p l e (headSpec ow_dm_X3_readBrought ({ frames := 3, cells := 0, slots := 0, locals := 66 })).room s m args below meth c H locs 0 0 Q (F0 m 0 ls [])
set_option maxHeartbeats 40000000 in
set_option maxRecDepth 100000 in
theorem db_X3_readBrought_235 {p : Program} {l : Launch} {e : Env} {s : State} {m : MethodId} {args : Array Value} {below : List Frame} {meth : Method} {c : Code} {Q : State → Prop} {A : Nat → Prop} {dC : Nat → ClassId} {dI : Nat → Nat → Nat} {a : Nat → Nat} {ac : Nat → ClassId} {n : Nat} {r : St × (St)} (C : nd_C p l s m args c A (dC, dI) cX3_readBrought 13 RX3 ow_dm_X3_readBrought (dk_X3s ac)) (K : nd_Kv p l e (headSpec ow_dm_X3_readBrought ({ frames := 3, cells := 0, slots := 0, locals := 66 })).room s m args below meth c Q A (dC, dI) cX3_readBrought (St × (St)) (dw_X3s a ac) r) : dj_X3_readBrought_235 p l e s m args below meth c Q A dC dI a ac (df_X3_readBrought_235 n (a 0)) r := by
  obtain ⟨hlt, hx, hb, hml, hown, hts, hN, hA, hK⟩ := id C
  intro s0 H locs ls h hP hD hS hl
  unfold df_X3_readBrought_235 at h
  exact K _ _ _ _ _ dX3_readBrought_235 (Option.some.inj h).symm hP hD hS
set_option maxHeartbeats 40000000 in
set_option maxRecDepth 100000 in
theorem db_X3_readBrought_216 {p : Program} {l : Launch} {e : Env} {s : State} {m : MethodId} {args : Array Value} {below : List Frame} {meth : Method} {c : Code} {Q : State → Prop} {A : Nat → Prop} {dC : Nat → ClassId} {dI : Nat → Nat → Nat} {a : Nat → Nat} {ac : Nat → ClassId} {n : Nat} {r : St × (St)} (C : nd_C p l s m args c A (dC, dI) cX3_readBrought 13 RX3 ow_dm_X3_readBrought (dk_X3s ac)) (K : nd_Kv p l e (headSpec ow_dm_X3_readBrought ({ frames := 3, cells := 0, slots := 0, locals := 66 })).room s m args below meth c Q A (dC, dI) cX3_readBrought (St × (St)) (dw_X3s a ac) r) : dj_X3_readBrought_216 p l e s m args below meth c Q A dC dI a ac (df_X3_readBrought_216 n (a 0)) r := by
  obtain ⟨hlt, hx, hb, hml, hown, hts, hN, hA, hK⟩ := id C
  intro x2 x4 x6 x8 s0 H locs ls h hP hD hS hl
  unfold df_X3_readBrought_216 at h
  refine lv_aload_n hx hb dX3_readBrought_216 rfl (lv_at hl 0 rfl) ?_
  refine va_get (D := (dC, dI)) (ci := 4) (v := .int (sI s0.2 4)) (C := RX3) (T := TX3) (N := 11) hx hb hts hi_dm_X3_readBrought_X3 hown hK hP 1 rfl rfl 9 (by decide) (hts (.fieldLink RX3 95 "TimeMachine$Events" "fault" "I") (List.mem_of_getElem? (i := 2) rfl)) (fun _ h9 => h9) rfl dX3_readBrought_217 ?_
  refine lv_if_ne (tgt := 235) hx hb dX3_readBrought_220 (by decide) (fun c9 => ?_) (fun c9 => ?_)
  · have h := nd_neg h c9
    exact (db_X3_readBrought_235 C K)  s0 _ _ _ h hP hD hS (lv_sub hl [] rfl)
  · have h := nd_pos h c9
    refine lv_aload_n hx hb dX3_readBrought_223 rfl (lv_at hl 0 rfl) ?_
    refine lv_iload_n hx hb dX3_readBrought_224 rfl (lv_at hl 1 rfl) ?_
    refine lv_lload hx hb dX3_readBrought_225 (lv_at hl 2 rfl) ?_
    refine lv_lload hx hb dX3_readBrought_227 (lv_at hl 3 rfl) ?_
    refine lv_iload hx hb dX3_readBrought_229 (lv_at hl 4 rfl) ?_
    obtain ⟨q10, s11, hq, h⟩ := nd_b2_e h
    have hPc := dp_X3s_1 hP
    have hDc := dd_X3s_1 hD
    have hKc := dy_X3s_1 hK
    have hFc := nd_rs hDc hS hA
    have hzA : ∀ q : Nat, H.size ≤ q → A q := fun q h => hA q (Nat.le_trans hS.1 h)
    refine nd_cVi (As := [.int x2, .long x4, .long x6, .int x8]) (rest := []) (q := q10) (w' := dw_X3c (fun k => a (k + 1)) (fun k => ac (k + 1)) s11) ⟨hx, hb, hml, hown, hts⟩ (fun sz => dm_X3_add l hlt dC dI (fun k => a (k + 1)) (fun k => ac (k + 1)) n (x2) (x4) (x6) (x8) s0.2 hq sz) (cwV 4 hts gi_dm_X3_readBrought_0 rfl rfl rfl (by decide +kernel) ⟨Nat.le_of_ble_eq_true rfl, Nat.le_of_ble_eq_true rfl⟩) hPc hDc hKc hS hA hN (va_recv hKc hPc (ci := 4) (q0 := 0) rfl rfl) rfl hl.1 rfl (Nat.le_of_ble_eq_true rfl) dX3_readBrought_231 (fun H locs hP1 hD1 hk1 hS => ?_)
    obtain ⟨hP, hD⟩ := dn_X3s_1 hP hD hzA hk1 hP1 hD1
    obtain ⟨s13, es13, h⟩ := nd_let_e h
    have hP : va_P (dC, dI) vwCl (dw_X3s a ac s13) H := by rw [es13]; exact hP
    have hD : va_D A (dw_X3s a ac s13) := by rw [es13]; exact hD
    refine lv_pop hx hb dX3_readBrought_234 rfl ?_
    exact (db_X3_readBrought_235 C K)  s13 _ _ _ h hP hD hS (lv_sub hl [] rfl)
set_option maxHeartbeats 40000000 in
set_option maxRecDepth 100000 in
theorem db_X3_readBrought_190 {p : Program} {l : Launch} {e : Env} {s : State} {m : MethodId} {args : Array Value} {below : List Frame} {meth : Method} {c : Code} {Q : State → Prop} {A : Nat → Prop} {dC : Nat → ClassId} {dI : Nat → Nat → Nat} {a : Nat → Nat} {ac : Nat → ClassId} {n : Nat} {r : St × (St)} (C : nd_C p l s m args c A (dC, dI) cX3_readBrought 13 RX3 ow_dm_X3_readBrought (dk_X3s ac)) (K : nd_Kv p l e (headSpec ow_dm_X3_readBrought ({ frames := 3, cells := 0, slots := 0, locals := 66 })).room s m args below meth c Q A (dC, dI) cX3_readBrought (St × (St)) (dw_X3s a ac) r) : dj_X3_readBrought_190 p l e s m args below meth c Q A dC dI a ac (df_X3_readBrought_190 n (a 0)) r := by
  obtain ⟨hlt, hx, hb, hml, hown, hts, hN, hA, hK⟩ := id C
  intro x2 x4 x6 x8 s0 H locs ls h hP hD hS hl
  unfold df_X3_readBrought_190 at h
  refine lv_iload_n hx hb dX3_readBrought_190 rfl (lv_at hl 1 rfl) ?_
  refine lv_iconst (v := 3) hx hb dX3_readBrought_191 (by decide) ?_
  refine lv_icmp_ne (tgt := 204) hx hb dX3_readBrought_192 (by decide) (fun c7 => ?_) (fun c7 => ?_)
  · have h := nd_neg h c7
    refine lv_iload_n hx hb dX3_readBrought_204 rfl (lv_at hl 1 rfl) ?_
    refine lv_iconst (v := 4) hx hb dX3_readBrought_205 (by decide) ?_
    refine lv_icmp_ne (tgt := 216) hx hb dX3_readBrought_206 (by decide) (fun c8 => ?_) (fun c8 => ?_)
    · have h := nd_neg h c8
      exact (db_X3_readBrought_216 C K) (x2) (x4) (x6) (x8) s0 _ _ _ h hP hD hS (lv_sub hl [0, 1, 2, 3, 4] rfl)
    · have h := nd_pos h c8
      refine lv_aload_n hx hb dX3_readBrought_209 rfl (lv_at hl 0 rfl) ?_
      refine lv_iconst (v := 4) hx hb dX3_readBrought_210 (by decide) ?_
      obtain ⟨q14, s15, hq, h⟩ := nd_b2_e h
      have hPc := hP
      have hDc := hD
      have hKc := hK
      have hFc := nd_rs hD hS hA
      refine nd_cVl (As := [.int 4]) (rest := []) (q := q14) (w' := dw_X3s a ac s15) ⟨hx, hb, hml, hown, hts⟩ (fun sz => dm_X3_readBytes l hlt dC dI a ac n (4) s0 hq sz) (cwV 1 hts gi_dm_X3_readBrought_1 rfl rfl rfl (by decide +kernel) ⟨Nat.le_of_ble_eq_true rfl, Nat.le_of_ble_eq_true rfl⟩) hPc hDc hKc hS hA hN (va_recv hKc hPc (ci := 4) (q0 := 1) rfl rfl) rfl hl.1 rfl (Nat.le_of_ble_eq_true rfl) dX3_readBrought_211 (fun H locs hP1 hD1 hk1 hS => ?_)
      have hP := hP1
      have hD := hD1.weaken (fun k q _ h => hFc q.1 h)
      refine lv_lstore (lv' := [(6, .long q14), (0, .ref (a 1)), (2, .int x2), (4, .long x4), (8, .int x8)]) hx hb dX3_readBrought_214 hl (by decide) rfl (fun ls hl => ?_)
      exact (db_X3_readBrought_216 C K) (x2) (x4) (q14) (x8) s15 _ _ _ h hP hD hS (lv_sub hl [1, 2, 3, 0, 4] rfl)
  · have h := nd_pos h c7
    refine lv_aload_n hx hb dX3_readBrought_195 rfl (lv_at hl 0 rfl) ?_
    obtain ⟨q17, s18, hq, h⟩ := nd_b2_e h
    have hPc := hP
    have hDc := hD
    have hKc := hK
    have hFc := nd_rs hD hS hA
    refine nd_cVl (As := []) (rest := []) (q := q17) (w' := dw_X3s a ac s18) ⟨hx, hb, hml, hown, hts⟩ (fun sz => dm_X3_readVarint l hlt dC dI a ac n  s0 hq sz) (cwV 0 hts gi_dm_X3_readBrought_2 rfl rfl rfl (by decide +kernel) ⟨Nat.le_of_ble_eq_true rfl, Nat.le_of_ble_eq_true rfl⟩) hPc hDc hKc hS hA hN (va_recv hKc hPc (ci := 4) (q0 := 1) rfl rfl) rfl hl.1 rfl (Nat.le_of_ble_eq_true rfl) dX3_readBrought_196 (fun H locs hP1 hD1 hk1 hS => ?_)
    have hP := hP1
    have hD := hD1.weaken (fun k q _ h => hFc q.1 h)
    refine lv_lstore (lv' := [(6, .long q17), (0, .ref (a 1)), (2, .int x2), (4, .long x4), (8, .int x8)]) hx hb dX3_readBrought_199 hl (by decide) rfl (fun ls hl => ?_)
    refine lv_goto (tgt := 216) hx hb dX3_readBrought_201 (by decide) ?_
    exact (db_X3_readBrought_216 C K) (x2) (x4) (q17) (x8) s18 _ _ _ h hP hD hS (lv_sub hl [1, 2, 3, 0, 4] rfl)
set_option maxHeartbeats 40000000 in
set_option maxRecDepth 100000 in
theorem db_X3_readBrought_187 {p : Program} {l : Launch} {e : Env} {s : State} {m : MethodId} {args : Array Value} {below : List Frame} {meth : Method} {c : Code} {Q : State → Prop} {A : Nat → Prop} {dC : Nat → ClassId} {dI : Nat → Nat → Nat} {a : Nat → Nat} {ac : Nat → ClassId} {n : Nat} {r : St × (St)} (C : nd_C p l s m args c A (dC, dI) cX3_readBrought 13 RX3 ow_dm_X3_readBrought (dk_X3s ac)) (K : nd_Kv p l e (headSpec ow_dm_X3_readBrought ({ frames := 3, cells := 0, slots := 0, locals := 66 })).room s m args below meth c Q A (dC, dI) cX3_readBrought (St × (St)) (dw_X3s a ac) r) : dj_X3_readBrought_187 p l e s m args below meth c Q A dC dI a ac (df_X3_readBrought_187 n (a 0)) r := by
  obtain ⟨hlt, hx, hb, hml, hown, hts, hN, hA, hK⟩ := id C
  intro x2 x4 x6 x8 s0 H locs ls h hP hD hS hl
  unfold df_X3_readBrought_187 at h
  refine lv_goto (tgt := 216) hx hb dX3_readBrought_187 (by decide) ?_
  exact (db_X3_readBrought_216 C K) (x2) (x4) (x6) (x8) s0 _ _ _ h hP hD hS (lv_sub hl [0, 1, 2, 3, 4] rfl)
set_option maxHeartbeats 40000000 in
set_option maxRecDepth 100000 in
theorem db_X3_readBrought_132 {p : Program} {l : Launch} {e : Env} {s : State} {m : MethodId} {args : Array Value} {below : List Frame} {meth : Method} {c : Code} {Q : State → Prop} {A : Nat → Prop} {dC : Nat → ClassId} {dI : Nat → Nat → Nat} {a : Nat → Nat} {ac : Nat → ClassId} {n : Nat} {r : St × (St)} (C : nd_C p l s m args c A (dC, dI) cX3_readBrought 13 RX3 ow_dm_X3_readBrought (dk_X3s ac)) (K : nd_Kv p l e (headSpec ow_dm_X3_readBrought ({ frames := 3, cells := 0, slots := 0, locals := 66 })).room s m args below meth c Q A (dC, dI) cX3_readBrought (St × (St)) (dw_X3s a ac) r) : dj_X3_readBrought_132 p l e s m args below meth c Q A dC dI a ac (df_X3_readBrought_132 n (a 0)) r := by
  obtain ⟨hlt, hx, hb, hml, hown, hts, hN, hA, hK⟩ := id C
  intro x2 x4 x6 x8 x9 s0 H locs ls h hP hD hS hl
  unfold df_X3_readBrought_132 at h
  refine lv_aload_n hx hb dX3_readBrought_132 rfl (lv_at hl 0 rfl) ?_
  refine lv_iconst (v := 5) hx hb dX3_readBrought_133 (by decide) ?_
  refine lv_iload hx hb dX3_readBrought_134 (lv_at hl 5 rfl) ?_
  obtain ⟨s37, hq, h⟩ := nd_b1_e h
  have hPc := dp_X3s_1 hP
  have hDc := dd_X3s_1 hD
  have hKc := dy_X3s_1 hK
  have hFc := nd_rs hDc hS hA
  have hzA : ∀ q : Nat, H.size ≤ q → A q := fun q h => hA q (Nat.le_trans hS.1 h)
  refine nd_cVv (As := [.int 5, .int x9]) (rest := []) (w' := dw_X3c (fun k => a (k + 1)) (fun k => ac (k + 1)) s37) ⟨hx, hb, hml, hown, hts⟩ (fun sz => dm_X3_blame l hlt dC dI (fun k => a (k + 1)) (fun k => ac (k + 1)) n (5) (x9) s0.2 hq sz) (cwV 2 hts gi_dm_X3_readBrought_4 rfl rfl rfl (by decide +kernel) ⟨Nat.le_of_ble_eq_true rfl, Nat.le_of_ble_eq_true rfl⟩) hPc hDc hKc hS hA hN (va_recv hKc hPc (ci := 4) (q0 := 0) rfl rfl) rfl hl.1 rfl (Nat.le_of_ble_eq_true rfl) dX3_readBrought_136 (fun H locs hP1 hD1 hk1 hS => ?_)
  obtain ⟨hP, hD⟩ := dn_X3s_1 hP hD hzA hk1 hP1 hD1
  obtain ⟨s39, es39, h⟩ := nd_let_e h
  have hP : va_P (dC, dI) vwCl (dw_X3s a ac s39) H := by rw [es39]; exact hP
  have hD : va_D A (dw_X3s a ac s39) := by rw [es39]; exact hD
  refine lv_goto (tgt := 216) hx hb dX3_readBrought_139 (by decide) ?_
  exact (db_X3_readBrought_216 C K) (x2) (x4) (x6) (x8) s39 _ _ _ h hP hD hS (lv_sub hl [0, 1, 2, 3, 4] rfl)
set_option maxHeartbeats 40000000 in
set_option maxRecDepth 100000 in
theorem db_X3_readBrought_90 {p : Program} {l : Launch} {e : Env} {s : State} {m : MethodId} {args : Array Value} {below : List Frame} {meth : Method} {c : Code} {Q : State → Prop} {A : Nat → Prop} {dC : Nat → ClassId} {dI : Nat → Nat → Nat} {a : Nat → Nat} {ac : Nat → ClassId} {n : Nat} {r : St × (St)} (C : nd_C p l s m args c A (dC, dI) cX3_readBrought 13 RX3 ow_dm_X3_readBrought (dk_X3s ac)) (K : nd_Kv p l e (headSpec ow_dm_X3_readBrought ({ frames := 3, cells := 0, slots := 0, locals := 66 })).room s m args below meth c Q A (dC, dI) cX3_readBrought (St × (St)) (dw_X3s a ac) r) : dj_X3_readBrought_90 p l e s m args below meth c Q A dC dI a ac (df_X3_readBrought_90 n (a 0)) r := by
  obtain ⟨hlt, hx, hb, hml, hown, hts, hN, hA, hK⟩ := id C
  intro x1 x2 x3 x4 x6 x8 x9 s0 H locs ls h hP hD hS hl
  unfold df_X3_readBrought_90 at h
  refine lv_iload_n hx hb dX3_readBrought_90 rfl (lv_at hl 2 rfl) ?_
  refine lv_iconst (v := 1) hx hb dX3_readBrought_91 (by decide) ?_
  refine lv_icmp_ne (tgt := 108) hx hb dX3_readBrought_92 (by decide) (fun c4 => ?_) (fun c4 => ?_)
  · have h := nd_neg h c4
    refine lv_iload_n hx hb dX3_readBrought_108 rfl (lv_at hl 2 rfl) ?_
    refine lv_iconst (v := 2) hx hb dX3_readBrought_109 (by decide) ?_
    refine lv_icmp_ne (tgt := 142) hx hb dX3_readBrought_110 (by decide) (fun c5 => ?_) (fun c5 => ?_)
    · have h := nd_neg h c5
      refine lv_iload_n hx hb dX3_readBrought_142 rfl (lv_at hl 2 rfl) ?_
      refine lv_iconst (v := 3) hx hb dX3_readBrought_143 (by decide) ?_
      refine lv_icmp_ne (tgt := 190) hx hb dX3_readBrought_144 (by decide) (fun c6 => ?_) (fun c6 => ?_)
      · have h := nd_neg h c6
        exact (db_X3_readBrought_190 C K) (x2) (x4) (x6) (x8) s0 _ _ _ h hP hD hS (lv_sub hl [0, 2, 4, 5, 6] rfl)
      · have h := nd_pos h c6
        refine lv_iload_n hx hb dX3_readBrought_147 rfl (lv_at hl 3 rfl) ?_
        refine lv_iconst (v := 1) hx hb dX3_readBrought_148 (by decide) ?_
        refine lv_icmp_ne (tgt := 190) hx hb dX3_readBrought_149 (by decide) (fun c20 => ?_) (fun c20 => ?_)
        · have h := nd_neg h c20
          exact (db_X3_readBrought_190 C K) (x2) (x4) (x6) (x8) s0 _ _ _ h hP hD hS (lv_sub hl [0, 2, 4, 5, 6] rfl)
        · have h := nd_pos h c20
          refine lv_aload_n hx hb dX3_readBrought_152 rfl (lv_at hl 0 rfl) ?_
          refine lv_iconst (v := 3) hx hb dX3_readBrought_153 (by decide) ?_
          refine lv_lconst (v := 1) hx hb dX3_readBrought_154 (by decide) ?_
          refine lv_aload_n hx hb dX3_readBrought_155 rfl (lv_at hl 0 rfl) ?_
          refine va_get (D := (dC, dI)) (ci := 4) (v := .int (sI s0.2 1)) (C := RX3) (T := TX3) (N := 11) hx hb hts hi_dm_X3_readBrought_X3 hown hK hP 1 rfl rfl 5 (by decide) (hts (.fieldLink RX3 39 "TimeMachine$Events" "total" "I") (List.mem_of_getElem? (i := 13) rfl)) (fun _ h9 => h9) rfl dX3_readBrought_156 ?_
          obtain ⟨q21, s22, hq, h⟩ := nd_b2_e h
          have hPc := dp_X3s_1 hP
          have hDc := dd_X3s_1 hD
          have hKc := dy_X3s_1 hK
          have hFc := nd_rs hDc hS hA
          have hzA : ∀ q : Nat, H.size ≤ q → A q := fun q h => hA q (Nat.le_trans hS.1 h)
          refine nd_cVi (As := [.int 3, .long 1, .int (sI s0.2 1)]) (rest := []) (q := q21) (w' := dw_X3c (fun k => a (k + 1)) (fun k => ac (k + 1)) s22) ⟨hx, hb, hml, hown, hts⟩ (fun sz => dm_X3_latest l hlt dC dI (fun k => a (k + 1)) (fun k => ac (k + 1)) n (3) (1) ((sI s0.2 1)) s0.2 hq sz) (cwV 3 hts gi_dm_X3_readBrought_3 rfl rfl rfl (by decide +kernel) ⟨Nat.le_of_ble_eq_true rfl, Nat.le_of_ble_eq_true rfl⟩) hPc hDc hKc hS hA hN (va_recv hKc hPc (ci := 4) (q0 := 0) rfl rfl) rfl hl.1 rfl (Nat.le_of_ble_eq_true rfl) dX3_readBrought_159 (fun H locs hP1 hD1 hk1 hS => ?_)
          obtain ⟨hP, hD⟩ := dn_X3s_1 hP hD hzA hk1 hP1 hD1
          obtain ⟨s24, es24, h⟩ := nd_let_e h
          have hP : va_P (dC, dI) vwCl (dw_X3s a ac s24) H := by rw [es24]; exact hP
          have hD : va_D A (dw_X3s a ac s24) := by rw [es24]; exact hD
          refine lv_istore (lv' := [(10, .int q21), (0, .ref (a 1)), (1, .int x1), (2, .int x2), (3, .int x3), (4, .long x4), (6, .long x6), (8, .int x8), (9, .int x9)]) hx hb dX3_readBrought_162 hl (by decide) rfl (fun ls hl => ?_)
          refine lv_iload hx hb dX3_readBrought_164 (lv_at hl 0 rfl) ?_
          refine lv_if_ge (tgt := 178) hx hb dX3_readBrought_166 (by decide) (fun c25 => ?_) (fun c25 => ?_)
          · have h := nd_pos h c25
            refine lv_aload_n hx hb dX3_readBrought_178 rfl (lv_at hl 1 rfl) ?_
            refine va_get (D := (dC, dI)) (ci := 4) (v := .ref (a 4)) (C := RX3) (T := TX3) (N := 11) hx hb hts hi_dm_X3_readBrought_X3 hown hK hP 1 rfl rfl 2 (by decide) (hts (.fieldLink RX3 17 "TimeMachine$Events" "a" "[J") (List.mem_of_getElem? (i := 17) rfl)) (fun _ h9 => h9) rfl dX3_readBrought_179 ?_
            refine lv_iload hx hb dX3_readBrought_182 (lv_at hl 0 rfl) ?_
            obtain ⟨i26, h⟩ := nd_ck_e h
            refine va_lald (i := q21) hx hb hK hP 4 3 rfl rfl i26 dX3_readBrought_184 ?_
            refine lv_topl (fun z27 ez27 => ?_)
            have h := nd_at h ez27
            refine lv_lstore (lv' := [(6, .long z27), (10, .int q21), (0, .ref (a 1)), (1, .int x1), (2, .int x2), (3, .int x3), (4, .long x4), (8, .int x8), (9, .int x9)]) hx hb dX3_readBrought_185 hl (by decide) rfl (fun ls hl => ?_)
            exact (db_X3_readBrought_187 C K) (x2) (x4) (z27) (x8) s24 _ _ _ h hP hD hS (lv_sub hl [2, 4, 6, 0, 7] rfl)
          · have h := nd_neg h c25
            refine lv_aload_n hx hb dX3_readBrought_169 rfl (lv_at hl 1 rfl) ?_
            refine lv_iconst (v := 4) hx hb dX3_readBrought_170 (by decide) ?_
            refine lv_iload_n hx hb dX3_readBrought_171 rfl (lv_at hl 2 rfl) ?_
            obtain ⟨s29, hq, h⟩ := nd_b1_e h
            have hPc := dp_X3s_1 hP
            have hDc := dd_X3s_1 hD
            have hKc := dy_X3s_1 hK
            have hFc := nd_rs hDc hS hA
            have hzA : ∀ q : Nat, H.size ≤ q → A q := fun q h => hA q (Nat.le_trans hS.1 h)
            refine nd_cVv (As := [.int 4, .int x1]) (rest := []) (w' := dw_X3c (fun k => a (k + 1)) (fun k => ac (k + 1)) s29) ⟨hx, hb, hml, hown, hts⟩ (fun sz => dm_X3_blame l hlt dC dI (fun k => a (k + 1)) (fun k => ac (k + 1)) n (4) (x1) s24.2 hq sz) (cwV 2 hts gi_dm_X3_readBrought_4 rfl rfl rfl (by decide +kernel) ⟨Nat.le_of_ble_eq_true rfl, Nat.le_of_ble_eq_true rfl⟩) hPc hDc hKc hS hA hN (va_recv hKc hPc (ci := 4) (q0 := 0) rfl rfl) rfl hl.1 rfl (Nat.le_of_ble_eq_true rfl) dX3_readBrought_172 (fun H locs hP1 hD1 hk1 hS => ?_)
            obtain ⟨hP, hD⟩ := dn_X3s_1 hP hD hzA hk1 hP1 hD1
            obtain ⟨s31, es31, h⟩ := nd_let_e h
            have hP : va_P (dC, dI) vwCl (dw_X3s a ac s31) H := by rw [es31]; exact hP
            have hD : va_D A (dw_X3s a ac s31) := by rw [es31]; exact hD
            refine lv_goto (tgt := 187) hx hb dX3_readBrought_175 (by decide) ?_
            exact (db_X3_readBrought_187 C K) (x2) (x4) (x6) (x8) s31 _ _ _ h hP hD hS (lv_sub hl [1, 3, 5, 6, 7] rfl)
    · have h := nd_pos h c5
      refine lv_aload_n hx hb dX3_readBrought_113 rfl (lv_at hl 0 rfl) ?_
      obtain ⟨q32, s33, hq, h⟩ := nd_b2_e h
      have hPc := hP
      have hDc := hD
      have hKc := hK
      have hFc := nd_rs hD hS hA
      refine nd_cVi (As := []) (rest := []) (q := q32) (w' := dw_X3s a ac s33) ⟨hx, hb, hml, hown, hts⟩ (fun sz => dm_X3_readByte l hlt dC dI a ac n  s0 hq sz) (cwV 0 hts gi_dm_X3_readBrought_5 rfl rfl rfl (by decide +kernel) ⟨Nat.le_of_ble_eq_true rfl, Nat.le_of_ble_eq_true rfl⟩) hPc hDc hKc hS hA hN (va_recv hKc hPc (ci := 4) (q0 := 1) rfl rfl) rfl hl.1 rfl (Nat.le_of_ble_eq_true rfl) dX3_readBrought_114 (fun H locs hP1 hD1 hk1 hS => ?_)
      have hP := hP1
      have hD := hD1.weaken (fun k q _ h => hFc q.1 h)
      refine lv_istore (lv' := [(8, .int q32), (0, .ref (a 1)), (1, .int x1), (2, .int x2), (3, .int x3), (4, .long x4), (6, .long x6), (9, .int x9)]) hx hb dX3_readBrought_117 hl (by decide) rfl (fun ls hl => ?_)
      refine lv_iload hx hb dX3_readBrought_119 (lv_at hl 0 rfl) ?_
      refine lv_iconst (v := 1) hx hb dX3_readBrought_121 (by decide) ?_
      refine lv_icmp_lt (tgt := 132) hx hb dX3_readBrought_122 (by decide) (fun c35 => ?_) (fun c35 => ?_)
      · have h := nd_pos h c35
        exact (db_X3_readBrought_132 C K) (x2) (x4) (x6) (q32) (x9) s33 _ _ _ h hP hD hS (lv_sub hl [1, 3, 5, 6, 0, 7] rfl)
      · have h := nd_neg h c35
        refine lv_iload hx hb dX3_readBrought_125 (lv_at hl 0 rfl) ?_
        refine lv_bipush (v := 31) hx hb dX3_readBrought_127 (by decide) ?_
        refine lv_icmp_le (tgt := 216) hx hb dX3_readBrought_129 (by decide) (fun c40 => ?_) (fun c40 => ?_)
        · have h := nd_pos h c40
          exact (db_X3_readBrought_216 C K) (x2) (x4) (x6) (q32) s33 _ _ _ h hP hD hS (lv_sub hl [1, 3, 5, 6, 0] rfl)
        · have h := nd_neg h c40
          exact (db_X3_readBrought_132 C K) (x2) (x4) (x6) (q32) (x9) s33 _ _ _ h hP hD hS (lv_sub hl [1, 3, 5, 6, 0, 7] rfl)
  · have h := nd_pos h c4
    refine lv_aload_n hx hb dX3_readBrought_95 rfl (lv_at hl 0 rfl) ?_
    refine lv_iload_n hx hb dX3_readBrought_96 rfl (lv_at hl 3 rfl) ?_
    obtain ⟨q41, s42, hq, h⟩ := nd_b2_e h
    have hPc := hP
    have hDc := hD
    have hKc := hK
    have hFc := nd_rs hD hS hA
    refine nd_cVl (As := [.int x3]) (rest := []) (q := q41) (w' := dw_X3s a ac s42) ⟨hx, hb, hml, hown, hts⟩ (fun sz => dm_X3_readBytes l hlt dC dI a ac n (x3) s0 hq sz) (cwV 1 hts gi_dm_X3_readBrought_1 rfl rfl rfl (by decide +kernel) ⟨Nat.le_of_ble_eq_true rfl, Nat.le_of_ble_eq_true rfl⟩) hPc hDc hKc hS hA hN (va_recv hKc hPc (ci := 4) (q0 := 1) rfl rfl) rfl hl.1 rfl (Nat.le_of_ble_eq_true rfl) dX3_readBrought_97 (fun H locs hP1 hD1 hk1 hS => ?_)
    have hP := hP1
    have hD := hD1.weaken (fun k q _ h => hFc q.1 h)
    refine lv_lstore (lv' := [(6, .long q41), (0, .ref (a 1)), (1, .int x1), (2, .int x2), (3, .int x3), (4, .long x4), (8, .int x8), (9, .int x9)]) hx hb dX3_readBrought_100 hl (by decide) rfl (fun ls hl => ?_)
    refine lv_iload_n hx hb dX3_readBrought_102 rfl (lv_at hl 4 rfl) ?_
    refine lv_istore (lv' := [(8, .int x3), (6, .long q41), (0, .ref (a 1)), (1, .int x1), (2, .int x2), (3, .int x3), (4, .long x4), (9, .int x9)]) hx hb dX3_readBrought_103 hl (by decide) rfl (fun ls hl => ?_)
    refine lv_goto (tgt := 216) hx hb dX3_readBrought_105 (by decide) ?_
    exact (db_X3_readBrought_216 C K) (x2) (x4) (q41) (x3) s42 _ _ _ h hP hD hS (lv_sub hl [2, 4, 6, 1, 0] rfl)
set_option maxHeartbeats 40000000 in
set_option maxRecDepth 100000 in
theorem db_X3_readBrought_87 {p : Program} {l : Launch} {e : Env} {s : State} {m : MethodId} {args : Array Value} {below : List Frame} {meth : Method} {c : Code} {Q : State → Prop} {A : Nat → Prop} {dC : Nat → ClassId} {dI : Nat → Nat → Nat} {a : Nat → Nat} {ac : Nat → ClassId} {n : Nat} {r : St × (St)} (C : nd_C p l s m args c A (dC, dI) cX3_readBrought 13 RX3 ow_dm_X3_readBrought (dk_X3s ac)) (K : nd_Kv p l e (headSpec ow_dm_X3_readBrought ({ frames := 3, cells := 0, slots := 0, locals := 66 })).room s m args below meth c Q A (dC, dI) cX3_readBrought (St × (St)) (dw_X3s a ac) r) : dj_X3_readBrought_87 p l e s m args below meth c Q A dC dI a ac (df_X3_readBrought_87 n (a 0)) r := by
  obtain ⟨hlt, hx, hb, hml, hown, hts, hN, hA, hK⟩ := id C
  intro x2 x4 x6 x8 s0 H locs ls h hP hD hS hl
  unfold df_X3_readBrought_87 at h
  refine lv_goto (tgt := 216) hx hb dX3_readBrought_87 (by decide) ?_
  exact (db_X3_readBrought_216 C K) (x2) (x4) (x6) (x8) s0 _ _ _ h hP hD hS (lv_sub hl [0, 1, 2, 3, 4] rfl)
set_option maxHeartbeats 40000000 in
set_option maxRecDepth 100000 in
theorem db_X3_readBrought_42 {p : Program} {l : Launch} {e : Env} {s : State} {m : MethodId} {args : Array Value} {below : List Frame} {meth : Method} {c : Code} {Q : State → Prop} {A : Nat → Prop} {dC : Nat → ClassId} {dI : Nat → Nat → Nat} {a : Nat → Nat} {ac : Nat → ClassId} {n : Nat} {r : St × (St)} (C : nd_C p l s m args c A (dC, dI) cX3_readBrought 13 RX3 ow_dm_X3_readBrought (dk_X3s ac)) (K : nd_Kv p l e (headSpec ow_dm_X3_readBrought ({ frames := 3, cells := 0, slots := 0, locals := 66 })).room s m args below meth c Q A (dC, dI) cX3_readBrought (St × (St)) (dw_X3s a ac) r) : dj_X3_readBrought_42 p l e s m args below meth c Q A dC dI a ac (df_X3_readBrought_42 n (a 0)) r := by
  obtain ⟨hlt, hx, hb, hml, hown, hts, hN, hA, hK⟩ := id C
  intro x1 x2 x4 x6 x8 x10 s0 H locs ls h hP hD hS hl
  unfold df_X3_readBrought_42 at h
  refine lv_aload_n hx hb dX3_readBrought_42 rfl (lv_at hl 0 rfl) ?_
  refine lv_iconst (v := 1) hx hb dX3_readBrought_43 (by decide) ?_
  refine lv_lload hx hb dX3_readBrought_44 (lv_at hl 6 rfl) ?_
  refine lv_aload_n hx hb dX3_readBrought_46 rfl (lv_at hl 0 rfl) ?_
  refine va_get (D := (dC, dI)) (ci := 4) (v := .int (sI s0.2 1)) (C := RX3) (T := TX3) (N := 11) hx hb hts hi_dm_X3_readBrought_X3 hown hK hP 1 rfl rfl 5 (by decide) (hts (.fieldLink RX3 39 "TimeMachine$Events" "total" "I") (List.mem_of_getElem? (i := 13) rfl)) (fun _ h9 => h9) rfl dX3_readBrought_47 ?_
  obtain ⟨q49, s50, hq, h⟩ := nd_b2_e h
  have hPc := dp_X3s_1 hP
  have hDc := dd_X3s_1 hD
  have hKc := dy_X3s_1 hK
  have hFc := nd_rs hDc hS hA
  have hzA : ∀ q : Nat, H.size ≤ q → A q := fun q h => hA q (Nat.le_trans hS.1 h)
  refine nd_cVi (As := [.int 1, .long x10, .int (sI s0.2 1)]) (rest := []) (q := q49) (w' := dw_X3c (fun k => a (k + 1)) (fun k => ac (k + 1)) s50) ⟨hx, hb, hml, hown, hts⟩ (fun sz => dm_X3_latest l hlt dC dI (fun k => a (k + 1)) (fun k => ac (k + 1)) n (1) (x10) ((sI s0.2 1)) s0.2 hq sz) (cwV 3 hts gi_dm_X3_readBrought_3 rfl rfl rfl (by decide +kernel) ⟨Nat.le_of_ble_eq_true rfl, Nat.le_of_ble_eq_true rfl⟩) hPc hDc hKc hS hA hN (va_recv hKc hPc (ci := 4) (q0 := 0) rfl rfl) rfl hl.1 rfl (Nat.le_of_ble_eq_true rfl) dX3_readBrought_50 (fun H locs hP1 hD1 hk1 hS => ?_)
  obtain ⟨hP, hD⟩ := dn_X3s_1 hP hD hzA hk1 hP1 hD1
  obtain ⟨s52, es52, h⟩ := nd_let_e h
  have hP : va_P (dC, dI) vwCl (dw_X3s a ac s52) H := by rw [es52]; exact hP
  have hD : va_D A (dw_X3s a ac s52) := by rw [es52]; exact hD
  refine lv_istore (lv' := [(12, .int q49), (0, .ref (a 1)), (1, .int x1), (2, .int x2), (4, .long x4), (6, .long x6), (8, .int x8), (10, .long x10)]) hx hb dX3_readBrought_53 hl (by decide) rfl (fun ls hl => ?_)
  refine lv_iload hx hb dX3_readBrought_55 (lv_at hl 0 rfl) ?_
  refine lv_if_ge (tgt := 69) hx hb dX3_readBrought_57 (by decide) (fun c53 => ?_) (fun c53 => ?_)
  · have h := nd_pos h c53
    refine lv_aload_n hx hb dX3_readBrought_69 rfl (lv_at hl 1 rfl) ?_
    refine va_get (D := (dC, dI)) (ci := 4) (v := .ref (a 4)) (C := RX3) (T := TX3) (N := 11) hx hb hts hi_dm_X3_readBrought_X3 hown hK hP 1 rfl rfl 2 (by decide) (hts (.fieldLink RX3 17 "TimeMachine$Events" "a" "[J") (List.mem_of_getElem? (i := 17) rfl)) (fun _ h9 => h9) rfl dX3_readBrought_70 ?_
    refine lv_iload hx hb dX3_readBrought_73 (lv_at hl 0 rfl) ?_
    obtain ⟨i54, h⟩ := nd_ck_e h
    refine va_lald (i := q49) hx hb hK hP 4 3 rfl rfl i54 dX3_readBrought_75 ?_
    refine lv_topl (fun z55 ez55 => ?_)
    have h := nd_at h ez55
    refine lv_lstore (lv' := [(6, .long z55), (12, .int q49), (0, .ref (a 1)), (1, .int x1), (2, .int x2), (4, .long x4), (8, .int x8), (10, .long x10)]) hx hb dX3_readBrought_76 hl (by decide) rfl (fun ls hl => ?_)
    refine lv_aload_n hx hb dX3_readBrought_78 rfl (lv_at hl 2 rfl) ?_
    refine va_get (D := (dC, dI)) (ci := 4) (v := .ref (a 5)) (C := RX3) (T := TX3) (N := 11) hx hb hts hi_dm_X3_readBrought_X3 hown hK hP 1 rfl rfl 3 (by decide) (hts (.fieldLink RX3 20 "TimeMachine$Events" "b" "[I") (List.mem_of_getElem? (i := 24) rfl)) (fun _ h9 => h9) rfl dX3_readBrought_79 ?_
    refine lv_iload hx hb dX3_readBrought_82 (lv_at hl 1 rfl) ?_
    obtain ⟨i56, h⟩ := nd_ck_e h
    refine va_iald (i := q49) hx hb hK hP 5 4 rfl rfl i56 dX3_readBrought_84 ?_
    refine lv_topi (fun z57 ez57 => ?_)
    have h := nd_at h ez57
    refine lv_istore (lv' := [(8, .int z57), (6, .long z55), (12, .int q49), (0, .ref (a 1)), (1, .int x1), (2, .int x2), (4, .long x4), (10, .long x10)]) hx hb dX3_readBrought_85 hl (by decide) rfl (fun ls hl => ?_)
    exact (db_X3_readBrought_87 C K) (x2) (x4) (z55) (z57) s52 _ _ _ h hP hD hS (lv_sub hl [3, 5, 6, 1, 0] rfl)
  · have h := nd_neg h c53
    refine lv_aload_n hx hb dX3_readBrought_60 rfl (lv_at hl 1 rfl) ?_
    refine lv_iconst (v := 4) hx hb dX3_readBrought_61 (by decide) ?_
    refine lv_iload_n hx hb dX3_readBrought_62 rfl (lv_at hl 2 rfl) ?_
    obtain ⟨s59, hq, h⟩ := nd_b1_e h
    have hPc := dp_X3s_1 hP
    have hDc := dd_X3s_1 hD
    have hKc := dy_X3s_1 hK
    have hFc := nd_rs hDc hS hA
    have hzA : ∀ q : Nat, H.size ≤ q → A q := fun q h => hA q (Nat.le_trans hS.1 h)
    refine nd_cVv (As := [.int 4, .int x1]) (rest := []) (w' := dw_X3c (fun k => a (k + 1)) (fun k => ac (k + 1)) s59) ⟨hx, hb, hml, hown, hts⟩ (fun sz => dm_X3_blame l hlt dC dI (fun k => a (k + 1)) (fun k => ac (k + 1)) n (4) (x1) s52.2 hq sz) (cwV 2 hts gi_dm_X3_readBrought_4 rfl rfl rfl (by decide +kernel) ⟨Nat.le_of_ble_eq_true rfl, Nat.le_of_ble_eq_true rfl⟩) hPc hDc hKc hS hA hN (va_recv hKc hPc (ci := 4) (q0 := 0) rfl rfl) rfl hl.1 rfl (Nat.le_of_ble_eq_true rfl) dX3_readBrought_63 (fun H locs hP1 hD1 hk1 hS => ?_)
    obtain ⟨hP, hD⟩ := dn_X3s_1 hP hD hzA hk1 hP1 hD1
    obtain ⟨s61, es61, h⟩ := nd_let_e h
    have hP : va_P (dC, dI) vwCl (dw_X3s a ac s61) H := by rw [es61]; exact hP
    have hD : va_D A (dw_X3s a ac s61) := by rw [es61]; exact hD
    refine lv_goto (tgt := 87) hx hb dX3_readBrought_66 (by decide) ?_
    exact (db_X3_readBrought_87 C K) (x2) (x4) (x6) (x8) s61 _ _ _ h hP hD hS (lv_sub hl [1, 3, 4, 5, 6] rfl)
set_option maxHeartbeats 40000000 in
set_option maxRecDepth 100000 in
theorem db_X3_readBrought_0 {p : Program} {l : Launch} {e : Env} {s : State} {m : MethodId} {args : Array Value} {below : List Frame} {meth : Method} {c : Code} {Q : State → Prop} {A : Nat → Prop} {dC : Nat → ClassId} {dI : Nat → Nat → Nat} {a : Nat → Nat} {ac : Nat → ClassId} {n : Nat} {r : St × (St)} (C : nd_C p l s m args c A (dC, dI) cX3_readBrought 13 RX3 ow_dm_X3_readBrought (dk_X3s ac)) (K : nd_Kv p l e (headSpec ow_dm_X3_readBrought ({ frames := 3, cells := 0, slots := 0, locals := 66 })).room s m args below meth c Q A (dC, dI) cX3_readBrought (St × (St)) (dw_X3s a ac) r) : dj_X3_readBrought_0 p l e s m args below meth c Q A dC dI a ac (df_X3_readBrought_0 n (a 0)) r := by
  obtain ⟨hlt, hx, hb, hml, hown, hts, hN, hA, hK⟩ := id C
  intro v0 v1 v2 v3 s0 H locs ls h hP hD hS hl
  unfold df_X3_readBrought_0 at h
  refine lv_iload_n hx hb dX3_readBrought_0 rfl (lv_at hl 3 rfl) ?_
  refine lv_i2l hx hb dX3_readBrought_1 rfl ?_
  refine lv_topl (fun z1 ez1 => ?_)
  have h := nd_at h ez1
  refine lv_lstore (lv' := [(6, .long z1), (0, .ref (a 1)), (1, .int v0), (2, .int v1), (3, .int v2), (4, .long v3)]) hx hb dX3_readBrought_2 hl (by decide) rfl (fun ls hl => ?_)
  refine lv_iconst (v := 0) hx hb dX3_readBrought_4 (by decide) ?_
  refine lv_istore (lv' := [(8, .int 0), (6, .long z1), (0, .ref (a 1)), (1, .int v0), (2, .int v1), (3, .int v2), (4, .long v3)]) hx hb dX3_readBrought_5 hl (by decide) rfl (fun ls hl => ?_)
  refine lv_aload_n hx hb dX3_readBrought_7 rfl (lv_at hl 2 rfl) ?_
  refine va_get (D := (dC, dI)) (ci := 4) (v := .int (sI s0.2 2)) (C := RX3) (T := TX3) (N := 11) hx hb hts hi_dm_X3_readBrought_X3 hown hK hP 1 rfl rfl 7 (by decide) (hts (.fieldLink RX3 44 "TimeMachine$Events" "place" "I") (List.mem_of_getElem? (i := 1) rfl)) (fun _ h9 => h9) rfl dX3_readBrought_8 ?_
  refine lv_topi (fun z2 ez2 => ?_)
  have h := nd_at h ez2
  refine lv_istore (lv' := [(9, .int z2), (8, .int 0), (6, .long z1), (0, .ref (a 1)), (1, .int v0), (2, .int v1), (3, .int v2), (4, .long v3)]) hx hb dX3_readBrought_11 hl (by decide) rfl (fun ls hl => ?_)
  refine lv_iload_n hx hb dX3_readBrought_13 rfl (lv_at hl 5 rfl) ?_
  refine lv_iconst (v := 1) hx hb dX3_readBrought_14 (by decide) ?_
  refine lv_icmp_ne (tgt := 90) hx hb dX3_readBrought_15 (by decide) (fun c3 => ?_) (fun c3 => ?_)
  · have h := nd_neg h c3
    exact (db_X3_readBrought_90 C K) (v0) (v1) (v2) (v3) (z1) (0) (z2) s0 _ _ _ h hP hD hS (lv_sub hl [3, 4, 5, 6, 7, 2, 1, 0] rfl)
  · have h := nd_pos h c3
    refine lv_iload_n hx hb dX3_readBrought_18 rfl (lv_at hl 6 rfl) ?_
    refine lv_if_ne (tgt := 90) hx hb dX3_readBrought_19 (by decide) (fun c44 => ?_) (fun c44 => ?_)
    · have h := nd_neg h c44
      exact (db_X3_readBrought_90 C K) (v0) (v1) (v2) (v3) (z1) (0) (z2) s0 _ _ _ h hP hD hS (lv_sub hl [3, 4, 5, 6, 7, 2, 1, 0] rfl)
    · have h := nd_pos h c44
      refine lv_aload_n hx hb dX3_readBrought_22 rfl (lv_at hl 3 rfl) ?_
      obtain ⟨q45, s46, hq, h⟩ := nd_b2_e h
      have hPc := hP
      have hDc := hD
      have hKc := hK
      have hFc := nd_rs hD hS hA
      refine nd_cVl (As := []) (rest := []) (q := q45) (w' := dw_X3s a ac s46) ⟨hx, hb, hml, hown, hts⟩ (fun sz => dm_X3_readVarint l hlt dC dI a ac n  s0 hq sz) (cwV 0 hts gi_dm_X3_readBrought_2 rfl rfl rfl (by decide +kernel) ⟨Nat.le_of_ble_eq_true rfl, Nat.le_of_ble_eq_true rfl⟩) hPc hDc hKc hS hA hN (va_recv hKc hPc (ci := 4) (q0 := 1) rfl rfl) rfl hl.1 rfl (Nat.le_of_ble_eq_true rfl) dX3_readBrought_23 (fun H locs hP1 hD1 hk1 hS => ?_)
      have hP := hP1
      have hD := hD1.weaken (fun k q _ h => hFc q.1 h)
      refine lv_lstore (lv' := [(10, .long q45), (9, .int z2), (8, .int 0), (6, .long z1), (0, .ref (a 1)), (1, .int v0), (2, .int v1), (3, .int v2), (4, .long v3)]) hx hb dX3_readBrought_26 hl (by decide) rfl (fun ls hl => ?_)
      refine lv_lload hx hb dX3_readBrought_28 (lv_at hl 0 rfl) ?_
      refine lv_lconst (v := 0) hx hb dX3_readBrought_30 (by decide) ?_
      refine W.lcmp hx hb dX3_readBrought_31 ?_
      refine lv_if_ne (tgt := 42) hx hb dX3_readBrought_32 (by decide) (fun c48 => ?_) (fun c48 => ?_)
      · have h := nd_neg h c48
        exact (db_X3_readBrought_42 C K) (v0) (v1) (v3) (z1) (0) (q45) s46 _ _ _ h hP hD hS (lv_sub hl [4, 5, 6, 8, 3, 2, 0] rfl)
      · have h := nd_pos h c48
        refine lv_aload_n hx hb dX3_readBrought_35 rfl (lv_at hl 4 rfl) ?_
        refine lv_iconst (v := 5) hx hb dX3_readBrought_36 (by decide) ?_
        refine lv_iload hx hb dX3_readBrought_37 (lv_at hl 1 rfl) ?_
        obtain ⟨s63, hq, h⟩ := nd_b1_e h
        have hPc := dp_X3s_1 hP
        have hDc := dd_X3s_1 hD
        have hKc := dy_X3s_1 hK
        have hFc := nd_rs hDc hS hA
        have hzA : ∀ q : Nat, H.size ≤ q → A q := fun q h => hA q (Nat.le_trans hS.1 h)
        refine nd_cVv (As := [.int 5, .int z2]) (rest := []) (w' := dw_X3c (fun k => a (k + 1)) (fun k => ac (k + 1)) s63) ⟨hx, hb, hml, hown, hts⟩ (fun sz => dm_X3_blame l hlt dC dI (fun k => a (k + 1)) (fun k => ac (k + 1)) n (5) (z2) s46.2 hq sz) (cwV 2 hts gi_dm_X3_readBrought_4 rfl rfl rfl (by decide +kernel) ⟨Nat.le_of_ble_eq_true rfl, Nat.le_of_ble_eq_true rfl⟩) hPc hDc hKc hS hA hN (va_recv hKc hPc (ci := 4) (q0 := 0) rfl rfl) rfl hl.1 rfl (Nat.le_of_ble_eq_true rfl) dX3_readBrought_39 (fun H locs hP1 hD1 hk1 hS => ?_)
        obtain ⟨hP, hD⟩ := dn_X3s_1 hP hD hzA hk1 hP1 hD1
        obtain ⟨s65, es65, h⟩ := nd_let_e h
        have hP : va_P (dC, dI) vwCl (dw_X3s a ac s65) H := by rw [es65]; exact hP
        have hD : va_D A (dw_X3s a ac s65) := by rw [es65]; exact hD
        exact (db_X3_readBrought_42 C K) (v0) (v1) (v3) (z1) (0) (q45) s65 _ _ _ h hP hD hS (lv_sub hl [4, 5, 6, 8, 3, 2, 0] rfl)
set_option maxHeartbeats 40000000 in
set_option maxRecDepth 100000 in
theorem dm_X3_readBrought (l : Launch) (hlt : l.stackTraces = false) (dC : Nat → ClassId) (dI : Nat → Nat → Nat) (a : Nat → Nat) (ac : Nat → ClassId) (n : Nat) (v0 : Int32) (v1 : Int32) (v2 : Int32) (v3 : Int64) (s0 : St × (St)) {r : St × (St)} (h : df_X3_readBrought n (a 0) v0 v1 v2 v3 s0 = some r) (sz : Nat) : Met l yX3_readBrought ow_dm_X3_readBrought ({ frames := 3, cells := 0, slots := 0, locals := 66 }) (va_Pc [.ref (a 1), .int v0, .int v1, .int v2, .long v3] (fun U => U.heap.size = sz ∧ va_P (dC, dI) vwCl (dw_X3s a ac s0) U.heap ∧ va_K (dC, dI) vwCl (dk_X3s ac) U ∧ va_D (fun _ => True) (dw_X3s a ac s0) ∧ nv_E (va_A (dw_X3s a ac s0) sz) U)) (va_Qv (fun _ => True) (fun (_ : Unit) t => va_P (dC, dI) vwCl (dw_X3s a ac r) t.heap ∧ va_K (dC, dI) vwCl (dk_X3s ac) t ∧ va_D (va_A (dw_X3s a ac s0) sz) (dw_X3s a ac r)) (va_A (dw_X3s a ac s0) sz)) 0 0 (va_A (dw_X3s a ac s0) sz) := by
  refine Met.ofW (cc := cX3_readBrought) (maxL := 13) (ret := none) (by decide) rfl ?_
  intro p e s m args below meth c s₁ B hml hv
  obtain ⟨rfl, hsz, hP, hK, hD0, hN⟩ := hv
  have hx := B.exec
  have hb := B.bytes
  have hr := B.returns
  have hts := atoms_spec (ws := ow_dm_X3_readBrought) B.pre
  have hown : s.vm.findClass RX3 = some m.cls := findClass_of_methodNamed B.named
  have hlocks := B.notSynchronized
  subst hsz
  have hD := hD0.self (sz := s.heap.size)
  generalize hAe : va_A (dw_X3s a ac s0) s.heap.size = A at hD hN ⊢
  have hA : ∀ q : Nat, s.heap.size ≤ q → A q := fun q h => by rw [← hAe]; exact Or.inr h
  have hl := lv_entry ([.ref (a 1), .int v0, .int v1, .int v2, .long v3]) (n := 13) (Nat.le_of_ble_eq_true rfl)
  rw [lg_entry_eq]
  generalize (lg_sl ([.ref (a 1), .int v0, .int v1, .int v2, .long v3]) ++ List.replicate (13 - (lg_sl ([.ref (a 1), .int v0, .int v1, .int v2, .long v3])).length) Slot.unset).toArray = ls at hl ⊢
  have hl : lv_has ls 13 [(0, .ref (a 1)), (1, .int v0), (2, .int v1), (3, .int v2), (4, .long v3)] := hl
  exact db_X3_readBrought_0 (dC := dC) (dI := dI) (a := a) (ac := ac) (n := n) (r := r) ⟨hlt, hx, hb, hml, hown, hts, hN, hA, hK⟩ (fun pc τ H locs ls d er hP hD hS => by subst er; exact W.vret hx hb hr (fun t ht hW => ⟨⟨(), rfl, trivial, by rw [ht]; exact hP, va_K.moved hW.alike hK, hD⟩, hS.F ht⟩) hS.2.2 d) v0 v1 v2 v3 s0 _ _ _ h hP hD va_S.rf (lv_sub hl [0, 1, 2, 3, 4] rfl)
def ow_dm_X3_readRepeat : List Cond := .code yX3_readRepeat cX3_readRepeat 12 none :: ([.fieldLink RX3 39 "TimeMachine$Events" "total" "I", .fieldLink RX3 44 "TimeMachine$Events" "place" "I", .methodLink RX3 66 yX3_difference, .instanceMethod yX3_difference, .selects RX3 yX3_difference yX3_difference, .initialized RX3, .fieldLink RX3 95 "TimeMachine$Events" "fault" "I", .fieldLink RX3 9 "TimeMachine$Events" "kind" "[I", .fieldLink RX3 13 "TimeMachine$Events" "at" "[J", .fieldLink RX3 17 "TimeMachine$Events" "a" "[J", .fieldLink RX3 20 "TimeMachine$Events" "b" "[I", .methodLink RX3 133 yX3_add, .instanceMethod yX3_add, .selects RX3 yX3_add yX3_add, .methodLink RX3 107 yX3_blame, .instanceMethod yX3_blame, .selects RX3 yX3_blame yX3_blame, .methodLink RX3 101 yX3_readVarint, .instanceMethod yX3_readVarint, .selects RX3 yX3_readVarint yX3_readVarint] ++ (u_ws RX3 TX3 11 ++ (ow_dm_X3_difference ++ (ow_dm_X3_add ++ (ow_dm_X3_blame ++ (ow_dm_X3_readVarint ++ []))))))
theorem gd_dm_X3_readRepeat : ∀ w ∈ ow_dm_X3_readRepeat, (w.onTables && w.keeps) = true ∨ ∃ ty, w = Cond.arrayClass ty := List.forall_mem_cons.mpr ⟨good_of_word rfl, List.forall_mem_append.mpr ⟨fun w h => good_of_word (List.all_eq_true.mp (by decide +kernel) w h), List.forall_mem_append.mpr ⟨gu_X3, List.forall_mem_append.mpr ⟨gd_dm_X3_difference, List.forall_mem_append.mpr ⟨gd_dm_X3_add, List.forall_mem_append.mpr ⟨gd_dm_X3_blame, List.forall_mem_append.mpr ⟨gd_dm_X3_readVarint, fun _ h => nomatch h⟩⟩⟩⟩⟩⟩⟩
theorem hi_dm_X3_readRepeat_X3 : ∀ w ∈ u_ws RX3 TX3 11, w ∈ ow_dm_X3_readRepeat := fun w h => List.mem_cons_of_mem _ (List.mem_append_right _ (List.mem_append_left _ h))
theorem gi_dm_X3_readRepeat_0 : GoodIn ow_dm_X3_readRepeat (wsV RX3 66 RX3 yX3_difference ow_dm_X3_difference) := goodIn_app (goodIn_of _ (by decide +kernel)) (fun w h => ⟨List.mem_cons_of_mem _ (List.mem_append_right _ (List.mem_append_right _ (List.mem_append_left _ h))), gd_dm_X3_difference w h⟩)
theorem gi_dm_X3_readRepeat_1 : GoodIn ow_dm_X3_readRepeat (wsV RX3 133 RX3 yX3_add ow_dm_X3_add) := goodIn_app (goodIn_of _ (by decide +kernel)) (fun w h => ⟨List.mem_cons_of_mem _ (List.mem_append_right _ (List.mem_append_right _ (List.mem_append_right _ (List.mem_append_left _ h)))), gd_dm_X3_add w h⟩)
theorem gi_dm_X3_readRepeat_2 : GoodIn ow_dm_X3_readRepeat (wsV RX3 107 RX3 yX3_blame ow_dm_X3_blame) := goodIn_app (goodIn_of _ (by decide +kernel)) (fun w h => ⟨List.mem_cons_of_mem _ (List.mem_append_right _ (List.mem_append_right _ (List.mem_append_right _ (List.mem_append_right _ (List.mem_append_left _ h))))), gd_dm_X3_blame w h⟩)
theorem gi_dm_X3_readRepeat_3 : GoodIn ow_dm_X3_readRepeat (wsV RX3 101 RX3 yX3_readVarint ow_dm_X3_readVarint) := goodIn_app (goodIn_of _ (by decide +kernel)) (fun w h => ⟨List.mem_cons_of_mem _ (List.mem_append_right _ (List.mem_append_right _ (List.mem_append_right _ (List.mem_append_right _ (List.mem_append_right _ (List.mem_append_left _ h)))))), gd_dm_X3_readVarint w h⟩)
def dj_X3_readRepeat_160 (p : Program) (l : Launch) (e : Env) (s : State) (m : MethodId) (args : Array Value) (below : List Frame) (meth : Method) (c : Code) (Q : State → Prop) (A : Nat → Prop) (dC : Nat → ClassId) (dI : Nat → Nat → Nat) (a : Nat → Nat) (ac : Nat → ClassId) (g : (St × (St)) → Option (St × (St))) (r : St × (St)) : Prop := ∀ (s0 : St × (St)) (H : Heap) (locs : List Loc) (ls : Array Slot), g s0 = some r → va_P (dC, dI) vwCl (dw_X3s a ac s0) H → va_D A (dw_X3s a ac s0) → va_S A s.heap H locs → lv_has ls 12 [] → W p l e (headSpec ow_dm_X3_readRepeat ({ frames := 3, cells := 0, slots := 0, locals := 66 })).room s m args below meth c H locs 0 0 Q (F0 m 160 ls [])
def dj_X3_readRepeat_85 (p : Program) (l : Launch) (e : Env) (s : State) (m : MethodId) (args : Array Value) (below : List Frame) (meth : Method) (c : Code) (Q : State → Prop) (A : Nat → Prop) (dC : Nat → ClassId) (dI : Nat → Nat → Nat) (a : Nat → Nat) (ac : Nat → ClassId) (g : Int64 → Int64 → (St × (St)) → Option (St × (St))) (r : St × (St)) : Prop := ∀ (x8 : Int64) (x10 : Int64) (s0 : St × (St)) (H : Heap) (locs : List Loc) (ls : Array Slot), g x8 x10 s0 = some r → va_P (dC, dI) vwCl (dw_X3s a ac s0) H → va_D A (dw_X3s a ac s0) → va_S A s.heap H locs → lv_has ls 12 [(0, .ref (a 1)), (8, .long x8), (10, .long x10)] → W p l e (headSpec ow_dm_X3_readRepeat ({ frames := 3, cells := 0, slots := 0, locals := 66 })).room s m args below meth c H locs 0 0 Q (F0 m 85 ls [])
def dj_X3_readRepeat_69 (p : Program) (l : Launch) (e : Env) (s : State) (m : MethodId) (args : Array Value) (below : List Frame) (meth : Method) (c : Code) (Q : State → Prop) (A : Nat → Prop) (dC : Nat → ClassId) (dI : Nat → Nat → Nat) (a : Nat → Nat) (ac : Nat → ClassId) (g : Int64 → (St × (St)) → Option (St × (St))) (r : St × (St)) : Prop := ∀ (x6 : Int64) (s0 : St × (St)) (H : Heap) (locs : List Loc) (ls : Array Slot), g x6 s0 = some r → va_P (dC, dI) vwCl (dw_X3s a ac s0) H → va_D A (dw_X3s a ac s0) → va_S A s.heap H locs → lv_has ls 12 [(0, .ref (a 1)), (6, .long x6)] → W p l e (headSpec ow_dm_X3_readRepeat ({ frames := 3, cells := 0, slots := 0, locals := 66 })).room s m args below meth c H locs 0 0 Q (F0 m 69 ls [])
def dj_X3_readRepeat_49 (p : Program) (l : Launch) (e : Env) (s : State) (m : MethodId) (args : Array Value) (below : List Frame) (meth : Method) (c : Code) (Q : State → Prop) (A : Nat → Prop) (dC : Nat → ClassId) (dI : Nat → Nat → Nat) (a : Nat → Nat) (ac : Nat → ClassId) (g : Int32 → Int64 → Int64 → (St × (St)) → Option (St × (St))) (r : St × (St)) : Prop := ∀ (x1 : Int32) (x3 : Int64) (x6 : Int64) (s0 : St × (St)) (H : Heap) (locs : List Loc) (ls : Array Slot), g x1 x3 x6 s0 = some r → va_P (dC, dI) vwCl (dw_X3s a ac s0) H → va_D A (dw_X3s a ac s0) → va_S A s.heap H locs → lv_has ls 12 [(0, .ref (a 1)), (1, .int x1), (3, .long x3), (6, .long x6)] → W p l e (headSpec ow_dm_X3_readRepeat ({ frames := 3, cells := 0, slots := 0, locals := 66 })).room s m args below meth c H locs 0 0 Q (F0 m 49 ls [])
def dj_X3_readRepeat_33 (p : Program) (l : Launch) (e : Env) (s : State) (m : MethodId) (args : Array Value) (below : List Frame) (meth : Method) (c : Code) (Q : State → Prop) (A : Nat → Prop) (dC : Nat → ClassId) (dI : Nat → Nat → Nat) (a : Nat → Nat) (ac : Nat → ClassId) (g : Int32 → Int64 → Int32 → Int64 → (St × (St)) → Option (St × (St))) (r : St × (St)) : Prop := ∀ (x1 : Int32) (x3 : Int64) (x5 : Int32) (y0 : Int64) (s0 : St × (St)) (H : Heap) (locs : List Loc) (ls : Array Slot), g x1 x3 x5 y0 s0 = some r → va_P (dC, dI) vwCl (dw_X3s a ac s0) H → va_D A (dw_X3s a ac s0) → va_S A s.heap H locs → lv_has ls 12 [(0, .ref (a 1)), (1, .int x1), (3, .long x3), (5, .int x5)] → W p l e (headSpec ow_dm_X3_readRepeat ({ frames := 3, cells := 0, slots := 0, locals := 66 })).room s m args below meth c H locs 0 0 Q (F0 m 33 ls [.long y0])
def dj_X3_readRepeat_0 (p : Program) (l : Launch) (e : Env) (s : State) (m : MethodId) (args : Array Value) (below : List Frame) (meth : Method) (c : Code) (Q : State → Prop) (A : Nat → Prop) (dC : Nat → ClassId) (dI : Nat → Nat → Nat) (a : Nat → Nat) (ac : Nat → ClassId) (g : Int32 → Int32 → Int64 → (St × (St)) → Option (St × (St))) (r : St × (St)) : Prop := ∀ (v0 : Int32) (v1 : Int32) (v2 : Int64) (s0 : St × (St)) (H : Heap) (locs : List Loc) (ls : Array Slot), g v0 v1 v2 s0 = some r → va_P (dC, dI) vwCl (dw_X3s a ac s0) H → va_D A (dw_X3s a ac s0) → va_S A s.heap H locs → lv_has ls 12 [(0, .ref (a 1)), (1, .int v0), (2, .int v1), (3, .long v2)] → W p l e (headSpec ow_dm_X3_readRepeat ({ frames := 3, cells := 0, slots := 0, locals := 66 })).room s m args below meth c H locs 0 0 Q (F0 m 0 ls [])
set_option maxHeartbeats 40000000 in
set_option maxRecDepth 100000 in
theorem db_X3_readRepeat_160 {p : Program} {l : Launch} {e : Env} {s : State} {m : MethodId} {args : Array Value} {below : List Frame} {meth : Method} {c : Code} {Q : State → Prop} {A : Nat → Prop} {dC : Nat → ClassId} {dI : Nat → Nat → Nat} {a : Nat → Nat} {ac : Nat → ClassId} {n : Nat} {r : St × (St)} (C : nd_C p l s m args c A (dC, dI) cX3_readRepeat 12 RX3 ow_dm_X3_readRepeat (dk_X3s ac)) (K : nd_Kv p l e (headSpec ow_dm_X3_readRepeat ({ frames := 3, cells := 0, slots := 0, locals := 66 })).room s m args below meth c Q A (dC, dI) cX3_readRepeat (St × (St)) (dw_X3s a ac) r) : dj_X3_readRepeat_160 p l e s m args below meth c Q A dC dI a ac (df_X3_readRepeat_160 n (a 0)) r := by
  obtain ⟨hlt, hx, hb, hml, hown, hts, hN, hA, hK⟩ := id C
  intro s0 H locs ls h hP hD hS hl
  unfold df_X3_readRepeat_160 at h
  exact K _ _ _ _ _ dX3_readRepeat_160 (Option.some.inj h).symm hP hD hS
set_option maxHeartbeats 40000000 in
set_option maxRecDepth 100000 in
theorem dB_X3_readRepeat_85 {p : Program} {l : Launch} {e : Env} {s : State} {m : MethodId} {args : Array Value} {below : List Frame} {meth : Method} {c : Code} {Q : State → Prop} {A : Nat → Prop} {dC : Nat → ClassId} {dI : Nat → Nat → Nat} {a : Nat → Nat} {ac : Nat → ClassId} {n : Nat} {r : St × (St)} (C : nd_C p l s m args c A (dC, dI) cX3_readRepeat 12 RX3 ow_dm_X3_readRepeat (dk_X3s ac)) (K : nd_Kv p l e (headSpec ow_dm_X3_readRepeat ({ frames := 3, cells := 0, slots := 0, locals := 66 })).room s m args below meth c Q A (dC, dI) cX3_readRepeat (St × (St)) (dw_X3s a ac) r) {g85 : Int64 → Int64 → (St × (St)) → Option (St × (St))} (J85 : dj_X3_readRepeat_85 p l e s m args below meth c Q A dC dI a ac g85 r) : dj_X3_readRepeat_85 p l e s m args below meth c Q A dC dI a ac (dF_X3_readRepeat_85 n (a 0) g85) r := by
  obtain ⟨hlt, hx, hb, hml, hown, hts, hN, hA, hK⟩ := id C
  intro x8 x10 s0 H locs ls h hP hD hS hl
  unfold dF_X3_readRepeat_85 at h
  refine lv_lload hx hb dX3_readRepeat_85 (lv_at hl 2 rfl) ?_
  refine lv_lconst (v := 0) hx hb dX3_readRepeat_87 (by decide) ?_
  refine W.lcmp hx hb dX3_readRepeat_88 ?_
  refine lv_if_le (tgt := 160) hx hb dX3_readRepeat_89 (by decide) (fun c10 => ?_) (fun c10 => ?_)
  · have h := nd_pos h c10
    exact (db_X3_readRepeat_160 C K)  s0 _ _ _ h hP hD hS (lv_sub hl [] rfl)
  · have h := nd_neg h c10
    refine lv_aload_n hx hb dX3_readRepeat_92 rfl (lv_at hl 0 rfl) ?_
    refine va_get (D := (dC, dI)) (ci := 4) (v := .int (sI s0.2 4)) (C := RX3) (T := TX3) (N := 11) hx hb hts hi_dm_X3_readRepeat_X3 hown hK hP 1 rfl rfl 9 (by decide) (hts (.fieldLink RX3 95 "TimeMachine$Events" "fault" "I") (List.mem_of_getElem? (i := 7) rfl)) (fun _ h9 => h9) rfl dX3_readRepeat_93 ?_
    refine lv_if_ne (tgt := 160) hx hb dX3_readRepeat_96 (by decide) (fun c11 => ?_) (fun c11 => ?_)
    · have h := nd_neg h c11
      exact (db_X3_readRepeat_160 C K)  s0 _ _ _ h hP hD hS (lv_sub hl [] rfl)
    · have h := nd_pos h c11
      refine lv_aload_n hx hb dX3_readRepeat_99 rfl (lv_at hl 0 rfl) ?_
      refine lv_aload_n hx hb dX3_readRepeat_100 rfl (lv_at hl 0 rfl) ?_
      refine va_get (D := (dC, dI)) (ci := 4) (v := .ref (a 2)) (C := RX3) (T := TX3) (N := 11) hx hb hts hi_dm_X3_readRepeat_X3 hown hK hP 1 rfl rfl 0 (by decide) (hts (.fieldLink RX3 9 "TimeMachine$Events" "kind" "[I") (List.mem_of_getElem? (i := 8) rfl)) (fun _ h9 => h9) rfl dX3_readRepeat_101 ?_
      refine lv_aload_n hx hb dX3_readRepeat_104 rfl (lv_at hl 0 rfl) ?_
      refine va_get (D := (dC, dI)) (ci := 4) (v := .int (sI s0.2 1)) (C := RX3) (T := TX3) (N := 11) hx hb hts hi_dm_X3_readRepeat_X3 hown hK hP 1 rfl rfl 5 (by decide) (hts (.fieldLink RX3 39 "TimeMachine$Events" "total" "I") (List.mem_of_getElem? (i := 1) rfl)) (fun _ h9 => h9) rfl dX3_readRepeat_105 ?_
      refine lv_iconst (v := 1) hx hb dX3_readRepeat_108 (by decide) ?_
      refine lv_isub hx hb dX3_readRepeat_109 ?_
      obtain ⟨i12, h⟩ := nd_ck_e h
      refine va_iald (i := ((sI s0.2 1) - 1)) hx hb hK hP 2 1 rfl rfl i12 dX3_readRepeat_110 ?_
      refine lv_aload_n hx hb dX3_readRepeat_111 rfl (lv_at hl 0 rfl) ?_
      refine va_get (D := (dC, dI)) (ci := 4) (v := .ref (a 3)) (C := RX3) (T := TX3) (N := 11) hx hb hts hi_dm_X3_readRepeat_X3 hown hK hP 1 rfl rfl 1 (by decide) (hts (.fieldLink RX3 13 "TimeMachine$Events" "at" "[J") (List.mem_of_getElem? (i := 9) rfl)) (fun _ h9 => h9) rfl dX3_readRepeat_112 ?_
      refine lv_aload_n hx hb dX3_readRepeat_115 rfl (lv_at hl 0 rfl) ?_
      refine va_get (D := (dC, dI)) (ci := 4) (v := .int (sI s0.2 1)) (C := RX3) (T := TX3) (N := 11) hx hb hts hi_dm_X3_readRepeat_X3 hown hK hP 1 rfl rfl 5 (by decide) (hts (.fieldLink RX3 39 "TimeMachine$Events" "total" "I") (List.mem_of_getElem? (i := 1) rfl)) (fun _ h9 => h9) rfl dX3_readRepeat_116 ?_
      refine lv_iconst (v := 1) hx hb dX3_readRepeat_119 (by decide) ?_
      refine lv_isub hx hb dX3_readRepeat_120 ?_
      obtain ⟨i13, h⟩ := nd_ck_e h
      refine va_lald (i := ((sI s0.2 1) - 1)) hx hb hK hP 3 2 rfl rfl i13 dX3_readRepeat_121 ?_
      refine lv_lload hx hb dX3_readRepeat_122 (lv_at hl 1 rfl) ?_
      refine lv_ladd hx hb dX3_readRepeat_124 ?_
      refine lv_aload_n hx hb dX3_readRepeat_125 rfl (lv_at hl 0 rfl) ?_
      refine va_get (D := (dC, dI)) (ci := 4) (v := .ref (a 4)) (C := RX3) (T := TX3) (N := 11) hx hb hts hi_dm_X3_readRepeat_X3 hown hK hP 1 rfl rfl 2 (by decide) (hts (.fieldLink RX3 17 "TimeMachine$Events" "a" "[J") (List.mem_of_getElem? (i := 10) rfl)) (fun _ h9 => h9) rfl dX3_readRepeat_126 ?_
      refine lv_aload_n hx hb dX3_readRepeat_129 rfl (lv_at hl 0 rfl) ?_
      refine va_get (D := (dC, dI)) (ci := 4) (v := .int (sI s0.2 1)) (C := RX3) (T := TX3) (N := 11) hx hb hts hi_dm_X3_readRepeat_X3 hown hK hP 1 rfl rfl 5 (by decide) (hts (.fieldLink RX3 39 "TimeMachine$Events" "total" "I") (List.mem_of_getElem? (i := 1) rfl)) (fun _ h9 => h9) rfl dX3_readRepeat_130 ?_
      refine lv_iconst (v := 1) hx hb dX3_readRepeat_133 (by decide) ?_
      refine lv_isub hx hb dX3_readRepeat_134 ?_
      obtain ⟨i14, h⟩ := nd_ck_e h
      refine va_lald (i := ((sI s0.2 1) - 1)) hx hb hK hP 4 3 rfl rfl i14 dX3_readRepeat_135 ?_
      refine lv_aload_n hx hb dX3_readRepeat_136 rfl (lv_at hl 0 rfl) ?_
      refine va_get (D := (dC, dI)) (ci := 4) (v := .ref (a 5)) (C := RX3) (T := TX3) (N := 11) hx hb hts hi_dm_X3_readRepeat_X3 hown hK hP 1 rfl rfl 3 (by decide) (hts (.fieldLink RX3 20 "TimeMachine$Events" "b" "[I") (List.mem_of_getElem? (i := 11) rfl)) (fun _ h9 => h9) rfl dX3_readRepeat_137 ?_
      refine lv_aload_n hx hb dX3_readRepeat_140 rfl (lv_at hl 0 rfl) ?_
      refine va_get (D := (dC, dI)) (ci := 4) (v := .int (sI s0.2 1)) (C := RX3) (T := TX3) (N := 11) hx hb hts hi_dm_X3_readRepeat_X3 hown hK hP 1 rfl rfl 5 (by decide) (hts (.fieldLink RX3 39 "TimeMachine$Events" "total" "I") (List.mem_of_getElem? (i := 1) rfl)) (fun _ h9 => h9) rfl dX3_readRepeat_141 ?_
      refine lv_iconst (v := 1) hx hb dX3_readRepeat_144 (by decide) ?_
      refine lv_isub hx hb dX3_readRepeat_145 ?_
      obtain ⟨i15, h⟩ := nd_ck_e h
      refine va_iald (i := ((sI s0.2 1) - 1)) hx hb hK hP 5 4 rfl rfl i15 dX3_readRepeat_146 ?_
      obtain ⟨q16, s17, hq, h⟩ := nd_b2_e h
      have hPc := dp_X3s_1 hP
      have hDc := dd_X3s_1 hD
      have hKc := dy_X3s_1 hK
      have hFc := nd_rs hDc hS hA
      have hzA : ∀ q : Nat, H.size ≤ q → A q := fun q h => hA q (Nat.le_trans hS.1 h)
      refine nd_cVi (As := [.int (sR s0.2 0 (Int32.toNatClampNeg ((sI s0.2 1) - 1))), .long (((sQ s0.2 0 (Int32.toNatClampNeg ((sI s0.2 1) - 1))) : Int64) + x8), .long (sQ s0.2 1 (Int32.toNatClampNeg ((sI s0.2 1) - 1))), .int (sR s0.2 1 (Int32.toNatClampNeg ((sI s0.2 1) - 1)))]) (rest := []) (q := q16) (w' := dw_X3c (fun k => a (k + 1)) (fun k => ac (k + 1)) s17) ⟨hx, hb, hml, hown, hts⟩ (fun sz => dm_X3_add l hlt dC dI (fun k => a (k + 1)) (fun k => ac (k + 1)) n ((sR s0.2 0 (Int32.toNatClampNeg ((sI s0.2 1) - 1)))) ((((sQ s0.2 0 (Int32.toNatClampNeg ((sI s0.2 1) - 1))) : Int64) + x8)) ((sQ s0.2 1 (Int32.toNatClampNeg ((sI s0.2 1) - 1)))) ((sR s0.2 1 (Int32.toNatClampNeg ((sI s0.2 1) - 1)))) s0.2 hq sz) (cwV 4 hts gi_dm_X3_readRepeat_1 rfl rfl rfl (by decide +kernel) ⟨Nat.le_of_ble_eq_true rfl, Nat.le_of_ble_eq_true rfl⟩) hPc hDc hKc hS hA hN (va_recv hKc hPc (ci := 4) (q0 := 0) rfl rfl) rfl hl.1 rfl (Nat.le_of_ble_eq_true rfl) dX3_readRepeat_147 (fun H locs hP1 hD1 hk1 hS => ?_)
      obtain ⟨hP, hD⟩ := dn_X3s_1 hP hD hzA hk1 hP1 hD1
      obtain ⟨s19, es19, h⟩ := nd_let_e h
      have hP : va_P (dC, dI) vwCl (dw_X3s a ac s19) H := by rw [es19]; exact hP
      have hD : va_D A (dw_X3s a ac s19) := by rw [es19]; exact hD
      refine lv_pop hx hb dX3_readRepeat_150 rfl ?_
      refine lv_lload hx hb dX3_readRepeat_151 (lv_at hl 2 rfl) ?_
      refine lv_lconst (v := 1) hx hb dX3_readRepeat_153 (by decide) ?_
      refine lv_lsub hx hb dX3_readRepeat_154 ?_
      refine lv_topl (fun z20 ez20 => ?_)
      have h := nd_at h ez20
      refine lv_lstore (lv' := [(10, .long z20), (0, .ref (a 1)), (8, .long x8)]) hx hb dX3_readRepeat_155 hl (by decide) rfl (fun ls hl => ?_)
      refine lv_goto (tgt := 85) hx hb dX3_readRepeat_157 (by decide) ?_
      exact (J85) (x8) (z20) s19 _ _ _ h hP hD hS (lv_sub hl [1, 2, 0] rfl)
set_option maxHeartbeats 40000000 in
set_option maxRecDepth 100000 in
theorem db_X3_readRepeat_85 {p : Program} {l : Launch} {e : Env} {s : State} {m : MethodId} {args : Array Value} {below : List Frame} {meth : Method} {c : Code} {Q : State → Prop} {A : Nat → Prop} {dC : Nat → ClassId} {dI : Nat → Nat → Nat} {a : Nat → Nat} {ac : Nat → ClassId} {n : Nat} {r : St × (St)} (C : nd_C p l s m args c A (dC, dI) cX3_readRepeat 12 RX3 ow_dm_X3_readRepeat (dk_X3s ac)) (K : nd_Kv p l e (headSpec ow_dm_X3_readRepeat ({ frames := 3, cells := 0, slots := 0, locals := 66 })).room s m args below meth c Q A (dC, dI) cX3_readRepeat (St × (St)) (dw_X3s a ac) r) (k : Nat) : dj_X3_readRepeat_85 p l e s m args below meth c Q A dC dI a ac (df_X3_readRepeat_85 n (a 0) k) r := by
  induction k with
  | zero => intro x8 x10 s0 H locs ls h; exact nomatch (show (none : Option (St × (St))) = some r from h)
  | succ k ih => exact dB_X3_readRepeat_85 C K ih
set_option maxHeartbeats 40000000 in
set_option maxRecDepth 100000 in
theorem db_X3_readRepeat_69 {p : Program} {l : Launch} {e : Env} {s : State} {m : MethodId} {args : Array Value} {below : List Frame} {meth : Method} {c : Code} {Q : State → Prop} {A : Nat → Prop} {dC : Nat → ClassId} {dI : Nat → Nat → Nat} {a : Nat → Nat} {ac : Nat → ClassId} {n : Nat} {r : St × (St)} (C : nd_C p l s m args c A (dC, dI) cX3_readRepeat 12 RX3 ow_dm_X3_readRepeat (dk_X3s ac)) (K : nd_Kv p l e (headSpec ow_dm_X3_readRepeat ({ frames := 3, cells := 0, slots := 0, locals := 66 })).room s m args below meth c Q A (dC, dI) cX3_readRepeat (St × (St)) (dw_X3s a ac) r) : dj_X3_readRepeat_69 p l e s m args below meth c Q A dC dI a ac (df_X3_readRepeat_69 n (a 0)) r := by
  obtain ⟨hlt, hx, hb, hml, hown, hts, hN, hA, hK⟩ := id C
  intro x6 s0 H locs ls h hP hD hS hl
  unfold df_X3_readRepeat_69 at h
  refine lv_aload_n hx hb dX3_readRepeat_69 rfl (lv_at hl 0 rfl) ?_
  refine lv_aload_n hx hb dX3_readRepeat_70 rfl (lv_at hl 0 rfl) ?_
  refine va_get (D := (dC, dI)) (ci := 4) (v := .int (sI s0.2 1)) (C := RX3) (T := TX3) (N := 11) hx hb hts hi_dm_X3_readRepeat_X3 hown hK hP 1 rfl rfl 5 (by decide) (hts (.fieldLink RX3 39 "TimeMachine$Events" "total" "I") (List.mem_of_getElem? (i := 1) rfl)) (fun _ h9 => h9) rfl dX3_readRepeat_71 ?_
  refine lv_iconst (v := 1) hx hb dX3_readRepeat_74 (by decide) ?_
  refine lv_isub hx hb dX3_readRepeat_75 ?_
  obtain ⟨q6, s7, hq, h⟩ := nd_b2_e h
  have hPc := dp_X3s_1 hP
  have hDc := dd_X3s_1 hD
  have hKc := dy_X3s_1 hK
  have hFc := nd_rs hDc hS hA
  have hzA : ∀ q : Nat, H.size ≤ q → A q := fun q h => hA q (Nat.le_trans hS.1 h)
  refine nd_cVl (As := [.int ((sI s0.2 1) - 1)]) (rest := []) (q := q6) (w' := dw_X3c (fun k => a (k + 1)) (fun k => ac (k + 1)) s7) ⟨hx, hb, hml, hown, hts⟩ (fun sz => dm_X3_difference l hlt dC dI (fun k => a (k + 1)) (fun k => ac (k + 1)) n (((sI s0.2 1) - 1)) s0.2 hq sz) (cwV 1 hts gi_dm_X3_readRepeat_0 rfl rfl rfl (by decide +kernel) ⟨Nat.le_of_ble_eq_true rfl, Nat.le_of_ble_eq_true rfl⟩) hPc hDc hKc hS hA hN (va_recv hKc hPc (ci := 4) (q0 := 0) rfl rfl) rfl hl.1 rfl (Nat.le_of_ble_eq_true rfl) dX3_readRepeat_76 (fun H locs hP1 hD1 hk1 hS => ?_)
  obtain ⟨hP, hD⟩ := dn_X3s_1 hP hD hzA hk1 hP1 hD1
  obtain ⟨s9, es9, h⟩ := nd_let_e h
  have hP : va_P (dC, dI) vwCl (dw_X3s a ac s9) H := by rw [es9]; exact hP
  have hD : va_D A (dw_X3s a ac s9) := by rw [es9]; exact hD
  refine lv_lstore (lv' := [(8, .long q6), (0, .ref (a 1)), (6, .long x6)]) hx hb dX3_readRepeat_79 hl (by decide) rfl (fun ls hl => ?_)
  refine lv_lload hx hb dX3_readRepeat_81 (lv_at hl 2 rfl) ?_
  refine lv_lstore (lv' := [(10, .long x6), (8, .long q6), (0, .ref (a 1)), (6, .long x6)]) hx hb dX3_readRepeat_83 hl (by decide) rfl (fun ls hl => ?_)
  exact (db_X3_readRepeat_85 C K n) (q6) (x6) s9 _ _ _ h hP hD hS (lv_sub hl [2, 1, 0] rfl)
set_option maxHeartbeats 40000000 in
set_option maxRecDepth 100000 in
theorem db_X3_readRepeat_49 {p : Program} {l : Launch} {e : Env} {s : State} {m : MethodId} {args : Array Value} {below : List Frame} {meth : Method} {c : Code} {Q : State → Prop} {A : Nat → Prop} {dC : Nat → ClassId} {dI : Nat → Nat → Nat} {a : Nat → Nat} {ac : Nat → ClassId} {n : Nat} {r : St × (St)} (C : nd_C p l s m args c A (dC, dI) cX3_readRepeat 12 RX3 ow_dm_X3_readRepeat (dk_X3s ac)) (K : nd_Kv p l e (headSpec ow_dm_X3_readRepeat ({ frames := 3, cells := 0, slots := 0, locals := 66 })).room s m args below meth c Q A (dC, dI) cX3_readRepeat (St × (St)) (dw_X3s a ac) r) : dj_X3_readRepeat_49 p l e s m args below meth c Q A dC dI a ac (df_X3_readRepeat_49 n (a 0)) r := by
  obtain ⟨hlt, hx, hb, hml, hown, hts, hN, hA, hK⟩ := id C
  intro x1 x3 x6 s0 H locs ls h hP hD hS hl
  unfold df_X3_readRepeat_49 at h
  refine lv_aload_n hx hb dX3_readRepeat_49 rfl (lv_at hl 0 rfl) ?_
  refine va_get (D := (dC, dI)) (ci := 4) (v := .int (sI s0.2 1)) (C := RX3) (T := TX3) (N := 11) hx hb hts hi_dm_X3_readRepeat_X3 hown hK hP 1 rfl rfl 5 (by decide) (hts (.fieldLink RX3 39 "TimeMachine$Events" "total" "I") (List.mem_of_getElem? (i := 1) rfl)) (fun _ h9 => h9) rfl dX3_readRepeat_50 ?_
  refine lv_i2l hx hb dX3_readRepeat_53 rfl ?_
  refine lv_lload hx hb dX3_readRepeat_54 (lv_at hl 3 rfl) ?_
  refine lv_ladd hx hb dX3_readRepeat_56 ?_
  refine lv_lload_n hx hb dX3_readRepeat_57 rfl (lv_at hl 2 rfl) ?_
  refine W.lcmp hx hb dX3_readRepeat_58 ?_
  refine lv_if_le (tgt := 69) hx hb dX3_readRepeat_59 (by decide) (fun c5 => ?_) (fun c5 => ?_)
  · have h := nd_pos h c5
    exact (db_X3_readRepeat_69 C K) (x6) s0 _ _ _ h hP hD hS (lv_sub hl [0, 3] rfl)
  · have h := nd_neg h c5
    refine lv_aload_n hx hb dX3_readRepeat_62 rfl (lv_at hl 0 rfl) ?_
    refine lv_bipush (v := 6) hx hb dX3_readRepeat_63 (by decide) ?_
    refine lv_iload_n hx hb dX3_readRepeat_65 rfl (lv_at hl 1 rfl) ?_
    obtain ⟨s22, hq, h⟩ := nd_b1_e h
    have hPc := dp_X3s_1 hP
    have hDc := dd_X3s_1 hD
    have hKc := dy_X3s_1 hK
    have hFc := nd_rs hDc hS hA
    have hzA : ∀ q : Nat, H.size ≤ q → A q := fun q h => hA q (Nat.le_trans hS.1 h)
    refine nd_cVv (As := [.int 6, .int x1]) (rest := []) (w' := dw_X3c (fun k => a (k + 1)) (fun k => ac (k + 1)) s22) ⟨hx, hb, hml, hown, hts⟩ (fun sz => dm_X3_blame l hlt dC dI (fun k => a (k + 1)) (fun k => ac (k + 1)) n (6) (x1) s0.2 hq sz) (cwV 2 hts gi_dm_X3_readRepeat_2 rfl rfl rfl (by decide +kernel) ⟨Nat.le_of_ble_eq_true rfl, Nat.le_of_ble_eq_true rfl⟩) hPc hDc hKc hS hA hN (va_recv hKc hPc (ci := 4) (q0 := 0) rfl rfl) rfl hl.1 rfl (Nat.le_of_ble_eq_true rfl) dX3_readRepeat_66 (fun H locs hP1 hD1 hk1 hS => ?_)
    obtain ⟨hP, hD⟩ := dn_X3s_1 hP hD hzA hk1 hP1 hD1
    obtain ⟨s24, es24, h⟩ := nd_let_e h
    have hP : va_P (dC, dI) vwCl (dw_X3s a ac s24) H := by rw [es24]; exact hP
    have hD : va_D A (dw_X3s a ac s24) := by rw [es24]; exact hD
    exact (db_X3_readRepeat_69 C K) (x6) s24 _ _ _ h hP hD hS (lv_sub hl [0, 3] rfl)
set_option maxHeartbeats 40000000 in
set_option maxRecDepth 100000 in
theorem db_X3_readRepeat_33 {p : Program} {l : Launch} {e : Env} {s : State} {m : MethodId} {args : Array Value} {below : List Frame} {meth : Method} {c : Code} {Q : State → Prop} {A : Nat → Prop} {dC : Nat → ClassId} {dI : Nat → Nat → Nat} {a : Nat → Nat} {ac : Nat → ClassId} {n : Nat} {r : St × (St)} (C : nd_C p l s m args c A (dC, dI) cX3_readRepeat 12 RX3 ow_dm_X3_readRepeat (dk_X3s ac)) (K : nd_Kv p l e (headSpec ow_dm_X3_readRepeat ({ frames := 3, cells := 0, slots := 0, locals := 66 })).room s m args below meth c Q A (dC, dI) cX3_readRepeat (St × (St)) (dw_X3s a ac) r) : dj_X3_readRepeat_33 p l e s m args below meth c Q A dC dI a ac (df_X3_readRepeat_33 n (a 0)) r := by
  obtain ⟨hlt, hx, hb, hml, hown, hts, hN, hA, hK⟩ := id C
  intro x1 x3 x5 y0 s0 H locs ls h hP hD hS hl
  unfold df_X3_readRepeat_33 at h
  refine lv_lstore (lv' := [(6, .long y0), (0, .ref (a 1)), (1, .int x1), (3, .long x3), (5, .int x5)]) hx hb dX3_readRepeat_33 hl (by decide) rfl (fun ls hl => ?_)
  refine lv_lload hx hb dX3_readRepeat_35 (lv_at hl 0 rfl) ?_
  refine lv_lconst (v := 0) hx hb dX3_readRepeat_37 (by decide) ?_
  refine W.lcmp hx hb dX3_readRepeat_38 ?_
  refine lv_if_ne (tgt := 49) hx hb dX3_readRepeat_39 (by decide) (fun c4 => ?_) (fun c4 => ?_)
  · have h := nd_neg h c4
    exact (db_X3_readRepeat_49 C K) (x1) (x3) (y0) s0 _ _ _ h hP hD hS (lv_sub hl [1, 2, 3, 0] rfl)
  · have h := nd_pos h c4
    refine lv_aload_n hx hb dX3_readRepeat_42 rfl (lv_at hl 1 rfl) ?_
    refine lv_iconst (v := 5) hx hb dX3_readRepeat_43 (by decide) ?_
    refine lv_iload hx hb dX3_readRepeat_44 (lv_at hl 4 rfl) ?_
    obtain ⟨s26, hq, h⟩ := nd_b1_e h
    have hPc := dp_X3s_1 hP
    have hDc := dd_X3s_1 hD
    have hKc := dy_X3s_1 hK
    have hFc := nd_rs hDc hS hA
    have hzA : ∀ q : Nat, H.size ≤ q → A q := fun q h => hA q (Nat.le_trans hS.1 h)
    refine nd_cVv (As := [.int 5, .int x5]) (rest := []) (w' := dw_X3c (fun k => a (k + 1)) (fun k => ac (k + 1)) s26) ⟨hx, hb, hml, hown, hts⟩ (fun sz => dm_X3_blame l hlt dC dI (fun k => a (k + 1)) (fun k => ac (k + 1)) n (5) (x5) s0.2 hq sz) (cwV 2 hts gi_dm_X3_readRepeat_2 rfl rfl rfl (by decide +kernel) ⟨Nat.le_of_ble_eq_true rfl, Nat.le_of_ble_eq_true rfl⟩) hPc hDc hKc hS hA hN (va_recv hKc hPc (ci := 4) (q0 := 0) rfl rfl) rfl hl.1 rfl (Nat.le_of_ble_eq_true rfl) dX3_readRepeat_46 (fun H locs hP1 hD1 hk1 hS => ?_)
    obtain ⟨hP, hD⟩ := dn_X3s_1 hP hD hzA hk1 hP1 hD1
    obtain ⟨s28, es28, h⟩ := nd_let_e h
    have hP : va_P (dC, dI) vwCl (dw_X3s a ac s28) H := by rw [es28]; exact hP
    have hD : va_D A (dw_X3s a ac s28) := by rw [es28]; exact hD
    exact (db_X3_readRepeat_49 C K) (x1) (x3) (y0) s28 _ _ _ h hP hD hS (lv_sub hl [1, 2, 3, 0] rfl)
set_option maxHeartbeats 40000000 in
set_option maxRecDepth 100000 in
theorem db_X3_readRepeat_0 {p : Program} {l : Launch} {e : Env} {s : State} {m : MethodId} {args : Array Value} {below : List Frame} {meth : Method} {c : Code} {Q : State → Prop} {A : Nat → Prop} {dC : Nat → ClassId} {dI : Nat → Nat → Nat} {a : Nat → Nat} {ac : Nat → ClassId} {n : Nat} {r : St × (St)} (C : nd_C p l s m args c A (dC, dI) cX3_readRepeat 12 RX3 ow_dm_X3_readRepeat (dk_X3s ac)) (K : nd_Kv p l e (headSpec ow_dm_X3_readRepeat ({ frames := 3, cells := 0, slots := 0, locals := 66 })).room s m args below meth c Q A (dC, dI) cX3_readRepeat (St × (St)) (dw_X3s a ac) r) : dj_X3_readRepeat_0 p l e s m args below meth c Q A dC dI a ac (df_X3_readRepeat_0 n (a 0)) r := by
  obtain ⟨hlt, hx, hb, hml, hown, hts, hN, hA, hK⟩ := id C
  intro v0 v1 v2 s0 H locs ls h hP hD hS hl
  unfold df_X3_readRepeat_0 at h
  refine lv_aload_n hx hb dX3_readRepeat_0 rfl (lv_at hl 0 rfl) ?_
  refine va_get (D := (dC, dI)) (ci := 4) (v := .int (sI s0.2 1)) (C := RX3) (T := TX3) (N := 11) hx hb hts hi_dm_X3_readRepeat_X3 hown hK hP 1 rfl rfl 5 (by decide) (hts (.fieldLink RX3 39 "TimeMachine$Events" "total" "I") (List.mem_of_getElem? (i := 1) rfl)) (fun _ h9 => h9) rfl dX3_readRepeat_1 ?_
  refine lv_if_ne (tgt := 14) hx hb dX3_readRepeat_4 (by decide) (fun c1 => ?_) (fun c1 => ?_)
  · have h := nd_neg h c1
    refine lv_aload_n hx hb dX3_readRepeat_14 rfl (lv_at hl 0 rfl) ?_
    refine va_get (D := (dC, dI)) (ci := 4) (v := .int (sI s0.2 2)) (C := RX3) (T := TX3) (N := 11) hx hb hts hi_dm_X3_readRepeat_X3 hown hK hP 1 rfl rfl 7 (by decide) (hts (.fieldLink RX3 44 "TimeMachine$Events" "place" "I") (List.mem_of_getElem? (i := 2) rfl)) (fun _ h9 => h9) rfl dX3_readRepeat_15 ?_
    refine lv_topi (fun z2 ez2 => ?_)
    have h := nd_at h ez2
    refine lv_istore (lv' := [(5, .int z2), (0, .ref (a 1)), (1, .int v0), (2, .int v1), (3, .long v2)]) hx hb dX3_readRepeat_18 hl (by decide) rfl (fun ls hl => ?_)
    refine lv_iload_n hx hb dX3_readRepeat_20 rfl (lv_at hl 3 rfl) ?_
    refine lv_if_ne (tgt := 31) hx hb dX3_readRepeat_21 (by decide) (fun c3 => ?_) (fun c3 => ?_)
    · have h := nd_neg h c3
      refine lv_iload_n hx hb dX3_readRepeat_31 rfl (lv_at hl 3 rfl) ?_
      refine lv_i2l hx hb dX3_readRepeat_32 rfl ?_
      exact (db_X3_readRepeat_33 C K) (v0) (v2) (z2) ((v1.toInt64)) s0 _ _ _ h hP hD hS (lv_sub hl [1, 2, 4, 0] rfl)
    · have h := nd_pos h c3
      refine lv_aload_n hx hb dX3_readRepeat_24 rfl (lv_at hl 1 rfl) ?_
      obtain ⟨q29, s30, hq, h⟩ := nd_b2_e h
      have hPc := hP
      have hDc := hD
      have hKc := hK
      have hFc := nd_rs hD hS hA
      refine nd_cVl (As := []) (rest := []) (q := q29) (w' := dw_X3s a ac s30) ⟨hx, hb, hml, hown, hts⟩ (fun sz => dm_X3_readVarint l hlt dC dI a ac n  s0 hq sz) (cwV 0 hts gi_dm_X3_readRepeat_3 rfl rfl rfl (by decide +kernel) ⟨Nat.le_of_ble_eq_true rfl, Nat.le_of_ble_eq_true rfl⟩) hPc hDc hKc hS hA hN (va_recv hKc hPc (ci := 4) (q0 := 1) rfl rfl) rfl hl.1 rfl (Nat.le_of_ble_eq_true rfl) dX3_readRepeat_25 (fun H locs hP1 hD1 hk1 hS => ?_)
      have hP := hP1
      have hD := hD1.weaken (fun k q _ h => hFc q.1 h)
      refine lv_goto (tgt := 33) hx hb dX3_readRepeat_28 (by decide) ?_
      exact (db_X3_readRepeat_33 C K) (v0) (v2) (z2) (q29) s30 _ _ _ h hP hD hS (lv_sub hl [1, 2, 4, 0] rfl)
  · have h := nd_pos h c1
    refine lv_aload_n hx hb dX3_readRepeat_7 rfl (lv_at hl 0 rfl) ?_
    refine lv_iconst (v := 4) hx hb dX3_readRepeat_8 (by decide) ?_
    refine lv_iload_n hx hb dX3_readRepeat_9 rfl (lv_at hl 1 rfl) ?_
    obtain ⟨s33, hq, h⟩ := nd_b1_e h
    have hPc := dp_X3s_1 hP
    have hDc := dd_X3s_1 hD
    have hKc := dy_X3s_1 hK
    have hFc := nd_rs hDc hS hA
    have hzA : ∀ q : Nat, H.size ≤ q → A q := fun q h => hA q (Nat.le_trans hS.1 h)
    refine nd_cVv (As := [.int 4, .int v0]) (rest := []) (w' := dw_X3c (fun k => a (k + 1)) (fun k => ac (k + 1)) s33) ⟨hx, hb, hml, hown, hts⟩ (fun sz => dm_X3_blame l hlt dC dI (fun k => a (k + 1)) (fun k => ac (k + 1)) n (4) (v0) s0.2 hq sz) (cwV 2 hts gi_dm_X3_readRepeat_2 rfl rfl rfl (by decide +kernel) ⟨Nat.le_of_ble_eq_true rfl, Nat.le_of_ble_eq_true rfl⟩) hPc hDc hKc hS hA hN (va_recv hKc hPc (ci := 4) (q0 := 0) rfl rfl) rfl hl.1 rfl (Nat.le_of_ble_eq_true rfl) dX3_readRepeat_10 (fun H locs hP1 hD1 hk1 hS => ?_)
    obtain ⟨hP, hD⟩ := dn_X3s_1 hP hD hzA hk1 hP1 hD1
    obtain ⟨s35, es35, h⟩ := nd_let_e h
    have hP : va_P (dC, dI) vwCl (dw_X3s a ac s35) H := by rw [es35]; exact hP
    have hD : va_D A (dw_X3s a ac s35) := by rw [es35]; exact hD
    exact K _ _ _ _ _ dX3_readRepeat_13 (Option.some.inj h).symm hP hD hS
set_option maxHeartbeats 40000000 in
set_option maxRecDepth 100000 in
theorem dm_X3_readRepeat (l : Launch) (hlt : l.stackTraces = false) (dC : Nat → ClassId) (dI : Nat → Nat → Nat) (a : Nat → Nat) (ac : Nat → ClassId) (n : Nat) (v0 : Int32) (v1 : Int32) (v2 : Int64) (s0 : St × (St)) {r : St × (St)} (h : df_X3_readRepeat n (a 0) v0 v1 v2 s0 = some r) (sz : Nat) : Met l yX3_readRepeat ow_dm_X3_readRepeat ({ frames := 3, cells := 0, slots := 0, locals := 66 }) (va_Pc [.ref (a 1), .int v0, .int v1, .long v2] (fun U => U.heap.size = sz ∧ va_P (dC, dI) vwCl (dw_X3s a ac s0) U.heap ∧ va_K (dC, dI) vwCl (dk_X3s ac) U ∧ va_D (fun _ => True) (dw_X3s a ac s0) ∧ nv_E (va_A (dw_X3s a ac s0) sz) U)) (va_Qv (fun _ => True) (fun (_ : Unit) t => va_P (dC, dI) vwCl (dw_X3s a ac r) t.heap ∧ va_K (dC, dI) vwCl (dk_X3s ac) t ∧ va_D (va_A (dw_X3s a ac s0) sz) (dw_X3s a ac r)) (va_A (dw_X3s a ac s0) sz)) 0 0 (va_A (dw_X3s a ac s0) sz) := by
  refine Met.ofW (cc := cX3_readRepeat) (maxL := 12) (ret := none) (by decide) rfl ?_
  intro p e s m args below meth c s₁ B hml hv
  obtain ⟨rfl, hsz, hP, hK, hD0, hN⟩ := hv
  have hx := B.exec
  have hb := B.bytes
  have hr := B.returns
  have hts := atoms_spec (ws := ow_dm_X3_readRepeat) B.pre
  have hown : s.vm.findClass RX3 = some m.cls := findClass_of_methodNamed B.named
  have hlocks := B.notSynchronized
  subst hsz
  have hD := hD0.self (sz := s.heap.size)
  generalize hAe : va_A (dw_X3s a ac s0) s.heap.size = A at hD hN ⊢
  have hA : ∀ q : Nat, s.heap.size ≤ q → A q := fun q h => by rw [← hAe]; exact Or.inr h
  have hl := lv_entry ([.ref (a 1), .int v0, .int v1, .long v2]) (n := 12) (Nat.le_of_ble_eq_true rfl)
  rw [lg_entry_eq]
  generalize (lg_sl ([.ref (a 1), .int v0, .int v1, .long v2]) ++ List.replicate (12 - (lg_sl ([.ref (a 1), .int v0, .int v1, .long v2])).length) Slot.unset).toArray = ls at hl ⊢
  have hl : lv_has ls 12 [(0, .ref (a 1)), (1, .int v0), (2, .int v1), (3, .long v2)] := hl
  exact db_X3_readRepeat_0 (dC := dC) (dI := dI) (a := a) (ac := ac) (n := n) (r := r) ⟨hlt, hx, hb, hml, hown, hts, hN, hA, hK⟩ (fun pc τ H locs ls d er hP hD hS => by subst er; exact W.vret hx hb hr (fun t ht hW => ⟨⟨(), rfl, trivial, by rw [ht]; exact hP, va_K.moved hW.alike hK, hD⟩, hS.F ht⟩) hS.2.2 d) v0 v1 v2 s0 _ _ _ h hP hD va_S.rf (lv_sub hl [0, 1, 2, 3] rfl)
