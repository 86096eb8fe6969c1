def ow_dm_X4_workWithRegister : List Cond := Cond.code yX4_workWithRegister cX4_workWithRegister 6 (some .int) :: ([Cond.methodLink RX4 52 yX4_set, Cond.instanceMethod yX4_set, Cond.selects RX4 yX4_set yX4_set, Cond.initialized RX4, Cond.methodLink RX4 113 yX4_reckoned, Cond.static yX4_reckoned] ++ (ow_dm_X4_set ++ (ow_dm_X4_reckoned ++ [])))
theorem gd_dm_X4_workWithRegister : ∀ w ∈ ow_dm_X4_workWithRegister, (w.onTables && w.keeps) = true ∨ ∃ ty, w = Cond.arrayClass ty := List.forall_mem_cons.mpr ⟨good_of_word rfl, List.forall_mem_append.mpr ⟨fun w h => good_of_word (List.all_eq_true.mp (by decide +kernel) w h), List.forall_mem_append.mpr ⟨gd_dm_X4_set, List.forall_mem_append.mpr ⟨gd_dm_X4_reckoned, fun _ h => nomatch h⟩⟩⟩⟩
theorem gi_dm_X4_workWithRegister_0 : GoodIn ow_dm_X4_workWithRegister (wsV RX4 52 RX4 yX4_set ow_dm_X4_set) := goodIn_app (goodIn_of _ (by decide +kernel)) (fun w h => ⟨List.mem_cons_of_mem _ (List.mem_append_right _ (List.mem_append_left _ h)), gd_dm_X4_set w h⟩)
theorem gi_dm_X4_workWithRegister_1 : GoodIn ow_dm_X4_workWithRegister (wsS RX4 113 yX4_reckoned ow_dm_X4_reckoned) := goodIn_app (goodIn_of _ (by decide +kernel)) (fun w h => ⟨List.mem_cons_of_mem _ (List.mem_append_right _ (List.mem_append_right _ (List.mem_append_left _ h))), gd_dm_X4_reckoned w h⟩)
def dj_X4_workWithRegister_76 (p : Program) (l : Launch) (e : Env) (s : State) (m : MethodId) (args : Array Value) (below : List Frame) (meth : Method) (c : Code) (Q : State → Prop) (A : Nat → Prop) (dC : Nat → ClassId) (dI : Nat → Nat → Nat) (a : Nat → Nat) (ac : Nat → ClassId) (g : (St × (St × (St))) → Option (Int32 × (St × (St × (St))))) (r : Int32 × (St × (St × (St)))) : Prop := ∀ (s0 : St × (St × (St))) (H : Heap) (locs : List Loc) (ls : Array Slot), g s0 = some r → va_P (dC, dI) vwCl (dw_X4 a ac s0) H → va_D A (dw_X4 a ac s0) → va_S A s.heap H locs → lv_has ls 6 [] → W p l e (headSpec ow_dm_X4_workWithRegister ({ frames := 3, cells := 0, slots := 0, locals := 64 })).room s m args below meth c H locs 0 0 Q (F0 m 76 ls [])
def dj_X4_workWithRegister_78 (p : Program) (l : Launch) (e : Env) (s : State) (m : MethodId) (args : Array Value) (below : List Frame) (meth : Method) (c : Code) (Q : State → Prop) (A : Nat → Prop) (dC : Nat → ClassId) (dI : Nat → Nat → Nat) (a : Nat → Nat) (ac : Nat → ClassId) (g : (St × (St × (St))) → Option (Int32 × (St × (St × (St))))) (r : Int32 × (St × (St × (St)))) : Prop := ∀ (s0 : St × (St × (St))) (H : Heap) (locs : List Loc) (ls : Array Slot), g s0 = some r → va_P (dC, dI) vwCl (dw_X4 a ac s0) H → va_D A (dw_X4 a ac s0) → va_S A s.heap H locs → lv_has ls 6 [] → W p l e (headSpec ow_dm_X4_workWithRegister ({ frames := 3, cells := 0, slots := 0, locals := 64 })).room s m args below meth c H locs 0 0 Q (F0 m 78 ls [])
def dj_X4_workWithRegister_49 (p : Program) (l : Launch) (e : Env) (s : State) (m : MethodId) (args : Array Value) (below : List Frame) (meth : Method) (c : Code) (Q : State → Prop) (A : Nat → Prop) (dC : Nat → ClassId) (dI : Nat → Nat → Nat) (a : Nat → Nat) (ac : Nat → ClassId) (g : Int32 → Int32 → Int32 → Int32 → Int32 → (St × (St × (St))) → Option (Int32 × (St × (St × (St))))) (r : Int32 × (St × (St × (St)))) : Prop := ∀ (x1 : Int32) (x2 : Int32) (x3 : Int32) (x4 : Int32) (x5 : Int32) (s0 : St × (St × (St))) (H : Heap) (locs : List Loc) (ls : Array Slot), g x1 x2 x3 x4 x5 s0 = some r → va_P (dC, dI) vwCl (dw_X4 a ac s0) H → va_D A (dw_X4 a ac s0) → va_S A s.heap H locs → lv_has ls 6 [(0, .ref (a 0)), (1, .int x1), (2, .int x2), (3, .int x3), (4, .int x4), (5, .int x5)] → W p l e (headSpec ow_dm_X4_workWithRegister ({ frames := 3, cells := 0, slots := 0, locals := 64 })).room s m args below meth c H locs 0 0 Q (F0 m 49 ls [])
def dj_X4_workWithRegister_0 (p : Program) (l : Launch) (e : Env) (s : State) (m : MethodId) (args : Array Value) (below : List Frame) (meth : Method) (c : Code) (Q : State → Prop) (A : Nat → Prop) (dC : Nat → ClassId) (dI : Nat → Nat → Nat) (a : Nat → Nat) (ac : Nat → ClassId) (g : Int32 → Int32 → Int32 → Int32 → (St × (St × (St))) → Option (Int32 × (St × (St × (St))))) (r : Int32 × (St × (St × (St)))) : Prop := ∀ (v0 : Int32) (v1 : Int32) (v2 : Int32) (v3 : Int32) (s0 : St × (St × (St))) (H : Heap) (locs : List Loc) (ls : Array Slot), g v0 v1 v2 v3 s0 = some r → va_P (dC, dI) vwCl (dw_X4 a ac s0) H → va_D A (dw_X4 a ac s0) → va_S A s.heap H locs → lv_has ls 6 [(0, .ref (a 0)), (1, .int v0), (2, .int v1), (3, .int v2), (4, .int v3)] → W p l e (headSpec ow_dm_X4_workWithRegister ({ frames := 3, cells := 0, slots := 0, locals := 64 })).room s m args below meth c H locs 0 0 Q (F0 m 0 ls [])
set_option maxHeartbeats 40000000 in
set_option maxRecDepth 100000 in
theorem db_X4_workWithRegister_76 {p : Program} {l : Launch} {e : Env} {s : State} {m : MethodId} {args : Array Value} {below : List Frame} {meth : Method} {c : Code} {Q : State → Prop} {A : Nat → Prop} {dC : Nat → ClassId} {dI : Nat → Nat → Nat} {a : Nat → Nat} {ac : Nat → ClassId} {n : Nat} {r : Int32 × (St × (St × (St)))} (C : nd_C p l s m args c A (dC, dI) cX4_workWithRegister 6 RX4 ow_dm_X4_workWithRegister (dk_X4 ac)) (K : nd_Ki p l e (headSpec ow_dm_X4_workWithRegister ({ frames := 3, cells := 0, slots := 0, locals := 64 })).room s m args below meth c Q A (dC, dI) cX4_workWithRegister .int (St × (St × (St))) (dw_X4 a ac) r) : dj_X4_workWithRegister_76 p l e s m args below meth c Q A dC dI a ac (df_X4_workWithRegister_76 n) r := by
  obtain ⟨hlt, hx, hb, hml, hown, hts, hN, hA, hK⟩ := id C
  intro s0 H locs ls h hP hD hS hl
  unfold df_X4_workWithRegister_76 at h
  refine lv_iconst (v := 4) hx hb dX4_workWithRegister_76 (by decide) ?_
  exact K _ _ _ _ _ _ dX4_workWithRegister_77 rfl (Option.some.inj h).symm hP hD hS
set_option maxHeartbeats 40000000 in
set_option maxRecDepth 100000 in
theorem db_X4_workWithRegister_78 {p : Program} {l : Launch} {e : Env} {s : State} {m : MethodId} {args : Array Value} {below : List Frame} {meth : Method} {c : Code} {Q : State → Prop} {A : Nat → Prop} {dC : Nat → ClassId} {dI : Nat → Nat → Nat} {a : Nat → Nat} {ac : Nat → ClassId} {n : Nat} {r : Int32 × (St × (St × (St)))} (C : nd_C p l s m args c A (dC, dI) cX4_workWithRegister 6 RX4 ow_dm_X4_workWithRegister (dk_X4 ac)) (K : nd_Ki p l e (headSpec ow_dm_X4_workWithRegister ({ frames := 3, cells := 0, slots := 0, locals := 64 })).room s m args below meth c Q A (dC, dI) cX4_workWithRegister .int (St × (St × (St))) (dw_X4 a ac) r) : dj_X4_workWithRegister_78 p l e s m args below meth c Q A dC dI a ac (df_X4_workWithRegister_78 n) r := by
  obtain ⟨hlt, hx, hb, hml, hown, hts, hN, hA, hK⟩ := id C
  intro s0 H locs ls h hP hD hS hl
  unfold df_X4_workWithRegister_78 at h
  refine lv_iconst (v := 0) hx hb dX4_workWithRegister_78 (by decide) ?_
  exact K _ _ _ _ _ _ dX4_workWithRegister_79 rfl (Option.some.inj h).symm hP hD hS
set_option maxHeartbeats 40000000 in
set_option maxRecDepth 100000 in
theorem db_X4_workWithRegister_49 {p : Program} {l : Launch} {e : Env} {s : State} {m : MethodId} {args : Array Value} {below : List Frame} {meth : Method} {c : Code} {Q : State → Prop} {A : Nat → Prop} {dC : Nat → ClassId} {dI : Nat → Nat → Nat} {a : Nat → Nat} {ac : Nat → ClassId} {n : Nat} {r : Int32 × (St × (St × (St)))} (C : nd_C p l s m args c A (dC, dI) cX4_workWithRegister 6 RX4 ow_dm_X4_workWithRegister (dk_X4 ac)) (K : nd_Ki p l e (headSpec ow_dm_X4_workWithRegister ({ frames := 3, cells := 0, slots := 0, locals := 64 })).room s m args below meth c Q A (dC, dI) cX4_workWithRegister .int (St × (St × (St))) (dw_X4 a ac) r) : dj_X4_workWithRegister_49 p l e s m args below meth c Q A dC dI a ac (df_X4_workWithRegister_49 n) r := by
  obtain ⟨hlt, hx, hb, hml, hown, hts, hN, hA, hK⟩ := id C
  intro x1 x2 x3 x4 x5 s0 H locs ls h hP hD hS hl
  unfold df_X4_workWithRegister_49 at h
  refine lv_iload hx hb dX4_workWithRegister_49 (lv_at hl 5 rfl) ?_
  refine lv_bipush (v := 32) hx hb dX4_workWithRegister_51 (by decide) ?_
  refine lv_icmp_ne (tgt := 76) hx hb dX4_workWithRegister_53 (by decide) (fun c4 => ?_) (fun c4 => ?_)
  · have h := nd_neg h c4
    exact (db_X4_workWithRegister_76 C K)  s0 _ _ _ h hP hD hS (lv_sub hl [] rfl)
  · have h := nd_pos h c4
    refine lv_iload_n hx hb dX4_workWithRegister_56 rfl (lv_at hl 2 rfl) ?_
    refine lv_iconst (v := 5) hx hb dX4_workWithRegister_57 (by decide) ?_
    refine lv_icmp_ne (tgt := 76) hx hb dX4_workWithRegister_58 (by decide) (fun c5 => ?_) (fun c5 => ?_)
    · have h := nd_neg h c5
      exact (db_X4_workWithRegister_76 C K)  s0 _ _ _ h hP hD hS (lv_sub hl [] rfl)
    · have h := nd_pos h c5
      refine lv_aload_n hx hb dX4_workWithRegister_61 rfl (lv_at hl 0 rfl) ?_
      refine lv_iload_n hx hb dX4_workWithRegister_62 rfl (lv_at hl 1 rfl) ?_
      refine lv_iload_n hx hb dX4_workWithRegister_63 rfl (lv_at hl 3 rfl) ?_
      refine lv_iload hx hb dX4_workWithRegister_64 (lv_at hl 4 rfl) ?_
      refine lv_bipush (v := 31) hx hb dX4_workWithRegister_66 (by decide) ?_
      refine lv_iand hx hb dX4_workWithRegister_68 ?_
      refine lv_ishr hx hb dX4_workWithRegister_69 ?_
      obtain ⟨s7, hq, h⟩ := nd_b1_e h
      have hPc := hP
      have hDc := hD
      have hKc := hK
      have hFc := nd_rs hD hS hA
      refine nd_cVv (As := [.int x1, .int ((x3 : Int32) >>> (((x4 &&& 31) : Int32) &&& 31))]) (rest := []) (w' := dw_X4 a ac s7) ⟨hx, hb, hml, hown, hts⟩ (fun sz => dm_X4_set l hlt dC dI a ac n (x1) (((x3 : Int32) >>> (((x4 &&& 31) : Int32) &&& 31))) s0 hq sz) (cwV 2 hts gi_dm_X4_workWithRegister_0 rfl rfl rfl (by decide +kernel) ⟨Nat.le_of_ble_eq_true rfl, Nat.le_of_ble_eq_true rfl⟩) hPc hDc hKc hS hA hN (va_recv hKc hPc (ci := 5) (q0 := 0) rfl rfl) rfl hl.1 rfl (Nat.le_of_ble_eq_true rfl) dX4_workWithRegister_70 (fun H locs hP1 hD1 hk1 hS => ?_)
      have hP := hP1
      have hD := hD1.weaken (fun k q _ h => hFc q.1 h)
      refine lv_goto (tgt := 78) hx hb dX4_workWithRegister_73 (by decide) ?_
      exact (db_X4_workWithRegister_78 C K)  s7 _ _ _ h hP hD hS (lv_sub hl [] rfl)
set_option maxHeartbeats 40000000 in
set_option maxRecDepth 100000 in
theorem db_X4_workWithRegister_0 {p : Program} {l : Launch} {e : Env} {s : State} {m : MethodId} {args : Array Value} {below : List Frame} {meth : Method} {c : Code} {Q : State → Prop} {A : Nat → Prop} {dC : Nat → ClassId} {dI : Nat → Nat → Nat} {a : Nat → Nat} {ac : Nat → ClassId} {n : Nat} {r : Int32 × (St × (St × (St)))} (C : nd_C p l s m args c A (dC, dI) cX4_workWithRegister 6 RX4 ow_dm_X4_workWithRegister (dk_X4 ac)) (K : nd_Ki p l e (headSpec ow_dm_X4_workWithRegister ({ frames := 3, cells := 0, slots := 0, locals := 64 })).room s m args below meth c Q A (dC, dI) cX4_workWithRegister .int (St × (St × (St))) (dw_X4 a ac) r) : dj_X4_workWithRegister_0 p l e s m args below meth c Q A dC dI a ac (df_X4_workWithRegister_0 n) r := by
  obtain ⟨hlt, hx, hb, hml, hown, hts, hN, hA, hK⟩ := id C
  intro v0 v1 v2 v3 s0 H locs ls h hP hD hS hl
  unfold df_X4_workWithRegister_0 at h
  refine lv_iload_n hx hb dX4_workWithRegister_0 rfl (lv_at hl 1 rfl) ?_
  refine lv_bipush (v := 25) hx hb dX4_workWithRegister_1 (by decide) ?_
  refine lv_iushr hx hb dX4_workWithRegister_3 rfl ?_
  refine lv_topi (fun z1 ez1 => ?_)
  have h := nd_at h ez1
  refine lv_istore (lv' := [(5, .int z1), (0, .ref (a 0)), (1, .int v0), (2, .int v1), (3, .int v2), (4, .int v3)]) hx hb dX4_workWithRegister_4 hl (by decide) rfl (fun ls hl => ?_)
  refine lv_iload hx hb dX4_workWithRegister_6 (lv_at hl 0 rfl) ?_
  refine lv_if_ne (tgt := 26) hx hb dX4_workWithRegister_8 (by decide) (fun c2 => ?_) (fun c2 => ?_)
  · have h := nd_neg h c2
    refine lv_iload hx hb dX4_workWithRegister_26 (lv_at hl 0 rfl) ?_
    refine lv_bipush (v := 32) hx hb dX4_workWithRegister_28 (by decide) ?_
    refine lv_icmp_ne (tgt := 49) hx hb dX4_workWithRegister_30 (by decide) (fun c3 => ?_) (fun c3 => ?_)
    · have h := nd_neg h c3
      exact (db_X4_workWithRegister_49 C K) (v0) (v1) (v2) (v3) (z1) s0 _ _ _ h hP hD hS (lv_sub hl [1, 2, 3, 4, 5, 0] rfl)
    · have h := nd_pos h c3
      refine lv_iload_n hx hb dX4_workWithRegister_33 rfl (lv_at hl 3 rfl) ?_
      refine lv_if_ne (tgt := 49) hx hb dX4_workWithRegister_34 (by decide) (fun c9 => ?_) (fun c9 => ?_)
      · have h := nd_neg h c9
        exact (db_X4_workWithRegister_49 C K) (v0) (v1) (v2) (v3) (z1) s0 _ _ _ h hP hD hS (lv_sub hl [1, 2, 3, 4, 5, 0] rfl)
      · have h := nd_pos h c9
        refine lv_aload_n hx hb dX4_workWithRegister_37 rfl (lv_at hl 1 rfl) ?_
        refine lv_iload_n hx hb dX4_workWithRegister_38 rfl (lv_at hl 2 rfl) ?_
        refine lv_iload_n hx hb dX4_workWithRegister_39 rfl (lv_at hl 4 rfl) ?_
        refine lv_iload hx hb dX4_workWithRegister_40 (lv_at hl 5 rfl) ?_
        refine lv_isub hx hb dX4_workWithRegister_42 ?_
        obtain ⟨s11, hq, h⟩ := nd_b1_e h
        have hPc := hP
        have hDc := hD
        have hKc := hK
        have hFc := nd_rs hD hS hA
        refine nd_cVv (As := [.int v0, .int (v2 - v3)]) (rest := []) (w' := dw_X4 a ac s11) ⟨hx, hb, hml, hown, hts⟩ (fun sz => dm_X4_set l hlt dC dI a ac n (v0) ((v2 - v3)) s0 hq sz) (cwV 2 hts gi_dm_X4_workWithRegister_0 rfl rfl rfl (by decide +kernel) ⟨Nat.le_of_ble_eq_true rfl, Nat.le_of_ble_eq_true rfl⟩) hPc hDc hKc hS hA hN (va_recv hKc hPc (ci := 5) (q0 := 0) rfl rfl) rfl hl.1 rfl (Nat.le_of_ble_eq_true rfl) dX4_workWithRegister_43 (fun H locs hP1 hD1 hk1 hS => ?_)
        have hP := hP1
        have hD := hD1.weaken (fun k q _ h => hFc q.1 h)
        refine lv_goto (tgt := 78) hx hb dX4_workWithRegister_46 (by decide) ?_
        exact (db_X4_workWithRegister_78 C K)  s11 _ _ _ h hP hD hS (lv_sub hl [] rfl)
  · have h := nd_pos h c2
    refine lv_aload_n hx hb dX4_workWithRegister_11 rfl (lv_at hl 1 rfl) ?_
    refine lv_iload_n hx hb dX4_workWithRegister_12 rfl (lv_at hl 2 rfl) ?_
    refine lv_iload_n hx hb dX4_workWithRegister_13 rfl (lv_at hl 3 rfl) ?_
    refine lv_iload_n hx hb dX4_workWithRegister_14 rfl (lv_at hl 4 rfl) ?_
    refine lv_iload hx hb dX4_workWithRegister_15 (lv_at hl 5 rfl) ?_
    obtain ⟨q13, s14, hq, h⟩ := nd_b2_e h
    have hPc : va_P (dC, dI) vwCl (dw_P a ac ()) H := nd_p0
    have hDc : va_D A (dw_P a ac ()) := nd_d0
    have hKc : va_K (dC, dI) vwCl (dk_P ac) s := nd_y0 hK
    have hFc : ∀ q, va_A (dw_P a ac ()) H.size q → A q := nd_r0 hS hA
    refine nd_cSi (As := [.int v1, .int v2, .int v3]) (rest := [.int v0, .ref (a 0)]) (q := q13) (w' := dw_P a ac s14) ⟨hx, hb, hml, hown, hts⟩ (fun sz => dm_X4_reckoned l hlt dC dI a ac n (v1) (v2) (v3) () hq sz) (cwS 3 hts gi_dm_X4_workWithRegister_1 rfl rfl rfl (by decide +kernel) ⟨Nat.le_of_ble_eq_true rfl, Nat.le_of_ble_eq_true rfl⟩) hPc hDc hKc hS hA hN rfl hl.1 rfl (Nat.le_of_ble_eq_true rfl) dX4_workWithRegister_17 (fun H locs hP1 hD1 hk1 hS => ?_)
    have hP := nd_n0 hP hk1
    obtain ⟨s17, hq, h⟩ := nd_b1_e h
    have hPc := hP
    have hDc := hD
    have hKc := hK
    have hFc := nd_rs hD hS hA
    refine nd_cVv (As := [.int v0, .int q13]) (rest := []) (w' := dw_X4 a ac s17) ⟨hx, hb, hml, hown, hts⟩ (fun sz => dm_X4_set l hlt dC dI a ac n (v0) (q13) s0 hq sz) (cwV 2 hts gi_dm_X4_workWithRegister_0 rfl rfl rfl (by decide +kernel) ⟨Nat.le_of_ble_eq_true rfl, Nat.le_of_ble_eq_true rfl⟩) hPc hDc hKc hS hA hN (va_recv hKc hPc (ci := 5) (q0 := 0) rfl rfl) rfl hl.1 rfl (Nat.le_of_ble_eq_true rfl) dX4_workWithRegister_20 (fun H locs hP1 hD1 hk1 hS => ?_)
    have hP := hP1
    have hD := hD1.weaken (fun k q _ h => hFc q.1 h)
    refine lv_goto (tgt := 78) hx hb dX4_workWithRegister_23 (by decide) ?_
    exact (db_X4_workWithRegister_78 C K)  s17 _ _ _ h hP hD hS (lv_sub hl [] rfl)
set_option maxHeartbeats 40000000 in
set_option maxRecDepth 100000 in
theorem dm_X4_workWithRegister (l : Launch) (hlt : l.stackTraces = false) (dC : Nat → ClassId) (dI : Nat → Nat → Nat) (a : Nat → Nat) (ac : Nat → ClassId) (n : Nat) (v0 : Int32) (v1 : Int32) (v2 : Int32) (v3 : Int32) (s0 : St × (St × (St))) {r : Int32 × (St × (St × (St)))} (h : df_X4_workWithRegister n v0 v1 v2 v3 s0 = some r) (sz : Nat) : Met l yX4_workWithRegister ow_dm_X4_workWithRegister ({ frames := 3, cells := 0, slots := 0, locals := 64 }) (va_Pc [.ref (a 0), .int v0, .int v1, .int v2, .int v3] (fun U => U.heap.size = sz ∧ va_P (dC, dI) vwCl (dw_X4 a ac s0) U.heap ∧ va_K (dC, dI) vwCl (dk_X4 ac) U ∧ va_D (fun _ => True) (dw_X4 a ac s0) ∧ nv_E dI (va_A (dw_X4 a ac s0) sz) U)) (va_Qi (fun x _ => x = r.1) (fun (_ : Unit) t => va_P (dC, dI) vwCl (dw_X4 a ac r.2) t.heap ∧ va_K (dC, dI) vwCl (dk_X4 ac) t ∧ va_D (va_A (dw_X4 a ac s0) sz) (dw_X4 a ac r.2)) (va_A (dw_X4 a ac s0) sz)) 0 0 (va_A (dw_X4 a ac s0) sz) := by
  refine Met.ofW (cc := cX4_workWithRegister) (maxL := 6) (ret := (some .int)) (by decide) rfl ?_
  intro p e s m args below meth c s₁ B hml hv
  obtain ⟨rfl, hsz, hP, hK, hD0, hN⟩ := hv
  have hx := B.exec
  have hb := B.bytes
  have hr := B.returns
  have hts := atoms_spec (ws := ow_dm_X4_workWithRegister) B.pre
  have hown : s.vm.findClass RX4 = some m.cls := findClass_of_methodNamed B.named
  have hlocks := B.notSynchronized
  subst hsz
  have hD := hD0.self (sz := s.heap.size)
  generalize hAe : va_A (dw_X4 a ac s0) s.heap.size = A at hD hN ⊢
  have hA : ∀ q : Nat, s.heap.size ≤ q → A q := fun q h => by rw [← hAe]; exact Or.inr h
  have hl := lv_entry ([.ref (a 0), .int v0, .int v1, .int v2, .int v3]) (n := 6) (Nat.le_of_ble_eq_true rfl)
  rw [lg_entry_eq]
  generalize (lg_sl ([.ref (a 0), .int v0, .int v1, .int v2, .int v3]) ++ List.replicate (6 - (lg_sl ([.ref (a 0), .int v0, .int v1, .int v2, .int v3])).length) Slot.unset).toArray = ls at hl ⊢
  have hl : lv_has ls 6 [(0, .ref (a 0)), (1, .int v0), (2, .int v1), (3, .int v2), (4, .int v3)] := hl
  exact db_X4_workWithRegister_0 (dC := dC) (dI := dI) (a := a) (ac := ac) (n := n) (r := r) ⟨hlt, hx, hb, hml, hown, hts, hN, hA, hK⟩ (fun pc v τ H locs ls d z er hP hD hS => by subst er; exact W.zret (v := v) hx hb hr z (fun t ht hW => ⟨⟨v, (), rfl, rfl, by rw [ht]; exact hP, va_K.moved hW.alike hK, hD⟩, hS.F ht⟩) hS.2.2 d) v0 v1 v2 v3 s0 _ _ _ h hP hD va_S.rf (lv_sub hl [0, 1, 2, 3, 4] rfl)
def ow_dm_X4_multiply : List Cond := Cond.code yX4_multiply cX4_multiply 10 (some .int) :: ([Cond.constantLong RX4 116 (4294967295), Cond.methodLink RX4 52 yX4_set, Cond.instanceMethod yX4_set, Cond.selects RX4 yX4_set yX4_set, Cond.initialized RX4] ++ (ow_dm_X4_set ++ []))
theorem gd_dm_X4_multiply : ∀ w ∈ ow_dm_X4_multiply, (w.onTables && w.keeps) = true ∨ ∃ ty, w = Cond.arrayClass ty := List.forall_mem_cons.mpr ⟨good_of_word rfl, List.forall_mem_append.mpr ⟨fun w h => good_of_word (List.all_eq_true.mp (by decide +kernel) w h), List.forall_mem_append.mpr ⟨gd_dm_X4_set, fun _ h => nomatch h⟩⟩⟩
theorem gi_dm_X4_multiply_0 : GoodIn ow_dm_X4_multiply (wsV RX4 52 RX4 yX4_set ow_dm_X4_set) := goodIn_app (goodIn_of _ (by decide +kernel)) (fun w h => ⟨List.mem_cons_of_mem _ (List.mem_append_right _ (List.mem_append_left _ h)), gd_dm_X4_set w h⟩)
def dj_X4_multiply_185 (p : Program) (l : Launch) (e : Env) (s : State) (m : MethodId) (args : Array Value) (below : List Frame) (meth : Method) (c : Code) (Q : State → Prop) (A : Nat → Prop) (dC : Nat → ClassId) (dI : Nat → Nat → Nat) (a : Nat → Nat) (ac : Nat → ClassId) (g : Int32 → Int32 → (St × (St × (St))) → Option (Int32 × (St × (St × (St))))) (r : Int32 × (St × (St × (St)))) : Prop := ∀ (x1 : Int32) (x9 : Int32) (s0 : St × (St × (St))) (H : Heap) (locs : List Loc) (ls : Array Slot), g x1 x9 s0 = some r → va_P (dC, dI) vwCl (dw_X4 a ac s0) H → va_D A (dw_X4 a ac s0) → va_S A s.heap H locs → lv_has ls 10 [(0, .ref (a 0)), (1, .int x1), (9, .int x9)] → W p l e (headSpec ow_dm_X4_multiply ({ frames := 1, cells := 0, slots := 0, locals := 23 })).room s m args below meth c H locs 0 0 Q (F0 m 185 ls [])
def dj_X4_multiply_125 (p : Program) (l : Launch) (e : Env) (s : State) (m : MethodId) (args : Array Value) (below : List Frame) (meth : Method) (c : Code) (Q : State → Prop) (A : Nat → Prop) (dC : Nat → ClassId) (dI : Nat → Nat → Nat) (a : Nat → Nat) (ac : Nat → ClassId) (g : Int32 → Int32 → (St × (St × (St))) → Option (Int32 × (St × (St × (St))))) (r : Int32 × (St × (St × (St)))) : Prop := ∀ (x1 : Int32) (y0 : Int32) (s0 : St × (St × (St))) (H : Heap) (locs : List Loc) (ls : Array Slot), g x1 y0 s0 = some r → va_P (dC, dI) vwCl (dw_X4 a ac s0) H → va_D A (dw_X4 a ac s0) → va_S A s.heap H locs → lv_has ls 10 [(0, .ref (a 0)), (1, .int x1)] → W p l e (headSpec ow_dm_X4_multiply ({ frames := 1, cells := 0, slots := 0, locals := 23 })).room s m args below meth c H locs 0 0 Q (F0 m 125 ls [.int y0])
def dj_X4_multiply_145 (p : Program) (l : Launch) (e : Env) (s : State) (m : MethodId) (args : Array Value) (below : List Frame) (meth : Method) (c : Code) (Q : State → Prop) (A : Nat → Prop) (dC : Nat → ClassId) (dI : Nat → Nat → Nat) (a : Nat → Nat) (ac : Nat → ClassId) (g : Int32 → Int32 → (St × (St × (St))) → Option (Int32 × (St × (St × (St))))) (r : Int32 × (St × (St × (St)))) : Prop := ∀ (x1 : Int32) (y0 : Int32) (s0 : St × (St × (St))) (H : Heap) (locs : List Loc) (ls : Array Slot), g x1 y0 s0 = some r → va_P (dC, dI) vwCl (dw_X4 a ac s0) H → va_D A (dw_X4 a ac s0) → va_S A s.heap H locs → lv_has ls 10 [(0, .ref (a 0)), (1, .int x1)] → W p l e (headSpec ow_dm_X4_multiply ({ frames := 1, cells := 0, slots := 0, locals := 23 })).room s m args below meth c H locs 0 0 Q (F0 m 145 ls [.int y0])
def dj_X4_multiply_163 (p : Program) (l : Launch) (e : Env) (s : State) (m : MethodId) (args : Array Value) (below : List Frame) (meth : Method) (c : Code) (Q : State → Prop) (A : Nat → Prop) (dC : Nat → ClassId) (dI : Nat → Nat → Nat) (a : Nat → Nat) (ac : Nat → ClassId) (g : Int32 → Int32 → (St × (St × (St))) → Option (Int32 × (St × (St × (St))))) (r : Int32 × (St × (St × (St)))) : Prop := ∀ (x1 : Int32) (y0 : Int32) (s0 : St × (St × (St))) (H : Heap) (locs : List Loc) (ls : Array Slot), g x1 y0 s0 = some r → va_P (dC, dI) vwCl (dw_X4 a ac s0) H → va_D A (dw_X4 a ac s0) → va_S A s.heap H locs → lv_has ls 10 [(0, .ref (a 0)), (1, .int x1)] → W p l e (headSpec ow_dm_X4_multiply ({ frames := 1, cells := 0, slots := 0, locals := 23 })).room s m args below meth c H locs 0 0 Q (F0 m 163 ls [.int y0])
def dj_X4_multiply_183 (p : Program) (l : Launch) (e : Env) (s : State) (m : MethodId) (args : Array Value) (below : List Frame) (meth : Method) (c : Code) (Q : State → Prop) (A : Nat → Prop) (dC : Nat → ClassId) (dI : Nat → Nat → Nat) (a : Nat → Nat) (ac : Nat → ClassId) (g : Int32 → Int32 → (St × (St × (St))) → Option (Int32 × (St × (St × (St))))) (r : Int32 × (St × (St × (St)))) : Prop := ∀ (x1 : Int32) (y0 : Int32) (s0 : St × (St × (St))) (H : Heap) (locs : List Loc) (ls : Array Slot), g x1 y0 s0 = some r → va_P (dC, dI) vwCl (dw_X4 a ac s0) H → va_D A (dw_X4 a ac s0) → va_S A s.heap H locs → lv_has ls 10 [(0, .ref (a 0)), (1, .int x1)] → W p l e (headSpec ow_dm_X4_multiply ({ frames := 1, cells := 0, slots := 0, locals := 23 })).room s m args below meth c H locs 0 0 Q (F0 m 183 ls [.int y0])
def dj_X4_multiply_0 (p : Program) (l : Launch) (e : Env) (s : State) (m : MethodId) (args : Array Value) (below : List Frame) (meth : Method) (c : Code) (Q : State → Prop) (A : Nat → Prop) (dC : Nat → ClassId) (dI : Nat → Nat → Nat) (a : Nat → Nat) (ac : Nat → ClassId) (g : Int32 → Int32 → Int32 → Int32 → (St × (St × (St))) → Option (Int32 × (St × (St × (St))))) (r : Int32 × (St × (St × (St)))) : Prop := ∀ (v0 : Int32) (v1 : Int32) (v2 : Int32) (v3 : Int32) (s0 : St × (St × (St))) (H : Heap) (locs : List Loc) (ls : Array Slot), g v0 v1 v2 v3 s0 = some r → va_P (dC, dI) vwCl (dw_X4 a ac s0) H → va_D A (dw_X4 a ac s0) → va_S A s.heap H locs → lv_has ls 10 [(0, .ref (a 0)), (1, .int v0), (2, .int v1), (3, .int v2), (4, .int v3)] → W p l e (headSpec ow_dm_X4_multiply ({ frames := 1, cells := 0, slots := 0, locals := 23 })).room s m args below meth c H locs 0 0 Q (F0 m 0 ls [])
set_option maxHeartbeats 40000000 in
set_option maxRecDepth 100000 in
theorem db_X4_multiply_185 {p : Program} {l : Launch} {e : Env} {s : State} {m : MethodId} {args : Array Value} {below : List Frame} {meth : Method} {c : Code} {Q : State → Prop} {A : Nat → Prop} {dC : Nat → ClassId} {dI : Nat → Nat → Nat} {a : Nat → Nat} {ac : Nat → ClassId} {n : Nat} {r : Int32 × (St × (St × (St)))} (C : nd_C p l s m args c A (dC, dI) cX4_multiply 10 RX4 ow_dm_X4_multiply (dk_X4 ac)) (K : nd_Ki p l e (headSpec ow_dm_X4_multiply ({ frames := 1, cells := 0, slots := 0, locals := 23 })).room s m args below meth c Q A (dC, dI) cX4_multiply .int (St × (St × (St))) (dw_X4 a ac) r) : dj_X4_multiply_185 p l e s m args below meth c Q A dC dI a ac (df_X4_multiply_185 n) r := by
  obtain ⟨hlt, hx, hb, hml, hown, hts, hN, hA, hK⟩ := id C
  intro x1 x9 s0 H locs ls h hP hD hS hl
  unfold df_X4_multiply_185 at h
  refine lv_aload_n hx hb dX4_multiply_185 rfl (lv_at hl 0 rfl) ?_
  refine lv_iload_n hx hb dX4_multiply_186 rfl (lv_at hl 1 rfl) ?_
  refine lv_iload hx hb dX4_multiply_187 (lv_at hl 2 rfl) ?_
  obtain ⟨s6, hq, h⟩ := nd_b1_e h
  have hPc := hP
  have hDc := hD
  have hKc := hK
  have hFc := nd_rs hD hS hA
  refine nd_cVv (As := [.int x1, .int x9]) (rest := []) (w' := dw_X4 a ac s6) ⟨hx, hb, hml, hown, hts⟩ (fun sz => dm_X4_set l hlt dC dI a ac n (x1) (x9) s0 hq sz) (cwV 2 hts gi_dm_X4_multiply_0 rfl rfl rfl (by decide +kernel) ⟨Nat.le_of_ble_eq_true rfl, Nat.le_of_ble_eq_true rfl⟩) hPc hDc hKc hS hA hN (va_recv hKc hPc (ci := 5) (q0 := 0) rfl rfl) rfl hl.1 rfl (Nat.le_of_ble_eq_true rfl) dX4_multiply_189 (fun H locs hP1 hD1 hk1 hS => ?_)
  have hP := hP1
  have hD := hD1.weaken (fun k q _ h => hFc q.1 h)
  refine lv_iconst (v := 0) hx hb dX4_multiply_192 (by decide) ?_
  exact K _ _ _ _ _ _ dX4_multiply_193 rfl (Option.some.inj h).symm hP hD hS
set_option maxHeartbeats 40000000 in
set_option maxRecDepth 100000 in
theorem db_X4_multiply_125 {p : Program} {l : Launch} {e : Env} {s : State} {m : MethodId} {args : Array Value} {below : List Frame} {meth : Method} {c : Code} {Q : State → Prop} {A : Nat → Prop} {dC : Nat → ClassId} {dI : Nat → Nat → Nat} {a : Nat → Nat} {ac : Nat → ClassId} {n : Nat} {r : Int32 × (St × (St × (St)))} (C : nd_C p l s m args c A (dC, dI) cX4_multiply 10 RX4 ow_dm_X4_multiply (dk_X4 ac)) (K : nd_Ki p l e (headSpec ow_dm_X4_multiply ({ frames := 1, cells := 0, slots := 0, locals := 23 })).room s m args below meth c Q A (dC, dI) cX4_multiply .int (St × (St × (St))) (dw_X4 a ac) r) : dj_X4_multiply_125 p l e s m args below meth c Q A dC dI a ac (df_X4_multiply_125 n) r := by
  obtain ⟨hlt, hx, hb, hml, hown, hts, hN, hA, hK⟩ := id C
  intro x1 y0 s0 H locs ls h hP hD hS hl
  unfold df_X4_multiply_125 at h
  refine lv_istore (lv' := [(9, .int y0), (0, .ref (a 0)), (1, .int x1)]) hx hb dX4_multiply_125 hl (by decide) rfl (fun ls hl => ?_)
  refine lv_goto (tgt := 185) hx hb dX4_multiply_127 (by decide) ?_
  exact (db_X4_multiply_185 C K) (x1) (y0) s0 _ _ _ h hP hD hS (lv_sub hl [1, 2, 0] rfl)
set_option maxHeartbeats 40000000 in
set_option maxRecDepth 100000 in
theorem db_X4_multiply_145 {p : Program} {l : Launch} {e : Env} {s : State} {m : MethodId} {args : Array Value} {below : List Frame} {meth : Method} {c : Code} {Q : State → Prop} {A : Nat → Prop} {dC : Nat → ClassId} {dI : Nat → Nat → Nat} {a : Nat → Nat} {ac : Nat → ClassId} {n : Nat} {r : Int32 × (St × (St × (St)))} (C : nd_C p l s m args c A (dC, dI) cX4_multiply 10 RX4 ow_dm_X4_multiply (dk_X4 ac)) (K : nd_Ki p l e (headSpec ow_dm_X4_multiply ({ frames := 1, cells := 0, slots := 0, locals := 23 })).room s m args below meth c Q A (dC, dI) cX4_multiply .int (St × (St × (St))) (dw_X4 a ac) r) : dj_X4_multiply_145 p l e s m args below meth c Q A dC dI a ac (df_X4_multiply_145 n) r := by
  obtain ⟨hlt, hx, hb, hml, hown, hts, hN, hA, hK⟩ := id C
  intro x1 y0 s0 H locs ls h hP hD hS hl
  unfold df_X4_multiply_145 at h
  refine lv_istore (lv' := [(9, .int y0), (0, .ref (a 0)), (1, .int x1)]) hx hb dX4_multiply_145 hl (by decide) rfl (fun ls hl => ?_)
  refine lv_goto (tgt := 185) hx hb dX4_multiply_147 (by decide) ?_
  exact (db_X4_multiply_185 C K) (x1) (y0) s0 _ _ _ h hP hD hS (lv_sub hl [1, 2, 0] rfl)
set_option maxHeartbeats 40000000 in
set_option maxRecDepth 100000 in
theorem db_X4_multiply_163 {p : Program} {l : Launch} {e : Env} {s : State} {m : MethodId} {args : Array Value} {below : List Frame} {meth : Method} {c : Code} {Q : State → Prop} {A : Nat → Prop} {dC : Nat → ClassId} {dI : Nat → Nat → Nat} {a : Nat → Nat} {ac : Nat → ClassId} {n : Nat} {r : Int32 × (St × (St × (St)))} (C : nd_C p l s m args c A (dC, dI) cX4_multiply 10 RX4 ow_dm_X4_multiply (dk_X4 ac)) (K : nd_Ki p l e (headSpec ow_dm_X4_multiply ({ frames := 1, cells := 0, slots := 0, locals := 23 })).room s m args below meth c Q A (dC, dI) cX4_multiply .int (St × (St × (St))) (dw_X4 a ac) r) : dj_X4_multiply_163 p l e s m args below meth c Q A dC dI a ac (df_X4_multiply_163 n) r := by
  obtain ⟨hlt, hx, hb, hml, hown, hts, hN, hA, hK⟩ := id C
  intro x1 y0 s0 H locs ls h hP hD hS hl
  unfold df_X4_multiply_163 at h
  refine lv_istore (lv' := [(9, .int y0), (0, .ref (a 0)), (1, .int x1)]) hx hb dX4_multiply_163 hl (by decide) rfl (fun ls hl => ?_)
  refine lv_goto (tgt := 185) hx hb dX4_multiply_165 (by decide) ?_
  exact (db_X4_multiply_185 C K) (x1) (y0) s0 _ _ _ h hP hD hS (lv_sub hl [1, 2, 0] rfl)
set_option maxHeartbeats 40000000 in
set_option maxRecDepth 100000 in
theorem db_X4_multiply_183 {p : Program} {l : Launch} {e : Env} {s : State} {m : MethodId} {args : Array Value} {below : List Frame} {meth : Method} {c : Code} {Q : State → Prop} {A : Nat → Prop} {dC : Nat → ClassId} {dI : Nat → Nat → Nat} {a : Nat → Nat} {ac : Nat → ClassId} {n : Nat} {r : Int32 × (St × (St × (St)))} (C : nd_C p l s m args c A (dC, dI) cX4_multiply 10 RX4 ow_dm_X4_multiply (dk_X4 ac)) (K : nd_Ki p l e (headSpec ow_dm_X4_multiply ({ frames := 1, cells := 0, slots := 0, locals := 23 })).room s m args below meth c Q A (dC, dI) cX4_multiply .int (St × (St × (St))) (dw_X4 a ac) r) : dj_X4_multiply_183 p l e s m args below meth c Q A dC dI a ac (df_X4_multiply_183 n) r := by
  obtain ⟨hlt, hx, hb, hml, hown, hts, hN, hA, hK⟩ := id C
  intro x1 y0 s0 H locs ls h hP hD hS hl
  unfold df_X4_multiply_183 at h
  refine lv_istore (lv' := [(9, .int y0), (0, .ref (a 0)), (1, .int x1)]) hx hb dX4_multiply_183 hl (by decide) rfl (fun ls hl => ?_)
  exact (db_X4_multiply_185 C K) (x1) (y0) s0 _ _ _ h hP hD hS (lv_sub hl [1, 2, 0] rfl)
set_option maxHeartbeats 40000000 in
set_option maxRecDepth 100000 in
theorem db_X4_multiply_0 {p : Program} {l : Launch} {e : Env} {s : State} {m : MethodId} {args : Array Value} {below : List Frame} {meth : Method} {c : Code} {Q : State → Prop} {A : Nat → Prop} {dC : Nat → ClassId} {dI : Nat → Nat → Nat} {a : Nat → Nat} {ac : Nat → ClassId} {n : Nat} {r : Int32 × (St × (St × (St)))} (C : nd_C p l s m args c A (dC, dI) cX4_multiply 10 RX4 ow_dm_X4_multiply (dk_X4 ac)) (K : nd_Ki p l e (headSpec ow_dm_X4_multiply ({ frames := 1, cells := 0, slots := 0, locals := 23 })).room s m args below meth c Q A (dC, dI) cX4_multiply .int (St × (St × (St))) (dw_X4 a ac) r) : dj_X4_multiply_0 p l e s m args below meth c Q A dC dI a ac (df_X4_multiply_0 n) r := by
  obtain ⟨hlt, hx, hb, hml, hown, hts, hN, hA, hK⟩ := id C
  intro v0 v1 v2 v3 s0 H locs ls h hP hD hS hl
  unfold df_X4_multiply_0 at h
  refine lv_iload_n hx hb dX4_multiply_0 rfl (lv_at hl 3 rfl) ?_
  refine lv_i2l hx hb dX4_multiply_1 rfl ?_
  refine lv_ldc2 hx hb hown (hts (.constantLong RX4 116 (4294967295)) (List.mem_of_getElem? (i := 1) rfl)) dX4_multiply_2 ?_
  refine lv_land hx hb dX4_multiply_5 ?_
  refine lv_topl (fun z1 ez1 => ?_)
  have h := nd_at h ez1
  refine lv_lstore (lv' := [(5, .long z1), (0, .ref (a 0)), (1, .int v0), (2, .int v1), (3, .int v2), (4, .int v3)]) hx hb dX4_multiply_6 hl (by decide) rfl (fun ls hl => ?_)
  refine lv_iload hx hb dX4_multiply_8 (lv_at hl 5 rfl) ?_
  refine lv_i2l hx hb dX4_multiply_10 rfl ?_
  refine lv_ldc2 hx hb hown (hts (.constantLong RX4 116 (4294967295)) (List.mem_of_getElem? (i := 1) rfl)) dX4_multiply_11 ?_
  refine lv_land hx hb dX4_multiply_14 ?_
  refine lv_topl (fun z2 ez2 => ?_)
  have h := nd_at h ez2
  refine lv_lstore (lv' := [(7, .long z2), (5, .long z1), (0, .ref (a 0)), (1, .int v0), (2, .int v1), (3, .int v2), (4, .int v3)]) hx hb dX4_multiply_15 hl (by decide) rfl (fun ls hl => ?_)
  refine lv_iload_n hx hb dX4_multiply_17 rfl (lv_at hl 4 rfl) ?_
  by_cases c3 : v1 = 0
  · have h := nd_pos h c3
    refine lv_tableIn (off := 42) (tgt := 60) hx hb dX4_multiply_18 (by rw [c3]; decide) (by rw [c3]; decide) (by rw [c3]; decide) (by decide) ?_
    refine lv_iload_n hx hb dX4_multiply_60 rfl (lv_at hl 5 rfl) ?_
    refine lv_iload hx hb dX4_multiply_61 (lv_at hl 6 rfl) ?_
    refine lv_imul hx hb dX4_multiply_63 ?_
    refine lv_topi (fun z4 ez4 => ?_)
    have h := nd_at h ez4
    refine lv_istore (lv' := [(9, .int z4), (7, .long z2), (5, .long z1), (0, .ref (a 0)), (1, .int v0), (2, .int v1), (3, .int v2), (4, .int v3)]) hx hb dX4_multiply_64 hl (by decide) rfl (fun ls hl => ?_)
    refine lv_goto (tgt := 185) hx hb dX4_multiply_66 (by decide) ?_
    exact (db_X4_multiply_185 C K) (v0) (z4) s0 _ _ _ h hP hD hS (lv_sub hl [3, 4, 0] rfl)
  have h := nd_neg h c3
  by_cases c8 : v1 = 1
  · have h := nd_pos h c8
    refine lv_tableIn (off := 51) (tgt := 69) hx hb dX4_multiply_18 (by rw [c8]; decide) (by rw [c8]; decide) (by rw [c8]; decide) (by decide) ?_
    refine lv_iload_n hx hb dX4_multiply_69 rfl (lv_at hl 5 rfl) ?_
    refine lv_i2l hx hb dX4_multiply_70 rfl ?_
    refine lv_iload hx hb dX4_multiply_71 (lv_at hl 6 rfl) ?_
    refine lv_i2l hx hb dX4_multiply_73 rfl ?_
    refine lv_lmul hx hb dX4_multiply_74 ?_
    refine lv_bipush (v := 32) hx hb dX4_multiply_75 (by decide) ?_
    refine lv_lshr hx hb dX4_multiply_77 rfl ?_
    refine lv_l2i hx hb dX4_multiply_78 rfl ?_
    refine lv_topi (fun z9 ez9 => ?_)
    have h := nd_at h ez9
    refine lv_istore (lv' := [(9, .int z9), (7, .long z2), (5, .long z1), (0, .ref (a 0)), (1, .int v0), (2, .int v1), (3, .int v2), (4, .int v3)]) hx hb dX4_multiply_79 hl (by decide) rfl (fun ls hl => ?_)
    refine lv_goto (tgt := 185) hx hb dX4_multiply_81 (by decide) ?_
    exact (db_X4_multiply_185 C K) (v0) (z9) s0 _ _ _ h hP hD hS (lv_sub hl [3, 4, 0] rfl)
  have h := nd_neg h c8
  by_cases c10 : v1 = 2
  · have h := nd_pos h c10
    refine lv_tableIn (off := 66) (tgt := 84) hx hb dX4_multiply_18 (by rw [c10]; decide) (by rw [c10]; decide) (by rw [c10]; decide) (by decide) ?_
    refine lv_iload_n hx hb dX4_multiply_84 rfl (lv_at hl 5 rfl) ?_
    refine lv_i2l hx hb dX4_multiply_85 rfl ?_
    refine lv_lload hx hb dX4_multiply_86 (lv_at hl 0 rfl) ?_
    refine lv_lmul hx hb dX4_multiply_88 ?_
    refine lv_bipush (v := 32) hx hb dX4_multiply_89 (by decide) ?_
    refine lv_lshr hx hb dX4_multiply_91 rfl ?_
    refine lv_l2i hx hb dX4_multiply_92 rfl ?_
    refine lv_topi (fun z11 ez11 => ?_)
    have h := nd_at h ez11
    refine lv_istore (lv' := [(9, .int z11), (7, .long z2), (5, .long z1), (0, .ref (a 0)), (1, .int v0), (2, .int v1), (3, .int v2), (4, .int v3)]) hx hb dX4_multiply_93 hl (by decide) rfl (fun ls hl => ?_)
    refine lv_goto (tgt := 185) hx hb dX4_multiply_95 (by decide) ?_
    exact (db_X4_multiply_185 C K) (v0) (z11) s0 _ _ _ h hP hD hS (lv_sub hl [3, 4, 0] rfl)
  have h := nd_neg h c10
  by_cases c12 : v1 = 3
  · have h := nd_pos h c12
    refine lv_tableIn (off := 80) (tgt := 98) hx hb dX4_multiply_18 (by rw [c12]; decide) (by rw [c12]; decide) (by rw [c12]; decide) (by decide) ?_
    refine lv_lload hx hb dX4_multiply_98 (lv_at hl 1 rfl) ?_
    refine lv_lload hx hb dX4_multiply_100 (lv_at hl 0 rfl) ?_
    refine lv_lmul hx hb dX4_multiply_102 ?_
    refine lv_bipush (v := 32) hx hb dX4_multiply_103 (by decide) ?_
    refine lv_lushr hx hb dX4_multiply_105 rfl ?_
    refine lv_l2i hx hb dX4_multiply_106 rfl ?_
    refine lv_topi (fun z13 ez13 => ?_)
    have h := nd_at h ez13
    refine lv_istore (lv' := [(9, .int z13), (7, .long z2), (5, .long z1), (0, .ref (a 0)), (1, .int v0), (2, .int v1), (3, .int v2), (4, .int v3)]) hx hb dX4_multiply_107 hl (by decide) rfl (fun ls hl => ?_)
    refine lv_goto (tgt := 185) hx hb dX4_multiply_109 (by decide) ?_
    exact (db_X4_multiply_185 C K) (v0) (z13) s0 _ _ _ h hP hD hS (lv_sub hl [3, 4, 0] rfl)
  have h := nd_neg h c12
  by_cases c14 : v1 = 4
  · have h := nd_pos h c14
    refine lv_tableIn (off := 94) (tgt := 112) hx hb dX4_multiply_18 (by rw [c14]; decide) (by rw [c14]; decide) (by rw [c14]; decide) (by decide) ?_
    refine lv_iload hx hb dX4_multiply_112 (lv_at hl 6 rfl) ?_
    refine lv_if_ne (tgt := 121) hx hb dX4_multiply_114 (by decide) (fun c15 => ?_) (fun c15 => ?_)
    · have h := nd_neg h c15
      refine lv_iload_n hx hb dX4_multiply_121 rfl (lv_at hl 5 rfl) ?_
      refine lv_iload hx hb dX4_multiply_122 (lv_at hl 6 rfl) ?_
      obtain ⟨i16, h⟩ := nd_nz_e h
      refine lv_idiv hx hb dX4_multiply_124 i16 ?_
      exact (db_X4_multiply_125 C K) (v0) (((v2 : Int32) / v3)) s0 _ _ _ h hP hD hS (lv_sub hl [2, 3] rfl)
    · have h := nd_pos h c15
      refine lv_iconst (v := (-1)) hx hb dX4_multiply_117 (by decide) ?_
      refine lv_goto (tgt := 125) hx hb dX4_multiply_118 (by decide) ?_
      exact (db_X4_multiply_125 C K) (v0) ((-1)) s0 _ _ _ h hP hD hS (lv_sub hl [2, 3] rfl)
  have h := nd_neg h c14
  by_cases c17 : v1 = 5
  · have h := nd_pos h c17
    refine lv_tableIn (off := 112) (tgt := 130) hx hb dX4_multiply_18 (by rw [c17]; decide) (by rw [c17]; decide) (by rw [c17]; decide) (by decide) ?_
    refine lv_iload hx hb dX4_multiply_130 (lv_at hl 6 rfl) ?_
    refine lv_if_ne (tgt := 139) hx hb dX4_multiply_132 (by decide) (fun c18 => ?_) (fun c18 => ?_)
    · have h := nd_neg h c18
      refine lv_lload hx hb dX4_multiply_139 (lv_at hl 1 rfl) ?_
      refine lv_lload hx hb dX4_multiply_141 (lv_at hl 0 rfl) ?_
      obtain ⟨i19, h⟩ := nd_nz_e h
      refine lv_ldiv hx hb dX4_multiply_143 i19 ?_
      refine lv_l2i hx hb dX4_multiply_144 rfl ?_
      exact (db_X4_multiply_145 C K) (v0) ((((z1 : Int64) / z2).toInt32)) s0 _ _ _ h hP hD hS (lv_sub hl [2, 3] rfl)
    · have h := nd_pos h c18
      refine lv_iconst (v := (-1)) hx hb dX4_multiply_135 (by decide) ?_
      refine lv_goto (tgt := 145) hx hb dX4_multiply_136 (by decide) ?_
      exact (db_X4_multiply_145 C K) (v0) ((-1)) s0 _ _ _ h hP hD hS (lv_sub hl [2, 3] rfl)
  have h := nd_neg h c17
  by_cases c20 : v1 = 6
  · have h := nd_pos h c20
    refine lv_tableIn (off := 132) (tgt := 150) hx hb dX4_multiply_18 (by rw [c20]; decide) (by rw [c20]; decide) (by rw [c20]; decide) (by decide) ?_
    refine lv_iload hx hb dX4_multiply_150 (lv_at hl 6 rfl) ?_
    refine lv_if_ne (tgt := 159) hx hb dX4_multiply_152 (by decide) (fun c21 => ?_) (fun c21 => ?_)
    · have h := nd_neg h c21
      refine lv_iload_n hx hb dX4_multiply_159 rfl (lv_at hl 5 rfl) ?_
      refine lv_iload hx hb dX4_multiply_160 (lv_at hl 6 rfl) ?_
      obtain ⟨i22, h⟩ := nd_nz_e h
      refine lv_irem hx hb dX4_multiply_162 i22 ?_
      exact (db_X4_multiply_163 C K) (v0) (((v2 : Int32) - v2 / v3 * v3)) s0 _ _ _ h hP hD hS (lv_sub hl [2, 3] rfl)
    · have h := nd_pos h c21
      refine lv_iload_n hx hb dX4_multiply_155 rfl (lv_at hl 5 rfl) ?_
      refine lv_goto (tgt := 163) hx hb dX4_multiply_156 (by decide) ?_
      exact (db_X4_multiply_163 C K) (v0) (v2) s0 _ _ _ h hP hD hS (lv_sub hl [2, 3] rfl)
  have h := nd_neg h c20
  refine lv_tableOut (tgt := 168) hx hb dX4_multiply_18 (by have g0 := nv_nei c3 (k := 0) (by decide); have g1 := nv_nei c8 (k := 1) (by decide); have g2 := nv_nei c10 (k := 2) (by decide); have g3 := nv_nei c12 (k := 3) (by decide); have g4 := nv_nei c14 (k := 4) (by decide); have g5 := nv_nei c17 (k := 5) (by decide); have g6 := nv_nei c20 (k := 6) (by decide); omega) (by decide) ?_
  refine lv_iload hx hb dX4_multiply_168 (lv_at hl 6 rfl) ?_
  refine lv_if_ne (tgt := 177) hx hb dX4_multiply_170 (by decide) (fun c23 => ?_) (fun c23 => ?_)
  · have h := nd_neg h c23
    refine lv_lload hx hb dX4_multiply_177 (lv_at hl 1 rfl) ?_
    refine lv_lload hx hb dX4_multiply_179 (lv_at hl 0 rfl) ?_
    obtain ⟨i24, h⟩ := nd_nz_e h
    refine lv_lrem hx hb dX4_multiply_181 i24 ?_
    refine lv_l2i hx hb dX4_multiply_182 rfl ?_
    exact (db_X4_multiply_183 C K) (v0) ((((z1 : Int64) - z1 / z2 * z2).toInt32)) s0 _ _ _ h hP hD hS (lv_sub hl [2, 3] rfl)
  · have h := nd_pos h c23
    refine lv_iload_n hx hb dX4_multiply_173 rfl (lv_at hl 5 rfl) ?_
    refine lv_goto (tgt := 183) hx hb dX4_multiply_174 (by decide) ?_
    exact (db_X4_multiply_183 C K) (v0) (v2) s0 _ _ _ h hP hD hS (lv_sub hl [2, 3] rfl)
set_option maxHeartbeats 40000000 in
set_option maxRecDepth 100000 in
theorem dm_X4_multiply (l : Launch) (hlt : l.stackTraces = false) (dC : Nat → ClassId) (dI : Nat → Nat → Nat) (a : Nat → Nat) (ac : Nat → ClassId) (n : Nat) (v0 : Int32) (v1 : Int32) (v2 : Int32) (v3 : Int32) (s0 : St × (St × (St))) {r : Int32 × (St × (St × (St)))} (h : df_X4_multiply n v0 v1 v2 v3 s0 = some r) (sz : Nat) : Met l yX4_multiply ow_dm_X4_multiply ({ frames := 1, cells := 0, slots := 0, locals := 23 }) (va_Pc [.ref (a 0), .int v0, .int v1, .int v2, .int v3] (fun U => U.heap.size = sz ∧ va_P (dC, dI) vwCl (dw_X4 a ac s0) U.heap ∧ va_K (dC, dI) vwCl (dk_X4 ac) U ∧ va_D (fun _ => True) (dw_X4 a ac s0) ∧ nv_E dI (va_A (dw_X4 a ac s0) sz) U)) (va_Qi (fun x _ => x = r.1) (fun (_ : Unit) t => va_P (dC, dI) vwCl (dw_X4 a ac r.2) t.heap ∧ va_K (dC, dI) vwCl (dk_X4 ac) t ∧ va_D (va_A (dw_X4 a ac s0) sz) (dw_X4 a ac r.2)) (va_A (dw_X4 a ac s0) sz)) 0 0 (va_A (dw_X4 a ac s0) sz) := by
  refine Met.ofW (cc := cX4_multiply) (maxL := 10) (ret := (some .int)) (by decide) rfl ?_
  intro p e s m args below meth c s₁ B hml hv
  obtain ⟨rfl, hsz, hP, hK, hD0, hN⟩ := hv
  have hx := B.exec
  have hb := B.bytes
  have hr := B.returns
  have hts := atoms_spec (ws := ow_dm_X4_multiply) B.pre
  have hown : s.vm.findClass RX4 = some m.cls := findClass_of_methodNamed B.named
  have hlocks := B.notSynchronized
  subst hsz
  have hD := hD0.self (sz := s.heap.size)
  generalize hAe : va_A (dw_X4 a ac s0) s.heap.size = A at hD hN ⊢
  have hA : ∀ q : Nat, s.heap.size ≤ q → A q := fun q h => by rw [← hAe]; exact Or.inr h
  have hl := lv_entry ([.ref (a 0), .int v0, .int v1, .int v2, .int v3]) (n := 10) (Nat.le_of_ble_eq_true rfl)
  rw [lg_entry_eq]
  generalize (lg_sl ([.ref (a 0), .int v0, .int v1, .int v2, .int v3]) ++ List.replicate (10 - (lg_sl ([.ref (a 0), .int v0, .int v1, .int v2, .int v3])).length) Slot.unset).toArray = ls at hl ⊢
  have hl : lv_has ls 10 [(0, .ref (a 0)), (1, .int v0), (2, .int v1), (3, .int v2), (4, .int v3)] := hl
  exact db_X4_multiply_0 (dC := dC) (dI := dI) (a := a) (ac := ac) (n := n) (r := r) ⟨hlt, hx, hb, hml, hown, hts, hN, hA, hK⟩ (fun pc v τ H locs ls d z er hP hD hS => by subst er; exact W.zret (v := v) hx hb hr z (fun t ht hW => ⟨⟨v, (), rfl, rfl, by rw [ht]; exact hP, va_K.moved hW.alike hK, hD⟩, hS.F ht⟩) hS.2.2 d) v0 v1 v2 v3 s0 _ _ _ h hP hD va_S.rf (lv_sub hl [0, 1, 2, 3, 4] rfl)
def ow_dm_X4_branch : List Cond := Cond.code yX4_branch cX4_branch 6 (some .int) :: ([Cond.fieldLink RX4 27 "TimeMachine$Hart" "place" "I", Cond.fieldLink RX4 38 "TimeMachine$Hart" "next" "I", Cond.methodLink RX4 89 yJ6_compareUnsigned_7cf53, Cond.static yJ6_compareUnsigned_7cf53, Cond.initialized RJ6] ++ (u_ws RX4 TX4 6 ++ (ow_dm_J6_compareUnsigned_7cf53 ++ [])))
theorem gd_dm_X4_branch : ∀ w ∈ ow_dm_X4_branch, (w.onTables && w.keeps) = true ∨ ∃ ty, w = Cond.arrayClass ty := List.forall_mem_cons.mpr ⟨good_of_word rfl, List.forall_mem_append.mpr ⟨fun w h => good_of_word (List.all_eq_true.mp (by decide +kernel) w h), List.forall_mem_append.mpr ⟨gu_X4, List.forall_mem_append.mpr ⟨gd_dm_J6_compareUnsigned_7cf53, fun _ h => nomatch h⟩⟩⟩⟩
theorem hi_dm_X4_branch_X4 : ∀ w ∈ u_ws RX4 TX4 6, w ∈ ow_dm_X4_branch := fun w h => List.mem_cons_of_mem _ (List.mem_append_right _ (List.mem_append_left _ h))
theorem gi_dm_X4_branch_0 : GoodIn ow_dm_X4_branch (va_wsS RX4 89 yJ6_compareUnsigned_7cf53 ow_dm_J6_compareUnsigned_7cf53) := goodIn_app (goodIn_of _ (by decide +kernel)) (fun w h => ⟨List.mem_cons_of_mem _ (List.mem_append_right _ (List.mem_append_right _ (List.mem_append_left _ h))), gd_dm_J6_compareUnsigned_7cf53 w h⟩)
def dj_X4_branch_142 (p : Program) (l : Launch) (e : Env) (s : State) (m : MethodId) (args : Array Value) (below : List Frame) (meth : Method) (c : Code) (Q : State → Prop) (A : Nat → Prop) (dC : Nat → ClassId) (dI : Nat → Nat → Nat) (a : Nat → Nat) (ac : Nat → ClassId) (g : (St × (St × (St))) → Option (Int32 × (St × (St × (St))))) (r : Int32 × (St × (St × (St)))) : Prop := ∀ (s0 : St × (St × (St))) (H : Heap) (locs : List Loc) (ls : Array Slot), g s0 = some r → va_P (dC, dI) vwCl (dw_X4 a ac s0) H → va_D A (dw_X4 a ac s0) → va_S A s.heap H locs → lv_has ls 6 [] → W p l e (headSpec ow_dm_X4_branch ({ frames := 2, cells := 0, slots := 0, locals := 42 })).room s m args below meth c H locs 0 0 Q (F0 m 142 ls [])
def dj_X4_branch_98 (p : Program) (l : Launch) (e : Env) (s : State) (m : MethodId) (args : Array Value) (below : List Frame) (meth : Method) (c : Code) (Q : State → Prop) (A : Nat → Prop) (dC : Nat → ClassId) (dI : Nat → Nat → Nat) (a : Nat → Nat) (ac : Nat → ClassId) (g : Int32 → Int32 → Int32 → (St × (St × (St))) → Option (Int32 × (St × (St × (St))))) (r : Int32 × (St × (St × (St)))) : Prop := ∀ (x1 : Int32) (y0 : Int32) (y1 : Int32) (s0 : St × (St × (St))) (H : Heap) (locs : List Loc) (ls : Array Slot), g x1 y0 y1 s0 = some r → va_P (dC, dI) vwCl (dw_X4 a ac s0) H → va_D A (dw_X4 a ac s0) → va_S A s.heap H locs → lv_has ls 6 [(0, .ref (a 0)), (1, .int x1)] → W p l e (headSpec ow_dm_X4_branch ({ frames := 2, cells := 0, slots := 0, locals := 42 })).room s m args below meth c H locs 0 0 Q (F0 m 98 ls [.int y1, .int y0])
def dj_X4_branch_85 (p : Program) (l : Launch) (e : Env) (s : State) (m : MethodId) (args : Array Value) (below : List Frame) (meth : Method) (c : Code) (Q : State → Prop) (A : Nat → Prop) (dC : Nat → ClassId) (dI : Nat → Nat → Nat) (a : Nat → Nat) (ac : Nat → ClassId) (g : Int32 → Int32 → Int32 → (St × (St × (St))) → Option (Int32 × (St × (St × (St))))) (r : Int32 × (St × (St × (St)))) : Prop := ∀ (x1 : Int32) (x2 : Int32) (x5 : Int32) (s0 : St × (St × (St))) (H : Heap) (locs : List Loc) (ls : Array Slot), g x1 x2 x5 s0 = some r → va_P (dC, dI) vwCl (dw_X4 a ac s0) H → va_D A (dw_X4 a ac s0) → va_S A s.heap H locs → lv_has ls 6 [(0, .ref (a 0)), (1, .int x1), (2, .int x2), (5, .int x5)] → W p l e (headSpec ow_dm_X4_branch ({ frames := 2, cells := 0, slots := 0, locals := 42 })).room s m args below meth c H locs 0 0 Q (F0 m 85 ls [])
def dj_X4_branch_43 (p : Program) (l : Launch) (e : Env) (s : State) (m : MethodId) (args : Array Value) (below : List Frame) (meth : Method) (c : Code) (Q : State → Prop) (A : Nat → Prop) (dC : Nat → ClassId) (dI : Nat → Nat → Nat) (a : Nat → Nat) (ac : Nat → ClassId) (g : Int32 → Int32 → Int32 → (St × (St × (St))) → Option (Int32 × (St × (St × (St))))) (r : Int32 × (St × (St × (St)))) : Prop := ∀ (x1 : Int32) (x2 : Int32) (y0 : Int32) (s0 : St × (St × (St))) (H : Heap) (locs : List Loc) (ls : Array Slot), g x1 x2 y0 s0 = some r → va_P (dC, dI) vwCl (dw_X4 a ac s0) H → va_D A (dw_X4 a ac s0) → va_S A s.heap H locs → lv_has ls 6 [(0, .ref (a 0)), (1, .int x1), (2, .int x2)] → W p l e (headSpec ow_dm_X4_branch ({ frames := 2, cells := 0, slots := 0, locals := 42 })).room s m args below meth c H locs 0 0 Q (F0 m 43 ls [.int y0])
def dj_X4_branch_83 (p : Program) (l : Launch) (e : Env) (s : State) (m : MethodId) (args : Array Value) (below : List Frame) (meth : Method) (c : Code) (Q : State → Prop) (A : Nat → Prop) (dC : Nat → ClassId) (dI : Nat → Nat → Nat) (a : Nat → Nat) (ac : Nat → ClassId) (g : (St × (St × (St))) → Option (Int32 × (St × (St × (St))))) (r : Int32 × (St × (St × (St)))) : Prop := ∀ (s0 : St × (St × (St))) (H : Heap) (locs : List Loc) (ls : Array Slot), g s0 = some r → va_P (dC, dI) vwCl (dw_X4 a ac s0) H → va_D A (dw_X4 a ac s0) → va_S A s.heap H locs → lv_has ls 6 [] → W p l e (headSpec ow_dm_X4_branch ({ frames := 2, cells := 0, slots := 0, locals := 42 })).room s m args below meth c H locs 0 0 Q (F0 m 83 ls [])
def dj_X4_branch_59 (p : Program) (l : Launch) (e : Env) (s : State) (m : MethodId) (args : Array Value) (below : List Frame) (meth : Method) (c : Code) (Q : State → Prop) (A : Nat → Prop) (dC : Nat → ClassId) (dI : Nat → Nat → Nat) (a : Nat → Nat) (ac : Nat → ClassId) (g : Int32 → Int32 → Int32 → (St × (St × (St))) → Option (Int32 × (St × (St × (St))))) (r : Int32 × (St × (St × (St)))) : Prop := ∀ (x1 : Int32) (x2 : Int32) (y0 : Int32) (s0 : St × (St × (St))) (H : Heap) (locs : List Loc) (ls : Array Slot), g x1 x2 y0 s0 = some r → va_P (dC, dI) vwCl (dw_X4 a ac s0) H → va_D A (dw_X4 a ac s0) → va_S A s.heap H locs → lv_has ls 6 [(0, .ref (a 0)), (1, .int x1), (2, .int x2)] → W p l e (headSpec ow_dm_X4_branch ({ frames := 2, cells := 0, slots := 0, locals := 42 })).room s m args below meth c H locs 0 0 Q (F0 m 59 ls [.int y0])
def dj_X4_branch_78 (p : Program) (l : Launch) (e : Env) (s : State) (m : MethodId) (args : Array Value) (below : List Frame) (meth : Method) (c : Code) (Q : State → Prop) (A : Nat → Prop) (dC : Nat → ClassId) (dI : Nat → Nat → Nat) (a : Nat → Nat) (ac : Nat → ClassId) (g : Int32 → Int32 → Int32 → (St × (St × (St))) → Option (Int32 × (St × (St × (St))))) (r : Int32 × (St × (St × (St)))) : Prop := ∀ (x1 : Int32) (x2 : Int32) (y0 : Int32) (s0 : St × (St × (St))) (H : Heap) (locs : List Loc) (ls : Array Slot), g x1 x2 y0 s0 = some r → va_P (dC, dI) vwCl (dw_X4 a ac s0) H → va_D A (dw_X4 a ac s0) → va_S A s.heap H locs → lv_has ls 6 [(0, .ref (a 0)), (1, .int x1), (2, .int x2)] → W p l e (headSpec ow_dm_X4_branch ({ frames := 2, cells := 0, slots := 0, locals := 42 })).room s m args below meth c H locs 0 0 Q (F0 m 78 ls [.int y0])
def dj_X4_branch_0 (p : Program) (l : Launch) (e : Env) (s : State) (m : MethodId) (args : Array Value) (below : List Frame) (meth : Method) (c : Code) (Q : State → Prop) (A : Nat → Prop) (dC : Nat → ClassId) (dI : Nat → Nat → Nat) (a : Nat → Nat) (ac : Nat → ClassId) (g : Int32 → Int32 → Int32 → Int32 → (St × (St × (St))) → Option (Int32 × (St × (St × (St))))) (r : Int32 × (St × (St × (St)))) : Prop := ∀ (v0 : Int32) (v1 : Int32) (v2 : Int32) (v3 : Int32) (s0 : St × (St × (St))) (H : Heap) (locs : List Loc) (ls : Array Slot), g v0 v1 v2 v3 s0 = some r → va_P (dC, dI) vwCl (dw_X4 a ac s0) H → va_D A (dw_X4 a ac s0) → va_S A s.heap H locs → lv_has ls 6 [(0, .ref (a 0)), (1, .int v0), (2, .int v1), (3, .int v2), (4, .int v3)] → W p l e (headSpec ow_dm_X4_branch ({ frames := 2, cells := 0, slots := 0, locals := 42 })).room s m args below meth c H locs 0 0 Q (F0 m 0 ls [])
set_option maxHeartbeats 40000000 in
set_option maxRecDepth 100000 in
theorem db_X4_branch_142 {p : Program} {l : Launch} {e : Env} {s : State} {m : MethodId} {args : Array Value} {below : List Frame} {meth : Method} {c : Code} {Q : State → Prop} {A : Nat → Prop} {dC : Nat → ClassId} {dI : Nat → Nat → Nat} {a : Nat → Nat} {ac : Nat → ClassId} {n : Nat} {r : Int32 × (St × (St × (St)))} (C : nd_C p l s m args c A (dC, dI) cX4_branch 6 RX4 ow_dm_X4_branch (dk_X4 ac)) (K : nd_Ki p l e (headSpec ow_dm_X4_branch ({ frames := 2, cells := 0, slots := 0, locals := 42 })).room s m args below meth c Q A (dC, dI) cX4_branch .int (St × (St × (St))) (dw_X4 a ac) r) : dj_X4_branch_142 p l e s m args below meth c Q A dC dI a ac (df_X4_branch_142 n) r := by
  obtain ⟨hlt, hx, hb, hml, hown, hts, hN, hA, hK⟩ := id C
  intro s0 H locs ls h hP hD hS hl
  unfold df_X4_branch_142 at h
  refine lv_iconst (v := 0) hx hb dX4_branch_142 (by decide) ?_
  exact K _ _ _ _ _ _ dX4_branch_143 rfl (Option.some.inj h).symm hP hD hS
set_option maxHeartbeats 40000000 in
set_option maxRecDepth 100000 in
theorem db_X4_branch_98 {p : Program} {l : Launch} {e : Env} {s : State} {m : MethodId} {args : Array Value} {below : List Frame} {meth : Method} {c : Code} {Q : State → Prop} {A : Nat → Prop} {dC : Nat → ClassId} {dI : Nat → Nat → Nat} {a : Nat → Nat} {ac : Nat → ClassId} {n : Nat} {r : Int32 × (St × (St × (St)))} (C : nd_C p l s m args c A (dC, dI) cX4_branch 6 RX4 ow_dm_X4_branch (dk_X4 ac)) (K : nd_Ki p l e (headSpec ow_dm_X4_branch ({ frames := 2, cells := 0, slots := 0, locals := 42 })).room s m args below meth c Q A (dC, dI) cX4_branch .int (St × (St × (St))) (dw_X4 a ac) r) : dj_X4_branch_98 p l e s m args below meth c Q A dC dI a ac (df_X4_branch_98 n) r := by
  obtain ⟨hlt, hx, hb, hml, hown, hts, hN, hA, hK⟩ := id C
  intro x1 y0 y1 s0 H locs ls h hP hD hS hl
  unfold df_X4_branch_98 at h
  refine lv_icmp_ne (tgt := 142) hx hb dX4_branch_98 (by decide) (fun c4 => ?_) (fun c4 => ?_)
  · have h := nd_neg h c4
    exact (db_X4_branch_142 C K)  s0 _ _ _ h hP hD hS (lv_sub hl [] rfl)
  · have h := nd_pos h c4
    refine lv_aload_n hx hb dX4_branch_101 rfl (lv_at hl 0 rfl) ?_
    refine lv_aload_n hx hb dX4_branch_102 rfl (lv_at hl 0 rfl) ?_
    refine va_get (D := (dC, dI)) (ci := 5) (v := .int (sI s0.1 2)) (C := RX4) (T := TX4) (N := 6) hx hb hts hi_dm_X4_branch_X4 hown hK hP 0 rfl rfl 4 (by decide) (hts (.fieldLink RX4 27 "TimeMachine$Hart" "place" "I") (List.mem_of_getElem? (i := 1) rfl)) (fun _ h9 => h9) rfl dX4_branch_103 ?_
    refine lv_iload_n hx hb dX4_branch_106 rfl (lv_at hl 1 rfl) ?_
    refine lv_bipush (v := 31) hx hb dX4_branch_107 (by decide) ?_
    refine lv_ishr hx hb dX4_branch_109 ?_
    refine lv_bipush (v := 12) hx hb dX4_branch_110 (by decide) ?_
    refine lv_ishl hx hb dX4_branch_112 ?_
    refine lv_iload_n hx hb dX4_branch_113 rfl (lv_at hl 1 rfl) ?_
    refine lv_iconst (v := 4) hx hb dX4_branch_114 (by decide) ?_
    refine lv_ishl hx hb dX4_branch_115 ?_
    refine lv_sipush (v := 2048) hx hb dX4_branch_116 (by decide) ?_
    refine lv_iand hx hb dX4_branch_119 ?_
    refine lv_ior hx hb dX4_branch_120 ?_
    refine lv_iload_n hx hb dX4_branch_121 rfl (lv_at hl 1 rfl) ?_
    refine lv_bipush (v := 20) hx hb dX4_branch_122 (by decide) ?_
    refine lv_ishr hx hb dX4_branch_124 ?_
    refine lv_sipush (v := 2016) hx hb dX4_branch_125 (by decide) ?_
    refine lv_iand hx hb dX4_branch_128 ?_
    refine lv_ior hx hb dX4_branch_129 ?_
    refine lv_iload_n hx hb dX4_branch_130 rfl (lv_at hl 1 rfl) ?_
    refine lv_bipush (v := 7) hx hb dX4_branch_131 (by decide) ?_
    refine lv_ishr hx hb dX4_branch_133 ?_
    refine lv_bipush (v := 30) hx hb dX4_branch_134 (by decide) ?_
    refine lv_iand hx hb dX4_branch_136 ?_
    refine lv_ior hx hb dX4_branch_137 ?_
    refine lv_iadd hx hb dX4_branch_138 ?_
    refine va_put (D := (dC, dI)) (ci := 5) (v := .int ((sI s0.1 2) + (((((((x1 : Int32) >>> ((31 : Int32) &&& 31)) : Int32) <<< ((12 : Int32) &&& 31)) ||| (((x1 : Int32) <<< ((4 : Int32) &&& 31)) &&& 2048)) ||| (((x1 : Int32) >>> ((20 : Int32) &&& 31)) &&& 2016)) ||| (((x1 : Int32) >>> ((7 : Int32) &&& 31)) &&& 30)))) (ty := .int) (C := RX4) (T := TX4) (N := 6) hx hb hts hi_dm_X4_branch_X4 tyX4 tyX4_ok nmX4 hown hK hP hD hS 0 rfl rfl 5 (by decide) (hts (.fieldLink RX4 38 "TimeMachine$Hart" "next" "I") (List.mem_of_getElem? (i := 2) rfl)) (fun _ h9 => h9) rfl (by decide +kernel) rfl rfl (Nat.le_of_ble_eq_true rfl) dX4_branch_139 (fun H locs hP hD hS => ?_)
    obtain ⟨s5, es5, h⟩ := nd_let_e h
    have hP : va_P (dC, dI) vwCl (dw_X4 a ac s5) H := by rw [es5]; exact hP
    have hD : va_D A (dw_X4 a ac s5) := by rw [es5]; exact hD
    exact (db_X4_branch_142 C K)  s5 _ _ _ h hP hD hS (lv_sub hl [] rfl)
set_option maxHeartbeats 40000000 in
set_option maxRecDepth 100000 in
theorem db_X4_branch_85 {p : Program} {l : Launch} {e : Env} {s : State} {m : MethodId} {args : Array Value} {below : List Frame} {meth : Method} {c : Code} {Q : State → Prop} {A : Nat → Prop} {dC : Nat → ClassId} {dI : Nat → Nat → Nat} {a : Nat → Nat} {ac : Nat → ClassId} {n : Nat} {r : Int32 × (St × (St × (St)))} (C : nd_C p l s m args c A (dC, dI) cX4_branch 6 RX4 ow_dm_X4_branch (dk_X4 ac)) (K : nd_Ki p l e (headSpec ow_dm_X4_branch ({ frames := 2, cells := 0, slots := 0, locals := 42 })).room s m args below meth c Q A (dC, dI) cX4_branch .int (St × (St × (St))) (dw_X4 a ac) r) : dj_X4_branch_85 p l e s m args below meth c Q A dC dI a ac (df_X4_branch_85 n) r := by
  obtain ⟨hlt, hx, hb, hml, hown, hts, hN, hA, hK⟩ := id C
  intro x1 x2 x5 s0 H locs ls h hP hD hS hl
  unfold df_X4_branch_85 at h
  refine lv_iload hx hb dX4_branch_85 (lv_at hl 3 rfl) ?_
  refine lv_iload_n hx hb dX4_branch_87 rfl (lv_at hl 2 rfl) ?_
  refine lv_iconst (v := 1) hx hb dX4_branch_88 (by decide) ?_
  refine lv_iand hx hb dX4_branch_89 ?_
  refine lv_if_ne (tgt := 97) hx hb dX4_branch_90 (by decide) (fun c3 => ?_) (fun c3 => ?_)
  · have h := nd_neg h c3
    refine lv_iconst (v := 0) hx hb dX4_branch_97 (by decide) ?_
    exact (db_X4_branch_98 C K) (x1) (x5) (0) s0 _ _ _ h hP hD hS (lv_sub hl [0, 1] rfl)
  · have h := nd_pos h c3
    refine lv_iconst (v := 1) hx hb dX4_branch_93 (by decide) ?_
    refine lv_goto (tgt := 98) hx hb dX4_branch_94 (by decide) ?_
    exact (db_X4_branch_98 C K) (x1) (x5) (1) s0 _ _ _ h hP hD hS (lv_sub hl [0, 1] rfl)
set_option maxHeartbeats 40000000 in
set_option maxRecDepth 100000 in
theorem db_X4_branch_43 {p : Program} {l : Launch} {e : Env} {s : State} {m : MethodId} {args : Array Value} {below : List Frame} {meth : Method} {c : Code} {Q : State → Prop} {A : Nat → Prop} {dC : Nat → ClassId} {dI : Nat → Nat → Nat} {a : Nat → Nat} {ac : Nat → ClassId} {n : Nat} {r : Int32 × (St × (St × (St)))} (C : nd_C p l s m args c A (dC, dI) cX4_branch 6 RX4 ow_dm_X4_branch (dk_X4 ac)) (K : nd_Ki p l e (headSpec ow_dm_X4_branch ({ frames := 2, cells := 0, slots := 0, locals := 42 })).room s m args below meth c Q A (dC, dI) cX4_branch .int (St × (St × (St))) (dw_X4 a ac) r) : dj_X4_branch_43 p l e s m args below meth c Q A dC dI a ac (df_X4_branch_43 n) r := by
  obtain ⟨hlt, hx, hb, hml, hown, hts, hN, hA, hK⟩ := id C
  intro x1 x2 y0 s0 H locs ls h hP hD hS hl
  unfold df_X4_branch_43 at h
  refine lv_istore (lv' := [(5, .int y0), (0, .ref (a 0)), (1, .int x1), (2, .int x2)]) hx hb dX4_branch_43 hl (by decide) rfl (fun ls hl => ?_)
  refine lv_goto (tgt := 85) hx hb dX4_branch_45 (by decide) ?_
  exact (db_X4_branch_85 C K) (x1) (x2) (y0) s0 _ _ _ h hP hD hS (lv_sub hl [1, 2, 3, 0] rfl)
set_option maxHeartbeats 40000000 in
set_option maxRecDepth 100000 in
theorem db_X4_branch_83 {p : Program} {l : Launch} {e : Env} {s : State} {m : MethodId} {args : Array Value} {below : List Frame} {meth : Method} {c : Code} {Q : State → Prop} {A : Nat → Prop} {dC : Nat → ClassId} {dI : Nat → Nat → Nat} {a : Nat → Nat} {ac : Nat → ClassId} {n : Nat} {r : Int32 × (St × (St × (St)))} (C : nd_C p l s m args c A (dC, dI) cX4_branch 6 RX4 ow_dm_X4_branch (dk_X4 ac)) (K : nd_Ki p l e (headSpec ow_dm_X4_branch ({ frames := 2, cells := 0, slots := 0, locals := 42 })).room s m args below meth c Q A (dC, dI) cX4_branch .int (St × (St × (St))) (dw_X4 a ac) r) : dj_X4_branch_83 p l e s m args below meth c Q A dC dI a ac (df_X4_branch_83 n) r := by
  obtain ⟨hlt, hx, hb, hml, hown, hts, hN, hA, hK⟩ := id C
  intro s0 H locs ls h hP hD hS hl
  unfold df_X4_branch_83 at h
  refine lv_iconst (v := 4) hx hb dX4_branch_83 (by decide) ?_
  exact K _ _ _ _ _ _ dX4_branch_84 rfl (Option.some.inj h).symm hP hD hS
set_option maxHeartbeats 40000000 in
set_option maxRecDepth 100000 in
theorem db_X4_branch_59 {p : Program} {l : Launch} {e : Env} {s : State} {m : MethodId} {args : Array Value} {below : List Frame} {meth : Method} {c : Code} {Q : State → Prop} {A : Nat → Prop} {dC : Nat → ClassId} {dI : Nat → Nat → Nat} {a : Nat → Nat} {ac : Nat → ClassId} {n : Nat} {r : Int32 × (St × (St × (St)))} (C : nd_C p l s m args c A (dC, dI) cX4_branch 6 RX4 ow_dm_X4_branch (dk_X4 ac)) (K : nd_Ki p l e (headSpec ow_dm_X4_branch ({ frames := 2, cells := 0, slots := 0, locals := 42 })).room s m args below meth c Q A (dC, dI) cX4_branch .int (St × (St × (St))) (dw_X4 a ac) r) : dj_X4_branch_59 p l e s m args below meth c Q A dC dI a ac (df_X4_branch_59 n) r := by
  obtain ⟨hlt, hx, hb, hml, hown, hts, hN, hA, hK⟩ := id C
  intro x1 x2 y0 s0 H locs ls h hP hD hS hl
  unfold df_X4_branch_59 at h
  refine lv_istore (lv' := [(5, .int y0), (0, .ref (a 0)), (1, .int x1), (2, .int x2)]) hx hb dX4_branch_59 hl (by decide) rfl (fun ls hl => ?_)
  refine lv_goto (tgt := 85) hx hb dX4_branch_61 (by decide) ?_
  exact (db_X4_branch_85 C K) (x1) (x2) (y0) s0 _ _ _ h hP hD hS (lv_sub hl [1, 2, 3, 0] rfl)
set_option maxHeartbeats 40000000 in
set_option maxRecDepth 100000 in
theorem db_X4_branch_78 {p : Program} {l : Launch} {e : Env} {s : State} {m : MethodId} {args : Array Value} {below : List Frame} {meth : Method} {c : Code} {Q : State → Prop} {A : Nat → Prop} {dC : Nat → ClassId} {dI : Nat → Nat → Nat} {a : Nat → Nat} {ac : Nat → ClassId} {n : Nat} {r : Int32 × (St × (St × (St)))} (C : nd_C p l s m args c A (dC, dI) cX4_branch 6 RX4 ow_dm_X4_branch (dk_X4 ac)) (K : nd_Ki p l e (headSpec ow_dm_X4_branch ({ frames := 2, cells := 0, slots := 0, locals := 42 })).room s m args below meth c Q A (dC, dI) cX4_branch .int (St × (St × (St))) (dw_X4 a ac) r) : dj_X4_branch_78 p l e s m args below meth c Q A dC dI a ac (df_X4_branch_78 n) r := by
  obtain ⟨hlt, hx, hb, hml, hown, hts, hN, hA, hK⟩ := id C
  intro x1 x2 y0 s0 H locs ls h hP hD hS hl
  unfold df_X4_branch_78 at h
  refine lv_istore (lv' := [(5, .int y0), (0, .ref (a 0)), (1, .int x1), (2, .int x2)]) hx hb dX4_branch_78 hl (by decide) rfl (fun ls hl => ?_)
  refine lv_goto (tgt := 85) hx hb dX4_branch_80 (by decide) ?_
  exact (db_X4_branch_85 C K) (x1) (x2) (y0) s0 _ _ _ h hP hD hS (lv_sub hl [1, 2, 3, 0] rfl)
set_option maxHeartbeats 40000000 in
set_option maxRecDepth 100000 in
theorem db_X4_branch_0 {p : Program} {l : Launch} {e : Env} {s : State} {m : MethodId} {args : Array Value} {below : List Frame} {meth : Method} {c : Code} {Q : State → Prop} {A : Nat → Prop} {dC : Nat → ClassId} {dI : Nat → Nat → Nat} {a : Nat → Nat} {ac : Nat → ClassId} {n : Nat} {r : Int32 × (St × (St × (St)))} (C : nd_C p l s m args c A (dC, dI) cX4_branch 6 RX4 ow_dm_X4_branch (dk_X4 ac)) (K : nd_Ki p l e (headSpec ow_dm_X4_branch ({ frames := 2, cells := 0, slots := 0, locals := 42 })).room s m args below meth c Q A (dC, dI) cX4_branch .int (St × (St × (St))) (dw_X4 a ac) r) : dj_X4_branch_0 p l e s m args below meth c Q A dC dI a ac (df_X4_branch_0 n) r := by
  obtain ⟨hlt, hx, hb, hml, hown, hts, hN, hA, hK⟩ := id C
  intro v0 v1 v2 v3 s0 H locs ls h hP hD hS hl
  unfold df_X4_branch_0 at h
  refine lv_iload_n hx hb dX4_branch_0 rfl (lv_at hl 2 rfl) ?_
  refine lv_iconst (v := 1) hx hb dX4_branch_1 (by decide) ?_
  refine lv_ishr hx hb dX4_branch_2 ?_
  by_cases c1 : ((v1 : Int32) >>> ((1 : Int32) &&& 31)) = 0
  · have h := nd_pos h c1
    refine lv_tableIn (off := 29) (tgt := 32) hx hb dX4_branch_3 (by rw [c1]; decide) (by rw [c1]; decide) (by rw [c1]; decide) (by decide) ?_
    refine lv_iload_n hx hb dX4_branch_32 rfl (lv_at hl 3 rfl) ?_
    refine lv_iload hx hb dX4_branch_33 (lv_at hl 4 rfl) ?_
    refine lv_icmp_ne (tgt := 42) hx hb dX4_branch_35 (by decide) (fun c2 => ?_) (fun c2 => ?_)
    · have h := nd_neg h c2
      refine lv_iconst (v := 0) hx hb dX4_branch_42 (by decide) ?_
      exact (db_X4_branch_43 C K) (v0) (v1) (0) s0 _ _ _ h hP hD hS (lv_sub hl [0, 1, 2] rfl)
    · have h := nd_pos h c2
      refine lv_iconst (v := 1) hx hb dX4_branch_38 (by decide) ?_
      refine lv_goto (tgt := 43) hx hb dX4_branch_39 (by decide) ?_
      exact (db_X4_branch_43 C K) (v0) (v1) (1) s0 _ _ _ h hP hD hS (lv_sub hl [0, 1, 2] rfl)
  have h := nd_neg h c1
  by_cases c6 : ((v1 : Int32) >>> ((1 : Int32) &&& 31)) = 1
  · have h := nd_pos h c6
    refine lv_tableIn (off := 80) (tgt := 83) hx hb dX4_branch_3 (by rw [c6]; decide) (by rw [c6]; decide) (by rw [c6]; decide) (by decide) ?_
    exact (db_X4_branch_83 C K)  s0 _ _ _ h hP hD hS (lv_sub hl [] rfl)
  have h := nd_neg h c6
  by_cases c7 : ((v1 : Int32) >>> ((1 : Int32) &&& 31)) = 2
  · have h := nd_pos h c7
    refine lv_tableIn (off := 45) (tgt := 48) hx hb dX4_branch_3 (by rw [c7]; decide) (by rw [c7]; decide) (by rw [c7]; decide) (by decide) ?_
    refine lv_iload_n hx hb dX4_branch_48 rfl (lv_at hl 3 rfl) ?_
    refine lv_iload hx hb dX4_branch_49 (lv_at hl 4 rfl) ?_
    refine lv_icmp_ge (tgt := 58) hx hb dX4_branch_51 (by decide) (fun c8 => ?_) (fun c8 => ?_)
    · have h := nd_pos h c8
      refine lv_iconst (v := 0) hx hb dX4_branch_58 (by decide) ?_
      exact (db_X4_branch_59 C K) (v0) (v1) (0) s0 _ _ _ h hP hD hS (lv_sub hl [0, 1, 2] rfl)
    · have h := nd_neg h c8
      refine lv_iconst (v := 1) hx hb dX4_branch_54 (by decide) ?_
      refine lv_goto (tgt := 59) hx hb dX4_branch_55 (by decide) ?_
      exact (db_X4_branch_59 C K) (v0) (v1) (1) s0 _ _ _ h hP hD hS (lv_sub hl [0, 1, 2] rfl)
  have h := nd_neg h c7
  by_cases c9 : ((v1 : Int32) >>> ((1 : Int32) &&& 31)) = 3
  · have h := nd_pos h c9
    refine lv_tableIn (off := 61) (tgt := 64) hx hb dX4_branch_3 (by rw [c9]; decide) (by rw [c9]; decide) (by rw [c9]; decide) (by decide) ?_
    refine lv_iload_n hx hb dX4_branch_64 rfl (lv_at hl 3 rfl) ?_
    refine lv_iload hx hb dX4_branch_65 (lv_at hl 4 rfl) ?_
    obtain ⟨q10, s11, hq, h⟩ := nd_b2_e h
    have hPc : va_P (dC, dI) vwCl (dw_P a ac ()) H := nd_p0
    have hDc : va_D A (dw_P a ac ()) := nd_d0
    have hKc : va_K (dC, dI) vwCl (dk_P ac) s := nd_y0 hK
    have hFc : ∀ q, va_A (dw_P a ac ()) H.size q → A q := nd_r0 hS hA
    refine nd_cSi (As := [.int v2, .int v3]) (rest := []) (q := q10) (w' := dw_P a ac s11) ⟨hx, hb, hml, hown, hts⟩ (fun sz => dm_J6_compareUnsigned_7cf53 l hlt dC dI a ac n (v2) (v3) () hq sz) (va_cwS 2 hts gi_dm_X4_branch_0 rfl rfl rfl (by decide +kernel) ⟨Nat.le_of_ble_eq_true rfl, Nat.le_of_ble_eq_true rfl⟩) hPc hDc hKc hS hA hN rfl hl.1 rfl (Nat.le_of_ble_eq_true rfl) dX4_branch_67 (fun H locs hP1 hD1 hk1 hS => ?_)
    have hP := nd_n0 hP hk1
    refine lv_if_ge (tgt := 77) hx hb dX4_branch_70 (by decide) (fun c13 => ?_) (fun c13 => ?_)
    · have h := nd_pos h c13
      refine lv_iconst (v := 0) hx hb dX4_branch_77 (by decide) ?_
      exact (db_X4_branch_78 C K) (v0) (v1) (0) s0 _ _ _ h hP hD hS (lv_sub hl [0, 1, 2] rfl)
    · have h := nd_neg h c13
      refine lv_iconst (v := 1) hx hb dX4_branch_73 (by decide) ?_
      refine lv_goto (tgt := 78) hx hb dX4_branch_74 (by decide) ?_
      exact (db_X4_branch_78 C K) (v0) (v1) (1) s0 _ _ _ h hP hD hS (lv_sub hl [0, 1, 2] rfl)
  have h := nd_neg h c9
  refine lv_tableOut (tgt := 83) hx hb dX4_branch_3 (by have g0 := nv_nei c1 (k := 0) (by decide); have g1 := nv_nei c6 (k := 1) (by decide); have g2 := nv_nei c7 (k := 2) (by decide); have g3 := nv_nei c9 (k := 3) (by decide); omega) (by decide) ?_
  exact (db_X4_branch_83 C K)  s0 _ _ _ h hP hD hS (lv_sub hl [] rfl)
set_option maxHeartbeats 40000000 in
set_option maxRecDepth 100000 in
theorem dm_X4_branch (l : Launch) (hlt : l.stackTraces = false) (dC : Nat → ClassId) (dI : Nat → Nat → Nat) (a : Nat → Nat) (ac : Nat → ClassId) (n : Nat) (v0 : Int32) (v1 : Int32) (v2 : Int32) (v3 : Int32) (s0 : St × (St × (St))) {r : Int32 × (St × (St × (St)))} (h : df_X4_branch n v0 v1 v2 v3 s0 = some r) (sz : Nat) : Met l yX4_branch ow_dm_X4_branch ({ frames := 2, cells := 0, slots := 0, locals := 42 }) (va_Pc [.ref (a 0), .int v0, .int v1, .int v2, .int v3] (fun U => U.heap.size = sz ∧ va_P (dC, dI) vwCl (dw_X4 a ac s0) U.heap ∧ va_K (dC, dI) vwCl (dk_X4 ac) U ∧ va_D (fun _ => True) (dw_X4 a ac s0) ∧ nv_E dI (va_A (dw_X4 a ac s0) sz) U)) (va_Qi (fun x _ => x = r.1) (fun (_ : Unit) t => va_P (dC, dI) vwCl (dw_X4 a ac r.2) t.heap ∧ va_K (dC, dI) vwCl (dk_X4 ac) t ∧ va_D (va_A (dw_X4 a ac s0) sz) (dw_X4 a ac r.2)) (va_A (dw_X4 a ac s0) sz)) 0 0 (va_A (dw_X4 a ac s0) sz) := by
  refine Met.ofW (cc := cX4_branch) (maxL := 6) (ret := (some .int)) (by decide) rfl ?_
  intro p e s m args below meth c s₁ B hml hv
  obtain ⟨rfl, hsz, hP, hK, hD0, hN⟩ := hv
  have hx := B.exec
  have hb := B.bytes
  have hr := B.returns
  have hts := atoms_spec (ws := ow_dm_X4_branch) B.pre
  have hown : s.vm.findClass RX4 = some m.cls := findClass_of_methodNamed B.named
  have hlocks := B.notSynchronized
  subst hsz
  have hD := hD0.self (sz := s.heap.size)
  generalize hAe : va_A (dw_X4 a ac s0) s.heap.size = A at hD hN ⊢
  have hA : ∀ q : Nat, s.heap.size ≤ q → A q := fun q h => by rw [← hAe]; exact Or.inr h
  have hl := lv_entry ([.ref (a 0), .int v0, .int v1, .int v2, .int v3]) (n := 6) (Nat.le_of_ble_eq_true rfl)
  rw [lg_entry_eq]
  generalize (lg_sl ([.ref (a 0), .int v0, .int v1, .int v2, .int v3]) ++ List.replicate (6 - (lg_sl ([.ref (a 0), .int v0, .int v1, .int v2, .int v3])).length) Slot.unset).toArray = ls at hl ⊢
  have hl : lv_has ls 6 [(0, .ref (a 0)), (1, .int v0), (2, .int v1), (3, .int v2), (4, .int v3)] := hl
  exact db_X4_branch_0 (dC := dC) (dI := dI) (a := a) (ac := ac) (n := n) (r := r) ⟨hlt, hx, hb, hml, hown, hts, hN, hA, hK⟩ (fun pc v τ H locs ls d z er hP hD hS => by subst er; exact W.zret (v := v) hx hb hr z (fun t ht hW => ⟨⟨v, (), rfl, rfl, by rw [ht]; exact hP, va_K.moved hW.alike hK, hD⟩, hS.F ht⟩) hS.2.2 d) v0 v1 v2 v3 s0 _ _ _ h hP hD va_S.rf (lv_sub hl [0, 1, 2, 3, 4] rfl)
def ow_dm_X4_jump : List Cond := Cond.code yX4_jump cX4_jump 3 (some .int) :: ([Cond.fieldLink RX4 38 "TimeMachine$Hart" "next" "I", Cond.methodLink RX4 52 yX4_set, Cond.instanceMethod yX4_set, Cond.selects RX4 yX4_set yX4_set, Cond.initialized RX4] ++ (u_ws RX4 TX4 6 ++ (ow_dm_X4_set ++ [])))
theorem gd_dm_X4_jump : ∀ w ∈ ow_dm_X4_jump, (w.onTables && w.keeps) = true ∨ ∃ ty, w = Cond.arrayClass ty := List.forall_mem_cons.mpr ⟨good_of_word rfl, List.forall_mem_append.mpr ⟨fun w h => good_of_word (List.all_eq_true.mp (by decide +kernel) w h), List.forall_mem_append.mpr ⟨gu_X4, List.forall_mem_append.mpr ⟨gd_dm_X4_set, fun _ h => nomatch h⟩⟩⟩⟩
theorem hi_dm_X4_jump_X4 : ∀ w ∈ u_ws RX4 TX4 6, w ∈ ow_dm_X4_jump := fun w h => List.mem_cons_of_mem _ (List.mem_append_right _ (List.mem_append_left _ h))
theorem gi_dm_X4_jump_0 : GoodIn ow_dm_X4_jump (wsV RX4 52 RX4 yX4_set ow_dm_X4_set) := goodIn_app (goodIn_of _ (by decide +kernel)) (fun w h => ⟨List.mem_cons_of_mem _ (List.mem_append_right _ (List.mem_append_right _ (List.mem_append_left _ h))), gd_dm_X4_set w h⟩)
def dj_X4_jump_0 (p : Program) (l : Launch) (e : Env) (s : State) (m : MethodId) (args : Array Value) (below : List Frame) (meth : Method) (c : Code) (Q : State → Prop) (A : Nat → Prop) (dC : Nat → ClassId) (dI : Nat → Nat → Nat) (a : Nat → Nat) (ac : Nat → ClassId) (g : Int32 → Int32 → (St × (St × (St))) → Option (Int32 × (St × (St × (St))))) (r : Int32 × (St × (St × (St)))) : Prop := ∀ (v0 : Int32) (v1 : Int32) (s0 : St × (St × (St))) (H : Heap) (locs : List Loc) (ls : Array Slot), g v0 v1 s0 = some r → va_P (dC, dI) vwCl (dw_X4 a ac s0) H → va_D A (dw_X4 a ac s0) → va_S A s.heap H locs → lv_has ls 3 [(0, .ref (a 0)), (1, .int v0), (2, .int v1)] → W p l e (headSpec ow_dm_X4_jump ({ frames := 1, cells := 0, slots := 0, locals := 23 })).room s m args below meth c H locs 0 0 Q (F0 m 0 ls [])
set_option maxHeartbeats 40000000 in
set_option maxRecDepth 100000 in
theorem db_X4_jump_0 {p : Program} {l : Launch} {e : Env} {s : State} {m : MethodId} {args : Array Value} {below : List Frame} {meth : Method} {c : Code} {Q : State → Prop} {A : Nat → Prop} {dC : Nat → ClassId} {dI : Nat → Nat → Nat} {a : Nat → Nat} {ac : Nat → ClassId} {n : Nat} {r : Int32 × (St × (St × (St)))} (C : nd_C p l s m args c A (dC, dI) cX4_jump 3 RX4 ow_dm_X4_jump (dk_X4 ac)) (K : nd_Ki p l e (headSpec ow_dm_X4_jump ({ frames := 1, cells := 0, slots := 0, locals := 23 })).room s m args below meth c Q A (dC, dI) cX4_jump .int (St × (St × (St))) (dw_X4 a ac) r) : dj_X4_jump_0 p l e s m args below meth c Q A dC dI a ac (df_X4_jump_0 n) r := by
  obtain ⟨hlt, hx, hb, hml, hown, hts, hN, hA, hK⟩ := id C
  intro v0 v1 s0 H locs ls h hP hD hS hl
  unfold df_X4_jump_0 at h
  refine lv_aload_n hx hb dX4_jump_0 rfl (lv_at hl 0 rfl) ?_
  refine lv_iload_n hx hb dX4_jump_1 rfl (lv_at hl 1 rfl) ?_
  refine lv_aload_n hx hb dX4_jump_2 rfl (lv_at hl 0 rfl) ?_
  refine va_get (D := (dC, dI)) (ci := 5) (v := .int (sI s0.1 3)) (C := RX4) (T := TX4) (N := 6) hx hb hts hi_dm_X4_jump_X4 hown hK hP 0 rfl rfl 5 (by decide) (hts (.fieldLink RX4 38 "TimeMachine$Hart" "next" "I") (List.mem_of_getElem? (i := 1) rfl)) (fun _ h9 => h9) rfl dX4_jump_3 ?_
  obtain ⟨s2, hq, h⟩ := nd_b1_e h
  have hPc := hP
  have hDc := hD
  have hKc := hK
  have hFc := nd_rs hD hS hA
  refine nd_cVv (As := [.int v0, .int (sI s0.1 3)]) (rest := []) (w' := dw_X4 a ac s2) ⟨hx, hb, hml, hown, hts⟩ (fun sz => dm_X4_set l hlt dC dI a ac n (v0) ((sI s0.1 3)) s0 hq sz) (cwV 2 hts gi_dm_X4_jump_0 rfl rfl rfl (by decide +kernel) ⟨Nat.le_of_ble_eq_true rfl, Nat.le_of_ble_eq_true rfl⟩) hPc hDc hKc hS hA hN (va_recv hKc hPc (ci := 5) (q0 := 0) rfl rfl) rfl hl.1 rfl (Nat.le_of_ble_eq_true rfl) dX4_jump_6 (fun H locs hP1 hD1 hk1 hS => ?_)
  have hP := hP1
  have hD := hD1.weaken (fun k q _ h => hFc q.1 h)
  refine lv_aload_n hx hb dX4_jump_9 rfl (lv_at hl 0 rfl) ?_
  refine lv_iload_n hx hb dX4_jump_10 rfl (lv_at hl 2 rfl) ?_
  refine lv_bipush (v := (-2)) hx hb dX4_jump_11 (by decide) ?_
  refine lv_iand hx hb dX4_jump_13 ?_
  refine va_put (D := (dC, dI)) (ci := 5) (v := .int (v1 &&& (-2))) (ty := .int) (C := RX4) (T := TX4) (N := 6) hx hb hts hi_dm_X4_jump_X4 tyX4 tyX4_ok nmX4 hown hK hP hD hS 0 rfl rfl 5 (by decide) (hts (.fieldLink RX4 38 "TimeMachine$Hart" "next" "I") (List.mem_of_getElem? (i := 1) rfl)) (fun _ h9 => h9) rfl (by decide +kernel) rfl rfl (Nat.le_of_ble_eq_true rfl) dX4_jump_14 (fun H locs hP hD hS => ?_)
  obtain ⟨s4, es4, h⟩ := nd_let_e h
  have hP : va_P (dC, dI) vwCl (dw_X4 a ac s4) H := by rw [es4]; exact hP
  have hD : va_D A (dw_X4 a ac s4) := by rw [es4]; exact hD
  refine lv_iconst (v := 0) hx hb dX4_jump_17 (by decide) ?_
  exact K _ _ _ _ _ _ dX4_jump_18 rfl (Option.some.inj h).symm hP hD hS
set_option maxHeartbeats 40000000 in
set_option maxRecDepth 100000 in
theorem dm_X4_jump (l : Launch) (hlt : l.stackTraces = false) (dC : Nat → ClassId) (dI : Nat → Nat → Nat) (a : Nat → Nat) (ac : Nat → ClassId) (n : Nat) (v0 : Int32) (v1 : Int32) (s0 : St × (St × (St))) {r : Int32 × (St × (St × (St)))} (h : df_X4_jump n v0 v1 s0 = some r) (sz : Nat) : Met l yX4_jump ow_dm_X4_jump ({ frames := 1, cells := 0, slots := 0, locals := 23 }) (va_Pc [.ref (a 0), .int v0, .int v1] (fun U => U.heap.size = sz ∧ va_P (dC, dI) vwCl (dw_X4 a ac s0) U.heap ∧ va_K (dC, dI) vwCl (dk_X4 ac) U ∧ va_D (fun _ => True) (dw_X4 a ac s0) ∧ nv_E dI (va_A (dw_X4 a ac s0) sz) U)) (va_Qi (fun x _ => x = r.1) (fun (_ : Unit) t => va_P (dC, dI) vwCl (dw_X4 a ac r.2) t.heap ∧ va_K (dC, dI) vwCl (dk_X4 ac) t ∧ va_D (va_A (dw_X4 a ac s0) sz) (dw_X4 a ac r.2)) (va_A (dw_X4 a ac s0) sz)) 0 0 (va_A (dw_X4 a ac s0) sz) := by
  refine Met.ofW (cc := cX4_jump) (maxL := 3) (ret := (some .int)) (by decide) rfl ?_
  intro p e s m args below meth c s₁ B hml hv
  obtain ⟨rfl, hsz, hP, hK, hD0, hN⟩ := hv
  have hx := B.exec
  have hb := B.bytes
  have hr := B.returns
  have hts := atoms_spec (ws := ow_dm_X4_jump) B.pre
  have hown : s.vm.findClass RX4 = some m.cls := findClass_of_methodNamed B.named
  have hlocks := B.notSynchronized
  subst hsz
  have hD := hD0.self (sz := s.heap.size)
  generalize hAe : va_A (dw_X4 a ac s0) s.heap.size = A at hD hN ⊢
  have hA : ∀ q : Nat, s.heap.size ≤ q → A q := fun q h => by rw [← hAe]; exact Or.inr h
  have hl := lv_entry ([.ref (a 0), .int v0, .int v1]) (n := 3) (Nat.le_of_ble_eq_true rfl)
  rw [lg_entry_eq]
  generalize (lg_sl ([.ref (a 0), .int v0, .int v1]) ++ List.replicate (3 - (lg_sl ([.ref (a 0), .int v0, .int v1])).length) Slot.unset).toArray = ls at hl ⊢
  have hl : lv_has ls 3 [(0, .ref (a 0)), (1, .int v0), (2, .int v1)] := hl
  exact db_X4_jump_0 (dC := dC) (dI := dI) (a := a) (ac := ac) (n := n) (r := r) ⟨hlt, hx, hb, hml, hown, hts, hN, hA, hK⟩ (fun pc v τ H locs ls d z er hP hD hS => by subst er; exact W.zret (v := v) hx hb hr z (fun t ht hW => ⟨⟨v, (), rfl, rfl, by rw [ht]; exact hP, va_K.moved hW.alike hK, hD⟩, hS.F ht⟩) hS.2.2 d) v0 v1 s0 _ _ _ h hP hD va_S.rf (lv_sub hl [0, 1, 2] rfl)
def ow_dm_X4_jumpOffset : List Cond := Cond.code yX4_jumpOffset cX4_jumpOffset 1 (some .int) :: ([Cond.constant RX4 88 (1044480)] ++ [])
theorem gd_dm_X4_jumpOffset : ∀ w ∈ ow_dm_X4_jumpOffset, (w.onTables && w.keeps) = true ∨ ∃ ty, w = Cond.arrayClass ty := List.forall_mem_cons.mpr ⟨good_of_word rfl, List.forall_mem_append.mpr ⟨fun w h => good_of_word (List.all_eq_true.mp (by decide +kernel) w h), fun _ h => nomatch h⟩⟩
def dj_X4_jumpOffset_0 (p : Program) (l : Launch) (e : Env) (s : State) (m : MethodId) (args : Array Value) (below : List Frame) (meth : Method) (c : Code) (Q : State → Prop) (A : Nat → Prop) (dC : Nat → ClassId) (dI : Nat → Nat → Nat) (a : Nat → Nat) (ac : Nat → ClassId) (g : Int32 → (Unit) → Option (Int32 × (Unit))) (r : Int32 × (Unit)) : Prop := ∀ (v0 : Int32) (s0 : Unit) (H : Heap) (locs : List Loc) (ls : Array Slot), g v0 s0 = some r → va_P (dC, dI) vwCl (dw_P a ac s0) H → va_D A (dw_P a ac s0) → va_S A s.heap H locs → lv_has ls 1 [(0, .int v0)] → W p l e (headSpec ow_dm_X4_jumpOffset ({ frames := 0, cells := 0, slots := 0, locals := 0 })).room s m args below meth c H locs 0 0 Q (F0 m 0 ls [])
set_option maxHeartbeats 40000000 in
set_option maxRecDepth 100000 in
theorem db_X4_jumpOffset_0 {p : Program} {l : Launch} {e : Env} {s : State} {m : MethodId} {args : Array Value} {below : List Frame} {meth : Method} {c : Code} {Q : State → Prop} {A : Nat → Prop} {dC : Nat → ClassId} {dI : Nat → Nat → Nat} {a : Nat → Nat} {ac : Nat → ClassId} {n : Nat} {r : Int32 × (Unit)} (C : nd_C p l s m args c A (dC, dI) cX4_jumpOffset 1 RX4 ow_dm_X4_jumpOffset (dk_P ac)) (K : nd_Ki p l e (headSpec ow_dm_X4_jumpOffset ({ frames := 0, cells := 0, slots := 0, locals := 0 })).room s m args below meth c Q A (dC, dI) cX4_jumpOffset .int (Unit) (dw_P a ac) r) : dj_X4_jumpOffset_0 p l e s m args below meth c Q A dC dI a ac (df_X4_jumpOffset_0 n) r := by
  obtain ⟨hlt, hx, hb, hml, hown, hts, hN, hA, hK⟩ := id C
  intro v0 s0 H locs ls h hP hD hS hl
  unfold df_X4_jumpOffset_0 at h
  refine lv_iload_n hx hb dX4_jumpOffset_0 rfl (lv_at hl 0 rfl) ?_
  refine lv_bipush (v := 31) hx hb dX4_jumpOffset_1 (by decide) ?_
  refine lv_ishr hx hb dX4_jumpOffset_3 ?_
  refine lv_bipush (v := 20) hx hb dX4_jumpOffset_4 (by decide) ?_
  refine lv_ishl hx hb dX4_jumpOffset_6 ?_
  refine lv_iload_n hx hb dX4_jumpOffset_7 rfl (lv_at hl 0 rfl) ?_
  refine lv_ldc hx hb hown (hts (.constant RX4 88 (1044480)) (List.mem_of_getElem? (i := 1) rfl)) dX4_jumpOffset_8 ?_
  refine lv_iand hx hb dX4_jumpOffset_10 ?_
  refine lv_ior hx hb dX4_jumpOffset_11 ?_
  refine lv_iload_n hx hb dX4_jumpOffset_12 rfl (lv_at hl 0 rfl) ?_
  refine lv_bipush (v := 9) hx hb dX4_jumpOffset_13 (by decide) ?_
  refine lv_ishr hx hb dX4_jumpOffset_15 ?_
  refine lv_sipush (v := 2048) hx hb dX4_jumpOffset_16 (by decide) ?_
  refine lv_iand hx hb dX4_jumpOffset_19 ?_
  refine lv_ior hx hb dX4_jumpOffset_20 ?_
  refine lv_iload_n hx hb dX4_jumpOffset_21 rfl (lv_at hl 0 rfl) ?_
  refine lv_bipush (v := 20) hx hb dX4_jumpOffset_22 (by decide) ?_
  refine lv_ishr hx hb dX4_jumpOffset_24 ?_
  refine lv_sipush (v := 2046) hx hb dX4_jumpOffset_25 (by decide) ?_
  refine lv_iand hx hb dX4_jumpOffset_28 ?_
  refine lv_ior hx hb dX4_jumpOffset_29 ?_
  exact K _ _ _ _ _ _ dX4_jumpOffset_30 rfl (Option.some.inj h).symm hP hD hS
set_option maxHeartbeats 40000000 in
set_option maxRecDepth 100000 in
theorem dm_X4_jumpOffset (l : Launch) (hlt : l.stackTraces = false) (dC : Nat → ClassId) (dI : Nat → Nat → Nat) (a : Nat → Nat) (ac : Nat → ClassId) (n : Nat) (v0 : Int32) (s0 : Unit) {r : Int32 × (Unit)} (h : df_X4_jumpOffset n v0 s0 = some r) (sz : Nat) : Met l yX4_jumpOffset ow_dm_X4_jumpOffset ({ frames := 0, cells := 0, slots := 0, locals := 0 }) (va_Pc [.int v0] (fun U => U.heap.size = sz ∧ va_P (dC, dI) vwCl (dw_P a ac s0) U.heap ∧ va_K (dC, dI) vwCl (dk_P ac) U ∧ va_D (fun _ => True) (dw_P a ac s0) ∧ nv_E dI (va_A (dw_P a ac s0) sz) U)) (va_Qi (fun x _ => x = r.1) (fun (_ : Unit) t => va_P (dC, dI) vwCl (dw_P a ac r.2) t.heap ∧ va_K (dC, dI) vwCl (dk_P ac) t ∧ va_D (va_A (dw_P a ac s0) sz) (dw_P a ac r.2)) (va_A (dw_P a ac s0) sz)) 0 0 (va_A (dw_P a ac s0) sz) := by
  refine Met.ofW (cc := cX4_jumpOffset) (maxL := 1) (ret := (some .int)) (by decide) rfl ?_
  intro p e s m args below meth c s₁ B hml hv
  obtain ⟨rfl, hsz, hP, hK, hD0, hN⟩ := hv
  have hx := B.exec
  have hb := B.bytes
  have hr := B.returns
  have hts := atoms_spec (ws := ow_dm_X4_jumpOffset) B.pre
  have hown : s.vm.findClass RX4 = some m.cls := findClass_of_methodNamed B.named
  have hlocks := B.notSynchronized
  subst hsz
  have hD := hD0.self (sz := s.heap.size)
  generalize hAe : va_A (dw_P a ac s0) s.heap.size = A at hD hN ⊢
  have hA : ∀ q : Nat, s.heap.size ≤ q → A q := fun q h => by rw [← hAe]; exact Or.inr h
  have hl := lv_entry ([.int v0]) (n := 1) (Nat.le_of_ble_eq_true rfl)
  rw [lg_entry_eq]
  generalize (lg_sl ([.int v0]) ++ List.replicate (1 - (lg_sl ([.int v0])).length) Slot.unset).toArray = ls at hl ⊢
  have hl : lv_has ls 1 [(0, .int v0)] := hl
  exact db_X4_jumpOffset_0 (dC := dC) (dI := dI) (a := a) (ac := ac) (n := n) (r := r) ⟨hlt, hx, hb, hml, hown, hts, hN, hA, hK⟩ (fun pc v τ H locs ls d z er hP hD hS => by subst er; exact W.zret (v := v) hx hb hr z (fun t ht hW => ⟨⟨v, (), rfl, rfl, by rw [ht]; exact hP, va_K.moved hW.alike hK, hD⟩, hS.F ht⟩) hS.2.2 d) v0 s0 _ _ _ h hP hD va_S.rf (lv_sub hl [0] rfl)
def ow_dm_X4_system : List Cond := Cond.code yX4_system cX4_system 3 (some .int) :: ([Cond.constant RX4 136 (1048691), Cond.fieldLink RX4 7 "TimeMachine$Hart" "machine" "LTimeMachine$Machine;", Cond.fieldLink RX4 48 "TimeMachine$Machine" "retired" "J", Cond.methodLink RX4 52 yX4_set, Cond.instanceMethod yX4_set, Cond.selects RX4 yX4_set yX4_set, Cond.initialized RX4, Cond.fieldLink RX4 137 "TimeMachine$Machine" "clock" "J"] ++ (u_ws RX4 TX4 6 ++ (u_ws RX6 TX6 20 ++ (ow_dm_X4_set ++ []))))
theorem gd_dm_X4_system : ∀ w ∈ ow_dm_X4_system, (w.onTables && w.keeps) = true ∨ ∃ ty, w = Cond.arrayClass ty := List.forall_mem_cons.mpr ⟨good_of_word rfl, List.forall_mem_append.mpr ⟨fun w h => good_of_word (List.all_eq_true.mp (by decide +kernel) w h), List.forall_mem_append.mpr ⟨gu_X4, List.forall_mem_append.mpr ⟨gu_X6, List.forall_mem_append.mpr ⟨gd_dm_X4_set, fun _ h => nomatch h⟩⟩⟩⟩⟩
theorem hi_dm_X4_system_X4 : ∀ w ∈ u_ws RX4 TX4 6, w ∈ ow_dm_X4_system := fun w h => List.mem_cons_of_mem _ (List.mem_append_right _ (List.mem_append_left _ h))
theorem hi_dm_X4_system_X6 : ∀ w ∈ u_ws RX6 TX6 20, w ∈ ow_dm_X4_system := fun w h => List.mem_cons_of_mem _ (List.mem_append_right _ (List.mem_append_right _ (List.mem_append_left _ h)))
theorem gi_dm_X4_system_0 : GoodIn ow_dm_X4_system (wsV RX4 52 RX4 yX4_set ow_dm_X4_set) := goodIn_app (goodIn_of _ (by decide +kernel)) (fun w h => ⟨List.mem_cons_of_mem _ (List.mem_append_right _ (List.mem_append_right _ (List.mem_append_right _ (List.mem_append_left _ h)))), gd_dm_X4_set w h⟩)
def dj_X4_system_33 (p : Program) (l : Launch) (e : Env) (s : State) (m : MethodId) (args : Array Value) (below : List Frame) (meth : Method) (c : Code) (Q : State → Prop) (A : Nat → Prop) (dC : Nat → ClassId) (dI : Nat → Nat → Nat) (a : Nat → Nat) (ac : Nat → ClassId) (g : (St × (St × (St))) → Option (Int32 × (St × (St × (St))))) (r : Int32 × (St × (St × (St)))) : Prop := ∀ (s0 : St × (St × (St))) (H : Heap) (locs : List Loc) (ls : Array Slot), g s0 = some r → va_P (dC, dI) vwCl (dw_X4 a ac s0) H → va_D A (dw_X4 a ac s0) → va_S A s.heap H locs → lv_has ls 3 [] → W p l e (headSpec ow_dm_X4_system ({ frames := 1, cells := 0, slots := 0, locals := 23 })).room s m args below meth c H locs 0 0 Q (F0 m 33 ls [])
def dj_X4_system_96 (p : Program) (l : Launch) (e : Env) (s : State) (m : MethodId) (args : Array Value) (below : List Frame) (meth : Method) (c : Code) (Q : State → Prop) (A : Nat → Prop) (dC : Nat → ClassId) (dI : Nat → Nat → Nat) (a : Nat → Nat) (ac : Nat → ClassId) (g : Int32 → (St × (St × (St))) → Option (Int32 × (St × (St × (St))))) (r : Int32 × (St × (St × (St)))) : Prop := ∀ (x1 : Int32) (s0 : St × (St × (St))) (H : Heap) (locs : List Loc) (ls : Array Slot), g x1 s0 = some r → va_P (dC, dI) vwCl (dw_X4 a ac s0) H → va_D A (dw_X4 a ac s0) → va_S A s.heap H locs → lv_has ls 3 [(0, .ref (a 0)), (1, .int x1)] → W p l e (headSpec ow_dm_X4_system ({ frames := 1, cells := 0, slots := 0, locals := 23 })).room s m args below meth c H locs 0 0 Q (F0 m 96 ls [])
def dj_X4_system_111 (p : Program) (l : Launch) (e : Env) (s : State) (m : MethodId) (args : Array Value) (below : List Frame) (meth : Method) (c : Code) (Q : State → Prop) (A : Nat → Prop) (dC : Nat → ClassId) (dI : Nat → Nat → Nat) (a : Nat → Nat) (ac : Nat → ClassId) (g : Int32 → (St × (St × (St))) → Option (Int32 × (St × (St × (St))))) (r : Int32 × (St × (St × (St)))) : Prop := ∀ (x1 : Int32) (s0 : St × (St × (St))) (H : Heap) (locs : List Loc) (ls : Array Slot), g x1 s0 = some r → va_P (dC, dI) vwCl (dw_X4 a ac s0) H → va_D A (dw_X4 a ac s0) → va_S A s.heap H locs → lv_has ls 3 [(0, .ref (a 0)), (1, .int x1)] → W p l e (headSpec ow_dm_X4_system ({ frames := 1, cells := 0, slots := 0, locals := 23 })).room s m args below meth c H locs 0 0 Q (F0 m 111 ls [])
def dj_X4_system_0 (p : Program) (l : Launch) (e : Env) (s : State) (m : MethodId) (args : Array Value) (below : List Frame) (meth : Method) (c : Code) (Q : State → Prop) (A : Nat → Prop) (dC : Nat → ClassId) (dI : Nat → Nat → Nat) (a : Nat → Nat) (ac : Nat → ClassId) (g : Int32 → Int32 → (St × (St × (St))) → Option (Int32 × (St × (St × (St))))) (r : Int32 × (St × (St × (St)))) : Prop := ∀ (v0 : Int32) (v1 : Int32) (s0 : St × (St × (St))) (H : Heap) (locs : List Loc) (ls : Array Slot), g v0 v1 s0 = some r → va_P (dC, dI) vwCl (dw_X4 a ac s0) H → va_D A (dw_X4 a ac s0) → va_S A s.heap H locs → lv_has ls 3 [(0, .ref (a 0)), (1, .int v0), (2, .int v1)] → W p l e (headSpec ow_dm_X4_system ({ frames := 1, cells := 0, slots := 0, locals := 23 })).room s m args below meth c H locs 0 0 Q (F0 m 0 ls [])
set_option maxHeartbeats 40000000 in
set_option maxRecDepth 100000 in
theorem db_X4_system_33 {p : Program} {l : Launch} {e : Env} {s : State} {m : MethodId} {args : Array Value} {below : List Frame} {meth : Method} {c : Code} {Q : State → Prop} {A : Nat → Prop} {dC : Nat → ClassId} {dI : Nat → Nat → Nat} {a : Nat → Nat} {ac : Nat → ClassId} {n : Nat} {r : Int32 × (St × (St × (St)))} (C : nd_C p l s m args c A (dC, dI) cX4_system 3 RX4 ow_dm_X4_system (dk_X4 ac)) (K : nd_Ki p l e (headSpec ow_dm_X4_system ({ frames := 1, cells := 0, slots := 0, locals := 23 })).room s m args below meth c Q A (dC, dI) cX4_system .int (St × (St × (St))) (dw_X4 a ac) r) : dj_X4_system_33 p l e s m args below meth c Q A dC dI a ac (df_X4_system_33 n) r := by
  obtain ⟨hlt, hx, hb, hml, hown, hts, hN, hA, hK⟩ := id C
  intro s0 H locs ls h hP hD hS hl
  unfold df_X4_system_33 at h
  refine lv_iconst (v := 4) hx hb dX4_system_33 (by decide) ?_
  exact K _ _ _ _ _ _ dX4_system_34 rfl (Option.some.inj h).symm hP hD hS
set_option maxHeartbeats 40000000 in
set_option maxRecDepth 100000 in
theorem db_X4_system_96 {p : Program} {l : Launch} {e : Env} {s : State} {m : MethodId} {args : Array Value} {below : List Frame} {meth : Method} {c : Code} {Q : State → Prop} {A : Nat → Prop} {dC : Nat → ClassId} {dI : Nat → Nat → Nat} {a : Nat → Nat} {ac : Nat → ClassId} {n : Nat} {r : Int32 × (St × (St × (St)))} (C : nd_C p l s m args c A (dC, dI) cX4_system 3 RX4 ow_dm_X4_system (dk_X4 ac)) (K : nd_Ki p l e (headSpec ow_dm_X4_system ({ frames := 1, cells := 0, slots := 0, locals := 23 })).room s m args below meth c Q A (dC, dI) cX4_system .int (St × (St × (St))) (dw_X4 a ac) r) : dj_X4_system_96 p l e s m args below meth c Q A dC dI a ac (df_X4_system_96 n) r := by
  obtain ⟨hlt, hx, hb, hml, hown, hts, hN, hA, hK⟩ := id C
  intro x1 s0 H locs ls h hP hD hS hl
  unfold df_X4_system_96 at h
  refine lv_aload_n hx hb dX4_system_96 rfl (lv_at hl 0 rfl) ?_
  refine lv_iload_n hx hb dX4_system_97 rfl (lv_at hl 1 rfl) ?_
  refine lv_aload_n hx hb dX4_system_98 rfl (lv_at hl 0 rfl) ?_
  refine va_get (D := (dC, dI)) (ci := 5) (v := .ref (a 1)) (C := RX4) (T := TX4) (N := 6) hx hb hts hi_dm_X4_system_X4 hown hK hP 0 rfl rfl 0 (by decide) (hts (.fieldLink RX4 7 "TimeMachine$Hart" "machine" "LTimeMachine$Machine;") (List.mem_of_getElem? (i := 2) rfl)) (fun _ h9 => h9) rfl dX4_system_99 ?_
  refine va_get (D := (dC, dI)) (ci := 7) (v := .long (sL s0.2.1 1)) (C := RX6) (T := TX6) (N := 20) hx hb hts hi_dm_X4_system_X6 hown hK hP 1 rfl rfl 18 (by decide) (hts (.fieldLink RX4 48 "TimeMachine$Machine" "retired" "J") (List.mem_of_getElem? (i := 3) rfl)) (fun _ h9 => h9) rfl dX4_system_102 ?_
  refine lv_l2i hx hb dX4_system_105 rfl ?_
  obtain ⟨s7, hq, h⟩ := nd_b1_e h
  have hPc := hP
  have hDc := hD
  have hKc := hK
  have hFc := nd_rs hD hS hA
  refine nd_cVv (As := [.int x1, .int ((sL s0.2.1 1).toInt32)]) (rest := []) (w' := dw_X4 a ac s7) ⟨hx, hb, hml, hown, hts⟩ (fun sz => dm_X4_set l hlt dC dI a ac n (x1) (((sL s0.2.1 1).toInt32)) s0 hq sz) (cwV 2 hts gi_dm_X4_system_0 rfl rfl rfl (by decide +kernel) ⟨Nat.le_of_ble_eq_true rfl, Nat.le_of_ble_eq_true rfl⟩) hPc hDc hKc hS hA hN (va_recv hKc hPc (ci := 5) (q0 := 0) rfl rfl) rfl hl.1 rfl (Nat.le_of_ble_eq_true rfl) dX4_system_106 (fun H locs hP1 hD1 hk1 hS => ?_)
  have hP := hP1
  have hD := hD1.weaken (fun k q _ h => hFc q.1 h)
  refine lv_iconst (v := 0) hx hb dX4_system_109 (by decide) ?_
  exact K _ _ _ _ _ _ dX4_system_110 rfl (Option.some.inj h).symm hP hD hS
set_option maxHeartbeats 40000000 in
set_option maxRecDepth 100000 in
theorem db_X4_system_111 {p : Program} {l : Launch} {e : Env} {s : State} {m : MethodId} {args : Array Value} {below : List Frame} {meth : Method} {c : Code} {Q : State → Prop} {A : Nat → Prop} {dC : Nat → ClassId} {dI : Nat → Nat → Nat} {a : Nat → Nat} {ac : Nat → ClassId} {n : Nat} {r : Int32 × (St × (St × (St)))} (C : nd_C p l s m args c A (dC, dI) cX4_system 3 RX4 ow_dm_X4_system (dk_X4 ac)) (K : nd_Ki p l e (headSpec ow_dm_X4_system ({ frames := 1, cells := 0, slots := 0, locals := 23 })).room s m args below meth c Q A (dC, dI) cX4_system .int (St × (St × (St))) (dw_X4 a ac) r) : dj_X4_system_111 p l e s m args below meth c Q A dC dI a ac (df_X4_system_111 n) r := by
  obtain ⟨hlt, hx, hb, hml, hown, hts, hN, hA, hK⟩ := id C
  intro x1 s0 H locs ls h hP hD hS hl
  unfold df_X4_system_111 at h
  refine lv_aload_n hx hb dX4_system_111 rfl (lv_at hl 0 rfl) ?_
  refine lv_iload_n hx hb dX4_system_112 rfl (lv_at hl 1 rfl) ?_
  refine lv_aload_n hx hb dX4_system_113 rfl (lv_at hl 0 rfl) ?_
  refine va_get (D := (dC, dI)) (ci := 5) (v := .ref (a 1)) (C := RX4) (T := TX4) (N := 6) hx hb hts hi_dm_X4_system_X4 hown hK hP 0 rfl rfl 0 (by decide) (hts (.fieldLink RX4 7 "TimeMachine$Hart" "machine" "LTimeMachine$Machine;") (List.mem_of_getElem? (i := 2) rfl)) (fun _ h9 => h9) rfl dX4_system_114 ?_
  refine va_get (D := (dC, dI)) (ci := 7) (v := .long (sL s0.2.1 1)) (C := RX6) (T := TX6) (N := 20) hx hb hts hi_dm_X4_system_X6 hown hK hP 1 rfl rfl 18 (by decide) (hts (.fieldLink RX4 48 "TimeMachine$Machine" "retired" "J") (List.mem_of_getElem? (i := 3) rfl)) (fun _ h9 => h9) rfl dX4_system_117 ?_
  refine lv_bipush (v := 32) hx hb dX4_system_120 (by decide) ?_
  refine lv_lshr hx hb dX4_system_122 rfl ?_
  refine lv_l2i hx hb dX4_system_123 rfl ?_
  obtain ⟨s16, hq, h⟩ := nd_b1_e h
  have hPc := hP
  have hDc := hD
  have hKc := hK
  have hFc := nd_rs hD hS hA
  refine nd_cVv (As := [.int x1, .int ((((sL s0.2.1 1) : Int64) >>> ((32 : Int32).toInt64 &&& 63)).toInt32)]) (rest := []) (w' := dw_X4 a ac s16) ⟨hx, hb, hml, hown, hts⟩ (fun sz => dm_X4_set l hlt dC dI a ac n (x1) (((((sL s0.2.1 1) : Int64) >>> ((32 : Int32).toInt64 &&& 63)).toInt32)) s0 hq sz) (cwV 2 hts gi_dm_X4_system_0 rfl rfl rfl (by decide +kernel) ⟨Nat.le_of_ble_eq_true rfl, Nat.le_of_ble_eq_true rfl⟩) hPc hDc hKc hS hA hN (va_recv hKc hPc (ci := 5) (q0 := 0) rfl rfl) rfl hl.1 rfl (Nat.le_of_ble_eq_true rfl) dX4_system_124 (fun H locs hP1 hD1 hk1 hS => ?_)
  have hP := hP1
  have hD := hD1.weaken (fun k q _ h => hFc q.1 h)
  refine lv_iconst (v := 0) hx hb dX4_system_127 (by decide) ?_
  exact K _ _ _ _ _ _ dX4_system_128 rfl (Option.some.inj h).symm hP hD hS
set_option maxHeartbeats 40000000 in
set_option maxRecDepth 100000 in
theorem db_X4_system_0 {p : Program} {l : Launch} {e : Env} {s : State} {m : MethodId} {args : Array Value} {below : List Frame} {meth : Method} {c : Code} {Q : State → Prop} {A : Nat → Prop} {dC : Nat → ClassId} {dI : Nat → Nat → Nat} {a : Nat → Nat} {ac : Nat → ClassId} {n : Nat} {r : Int32 × (St × (St × (St)))} (C : nd_C p l s m args c A (dC, dI) cX4_system 3 RX4 ow_dm_X4_system (dk_X4 ac)) (K : nd_Ki p l e (headSpec ow_dm_X4_system ({ frames := 1, cells := 0, slots := 0, locals := 23 })).room s m args below meth c Q A (dC, dI) cX4_system .int (St × (St × (St))) (dw_X4 a ac) r) : dj_X4_system_0 p l e s m args below meth c Q A dC dI a ac (df_X4_system_0 n) r := by
  obtain ⟨hlt, hx, hb, hml, hown, hts, hN, hA, hK⟩ := id C
  intro v0 v1 s0 H locs ls h hP hD hS hl
  unfold df_X4_system_0 at h
  refine lv_iload_n hx hb dX4_system_0 rfl (lv_at hl 1 rfl) ?_
  refine lv_bipush (v := 115) hx hb dX4_system_1 (by decide) ?_
  refine lv_icmp_ne (tgt := 8) hx hb dX4_system_3 (by decide) (fun c1 => ?_) (fun c1 => ?_)
  · have h := nd_neg h c1
    refine lv_iload_n hx hb dX4_system_8 rfl (lv_at hl 1 rfl) ?_
    refine lv_ldc hx hb hown (hts (.constant RX4 136 (1048691)) (List.mem_of_getElem? (i := 1) rfl)) dX4_system_9 ?_
    refine lv_icmp_ne (tgt := 16) hx hb dX4_system_11 (by decide) (fun c2 => ?_) (fun c2 => ?_)
    · have h := nd_neg h c2
      refine lv_iload_n hx hb dX4_system_16 rfl (lv_at hl 2 rfl) ?_
      refine lv_iconst (v := 3) hx hb dX4_system_17 (by decide) ?_
      refine lv_iand hx hb dX4_system_18 ?_
      refine lv_iconst (v := 2) hx hb dX4_system_19 (by decide) ?_
      refine lv_icmp_lt (tgt := 33) hx hb dX4_system_20 (by decide) (fun c3 => ?_) (fun c3 => ?_)
      · have h := nd_pos h c3
        exact (db_X4_system_33 C K)  s0 _ _ _ h hP hD hS (lv_sub hl [] rfl)
      · have h := nd_neg h c3
        refine lv_iload_n hx hb dX4_system_23 rfl (lv_at hl 1 rfl) ?_
        refine lv_bipush (v := 15) hx hb dX4_system_24 (by decide) ?_
        refine lv_ishr hx hb dX4_system_26 ?_
        refine lv_bipush (v := 31) hx hb dX4_system_27 (by decide) ?_
        refine lv_iand hx hb dX4_system_29 ?_
        refine lv_if_eq (tgt := 35) hx hb dX4_system_30 (by decide) (fun c4 => ?_) (fun c4 => ?_)
        · have h := nd_pos h c4
          refine lv_iload_n hx hb dX4_system_35 rfl (lv_at hl 1 rfl) ?_
          refine lv_bipush (v := 20) hx hb dX4_system_36 (by decide) ?_
          refine lv_iushr hx hb dX4_system_38 rfl ?_
          by_cases c5 : (((v0 : Int32).toUInt32 >>> ((20 : Int32).toUInt32 &&& Int32.toUInt32 31)).toInt32) = 3072
          · have h := nd_pos h c5
            refine lv_lookup (off := 57) (tgt := 96) hx hb dX4_system_39 (by decide) (by rw [c5]; decide) (by decide) ?_
            exact (db_X4_system_96 C K) (v0) s0 _ _ _ h hP hD hS (lv_sub hl [0, 1] rfl)
          have h := nd_neg h c5
          by_cases c9 : (((v0 : Int32).toUInt32 >>> ((20 : Int32).toUInt32 &&& Int32.toUInt32 31)).toInt32) = 3073
          · have h := nd_pos h c9
            refine lv_lookup (off := 90) (tgt := 129) hx hb dX4_system_39 (by decide) (by rw [c9]; decide) (by decide) ?_
            refine lv_aload_n hx hb dX4_system_129 rfl (lv_at hl 0 rfl) ?_
            refine lv_iload_n hx hb dX4_system_130 rfl (lv_at hl 1 rfl) ?_
            refine lv_aload_n hx hb dX4_system_131 rfl (lv_at hl 0 rfl) ?_
            refine va_get (D := (dC, dI)) (ci := 5) (v := .ref (a 1)) (C := RX4) (T := TX4) (N := 6) hx hb hts hi_dm_X4_system_X4 hown hK hP 0 rfl rfl 0 (by decide) (hts (.fieldLink RX4 7 "TimeMachine$Hart" "machine" "LTimeMachine$Machine;") (List.mem_of_getElem? (i := 2) rfl)) (fun _ h9 => h9) rfl dX4_system_132 ?_
            refine va_get (D := (dC, dI)) (ci := 7) (v := .long (sL s0.2.1 0)) (C := RX6) (T := TX6) (N := 20) hx hb hts hi_dm_X4_system_X6 hown hK hP 1 rfl rfl 17 (by decide) (hts (.fieldLink RX4 137 "TimeMachine$Machine" "clock" "J") (List.mem_of_getElem? (i := 8) rfl)) (fun _ h9 => h9) rfl dX4_system_135 ?_
            refine lv_l2i hx hb dX4_system_138 rfl ?_
            obtain ⟨s11, hq, h⟩ := nd_b1_e h
            have hPc := hP
            have hDc := hD
            have hKc := hK
            have hFc := nd_rs hD hS hA
            refine nd_cVv (As := [.int v0, .int ((sL s0.2.1 0).toInt32)]) (rest := []) (w' := dw_X4 a ac s11) ⟨hx, hb, hml, hown, hts⟩ (fun sz => dm_X4_set l hlt dC dI a ac n (v0) (((sL s0.2.1 0).toInt32)) s0 hq sz) (cwV 2 hts gi_dm_X4_system_0 rfl rfl rfl (by decide +kernel) ⟨Nat.le_of_ble_eq_true rfl, Nat.le_of_ble_eq_true rfl⟩) hPc hDc hKc hS hA hN (va_recv hKc hPc (ci := 5) (q0 := 0) rfl rfl) rfl hl.1 rfl (Nat.le_of_ble_eq_true rfl) dX4_system_139 (fun H locs hP1 hD1 hk1 hS => ?_)
            have hP := hP1
            have hD := hD1.weaken (fun k q _ h => hFc q.1 h)
            refine lv_iconst (v := 0) hx hb dX4_system_142 (by decide) ?_
            exact K _ _ _ _ _ _ dX4_system_143 rfl (Option.some.inj h).symm hP hD hS
          have h := nd_neg h c9
          by_cases c13 : (((v0 : Int32).toUInt32 >>> ((20 : Int32).toUInt32 &&& Int32.toUInt32 31)).toInt32) = 3074
          · have h := nd_pos h c13
            refine lv_lookup (off := 57) (tgt := 96) hx hb dX4_system_39 (by decide) (by rw [c13]; decide) (by decide) ?_
            exact (db_X4_system_96 C K) (v0) s0 _ _ _ h hP hD hS (lv_sub hl [0, 1] rfl)
          have h := nd_neg h c13
          by_cases c14 : (((v0 : Int32).toUInt32 >>> ((20 : Int32).toUInt32 &&& Int32.toUInt32 31)).toInt32) = 3200
          · have h := nd_pos h c14
            refine lv_lookup (off := 72) (tgt := 111) hx hb dX4_system_39 (by decide) (by rw [c14]; decide) (by decide) ?_
            exact (db_X4_system_111 C K) (v0) s0 _ _ _ h hP hD hS (lv_sub hl [0, 1] rfl)
          have h := nd_neg h c14
          by_cases c18 : (((v0 : Int32).toUInt32 >>> ((20 : Int32).toUInt32 &&& Int32.toUInt32 31)).toInt32) = 3201
          · have h := nd_pos h c18
            refine lv_lookup (off := 105) (tgt := 144) hx hb dX4_system_39 (by decide) (by rw [c18]; decide) (by decide) ?_
            refine lv_aload_n hx hb dX4_system_144 rfl (lv_at hl 0 rfl) ?_
            refine lv_iload_n hx hb dX4_system_145 rfl (lv_at hl 1 rfl) ?_
            refine lv_aload_n hx hb dX4_system_146 rfl (lv_at hl 0 rfl) ?_
            refine va_get (D := (dC, dI)) (ci := 5) (v := .ref (a 1)) (C := RX4) (T := TX4) (N := 6) hx hb hts hi_dm_X4_system_X4 hown hK hP 0 rfl rfl 0 (by decide) (hts (.fieldLink RX4 7 "TimeMachine$Hart" "machine" "LTimeMachine$Machine;") (List.mem_of_getElem? (i := 2) rfl)) (fun _ h9 => h9) rfl dX4_system_147 ?_
            refine va_get (D := (dC, dI)) (ci := 7) (v := .long (sL s0.2.1 0)) (C := RX6) (T := TX6) (N := 20) hx hb hts hi_dm_X4_system_X6 hown hK hP 1 rfl rfl 17 (by decide) (hts (.fieldLink RX4 137 "TimeMachine$Machine" "clock" "J") (List.mem_of_getElem? (i := 8) rfl)) (fun _ h9 => h9) rfl dX4_system_150 ?_
            refine lv_bipush (v := 32) hx hb dX4_system_153 (by decide) ?_
            refine lv_lshr hx hb dX4_system_155 rfl ?_
            refine lv_l2i hx hb dX4_system_156 rfl ?_
            obtain ⟨s20, hq, h⟩ := nd_b1_e h
            have hPc := hP
            have hDc := hD
            have hKc := hK
            have hFc := nd_rs hD hS hA
            refine nd_cVv (As := [.int v0, .int ((((sL s0.2.1 0) : Int64) >>> ((32 : Int32).toInt64 &&& 63)).toInt32)]) (rest := []) (w' := dw_X4 a ac s20) ⟨hx, hb, hml, hown, hts⟩ (fun sz => dm_X4_set l hlt dC dI a ac n (v0) (((((sL s0.2.1 0) : Int64) >>> ((32 : Int32).toInt64 &&& 63)).toInt32)) s0 hq sz) (cwV 2 hts gi_dm_X4_system_0 rfl rfl rfl (by decide +kernel) ⟨Nat.le_of_ble_eq_true rfl, Nat.le_of_ble_eq_true rfl⟩) hPc hDc hKc hS hA hN (va_recv hKc hPc (ci := 5) (q0 := 0) rfl rfl) rfl hl.1 rfl (Nat.le_of_ble_eq_true rfl) dX4_system_157 (fun H locs hP1 hD1 hk1 hS => ?_)
            have hP := hP1
            have hD := hD1.weaken (fun k q _ h => hFc q.1 h)
            refine lv_iconst (v := 0) hx hb dX4_system_160 (by decide) ?_
            exact K _ _ _ _ _ _ dX4_system_161 rfl (Option.some.inj h).symm hP hD hS
          have h := nd_neg h c18
          by_cases c22 : (((v0 : Int32).toUInt32 >>> ((20 : Int32).toUInt32 &&& Int32.toUInt32 31)).toInt32) = 3202
          · have h := nd_pos h c22
            refine lv_lookup (off := 72) (tgt := 111) hx hb dX4_system_39 (by decide) (by rw [c22]; decide) (by decide) ?_
            exact (db_X4_system_111 C K) (v0) s0 _ _ _ h hP hD hS (lv_sub hl [0, 1] rfl)
          have h := nd_neg h c22
          refine lv_lookup (off := 123) (tgt := 162) hx hb dX4_system_39 (by decide) (show Op.lookupswitch.offset [(3072, 57), (3073, 90), (3074, 57), (3200, 72), (3201, 105), (3202, 72)] 123 ((((v0 : Int32).toUInt32 >>> ((20 : Int32).toUInt32 &&& Int32.toUInt32 31)).toInt32) : Int32).toInt = 123 by rw [lv_osw c5 (by decide), lv_osw c9 (by decide), lv_osw c13 (by decide), lv_osw c14 (by decide), lv_osw c18 (by decide), lv_osw c22 (by decide)] <;> rfl) (by decide) ?_
          refine lv_iconst (v := 4) hx hb dX4_system_162 (by decide) ?_
          exact K _ _ _ _ _ _ dX4_system_163 rfl (Option.some.inj h).symm hP hD hS
        · have h := nd_neg h c4
          exact (db_X4_system_33 C K)  s0 _ _ _ h hP hD hS (lv_sub hl [] rfl)
    · have h := nd_pos h c2
      refine lv_iconst (v := 5) hx hb dX4_system_14 (by decide) ?_
      exact K _ _ _ _ _ _ dX4_system_15 rfl (Option.some.inj h).symm hP hD hS
  · have h := nd_pos h c1
    refine lv_iconst (v := (-1)) hx hb dX4_system_6 (by decide) ?_
    exact K _ _ _ _ _ _ dX4_system_7 rfl (Option.some.inj h).symm hP hD hS
set_option maxHeartbeats 40000000 in
set_option maxRecDepth 100000 in
theorem dm_X4_system (l : Launch) (hlt : l.stackTraces = false) (dC : Nat → ClassId) (dI : Nat → Nat → Nat) (a : Nat → Nat) (ac : Nat → ClassId) (n : Nat) (v0 : Int32) (v1 : Int32) (s0 : St × (St × (St))) {r : Int32 × (St × (St × (St)))} (h : df_X4_system n v0 v1 s0 = some r) (sz : Nat) : Met l yX4_system ow_dm_X4_system ({ frames := 1, cells := 0, slots := 0, locals := 23 }) (va_Pc [.ref (a 0), .int v0, .int v1] (fun U => U.heap.size = sz ∧ va_P (dC, dI) vwCl (dw_X4 a ac s0) U.heap ∧ va_K (dC, dI) vwCl (dk_X4 ac) U ∧ va_D (fun _ => True) (dw_X4 a ac s0) ∧ nv_E dI (va_A (dw_X4 a ac s0) sz) U)) (va_Qi (fun x _ => x = r.1) (fun (_ : Unit) t => va_P (dC, dI) vwCl (dw_X4 a ac r.2) t.heap ∧ va_K (dC, dI) vwCl (dk_X4 ac) t ∧ va_D (va_A (dw_X4 a ac s0) sz) (dw_X4 a ac r.2)) (va_A (dw_X4 a ac s0) sz)) 0 0 (va_A (dw_X4 a ac s0) sz) := by
  refine Met.ofW (cc := cX4_system) (maxL := 3) (ret := (some .int)) (by decide) rfl ?_
  intro p e s m args below meth c s₁ B hml hv
  obtain ⟨rfl, hsz, hP, hK, hD0, hN⟩ := hv
  have hx := B.exec
  have hb := B.bytes
  have hr := B.returns
  have hts := atoms_spec (ws := ow_dm_X4_system) B.pre
  have hown : s.vm.findClass RX4 = some m.cls := findClass_of_methodNamed B.named
  have hlocks := B.notSynchronized
  subst hsz
  have hD := hD0.self (sz := s.heap.size)
  generalize hAe : va_A (dw_X4 a ac s0) s.heap.size = A at hD hN ⊢
  have hA : ∀ q : Nat, s.heap.size ≤ q → A q := fun q h => by rw [← hAe]; exact Or.inr h
  have hl := lv_entry ([.ref (a 0), .int v0, .int v1]) (n := 3) (Nat.le_of_ble_eq_true rfl)
  rw [lg_entry_eq]
  generalize (lg_sl ([.ref (a 0), .int v0, .int v1]) ++ List.replicate (3 - (lg_sl ([.ref (a 0), .int v0, .int v1])).length) Slot.unset).toArray = ls at hl ⊢
  have hl : lv_has ls 3 [(0, .ref (a 0)), (1, .int v0), (2, .int v1)] := hl
  exact db_X4_system_0 (dC := dC) (dI := dI) (a := a) (ac := ac) (n := n) (r := r) ⟨hlt, hx, hb, hml, hown, hts, hN, hA, hK⟩ (fun pc v τ H locs ls d z er hP hD hS => by subst er; exact W.zret (v := v) hx hb hr z (fun t ht hW => ⟨⟨v, (), rfl, rfl, by rw [ht]; exact hP, va_K.moved hW.alike hK, hD⟩, hS.F ht⟩) hS.2.2 d) v0 v1 s0 _ _ _ h hP hD va_S.rf (lv_sub hl [0, 1, 2] rfl)
def ow_dm_X4_work : List Cond := Cond.code yX4_work cX4_work 5 (some .int) :: ([Cond.fieldLink RX4 19 "TimeMachine$Hart" "reg" "[I", Cond.fieldLink RX4 24 "TimeMachine$Hart" "base" "I", Cond.methodLink RX4 66 yX4_load, Cond.instanceMethod yX4_load, Cond.selects RX4 yX4_load yX4_load, Cond.initialized RX4, Cond.methodLink RX4 73 yX4_workWithNumber, Cond.instanceMethod yX4_workWithNumber, Cond.selects RX4 yX4_workWithNumber yX4_workWithNumber, Cond.fieldLink RX4 27 "TimeMachine$Hart" "place" "I", Cond.methodLink RX4 52 yX4_set, Cond.instanceMethod yX4_set, Cond.selects RX4 yX4_set yX4_set, Cond.methodLink RX4 70 yX4_store, Cond.instanceMethod yX4_store, Cond.selects RX4 yX4_store yX4_store, Cond.methodLink RX4 82 yX4_atomic, Cond.instanceMethod yX4_atomic, Cond.selects RX4 yX4_atomic yX4_atomic, Cond.methodLink RX4 79 yX4_workWithRegister, Cond.instanceMethod yX4_workWithRegister, Cond.selects RX4 yX4_workWithRegister yX4_workWithRegister, Cond.methodLink RX4 76 yX4_multiply, Cond.instanceMethod yX4_multiply, Cond.selects RX4 yX4_multiply yX4_multiply, Cond.methodLink RX4 62 yX4_branch, Cond.instanceMethod yX4_branch, Cond.selects RX4 yX4_branch yX4_branch, Cond.methodLink RX4 59 yX4_jump, Cond.instanceMethod yX4_jump, Cond.selects RX4 yX4_jump yX4_jump, Cond.fieldLink RX4 38 "TimeMachine$Hart" "next" "I", Cond.methodLink RX4 56 yX4_jumpOffset, Cond.static yX4_jumpOffset, Cond.methodLink RX4 85 yX4_system, Cond.instanceMethod yX4_system, Cond.selects RX4 yX4_system yX4_system] ++ (u_ws RX4 TX4 6 ++ (ow_dm_X4_load ++ (ow_dm_X4_workWithNumber ++ (ow_dm_X4_set ++ (ow_dm_X4_store ++ (ow_dm_X4_atomic ++ (ow_dm_X4_workWithRegister ++ (ow_dm_X4_multiply ++ (ow_dm_X4_branch ++ (ow_dm_X4_jump ++ (ow_dm_X4_jumpOffset ++ (ow_dm_X4_system ++ [])))))))))))))
theorem gd_dm_X4_work : ∀ w ∈ ow_dm_X4_work, (w.onTables && w.keeps) = true ∨ ∃ ty, w = Cond.arrayClass ty := List.forall_mem_cons.mpr ⟨good_of_word rfl, List.forall_mem_append.mpr ⟨fun w h => good_of_word (List.all_eq_true.mp (by decide +kernel) w h), List.forall_mem_append.mpr ⟨gu_X4, List.forall_mem_append.mpr ⟨gd_dm_X4_load, List.forall_mem_append.mpr ⟨gd_dm_X4_workWithNumber, List.forall_mem_append.mpr ⟨gd_dm_X4_set, List.forall_mem_append.mpr ⟨gd_dm_X4_store, List.forall_mem_append.mpr ⟨gd_dm_X4_atomic, List.forall_mem_append.mpr ⟨gd_dm_X4_workWithRegister, List.forall_mem_append.mpr ⟨gd_dm_X4_multiply, List.forall_mem_append.mpr ⟨gd_dm_X4_branch, List.forall_mem_append.mpr ⟨gd_dm_X4_jump, List.forall_mem_append.mpr ⟨gd_dm_X4_jumpOffset, List.forall_mem_append.mpr ⟨gd_dm_X4_system, fun _ h => nomatch h⟩⟩⟩⟩⟩⟩⟩⟩⟩⟩⟩⟩⟩⟩
theorem hi_dm_X4_work_X4 : ∀ w ∈ u_ws RX4 TX4 6, w ∈ ow_dm_X4_work := fun w h => List.mem_cons_of_mem _ (List.mem_append_right _ (List.mem_append_left _ h))
theorem gi_dm_X4_work_0 : GoodIn ow_dm_X4_work (wsV RX4 66 RX4 yX4_load ow_dm_X4_load) := goodIn_app (goodIn_of _ (by decide +kernel)) (fun w h => ⟨List.mem_cons_of_mem _ (List.mem_append_right _ (List.mem_append_right _ (List.mem_append_left _ h))), gd_dm_X4_load w h⟩)
theorem gi_dm_X4_work_1 : GoodIn ow_dm_X4_work (wsV RX4 73 RX4 yX4_workWithNumber ow_dm_X4_workWithNumber) := goodIn_app (goodIn_of _ (by decide +kernel)) (fun w h => ⟨List.mem_cons_of_mem _ (List.mem_append_right _ (List.mem_append_right _ (List.mem_append_right _ (List.mem_append_left _ h)))), gd_dm_X4_workWithNumber w h⟩)
theorem gi_dm_X4_work_2 : GoodIn ow_dm_X4_work (wsV RX4 52 RX4 yX4_set ow_dm_X4_set) := goodIn_app (goodIn_of _ (by decide +kernel)) (fun w h => ⟨List.mem_cons_of_mem _ (List.mem_append_right _ (List.mem_append_right _ (List.mem_append_right _ (List.mem_append_right _ (List.mem_append_left _ h))))), gd_dm_X4_set w h⟩)
theorem gi_dm_X4_work_3 : GoodIn ow_dm_X4_work (wsV RX4 70 RX4 yX4_store ow_dm_X4_store) := goodIn_app (goodIn_of _ (by decide +kernel)) (fun w h => ⟨List.mem_cons_of_mem _ (List.mem_append_right _ (List.mem_append_right _ (List.mem_append_right _ (List.mem_append_right _ (List.mem_append_right _ (List.mem_append_left _ h)))))), gd_dm_X4_store w h⟩)
theorem gi_dm_X4_work_4 : GoodIn ow_dm_X4_work (wsV RX4 82 RX4 yX4_atomic ow_dm_X4_atomic) := goodIn_app (goodIn_of _ (by decide +kernel)) (fun w h => ⟨List.mem_cons_of_mem _ (List.mem_append_right _ (List.mem_append_right _ (List.mem_append_right _ (List.mem_append_right _ (List.mem_append_right _ (List.mem_append_right _ (List.mem_append_left _ h))))))), gd_dm_X4_atomic w h⟩)
theorem gi_dm_X4_work_5 : GoodIn ow_dm_X4_work (wsV RX4 79 RX4 yX4_workWithRegister ow_dm_X4_workWithRegister) := goodIn_app (goodIn_of _ (by decide +kernel)) (fun w h => ⟨List.mem_cons_of_mem _ (List.mem_append_right _ (List.mem_append_right _ (List.mem_append_right _ (List.mem_append_right _ (List.mem_append_right _ (List.mem_append_right _ (List.mem_append_right _ (List.mem_append_left _ h)))))))), gd_dm_X4_workWithRegister w h⟩)
theorem gi_dm_X4_work_6 : GoodIn ow_dm_X4_work (wsV RX4 76 RX4 yX4_multiply ow_dm_X4_multiply) := goodIn_app (goodIn_of _ (by decide +kernel)) (fun w h => ⟨List.mem_cons_of_mem _ (List.mem_append_right _ (List.mem_append_right _ (List.mem_append_right _ (List.mem_append_right _ (List.mem_append_right _ (List.mem_append_right _ (List.mem_append_right _ (List.mem_append_right _ (List.mem_append_left _ h))))))))), gd_dm_X4_multiply w h⟩)
theorem gi_dm_X4_work_7 : GoodIn ow_dm_X4_work (wsV RX4 62 RX4 yX4_branch ow_dm_X4_branch) := goodIn_app (goodIn_of _ (by decide +kernel)) (fun w h => ⟨List.mem_cons_of_mem _ (List.mem_append_right _ (List.mem_append_right _ (List.mem_append_right _ (List.mem_append_right _ (List.mem_append_right _ (List.mem_append_right _ (List.mem_append_right _ (List.mem_append_right _ (List.mem_append_right _ (List.mem_append_left _ h)))))))))), gd_dm_X4_branch w h⟩)
theorem gi_dm_X4_work_8 : GoodIn ow_dm_X4_work (wsV RX4 59 RX4 yX4_jump ow_dm_X4_jump) := goodIn_app (goodIn_of _ (by decide +kernel)) (fun w h => ⟨List.mem_cons_of_mem _ (List.mem_append_right _ (List.mem_append_right _ (List.mem_append_right _ (List.mem_append_right _ (List.mem_append_right _ (List.mem_append_right _ (List.mem_append_right _ (List.mem_append_right _ (List.mem_append_right _ (List.mem_append_right _ (List.mem_append_left _ h))))))))))), gd_dm_X4_jump w h⟩)
theorem gi_dm_X4_work_9 : GoodIn ow_dm_X4_work (wsS RX4 56 yX4_jumpOffset ow_dm_X4_jumpOffset) := goodIn_app (goodIn_of _ (by decide +kernel)) (fun w h => ⟨List.mem_cons_of_mem _ (List.mem_append_right _ (List.mem_append_right _ (List.mem_append_right _ (List.mem_append_right _ (List.mem_append_right _ (List.mem_append_right _ (List.mem_append_right _ (List.mem_append_right _ (List.mem_append_right _ (List.mem_append_right _ (List.mem_append_right _ (List.mem_append_left _ h)))))))))))), gd_dm_X4_jumpOffset w h⟩)
theorem gi_dm_X4_work_10 : GoodIn ow_dm_X4_work (wsV RX4 85 RX4 yX4_system ow_dm_X4_system) := goodIn_app (goodIn_of _ (by decide +kernel)) (fun w h => ⟨List.mem_cons_of_mem _ (List.mem_append_right _ (List.mem_append_right _ (List.mem_append_right _ (List.mem_append_right _ (List.mem_append_right _ (List.mem_append_right _ (List.mem_append_right _ (List.mem_append_right _ (List.mem_append_right _ (List.mem_append_right _ (List.mem_append_right _ (List.mem_append_right _ (List.mem_append_left _ h))))))))))))), gd_dm_X4_system w h⟩)
def dj_X4_work_346 (p : Program) (l : Launch) (e : Env) (s : State) (m : MethodId) (args : Array Value) (below : List Frame) (meth : Method) (c : Code) (Q : State → Prop) (A : Nat → Prop) (dC : Nat → ClassId) (dI : Nat → Nat → Nat) (a : Nat → Nat) (ac : Nat → ClassId) (g : Int32 → (St × (St × (St))) → Option (Int32 × (St × (St × (St))))) (r : Int32 × (St × (St × (St)))) : Prop := ∀ (y0 : Int32) (s0 : St × (St × (St))) (H : Heap) (locs : List Loc) (ls : Array Slot), g y0 s0 = some r → va_P (dC, dI) vwCl (dw_X4 a ac s0) H → va_D A (dw_X4 a ac s0) → va_S A s.heap H locs → lv_has ls 5 [] → W p l e (headSpec ow_dm_X4_work ({ frames := 4, cells := 0, slots := 0, locals := 92 })).room s m args below meth c H locs 0 0 Q (F0 m 346 ls [.int y0])
def dj_X4_work_334 (p : Program) (l : Launch) (e : Env) (s : State) (m : MethodId) (args : Array Value) (below : List Frame) (meth : Method) (c : Code) (Q : State → Prop) (A : Nat → Prop) (dC : Nat → ClassId) (dI : Nat → Nat → Nat) (a : Nat → Nat) (ac : Nat → ClassId) (g : Int32 → (St × (St × (St))) → Option (Int32 × (St × (St × (St))))) (r : Int32 × (St × (St × (St)))) : Prop := ∀ (y0 : Int32) (s0 : St × (St × (St))) (H : Heap) (locs : List Loc) (ls : Array Slot), g y0 s0 = some r → va_P (dC, dI) vwCl (dw_X4 a ac s0) H → va_D A (dw_X4 a ac s0) → va_S A s.heap H locs → lv_has ls 5 [] → W p l e (headSpec ow_dm_X4_work ({ frames := 4, cells := 0, slots := 0, locals := 92 })).room s m args below meth c H locs 0 0 Q (F0 m 334 ls [.int y0])
def dj_X4_work_316 (p : Program) (l : Launch) (e : Env) (s : State) (m : MethodId) (args : Array Value) (below : List Frame) (meth : Method) (c : Code) (Q : State → Prop) (A : Nat → Prop) (dC : Nat → ClassId) (dI : Nat → Nat → Nat) (a : Nat → Nat) (ac : Nat → ClassId) (g : Int32 → (St × (St × (St))) → Option (Int32 × (St × (St × (St))))) (r : Int32 × (St × (St × (St)))) : Prop := ∀ (y0 : Int32) (s0 : St × (St × (St))) (H : Heap) (locs : List Loc) (ls : Array Slot), g y0 s0 = some r → va_P (dC, dI) vwCl (dw_X4 a ac s0) H → va_D A (dw_X4 a ac s0) → va_S A s.heap H locs → lv_has ls 5 [] → W p l e (headSpec ow_dm_X4_work ({ frames := 4, cells := 0, slots := 0, locals := 92 })).room s m args below meth c H locs 0 0 Q (F0 m 316 ls [.int y0])
def dj_X4_work_229 (p : Program) (l : Launch) (e : Env) (s : State) (m : MethodId) (args : Array Value) (below : List Frame) (meth : Method) (c : Code) (Q : State → Prop) (A : Nat → Prop) (dC : Nat → ClassId) (dI : Nat → Nat → Nat) (a : Nat → Nat) (ac : Nat → ClassId) (g : Int32 → (St × (St × (St))) → Option (Int32 × (St × (St × (St))))) (r : Int32 × (St × (St × (St)))) : Prop := ∀ (y0 : Int32) (s0 : St × (St × (St))) (H : Heap) (locs : List Loc) (ls : Array Slot), g y0 s0 = some r → va_P (dC, dI) vwCl (dw_X4 a ac s0) H → va_D A (dw_X4 a ac s0) → va_S A s.heap H locs → lv_has ls 5 [] → W p l e (headSpec ow_dm_X4_work ({ frames := 4, cells := 0, slots := 0, locals := 92 })).room s m args below meth c H locs 0 0 Q (F0 m 229 ls [.int y0])
def dj_X4_work_0 (p : Program) (l : Launch) (e : Env) (s : State) (m : MethodId) (args : Array Value) (below : List Frame) (meth : Method) (c : Code) (Q : State → Prop) (A : Nat → Prop) (dC : Nat → ClassId) (dI : Nat → Nat → Nat) (a : Nat → Nat) (ac : Nat → ClassId) (g : Int32 → (St × (St × (St))) → Option (Int32 × (St × (St × (St))))) (r : Int32 × (St × (St × (St)))) : Prop := ∀ (v0 : Int32) (s0 : St × (St × (St))) (H : Heap) (locs : List Loc) (ls : Array Slot), g v0 s0 = some r → va_P (dC, dI) vwCl (dw_X4 a ac s0) H → va_D A (dw_X4 a ac s0) → va_S A s.heap H locs → lv_has ls 5 [(0, .ref (a 0)), (1, .int v0)] → W p l e (headSpec ow_dm_X4_work ({ frames := 4, cells := 0, slots := 0, locals := 92 })).room s m args below meth c H locs 0 0 Q (F0 m 0 ls [])
set_option maxHeartbeats 40000000 in
set_option maxRecDepth 100000 in
theorem db_X4_work_346 {p : Program} {l : Launch} {e : Env} {s : State} {m : MethodId} {args : Array Value} {below : List Frame} {meth : Method} {c : Code} {Q : State → Prop} {A : Nat → Prop} {dC : Nat → ClassId} {dI : Nat → Nat → Nat} {a : Nat → Nat} {ac : Nat → ClassId} {n : Nat} {r : Int32 × (St × (St × (St)))} (C : nd_C p l s m args c A (dC, dI) cX4_work 5 RX4 ow_dm_X4_work (dk_X4 ac)) (K : nd_Ki p l e (headSpec ow_dm_X4_work ({ frames := 4, cells := 0, slots := 0, locals := 92 })).room s m args below meth c Q A (dC, dI) cX4_work .int (St × (St × (St))) (dw_X4 a ac) r) : dj_X4_work_346 p l e s m args below meth c Q A dC dI a ac (df_X4_work_346 n) r := by
  obtain ⟨hlt, hx, hb, hml, hown, hts, hN, hA, hK⟩ := id C
  intro y0 s0 H locs ls h hP hD hS hl
  unfold df_X4_work_346 at h
  exact K _ _ _ _ _ _ dX4_work_346 rfl (Option.some.inj h).symm hP hD hS
set_option maxHeartbeats 40000000 in
set_option maxRecDepth 100000 in
theorem db_X4_work_334 {p : Program} {l : Launch} {e : Env} {s : State} {m : MethodId} {args : Array Value} {below : List Frame} {meth : Method} {c : Code} {Q : State → Prop} {A : Nat → Prop} {dC : Nat → ClassId} {dI : Nat → Nat → Nat} {a : Nat → Nat} {ac : Nat → ClassId} {n : Nat} {r : Int32 × (St × (St × (St)))} (C : nd_C p l s m args c A (dC, dI) cX4_work 5 RX4 ow_dm_X4_work (dk_X4 ac)) (K : nd_Ki p l e (headSpec ow_dm_X4_work ({ frames := 4, cells := 0, slots := 0, locals := 92 })).room s m args below meth c Q A (dC, dI) cX4_work .int (St × (St × (St))) (dw_X4 a ac) r) : dj_X4_work_334 p l e s m args below meth c Q A dC dI a ac (df_X4_work_334 n) r := by
  obtain ⟨hlt, hx, hb, hml, hown, hts, hN, hA, hK⟩ := id C
  intro y0 s0 H locs ls h hP hD hS hl
  unfold df_X4_work_334 at h
  exact K _ _ _ _ _ _ dX4_work_334 rfl (Option.some.inj h).symm hP hD hS
set_option maxHeartbeats 40000000 in
set_option maxRecDepth 100000 in
theorem db_X4_work_316 {p : Program} {l : Launch} {e : Env} {s : State} {m : MethodId} {args : Array Value} {below : List Frame} {meth : Method} {c : Code} {Q : State → Prop} {A : Nat → Prop} {dC : Nat → ClassId} {dI : Nat → Nat → Nat} {a : Nat → Nat} {ac : Nat → ClassId} {n : Nat} {r : Int32 × (St × (St × (St)))} (C : nd_C p l s m args c A (dC, dI) cX4_work 5 RX4 ow_dm_X4_work (dk_X4 ac)) (K : nd_Ki p l e (headSpec ow_dm_X4_work ({ frames := 4, cells := 0, slots := 0, locals := 92 })).room s m args below meth c Q A (dC, dI) cX4_work .int (St × (St × (St))) (dw_X4 a ac) r) : dj_X4_work_316 p l e s m args below meth c Q A dC dI a ac (df_X4_work_316 n) r := by
  obtain ⟨hlt, hx, hb, hml, hown, hts, hN, hA, hK⟩ := id C
  intro y0 s0 H locs ls h hP hD hS hl
  unfold df_X4_work_316 at h
  exact K _ _ _ _ _ _ dX4_work_316 rfl (Option.some.inj h).symm hP hD hS
set_option maxHeartbeats 40000000 in
set_option maxRecDepth 100000 in
theorem db_X4_work_229 {p : Program} {l : Launch} {e : Env} {s : State} {m : MethodId} {args : Array Value} {below : List Frame} {meth : Method} {c : Code} {Q : State → Prop} {A : Nat → Prop} {dC : Nat → ClassId} {dI : Nat → Nat → Nat} {a : Nat → Nat} {ac : Nat → ClassId} {n : Nat} {r : Int32 × (St × (St × (St)))} (C : nd_C p l s m args c A (dC, dI) cX4_work 5 RX4 ow_dm_X4_work (dk_X4 ac)) (K : nd_Ki p l e (headSpec ow_dm_X4_work ({ frames := 4, cells := 0, slots := 0, locals := 92 })).room s m args below meth c Q A (dC, dI) cX4_work .int (St × (St × (St))) (dw_X4 a ac) r) : dj_X4_work_229 p l e s m args below meth c Q A dC dI a ac (df_X4_work_229 n) r := by
  obtain ⟨hlt, hx, hb, hml, hown, hts, hN, hA, hK⟩ := id C
  intro y0 s0 H locs ls h hP hD hS hl
  unfold df_X4_work_229 at h
  exact K _ _ _ _ _ _ dX4_work_229 rfl (Option.some.inj h).symm hP hD hS
set_option maxHeartbeats 40000000 in
set_option maxRecDepth 100000 in
theorem db_X4_work_0 {p : Program} {l : Launch} {e : Env} {s : State} {m : MethodId} {args : Array Value} {below : List Frame} {meth : Method} {c : Code} {Q : State → Prop} {A : Nat → Prop} {dC : Nat → ClassId} {dI : Nat → Nat → Nat} {a : Nat → Nat} {ac : Nat → ClassId} {n : Nat} {r : Int32 × (St × (St × (St)))} (C : nd_C p l s m args c A (dC, dI) cX4_work 5 RX4 ow_dm_X4_work (dk_X4 ac)) (K : nd_Ki p l e (headSpec ow_dm_X4_work ({ frames := 4, cells := 0, slots := 0, locals := 92 })).room s m args below meth c Q A (dC, dI) cX4_work .int (St × (St × (St))) (dw_X4 a ac) r) : dj_X4_work_0 p l e s m args below meth c Q A dC dI a ac (df_X4_work_0 n) r := by
  obtain ⟨hlt, hx, hb, hml, hown, hts, hN, hA, hK⟩ := id C
  intro v0 s0 H locs ls h hP hD hS hl
  unfold df_X4_work_0 at h
  refine lv_aload_n hx hb dX4_work_0 rfl (lv_at hl 0 rfl) ?_
  refine va_get (D := (dC, dI)) (ci := 5) (v := .ref (a 5)) (C := RX4) (T := TX4) (N := 6) hx hb hts hi_dm_X4_work_X4 hown hK hP 0 rfl rfl 1 (by decide) (hts (.fieldLink RX4 19 "TimeMachine$Hart" "reg" "[I") (List.mem_of_getElem? (i := 1) rfl)) (fun _ h9 => h9) rfl dX4_work_1 ?_
  refine lv_aload_n hx hb dX4_work_4 rfl (lv_at hl 0 rfl) ?_
  refine va_get (D := (dC, dI)) (ci := 5) (v := .int (sI s0.1 1)) (C := RX4) (T := TX4) (N := 6) hx hb hts hi_dm_X4_work_X4 hown hK hP 0 rfl rfl 3 (by decide) (hts (.fieldLink RX4 24 "TimeMachine$Hart" "base" "I") (List.mem_of_getElem? (i := 2) rfl)) (fun _ h9 => h9) rfl dX4_work_5 ?_
  refine lv_iload_n hx hb dX4_work_8 rfl (lv_at hl 1 rfl) ?_
  refine lv_bipush (v := 15) hx hb dX4_work_9 (by decide) ?_
  refine lv_ishr hx hb dX4_work_11 ?_
  refine lv_bipush (v := 31) hx hb dX4_work_12 (by decide) ?_
  refine lv_iand hx hb dX4_work_14 ?_
  refine lv_iadd hx hb dX4_work_15 ?_
  obtain ⟨i1, h⟩ := nd_ck_e h
  refine va_iald (i := ((sI s0.1 1) + (((v0 : Int32) >>> ((15 : Int32) &&& 31)) &&& 31))) hx hb hK hP 5 3 rfl rfl i1 dX4_work_16 ?_
  refine lv_topi (fun z2 ez2 => ?_)
  have h := nd_at h ez2
  refine lv_istore_n (lv' := [(2, .int z2), (0, .ref (a 0)), (1, .int v0)]) hx hb dX4_work_17 rfl hl (by decide) rfl (fun ls hl => ?_)
  refine lv_aload_n hx hb dX4_work_18 rfl (lv_at hl 1 rfl) ?_
  refine va_get (D := (dC, dI)) (ci := 5) (v := .ref (a 5)) (C := RX4) (T := TX4) (N := 6) hx hb hts hi_dm_X4_work_X4 hown hK hP 0 rfl rfl 1 (by decide) (hts (.fieldLink RX4 19 "TimeMachine$Hart" "reg" "[I") (List.mem_of_getElem? (i := 1) rfl)) (fun _ h9 => h9) rfl dX4_work_19 ?_
  refine lv_aload_n hx hb dX4_work_22 rfl (lv_at hl 1 rfl) ?_
  refine va_get (D := (dC, dI)) (ci := 5) (v := .int (sI s0.1 1)) (C := RX4) (T := TX4) (N := 6) hx hb hts hi_dm_X4_work_X4 hown hK hP 0 rfl rfl 3 (by decide) (hts (.fieldLink RX4 24 "TimeMachine$Hart" "base" "I") (List.mem_of_getElem? (i := 2) rfl)) (fun _ h9 => h9) rfl dX4_work_23 ?_
  refine lv_iload_n hx hb dX4_work_26 rfl (lv_at hl 2 rfl) ?_
  refine lv_bipush (v := 20) hx hb dX4_work_27 (by decide) ?_
  refine lv_ishr hx hb dX4_work_29 ?_
  refine lv_bipush (v := 31) hx hb dX4_work_30 (by decide) ?_
  refine lv_iand hx hb dX4_work_32 ?_
  refine lv_iadd hx hb dX4_work_33 ?_
  obtain ⟨i3, h⟩ := nd_ck_e h
  refine va_iald (i := ((sI s0.1 1) + (((v0 : Int32) >>> ((20 : Int32) &&& 31)) &&& 31))) hx hb hK hP 5 3 rfl rfl i3 dX4_work_34 ?_
  refine lv_topi (fun z4 ez4 => ?_)
  have h := nd_at h ez4
  refine lv_istore_n (lv' := [(3, .int z4), (2, .int z2), (0, .ref (a 0)), (1, .int v0)]) hx hb dX4_work_35 rfl hl (by decide) rfl (fun ls hl => ?_)
  refine lv_iload_n hx hb dX4_work_36 rfl (lv_at hl 3 rfl) ?_
  refine lv_bipush (v := 12) hx hb dX4_work_37 (by decide) ?_
  refine lv_ishr hx hb dX4_work_39 ?_
  refine lv_bipush (v := 7) hx hb dX4_work_40 (by decide) ?_
  refine lv_iand hx hb dX4_work_42 ?_
  refine lv_topi (fun z5 ez5 => ?_)
  have h := nd_at h ez5
  refine lv_istore (lv' := [(4, .int z5), (3, .int z4), (2, .int z2), (0, .ref (a 0)), (1, .int v0)]) hx hb dX4_work_43 hl (by decide) rfl (fun ls hl => ?_)
  refine lv_iload_n hx hb dX4_work_45 rfl (lv_at hl 4 rfl) ?_
  refine lv_bipush (v := 127) hx hb dX4_work_46 (by decide) ?_
  refine lv_iand hx hb dX4_work_48 ?_
  by_cases c6 : (v0 &&& 127) = 3
  · have h := nd_pos h c6
    refine lv_lookup (off := 191) (tgt := 240) hx hb dX4_work_49 (by decide) (by rw [c6]; decide) (by decide) ?_
    refine lv_aload_n hx hb dX4_work_240 rfl (lv_at hl 3 rfl) ?_
    refine lv_iload_n hx hb dX4_work_241 rfl (lv_at hl 4 rfl) ?_
    refine lv_iload hx hb dX4_work_242 (lv_at hl 0 rfl) ?_
    refine lv_iload_n hx hb dX4_work_244 rfl (lv_at hl 2 rfl) ?_
    refine lv_iload_n hx hb dX4_work_245 rfl (lv_at hl 4 rfl) ?_
    refine lv_bipush (v := 20) hx hb dX4_work_246 (by decide) ?_
    refine lv_ishr hx hb dX4_work_248 ?_
    refine lv_iadd hx hb dX4_work_249 ?_
    obtain ⟨q7, s8, hq, h⟩ := nd_b2_e h
    have hPc := hP
    have hDc := hD
    have hKc := hK
    have hFc := nd_rs hD hS hA
    refine nd_cVi (As := [.int v0, .int z5, .int (z2 + ((v0 : Int32) >>> ((20 : Int32) &&& 31)))]) (rest := []) (q := q7) (w' := dw_X4 a ac s8) ⟨hx, hb, hml, hown, hts⟩ (fun sz => dm_X4_load l hlt dC dI a ac n (v0) (z5) ((z2 + ((v0 : Int32) >>> ((20 : Int32) &&& 31)))) s0 hq sz) (cwV 3 hts gi_dm_X4_work_0 rfl rfl rfl (by decide +kernel) ⟨Nat.le_of_ble_eq_true rfl, Nat.le_of_ble_eq_true rfl⟩) hPc hDc hKc hS hA hN (va_recv hKc hPc (ci := 5) (q0 := 0) rfl rfl) rfl hl.1 rfl (Nat.le_of_ble_eq_true rfl) dX4_work_250 (fun H locs hP1 hD1 hk1 hS => ?_)
    have hP := hP1
    have hD := hD1.weaken (fun k q _ h => hFc q.1 h)
    exact K _ _ _ _ _ _ dX4_work_253 rfl (Option.some.inj h).symm hP hD hS
  have h := nd_neg h c6
  by_cases c10 : (v0 &&& 127) = 15
  · have h := nd_pos h c10
    refine lv_lookup (off := 286) (tgt := 335) hx hb dX4_work_49 (by decide) (by rw [c10]; decide) (by decide) ?_
    refine lv_iload hx hb dX4_work_335 (lv_at hl 0 rfl) ?_
    refine lv_iconst (v := 1) hx hb dX4_work_337 (by decide) ?_
    refine lv_icmp_gt (tgt := 345) hx hb dX4_work_338 (by decide) (fun c11 => ?_) (fun c11 => ?_)
    · have h := nd_pos h c11
      refine lv_iconst (v := 4) hx hb dX4_work_345 (by decide) ?_
      exact (db_X4_work_346 C K) (4) s0 _ _ _ h hP hD hS (lv_sub hl [] rfl)
    · have h := nd_neg h c11
      refine lv_iconst (v := 0) hx hb dX4_work_341 (by decide) ?_
      refine lv_goto (tgt := 346) hx hb dX4_work_342 (by decide) ?_
      exact (db_X4_work_346 C K) (0) s0 _ _ _ h hP hD hS (lv_sub hl [] rfl)
  have h := nd_neg h c10
  by_cases c12 : (v0 &&& 127) = 19
  · have h := nd_pos h c12
    refine lv_lookup (off := 229) (tgt := 278) hx hb dX4_work_49 (by decide) (by rw [c12]; decide) (by decide) ?_
    refine lv_aload_n hx hb dX4_work_278 rfl (lv_at hl 3 rfl) ?_
    refine lv_iload_n hx hb dX4_work_279 rfl (lv_at hl 4 rfl) ?_
    refine lv_iload hx hb dX4_work_280 (lv_at hl 0 rfl) ?_
    refine lv_iload_n hx hb dX4_work_282 rfl (lv_at hl 2 rfl) ?_
    obtain ⟨q13, s14, hq, h⟩ := nd_b2_e h
    have hPc := hP
    have hDc := hD
    have hKc := hK
    have hFc := nd_rs hD hS hA
    refine nd_cVi (As := [.int v0, .int z5, .int z2]) (rest := []) (q := q13) (w' := dw_X4 a ac s14) ⟨hx, hb, hml, hown, hts⟩ (fun sz => dm_X4_workWithNumber l hlt dC dI a ac n (v0) (z5) (z2) s0 hq sz) (cwV 3 hts gi_dm_X4_work_1 rfl rfl rfl (by decide +kernel) ⟨Nat.le_of_ble_eq_true rfl, Nat.le_of_ble_eq_true rfl⟩) hPc hDc hKc hS hA hN (va_recv hKc hPc (ci := 5) (q0 := 0) rfl rfl) rfl hl.1 rfl (Nat.le_of_ble_eq_true rfl) dX4_work_283 (fun H locs hP1 hD1 hk1 hS => ?_)
    have hP := hP1
    have hD := hD1.weaken (fun k q _ h => hFc q.1 h)
    exact K _ _ _ _ _ _ dX4_work_286 rfl (Option.some.inj h).symm hP hD hS
  have h := nd_neg h c12
  by_cases c16 : (v0 &&& 127) = 23
  · have h := nd_pos h c16
    refine lv_lookup (off := 119) (tgt := 168) hx hb dX4_work_49 (by decide) (by rw [c16]; decide) (by decide) ?_
    refine lv_aload_n hx hb dX4_work_168 rfl (lv_at hl 3 rfl) ?_
    refine lv_iload_n hx hb dX4_work_169 rfl (lv_at hl 4 rfl) ?_
    refine lv_aload_n hx hb dX4_work_170 rfl (lv_at hl 3 rfl) ?_
    refine va_get (D := (dC, dI)) (ci := 5) (v := .int (sI s0.1 2)) (C := RX4) (T := TX4) (N := 6) hx hb hts hi_dm_X4_work_X4 hown hK hP 0 rfl rfl 4 (by decide) (hts (.fieldLink RX4 27 "TimeMachine$Hart" "place" "I") (List.mem_of_getElem? (i := 10) rfl)) (fun _ h9 => h9) rfl dX4_work_171 ?_
    refine lv_iload_n hx hb dX4_work_174 rfl (lv_at hl 4 rfl) ?_
    refine lv_sipush (v := (-4096)) hx hb dX4_work_175 (by decide) ?_
    refine lv_iand hx hb dX4_work_178 ?_
    refine lv_iadd hx hb dX4_work_179 ?_
    obtain ⟨s18, hq, h⟩ := nd_b1_e h
    have hPc := hP
    have hDc := hD
    have hKc := hK
    have hFc := nd_rs hD hS hA
    refine nd_cVv (As := [.int v0, .int ((sI s0.1 2) + (v0 &&& (-4096)))]) (rest := []) (w' := dw_X4 a ac s18) ⟨hx, hb, hml, hown, hts⟩ (fun sz => dm_X4_set l hlt dC dI a ac n (v0) (((sI s0.1 2) + (v0 &&& (-4096)))) s0 hq sz) (cwV 2 hts gi_dm_X4_work_2 rfl rfl rfl (by decide +kernel) ⟨Nat.le_of_ble_eq_true rfl, Nat.le_of_ble_eq_true rfl⟩) hPc hDc hKc hS hA hN (va_recv hKc hPc (ci := 5) (q0 := 0) rfl rfl) rfl hl.1 rfl (Nat.le_of_ble_eq_true rfl) dX4_work_180 (fun H locs hP1 hD1 hk1 hS => ?_)
    have hP := hP1
    have hD := hD1.weaken (fun k q _ h => hFc q.1 h)
    refine lv_iconst (v := 0) hx hb dX4_work_183 (by decide) ?_
    exact K _ _ _ _ _ _ dX4_work_184 rfl (Option.some.inj h).symm hP hD hS
  have h := nd_neg h c16
  by_cases c20 : (v0 &&& 127) = 35
  · have h := nd_pos h c20
    refine lv_lookup (off := 205) (tgt := 254) hx hb dX4_work_49 (by decide) (by rw [c20]; decide) (by decide) ?_
    refine lv_aload_n hx hb dX4_work_254 rfl (lv_at hl 3 rfl) ?_
    refine lv_iload hx hb dX4_work_255 (lv_at hl 0 rfl) ?_
    refine lv_iload_n hx hb dX4_work_257 rfl (lv_at hl 2 rfl) ?_
    refine lv_iload_n hx hb dX4_work_258 rfl (lv_at hl 4 rfl) ?_
    refine lv_bipush (v := 25) hx hb dX4_work_259 (by decide) ?_
    refine lv_ishr hx hb dX4_work_261 ?_
    refine lv_iconst (v := 5) hx hb dX4_work_262 (by decide) ?_
    refine lv_ishl hx hb dX4_work_263 ?_
    refine lv_iload_n hx hb dX4_work_264 rfl (lv_at hl 4 rfl) ?_
    refine lv_bipush (v := 7) hx hb dX4_work_265 (by decide) ?_
    refine lv_ishr hx hb dX4_work_267 ?_
    refine lv_bipush (v := 31) hx hb dX4_work_268 (by decide) ?_
    refine lv_iand hx hb dX4_work_270 ?_
    refine lv_ior hx hb dX4_work_271 ?_
    refine lv_iadd hx hb dX4_work_272 ?_
    refine lv_iload_n hx hb dX4_work_273 rfl (lv_at hl 1 rfl) ?_
    obtain ⟨q21, s22, hq, h⟩ := nd_b2_e h
    have hPc := hP
    have hDc := hD
    have hKc := hK
    have hFc := nd_rs hD hS hA
    refine nd_cVi (As := [.int z5, .int (z2 + (((((v0 : Int32) >>> ((25 : Int32) &&& 31)) : Int32) <<< ((5 : Int32) &&& 31)) ||| (((v0 : Int32) >>> ((7 : Int32) &&& 31)) &&& 31))), .int z4]) (rest := []) (q := q21) (w' := dw_X4 a ac s22) ⟨hx, hb, hml, hown, hts⟩ (fun sz => dm_X4_store l hlt dC dI a ac n (z5) ((z2 + (((((v0 : Int32) >>> ((25 : Int32) &&& 31)) : Int32) <<< ((5 : Int32) &&& 31)) ||| (((v0 : Int32) >>> ((7 : Int32) &&& 31)) &&& 31)))) (z4) s0 hq sz) (cwV 3 hts gi_dm_X4_work_3 rfl rfl rfl (by decide +kernel) ⟨Nat.le_of_ble_eq_true rfl, Nat.le_of_ble_eq_true rfl⟩) hPc hDc hKc hS hA hN (va_recv hKc hPc (ci := 5) (q0 := 0) rfl rfl) rfl hl.1 rfl (Nat.le_of_ble_eq_true rfl) dX4_work_274 (fun H locs hP1 hD1 hk1 hS => ?_)
    have hP := hP1
    have hD := hD1.weaken (fun k q _ h => hFc q.1 h)
    exact K _ _ _ _ _ _ dX4_work_277 rfl (Option.some.inj h).symm hP hD hS
  have h := nd_neg h c20
  by_cases c24 : (v0 &&& 127) = 47
  · have h := nd_pos h c24
    refine lv_lookup (off := 268) (tgt := 317) hx hb dX4_work_49 (by decide) (by rw [c24]; decide) (by decide) ?_
    refine lv_iload hx hb dX4_work_317 (lv_at hl 0 rfl) ?_
    refine lv_iconst (v := 2) hx hb dX4_work_319 (by decide) ?_
    refine lv_icmp_ne (tgt := 333) hx hb dX4_work_320 (by decide) (fun c25 => ?_) (fun c25 => ?_)
    · have h := nd_neg h c25
      refine lv_iconst (v := 4) hx hb dX4_work_333 (by decide) ?_
      exact (db_X4_work_334 C K) (4) s0 _ _ _ h hP hD hS (lv_sub hl [] rfl)
    · have h := nd_pos h c25
      refine lv_aload_n hx hb dX4_work_323 rfl (lv_at hl 3 rfl) ?_
      refine lv_iload_n hx hb dX4_work_324 rfl (lv_at hl 4 rfl) ?_
      refine lv_iload_n hx hb dX4_work_325 rfl (lv_at hl 2 rfl) ?_
      refine lv_iload_n hx hb dX4_work_326 rfl (lv_at hl 1 rfl) ?_
      obtain ⟨q26, s27, hq, h⟩ := nd_b2_e h
      have hPc := hP
      have hDc := hD
      have hKc := hK
      have hFc := nd_rs hD hS hA
      refine nd_cVi (As := [.int v0, .int z2, .int z4]) (rest := []) (q := q26) (w' := dw_X4 a ac s27) ⟨hx, hb, hml, hown, hts⟩ (fun sz => dm_X4_atomic l hlt dC dI a ac n (v0) (z2) (z4) s0 hq sz) (cwV 3 hts gi_dm_X4_work_4 rfl rfl rfl (by decide +kernel) ⟨Nat.le_of_ble_eq_true rfl, Nat.le_of_ble_eq_true rfl⟩) hPc hDc hKc hS hA hN (va_recv hKc hPc (ci := 5) (q0 := 0) rfl rfl) rfl hl.1 rfl (Nat.le_of_ble_eq_true rfl) dX4_work_327 (fun H locs hP1 hD1 hk1 hS => ?_)
      have hP := hP1
      have hD := hD1.weaken (fun k q _ h => hFc q.1 h)
      refine lv_goto (tgt := 334) hx hb dX4_work_330 (by decide) ?_
      exact (db_X4_work_334 C K) (q26) s27 _ _ _ h hP hD hS (lv_sub hl [] rfl)
  have h := nd_neg h c24
  by_cases c29 : (v0 &&& 127) = 51
  · have h := nd_pos h c29
    refine lv_lookup (off := 238) (tgt := 287) hx hb dX4_work_49 (by decide) (by rw [c29]; decide) (by decide) ?_
    refine lv_iload_n hx hb dX4_work_287 rfl (lv_at hl 4 rfl) ?_
    refine lv_bipush (v := 25) hx hb dX4_work_288 (by decide) ?_
    refine lv_iushr hx hb dX4_work_290 rfl ?_
    refine lv_iconst (v := 1) hx hb dX4_work_291 (by decide) ?_
    refine lv_icmp_ne (tgt := 307) hx hb dX4_work_292 (by decide) (fun c30 => ?_) (fun c30 => ?_)
    · have h := nd_neg h c30
      refine lv_aload_n hx hb dX4_work_307 rfl (lv_at hl 3 rfl) ?_
      refine lv_iload_n hx hb dX4_work_308 rfl (lv_at hl 4 rfl) ?_
      refine lv_iload hx hb dX4_work_309 (lv_at hl 0 rfl) ?_
      refine lv_iload_n hx hb dX4_work_311 rfl (lv_at hl 2 rfl) ?_
      refine lv_iload_n hx hb dX4_work_312 rfl (lv_at hl 1 rfl) ?_
      obtain ⟨q31, s32, hq, h⟩ := nd_b2_e h
      have hPc := hP
      have hDc := hD
      have hKc := hK
      have hFc := nd_rs hD hS hA
      refine nd_cVi (As := [.int v0, .int z5, .int z2, .int z4]) (rest := []) (q := q31) (w' := dw_X4 a ac s32) ⟨hx, hb, hml, hown, hts⟩ (fun sz => dm_X4_workWithRegister l hlt dC dI a ac n (v0) (z5) (z2) (z4) s0 hq sz) (cwV 4 hts gi_dm_X4_work_5 rfl rfl rfl (by decide +kernel) ⟨Nat.le_of_ble_eq_true rfl, Nat.le_of_ble_eq_true rfl⟩) hPc hDc hKc hS hA hN (va_recv hKc hPc (ci := 5) (q0 := 0) rfl rfl) rfl hl.1 rfl (Nat.le_of_ble_eq_true rfl) dX4_work_313 (fun H locs hP1 hD1 hk1 hS => ?_)
      have hP := hP1
      have hD := hD1.weaken (fun k q _ h => hFc q.1 h)
      exact (db_X4_work_316 C K) (q31) s32 _ _ _ h hP hD hS (lv_sub hl [] rfl)
    · have h := nd_pos h c30
      refine lv_aload_n hx hb dX4_work_295 rfl (lv_at hl 3 rfl) ?_
      refine lv_iload_n hx hb dX4_work_296 rfl (lv_at hl 4 rfl) ?_
      refine lv_iload hx hb dX4_work_297 (lv_at hl 0 rfl) ?_
      refine lv_iload_n hx hb dX4_work_299 rfl (lv_at hl 2 rfl) ?_
      refine lv_iload_n hx hb dX4_work_300 rfl (lv_at hl 1 rfl) ?_
      obtain ⟨q34, s35, hq, h⟩ := nd_b2_e h
      have hPc := hP
      have hDc := hD
      have hKc := hK
      have hFc := nd_rs hD hS hA
      refine nd_cVi (As := [.int v0, .int z5, .int z2, .int z4]) (rest := []) (q := q34) (w' := dw_X4 a ac s35) ⟨hx, hb, hml, hown, hts⟩ (fun sz => dm_X4_multiply l hlt dC dI a ac n (v0) (z5) (z2) (z4) s0 hq sz) (cwV 4 hts gi_dm_X4_work_6 rfl rfl rfl (by decide +kernel) ⟨Nat.le_of_ble_eq_true rfl, Nat.le_of_ble_eq_true rfl⟩) hPc hDc hKc hS hA hN (va_recv hKc hPc (ci := 5) (q0 := 0) rfl rfl) rfl hl.1 rfl (Nat.le_of_ble_eq_true rfl) dX4_work_301 (fun H locs hP1 hD1 hk1 hS => ?_)
      have hP := hP1
      have hD := hD1.weaken (fun k q _ h => hFc q.1 h)
      refine lv_goto (tgt := 316) hx hb dX4_work_304 (by decide) ?_
      exact (db_X4_work_316 C K) (q34) s35 _ _ _ h hP hD hS (lv_sub hl [] rfl)
  have h := nd_neg h c29
  by_cases c37 : (v0 &&& 127) = 55
  · have h := nd_pos h c37
    refine lv_lookup (off := 107) (tgt := 156) hx hb dX4_work_49 (by decide) (by rw [c37]; decide) (by decide) ?_
    refine lv_aload_n hx hb dX4_work_156 rfl (lv_at hl 3 rfl) ?_
    refine lv_iload_n hx hb dX4_work_157 rfl (lv_at hl 4 rfl) ?_
    refine lv_iload_n hx hb dX4_work_158 rfl (lv_at hl 4 rfl) ?_
    refine lv_sipush (v := (-4096)) hx hb dX4_work_159 (by decide) ?_
    refine lv_iand hx hb dX4_work_162 ?_
    obtain ⟨s39, hq, h⟩ := nd_b1_e h
    have hPc := hP
    have hDc := hD
    have hKc := hK
    have hFc := nd_rs hD hS hA
    refine nd_cVv (As := [.int v0, .int (v0 &&& (-4096))]) (rest := []) (w' := dw_X4 a ac s39) ⟨hx, hb, hml, hown, hts⟩ (fun sz => dm_X4_set l hlt dC dI a ac n (v0) ((v0 &&& (-4096))) s0 hq sz) (cwV 2 hts gi_dm_X4_work_2 rfl rfl rfl (by decide +kernel) ⟨Nat.le_of_ble_eq_true rfl, Nat.le_of_ble_eq_true rfl⟩) hPc hDc hKc hS hA hN (va_recv hKc hPc (ci := 5) (q0 := 0) rfl rfl) rfl hl.1 rfl (Nat.le_of_ble_eq_true rfl) dX4_work_163 (fun H locs hP1 hD1 hk1 hS => ?_)
    have hP := hP1
    have hD := hD1.weaken (fun k q _ h => hFc q.1 h)
    refine lv_iconst (v := 0) hx hb dX4_work_166 (by decide) ?_
    exact K _ _ _ _ _ _ dX4_work_167 rfl (Option.some.inj h).symm hP hD hS
  have h := nd_neg h c37
  by_cases c41 : (v0 &&& 127) = 99
  · have h := nd_pos h c41
    refine lv_lookup (off := 181) (tgt := 230) hx hb dX4_work_49 (by decide) (by rw [c41]; decide) (by decide) ?_
    refine lv_aload_n hx hb dX4_work_230 rfl (lv_at hl 3 rfl) ?_
    refine lv_iload_n hx hb dX4_work_231 rfl (lv_at hl 4 rfl) ?_
    refine lv_iload hx hb dX4_work_232 (lv_at hl 0 rfl) ?_
    refine lv_iload_n hx hb dX4_work_234 rfl (lv_at hl 2 rfl) ?_
    refine lv_iload_n hx hb dX4_work_235 rfl (lv_at hl 1 rfl) ?_
    obtain ⟨q42, s43, hq, h⟩ := nd_b2_e h
    have hPc := hP
    have hDc := hD
    have hKc := hK
    have hFc := nd_rs hD hS hA
    refine nd_cVi (As := [.int v0, .int z5, .int z2, .int z4]) (rest := []) (q := q42) (w' := dw_X4 a ac s43) ⟨hx, hb, hml, hown, hts⟩ (fun sz => dm_X4_branch l hlt dC dI a ac n (v0) (z5) (z2) (z4) s0 hq sz) (cwV 4 hts gi_dm_X4_work_7 rfl rfl rfl (by decide +kernel) ⟨Nat.le_of_ble_eq_true rfl, Nat.le_of_ble_eq_true rfl⟩) hPc hDc hKc hS hA hN (va_recv hKc hPc (ci := 5) (q0 := 0) rfl rfl) rfl hl.1 rfl (Nat.le_of_ble_eq_true rfl) dX4_work_236 (fun H locs hP1 hD1 hk1 hS => ?_)
    have hP := hP1
    have hD := hD1.weaken (fun k q _ h => hFc q.1 h)
    exact K _ _ _ _ _ _ dX4_work_239 rfl (Option.some.inj h).symm hP hD hS
  have h := nd_neg h c41
  by_cases c45 : (v0 &&& 127) = 103
  · have h := nd_pos h c45
    refine lv_lookup (off := 160) (tgt := 209) hx hb dX4_work_49 (by decide) (by rw [c45]; decide) (by decide) ?_
    refine lv_iload hx hb dX4_work_209 (lv_at hl 0 rfl) ?_
    refine lv_if_ne (tgt := 228) hx hb dX4_work_211 (by decide) (fun c46 => ?_) (fun c46 => ?_)
    · have h := nd_neg h c46
      refine lv_iconst (v := 4) hx hb dX4_work_228 (by decide) ?_
      exact (db_X4_work_229 C K) (4) s0 _ _ _ h hP hD hS (lv_sub hl [] rfl)
    · have h := nd_pos h c46
      refine lv_aload_n hx hb dX4_work_214 rfl (lv_at hl 3 rfl) ?_
      refine lv_iload_n hx hb dX4_work_215 rfl (lv_at hl 4 rfl) ?_
      refine lv_iload_n hx hb dX4_work_216 rfl (lv_at hl 2 rfl) ?_
      refine lv_iload_n hx hb dX4_work_217 rfl (lv_at hl 4 rfl) ?_
      refine lv_bipush (v := 20) hx hb dX4_work_218 (by decide) ?_
      refine lv_ishr hx hb dX4_work_220 ?_
      refine lv_iadd hx hb dX4_work_221 ?_
      obtain ⟨q47, s48, hq, h⟩ := nd_b2_e h
      have hPc := hP
      have hDc := hD
      have hKc := hK
      have hFc := nd_rs hD hS hA
      refine nd_cVi (As := [.int v0, .int (z2 + ((v0 : Int32) >>> ((20 : Int32) &&& 31)))]) (rest := []) (q := q47) (w' := dw_X4 a ac s48) ⟨hx, hb, hml, hown, hts⟩ (fun sz => dm_X4_jump l hlt dC dI a ac n (v0) ((z2 + ((v0 : Int32) >>> ((20 : Int32) &&& 31)))) s0 hq sz) (cwV 2 hts gi_dm_X4_work_8 rfl rfl rfl (by decide +kernel) ⟨Nat.le_of_ble_eq_true rfl, Nat.le_of_ble_eq_true rfl⟩) hPc hDc hKc hS hA hN (va_recv hKc hPc (ci := 5) (q0 := 0) rfl rfl) rfl hl.1 rfl (Nat.le_of_ble_eq_true rfl) dX4_work_222 (fun H locs hP1 hD1 hk1 hS => ?_)
      have hP := hP1
      have hD := hD1.weaken (fun k q _ h => hFc q.1 h)
      refine lv_goto (tgt := 229) hx hb dX4_work_225 (by decide) ?_
      exact (db_X4_work_229 C K) (q47) s48 _ _ _ h hP hD hS (lv_sub hl [] rfl)
  have h := nd_neg h c45
  by_cases c50 : (v0 &&& 127) = 111
  · have h := nd_pos h c50
    refine lv_lookup (off := 136) (tgt := 185) hx hb dX4_work_49 (by decide) (by rw [c50]; decide) (by decide) ?_
    refine lv_aload_n hx hb dX4_work_185 rfl (lv_at hl 3 rfl) ?_
    refine lv_iload_n hx hb dX4_work_186 rfl (lv_at hl 4 rfl) ?_
    refine lv_aload_n hx hb dX4_work_187 rfl (lv_at hl 3 rfl) ?_
    refine va_get (D := (dC, dI)) (ci := 5) (v := .int (sI s0.1 3)) (C := RX4) (T := TX4) (N := 6) hx hb hts hi_dm_X4_work_X4 hown hK hP 0 rfl rfl 5 (by decide) (hts (.fieldLink RX4 38 "TimeMachine$Hart" "next" "I") (List.mem_of_getElem? (i := 32) rfl)) (fun _ h9 => h9) rfl dX4_work_188 ?_
    obtain ⟨s52, hq, h⟩ := nd_b1_e h
    have hPc := hP
    have hDc := hD
    have hKc := hK
    have hFc := nd_rs hD hS hA
    refine nd_cVv (As := [.int v0, .int (sI s0.1 3)]) (rest := []) (w' := dw_X4 a ac s52) ⟨hx, hb, hml, hown, hts⟩ (fun sz => dm_X4_set l hlt dC dI a ac n (v0) ((sI s0.1 3)) s0 hq sz) (cwV 2 hts gi_dm_X4_work_2 rfl rfl rfl (by decide +kernel) ⟨Nat.le_of_ble_eq_true rfl, Nat.le_of_ble_eq_true rfl⟩) hPc hDc hKc hS hA hN (va_recv hKc hPc (ci := 5) (q0 := 0) rfl rfl) rfl hl.1 rfl (Nat.le_of_ble_eq_true rfl) dX4_work_191 (fun H locs hP1 hD1 hk1 hS => ?_)
    have hP := hP1
    have hD := hD1.weaken (fun k q _ h => hFc q.1 h)
    refine lv_aload_n hx hb dX4_work_194 rfl (lv_at hl 3 rfl) ?_
    refine lv_aload_n hx hb dX4_work_195 rfl (lv_at hl 3 rfl) ?_
    refine va_get (D := (dC, dI)) (ci := 5) (v := .int (sI s52.1 2)) (C := RX4) (T := TX4) (N := 6) hx hb hts hi_dm_X4_work_X4 hown hK hP 0 rfl rfl 4 (by decide) (hts (.fieldLink RX4 27 "TimeMachine$Hart" "place" "I") (List.mem_of_getElem? (i := 10) rfl)) (fun _ h9 => h9) rfl dX4_work_196 ?_
    refine lv_iload_n hx hb dX4_work_199 rfl (lv_at hl 4 rfl) ?_
    obtain ⟨q54, s55, hq, h⟩ := nd_b2_e h
    have hPc : va_P (dC, dI) vwCl (dw_P a ac ()) H := nd_p0
    have hDc : va_D A (dw_P a ac ()) := nd_d0
    have hKc : va_K (dC, dI) vwCl (dk_P ac) s := nd_y0 hK
    have hFc : ∀ q, va_A (dw_P a ac ()) H.size q → A q := nd_r0 hS hA
    refine nd_cSi (As := [.int v0]) (rest := [.int (sI s52.1 2), .ref (a 0)]) (q := q54) (w' := dw_P a ac s55) ⟨hx, hb, hml, hown, hts⟩ (fun sz => dm_X4_jumpOffset l hlt dC dI a ac n (v0) () hq sz) (cwS 1 hts gi_dm_X4_work_9 rfl rfl rfl (by decide +kernel) ⟨Nat.le_of_ble_eq_true rfl, Nat.le_of_ble_eq_true rfl⟩) hPc hDc hKc hS hA hN rfl hl.1 rfl (Nat.le_of_ble_eq_true rfl) dX4_work_200 (fun H locs hP1 hD1 hk1 hS => ?_)
    have hP := nd_n0 hP hk1
    refine lv_iadd hx hb dX4_work_203 ?_
    refine va_put (D := (dC, dI)) (ci := 5) (v := .int ((sI s52.1 2) + q54)) (ty := .int) (C := RX4) (T := TX4) (N := 6) hx hb hts hi_dm_X4_work_X4 tyX4 tyX4_ok nmX4 hown hK hP hD hS 0 rfl rfl 5 (by decide) (hts (.fieldLink RX4 38 "TimeMachine$Hart" "next" "I") (List.mem_of_getElem? (i := 32) rfl)) (fun _ h9 => h9) rfl (by decide +kernel) rfl rfl (Nat.le_of_ble_eq_true rfl) dX4_work_204 (fun H locs hP hD hS => ?_)
    obtain ⟨s57, es57, h⟩ := nd_let_e h
    have hP : va_P (dC, dI) vwCl (dw_X4 a ac s57) H := by rw [es57]; exact hP
    have hD : va_D A (dw_X4 a ac s57) := by rw [es57]; exact hD
    refine lv_iconst (v := 0) hx hb dX4_work_207 (by decide) ?_
    exact K _ _ _ _ _ _ dX4_work_208 rfl (Option.some.inj h).symm hP hD hS
  have h := nd_neg h c50
  by_cases c58 : (v0 &&& 127) = 115
  · have h := nd_pos h c58
    refine lv_lookup (off := 298) (tgt := 347) hx hb dX4_work_49 (by decide) (by rw [c58]; decide) (by decide) ?_
    refine lv_aload_n hx hb dX4_work_347 rfl (lv_at hl 3 rfl) ?_
    refine lv_iload_n hx hb dX4_work_348 rfl (lv_at hl 4 rfl) ?_
    refine lv_iload hx hb dX4_work_349 (lv_at hl 0 rfl) ?_
    obtain ⟨q59, s60, hq, h⟩ := nd_b2_e h
    have hPc := hP
    have hDc := hD
    have hKc := hK
    have hFc := nd_rs hD hS hA
    refine nd_cVi (As := [.int v0, .int z5]) (rest := []) (q := q59) (w' := dw_X4 a ac s60) ⟨hx, hb, hml, hown, hts⟩ (fun sz => dm_X4_system l hlt dC dI a ac n (v0) (z5) s0 hq sz) (cwV 2 hts gi_dm_X4_work_10 rfl rfl rfl (by decide +kernel) ⟨Nat.le_of_ble_eq_true rfl, Nat.le_of_ble_eq_true rfl⟩) hPc hDc hKc hS hA hN (va_recv hKc hPc (ci := 5) (q0 := 0) rfl rfl) rfl hl.1 rfl (Nat.le_of_ble_eq_true rfl) dX4_work_351 (fun H locs hP1 hD1 hk1 hS => ?_)
    have hP := hP1
    have hD := hD1.weaken (fun k q _ h => hFc q.1 h)
    exact K _ _ _ _ _ _ dX4_work_354 rfl (Option.some.inj h).symm hP hD hS
  have h := nd_neg h c58
  refine lv_lookup (off := 306) (tgt := 355) hx hb dX4_work_49 (by decide) (show Op.lookupswitch.offset [(3, 191), (15, 286), (19, 229), (23, 119), (35, 205), (47, 268), (51, 238), (55, 107), (99, 181), (103, 160), (111, 136), (115, 298)] 306 ((v0 &&& 127) : Int32).toInt = 306 by rw [lv_osw c6 (by decide), lv_osw c10 (by decide), lv_osw c12 (by decide), lv_osw c16 (by decide), lv_osw c20 (by decide), lv_osw c24 (by decide), lv_osw c29 (by decide), lv_osw c37 (by decide), lv_osw c41 (by decide), lv_osw c45 (by decide), lv_osw c50 (by decide), lv_osw c58 (by decide)] <;> rfl) (by decide) ?_
  refine lv_iconst (v := 4) hx hb dX4_work_355 (by decide) ?_
  exact K _ _ _ _ _ _ dX4_work_356 rfl (Option.some.inj h).symm hP hD hS
set_option maxHeartbeats 40000000 in
set_option maxRecDepth 100000 in
theorem dm_X4_work (l : Launch) (hlt : l.stackTraces = false) (dC : Nat → ClassId) (dI : Nat → Nat → Nat) (a : Nat → Nat) (ac : Nat → ClassId) (n : Nat) (v0 : Int32) (s0 : St × (St × (St))) {r : Int32 × (St × (St × (St)))} (h : df_X4_work n v0 s0 = some r) (sz : Nat) : Met l yX4_work ow_dm_X4_work ({ frames := 4, cells := 0, slots := 0, locals := 92 }) (va_Pc [.ref (a 0), .int v0] (fun U => U.heap.size = sz ∧ va_P (dC, dI) vwCl (dw_X4 a ac s0) U.heap ∧ va_K (dC, dI) vwCl (dk_X4 ac) U ∧ va_D (fun _ => True) (dw_X4 a ac s0) ∧ nv_E dI (va_A (dw_X4 a ac s0) sz) U)) (va_Qi (fun x _ => x = r.1) (fun (_ : Unit) t => va_P (dC, dI) vwCl (dw_X4 a ac r.2) t.heap ∧ va_K (dC, dI) vwCl (dk_X4 ac) t ∧ va_D (va_A (dw_X4 a ac s0) sz) (dw_X4 a ac r.2)) (va_A (dw_X4 a ac s0) sz)) 0 0 (va_A (dw_X4 a ac s0) sz) := by
  refine Met.ofW (cc := cX4_work) (maxL := 5) (ret := (some .int)) (by decide) rfl ?_
  intro p e s m args below meth c s₁ B hml hv
  obtain ⟨rfl, hsz, hP, hK, hD0, hN⟩ := hv
  have hx := B.exec
  have hb := B.bytes
  have hr := B.returns
  have hts := atoms_spec (ws := ow_dm_X4_work) B.pre
  have hown : s.vm.findClass RX4 = some m.cls := findClass_of_methodNamed B.named
  have hlocks := B.notSynchronized
  subst hsz
  have hD := hD0.self (sz := s.heap.size)
  generalize hAe : va_A (dw_X4 a ac s0) s.heap.size = A at hD hN ⊢
  have hA : ∀ q : Nat, s.heap.size ≤ q → A q := fun q h => by rw [← hAe]; exact Or.inr h
  have hl := lv_entry ([.ref (a 0), .int v0]) (n := 5) (Nat.le_of_ble_eq_true rfl)
  rw [lg_entry_eq]
  generalize (lg_sl ([.ref (a 0), .int v0]) ++ List.replicate (5 - (lg_sl ([.ref (a 0), .int v0])).length) Slot.unset).toArray = ls at hl ⊢
  have hl : lv_has ls 5 [(0, .ref (a 0)), (1, .int v0)] := hl
  exact db_X4_work_0 (dC := dC) (dI := dI) (a := a) (ac := ac) (n := n) (r := r) ⟨hlt, hx, hb, hml, hown, hts, hN, hA, hK⟩ (fun pc v τ H locs ls d z er hP hD hS => by subst er; exact W.zret (v := v) hx hb hr z (fun t ht hW => ⟨⟨v, (), rfl, rfl, by rw [ht]; exact hP, va_K.moved hW.alike hK, hD⟩, hS.F ht⟩) hS.2.2 d) v0 s0 _ _ _ h hP hD va_S.rf (lv_sub hl [0, 1] rfl)
def ow_dm_X4_step : List Cond := Cond.code yX4_step cX4_step 4 (some .int) :: ([Cond.fieldLink RX4 20 "TimeMachine$Hart" "process" "I", Cond.fieldLink RX4 24 "TimeMachine$Hart" "base" "I", Cond.fieldLink RX4 19 "TimeMachine$Hart" "reg" "[I", Cond.fieldLink RX4 27 "TimeMachine$Hart" "place" "I", Cond.fieldLink RX4 7 "TimeMachine$Hart" "machine" "LTimeMachine$Machine;", Cond.methodLink RX4 30 yX6_may, Cond.instanceMethod yX6_may, Cond.selects RX6 yX6_may yX6_may, Cond.initialized RX6, Cond.methodLink RX4 34 yX6_halfAt, Cond.instanceMethod yX6_halfAt, Cond.selects RX6 yX6_halfAt yX6_halfAt, Cond.methodLink RX4 41 yX4_expanded, Cond.static yX4_expanded, Cond.initialized RX4, Cond.fieldLink RX4 38 "TimeMachine$Hart" "next" "I", Cond.methodLink RX4 45 yX4_work, Cond.instanceMethod yX4_work, Cond.selects RX4 yX4_work yX4_work, Cond.fieldLink RX4 48 "TimeMachine$Machine" "retired" "J"] ++ (u_ws RX4 TX4 6 ++ (u_ws RX6 TX6 20 ++ (ow_dm_X6_may ++ (ow_dm_X6_halfAt ++ (ow_dm_X4_expanded ++ (ow_dm_X4_work ++ [])))))))
theorem gd_dm_X4_step : ∀ w ∈ ow_dm_X4_step, (w.onTables && w.keeps) = true ∨ ∃ ty, w = Cond.arrayClass ty := List.forall_mem_cons.mpr ⟨good_of_word rfl, List.forall_mem_append.mpr ⟨fun w h => good_of_word (List.all_eq_true.mp (by decide +kernel) w h), List.forall_mem_append.mpr ⟨gu_X4, List.forall_mem_append.mpr ⟨gu_X6, List.forall_mem_append.mpr ⟨gd_dm_X6_may, List.forall_mem_append.mpr ⟨gd_dm_X6_halfAt, List.forall_mem_append.mpr ⟨gd_dm_X4_expanded, List.forall_mem_append.mpr ⟨gd_dm_X4_work, fun _ h => nomatch h⟩⟩⟩⟩⟩⟩⟩⟩
theorem hi_dm_X4_step_X4 : ∀ w ∈ u_ws RX4 TX4 6, w ∈ ow_dm_X4_step := fun w h => List.mem_cons_of_mem _ (List.mem_append_right _ (List.mem_append_left _ h))
theorem hi_dm_X4_step_X6 : ∀ w ∈ u_ws RX6 TX6 20, w ∈ ow_dm_X4_step := fun w h => List.mem_cons_of_mem _ (List.mem_append_right _ (List.mem_append_right _ (List.mem_append_left _ h)))
theorem gi_dm_X4_step_0 : GoodIn ow_dm_X4_step (wsV RX4 30 RX6 yX6_may ow_dm_X6_may) := goodIn_app (goodIn_of _ (by decide +kernel)) (fun w h => ⟨List.mem_cons_of_mem _ (List.mem_append_right _ (List.mem_append_right _ (List.mem_append_right _ (List.mem_append_left _ h)))), gd_dm_X6_may w h⟩)
theorem gi_dm_X4_step_1 : GoodIn ow_dm_X4_step (wsV RX4 34 RX6 yX6_halfAt ow_dm_X6_halfAt) := goodIn_app (goodIn_of _ (by decide +kernel)) (fun w h => ⟨List.mem_cons_of_mem _ (List.mem_append_right _ (List.mem_append_right _ (List.mem_append_right _ (List.mem_append_right _ (List.mem_append_left _ h))))), gd_dm_X6_halfAt w h⟩)
theorem gi_dm_X4_step_2 : GoodIn ow_dm_X4_step (wsS RX4 41 yX4_expanded ow_dm_X4_expanded) := goodIn_app (goodIn_of _ (by decide +kernel)) (fun w h => ⟨List.mem_cons_of_mem _ (List.mem_append_right _ (List.mem_append_right _ (List.mem_append_right _ (List.mem_append_right _ (List.mem_append_right _ (List.mem_append_left _ h)))))), gd_dm_X4_expanded w h⟩)
theorem gi_dm_X4_step_3 : GoodIn ow_dm_X4_step (wsV RX4 45 RX4 yX4_work ow_dm_X4_work) := goodIn_app (goodIn_of _ (by decide +kernel)) (fun w h => ⟨List.mem_cons_of_mem _ (List.mem_append_right _ (List.mem_append_right _ (List.mem_append_right _ (List.mem_append_right _ (List.mem_append_right _ (List.mem_append_right _ (List.mem_append_left _ h))))))), gd_dm_X4_work w h⟩)
def dj_X4_step_54 (p : Program) (l : Launch) (e : Env) (s : State) (m : MethodId) (args : Array Value) (below : List Frame) (meth : Method) (c : Code) (Q : State → Prop) (A : Nat → Prop) (dC : Nat → ClassId) (dI : Nat → Nat → Nat) (a : Nat → Nat) (ac : Nat → ClassId) (g : (St × (St × (St))) → Option (Int32 × (St × (St × (St))))) (r : Int32 × (St × (St × (St)))) : Prop := ∀ (s0 : St × (St × (St))) (H : Heap) (locs : List Loc) (ls : Array Slot), g s0 = some r → va_P (dC, dI) vwCl (dw_X4 a ac s0) H → va_D A (dw_X4 a ac s0) → va_S A s.heap H locs → lv_has ls 4 [] → W p l e (headSpec ow_dm_X4_step ({ frames := 5, cells := 0, slots := 0, locals := 116 })).room s m args below meth c H locs 0 0 Q (F0 m 54 ls [])
def dj_X4_step_185 (p : Program) (l : Launch) (e : Env) (s : State) (m : MethodId) (args : Array Value) (below : List Frame) (meth : Method) (c : Code) (Q : State → Prop) (A : Nat → Prop) (dC : Nat → ClassId) (dI : Nat → Nat → Nat) (a : Nat → Nat) (ac : Nat → ClassId) (g : Int32 → (St × (St × (St))) → Option (Int32 × (St × (St × (St))))) (r : Int32 × (St × (St × (St)))) : Prop := ∀ (x3 : Int32) (s0 : St × (St × (St))) (H : Heap) (locs : List Loc) (ls : Array Slot), g x3 s0 = some r → va_P (dC, dI) vwCl (dw_X4 a ac s0) H → va_D A (dw_X4 a ac s0) → va_S A s.heap H locs → lv_has ls 4 [(3, .int x3)] → W p l e (headSpec ow_dm_X4_step ({ frames := 5, cells := 0, slots := 0, locals := 116 })).room s m args below meth c H locs 0 0 Q (F0 m 185 ls [])
def dj_X4_step_146 (p : Program) (l : Launch) (e : Env) (s : State) (m : MethodId) (args : Array Value) (below : List Frame) (meth : Method) (c : Code) (Q : State → Prop) (A : Nat → Prop) (dC : Nat → ClassId) (dI : Nat → Nat → Nat) (a : Nat → Nat) (ac : Nat → ClassId) (g : Int32 → (St × (St × (St))) → Option (Int32 × (St × (St × (St))))) (r : Int32 × (St × (St × (St)))) : Prop := ∀ (x2 : Int32) (s0 : St × (St × (St))) (H : Heap) (locs : List Loc) (ls : Array Slot), g x2 s0 = some r → va_P (dC, dI) vwCl (dw_X4 a ac s0) H → va_D A (dw_X4 a ac s0) → va_S A s.heap H locs → lv_has ls 4 [(0, .ref (a 0)), (2, .int x2)] → W p l e (headSpec ow_dm_X4_step ({ frames := 5, cells := 0, slots := 0, locals := 116 })).room s m args below meth c H locs 0 0 Q (F0 m 146 ls [])
def dj_X4_step_0 (p : Program) (l : Launch) (e : Env) (s : State) (m : MethodId) (args : Array Value) (below : List Frame) (meth : Method) (c : Code) (Q : State → Prop) (A : Nat → Prop) (dC : Nat → ClassId) (dI : Nat → Nat → Nat) (a : Nat → Nat) (ac : Nat → ClassId) (g : Int32 → (St × (St × (St))) → Option (Int32 × (St × (St × (St))))) (r : Int32 × (St × (St × (St)))) : Prop := ∀ (v0 : Int32) (s0 : St × (St × (St))) (H : Heap) (locs : List Loc) (ls : Array Slot), g v0 s0 = some r → va_P (dC, dI) vwCl (dw_X4 a ac s0) H → va_D A (dw_X4 a ac s0) → va_S A s.heap H locs → lv_has ls 4 [(0, .ref (a 0)), (1, .int v0)] → W p l e (headSpec ow_dm_X4_step ({ frames := 5, cells := 0, slots := 0, locals := 116 })).room s m args below meth c H locs 0 0 Q (F0 m 0 ls [])
set_option maxHeartbeats 40000000 in
set_option maxRecDepth 100000 in
theorem db_X4_step_54 {p : Program} {l : Launch} {e : Env} {s : State} {m : MethodId} {args : Array Value} {below : List Frame} {meth : Method} {c : Code} {Q : State → Prop} {A : Nat → Prop} {dC : Nat → ClassId} {dI : Nat → Nat → Nat} {a : Nat → Nat} {ac : Nat → ClassId} {n : Nat} {r : Int32 × (St × (St × (St)))} (C : nd_C p l s m args c A (dC, dI) cX4_step 4 RX4 ow_dm_X4_step (dk_X4 ac)) (K : nd_Ki p l e (headSpec ow_dm_X4_step ({ frames := 5, cells := 0, slots := 0, locals := 116 })).room s m args below meth c Q A (dC, dI) cX4_step .int (St × (St × (St))) (dw_X4 a ac) r) : dj_X4_step_54 p l e s m args below meth c Q A dC dI a ac (df_X4_step_54 n) r := by
  obtain ⟨hlt, hx, hb, hml, hown, hts, hN, hA, hK⟩ := id C
  intro s0 H locs ls h hP hD hS hl
  unfold df_X4_step_54 at h
  refine lv_bipush (v := 11) hx hb dX4_step_54 (by decide) ?_
  exact K _ _ _ _ _ _ dX4_step_56 rfl (Option.some.inj h).symm hP hD hS
set_option maxHeartbeats 40000000 in
set_option maxRecDepth 100000 in
theorem db_X4_step_185 {p : Program} {l : Launch} {e : Env} {s : State} {m : MethodId} {args : Array Value} {below : List Frame} {meth : Method} {c : Code} {Q : State → Prop} {A : Nat → Prop} {dC : Nat → ClassId} {dI : Nat → Nat → Nat} {a : Nat → Nat} {ac : Nat → ClassId} {n : Nat} {r : Int32 × (St × (St × (St)))} (C : nd_C p l s m args c A (dC, dI) cX4_step 4 RX4 ow_dm_X4_step (dk_X4 ac)) (K : nd_Ki p l e (headSpec ow_dm_X4_step ({ frames := 5, cells := 0, slots := 0, locals := 116 })).room s m args below meth c Q A (dC, dI) cX4_step .int (St × (St × (St))) (dw_X4 a ac) r) : dj_X4_step_185 p l e s m args below meth c Q A dC dI a ac (df_X4_step_185 n) r := by
  obtain ⟨hlt, hx, hb, hml, hown, hts, hN, hA, hK⟩ := id C
  intro x3 s0 H locs ls h hP hD hS hl
  unfold df_X4_step_185 at h
  refine lv_iload_n hx hb dX4_step_185 rfl (lv_at hl 0 rfl) ?_
  exact K _ _ _ _ _ _ dX4_step_186 rfl (Option.some.inj h).symm hP hD hS
set_option maxHeartbeats 40000000 in
set_option maxRecDepth 100000 in
theorem db_X4_step_146 {p : Program} {l : Launch} {e : Env} {s : State} {m : MethodId} {args : Array Value} {below : List Frame} {meth : Method} {c : Code} {Q : State → Prop} {A : Nat → Prop} {dC : Nat → ClassId} {dI : Nat → Nat → Nat} {a : Nat → Nat} {ac : Nat → ClassId} {n : Nat} {r : Int32 × (St × (St × (St)))} (C : nd_C p l s m args c A (dC, dI) cX4_step 4 RX4 ow_dm_X4_step (dk_X4 ac)) (K : nd_Ki p l e (headSpec ow_dm_X4_step ({ frames := 5, cells := 0, slots := 0, locals := 116 })).room s m args below meth c Q A (dC, dI) cX4_step .int (St × (St × (St))) (dw_X4 a ac) r) : dj_X4_step_146 p l e s m args below meth c Q A dC dI a ac (df_X4_step_146 n) r := by
  obtain ⟨hlt, hx, hb, hml, hown, hts, hN, hA, hK⟩ := id C
  intro x2 s0 H locs ls h hP hD hS hl
  unfold df_X4_step_146 at h
  refine lv_aload_n hx hb dX4_step_146 rfl (lv_at hl 0 rfl) ?_
  refine lv_iload_n hx hb dX4_step_147 rfl (lv_at hl 1 rfl) ?_
  obtain ⟨q20, s21, hq, h⟩ := nd_b2_e h
  have hPc := hP
  have hDc := hD
  have hKc := hK
  have hFc := nd_rs hD hS hA
  refine nd_cVi (As := [.int x2]) (rest := []) (q := q20) (w' := dw_X4 a ac s21) ⟨hx, hb, hml, hown, hts⟩ (fun sz => dm_X4_work l hlt dC dI a ac n (x2) s0 hq sz) (cwV 1 hts gi_dm_X4_step_3 rfl rfl rfl (by decide +kernel) ⟨Nat.le_of_ble_eq_true rfl, Nat.le_of_ble_eq_true rfl⟩) hPc hDc hKc hS hA hN (va_recv hKc hPc (ci := 5) (q0 := 0) rfl rfl) rfl hl.1 rfl (Nat.le_of_ble_eq_true rfl) dX4_step_148 (fun H locs hP1 hD1 hk1 hS => ?_)
  have hP := hP1
  have hD := hD1.weaken (fun k q _ h => hFc q.1 h)
  refine lv_istore_n (lv' := [(3, .int q20), (0, .ref (a 0)), (2, .int x2)]) hx hb dX4_step_151 rfl hl (by decide) rfl (fun ls hl => ?_)
  refine lv_iload_n hx hb dX4_step_152 rfl (lv_at hl 0 rfl) ?_
  refine lv_if_ne (tgt := 185) hx hb dX4_step_153 (by decide) (fun c23 => ?_) (fun c23 => ?_)
  · have h := nd_neg h c23
    exact (db_X4_step_185 C K) (q20) s21 _ _ _ h hP hD hS (lv_sub hl [0] rfl)
  · have h := nd_pos h c23
    refine lv_aload_n hx hb dX4_step_156 rfl (lv_at hl 1 rfl) ?_
    refine va_get (D := (dC, dI)) (ci := 5) (v := .ref (a 5)) (C := RX4) (T := TX4) (N := 6) hx hb hts hi_dm_X4_step_X4 hown hK hP 0 rfl rfl 1 (by decide) (hts (.fieldLink RX4 19 "TimeMachine$Hart" "reg" "[I") (List.mem_of_getElem? (i := 3) rfl)) (fun _ h9 => h9) rfl dX4_step_157 ?_
    refine lv_aload_n hx hb dX4_step_160 rfl (lv_at hl 1 rfl) ?_
    refine va_get (D := (dC, dI)) (ci := 5) (v := .int (sI s21.1 1)) (C := RX4) (T := TX4) (N := 6) hx hb hts hi_dm_X4_step_X4 hown hK hP 0 rfl rfl 3 (by decide) (hts (.fieldLink RX4 24 "TimeMachine$Hart" "base" "I") (List.mem_of_getElem? (i := 2) rfl)) (fun _ h9 => h9) rfl dX4_step_161 ?_
    refine lv_bipush (v := 32) hx hb dX4_step_164 (by decide) ?_
    refine lv_iadd hx hb dX4_step_166 ?_
    refine lv_aload_n hx hb dX4_step_167 rfl (lv_at hl 1 rfl) ?_
    refine va_get (D := (dC, dI)) (ci := 5) (v := .int (sI s21.1 3)) (C := RX4) (T := TX4) (N := 6) hx hb hts hi_dm_X4_step_X4 hown hK hP 0 rfl rfl 5 (by decide) (hts (.fieldLink RX4 38 "TimeMachine$Hart" "next" "I") (List.mem_of_getElem? (i := 16) rfl)) (fun _ h9 => h9) rfl dX4_step_168 ?_
    obtain ⟨i24, h⟩ := nd_ck_e h
    refine va_iast (i := ((sI s21.1 1) + 32)) (x := (sI s21.1 3)) hx hb hK hP hD hS 5 3 rfl rfl i24 dX4_step_171 (fun H locs hP hD hS => ?_)
    obtain ⟨s25, es25, h⟩ := nd_let_e h
    have hP : va_P (dC, dI) vwCl (dw_X4 a ac s25) H := by rw [es25]; exact hP
    have hD : va_D A (dw_X4 a ac s25) := by rw [es25]; exact hD
    refine lv_aload_n hx hb dX4_step_172 rfl (lv_at hl 1 rfl) ?_
    refine va_get (D := (dC, dI)) (ci := 5) (v := .ref (a 1)) (C := RX4) (T := TX4) (N := 6) hx hb hts hi_dm_X4_step_X4 hown hK hP 0 rfl rfl 0 (by decide) (hts (.fieldLink RX4 7 "TimeMachine$Hart" "machine" "LTimeMachine$Machine;") (List.mem_of_getElem? (i := 5) rfl)) (fun _ h9 => h9) rfl dX4_step_173 ?_
    refine lv_dup hx hb dX4_step_176 rfl ?_
    refine va_get (D := (dC, dI)) (ci := 7) (v := .long (sL s25.2.1 1)) (C := RX6) (T := TX6) (N := 20) hx hb hts hi_dm_X4_step_X6 hown hK hP 1 rfl rfl 18 (by decide) (hts (.fieldLink RX4 48 "TimeMachine$Machine" "retired" "J") (List.mem_of_getElem? (i := 20) rfl)) (fun _ h9 => h9) rfl dX4_step_177 ?_
    refine lv_lconst (v := 1) hx hb dX4_step_180 (by decide) ?_
    refine lv_ladd hx hb dX4_step_181 ?_
    refine va_put (D := (dC, dI)) (ci := 7) (v := .long (((sL s25.2.1 1) : Int64) + 1)) (ty := .long) (C := RX6) (T := TX6) (N := 20) hx hb hts hi_dm_X4_step_X6 tyX6 tyX6_ok nmX6 hown hK hP hD hS 1 rfl rfl 18 (by decide) (hts (.fieldLink RX4 48 "TimeMachine$Machine" "retired" "J") (List.mem_of_getElem? (i := 20) rfl)) (fun _ h9 => h9) rfl (by decide +kernel) rfl rfl (Nat.le_of_ble_eq_true rfl) dX4_step_182 (fun H locs hP hD hS => ?_)
    obtain ⟨s26, es26, h⟩ := nd_let_e h
    have hP : va_P (dC, dI) vwCl (dw_X4 a ac s26) H := by rw [es26]; exact hP
    have hD : va_D A (dw_X4 a ac s26) := by rw [es26]; exact hD
    exact (db_X4_step_185 C K) (q20) s26 _ _ _ h hP hD hS (lv_sub hl [0] rfl)
set_option maxHeartbeats 40000000 in
set_option maxRecDepth 100000 in
theorem db_X4_step_0 {p : Program} {l : Launch} {e : Env} {s : State} {m : MethodId} {args : Array Value} {below : List Frame} {meth : Method} {c : Code} {Q : State → Prop} {A : Nat → Prop} {dC : Nat → ClassId} {dI : Nat → Nat → Nat} {a : Nat → Nat} {ac : Nat → ClassId} {n : Nat} {r : Int32 × (St × (St × (St)))} (C : nd_C p l s m args c A (dC, dI) cX4_step 4 RX4 ow_dm_X4_step (dk_X4 ac)) (K : nd_Ki p l e (headSpec ow_dm_X4_step ({ frames := 5, cells := 0, slots := 0, locals := 116 })).room s m args below meth c Q A (dC, dI) cX4_step .int (St × (St × (St))) (dw_X4 a ac) r) : dj_X4_step_0 p l e s m args below meth c Q A dC dI a ac (df_X4_step_0 n) r := by
  obtain ⟨hlt, hx, hb, hml, hown, hts, hN, hA, hK⟩ := id C
  intro v0 s0 H locs ls h hP hD hS hl
  unfold df_X4_step_0 at h
  refine lv_aload_n hx hb dX4_step_0 rfl (lv_at hl 0 rfl) ?_
  refine lv_iload_n hx hb dX4_step_1 rfl (lv_at hl 1 rfl) ?_
  refine va_put (D := (dC, dI)) (ci := 5) (v := .int v0) (ty := .int) (C := RX4) (T := TX4) (N := 6) hx hb hts hi_dm_X4_step_X4 tyX4 tyX4_ok nmX4 hown hK hP hD hS 0 rfl rfl 2 (by decide) (hts (.fieldLink RX4 20 "TimeMachine$Hart" "process" "I") (List.mem_of_getElem? (i := 1) rfl)) (fun _ h9 => h9) rfl (by decide +kernel) rfl rfl (Nat.le_of_ble_eq_true rfl) dX4_step_2 (fun H locs hP hD hS => ?_)
  obtain ⟨s1, es1, h⟩ := nd_let_e h
  have hP : va_P (dC, dI) vwCl (dw_X4 a ac s1) H := by rw [es1]; exact hP
  have hD : va_D A (dw_X4 a ac s1) := by rw [es1]; exact hD
  refine lv_aload_n hx hb dX4_step_5 rfl (lv_at hl 0 rfl) ?_
  refine lv_iload_n hx hb dX4_step_6 rfl (lv_at hl 1 rfl) ?_
  refine lv_bipush (v := 33) hx hb dX4_step_7 (by decide) ?_
  refine lv_imul hx hb dX4_step_9 ?_
  refine va_put (D := (dC, dI)) (ci := 5) (v := .int (v0 * 33)) (ty := .int) (C := RX4) (T := TX4) (N := 6) hx hb hts hi_dm_X4_step_X4 tyX4 tyX4_ok nmX4 hown hK hP hD hS 0 rfl rfl 3 (by decide) (hts (.fieldLink RX4 24 "TimeMachine$Hart" "base" "I") (List.mem_of_getElem? (i := 2) rfl)) (fun _ h9 => h9) rfl (by decide +kernel) rfl rfl (Nat.le_of_ble_eq_true rfl) dX4_step_10 (fun H locs hP hD hS => ?_)
  obtain ⟨s2, es2, h⟩ := nd_let_e h
  have hP : va_P (dC, dI) vwCl (dw_X4 a ac s2) H := by rw [es2]; exact hP
  have hD : va_D A (dw_X4 a ac s2) := by rw [es2]; exact hD
  refine lv_aload_n hx hb dX4_step_13 rfl (lv_at hl 0 rfl) ?_
  refine lv_aload_n hx hb dX4_step_14 rfl (lv_at hl 0 rfl) ?_
  refine va_get (D := (dC, dI)) (ci := 5) (v := .ref (a 5)) (C := RX4) (T := TX4) (N := 6) hx hb hts hi_dm_X4_step_X4 hown hK hP 0 rfl rfl 1 (by decide) (hts (.fieldLink RX4 19 "TimeMachine$Hart" "reg" "[I") (List.mem_of_getElem? (i := 3) rfl)) (fun _ h9 => h9) rfl dX4_step_15 ?_
  refine lv_aload_n hx hb dX4_step_18 rfl (lv_at hl 0 rfl) ?_
  refine va_get (D := (dC, dI)) (ci := 5) (v := .int (sI s2.1 1)) (C := RX4) (T := TX4) (N := 6) hx hb hts hi_dm_X4_step_X4 hown hK hP 0 rfl rfl 3 (by decide) (hts (.fieldLink RX4 24 "TimeMachine$Hart" "base" "I") (List.mem_of_getElem? (i := 2) rfl)) (fun _ h9 => h9) rfl dX4_step_19 ?_
  refine lv_bipush (v := 32) hx hb dX4_step_22 (by decide) ?_
  refine lv_iadd hx hb dX4_step_24 ?_
  obtain ⟨i3, h⟩ := nd_ck_e h
  refine va_iald (i := ((sI s2.1 1) + 32)) hx hb hK hP 5 3 rfl rfl i3 dX4_step_25 ?_
  refine va_put (D := (dC, dI)) (ci := 5) (v := .int (sR s2.2.1 3 (Int32.toNatClampNeg ((sI s2.1 1) + 32)))) (ty := .int) (C := RX4) (T := TX4) (N := 6) hx hb hts hi_dm_X4_step_X4 tyX4 tyX4_ok nmX4 hown hK hP hD hS 0 rfl rfl 4 (by decide) (hts (.fieldLink RX4 27 "TimeMachine$Hart" "place" "I") (List.mem_of_getElem? (i := 4) rfl)) (fun _ h9 => h9) rfl (by decide +kernel) rfl rfl (Nat.le_of_ble_eq_true rfl) dX4_step_26 (fun H locs hP hD hS => ?_)
  obtain ⟨s4, es4, h⟩ := nd_let_e h
  have hP : va_P (dC, dI) vwCl (dw_X4 a ac s4) H := by rw [es4]; exact hP
  have hD : va_D A (dw_X4 a ac s4) := by rw [es4]; exact hD
  refine lv_aload_n hx hb dX4_step_29 rfl (lv_at hl 0 rfl) ?_
  refine va_get (D := (dC, dI)) (ci := 5) (v := .int (sI s4.1 2)) (C := RX4) (T := TX4) (N := 6) hx hb hts hi_dm_X4_step_X4 hown hK hP 0 rfl rfl 4 (by decide) (hts (.fieldLink RX4 27 "TimeMachine$Hart" "place" "I") (List.mem_of_getElem? (i := 4) rfl)) (fun _ h9 => h9) rfl dX4_step_30 ?_
  refine lv_iconst (v := 1) hx hb dX4_step_33 (by decide) ?_
  refine lv_iand hx hb dX4_step_34 ?_
  refine lv_if_ne (tgt := 54) hx hb dX4_step_35 (by decide) (fun c5 => ?_) (fun c5 => ?_)
  · have h := nd_neg h c5
    exact (db_X4_step_54 C K)  s4 _ _ _ h hP hD hS (lv_sub hl [] rfl)
  · have h := nd_pos h c5
    refine lv_aload_n hx hb dX4_step_38 rfl (lv_at hl 0 rfl) ?_
    refine va_get (D := (dC, dI)) (ci := 5) (v := .ref (a 1)) (C := RX4) (T := TX4) (N := 6) hx hb hts hi_dm_X4_step_X4 hown hK hP 0 rfl rfl 0 (by decide) (hts (.fieldLink RX4 7 "TimeMachine$Hart" "machine" "LTimeMachine$Machine;") (List.mem_of_getElem? (i := 5) rfl)) (fun _ h9 => h9) rfl dX4_step_39 ?_
    refine lv_iload_n hx hb dX4_step_42 rfl (lv_at hl 1 rfl) ?_
    refine lv_aload_n hx hb dX4_step_43 rfl (lv_at hl 0 rfl) ?_
    refine va_get (D := (dC, dI)) (ci := 5) (v := .int (sI s4.1 2)) (C := RX4) (T := TX4) (N := 6) hx hb hts hi_dm_X4_step_X4 hown hK hP 0 rfl rfl 4 (by decide) (hts (.fieldLink RX4 27 "TimeMachine$Hart" "place" "I") (List.mem_of_getElem? (i := 4) rfl)) (fun _ h9 => h9) rfl dX4_step_44 ?_
    refine lv_iconst (v := 4) hx hb dX4_step_47 (by decide) ?_
    obtain ⟨q6, s7, hq, h⟩ := nd_b2_e h
    have hPc := dp_X4_1 hP
    have hDc := dd_X4_1 hD
    have hKc := dy_X4_1 hK
    have hFc := nd_rs hDc hS hA
    have hzA : ∀ q : Nat, H.size ≤ q → A q := fun q h => hA q (Nat.le_trans hS.1 h)
    refine nd_cVi (As := [.int v0, .int (sI s4.1 2), .int 4]) (rest := []) (q := q6) (w' := dw_X6 (fun k => a (k + 1)) (fun k => ac (k + 1)) s7) ⟨hx, hb, hml, hown, hts⟩ (fun sz => dm_X6_may l hlt dC dI (fun k => a (k + 1)) (fun k => ac (k + 1)) n (v0) ((sI s4.1 2)) (4) s4.2 hq sz) (cwV 3 hts gi_dm_X4_step_0 rfl rfl rfl (by decide +kernel) ⟨Nat.le_of_ble_eq_true rfl, Nat.le_of_ble_eq_true rfl⟩) hPc hDc hKc hS hA hN (va_recv hKc hPc (ci := 7) (q0 := 0) rfl rfl) rfl hl.1 rfl (Nat.le_of_ble_eq_true rfl) dX4_step_48 (fun H locs hP1 hD1 hk1 hS => ?_)
    obtain ⟨hP, hD⟩ := dn_X4_1 hP hD hzA hk1 hP1 hD1
    obtain ⟨s9, es9, h⟩ := nd_let_e h
    have hP : va_P (dC, dI) vwCl (dw_X4 a ac s9) H := by rw [es9]; exact hP
    have hD : va_D A (dw_X4 a ac s9) := by rw [es9]; exact hD
    refine lv_if_ne (tgt := 57) hx hb dX4_step_51 (by decide) (fun c10 => ?_) (fun c10 => ?_)
    · have h := nd_neg h c10
      refine lv_aload_n hx hb dX4_step_57 rfl (lv_at hl 0 rfl) ?_
      refine va_get (D := (dC, dI)) (ci := 5) (v := .ref (a 1)) (C := RX4) (T := TX4) (N := 6) hx hb hts hi_dm_X4_step_X4 hown hK hP 0 rfl rfl 0 (by decide) (hts (.fieldLink RX4 7 "TimeMachine$Hart" "machine" "LTimeMachine$Machine;") (List.mem_of_getElem? (i := 5) rfl)) (fun _ h9 => h9) rfl dX4_step_58 ?_
      refine lv_iload_n hx hb dX4_step_61 rfl (lv_at hl 1 rfl) ?_
      refine lv_aload_n hx hb dX4_step_62 rfl (lv_at hl 0 rfl) ?_
      refine va_get (D := (dC, dI)) (ci := 5) (v := .int (sI s9.1 2)) (C := RX4) (T := TX4) (N := 6) hx hb hts hi_dm_X4_step_X4 hown hK hP 0 rfl rfl 4 (by decide) (hts (.fieldLink RX4 27 "TimeMachine$Hart" "place" "I") (List.mem_of_getElem? (i := 4) rfl)) (fun _ h9 => h9) rfl dX4_step_63 ?_
      obtain ⟨q11, s12, hq, h⟩ := nd_b2_e h
      have hPc := dp_X4_1 hP
      have hDc := dd_X4_1 hD
      have hKc := dy_X4_1 hK
      have hFc := nd_rs hDc hS hA
      have hzA : ∀ q : Nat, H.size ≤ q → A q := fun q h => hA q (Nat.le_trans hS.1 h)
      refine nd_cVi (As := [.int v0, .int (sI s9.1 2)]) (rest := []) (q := q11) (w' := dw_X6 (fun k => a (k + 1)) (fun k => ac (k + 1)) s12) ⟨hx, hb, hml, hown, hts⟩ (fun sz => dm_X6_halfAt l hlt dC dI (fun k => a (k + 1)) (fun k => ac (k + 1)) n (v0) ((sI s9.1 2)) s9.2 hq sz) (cwV 2 hts gi_dm_X4_step_1 rfl rfl rfl (by decide +kernel) ⟨Nat.le_of_ble_eq_true rfl, Nat.le_of_ble_eq_true rfl⟩) hPc hDc hKc hS hA hN (va_recv hKc hPc (ci := 7) (q0 := 0) rfl rfl) rfl hl.1 rfl (Nat.le_of_ble_eq_true rfl) dX4_step_66 (fun H locs hP1 hD1 hk1 hS => ?_)
      obtain ⟨hP, hD⟩ := dn_X4_1 hP hD hzA hk1 hP1 hD1
      obtain ⟨s14, es14, h⟩ := nd_let_e h
      have hP : va_P (dC, dI) vwCl (dw_X4 a ac s14) H := by rw [es14]; exact hP
      have hD : va_D A (dw_X4 a ac s14) := by rw [es14]; exact hD
      refine lv_istore_n (lv' := [(2, .int q11), (0, .ref (a 0)), (1, .int v0)]) hx hb dX4_step_69 rfl hl (by decide) rfl (fun ls hl => ?_)
      refine lv_iload_n hx hb dX4_step_70 rfl (lv_at hl 0 rfl) ?_
      refine lv_iconst (v := 3) hx hb dX4_step_71 (by decide) ?_
      refine lv_iand hx hb dX4_step_72 ?_
      refine lv_iconst (v := 3) hx hb dX4_step_73 (by decide) ?_
      refine lv_icmp_ne (tgt := 131) hx hb dX4_step_74 (by decide) (fun c15 => ?_) (fun c15 => ?_)
      · have h := nd_neg h c15
        refine lv_iload_n hx hb dX4_step_131 rfl (lv_at hl 0 rfl) ?_
        obtain ⟨q16, s17, hq, h⟩ := nd_b2_e h
        have hPc : va_P (dC, dI) vwCl (dw_P a ac ()) H := nd_p0
        have hDc : va_D A (dw_P a ac ()) := nd_d0
        have hKc : va_K (dC, dI) vwCl (dk_P ac) s := nd_y0 hK
        have hFc : ∀ q, va_A (dw_P a ac ()) H.size q → A q := nd_r0 hS hA
        refine nd_cSi (As := [.int q11]) (rest := []) (q := q16) (w' := dw_P a ac s17) ⟨hx, hb, hml, hown, hts⟩ (fun sz => dm_X4_expanded l hlt dC dI a ac n (q11) () hq sz) (cwS 1 hts gi_dm_X4_step_2 rfl rfl rfl (by decide +kernel) ⟨Nat.le_of_ble_eq_true rfl, Nat.le_of_ble_eq_true rfl⟩) hPc hDc hKc hS hA hN rfl hl.1 rfl (Nat.le_of_ble_eq_true rfl) dX4_step_132 (fun H locs hP1 hD1 hk1 hS => ?_)
        have hP := nd_n0 hP hk1
        refine lv_istore_n (lv' := [(2, .int q16), (0, .ref (a 0)), (1, .int v0)]) hx hb dX4_step_135 rfl hl (by decide) rfl (fun ls hl => ?_)
        refine lv_aload_n hx hb dX4_step_136 rfl (lv_at hl 1 rfl) ?_
        refine lv_aload_n hx hb dX4_step_137 rfl (lv_at hl 1 rfl) ?_
        refine va_get (D := (dC, dI)) (ci := 5) (v := .int (sI s14.1 2)) (C := RX4) (T := TX4) (N := 6) hx hb hts hi_dm_X4_step_X4 hown hK hP 0 rfl rfl 4 (by decide) (hts (.fieldLink RX4 27 "TimeMachine$Hart" "place" "I") (List.mem_of_getElem? (i := 4) rfl)) (fun _ h9 => h9) rfl dX4_step_138 ?_
        refine lv_iconst (v := 2) hx hb dX4_step_141 (by decide) ?_
        refine lv_iadd hx hb dX4_step_142 ?_
        refine va_put (D := (dC, dI)) (ci := 5) (v := .int ((sI s14.1 2) + 2)) (ty := .int) (C := RX4) (T := TX4) (N := 6) hx hb hts hi_dm_X4_step_X4 tyX4 tyX4_ok nmX4 hown hK hP hD hS 0 rfl rfl 5 (by decide) (hts (.fieldLink RX4 38 "TimeMachine$Hart" "next" "I") (List.mem_of_getElem? (i := 16) rfl)) (fun _ h9 => h9) rfl (by decide +kernel) rfl rfl (Nat.le_of_ble_eq_true rfl) dX4_step_143 (fun H locs hP hD hS => ?_)
        obtain ⟨s19, es19, h⟩ := nd_let_e h
        have hP : va_P (dC, dI) vwCl (dw_X4 a ac s19) H := by rw [es19]; exact hP
        have hD : va_D A (dw_X4 a ac s19) := by rw [es19]; exact hD
        exact (db_X4_step_146 C K) (q16) s19 _ _ _ h hP hD hS (lv_sub hl [1, 0] rfl)
      · have h := nd_pos h c15
        refine lv_aload_n hx hb dX4_step_77 rfl (lv_at hl 1 rfl) ?_
        refine va_get (D := (dC, dI)) (ci := 5) (v := .ref (a 1)) (C := RX4) (T := TX4) (N := 6) hx hb hts hi_dm_X4_step_X4 hown hK hP 0 rfl rfl 0 (by decide) (hts (.fieldLink RX4 7 "TimeMachine$Hart" "machine" "LTimeMachine$Machine;") (List.mem_of_getElem? (i := 5) rfl)) (fun _ h9 => h9) rfl dX4_step_78 ?_
        refine lv_iload_n hx hb dX4_step_81 rfl (lv_at hl 2 rfl) ?_
        refine lv_aload_n hx hb dX4_step_82 rfl (lv_at hl 1 rfl) ?_
        refine va_get (D := (dC, dI)) (ci := 5) (v := .int (sI s14.1 2)) (C := RX4) (T := TX4) (N := 6) hx hb hts hi_dm_X4_step_X4 hown hK hP 0 rfl rfl 4 (by decide) (hts (.fieldLink RX4 27 "TimeMachine$Hart" "place" "I") (List.mem_of_getElem? (i := 4) rfl)) (fun _ h9 => h9) rfl dX4_step_83 ?_
        refine lv_iconst (v := 2) hx hb dX4_step_86 (by decide) ?_
        refine lv_iadd hx hb dX4_step_87 ?_
        refine lv_iconst (v := 4) hx hb dX4_step_88 (by decide) ?_
        obtain ⟨q27, s28, hq, h⟩ := nd_b2_e h
        have hPc := dp_X4_1 hP
        have hDc := dd_X4_1 hD
        have hKc := dy_X4_1 hK
        have hFc := nd_rs hDc hS hA
        have hzA : ∀ q : Nat, H.size ≤ q → A q := fun q h => hA q (Nat.le_trans hS.1 h)
        refine nd_cVi (As := [.int v0, .int ((sI s14.1 2) + 2), .int 4]) (rest := []) (q := q27) (w' := dw_X6 (fun k => a (k + 1)) (fun k => ac (k + 1)) s28) ⟨hx, hb, hml, hown, hts⟩ (fun sz => dm_X6_may l hlt dC dI (fun k => a (k + 1)) (fun k => ac (k + 1)) n (v0) (((sI s14.1 2) + 2)) (4) s14.2 hq sz) (cwV 3 hts gi_dm_X4_step_0 rfl rfl rfl (by decide +kernel) ⟨Nat.le_of_ble_eq_true rfl, Nat.le_of_ble_eq_true rfl⟩) hPc hDc hKc hS hA hN (va_recv hKc hPc (ci := 7) (q0 := 0) rfl rfl) rfl hl.1 rfl (Nat.le_of_ble_eq_true rfl) dX4_step_89 (fun H locs hP1 hD1 hk1 hS => ?_)
        obtain ⟨hP, hD⟩ := dn_X4_1 hP hD hzA hk1 hP1 hD1
        obtain ⟨s30, es30, h⟩ := nd_let_e h
        have hP : va_P (dC, dI) vwCl (dw_X4 a ac s30) H := by rw [es30]; exact hP
        have hD : va_D A (dw_X4 a ac s30) := by rw [es30]; exact hD
        refine lv_if_ne (tgt := 98) hx hb dX4_step_92 (by decide) (fun c31 => ?_) (fun c31 => ?_)
        · have h := nd_neg h c31
          refine lv_iload_n hx hb dX4_step_98 rfl (lv_at hl 0 rfl) ?_
          refine lv_aload_n hx hb dX4_step_99 rfl (lv_at hl 1 rfl) ?_
          refine va_get (D := (dC, dI)) (ci := 5) (v := .ref (a 1)) (C := RX4) (T := TX4) (N := 6) hx hb hts hi_dm_X4_step_X4 hown hK hP 0 rfl rfl 0 (by decide) (hts (.fieldLink RX4 7 "TimeMachine$Hart" "machine" "LTimeMachine$Machine;") (List.mem_of_getElem? (i := 5) rfl)) (fun _ h9 => h9) rfl dX4_step_100 ?_
          refine lv_iload_n hx hb dX4_step_103 rfl (lv_at hl 2 rfl) ?_
          refine lv_aload_n hx hb dX4_step_104 rfl (lv_at hl 1 rfl) ?_
          refine va_get (D := (dC, dI)) (ci := 5) (v := .int (sI s30.1 2)) (C := RX4) (T := TX4) (N := 6) hx hb hts hi_dm_X4_step_X4 hown hK hP 0 rfl rfl 4 (by decide) (hts (.fieldLink RX4 27 "TimeMachine$Hart" "place" "I") (List.mem_of_getElem? (i := 4) rfl)) (fun _ h9 => h9) rfl dX4_step_105 ?_
          refine lv_iconst (v := 2) hx hb dX4_step_108 (by decide) ?_
          refine lv_iadd hx hb dX4_step_109 ?_
          obtain ⟨q32, s33, hq, h⟩ := nd_b2_e h
          have hPc := dp_X4_1 hP
          have hDc := dd_X4_1 hD
          have hKc := dy_X4_1 hK
          have hFc := nd_rs hDc hS hA
          have hzA : ∀ q : Nat, H.size ≤ q → A q := fun q h => hA q (Nat.le_trans hS.1 h)
          refine nd_cVi (As := [.int v0, .int ((sI s30.1 2) + 2)]) (rest := [.int q11]) (q := q32) (w' := dw_X6 (fun k => a (k + 1)) (fun k => ac (k + 1)) s33) ⟨hx, hb, hml, hown, hts⟩ (fun sz => dm_X6_halfAt l hlt dC dI (fun k => a (k + 1)) (fun k => ac (k + 1)) n (v0) (((sI s30.1 2) + 2)) s30.2 hq sz) (cwV 2 hts gi_dm_X4_step_1 rfl rfl rfl (by decide +kernel) ⟨Nat.le_of_ble_eq_true rfl, Nat.le_of_ble_eq_true rfl⟩) hPc hDc hKc hS hA hN (va_recv hKc hPc (ci := 7) (q0 := 0) rfl rfl) rfl hl.1 rfl (Nat.le_of_ble_eq_true rfl) dX4_step_110 (fun H locs hP1 hD1 hk1 hS => ?_)
          obtain ⟨hP, hD⟩ := dn_X4_1 hP hD hzA hk1 hP1 hD1
          obtain ⟨s35, es35, h⟩ := nd_let_e h
          have hP : va_P (dC, dI) vwCl (dw_X4 a ac s35) H := by rw [es35]; exact hP
          have hD : va_D A (dw_X4 a ac s35) := by rw [es35]; exact hD
          refine lv_bipush (v := 16) hx hb dX4_step_113 (by decide) ?_
          refine lv_ishl hx hb dX4_step_115 ?_
          refine lv_ior hx hb dX4_step_116 ?_
          refine lv_topi (fun z36 ez36 => ?_)
          have h := nd_at h ez36
          refine lv_istore_n (lv' := [(2, .int z36), (0, .ref (a 0)), (1, .int v0)]) hx hb dX4_step_117 rfl hl (by decide) rfl (fun ls hl => ?_)
          refine lv_aload_n hx hb dX4_step_118 rfl (lv_at hl 1 rfl) ?_
          refine lv_aload_n hx hb dX4_step_119 rfl (lv_at hl 1 rfl) ?_
          refine va_get (D := (dC, dI)) (ci := 5) (v := .int (sI s35.1 2)) (C := RX4) (T := TX4) (N := 6) hx hb hts hi_dm_X4_step_X4 hown hK hP 0 rfl rfl 4 (by decide) (hts (.fieldLink RX4 27 "TimeMachine$Hart" "place" "I") (List.mem_of_getElem? (i := 4) rfl)) (fun _ h9 => h9) rfl dX4_step_120 ?_
          refine lv_iconst (v := 4) hx hb dX4_step_123 (by decide) ?_
          refine lv_iadd hx hb dX4_step_124 ?_
          refine va_put (D := (dC, dI)) (ci := 5) (v := .int ((sI s35.1 2) + 4)) (ty := .int) (C := RX4) (T := TX4) (N := 6) hx hb hts hi_dm_X4_step_X4 tyX4 tyX4_ok nmX4 hown hK hP hD hS 0 rfl rfl 5 (by decide) (hts (.fieldLink RX4 38 "TimeMachine$Hart" "next" "I") (List.mem_of_getElem? (i := 16) rfl)) (fun _ h9 => h9) rfl (by decide +kernel) rfl rfl (Nat.le_of_ble_eq_true rfl) dX4_step_125 (fun H locs hP hD hS => ?_)
          obtain ⟨s37, es37, h⟩ := nd_let_e h
          have hP : va_P (dC, dI) vwCl (dw_X4 a ac s37) H := by rw [es37]; exact hP
          have hD : va_D A (dw_X4 a ac s37) := by rw [es37]; exact hD
          refine lv_goto (tgt := 146) hx hb dX4_step_128 (by decide) ?_
          exact (db_X4_step_146 C K) (z36) s37 _ _ _ h hP hD hS (lv_sub hl [1, 0] rfl)
        · have h := nd_pos h c31
          refine lv_bipush (v := 11) hx hb dX4_step_95 (by decide) ?_
          exact K _ _ _ _ _ _ dX4_step_97 rfl (Option.some.inj h).symm hP hD hS
    · have h := nd_pos h c10
      exact (db_X4_step_54 C K)  s9 _ _ _ h hP hD hS (lv_sub hl [] rfl)
set_option maxHeartbeats 40000000 in
set_option maxRecDepth 100000 in
theorem dm_X4_step (l : Launch) (hlt : l.stackTraces = false) (dC : Nat → ClassId) (dI : Nat → Nat → Nat) (a : Nat → Nat) (ac : Nat → ClassId) (n : Nat) (v0 : Int32) (s0 : St × (St × (St))) {r : Int32 × (St × (St × (St)))} (h : df_X4_step n v0 s0 = some r) (sz : Nat) : Met l yX4_step ow_dm_X4_step ({ frames := 5, cells := 0, slots := 0, locals := 116 }) (va_Pc [.ref (a 0), .int v0] (fun U => U.heap.size = sz ∧ va_P (dC, dI) vwCl (dw_X4 a ac s0) U.heap ∧ va_K (dC, dI) vwCl (dk_X4 ac) U ∧ va_D (fun _ => True) (dw_X4 a ac s0) ∧ nv_E dI (va_A (dw_X4 a ac s0) sz) U)) (va_Qi (fun x _ => x = r.1) (fun (_ : Unit) t => va_P (dC, dI) vwCl (dw_X4 a ac r.2) t.heap ∧ va_K (dC, dI) vwCl (dk_X4 ac) t ∧ va_D (va_A (dw_X4 a ac s0) sz) (dw_X4 a ac r.2)) (va_A (dw_X4 a ac s0) sz)) 0 0 (va_A (dw_X4 a ac s0) sz) := by
  refine Met.ofW (cc := cX4_step) (maxL := 4) (ret := (some .int)) (by decide) rfl ?_
  intro p e s m args below meth c s₁ B hml hv
  obtain ⟨rfl, hsz, hP, hK, hD0, hN⟩ := hv
  have hx := B.exec
  have hb := B.bytes
  have hr := B.returns
  have hts := atoms_spec (ws := ow_dm_X4_step) B.pre
  have hown : s.vm.findClass RX4 = some m.cls := findClass_of_methodNamed B.named
  have hlocks := B.notSynchronized
  subst hsz
  have hD := hD0.self (sz := s.heap.size)
  generalize hAe : va_A (dw_X4 a ac s0) s.heap.size = A at hD hN ⊢
  have hA : ∀ q : Nat, s.heap.size ≤ q → A q := fun q h => by rw [← hAe]; exact Or.inr h
  have hl := lv_entry ([.ref (a 0), .int v0]) (n := 4) (Nat.le_of_ble_eq_true rfl)
  rw [lg_entry_eq]
  generalize (lg_sl ([.ref (a 0), .int v0]) ++ List.replicate (4 - (lg_sl ([.ref (a 0), .int v0])).length) Slot.unset).toArray = ls at hl ⊢
  have hl : lv_has ls 4 [(0, .ref (a 0)), (1, .int v0)] := hl
  exact db_X4_step_0 (dC := dC) (dI := dI) (a := a) (ac := ac) (n := n) (r := r) ⟨hlt, hx, hb, hml, hown, hts, hN, hA, hK⟩ (fun pc v τ H locs ls d z er hP hD hS => by subst er; exact W.zret (v := v) hx hb hr z (fun t ht hW => ⟨⟨v, (), rfl, rfl, by rw [ht]; exact hP, va_K.moved hW.alike hK, hD⟩, hS.F ht⟩) hS.2.2 d) v0 s0 _ _ _ h hP hD va_S.rf (lv_sub hl [0, 1] rfl)
def ow_dm_X6_addPages : List Cond := Cond.code yX6_addPages cX6_addPages 8 none :: ([Cond.fieldLink RX6 14 "TimeMachine$Machine" "users" "[I", Cond.fieldLink RX6 52 "TimeMachine$Machine" "framesUsed" "I", Cond.fieldLink RX6 17 "TimeMachine$Machine" "page" "[I", Cond.fieldLink RX6 10 "TimeMachine$Machine" "word" "[I"] ++ (u_ws RX6 TX6 20 ++ []))
theorem gd_dm_X6_addPages : ∀ w ∈ ow_dm_X6_addPages, (w.onTables && w.keeps) = true ∨ ∃ ty, w = Cond.arrayClass ty := List.forall_mem_cons.mpr ⟨good_of_word rfl, List.forall_mem_append.mpr ⟨fun w h => good_of_word (List.all_eq_true.mp (by decide +kernel) w h), List.forall_mem_append.mpr ⟨gu_X6, fun _ h => nomatch h⟩⟩⟩
theorem hi_dm_X6_addPages_X6 : ∀ w ∈ u_ws RX6 TX6 20, w ∈ ow_dm_X6_addPages := fun w h => List.mem_cons_of_mem _ (List.mem_append_right _ (List.mem_append_left _ h))
def dj_X6_addPages_117 (p : Program) (l : Launch) (e : Env) (s : State) (m : MethodId) (args : Array Value) (below : List Frame) (meth : Method) (c : Code) (Q : State → Prop) (A : Nat → Prop) (dC : Nat → ClassId) (dI : Nat → Nat → Nat) (a : Nat → Nat) (ac : Nat → ClassId) (g : (St × (St)) → Option (St × (St))) (r : St × (St)) : Prop := ∀ (s0 : St × (St)) (H : Heap) (locs : List Loc) (ls : Array Slot), g s0 = some r → va_P (dC, dI) vwCl (dw_X6 a ac s0) H → va_D A (dw_X6 a ac s0) → va_S A s.heap H locs → lv_has ls 8 [] → W p l e (headSpec ow_dm_X6_addPages ({ frames := 0, cells := 0, slots := 0, locals := 0 })).room s m args below meth c H locs 0 0 Q (F0 m 117 ls [])
def dj_X6_addPages_111 (p : Program) (l : Launch) (e : Env) (s : State) (m : MethodId) (args : Array Value) (below : List Frame) (meth : Method) (c : Code) (Q : State → Prop) (A : Nat → Prop) (dC : Nat → ClassId) (dI : Nat → Nat → Nat) (a : Nat → Nat) (ac : Nat → ClassId) (g : Int32 → Int32 → Int32 → Int32 → Int32 → Int32 → (St × (St)) → Option (St × (St))) (r : St × (St)) : Prop := ∀ (x1 : Int32) (x2 : Int32) (x3 : Int32) (x4 : Int32) (x5 : Int32) (x6 : Int32) (s0 : St × (St)) (H : Heap) (locs : List Loc) (ls : Array Slot), g x1 x2 x3 x4 x5 x6 s0 = some r → va_P (dC, dI) vwCl (dw_X6 a ac s0) H → va_D A (dw_X6 a ac s0) → va_S A s.heap H locs → lv_has ls 8 [(0, .ref (a 0)), (1, .int x1), (2, .int x2), (3, .int x3), (4, .int x4), (5, .int x5), (6, .int x6)] → W p l e (headSpec ow_dm_X6_addPages ({ frames := 0, cells := 0, slots := 0, locals := 0 })).room s m args below meth c H locs 0 0 Q (F0 m 111 ls [])
def dj_X6_addPages_42 (p : Program) (l : Launch) (e : Env) (s : State) (m : MethodId) (args : Array Value) (below : List Frame) (meth : Method) (c : Code) (Q : State → Prop) (A : Nat → Prop) (dC : Nat → ClassId) (dI : Nat → Nat → Nat) (a : Nat → Nat) (ac : Nat → ClassId) (g : Int32 → Int32 → Int32 → Int32 → Int32 → Int32 → Int32 → (St × (St)) → Option (St × (St))) (r : St × (St)) : Prop := ∀ (x1 : Int32) (x2 : Int32) (x3 : Int32) (x4 : Int32) (x5 : Int32) (x6 : Int32) (x7 : Int32) (s0 : St × (St)) (H : Heap) (locs : List Loc) (ls : Array Slot), g x1 x2 x3 x4 x5 x6 x7 s0 = some r → va_P (dC, dI) vwCl (dw_X6 a ac s0) H → va_D A (dw_X6 a ac s0) → va_S A s.heap H locs → lv_has ls 8 [(0, .ref (a 0)), (1, .int x1), (2, .int x2), (3, .int x3), (4, .int x4), (5, .int x5), (6, .int x6), (7, .int x7)] → W p l e (headSpec ow_dm_X6_addPages ({ frames := 0, cells := 0, slots := 0, locals := 0 })).room s m args below meth c H locs 0 0 Q (F0 m 42 ls [])
def dj_X6_addPages_6 (p : Program) (l : Launch) (e : Env) (s : State) (m : MethodId) (args : Array Value) (below : List Frame) (meth : Method) (c : Code) (Q : State → Prop) (A : Nat → Prop) (dC : Nat → ClassId) (dI : Nat → Nat → Nat) (a : Nat → Nat) (ac : Nat → ClassId) (g : Int32 → Int32 → Int32 → Int32 → Int32 → Int32 → (St × (St)) → Option (St × (St))) (r : St × (St)) : Prop := ∀ (x1 : Int32) (x2 : Int32) (x3 : Int32) (x4 : Int32) (x5 : Int32) (x6 : Int32) (s0 : St × (St)) (H : Heap) (locs : List Loc) (ls : Array Slot), g x1 x2 x3 x4 x5 x6 s0 = some r → va_P (dC, dI) vwCl (dw_X6 a ac s0) H → va_D A (dw_X6 a ac s0) → va_S A s.heap H locs → lv_has ls 8 [(0, .ref (a 0)), (1, .int x1), (2, .int x2), (3, .int x3), (4, .int x4), (5, .int x5), (6, .int x6)] → W p l e (headSpec ow_dm_X6_addPages ({ frames := 0, cells := 0, slots := 0, locals := 0 })).room s m args below meth c H locs 0 0 Q (F0 m 6 ls [])
def dj_X6_addPages_0 (p : Program) (l : Launch) (e : Env) (s : State) (m : MethodId) (args : Array Value) (below : List Frame) (meth : Method) (c : Code) (Q : State → Prop) (A : Nat → Prop) (dC : Nat → ClassId) (dI : Nat → Nat → Nat) (a : Nat → Nat) (ac : Nat → ClassId) (g : Int32 → Int32 → Int32 → Int32 → (St × (St)) → Option (St × (St))) (r : St × (St)) : Prop := ∀ (v0 : Int32) (v1 : Int32) (v2 : Int32) (v3 : Int32) (s0 : St × (St)) (H : Heap) (locs : List Loc) (ls : Array Slot), g v0 v1 v2 v3 s0 = some r → va_P (dC, dI) vwCl (dw_X6 a ac s0) H → va_D A (dw_X6 a ac s0) → va_S A s.heap H locs → lv_has ls 8 [(0, .ref (a 0)), (1, .int v0), (2, .int v1), (3, .int v2), (4, .int v3)] → W p l e (headSpec ow_dm_X6_addPages ({ frames := 0, cells := 0, slots := 0, locals := 0 })).room s m args below meth c H locs 0 0 Q (F0 m 0 ls [])
set_option maxHeartbeats 40000000 in
set_option maxRecDepth 100000 in
theorem db_X6_addPages_117 {p : Program} {l : Launch} {e : Env} {s : State} {m : MethodId} {args : Array Value} {below : List Frame} {meth : Method} {c : Code} {Q : State → Prop} {A : Nat → Prop} {dC : Nat → ClassId} {dI : Nat → Nat → Nat} {a : Nat → Nat} {ac : Nat → ClassId} {n : Nat} {r : St × (St)} (C : nd_C p l s m args c A (dC, dI) cX6_addPages 8 RX6 ow_dm_X6_addPages (dk_X6 ac)) (K : nd_Kv p l e (headSpec ow_dm_X6_addPages ({ frames := 0, cells := 0, slots := 0, locals := 0 })).room s m args below meth c Q A (dC, dI) cX6_addPages (St × (St)) (dw_X6 a ac) r) : dj_X6_addPages_117 p l e s m args below meth c Q A dC dI a ac (df_X6_addPages_117 n) r := by
  obtain ⟨hlt, hx, hb, hml, hown, hts, hN, hA, hK⟩ := id C
  intro s0 H locs ls h hP hD hS hl
  unfold df_X6_addPages_117 at h
  exact K _ _ _ _ _ dX6_addPages_117 (Option.some.inj h).symm hP hD hS
set_option maxHeartbeats 40000000 in
set_option maxRecDepth 100000 in
theorem db_X6_addPages_111 {p : Program} {l : Launch} {e : Env} {s : State} {m : MethodId} {args : Array Value} {below : List Frame} {meth : Method} {c : Code} {Q : State → Prop} {A : Nat → Prop} {dC : Nat → ClassId} {dI : Nat → Nat → Nat} {a : Nat → Nat} {ac : Nat → ClassId} {n : Nat} {r : St × (St)} (C : nd_C p l s m args c A (dC, dI) cX6_addPages 8 RX6 ow_dm_X6_addPages (dk_X6 ac)) (K : nd_Kv p l e (headSpec ow_dm_X6_addPages ({ frames := 0, cells := 0, slots := 0, locals := 0 })).room s m args below meth c Q A (dC, dI) cX6_addPages (St × (St)) (dw_X6 a ac) r) {g6 : Int32 → Int32 → Int32 → Int32 → Int32 → Int32 → (St × (St)) → Option (St × (St))} (J6 : dj_X6_addPages_6 p l e s m args below meth c Q A dC dI a ac g6 r) : dj_X6_addPages_111 p l e s m args below meth c Q A dC dI a ac (df_X6_addPages_111 n g6) r := by
  obtain ⟨hlt, hx, hb, hml, hown, hts, hN, hA, hK⟩ := id C
  intro x1 x2 x3 x4 x5 x6 s0 H locs ls h hP hD hS hl
  unfold df_X6_addPages_111 at h
  obtain ⟨z6, ez6, h⟩ := nd_let_e h
  refine lv_iinc (v := z6) (lv' := [(6, .int z6), (0, .ref (a 0)), (1, .int x1), (2, .int x2), (3, .int x3), (4, .int x4), (5, .int x5)]) hx hb dX6_addPages_111 hl (k := 6) rfl (by rw [ez6]) (by decide) rfl (fun ls hl => ?_)
  refine lv_goto (tgt := 6) hx hb dX6_addPages_114 (by decide) ?_
  exact (J6) (x1) (x2) (x3) (x4) (x5) (z6) s0 _ _ _ h hP hD hS (lv_sub hl [1, 2, 3, 4, 5, 6, 0] rfl)
set_option maxHeartbeats 40000000 in
set_option maxRecDepth 100000 in
theorem dB_X6_addPages_42 {p : Program} {l : Launch} {e : Env} {s : State} {m : MethodId} {args : Array Value} {below : List Frame} {meth : Method} {c : Code} {Q : State → Prop} {A : Nat → Prop} {dC : Nat → ClassId} {dI : Nat → Nat → Nat} {a : Nat → Nat} {ac : Nat → ClassId} {n : Nat} {r : St × (St)} (C : nd_C p l s m args c A (dC, dI) cX6_addPages 8 RX6 ow_dm_X6_addPages (dk_X6 ac)) (K : nd_Kv p l e (headSpec ow_dm_X6_addPages ({ frames := 0, cells := 0, slots := 0, locals := 0 })).room s m args below meth c Q A (dC, dI) cX6_addPages (St × (St)) (dw_X6 a ac) r) {g6 : Int32 → Int32 → Int32 → Int32 → Int32 → Int32 → (St × (St)) → Option (St × (St))} (J6 : dj_X6_addPages_6 p l e s m args below meth c Q A dC dI a ac g6 r) {g42 : Int32 → Int32 → Int32 → Int32 → Int32 → Int32 → Int32 → (St × (St)) → Option (St × (St))} (J42 : dj_X6_addPages_42 p l e s m args below meth c Q A dC dI a ac g42 r) : dj_X6_addPages_42 p l e s m args below meth c Q A dC dI a ac (dF_X6_addPages_42 n g6 g42) r := by
  obtain ⟨hlt, hx, hb, hml, hown, hts, hN, hA, hK⟩ := id C
  intro x1 x2 x3 x4 x5 x6 x7 s0 H locs ls h hP hD hS hl
  unfold dF_X6_addPages_42 at h
  refine lv_iload hx hb dX6_addPages_42 (lv_at hl 7 rfl) ?_
  refine lv_sipush (v := 256) hx hb dX6_addPages_44 (by decide) ?_
  refine lv_icmp_ge (tgt := 71) hx hb dX6_addPages_47 (by decide) (fun c7 => ?_) (fun c7 => ?_)
  · have h := nd_pos h c7
    refine lv_aload_n hx hb dX6_addPages_71 rfl (lv_at hl 0 rfl) ?_
    refine va_get (D := (dC, dI)) (ci := 7) (v := .ref (a 2)) (C := RX6) (T := TX6) (N := 20) hx hb hts hi_dm_X6_addPages_X6 hown hK hP 0 rfl rfl 1 (by decide) (hts (.fieldLink RX6 14 "TimeMachine$Machine" "users" "[I") (List.mem_of_getElem? (i := 1) rfl)) (fun _ h9 => h9) rfl dX6_addPages_72 ?_
    refine lv_iload hx hb dX6_addPages_75 (lv_at hl 6 rfl) ?_
    refine lv_iconst (v := 1) hx hb dX6_addPages_77 (by decide) ?_
    obtain ⟨i8, h⟩ := nd_ck_e h
    refine va_iast (i := x6) (x := 1) hx hb hK hP hD hS 2 1 rfl rfl i8 dX6_addPages_78 (fun H locs hP hD hS => ?_)
    obtain ⟨s9, es9, h⟩ := nd_let_e h
    have hP : va_P (dC, dI) vwCl (dw_X6 a ac s9) H := by rw [es9]; exact hP
    have hD : va_D A (dw_X6 a ac s9) := by rw [es9]; exact hD
    refine lv_aload_n hx hb dX6_addPages_79 rfl (lv_at hl 0 rfl) ?_
    refine lv_dup hx hb dX6_addPages_80 rfl ?_
    refine va_get (D := (dC, dI)) (ci := 7) (v := .int (sI s9.1 0)) (C := RX6) (T := TX6) (N := 20) hx hb hts hi_dm_X6_addPages_X6 hown hK hP 0 rfl rfl 3 (by decide) (hts (.fieldLink RX6 52 "TimeMachine$Machine" "framesUsed" "I") (List.mem_of_getElem? (i := 2) rfl)) (fun _ h9 => h9) rfl dX6_addPages_81 ?_
    refine lv_iconst (v := 1) hx hb dX6_addPages_84 (by decide) ?_
    refine lv_iadd hx hb dX6_addPages_85 ?_
    refine va_put (D := (dC, dI)) (ci := 7) (v := .int ((sI s9.1 0) + 1)) (ty := .int) (C := RX6) (T := TX6) (N := 20) hx hb hts hi_dm_X6_addPages_X6 tyX6 tyX6_ok nmX6 hown hK hP hD hS 0 rfl rfl 3 (by decide) (hts (.fieldLink RX6 52 "TimeMachine$Machine" "framesUsed" "I") (List.mem_of_getElem? (i := 2) rfl)) (fun _ h9 => h9) rfl (by decide +kernel) rfl rfl (Nat.le_of_ble_eq_true rfl) dX6_addPages_86 (fun H locs hP hD hS => ?_)
    obtain ⟨s10, es10, h⟩ := nd_let_e h
    have hP : va_P (dC, dI) vwCl (dw_X6 a ac s10) H := by rw [es10]; exact hP
    have hD : va_D A (dw_X6 a ac s10) := by rw [es10]; exact hD
    refine lv_aload_n hx hb dX6_addPages_89 rfl (lv_at hl 0 rfl) ?_
    refine va_get (D := (dC, dI)) (ci := 7) (v := .ref (a 3)) (C := RX6) (T := TX6) (N := 20) hx hb hts hi_dm_X6_addPages_X6 hown hK hP 0 rfl rfl 2 (by decide) (hts (.fieldLink RX6 17 "TimeMachine$Machine" "page" "[I") (List.mem_of_getElem? (i := 3) rfl)) (fun _ h9 => h9) rfl dX6_addPages_90 ?_
    refine lv_iload_n hx hb dX6_addPages_93 rfl (lv_at hl 1 rfl) ?_
    refine lv_bipush (v := 6) hx hb dX6_addPages_94 (by decide) ?_
    refine lv_ishl hx hb dX6_addPages_96 ?_
    refine lv_iload hx hb dX6_addPages_97 (lv_at hl 5 rfl) ?_
    refine lv_ior hx hb dX6_addPages_99 ?_
    refine lv_iload hx hb dX6_addPages_100 (lv_at hl 6 rfl) ?_
    refine lv_iconst (v := 3) hx hb dX6_addPages_102 (by decide) ?_
    refine lv_ishl hx hb dX6_addPages_103 ?_
    refine lv_iload hx hb dX6_addPages_104 (lv_at hl 4 rfl) ?_
    refine lv_ior hx hb dX6_addPages_106 ?_
    obtain ⟨i11, h⟩ := nd_ck_e h
    refine va_iast (i := (((x1 : Int32) <<< ((6 : Int32) &&& 31)) ||| x5)) (x := (((x6 : Int32) <<< ((3 : Int32) &&& 31)) ||| x4)) hx hb hK hP hD hS 3 2 rfl rfl i11 dX6_addPages_107 (fun H locs hP hD hS => ?_)
    obtain ⟨s12, es12, h⟩ := nd_let_e h
    have hP : va_P (dC, dI) vwCl (dw_X6 a ac s12) H := by rw [es12]; exact hP
    have hD : va_D A (dw_X6 a ac s12) := by rw [es12]; exact hD
    obtain ⟨z13, ez13, h⟩ := nd_let_e h
    refine lv_iinc (v := z13) (lv' := [(5, .int z13), (0, .ref (a 0)), (1, .int x1), (2, .int x2), (3, .int x3), (4, .int x4), (6, .int x6), (7, .int x7)]) hx hb dX6_addPages_108 hl (k := 5) rfl (by rw [ez13]) (by decide) rfl (fun ls hl => ?_)
    exact (db_X6_addPages_111 C K J6) (x1) (x2) (x3) (x4) (z13) (x6) s12 _ _ _ h hP hD hS (lv_sub hl [1, 2, 3, 4, 5, 0, 6] rfl)
  · have h := nd_neg h c7
    refine lv_aload_n hx hb dX6_addPages_50 rfl (lv_at hl 0 rfl) ?_
    refine va_get (D := (dC, dI)) (ci := 7) (v := .ref (a 1)) (C := RX6) (T := TX6) (N := 20) hx hb hts hi_dm_X6_addPages_X6 hown hK hP 0 rfl rfl 0 (by decide) (hts (.fieldLink RX6 10 "TimeMachine$Machine" "word" "[I") (List.mem_of_getElem? (i := 4) rfl)) (fun _ h9 => h9) rfl dX6_addPages_51 ?_
    refine lv_iload hx hb dX6_addPages_54 (lv_at hl 6 rfl) ?_
    refine lv_sipush (v := 256) hx hb dX6_addPages_56 (by decide) ?_
    refine lv_imul hx hb dX6_addPages_59 ?_
    refine lv_iload hx hb dX6_addPages_60 (lv_at hl 7 rfl) ?_
    refine lv_iadd hx hb dX6_addPages_62 ?_
    refine lv_iconst (v := 0) hx hb dX6_addPages_63 (by decide) ?_
    obtain ⟨i14, h⟩ := nd_ck_e h
    refine va_iast (i := ((x6 * 256) + x7)) (x := 0) hx hb hK hP hD hS 1 0 rfl rfl i14 dX6_addPages_64 (fun H locs hP hD hS => ?_)
    obtain ⟨s15, es15, h⟩ := nd_let_e h
    have hP : va_P (dC, dI) vwCl (dw_X6 a ac s15) H := by rw [es15]; exact hP
    have hD : va_D A (dw_X6 a ac s15) := by rw [es15]; exact hD
    obtain ⟨z16, ez16, h⟩ := nd_let_e h
    refine lv_iinc (v := z16) (lv' := [(7, .int z16), (0, .ref (a 0)), (1, .int x1), (2, .int x2), (3, .int x3), (4, .int x4), (5, .int x5), (6, .int x6)]) hx hb dX6_addPages_65 hl (k := 7) rfl (by rw [ez16]) (by decide) rfl (fun ls hl => ?_)
    refine lv_goto (tgt := 42) hx hb dX6_addPages_68 (by decide) ?_
    exact (J42) (x1) (x2) (x3) (x4) (x5) (x6) (z16) s15 _ _ _ h hP hD hS (lv_sub hl [1, 2, 3, 4, 5, 6, 7, 0] rfl)
set_option maxHeartbeats 40000000 in
set_option maxRecDepth 100000 in
theorem db_X6_addPages_42 {p : Program} {l : Launch} {e : Env} {s : State} {m : MethodId} {args : Array Value} {below : List Frame} {meth : Method} {c : Code} {Q : State → Prop} {A : Nat → Prop} {dC : Nat → ClassId} {dI : Nat → Nat → Nat} {a : Nat → Nat} {ac : Nat → ClassId} {n : Nat} {r : St × (St)} (C : nd_C p l s m args c A (dC, dI) cX6_addPages 8 RX6 ow_dm_X6_addPages (dk_X6 ac)) (K : nd_Kv p l e (headSpec ow_dm_X6_addPages ({ frames := 0, cells := 0, slots := 0, locals := 0 })).room s m args below meth c Q A (dC, dI) cX6_addPages (St × (St)) (dw_X6 a ac) r) {g6 : Int32 → Int32 → Int32 → Int32 → Int32 → Int32 → (St × (St)) → Option (St × (St))} (J6 : dj_X6_addPages_6 p l e s m args below meth c Q A dC dI a ac g6 r) (k : Nat) : dj_X6_addPages_42 p l e s m args below meth c Q A dC dI a ac (df_X6_addPages_42 n g6 k) r := by
  induction k with
  | zero => intro x1 x2 x3 x4 x5 x6 x7 s0 H locs ls h; exact nomatch (show (none : Option (St × (St))) = some r from h)
  | succ k ih => exact dB_X6_addPages_42 C K J6 ih
set_option maxHeartbeats 40000000 in
set_option maxRecDepth 100000 in
theorem dB_X6_addPages_6 {p : Program} {l : Launch} {e : Env} {s : State} {m : MethodId} {args : Array Value} {below : List Frame} {meth : Method} {c : Code} {Q : State → Prop} {A : Nat → Prop} {dC : Nat → ClassId} {dI : Nat → Nat → Nat} {a : Nat → Nat} {ac : Nat → ClassId} {n : Nat} {r : St × (St)} (C : nd_C p l s m args c A (dC, dI) cX6_addPages 8 RX6 ow_dm_X6_addPages (dk_X6 ac)) (K : nd_Kv p l e (headSpec ow_dm_X6_addPages ({ frames := 0, cells := 0, slots := 0, locals := 0 })).room s m args below meth c Q A (dC, dI) cX6_addPages (St × (St)) (dw_X6 a ac) r) {g6 : Int32 → Int32 → Int32 → Int32 → Int32 → Int32 → (St × (St)) → Option (St × (St))} (J6 : dj_X6_addPages_6 p l e s m args below meth c Q A dC dI a ac g6 r) : dj_X6_addPages_6 p l e s m args below meth c Q A dC dI a ac (dF_X6_addPages_6 n g6) r := by
  obtain ⟨hlt, hx, hb, hml, hown, hts, hN, hA, hK⟩ := id C
  intro x1 x2 x3 x4 x5 x6 s0 H locs ls h hP hD hS hl
  unfold dF_X6_addPages_6 at h
  refine lv_iload hx hb dX6_addPages_6 (lv_at hl 6 rfl) ?_
  refine lv_sipush (v := 256) hx hb dX6_addPages_8 (by decide) ?_
  refine lv_icmp_ge (tgt := 117) hx hb dX6_addPages_11 (by decide) (fun c1 => ?_) (fun c1 => ?_)
  · have h := nd_pos h c1
    exact (db_X6_addPages_117 C K)  s0 _ _ _ h hP hD hS (lv_sub hl [] rfl)
  · have h := nd_neg h c1
    refine lv_iload hx hb dX6_addPages_14 (lv_at hl 5 rfl) ?_
    refine lv_iload_n hx hb dX6_addPages_16 rfl (lv_at hl 2 rfl) ?_
    refine lv_iload_n hx hb dX6_addPages_17 rfl (lv_at hl 3 rfl) ?_
    refine lv_iadd hx hb dX6_addPages_18 ?_
    refine lv_icmp_ge (tgt := 117) hx hb dX6_addPages_19 (by decide) (fun c2 => ?_) (fun c2 => ?_)
    · have h := nd_pos h c2
      exact (db_X6_addPages_117 C K)  s0 _ _ _ h hP hD hS (lv_sub hl [] rfl)
    · have h := nd_neg h c2
      refine lv_iload hx hb dX6_addPages_22 (lv_at hl 5 rfl) ?_
      refine lv_bipush (v := 64) hx hb dX6_addPages_24 (by decide) ?_
      refine lv_icmp_ge (tgt := 117) hx hb dX6_addPages_26 (by decide) (fun c3 => ?_) (fun c3 => ?_)
      · have h := nd_pos h c3
        exact (db_X6_addPages_117 C K)  s0 _ _ _ h hP hD hS (lv_sub hl [] rfl)
      · have h := nd_neg h c3
        refine lv_aload_n hx hb dX6_addPages_29 rfl (lv_at hl 0 rfl) ?_
        refine va_get (D := (dC, dI)) (ci := 7) (v := .ref (a 2)) (C := RX6) (T := TX6) (N := 20) hx hb hts hi_dm_X6_addPages_X6 hown hK hP 0 rfl rfl 1 (by decide) (hts (.fieldLink RX6 14 "TimeMachine$Machine" "users" "[I") (List.mem_of_getElem? (i := 1) rfl)) (fun _ h9 => h9) rfl dX6_addPages_30 ?_
        refine lv_iload hx hb dX6_addPages_33 (lv_at hl 6 rfl) ?_
        obtain ⟨i4, h⟩ := nd_ck_e h
        refine va_iald (i := x6) hx hb hK hP 2 1 rfl rfl i4 dX6_addPages_35 ?_
        refine lv_if_ne (tgt := 111) hx hb dX6_addPages_36 (by decide) (fun c5 => ?_) (fun c5 => ?_)
        · have h := nd_neg h c5
          exact (db_X6_addPages_111 C K J6) (x1) (x2) (x3) (x4) (x5) (x6) s0 _ _ _ h hP hD hS (lv_sub hl [0, 1, 2, 3, 4, 5, 6] rfl)
        · have h := nd_pos h c5
          refine lv_iconst (v := 0) hx hb dX6_addPages_39 (by decide) ?_
          refine lv_istore (lv' := [(7, .int 0), (0, .ref (a 0)), (1, .int x1), (2, .int x2), (3, .int x3), (4, .int x4), (5, .int x5), (6, .int x6)]) hx hb dX6_addPages_40 hl (by decide) rfl (fun ls hl => ?_)
          exact (db_X6_addPages_42 C K J6 n) (x1) (x2) (x3) (x4) (x5) (x6) (0) s0 _ _ _ h hP hD hS (lv_sub hl [1, 2, 3, 4, 5, 6, 7, 0] rfl)
set_option maxHeartbeats 40000000 in
set_option maxRecDepth 100000 in
theorem db_X6_addPages_6 {p : Program} {l : Launch} {e : Env} {s : State} {m : MethodId} {args : Array Value} {below : List Frame} {meth : Method} {c : Code} {Q : State → Prop} {A : Nat → Prop} {dC : Nat → ClassId} {dI : Nat → Nat → Nat} {a : Nat → Nat} {ac : Nat → ClassId} {n : Nat} {r : St × (St)} (C : nd_C p l s m args c A (dC, dI) cX6_addPages 8 RX6 ow_dm_X6_addPages (dk_X6 ac)) (K : nd_Kv p l e (headSpec ow_dm_X6_addPages ({ frames := 0, cells := 0, slots := 0, locals := 0 })).room s m args below meth c Q A (dC, dI) cX6_addPages (St × (St)) (dw_X6 a ac) r) (k : Nat) : dj_X6_addPages_6 p l e s m args below meth c Q A dC dI a ac (df_X6_addPages_6 n k) r := by
  induction k with
  | zero => intro x1 x2 x3 x4 x5 x6 s0 H locs ls h; exact nomatch (show (none : Option (St × (St))) = some r from h)
  | succ k ih => exact dB_X6_addPages_6 C K ih
set_option maxHeartbeats 40000000 in
set_option maxRecDepth 100000 in
theorem db_X6_addPages_0 {p : Program} {l : Launch} {e : Env} {s : State} {m : MethodId} {args : Array Value} {below : List Frame} {meth : Method} {c : Code} {Q : State → Prop} {A : Nat → Prop} {dC : Nat → ClassId} {dI : Nat → Nat → Nat} {a : Nat → Nat} {ac : Nat → ClassId} {n : Nat} {r : St × (St)} (C : nd_C p l s m args c A (dC, dI) cX6_addPages 8 RX6 ow_dm_X6_addPages (dk_X6 ac)) (K : nd_Kv p l e (headSpec ow_dm_X6_addPages ({ frames := 0, cells := 0, slots := 0, locals := 0 })).room s m args below meth c Q A (dC, dI) cX6_addPages (St × (St)) (dw_X6 a ac) r) : dj_X6_addPages_0 p l e s m args below meth c Q A dC dI a ac (df_X6_addPages_0 n) r := by
  obtain ⟨hlt, hx, hb, hml, hown, hts, hN, hA, hK⟩ := id C
  intro v0 v1 v2 v3 s0 H locs ls h hP hD hS hl
  unfold df_X6_addPages_0 at h
  refine lv_iload_n hx hb dX6_addPages_0 rfl (lv_at hl 2 rfl) ?_
  refine lv_istore (lv' := [(5, .int v1), (0, .ref (a 0)), (1, .int v0), (2, .int v1), (3, .int v2), (4, .int v3)]) hx hb dX6_addPages_1 hl (by decide) rfl (fun ls hl => ?_)
  refine lv_iconst (v := 0) hx hb dX6_addPages_3 (by decide) ?_
  refine lv_istore (lv' := [(6, .int 0), (5, .int v1), (0, .ref (a 0)), (1, .int v0), (2, .int v1), (3, .int v2), (4, .int v3)]) hx hb dX6_addPages_4 hl (by decide) rfl (fun ls hl => ?_)
  exact (db_X6_addPages_6 C K n) (v0) (v1) (v2) (v3) (v1) (0) s0 _ _ _ h hP hD hS (lv_sub hl [2, 3, 4, 5, 6, 1, 0] rfl)
set_option maxHeartbeats 40000000 in
set_option maxRecDepth 100000 in
theorem dm_X6_addPages (l : Launch) (hlt : l.stackTraces = false) (dC : Nat → ClassId) (dI : Nat → Nat → Nat) (a : Nat → Nat) (ac : Nat → ClassId) (n : Nat) (v0 : Int32) (v1 : Int32) (v2 : Int32) (v3 : Int32) (s0 : St × (St)) {r : St × (St)} (h : df_X6_addPages n v0 v1 v2 v3 s0 = some r) (sz : Nat) : Met l yX6_addPages ow_dm_X6_addPages ({ frames := 0, cells := 0, slots := 0, locals := 0 }) (va_Pc [.ref (a 0), .int v0, .int v1, .int v2, .int v3] (fun U => U.heap.size = sz ∧ va_P (dC, dI) vwCl (dw_X6 a ac s0) U.heap ∧ va_K (dC, dI) vwCl (dk_X6 ac) U ∧ va_D (fun _ => True) (dw_X6 a ac s0) ∧ nv_E dI (va_A (dw_X6 a ac s0) sz) U)) (va_Qv (fun _ => True) (fun (_ : Unit) t => va_P (dC, dI) vwCl (dw_X6 a ac r) t.heap ∧ va_K (dC, dI) vwCl (dk_X6 ac) t ∧ va_D (va_A (dw_X6 a ac s0) sz) (dw_X6 a ac r)) (va_A (dw_X6 a ac s0) sz)) 0 0 (va_A (dw_X6 a ac s0) sz) := by
  refine Met.ofW (cc := cX6_addPages) (maxL := 8) (ret := none) (by decide) rfl ?_
  intro p e s m args below meth c s₁ B hml hv
  obtain ⟨rfl, hsz, hP, hK, hD0, hN⟩ := hv
  have hx := B.exec
  have hb := B.bytes
  have hr := B.returns
  have hts := atoms_spec (ws := ow_dm_X6_addPages) B.pre
  have hown : s.vm.findClass RX6 = some m.cls := findClass_of_methodNamed B.named
  have hlocks := B.notSynchronized
  subst hsz
  have hD := hD0.self (sz := s.heap.size)
  generalize hAe : va_A (dw_X6 a ac s0) s.heap.size = A at hD hN ⊢
  have hA : ∀ q : Nat, s.heap.size ≤ q → A q := fun q h => by rw [← hAe]; exact Or.inr h
  have hl := lv_entry ([.ref (a 0), .int v0, .int v1, .int v2, .int v3]) (n := 8) (Nat.le_of_ble_eq_true rfl)
  rw [lg_entry_eq]
  generalize (lg_sl ([.ref (a 0), .int v0, .int v1, .int v2, .int v3]) ++ List.replicate (8 - (lg_sl ([.ref (a 0), .int v0, .int v1, .int v2, .int v3])).length) Slot.unset).toArray = ls at hl ⊢
  have hl : lv_has ls 8 [(0, .ref (a 0)), (1, .int v0), (2, .int v1), (3, .int v2), (4, .int v3)] := hl
  exact db_X6_addPages_0 (dC := dC) (dI := dI) (a := a) (ac := ac) (n := n) (r := r) ⟨hlt, hx, hb, hml, hown, hts, hN, hA, hK⟩ (fun pc τ H locs ls d er hP hD hS => by subst er; exact W.vret hx hb hr (fun t ht hW => ⟨⟨(), rfl, trivial, by rw [ht]; exact hP, va_K.moved hW.alike hK, hD⟩, hS.F ht⟩) hS.2.2 d) v0 v1 v2 v3 s0 _ _ _ h hP hD va_S.rf (lv_sub hl [0, 1, 2, 3, 4] rfl)
def ow_dm_X6_load : List Cond := Cond.code yX6_load cX6_load 4 none :: ([Cond.methodLink RX6 117 yX8_textPages, Cond.instanceMethod yX8_textPages, Cond.selects RX8 yX8_textPages yX8_textPages, Cond.initialized RX8, Cond.methodLink RX6 126 yX6_addPages, Cond.instanceMethod yX6_addPages, Cond.selects RX6 yX6_addPages yX6_addPages, Cond.initialized RX6, Cond.fieldLink RX6 130 "TimeMachine$Program" "dataStart" "I", Cond.methodLink RX6 123 yX8_dataPages, Cond.instanceMethod yX8_dataPages, Cond.selects RX8 yX8_dataPages yX8_dataPages, Cond.fieldLink RX6 133 "TimeMachine$Program" "size" "I", Cond.fieldLink RX6 29 "TimeMachine$Machine" "self" "[I", Cond.methodLink RX6 143 yX8_heapStart, Cond.instanceMethod yX8_heapStart, Cond.selects RX8 yX8_heapStart yX8_heapStart, Cond.fieldLink RX6 32 "TimeMachine$Machine" "sleep" "[J", Cond.constantLong RX6 146 (-1), Cond.fieldLink RX6 105 "TimeMachine$Machine" "reserved" "I", Cond.fieldLink RX6 26 "TimeMachine$Machine" "handler" "[I", Cond.fieldLink RX6 20 "TimeMachine$Machine" "reg" "[I", Cond.constant RX6 9 (65536), Cond.fieldLink RX6 136 "TimeMachine$Program" "image" "[B", Cond.methodLink RX6 140 yX6_put, Cond.instanceMethod yX6_put, Cond.selects RX6 yX6_put yX6_put] ++ (u_ws RX8 TX8 10 ++ (u_ws RX6 TX6 20 ++ (ow_dm_X8_textPages ++ (ow_dm_X6_addPages ++ (ow_dm_X8_dataPages ++ (ow_dm_X8_heapStart ++ (ow_dm_X6_put ++ []))))))))
theorem gd_dm_X6_load : ∀ w ∈ ow_dm_X6_load, (w.onTables && w.keeps) = true ∨ ∃ ty, w = Cond.arrayClass ty := List.forall_mem_cons.mpr ⟨good_of_word rfl, List.forall_mem_append.mpr ⟨fun w h => good_of_word (List.all_eq_true.mp (by decide +kernel) w h), List.forall_mem_append.mpr ⟨gu_X8, List.forall_mem_append.mpr ⟨gu_X6, List.forall_mem_append.mpr ⟨gd_dm_X8_textPages, List.forall_mem_append.mpr ⟨gd_dm_X6_addPages, List.forall_mem_append.mpr ⟨gd_dm_X8_dataPages, List.forall_mem_append.mpr ⟨gd_dm_X8_heapStart, List.forall_mem_append.mpr ⟨gd_dm_X6_put, fun _ h => nomatch h⟩⟩⟩⟩⟩⟩⟩⟩⟩
theorem hi_dm_X6_load_X8 : ∀ w ∈ u_ws RX8 TX8 10, w ∈ ow_dm_X6_load := fun w h => List.mem_cons_of_mem _ (List.mem_append_right _ (List.mem_append_left _ h))
theorem hi_dm_X6_load_X6 : ∀ w ∈ u_ws RX6 TX6 20, w ∈ ow_dm_X6_load := fun w h => List.mem_cons_of_mem _ (List.mem_append_right _ (List.mem_append_right _ (List.mem_append_left _ h)))
theorem gi_dm_X6_load_0 : GoodIn ow_dm_X6_load (wsV RX6 117 RX8 yX8_textPages ow_dm_X8_textPages) := goodIn_app (goodIn_of _ (by decide +kernel)) (fun w h => ⟨List.mem_cons_of_mem _ (List.mem_append_right _ (List.mem_append_right _ (List.mem_append_right _ (List.mem_append_left _ h)))), gd_dm_X8_textPages w h⟩)
theorem gi_dm_X6_load_1 : GoodIn ow_dm_X6_load (wsV RX6 126 RX6 yX6_addPages ow_dm_X6_addPages) := goodIn_app (goodIn_of _ (by decide +kernel)) (fun w h => ⟨List.mem_cons_of_mem _ (List.mem_append_right _ (List.mem_append_right _ (List.mem_append_right _ (List.mem_append_right _ (List.mem_append_left _ h))))), gd_dm_X6_addPages w h⟩)
theorem gi_dm_X6_load_2 : GoodIn ow_dm_X6_load (wsV RX6 123 RX8 yX8_dataPages ow_dm_X8_dataPages) := goodIn_app (goodIn_of _ (by decide +kernel)) (fun w h => ⟨List.mem_cons_of_mem _ (List.mem_append_right _ (List.mem_append_right _ (List.mem_append_right _ (List.mem_append_right _ (List.mem_append_right _ (List.mem_append_left _ h)))))), gd_dm_X8_dataPages w h⟩)
theorem gi_dm_X6_load_3 : GoodIn ow_dm_X6_load (wsV RX6 143 RX8 yX8_heapStart ow_dm_X8_heapStart) := goodIn_app (goodIn_of _ (by decide +kernel)) (fun w h => ⟨List.mem_cons_of_mem _ (List.mem_append_right _ (List.mem_append_right _ (List.mem_append_right _ (List.mem_append_right _ (List.mem_append_right _ (List.mem_append_right _ (List.mem_append_left _ h))))))), gd_dm_X8_heapStart w h⟩)
theorem gi_dm_X6_load_4 : GoodIn ow_dm_X6_load (wsV RX6 140 RX6 yX6_put ow_dm_X6_put) := goodIn_app (goodIn_of _ (by decide +kernel)) (fun w h => ⟨List.mem_cons_of_mem _ (List.mem_append_right _ (List.mem_append_right _ (List.mem_append_right _ (List.mem_append_right _ (List.mem_append_right _ (List.mem_append_right _ (List.mem_append_right _ (List.mem_append_left _ h)))))))), gd_dm_X6_put w h⟩)
def dj_X6_load_116 (p : Program) (l : Launch) (e : Env) (s : State) (m : MethodId) (args : Array Value) (below : List Frame) (meth : Method) (c : Code) (Q : State → Prop) (A : Nat → Prop) (dC : Nat → ClassId) (dI : Nat → Nat → Nat) (a : Nat → Nat) (ac : Nat → ClassId) (g : Int32 → Int32 → (St × (St × (St)) × (St)) → Option (St × (St × (St)) × (St))) (r : St × (St × (St)) × (St)) : Prop := ∀ (x1 : Int32) (x3 : Int32) (s0 : St × (St × (St)) × (St)) (H : Heap) (locs : List Loc) (ls : Array Slot), g x1 x3 s0 = some r → va_P (dC, dI) vwCl (dw_X6p a ac s0) H → va_D A (dw_X6p a ac s0) → va_S A s.heap H locs → lv_has ls 4 [(0, .ref (a 0)), (1, .int x1), (2, .ref (a 20)), (3, .int x3)] → W p l e (headSpec ow_dm_X6_load ({ frames := 1, cells := 0, slots := 0, locals := 27 })).room s m args below meth c H locs 0 0 Q (F0 m 116 ls [])
def dj_X6_load_107 (p : Program) (l : Launch) (e : Env) (s : State) (m : MethodId) (args : Array Value) (below : List Frame) (meth : Method) (c : Code) (Q : State → Prop) (A : Nat → Prop) (dC : Nat → ClassId) (dI : Nat → Nat → Nat) (a : Nat → Nat) (ac : Nat → ClassId) (g : Int32 → Int32 → Int32 → Int32 → (St × (St × (St)) × (St)) → Option (St × (St × (St)) × (St))) (r : St × (St × (St)) × (St)) : Prop := ∀ (x1 : Int32) (x3 : Int32) (y1 : Int32) (y2 : Int32) (s0 : St × (St × (St)) × (St)) (H : Heap) (locs : List Loc) (ls : Array Slot), g x1 x3 y1 y2 s0 = some r → va_P (dC, dI) vwCl (dw_X6p a ac s0) H → va_D A (dw_X6p a ac s0) → va_S A s.heap H locs → lv_has ls 4 [(0, .ref (a 0)), (1, .int x1), (2, .ref (a 20)), (3, .int x3)] → W p l e (headSpec ow_dm_X6_load ({ frames := 1, cells := 0, slots := 0, locals := 27 })).room s m args below meth c H locs 0 0 Q (F0 m 107 ls [.int y2, .int y1, .ref (a 4)])
def dj_X6_load_80 (p : Program) (l : Launch) (e : Env) (s : State) (m : MethodId) (args : Array Value) (below : List Frame) (meth : Method) (c : Code) (Q : State → Prop) (A : Nat → Prop) (dC : Nat → ClassId) (dI : Nat → Nat → Nat) (a : Nat → Nat) (ac : Nat → ClassId) (g : Int32 → Int32 → (St × (St × (St)) × (St)) → Option (St × (St × (St)) × (St))) (r : St × (St × (St)) × (St)) : Prop := ∀ (x1 : Int32) (x3 : Int32) (s0 : St × (St × (St)) × (St)) (H : Heap) (locs : List Loc) (ls : Array Slot), g x1 x3 s0 = some r → va_P (dC, dI) vwCl (dw_X6p a ac s0) H → va_D A (dw_X6p a ac s0) → va_S A s.heap H locs → lv_has ls 4 [(0, .ref (a 0)), (1, .int x1), (2, .ref (a 20)), (3, .int x3)] → W p l e (headSpec ow_dm_X6_load ({ frames := 1, cells := 0, slots := 0, locals := 27 })).room s m args below meth c H locs 0 0 Q (F0 m 80 ls [])
def dj_X6_load_72 (p : Program) (l : Launch) (e : Env) (s : State) (m : MethodId) (args : Array Value) (below : List Frame) (meth : Method) (c : Code) (Q : State → Prop) (A : Nat → Prop) (dC : Nat → ClassId) (dI : Nat → Nat → Nat) (a : Nat → Nat) (ac : Nat → ClassId) (g : Int32 → Int32 → (St × (St × (St)) × (St)) → Option (St × (St × (St)) × (St))) (r : St × (St × (St)) × (St)) : Prop := ∀ (x1 : Int32) (x3 : Int32) (s0 : St × (St × (St)) × (St)) (H : Heap) (locs : List Loc) (ls : Array Slot), g x1 x3 s0 = some r → va_P (dC, dI) vwCl (dw_X6p a ac s0) H → va_D A (dw_X6p a ac s0) → va_S A s.heap H locs → lv_has ls 4 [(0, .ref (a 0)), (1, .int x1), (2, .ref (a 20)), (3, .int x3)] → W p l e (headSpec ow_dm_X6_load ({ frames := 1, cells := 0, slots := 0, locals := 27 })).room s m args below meth c H locs 0 0 Q (F0 m 72 ls [])
def dj_X6_load_40 (p : Program) (l : Launch) (e : Env) (s : State) (m : MethodId) (args : Array Value) (below : List Frame) (meth : Method) (c : Code) (Q : State → Prop) (A : Nat → Prop) (dC : Nat → ClassId) (dI : Nat → Nat → Nat) (a : Nat → Nat) (ac : Nat → ClassId) (g : Int32 → Int32 → (St × (St × (St)) × (St)) → Option (St × (St × (St)) × (St))) (r : St × (St × (St)) × (St)) : Prop := ∀ (x1 : Int32) (x3 : Int32) (s0 : St × (St × (St)) × (St)) (H : Heap) (locs : List Loc) (ls : Array Slot), g x1 x3 s0 = some r → va_P (dC, dI) vwCl (dw_X6p a ac s0) H → va_D A (dw_X6p a ac s0) → va_S A s.heap H locs → lv_has ls 4 [(0, .ref (a 0)), (1, .int x1), (2, .ref (a 20)), (3, .int x3)] → W p l e (headSpec ow_dm_X6_load ({ frames := 1, cells := 0, slots := 0, locals := 27 })).room s m args below meth c H locs 0 0 Q (F0 m 40 ls [])
def dj_X6_load_0 (p : Program) (l : Launch) (e : Env) (s : State) (m : MethodId) (args : Array Value) (below : List Frame) (meth : Method) (c : Code) (Q : State → Prop) (A : Nat → Prop) (dC : Nat → ClassId) (dI : Nat → Nat → Nat) (a : Nat → Nat) (ac : Nat → ClassId) (g : Int32 → (St × (St × (St)) × (St)) → Option (St × (St × (St)) × (St))) (r : St × (St × (St)) × (St)) : Prop := ∀ (v0 : Int32) (s0 : St × (St × (St)) × (St)) (H : Heap) (locs : List Loc) (ls : Array Slot), g v0 s0 = some r → va_P (dC, dI) vwCl (dw_X6p a ac s0) H → va_D A (dw_X6p a ac s0) → va_S A s.heap H locs → lv_has ls 4 [(0, .ref (a 0)), (1, .int v0), (2, .ref (a 20))] → W p l e (headSpec ow_dm_X6_load ({ frames := 1, cells := 0, slots := 0, locals := 27 })).room s m args below meth c H locs 0 0 Q (F0 m 0 ls [])
set_option maxHeartbeats 40000000 in
set_option maxRecDepth 100000 in
theorem dB_X6_load_116 {p : Program} {l : Launch} {e : Env} {s : State} {m : MethodId} {args : Array Value} {below : List Frame} {meth : Method} {c : Code} {Q : State → Prop} {A : Nat → Prop} {dC : Nat → ClassId} {dI : Nat → Nat → Nat} {a : Nat → Nat} {ac : Nat → ClassId} {n : Nat} {r : St × (St × (St)) × (St)} (C : nd_C p l s m args c A (dC, dI) cX6_load 4 RX6 ow_dm_X6_load (dk_X6p ac)) (K : nd_Kv p l e (headSpec ow_dm_X6_load ({ frames := 1, cells := 0, slots := 0, locals := 27 })).room s m args below meth c Q A (dC, dI) cX6_load (St × (St × (St)) × (St)) (dw_X6p a ac) r) {g116 : Int32 → Int32 → (St × (St × (St)) × (St)) → Option (St × (St × (St)) × (St))} (J116 : dj_X6_load_116 p l e s m args below meth c Q A dC dI a ac g116 r) : dj_X6_load_116 p l e s m args below meth c Q A dC dI a ac (dF_X6_load_116 n g116) r := by
  obtain ⟨hlt, hx, hb, hml, hown, hts, hN, hA, hK⟩ := id C
  intro x1 x3 s0 H locs ls h hP hD hS hl
  unfold dF_X6_load_116 at h
  refine lv_iload_n hx hb dX6_load_116 rfl (lv_at hl 3 rfl) ?_
  refine lv_bipush (v := 16) hx hb dX6_load_117 (by decide) ?_
  refine lv_icmp_ge (tgt := 140) hx hb dX6_load_119 (by decide) (fun c23 => ?_) (fun c23 => ?_)
  · have h := nd_pos h c23
    refine lv_aload_n hx hb dX6_load_140 rfl (lv_at hl 0 rfl) ?_
    refine va_get (D := (dC, dI)) (ci := 7) (v := .ref (a 7)) (C := RX6) (T := TX6) (N := 20) hx hb hts hi_dm_X6_load_X6 hown hK hP 0 rfl rfl 7 (by decide) (hts (.fieldLink RX6 29 "TimeMachine$Machine" "self" "[I") (List.mem_of_getElem? (i := 14) rfl)) (fun _ h9 => h9) rfl dX6_load_141 ?_
    refine lv_iload_n hx hb dX6_load_144 rfl (lv_at hl 1 rfl) ?_
    refine lv_bipush (v := 7) hx hb dX6_load_145 (by decide) ?_
    refine lv_imul hx hb dX6_load_147 ?_
    refine lv_iconst (v := 4) hx hb dX6_load_148 (by decide) ?_
    refine lv_iadd hx hb dX6_load_149 ?_
    refine lv_iconst (v := 0) hx hb dX6_load_150 (by decide) ?_
    obtain ⟨i24, h⟩ := nd_ck_e h
    refine va_iast (i := ((x1 * 7) + 4)) (x := 0) hx hb hK hP hD hS 7 6 rfl rfl i24 dX6_load_151 (fun H locs hP hD hS => ?_)
    obtain ⟨s25, es25, h⟩ := nd_let_e h
    have hP : va_P (dC, dI) vwCl (dw_X6p a ac s25) H := by rw [es25]; exact hP
    have hD : va_D A (dw_X6p a ac s25) := by rw [es25]; exact hD
    refine lv_aload_n hx hb dX6_load_152 rfl (lv_at hl 0 rfl) ?_
    refine va_get (D := (dC, dI)) (ci := 7) (v := .ref (a 7)) (C := RX6) (T := TX6) (N := 20) hx hb hts hi_dm_X6_load_X6 hown hK hP 0 rfl rfl 7 (by decide) (hts (.fieldLink RX6 29 "TimeMachine$Machine" "self" "[I") (List.mem_of_getElem? (i := 14) rfl)) (fun _ h9 => h9) rfl dX6_load_153 ?_
    refine lv_iload_n hx hb dX6_load_156 rfl (lv_at hl 1 rfl) ?_
    refine lv_bipush (v := 7) hx hb dX6_load_157 (by decide) ?_
    refine lv_imul hx hb dX6_load_159 ?_
    refine lv_iconst (v := 5) hx hb dX6_load_160 (by decide) ?_
    refine lv_iadd hx hb dX6_load_161 ?_
    refine lv_aload_n hx hb dX6_load_162 rfl (lv_at hl 2 rfl) ?_
    obtain ⟨q26, s27, hq, h⟩ := nd_b2_e h
    have hPc := dp_X6p_20 hP
    have hDc := dd_X6p_20 hD
    have hKc := dy_X6p_20 hK
    have hFc := nd_rs hDc hS hA
    have hzA : ∀ q : Nat, H.size ≤ q → A q := fun q h => hA q (Nat.le_trans hS.1 h)
    refine nd_cVi (As := []) (rest := [.int ((x1 * 7) + 5), .ref (a 7)]) (q := q26) (w' := dw_X8 (fun k => a (k + 20)) (fun k => ac (k + 20)) s27) ⟨hx, hb, hml, hown, hts⟩ (fun sz => dm_X8_heapStart l hlt dC dI (fun k => a (k + 20)) (fun k => ac (k + 20)) n  s25.2.2 hq sz) (cwV 0 hts gi_dm_X6_load_3 rfl rfl rfl (by decide +kernel) ⟨Nat.le_of_ble_eq_true rfl, Nat.le_of_ble_eq_true rfl⟩) hPc hDc hKc hS hA hN (va_recv hKc hPc (ci := 9) (q0 := 0) rfl rfl) rfl hl.1 rfl (Nat.le_of_ble_eq_true rfl) dX6_load_163 (fun H locs hP1 hD1 hk1 hS => ?_)
    obtain ⟨hP, hD⟩ := dn_X6p_20 hP hD hzA hk1 hP1 hD1
    obtain ⟨s29, es29, h⟩ := nd_let_e h
    have hP : va_P (dC, dI) vwCl (dw_X6p a ac s29) H := by rw [es29]; exact hP
    have hD : va_D A (dw_X6p a ac s29) := by rw [es29]; exact hD
    obtain ⟨i30, h⟩ := nd_ck_e h
    refine va_iast (i := ((x1 * 7) + 5)) (x := q26) hx hb hK hP hD hS 7 6 rfl rfl i30 dX6_load_166 (fun H locs hP hD hS => ?_)
    obtain ⟨s31, es31, h⟩ := nd_let_e h
    have hP : va_P (dC, dI) vwCl (dw_X6p a ac s31) H := by rw [es31]; exact hP
    have hD : va_D A (dw_X6p a ac s31) := by rw [es31]; exact hD
    refine lv_aload_n hx hb dX6_load_167 rfl (lv_at hl 0 rfl) ?_
    refine va_get (D := (dC, dI)) (ci := 7) (v := .ref (a 7)) (C := RX6) (T := TX6) (N := 20) hx hb hts hi_dm_X6_load_X6 hown hK hP 0 rfl rfl 7 (by decide) (hts (.fieldLink RX6 29 "TimeMachine$Machine" "self" "[I") (List.mem_of_getElem? (i := 14) rfl)) (fun _ h9 => h9) rfl dX6_load_168 ?_
    refine lv_iload_n hx hb dX6_load_171 rfl (lv_at hl 1 rfl) ?_
    refine lv_bipush (v := 7) hx hb dX6_load_172 (by decide) ?_
    refine lv_imul hx hb dX6_load_174 ?_
    refine lv_bipush (v := 6) hx hb dX6_load_175 (by decide) ?_
    refine lv_iadd hx hb dX6_load_177 ?_
    refine lv_aload_n hx hb dX6_load_178 rfl (lv_at hl 2 rfl) ?_
    obtain ⟨q32, s33, hq, h⟩ := nd_b2_e h
    have hPc := dp_X6p_20 hP
    have hDc := dd_X6p_20 hD
    have hKc := dy_X6p_20 hK
    have hFc := nd_rs hDc hS hA
    have hzA : ∀ q : Nat, H.size ≤ q → A q := fun q h => hA q (Nat.le_trans hS.1 h)
    refine nd_cVi (As := []) (rest := [.int ((x1 * 7) + 6), .ref (a 7)]) (q := q32) (w' := dw_X8 (fun k => a (k + 20)) (fun k => ac (k + 20)) s33) ⟨hx, hb, hml, hown, hts⟩ (fun sz => dm_X8_heapStart l hlt dC dI (fun k => a (k + 20)) (fun k => ac (k + 20)) n  s31.2.2 hq sz) (cwV 0 hts gi_dm_X6_load_3 rfl rfl rfl (by decide +kernel) ⟨Nat.le_of_ble_eq_true rfl, Nat.le_of_ble_eq_true rfl⟩) hPc hDc hKc hS hA hN (va_recv hKc hPc (ci := 9) (q0 := 0) rfl rfl) rfl hl.1 rfl (Nat.le_of_ble_eq_true rfl) dX6_load_179 (fun H locs hP1 hD1 hk1 hS => ?_)
    obtain ⟨hP, hD⟩ := dn_X6p_20 hP hD hzA hk1 hP1 hD1
    obtain ⟨s35, es35, h⟩ := nd_let_e h
    have hP : va_P (dC, dI) vwCl (dw_X6p a ac s35) H := by rw [es35]; exact hP
    have hD : va_D A (dw_X6p a ac s35) := by rw [es35]; exact hD
    obtain ⟨i36, h⟩ := nd_ck_e h
    refine va_iast (i := ((x1 * 7) + 6)) (x := q32) hx hb hK hP hD hS 7 6 rfl rfl i36 dX6_load_182 (fun H locs hP hD hS => ?_)
    obtain ⟨s37, es37, h⟩ := nd_let_e h
    have hP : va_P (dC, dI) vwCl (dw_X6p a ac s37) H := by rw [es37]; exact hP
    have hD : va_D A (dw_X6p a ac s37) := by rw [es37]; exact hD
    refine lv_aload_n hx hb dX6_load_183 rfl (lv_at hl 0 rfl) ?_
    refine va_get (D := (dC, dI)) (ci := 7) (v := .ref (a 8)) (C := RX6) (T := TX6) (N := 20) hx hb hts hi_dm_X6_load_X6 hown hK hP 0 rfl rfl 8 (by decide) (hts (.fieldLink RX6 32 "TimeMachine$Machine" "sleep" "[J") (List.mem_of_getElem? (i := 18) rfl)) (fun _ h9 => h9) rfl dX6_load_184 ?_
    refine lv_iload_n hx hb dX6_load_187 rfl (lv_at hl 1 rfl) ?_
    refine lv_ldc2 hx hb hown (hts (.constantLong RX6 146 (-1)) (List.mem_of_getElem? (i := 19) rfl)) dX6_load_188 ?_
    obtain ⟨i38, h⟩ := nd_ck_e h
    refine va_last (i := x1) (x := (-1)) hx hb hK hP hD hS 8 7 rfl rfl i38 dX6_load_191 (fun H locs hP hD hS => ?_)
    obtain ⟨s39, es39, h⟩ := nd_let_e h
    have hP : va_P (dC, dI) vwCl (dw_X6p a ac s39) H := by rw [es39]; exact hP
    have hD : va_D A (dw_X6p a ac s39) := by rw [es39]; exact hD
    refine lv_aload_n hx hb dX6_load_192 rfl (lv_at hl 0 rfl) ?_
    refine lv_iconst (v := (-1)) hx hb dX6_load_193 (by decide) ?_
    refine va_put (D := (dC, dI)) (ci := 7) (v := .int (-1)) (ty := .int) (C := RX6) (T := TX6) (N := 20) hx hb hts hi_dm_X6_load_X6 tyX6 tyX6_ok nmX6 hown hK hP hD hS 0 rfl rfl 16 (by decide) (hts (.fieldLink RX6 105 "TimeMachine$Machine" "reserved" "I") (List.mem_of_getElem? (i := 20) rfl)) (fun _ h9 => h9) rfl (by decide +kernel) rfl rfl (Nat.le_of_ble_eq_true rfl) dX6_load_194 (fun H locs hP hD hS => ?_)
    obtain ⟨s40, es40, h⟩ := nd_let_e h
    have hP : va_P (dC, dI) vwCl (dw_X6p a ac s40) H := by rw [es40]; exact hP
    have hD : va_D A (dw_X6p a ac s40) := by rw [es40]; exact hD
    exact K _ _ _ _ _ dX6_load_197 (Option.some.inj h).symm hP hD hS
  · have h := nd_neg h c23
    refine lv_aload_n hx hb dX6_load_122 rfl (lv_at hl 0 rfl) ?_
    refine va_get (D := (dC, dI)) (ci := 7) (v := .ref (a 6)) (C := RX6) (T := TX6) (N := 20) hx hb hts hi_dm_X6_load_X6 hown hK hP 0 rfl rfl 6 (by decide) (hts (.fieldLink RX6 26 "TimeMachine$Machine" "handler" "[I") (List.mem_of_getElem? (i := 21) rfl)) (fun _ h9 => h9) rfl dX6_load_123 ?_
    refine lv_iload_n hx hb dX6_load_126 rfl (lv_at hl 1 rfl) ?_
    refine lv_bipush (v := 16) hx hb dX6_load_127 (by decide) ?_
    refine lv_imul hx hb dX6_load_129 ?_
    refine lv_iload_n hx hb dX6_load_130 rfl (lv_at hl 3 rfl) ?_
    refine lv_iadd hx hb dX6_load_131 ?_
    refine lv_iconst (v := 0) hx hb dX6_load_132 (by decide) ?_
    obtain ⟨i41, h⟩ := nd_ck_e h
    refine va_iast (i := ((x1 * 16) + x3)) (x := 0) hx hb hK hP hD hS 6 5 rfl rfl i41 dX6_load_133 (fun H locs hP hD hS => ?_)
    obtain ⟨s42, es42, h⟩ := nd_let_e h
    have hP : va_P (dC, dI) vwCl (dw_X6p a ac s42) H := by rw [es42]; exact hP
    have hD : va_D A (dw_X6p a ac s42) := by rw [es42]; exact hD
    obtain ⟨z43, ez43, h⟩ := nd_let_e h
    refine lv_iinc (v := z43) (lv' := [(3, .int z43), (0, .ref (a 0)), (1, .int x1), (2, .ref (a 20))]) hx hb dX6_load_134 hl (k := 3) rfl (by rw [ez43]) (by decide) rfl (fun ls hl => ?_)
    refine lv_goto (tgt := 116) hx hb dX6_load_137 (by decide) ?_
    exact (J116) (x1) (z43) s42 _ _ _ h hP hD hS (lv_sub hl [1, 2, 3, 0] rfl)
set_option maxHeartbeats 40000000 in
set_option maxRecDepth 100000 in
theorem db_X6_load_116 {p : Program} {l : Launch} {e : Env} {s : State} {m : MethodId} {args : Array Value} {below : List Frame} {meth : Method} {c : Code} {Q : State → Prop} {A : Nat → Prop} {dC : Nat → ClassId} {dI : Nat → Nat → Nat} {a : Nat → Nat} {ac : Nat → ClassId} {n : Nat} {r : St × (St × (St)) × (St)} (C : nd_C p l s m args c A (dC, dI) cX6_load 4 RX6 ow_dm_X6_load (dk_X6p ac)) (K : nd_Kv p l e (headSpec ow_dm_X6_load ({ frames := 1, cells := 0, slots := 0, locals := 27 })).room s m args below meth c Q A (dC, dI) cX6_load (St × (St × (St)) × (St)) (dw_X6p a ac) r) (k : Nat) : dj_X6_load_116 p l e s m args below meth c Q A dC dI a ac (df_X6_load_116 n k) r := by
  induction k with
  | zero => intro x1 x3 s0 H locs ls h; exact nomatch (show (none : Option (St × (St × (St)) × (St))) = some r from h)
  | succ k ih => exact dB_X6_load_116 C K ih
set_option maxHeartbeats 40000000 in
set_option maxRecDepth 100000 in
theorem db_X6_load_107 {p : Program} {l : Launch} {e : Env} {s : State} {m : MethodId} {args : Array Value} {below : List Frame} {meth : Method} {c : Code} {Q : State → Prop} {A : Nat → Prop} {dC : Nat → ClassId} {dI : Nat → Nat → Nat} {a : Nat → Nat} {ac : Nat → ClassId} {n : Nat} {r : St × (St × (St)) × (St)} (C : nd_C p l s m args c A (dC, dI) cX6_load 4 RX6 ow_dm_X6_load (dk_X6p ac)) (K : nd_Kv p l e (headSpec ow_dm_X6_load ({ frames := 1, cells := 0, slots := 0, locals := 27 })).room s m args below meth c Q A (dC, dI) cX6_load (St × (St × (St)) × (St)) (dw_X6p a ac) r) {g80 : Int32 → Int32 → (St × (St × (St)) × (St)) → Option (St × (St × (St)) × (St))} (J80 : dj_X6_load_80 p l e s m args below meth c Q A dC dI a ac g80 r) : dj_X6_load_107 p l e s m args below meth c Q A dC dI a ac (df_X6_load_107 n g80) r := by
  obtain ⟨hlt, hx, hb, hml, hown, hts, hN, hA, hK⟩ := id C
  intro x1 x3 y1 y2 s0 H locs ls h hP hD hS hl
  unfold df_X6_load_107 at h
  obtain ⟨i45, h⟩ := nd_ck_e h
  refine va_iast (i := y1) (x := y2) hx hb hK hP hD hS 4 3 rfl rfl i45 dX6_load_107 (fun H locs hP hD hS => ?_)
  obtain ⟨s46, es46, h⟩ := nd_let_e h
  have hP : va_P (dC, dI) vwCl (dw_X6p a ac s46) H := by rw [es46]; exact hP
  have hD : va_D A (dw_X6p a ac s46) := by rw [es46]; exact hD
  obtain ⟨z47, ez47, h⟩ := nd_let_e h
  refine lv_iinc (v := z47) (lv' := [(3, .int z47), (0, .ref (a 0)), (1, .int x1), (2, .ref (a 20))]) hx hb dX6_load_108 hl (k := 3) rfl (by rw [ez47]) (by decide) rfl (fun ls hl => ?_)
  refine lv_goto (tgt := 80) hx hb dX6_load_111 (by decide) ?_
  exact (J80) (x1) (z47) s46 _ _ _ h hP hD hS (lv_sub hl [1, 2, 3, 0] rfl)
set_option maxHeartbeats 40000000 in
set_option maxRecDepth 100000 in
theorem dB_X6_load_80 {p : Program} {l : Launch} {e : Env} {s : State} {m : MethodId} {args : Array Value} {below : List Frame} {meth : Method} {c : Code} {Q : State → Prop} {A : Nat → Prop} {dC : Nat → ClassId} {dI : Nat → Nat → Nat} {a : Nat → Nat} {ac : Nat → ClassId} {n : Nat} {r : St × (St × (St)) × (St)} (C : nd_C p l s m args c A (dC, dI) cX6_load 4 RX6 ow_dm_X6_load (dk_X6p ac)) (K : nd_Kv p l e (headSpec ow_dm_X6_load ({ frames := 1, cells := 0, slots := 0, locals := 27 })).room s m args below meth c Q A (dC, dI) cX6_load (St × (St × (St)) × (St)) (dw_X6p a ac) r) {g80 : Int32 → Int32 → (St × (St × (St)) × (St)) → Option (St × (St × (St)) × (St))} (J80 : dj_X6_load_80 p l e s m args below meth c Q A dC dI a ac g80 r) : dj_X6_load_80 p l e s m args below meth c Q A dC dI a ac (dF_X6_load_80 n g80) r := by
  obtain ⟨hlt, hx, hb, hml, hown, hts, hN, hA, hK⟩ := id C
  intro x1 x3 s0 H locs ls h hP hD hS hl
  unfold dF_X6_load_80 at h
  refine lv_iload_n hx hb dX6_load_80 rfl (lv_at hl 3 rfl) ?_
  refine lv_bipush (v := 33) hx hb dX6_load_81 (by decide) ?_
  refine lv_icmp_ge (tgt := 114) hx hb dX6_load_83 (by decide) (fun c22 => ?_) (fun c22 => ?_)
  · have h := nd_pos h c22
    refine lv_iconst (v := 0) hx hb dX6_load_114 (by decide) ?_
    refine lv_istore_n (lv' := [(3, .int 0), (0, .ref (a 0)), (1, .int x1), (2, .ref (a 20))]) hx hb dX6_load_115 rfl hl (by decide) rfl (fun ls hl => ?_)
    exact (db_X6_load_116 C K n) (x1) (0) s0 _ _ _ h hP hD hS (lv_sub hl [1, 2, 3, 0] rfl)
  · have h := nd_neg h c22
    refine lv_aload_n hx hb dX6_load_86 rfl (lv_at hl 0 rfl) ?_
    refine va_get (D := (dC, dI)) (ci := 7) (v := .ref (a 4)) (C := RX6) (T := TX6) (N := 20) hx hb hts hi_dm_X6_load_X6 hown hK hP 0 rfl rfl 4 (by decide) (hts (.fieldLink RX6 20 "TimeMachine$Machine" "reg" "[I") (List.mem_of_getElem? (i := 22) rfl)) (fun _ h9 => h9) rfl dX6_load_87 ?_
    refine lv_iload_n hx hb dX6_load_90 rfl (lv_at hl 1 rfl) ?_
    refine lv_bipush (v := 33) hx hb dX6_load_91 (by decide) ?_
    refine lv_imul hx hb dX6_load_93 ?_
    refine lv_iload_n hx hb dX6_load_94 rfl (lv_at hl 3 rfl) ?_
    refine lv_iadd hx hb dX6_load_95 ?_
    refine lv_iload_n hx hb dX6_load_96 rfl (lv_at hl 3 rfl) ?_
    refine lv_iconst (v := 2) hx hb dX6_load_97 (by decide) ?_
    refine lv_icmp_ne (tgt := 106) hx hb dX6_load_98 (by decide) (fun c44 => ?_) (fun c44 => ?_)
    · have h := nd_neg h c44
      refine lv_iconst (v := 0) hx hb dX6_load_106 (by decide) ?_
      exact (db_X6_load_107 C K J80) (x1) (x3) (((x1 * 33) + x3)) (0) s0 _ _ _ h hP hD hS (lv_sub hl [0, 1, 2, 3] rfl)
    · have h := nd_pos h c44
      refine lv_ldc hx hb hown (hts (.constant RX6 9 (65536)) (List.mem_of_getElem? (i := 23) rfl)) dX6_load_101 ?_
      refine lv_goto (tgt := 107) hx hb dX6_load_103 (by decide) ?_
      exact (db_X6_load_107 C K J80) (x1) (x3) (((x1 * 33) + x3)) (65536) s0 _ _ _ h hP hD hS (lv_sub hl [0, 1, 2, 3] rfl)
set_option maxHeartbeats 40000000 in
set_option maxRecDepth 100000 in
theorem db_X6_load_80 {p : Program} {l : Launch} {e : Env} {s : State} {m : MethodId} {args : Array Value} {below : List Frame} {meth : Method} {c : Code} {Q : State → Prop} {A : Nat → Prop} {dC : Nat → ClassId} {dI : Nat → Nat → Nat} {a : Nat → Nat} {ac : Nat → ClassId} {n : Nat} {r : St × (St × (St)) × (St)} (C : nd_C p l s m args c A (dC, dI) cX6_load 4 RX6 ow_dm_X6_load (dk_X6p ac)) (K : nd_Kv p l e (headSpec ow_dm_X6_load ({ frames := 1, cells := 0, slots := 0, locals := 27 })).room s m args below meth c Q A (dC, dI) cX6_load (St × (St × (St)) × (St)) (dw_X6p a ac) r) (k : Nat) : dj_X6_load_80 p l e s m args below meth c Q A dC dI a ac (df_X6_load_80 n k) r := by
  induction k with
  | zero => intro x1 x3 s0 H locs ls h; exact nomatch (show (none : Option (St × (St × (St)) × (St))) = some r from h)
  | succ k ih => exact dB_X6_load_80 C K ih
set_option maxHeartbeats 40000000 in
set_option maxRecDepth 100000 in
theorem db_X6_load_72 {p : Program} {l : Launch} {e : Env} {s : State} {m : MethodId} {args : Array Value} {below : List Frame} {meth : Method} {c : Code} {Q : State → Prop} {A : Nat → Prop} {dC : Nat → ClassId} {dI : Nat → Nat → Nat} {a : Nat → Nat} {ac : Nat → ClassId} {n : Nat} {r : St × (St × (St)) × (St)} (C : nd_C p l s m args c A (dC, dI) cX6_load 4 RX6 ow_dm_X6_load (dk_X6p ac)) (K : nd_Kv p l e (headSpec ow_dm_X6_load ({ frames := 1, cells := 0, slots := 0, locals := 27 })).room s m args below meth c Q A (dC, dI) cX6_load (St × (St × (St)) × (St)) (dw_X6p a ac) r) {g40 : Int32 → Int32 → (St × (St × (St)) × (St)) → Option (St × (St × (St)) × (St))} (J40 : dj_X6_load_40 p l e s m args below meth c Q A dC dI a ac g40 r) : dj_X6_load_72 p l e s m args below meth c Q A dC dI a ac (df_X6_load_72 n g40) r := by
  obtain ⟨hlt, hx, hb, hml, hown, hts, hN, hA, hK⟩ := id C
  intro x1 x3 s0 H locs ls h hP hD hS hl
  unfold df_X6_load_72 at h
  obtain ⟨z50, ez50, h⟩ := nd_let_e h
  refine lv_iinc (v := z50) (lv' := [(3, .int z50), (0, .ref (a 0)), (1, .int x1), (2, .ref (a 20))]) hx hb dX6_load_72 hl (k := 3) rfl (by rw [ez50]) (by decide) rfl (fun ls hl => ?_)
  refine lv_goto (tgt := 40) hx hb dX6_load_75 (by decide) ?_
  exact (J40) (x1) (z50) s0 _ _ _ h hP hD hS (lv_sub hl [1, 2, 3, 0] rfl)
set_option maxHeartbeats 40000000 in
set_option maxRecDepth 100000 in
theorem dB_X6_load_40 {p : Program} {l : Launch} {e : Env} {s : State} {m : MethodId} {args : Array Value} {below : List Frame} {meth : Method} {c : Code} {Q : State → Prop} {A : Nat → Prop} {dC : Nat → ClassId} {dI : Nat → Nat → Nat} {a : Nat → Nat} {ac : Nat → ClassId} {n : Nat} {r : St × (St × (St)) × (St)} (C : nd_C p l s m args c A (dC, dI) cX6_load 4 RX6 ow_dm_X6_load (dk_X6p ac)) (K : nd_Kv p l e (headSpec ow_dm_X6_load ({ frames := 1, cells := 0, slots := 0, locals := 27 })).room s m args below meth c Q A (dC, dI) cX6_load (St × (St × (St)) × (St)) (dw_X6p a ac) r) {g40 : Int32 → Int32 → (St × (St × (St)) × (St)) → Option (St × (St × (St)) × (St))} (J40 : dj_X6_load_40 p l e s m args below meth c Q A dC dI a ac g40 r) : dj_X6_load_40 p l e s m args below meth c Q A dC dI a ac (dF_X6_load_40 n g40) r := by
  obtain ⟨hlt, hx, hb, hml, hown, hts, hN, hA, hK⟩ := id C
  intro x1 x3 s0 H locs ls h hP hD hS hl
  unfold dF_X6_load_40 at h
  refine lv_iload_n hx hb dX6_load_40 rfl (lv_at hl 3 rfl) ?_
  refine lv_aload_n hx hb dX6_load_41 rfl (lv_at hl 2 rfl) ?_
  refine va_get (D := (dC, dI)) (ci := 9) (v := .int (sI s0.2.2 2)) (C := RX8) (T := TX8) (N := 10) hx hb hts hi_dm_X6_load_X8 hown hK hP 20 rfl rfl 3 (by decide) (hts (.fieldLink RX6 133 "TimeMachine$Program" "size" "I") (List.mem_of_getElem? (i := 13) rfl)) (fun _ h9 => h9) rfl dX6_load_42 ?_
  refine lv_icmp_ge (tgt := 78) hx hb dX6_load_45 (by decide) (fun c21 => ?_) (fun c21 => ?_)
  · have h := nd_pos h c21
    refine lv_iconst (v := 0) hx hb dX6_load_78 (by decide) ?_
    refine lv_istore_n (lv' := [(3, .int 0), (0, .ref (a 0)), (1, .int x1), (2, .ref (a 20))]) hx hb dX6_load_79 rfl hl (by decide) rfl (fun ls hl => ?_)
    exact (db_X6_load_80 C K n) (x1) (0) s0 _ _ _ h hP hD hS (lv_sub hl [1, 2, 3, 0] rfl)
  · have h := nd_neg h c21
    refine lv_aload_n hx hb dX6_load_48 rfl (lv_at hl 2 rfl) ?_
    refine va_get (D := (dC, dI)) (ci := 9) (v := .ref (a 21)) (C := RX8) (T := TX8) (N := 10) hx hb hts hi_dm_X6_load_X8 hown hK hP 20 rfl rfl 0 (by decide) (hts (.fieldLink RX6 136 "TimeMachine$Program" "image" "[B") (List.mem_of_getElem? (i := 24) rfl)) (fun _ h9 => h9) rfl dX6_load_49 ?_
    refine lv_iload_n hx hb dX6_load_52 rfl (lv_at hl 3 rfl) ?_
    obtain ⟨i48, h⟩ := nd_ck_e h
    refine va_bald (i := x3) hx hb hK hP 21 18 rfl rfl i48 dX6_load_53 ?_
    refine lv_if_eq (tgt := 72) hx hb dX6_load_54 (by decide) (fun c49 => ?_) (fun c49 => ?_)
    · have h := nd_pos h c49
      exact (db_X6_load_72 C K J40) (x1) (x3) s0 _ _ _ h hP hD hS (lv_sub hl [0, 1, 2, 3] rfl)
    · have h := nd_neg h c49
      refine lv_aload_n hx hb dX6_load_57 rfl (lv_at hl 0 rfl) ?_
      refine lv_iload_n hx hb dX6_load_58 rfl (lv_at hl 1 rfl) ?_
      refine lv_iload_n hx hb dX6_load_59 rfl (lv_at hl 3 rfl) ?_
      refine lv_sipush (v := 255) hx hb dX6_load_60 (by decide) ?_
      refine lv_aload_n hx hb dX6_load_63 rfl (lv_at hl 2 rfl) ?_
      refine va_get (D := (dC, dI)) (ci := 9) (v := .ref (a 21)) (C := RX8) (T := TX8) (N := 10) hx hb hts hi_dm_X6_load_X8 hown hK hP 20 rfl rfl 0 (by decide) (hts (.fieldLink RX6 136 "TimeMachine$Program" "image" "[B") (List.mem_of_getElem? (i := 24) rfl)) (fun _ h9 => h9) rfl dX6_load_64 ?_
      refine lv_iload_n hx hb dX6_load_67 rfl (lv_at hl 3 rfl) ?_
      obtain ⟨i51, h⟩ := nd_ck_e h
      refine va_bald (i := x3) hx hb hK hP 21 18 rfl rfl i51 dX6_load_68 ?_
      obtain ⟨s53, hq, h⟩ := nd_b1_e h
      have hPc := dp_X6p_0 hP
      have hDc := dd_X6p_0 hD
      have hKc := dy_X6p_0 hK
      have hFc := nd_rs hDc hS hA
      have hzA : ∀ q : Nat, H.size ≤ q → A q := fun q h => hA q (Nat.le_trans hS.1 h)
      refine nd_cVv (As := [.int x1, .int x3, .int 255, .int (sR s0.2.2 0 (Int32.toNatClampNeg x3))]) (rest := []) (w' := dw_X6 (fun k => a (k + 0)) (fun k => ac (k + 0)) s53) ⟨hx, hb, hml, hown, hts⟩ (fun sz => dm_X6_put l hlt dC dI (fun k => a (k + 0)) (fun k => ac (k + 0)) n (x1) (x3) (255) ((sR s0.2.2 0 (Int32.toNatClampNeg x3))) s0.2.1 hq sz) (cwV 4 hts gi_dm_X6_load_4 rfl rfl rfl (by decide +kernel) ⟨Nat.le_of_ble_eq_true rfl, Nat.le_of_ble_eq_true rfl⟩) hPc hDc hKc hS hA hN (va_recv hKc hPc (ci := 7) (q0 := 0) rfl rfl) rfl hl.1 rfl (Nat.le_of_ble_eq_true rfl) dX6_load_69 (fun H locs hP1 hD1 hk1 hS => ?_)
      obtain ⟨hP, hD⟩ := dn_X6p_0 hP hD hzA hk1 hP1 hD1
      obtain ⟨s55, es55, h⟩ := nd_let_e h
      have hP : va_P (dC, dI) vwCl (dw_X6p a ac s55) H := by rw [es55]; exact hP
      have hD : va_D A (dw_X6p a ac s55) := by rw [es55]; exact hD
      exact (db_X6_load_72 C K J40) (x1) (x3) s55 _ _ _ h hP hD hS (lv_sub hl [0, 1, 2, 3] rfl)
set_option maxHeartbeats 40000000 in
set_option maxRecDepth 100000 in
theorem db_X6_load_40 {p : Program} {l : Launch} {e : Env} {s : State} {m : MethodId} {args : Array Value} {below : List Frame} {meth : Method} {c : Code} {Q : State → Prop} {A : Nat → Prop} {dC : Nat → ClassId} {dI : Nat → Nat → Nat} {a : Nat → Nat} {ac : Nat → ClassId} {n : Nat} {r : St × (St × (St)) × (St)} (C : nd_C p l s m args c A (dC, dI) cX6_load 4 RX6 ow_dm_X6_load (dk_X6p ac)) (K : nd_Kv p l e (headSpec ow_dm_X6_load ({ frames := 1, cells := 0, slots := 0, locals := 27 })).room s m args below meth c Q A (dC, dI) cX6_load (St × (St × (St)) × (St)) (dw_X6p a ac) r) (k : Nat) : dj_X6_load_40 p l e s m args below meth c Q A dC dI a ac (df_X6_load_40 n k) r := by
  induction k with
  | zero => intro x1 x3 s0 H locs ls h; exact nomatch (show (none : Option (St × (St × (St)) × (St))) = some r from h)
  | succ k ih => exact dB_X6_load_40 C K ih
set_option maxHeartbeats 40000000 in
set_option maxRecDepth 100000 in
theorem db_X6_load_0 {p : Program} {l : Launch} {e : Env} {s : State} {m : MethodId} {args : Array Value} {below : List Frame} {meth : Method} {c : Code} {Q : State → Prop} {A : Nat → Prop} {dC : Nat → ClassId} {dI : Nat → Nat → Nat} {a : Nat → Nat} {ac : Nat → ClassId} {n : Nat} {r : St × (St × (St)) × (St)} (C : nd_C p l s m args c A (dC, dI) cX6_load 4 RX6 ow_dm_X6_load (dk_X6p ac)) (K : nd_Kv p l e (headSpec ow_dm_X6_load ({ frames := 1, cells := 0, slots := 0, locals := 27 })).room s m args below meth c Q A (dC, dI) cX6_load (St × (St × (St)) × (St)) (dw_X6p a ac) r) : dj_X6_load_0 p l e s m args below meth c Q A dC dI a ac (df_X6_load_0 n) r := by
  obtain ⟨hlt, hx, hb, hml, hown, hts, hN, hA, hK⟩ := id C
  intro v0 s0 H locs ls h hP hD hS hl
  unfold df_X6_load_0 at h
  refine lv_aload_n hx hb dX6_load_0 rfl (lv_at hl 0 rfl) ?_
  refine lv_iload_n hx hb dX6_load_1 rfl (lv_at hl 1 rfl) ?_
  refine lv_iconst (v := 0) hx hb dX6_load_2 (by decide) ?_
  refine lv_aload_n hx hb dX6_load_3 rfl (lv_at hl 2 rfl) ?_
  obtain ⟨q1, s2, hq, h⟩ := nd_b2_e h
  have hPc := dp_X6p_20 hP
  have hDc := dd_X6p_20 hD
  have hKc := dy_X6p_20 hK
  have hFc := nd_rs hDc hS hA
  have hzA : ∀ q : Nat, H.size ≤ q → A q := fun q h => hA q (Nat.le_trans hS.1 h)
  refine nd_cVi (As := []) (rest := [.int 0, .int v0, .ref (a 0)]) (q := q1) (w' := dw_X8 (fun k => a (k + 20)) (fun k => ac (k + 20)) s2) ⟨hx, hb, hml, hown, hts⟩ (fun sz => dm_X8_textPages l hlt dC dI (fun k => a (k + 20)) (fun k => ac (k + 20)) n  s0.2.2 hq sz) (cwV 0 hts gi_dm_X6_load_0 rfl rfl rfl (by decide +kernel) ⟨Nat.le_of_ble_eq_true rfl, Nat.le_of_ble_eq_true rfl⟩) hPc hDc hKc hS hA hN (va_recv hKc hPc (ci := 9) (q0 := 0) rfl rfl) rfl hl.1 rfl (Nat.le_of_ble_eq_true rfl) dX6_load_4 (fun H locs hP1 hD1 hk1 hS => ?_)
  obtain ⟨hP, hD⟩ := dn_X6p_20 hP hD hzA hk1 hP1 hD1
  obtain ⟨s4, es4, h⟩ := nd_let_e h
  have hP : va_P (dC, dI) vwCl (dw_X6p a ac s4) H := by rw [es4]; exact hP
  have hD : va_D A (dw_X6p a ac s4) := by rw [es4]; exact hD
  refine lv_iconst (v := 5) hx hb dX6_load_7 (by decide) ?_
  obtain ⟨s6, hq, h⟩ := nd_b1_e h
  have hPc := dp_X6p_0 hP
  have hDc := dd_X6p_0 hD
  have hKc := dy_X6p_0 hK
  have hFc := nd_rs hDc hS hA
  have hzA : ∀ q : Nat, H.size ≤ q → A q := fun q h => hA q (Nat.le_trans hS.1 h)
  refine nd_cVv (As := [.int v0, .int 0, .int q1, .int 5]) (rest := []) (w' := dw_X6 (fun k => a (k + 0)) (fun k => ac (k + 0)) s6) ⟨hx, hb, hml, hown, hts⟩ (fun sz => dm_X6_addPages l hlt dC dI (fun k => a (k + 0)) (fun k => ac (k + 0)) n (v0) (0) (q1) (5) s4.2.1 hq sz) (cwV 4 hts gi_dm_X6_load_1 rfl rfl rfl (by decide +kernel) ⟨Nat.le_of_ble_eq_true rfl, Nat.le_of_ble_eq_true rfl⟩) hPc hDc hKc hS hA hN (va_recv hKc hPc (ci := 7) (q0 := 0) rfl rfl) rfl hl.1 rfl (Nat.le_of_ble_eq_true rfl) dX6_load_8 (fun H locs hP1 hD1 hk1 hS => ?_)
  obtain ⟨hP, hD⟩ := dn_X6p_0 hP hD hzA hk1 hP1 hD1
  obtain ⟨s8, es8, h⟩ := nd_let_e h
  have hP : va_P (dC, dI) vwCl (dw_X6p a ac s8) H := by rw [es8]; exact hP
  have hD : va_D A (dw_X6p a ac s8) := by rw [es8]; exact hD
  refine lv_aload_n hx hb dX6_load_11 rfl (lv_at hl 0 rfl) ?_
  refine lv_iload_n hx hb dX6_load_12 rfl (lv_at hl 1 rfl) ?_
  refine lv_aload_n hx hb dX6_load_13 rfl (lv_at hl 2 rfl) ?_
  refine va_get (D := (dC, dI)) (ci := 9) (v := .int (sI s8.2.2 1)) (C := RX8) (T := TX8) (N := 10) hx hb hts hi_dm_X6_load_X8 hown hK hP 20 rfl rfl 2 (by decide) (hts (.fieldLink RX6 130 "TimeMachine$Program" "dataStart" "I") (List.mem_of_getElem? (i := 9) rfl)) (fun _ h9 => h9) rfl dX6_load_14 ?_
  refine lv_sipush (v := 1024) hx hb dX6_load_17 (by decide) ?_
  refine lv_idiv hx hb dX6_load_20 (by decide) ?_
  refine lv_aload_n hx hb dX6_load_21 rfl (lv_at hl 2 rfl) ?_
  obtain ⟨q9, s10, hq, h⟩ := nd_b2_e h
  have hPc := dp_X6p_20 hP
  have hDc := dd_X6p_20 hD
  have hKc := dy_X6p_20 hK
  have hFc := nd_rs hDc hS hA
  have hzA : ∀ q : Nat, H.size ≤ q → A q := fun q h => hA q (Nat.le_trans hS.1 h)
  refine nd_cVi (As := []) (rest := [.int (((sI s8.2.2 1) : Int32) / 1024), .int v0, .ref (a 0)]) (q := q9) (w' := dw_X8 (fun k => a (k + 20)) (fun k => ac (k + 20)) s10) ⟨hx, hb, hml, hown, hts⟩ (fun sz => dm_X8_dataPages l hlt dC dI (fun k => a (k + 20)) (fun k => ac (k + 20)) n  s8.2.2 hq sz) (cwV 0 hts gi_dm_X6_load_2 rfl rfl rfl (by decide +kernel) ⟨Nat.le_of_ble_eq_true rfl, Nat.le_of_ble_eq_true rfl⟩) hPc hDc hKc hS hA hN (va_recv hKc hPc (ci := 9) (q0 := 0) rfl rfl) rfl hl.1 rfl (Nat.le_of_ble_eq_true rfl) dX6_load_22 (fun H locs hP1 hD1 hk1 hS => ?_)
  obtain ⟨hP, hD⟩ := dn_X6p_20 hP hD hzA hk1 hP1 hD1
  obtain ⟨s12, es12, h⟩ := nd_let_e h
  have hP : va_P (dC, dI) vwCl (dw_X6p a ac s12) H := by rw [es12]; exact hP
  have hD : va_D A (dw_X6p a ac s12) := by rw [es12]; exact hD
  refine lv_iconst (v := 3) hx hb dX6_load_25 (by decide) ?_
  obtain ⟨s14, hq, h⟩ := nd_b1_e h
  have hPc := dp_X6p_0 hP
  have hDc := dd_X6p_0 hD
  have hKc := dy_X6p_0 hK
  have hFc := nd_rs hDc hS hA
  have hzA : ∀ q : Nat, H.size ≤ q → A q := fun q h => hA q (Nat.le_trans hS.1 h)
  refine nd_cVv (As := [.int v0, .int (((sI s8.2.2 1) : Int32) / 1024), .int q9, .int 3]) (rest := []) (w' := dw_X6 (fun k => a (k + 0)) (fun k => ac (k + 0)) s14) ⟨hx, hb, hml, hown, hts⟩ (fun sz => dm_X6_addPages l hlt dC dI (fun k => a (k + 0)) (fun k => ac (k + 0)) n (v0) ((((sI s8.2.2 1) : Int32) / 1024)) (q9) (3) s12.2.1 hq sz) (cwV 4 hts gi_dm_X6_load_1 rfl rfl rfl (by decide +kernel) ⟨Nat.le_of_ble_eq_true rfl, Nat.le_of_ble_eq_true rfl⟩) hPc hDc hKc hS hA hN (va_recv hKc hPc (ci := 7) (q0 := 0) rfl rfl) rfl hl.1 rfl (Nat.le_of_ble_eq_true rfl) dX6_load_26 (fun H locs hP1 hD1 hk1 hS => ?_)
  obtain ⟨hP, hD⟩ := dn_X6p_0 hP hD hzA hk1 hP1 hD1
  obtain ⟨s16, es16, h⟩ := nd_let_e h
  have hP : va_P (dC, dI) vwCl (dw_X6p a ac s16) H := by rw [es16]; exact hP
  have hD : va_D A (dw_X6p a ac s16) := by rw [es16]; exact hD
  refine lv_aload_n hx hb dX6_load_29 rfl (lv_at hl 0 rfl) ?_
  refine lv_iload_n hx hb dX6_load_30 rfl (lv_at hl 1 rfl) ?_
  refine lv_bipush (v := 60) hx hb dX6_load_31 (by decide) ?_
  refine lv_iconst (v := 4) hx hb dX6_load_33 (by decide) ?_
  refine lv_iconst (v := 3) hx hb dX6_load_34 (by decide) ?_
  obtain ⟨s18, hq, h⟩ := nd_b1_e h
  have hPc := dp_X6p_0 hP
  have hDc := dd_X6p_0 hD
  have hKc := dy_X6p_0 hK
  have hFc := nd_rs hDc hS hA
  have hzA : ∀ q : Nat, H.size ≤ q → A q := fun q h => hA q (Nat.le_trans hS.1 h)
  refine nd_cVv (As := [.int v0, .int 60, .int 4, .int 3]) (rest := []) (w' := dw_X6 (fun k => a (k + 0)) (fun k => ac (k + 0)) s18) ⟨hx, hb, hml, hown, hts⟩ (fun sz => dm_X6_addPages l hlt dC dI (fun k => a (k + 0)) (fun k => ac (k + 0)) n (v0) (60) (4) (3) s16.2.1 hq sz) (cwV 4 hts gi_dm_X6_load_1 rfl rfl rfl (by decide +kernel) ⟨Nat.le_of_ble_eq_true rfl, Nat.le_of_ble_eq_true rfl⟩) hPc hDc hKc hS hA hN (va_recv hKc hPc (ci := 7) (q0 := 0) rfl rfl) rfl hl.1 rfl (Nat.le_of_ble_eq_true rfl) dX6_load_35 (fun H locs hP1 hD1 hk1 hS => ?_)
  obtain ⟨hP, hD⟩ := dn_X6p_0 hP hD hzA hk1 hP1 hD1
  obtain ⟨s20, es20, h⟩ := nd_let_e h
  have hP : va_P (dC, dI) vwCl (dw_X6p a ac s20) H := by rw [es20]; exact hP
  have hD : va_D A (dw_X6p a ac s20) := by rw [es20]; exact hD
  refine lv_iconst (v := 0) hx hb dX6_load_38 (by decide) ?_
  refine lv_istore_n (lv' := [(3, .int 0), (0, .ref (a 0)), (1, .int v0), (2, .ref (a 20))]) hx hb dX6_load_39 rfl hl (by decide) rfl (fun ls hl => ?_)
  exact (db_X6_load_40 C K n) (v0) (0) s20 _ _ _ h hP hD hS (lv_sub hl [1, 2, 3, 0] rfl)
set_option maxHeartbeats 40000000 in
set_option maxRecDepth 100000 in
theorem dm_X6_load (l : Launch) (hlt : l.stackTraces = false) (dC : Nat → ClassId) (dI : Nat → Nat → Nat) (a : Nat → Nat) (ac : Nat → ClassId) (n : Nat) (v0 : Int32) (s0 : St × (St × (St)) × (St)) {r : St × (St × (St)) × (St)} (h : df_X6_load n v0 s0 = some r) (sz : Nat) : Met l yX6_load ow_dm_X6_load ({ frames := 1, cells := 0, slots := 0, locals := 27 }) (va_Pc [.ref (a 0), .int v0, .ref (a 20)] (fun U => U.heap.size = sz ∧ va_P (dC, dI) vwCl (dw_X6p a ac s0) U.heap ∧ va_K (dC, dI) vwCl (dk_X6p ac) U ∧ va_D (fun _ => True) (dw_X6p a ac s0) ∧ nv_E dI (va_A (dw_X6p a ac s0) sz) U)) (va_Qv (fun _ => True) (fun (_ : Unit) t => va_P (dC, dI) vwCl (dw_X6p a ac r) t.heap ∧ va_K (dC, dI) vwCl (dk_X6p ac) t ∧ va_D (va_A (dw_X6p a ac s0) sz) (dw_X6p a ac r)) (va_A (dw_X6p a ac s0) sz)) 0 0 (va_A (dw_X6p a ac s0) sz) := by
  refine Met.ofW (cc := cX6_load) (maxL := 4) (ret := none) (by decide) rfl ?_
  intro p e s m args below meth c s₁ B hml hv
  obtain ⟨rfl, hsz, hP, hK, hD0, hN⟩ := hv
  have hx := B.exec
  have hb := B.bytes
  have hr := B.returns
  have hts := atoms_spec (ws := ow_dm_X6_load) B.pre
  have hown : s.vm.findClass RX6 = some m.cls := findClass_of_methodNamed B.named
  have hlocks := B.notSynchronized
  subst hsz
  have hD := hD0.self (sz := s.heap.size)
  generalize hAe : va_A (dw_X6p a ac s0) s.heap.size = A at hD hN ⊢
  have hA : ∀ q : Nat, s.heap.size ≤ q → A q := fun q h => by rw [← hAe]; exact Or.inr h
  have hl := lv_entry ([.ref (a 0), .int v0, .ref (a 20)]) (n := 4) (Nat.le_of_ble_eq_true rfl)
  rw [lg_entry_eq]
  generalize (lg_sl ([.ref (a 0), .int v0, .ref (a 20)]) ++ List.replicate (4 - (lg_sl ([.ref (a 0), .int v0, .ref (a 20)])).length) Slot.unset).toArray = ls at hl ⊢
  have hl : lv_has ls 4 [(0, .ref (a 0)), (1, .int v0), (2, .ref (a 20))] := hl
  exact db_X6_load_0 (dC := dC) (dI := dI) (a := a) (ac := ac) (n := n) (r := r) ⟨hlt, hx, hb, hml, hown, hts, hN, hA, hK⟩ (fun pc τ H locs ls d er hP hD hS => by subst er; exact W.vret hx hb hr (fun t ht hW => ⟨⟨(), rfl, trivial, by rw [ht]; exact hP, va_K.moved hW.alike hK, hD⟩, hS.F ht⟩) hS.2.2 d) v0 s0 _ _ _ h hP hD va_S.rf (lv_sub hl [0, 1, 2] rfl)
def ow_dm_X6_nextReady : List Cond := Cond.code yX6_nextReady cX6_nextReady 4 (some .int) :: ([Cond.fieldLink RX6 29 "TimeMachine$Machine" "self" "[I"] ++ (u_ws RX6 TX6 20 ++ []))
theorem gd_dm_X6_nextReady : ∀ w ∈ ow_dm_X6_nextReady, (w.onTables && w.keeps) = true ∨ ∃ ty, w = Cond.arrayClass ty := List.forall_mem_cons.mpr ⟨good_of_word rfl, List.forall_mem_append.mpr ⟨fun w h => good_of_word (List.all_eq_true.mp (by decide +kernel) w h), List.forall_mem_append.mpr ⟨gu_X6, fun _ h => nomatch h⟩⟩⟩
theorem hi_dm_X6_nextReady_X6 : ∀ w ∈ u_ws RX6 TX6 20, w ∈ ow_dm_X6_nextReady := fun w h => List.mem_cons_of_mem _ (List.mem_append_right _ (List.mem_append_left _ h))
def dj_X6_nextReady_2 (p : Program) (l : Launch) (e : Env) (s : State) (m : MethodId) (args : Array Value) (below : List Frame) (meth : Method) (c : Code) (Q : State → Prop) (A : Nat → Prop) (dC : Nat → ClassId) (dI : Nat → Nat → Nat) (a : Nat → Nat) (ac : Nat → ClassId) (g : Int32 → Int32 → (St × (St)) → Option (Int32 × (St × (St)))) (r : Int32 × (St × (St))) : Prop := ∀ (x1 : Int32) (x2 : Int32) (s0 : St × (St)) (H : Heap) (locs : List Loc) (ls : Array Slot), g x1 x2 s0 = some r → va_P (dC, dI) vwCl (dw_X6 a ac s0) H → va_D A (dw_X6 a ac s0) → va_S A s.heap H locs → lv_has ls 4 [(0, .ref (a 0)), (1, .int x1), (2, .int x2)] → W p l e (headSpec ow_dm_X6_nextReady ({ frames := 0, cells := 0, slots := 0, locals := 0 })).room s m args below meth c H locs 0 0 Q (F0 m 2 ls [])
def dj_X6_nextReady_0 (p : Program) (l : Launch) (e : Env) (s : State) (m : MethodId) (args : Array Value) (below : List Frame) (meth : Method) (c : Code) (Q : State → Prop) (A : Nat → Prop) (dC : Nat → ClassId) (dI : Nat → Nat → Nat) (a : Nat → Nat) (ac : Nat → ClassId) (g : Int32 → (St × (St)) → Option (Int32 × (St × (St)))) (r : Int32 × (St × (St))) : Prop := ∀ (v0 : Int32) (s0 : St × (St)) (H : Heap) (locs : List Loc) (ls : Array Slot), g v0 s0 = some r → va_P (dC, dI) vwCl (dw_X6 a ac s0) H → va_D A (dw_X6 a ac s0) → va_S A s.heap H locs → lv_has ls 4 [(0, .ref (a 0)), (1, .int v0)] → W p l e (headSpec ow_dm_X6_nextReady ({ frames := 0, cells := 0, slots := 0, locals := 0 })).room s m args below meth c H locs 0 0 Q (F0 m 0 ls [])
set_option maxHeartbeats 40000000 in
set_option maxRecDepth 100000 in
theorem dB_X6_nextReady_2 {p : Program} {l : Launch} {e : Env} {s : State} {m : MethodId} {args : Array Value} {below : List Frame} {meth : Method} {c : Code} {Q : State → Prop} {A : Nat → Prop} {dC : Nat → ClassId} {dI : Nat → Nat → Nat} {a : Nat → Nat} {ac : Nat → ClassId} {n : Nat} {r : Int32 × (St × (St))} (C : nd_C p l s m args c A (dC, dI) cX6_nextReady 4 RX6 ow_dm_X6_nextReady (dk_X6 ac)) (K : nd_Ki p l e (headSpec ow_dm_X6_nextReady ({ frames := 0, cells := 0, slots := 0, locals := 0 })).room s m args below meth c Q A (dC, dI) cX6_nextReady .int (St × (St)) (dw_X6 a ac) r) {g2 : Int32 → Int32 → (St × (St)) → Option (Int32 × (St × (St)))} (J2 : dj_X6_nextReady_2 p l e s m args below meth c Q A dC dI a ac g2 r) : dj_X6_nextReady_2 p l e s m args below meth c Q A dC dI a ac (dF_X6_nextReady_2 n g2) r := by
  obtain ⟨hlt, hx, hb, hml, hown, hts, hN, hA, hK⟩ := id C
  intro x1 x2 s0 H locs ls h hP hD hS hl
  unfold dF_X6_nextReady_2 at h
  refine lv_iload_n hx hb dX6_nextReady_2 rfl (lv_at hl 2 rfl) ?_
  refine lv_bipush (v := 16) hx hb dX6_nextReady_3 (by decide) ?_
  refine lv_icmp_gt (tgt := 38) hx hb dX6_nextReady_5 (by decide) (fun c1 => ?_) (fun c1 => ?_)
  · have h := nd_pos h c1
    refine lv_iconst (v := (-1)) hx hb dX6_nextReady_38 (by decide) ?_
    exact K _ _ _ _ _ _ dX6_nextReady_39 rfl (Option.some.inj h).symm hP hD hS
  · have h := nd_neg h c1
    refine lv_iload_n hx hb dX6_nextReady_8 rfl (lv_at hl 1 rfl) ?_
    refine lv_iload_n hx hb dX6_nextReady_9 rfl (lv_at hl 2 rfl) ?_
    refine lv_iadd hx hb dX6_nextReady_10 ?_
    refine lv_bipush (v := 15) hx hb dX6_nextReady_11 (by decide) ?_
    refine lv_iand hx hb dX6_nextReady_13 ?_
    refine lv_topi (fun z2 ez2 => ?_)
    have h := nd_at h ez2
    refine lv_istore_n (lv' := [(3, .int z2), (0, .ref (a 0)), (1, .int x1), (2, .int x2)]) hx hb dX6_nextReady_14 rfl hl (by decide) rfl (fun ls hl => ?_)
    refine lv_aload_n hx hb dX6_nextReady_15 rfl (lv_at hl 1 rfl) ?_
    refine va_get (D := (dC, dI)) (ci := 7) (v := .ref (a 7)) (C := RX6) (T := TX6) (N := 20) hx hb hts hi_dm_X6_nextReady_X6 hown hK hP 0 rfl rfl 7 (by decide) (hts (.fieldLink RX6 29 "TimeMachine$Machine" "self" "[I") (List.mem_of_getElem? (i := 1) rfl)) (fun _ h9 => h9) rfl dX6_nextReady_16 ?_
    refine lv_iload_n hx hb dX6_nextReady_19 rfl (lv_at hl 0 rfl) ?_
    refine lv_bipush (v := 7) hx hb dX6_nextReady_20 (by decide) ?_
    refine lv_imul hx hb dX6_nextReady_22 ?_
    refine lv_iconst (v := 0) hx hb dX6_nextReady_23 (by decide) ?_
    refine lv_iadd hx hb dX6_nextReady_24 ?_
    obtain ⟨i3, h⟩ := nd_ck_e h
    refine va_iald (i := ((z2 * 7) + 0)) hx hb hK hP 7 6 rfl rfl i3 dX6_nextReady_25 ?_
    refine lv_iconst (v := 1) hx hb dX6_nextReady_26 (by decide) ?_
    refine lv_icmp_ne (tgt := 32) hx hb dX6_nextReady_27 (by decide) (fun c4 => ?_) (fun c4 => ?_)
    · have h := nd_neg h c4
      obtain ⟨z5, ez5, h⟩ := nd_let_e h
      refine lv_iinc (v := z5) (lv' := [(2, .int z5), (3, .int z2), (0, .ref (a 0)), (1, .int x1)]) hx hb dX6_nextReady_32 hl (k := 3) rfl (by rw [ez5]) (by decide) rfl (fun ls hl => ?_)
      refine lv_goto (tgt := 2) hx hb dX6_nextReady_35 (by decide) ?_
      exact (J2) (x1) (z5) s0 _ _ _ h hP hD hS (lv_sub hl [2, 3, 0] rfl)
    · have h := nd_pos h c4
      refine lv_iload_n hx hb dX6_nextReady_30 rfl (lv_at hl 0 rfl) ?_
      exact K _ _ _ _ _ _ dX6_nextReady_31 rfl (Option.some.inj h).symm hP hD hS
set_option maxHeartbeats 40000000 in
set_option maxRecDepth 100000 in
theorem db_X6_nextReady_2 {p : Program} {l : Launch} {e : Env} {s : State} {m : MethodId} {args : Array Value} {below : List Frame} {meth : Method} {c : Code} {Q : State → Prop} {A : Nat → Prop} {dC : Nat → ClassId} {dI : Nat → Nat → Nat} {a : Nat → Nat} {ac : Nat → ClassId} {n : Nat} {r : Int32 × (St × (St))} (C : nd_C p l s m args c A (dC, dI) cX6_nextReady 4 RX6 ow_dm_X6_nextReady (dk_X6 ac)) (K : nd_Ki p l e (headSpec ow_dm_X6_nextReady ({ frames := 0, cells := 0, slots := 0, locals := 0 })).room s m args below meth c Q A (dC, dI) cX6_nextReady .int (St × (St)) (dw_X6 a ac) r) (k : Nat) : dj_X6_nextReady_2 p l e s m args below meth c Q A dC dI a ac (df_X6_nextReady_2 n k) r := by
  induction k with
  | zero => intro x1 x2 s0 H locs ls h; exact nomatch (show (none : Option (Int32 × (St × (St)))) = some r from h)
  | succ k ih => exact dB_X6_nextReady_2 C K ih
set_option maxHeartbeats 40000000 in
set_option maxRecDepth 100000 in
theorem db_X6_nextReady_0 {p : Program} {l : Launch} {e : Env} {s : State} {m : MethodId} {args : Array Value} {below : List Frame} {meth : Method} {c : Code} {Q : State → Prop} {A : Nat → Prop} {dC : Nat → ClassId} {dI : Nat → Nat → Nat} {a : Nat → Nat} {ac : Nat → ClassId} {n : Nat} {r : Int32 × (St × (St))} (C : nd_C p l s m args c A (dC, dI) cX6_nextReady 4 RX6 ow_dm_X6_nextReady (dk_X6 ac)) (K : nd_Ki p l e (headSpec ow_dm_X6_nextReady ({ frames := 0, cells := 0, slots := 0, locals := 0 })).room s m args below meth c Q A (dC, dI) cX6_nextReady .int (St × (St)) (dw_X6 a ac) r) : dj_X6_nextReady_0 p l e s m args below meth c Q A dC dI a ac (df_X6_nextReady_0 n) r := by
  obtain ⟨hlt, hx, hb, hml, hown, hts, hN, hA, hK⟩ := id C
  intro v0 s0 H locs ls h hP hD hS hl
  unfold df_X6_nextReady_0 at h
  refine lv_iconst (v := 1) hx hb dX6_nextReady_0 (by decide) ?_
  refine lv_istore_n (lv' := [(2, .int 1), (0, .ref (a 0)), (1, .int v0)]) hx hb dX6_nextReady_1 rfl hl (by decide) rfl (fun ls hl => ?_)
  exact (db_X6_nextReady_2 C K n) (v0) (1) s0 _ _ _ h hP hD hS (lv_sub hl [1, 2, 0] rfl)
set_option maxHeartbeats 40000000 in
set_option maxRecDepth 100000 in
theorem dm_X6_nextReady (l : Launch) (hlt : l.stackTraces = false) (dC : Nat → ClassId) (dI : Nat → Nat → Nat) (a : Nat → Nat) (ac : Nat → ClassId) (n : Nat) (v0 : Int32) (s0 : St × (St)) {r : Int32 × (St × (St))} (h : df_X6_nextReady n v0 s0 = some r) (sz : Nat) : Met l yX6_nextReady ow_dm_X6_nextReady ({ frames := 0, cells := 0, slots := 0, locals := 0 }) (va_Pc [.ref (a 0), .int v0] (fun U => U.heap.size = sz ∧ va_P (dC, dI) vwCl (dw_X6 a ac s0) U.heap ∧ va_K (dC, dI) vwCl (dk_X6 ac) U ∧ va_D (fun _ => True) (dw_X6 a ac s0) ∧ nv_E dI (va_A (dw_X6 a ac s0) sz) U)) (va_Qi (fun x _ => x = r.1) (fun (_ : Unit) t => va_P (dC, dI) vwCl (dw_X6 a ac r.2) t.heap ∧ va_K (dC, dI) vwCl (dk_X6 ac) t ∧ va_D (va_A (dw_X6 a ac s0) sz) (dw_X6 a ac r.2)) (va_A (dw_X6 a ac s0) sz)) 0 0 (va_A (dw_X6 a ac s0) sz) := by
  refine Met.ofW (cc := cX6_nextReady) (maxL := 4) (ret := (some .int)) (by decide) rfl ?_
  intro p e s m args below meth c s₁ B hml hv
  obtain ⟨rfl, hsz, hP, hK, hD0, hN⟩ := hv
  have hx := B.exec
  have hb := B.bytes
  have hr := B.returns
  have hts := atoms_spec (ws := ow_dm_X6_nextReady) B.pre
  have hown : s.vm.findClass RX6 = some m.cls := findClass_of_methodNamed B.named
  have hlocks := B.notSynchronized
  subst hsz
  have hD := hD0.self (sz := s.heap.size)
  generalize hAe : va_A (dw_X6 a ac s0) s.heap.size = A at hD hN ⊢
  have hA : ∀ q : Nat, s.heap.size ≤ q → A q := fun q h => by rw [← hAe]; exact Or.inr h
  have hl := lv_entry ([.ref (a 0), .int v0]) (n := 4) (Nat.le_of_ble_eq_true rfl)
  rw [lg_entry_eq]
  generalize (lg_sl ([.ref (a 0), .int v0]) ++ List.replicate (4 - (lg_sl ([.ref (a 0), .int v0])).length) Slot.unset).toArray = ls at hl ⊢
  have hl : lv_has ls 4 [(0, .ref (a 0)), (1, .int v0)] := hl
  exact db_X6_nextReady_0 (dC := dC) (dI := dI) (a := a) (ac := ac) (n := n) (r := r) ⟨hlt, hx, hb, hml, hown, hts, hN, hA, hK⟩ (fun pc v τ H locs ls d z er hP hD hS => by subst er; exact W.zret (v := v) hx hb hr z (fun t ht hW => ⟨⟨v, (), rfl, rfl, by rw [ht]; exact hP, va_K.moved hW.alike hK, hD⟩, hS.F ht⟩) hS.2.2 d) v0 s0 _ _ _ h hP hD va_S.rf (lv_sub hl [0, 1] rfl)
def ow_dm_X6_makeCurrent : List Cond := Cond.code yX6_makeCurrent cX6_makeCurrent 2 none :: ([Cond.fieldLink RX6 66 "TimeMachine$Machine" "current" "I", Cond.fieldLink RX6 69 "TimeMachine$Machine" "last" "I"] ++ (u_ws RX6 TX6 20 ++ []))
theorem gd_dm_X6_makeCurrent : ∀ w ∈ ow_dm_X6_makeCurrent, (w.onTables && w.keeps) = true ∨ ∃ ty, w = Cond.arrayClass ty := List.forall_mem_cons.mpr ⟨good_of_word rfl, List.forall_mem_append.mpr ⟨fun w h => good_of_word (List.all_eq_true.mp (by decide +kernel) w h), List.forall_mem_append.mpr ⟨gu_X6, fun _ h => nomatch h⟩⟩⟩
theorem hi_dm_X6_makeCurrent_X6 : ∀ w ∈ u_ws RX6 TX6 20, w ∈ ow_dm_X6_makeCurrent := fun w h => List.mem_cons_of_mem _ (List.mem_append_right _ (List.mem_append_left _ h))
def dj_X6_makeCurrent_14 (p : Program) (l : Launch) (e : Env) (s : State) (m : MethodId) (args : Array Value) (below : List Frame) (meth : Method) (c : Code) (Q : State → Prop) (A : Nat → Prop) (dC : Nat → ClassId) (dI : Nat → Nat → Nat) (a : Nat → Nat) (ac : Nat → ClassId) (g : (St × (St)) → Option (St × (St))) (r : St × (St)) : Prop := ∀ (s0 : St × (St)) (H : Heap) (locs : List Loc) (ls : Array Slot), g s0 = some r → va_P (dC, dI) vwCl (dw_X6 a ac s0) H → va_D A (dw_X6 a ac s0) → va_S A s.heap H locs → lv_has ls 2 [] → W p l e (headSpec ow_dm_X6_makeCurrent ({ frames := 0, cells := 0, slots := 0, locals := 0 })).room s m args below meth c H locs 0 0 Q (F0 m 14 ls [])
def dj_X6_makeCurrent_0 (p : Program) (l : Launch) (e : Env) (s : State) (m : MethodId) (args : Array Value) (below : List Frame) (meth : Method) (c : Code) (Q : State → Prop) (A : Nat → Prop) (dC : Nat → ClassId) (dI : Nat → Nat → Nat) (a : Nat → Nat) (ac : Nat → ClassId) (g : Int32 → (St × (St)) → Option (St × (St))) (r : St × (St)) : Prop := ∀ (v0 : Int32) (s0 : St × (St)) (H : Heap) (locs : List Loc) (ls : Array Slot), g v0 s0 = some r → va_P (dC, dI) vwCl (dw_X6 a ac s0) H → va_D A (dw_X6 a ac s0) → va_S A s.heap H locs → lv_has ls 2 [(0, .ref (a 0)), (1, .int v0)] → W p l e (headSpec ow_dm_X6_makeCurrent ({ frames := 0, cells := 0, slots := 0, locals := 0 })).room s m args below meth c H locs 0 0 Q (F0 m 0 ls [])
set_option maxHeartbeats 40000000 in
set_option maxRecDepth 100000 in
theorem db_X6_makeCurrent_14 {p : Program} {l : Launch} {e : Env} {s : State} {m : MethodId} {args : Array Value} {below : List Frame} {meth : Method} {c : Code} {Q : State → Prop} {A : Nat → Prop} {dC : Nat → ClassId} {dI : Nat → Nat → Nat} {a : Nat → Nat} {ac : Nat → ClassId} {n : Nat} {r : St × (St)} (C : nd_C p l s m args c A (dC, dI) cX6_makeCurrent 2 RX6 ow_dm_X6_makeCurrent (dk_X6 ac)) (K : nd_Kv p l e (headSpec ow_dm_X6_makeCurrent ({ frames := 0, cells := 0, slots := 0, locals := 0 })).room s m args below meth c Q A (dC, dI) cX6_makeCurrent (St × (St)) (dw_X6 a ac) r) : dj_X6_makeCurrent_14 p l e s m args below meth c Q A dC dI a ac (df_X6_makeCurrent_14 n) r := by
  obtain ⟨hlt, hx, hb, hml, hown, hts, hN, hA, hK⟩ := id C
  intro s0 H locs ls h hP hD hS hl
  unfold df_X6_makeCurrent_14 at h
  exact K _ _ _ _ _ dX6_makeCurrent_14 (Option.some.inj h).symm hP hD hS
set_option maxHeartbeats 40000000 in
set_option maxRecDepth 100000 in
theorem db_X6_makeCurrent_0 {p : Program} {l : Launch} {e : Env} {s : State} {m : MethodId} {args : Array Value} {below : List Frame} {meth : Method} {c : Code} {Q : State → Prop} {A : Nat → Prop} {dC : Nat → ClassId} {dI : Nat → Nat → Nat} {a : Nat → Nat} {ac : Nat → ClassId} {n : Nat} {r : St × (St)} (C : nd_C p l s m args c A (dC, dI) cX6_makeCurrent 2 RX6 ow_dm_X6_makeCurrent (dk_X6 ac)) (K : nd_Kv p l e (headSpec ow_dm_X6_makeCurrent ({ frames := 0, cells := 0, slots := 0, locals := 0 })).room s m args below meth c Q A (dC, dI) cX6_makeCurrent (St × (St)) (dw_X6 a ac) r) : dj_X6_makeCurrent_0 p l e s m args below meth c Q A dC dI a ac (df_X6_makeCurrent_0 n) r := by
  obtain ⟨hlt, hx, hb, hml, hown, hts, hN, hA, hK⟩ := id C
  intro v0 s0 H locs ls h hP hD hS hl
  unfold df_X6_makeCurrent_0 at h
  refine lv_aload_n hx hb dX6_makeCurrent_0 rfl (lv_at hl 0 rfl) ?_
  refine lv_iload_n hx hb dX6_makeCurrent_1 rfl (lv_at hl 1 rfl) ?_
  refine va_put (D := (dC, dI)) (ci := 7) (v := .int v0) (ty := .int) (C := RX6) (T := TX6) (N := 20) hx hb hts hi_dm_X6_makeCurrent_X6 tyX6 tyX6_ok nmX6 hown hK hP hD hS 0 rfl rfl 13 (by decide) (hts (.fieldLink RX6 66 "TimeMachine$Machine" "current" "I") (List.mem_of_getElem? (i := 1) rfl)) (fun _ h9 => h9) rfl (by decide +kernel) rfl rfl (Nat.le_of_ble_eq_true rfl) dX6_makeCurrent_2 (fun H locs hP hD hS => ?_)
  obtain ⟨s1, es1, h⟩ := nd_let_e h
  have hP : va_P (dC, dI) vwCl (dw_X6 a ac s1) H := by rw [es1]; exact hP
  have hD : va_D A (dw_X6 a ac s1) := by rw [es1]; exact hD
  refine lv_iload_n hx hb dX6_makeCurrent_5 rfl (lv_at hl 1 rfl) ?_
  refine lv_if_lt (tgt := 14) hx hb dX6_makeCurrent_6 (by decide) (fun c2 => ?_) (fun c2 => ?_)
  · have h := nd_pos h c2
    exact (db_X6_makeCurrent_14 C K)  s1 _ _ _ h hP hD hS (lv_sub hl [] rfl)
  · have h := nd_neg h c2
    refine lv_aload_n hx hb dX6_makeCurrent_9 rfl (lv_at hl 0 rfl) ?_
    refine lv_iload_n hx hb dX6_makeCurrent_10 rfl (lv_at hl 1 rfl) ?_
    refine va_put (D := (dC, dI)) (ci := 7) (v := .int v0) (ty := .int) (C := RX6) (T := TX6) (N := 20) hx hb hts hi_dm_X6_makeCurrent_X6 tyX6 tyX6_ok nmX6 hown hK hP hD hS 0 rfl rfl 14 (by decide) (hts (.fieldLink RX6 69 "TimeMachine$Machine" "last" "I") (List.mem_of_getElem? (i := 2) rfl)) (fun _ h9 => h9) rfl (by decide +kernel) rfl rfl (Nat.le_of_ble_eq_true rfl) dX6_makeCurrent_11 (fun H locs hP hD hS => ?_)
    obtain ⟨s3, es3, h⟩ := nd_let_e h
    have hP : va_P (dC, dI) vwCl (dw_X6 a ac s3) H := by rw [es3]; exact hP
    have hD : va_D A (dw_X6 a ac s3) := by rw [es3]; exact hD
    exact (db_X6_makeCurrent_14 C K)  s3 _ _ _ h hP hD hS (lv_sub hl [] rfl)
set_option maxHeartbeats 40000000 in
set_option maxRecDepth 100000 in
theorem dm_X6_makeCurrent (l : Launch) (hlt : l.stackTraces = false) (dC : Nat → ClassId) (dI : Nat → Nat → Nat) (a : Nat → Nat) (ac : Nat → ClassId) (n : Nat) (v0 : Int32) (s0 : St × (St)) {r : St × (St)} (h : df_X6_makeCurrent n v0 s0 = some r) (sz : Nat) : Met l yX6_makeCurrent ow_dm_X6_makeCurrent ({ frames := 0, cells := 0, slots := 0, locals := 0 }) (va_Pc [.ref (a 0), .int v0] (fun U => U.heap.size = sz ∧ va_P (dC, dI) vwCl (dw_X6 a ac s0) U.heap ∧ va_K (dC, dI) vwCl (dk_X6 ac) U ∧ va_D (fun _ => True) (dw_X6 a ac s0) ∧ nv_E dI (va_A (dw_X6 a ac s0) sz) U)) (va_Qv (fun _ => True) (fun (_ : Unit) t => va_P (dC, dI) vwCl (dw_X6 a ac r) t.heap ∧ va_K (dC, dI) vwCl (dk_X6 ac) t ∧ va_D (va_A (dw_X6 a ac s0) sz) (dw_X6 a ac r)) (va_A (dw_X6 a ac s0) sz)) 0 0 (va_A (dw_X6 a ac s0) sz) := by
  refine Met.ofW (cc := cX6_makeCurrent) (maxL := 2) (ret := none) (by decide) rfl ?_
  intro p e s m args below meth c s₁ B hml hv
  obtain ⟨rfl, hsz, hP, hK, hD0, hN⟩ := hv
  have hx := B.exec
  have hb := B.bytes
  have hr := B.returns
  have hts := atoms_spec (ws := ow_dm_X6_makeCurrent) B.pre
  have hown : s.vm.findClass RX6 = some m.cls := findClass_of_methodNamed B.named
  have hlocks := B.notSynchronized
  subst hsz
  have hD := hD0.self (sz := s.heap.size)
  generalize hAe : va_A (dw_X6 a ac s0) s.heap.size = A at hD hN ⊢
  have hA : ∀ q : Nat, s.heap.size ≤ q → A q := fun q h => by rw [← hAe]; exact Or.inr h
  have hl := lv_entry ([.ref (a 0), .int v0]) (n := 2) (Nat.le_of_ble_eq_true rfl)
  rw [lg_entry_eq]
  generalize (lg_sl ([.ref (a 0), .int v0]) ++ List.replicate (2 - (lg_sl ([.ref (a 0), .int v0])).length) Slot.unset).toArray = ls at hl ⊢
  have hl : lv_has ls 2 [(0, .ref (a 0)), (1, .int v0)] := hl
  exact db_X6_makeCurrent_0 (dC := dC) (dI := dI) (a := a) (ac := ac) (n := n) (r := r) ⟨hlt, hx, hb, hml, hown, hts, hN, hA, hK⟩ (fun pc τ H locs ls d er hP hD hS => by subst er; exact W.vret hx hb hr (fun t ht hW => ⟨⟨(), rfl, trivial, by rw [ht]; exact hP, va_K.moved hW.alike hK, hD⟩, hS.F ht⟩) hS.2.2 d) v0 s0 _ _ _ h hP hD va_S.rf (lv_sub hl [0, 1] rfl)
def ow_dm_X6_status : List Cond := Cond.code yX6_status cX6_status 2 (some .int) :: ([Cond.fieldLink RX6 29 "TimeMachine$Machine" "self" "[I"] ++ (u_ws RX6 TX6 20 ++ []))
theorem gd_dm_X6_status : ∀ w ∈ ow_dm_X6_status, (w.onTables && w.keeps) = true ∨ ∃ ty, w = Cond.arrayClass ty := List.forall_mem_cons.mpr ⟨good_of_word rfl, List.forall_mem_append.mpr ⟨fun w h => good_of_word (List.all_eq_true.mp (by decide +kernel) w h), List.forall_mem_append.mpr ⟨gu_X6, fun _ h => nomatch h⟩⟩⟩
theorem hi_dm_X6_status_X6 : ∀ w ∈ u_ws RX6 TX6 20, w ∈ ow_dm_X6_status := fun w h => List.mem_cons_of_mem _ (List.mem_append_right _ (List.mem_append_left _ h))
def dj_X6_status_0 (p : Program) (l : Launch) (e : Env) (s : State) (m : MethodId) (args : Array Value) (below : List Frame) (meth : Method) (c : Code) (Q : State → Prop) (A : Nat → Prop) (dC : Nat → ClassId) (dI : Nat → Nat → Nat) (a : Nat → Nat) (ac : Nat → ClassId) (g : Int32 → (St × (St)) → Option (Int32 × (St × (St)))) (r : Int32 × (St × (St))) : Prop := ∀ (v0 : Int32) (s0 : St × (St)) (H : Heap) (locs : List Loc) (ls : Array Slot), g v0 s0 = some r → va_P (dC, dI) vwCl (dw_X6 a ac s0) H → va_D A (dw_X6 a ac s0) → va_S A s.heap H locs → lv_has ls 2 [(0, .ref (a 0)), (1, .int v0)] → W p l e (headSpec ow_dm_X6_status ({ frames := 0, cells := 0, slots := 0, locals := 0 })).room s m args below meth c H locs 0 0 Q (F0 m 0 ls [])
set_option maxHeartbeats 40000000 in
set_option maxRecDepth 100000 in
theorem db_X6_status_0 {p : Program} {l : Launch} {e : Env} {s : State} {m : MethodId} {args : Array Value} {below : List Frame} {meth : Method} {c : Code} {Q : State → Prop} {A : Nat → Prop} {dC : Nat → ClassId} {dI : Nat → Nat → Nat} {a : Nat → Nat} {ac : Nat → ClassId} {n : Nat} {r : Int32 × (St × (St))} (C : nd_C p l s m args c A (dC, dI) cX6_status 2 RX6 ow_dm_X6_status (dk_X6 ac)) (K : nd_Ki p l e (headSpec ow_dm_X6_status ({ frames := 0, cells := 0, slots := 0, locals := 0 })).room s m args below meth c Q A (dC, dI) cX6_status .int (St × (St)) (dw_X6 a ac) r) : dj_X6_status_0 p l e s m args below meth c Q A dC dI a ac (df_X6_status_0 n) r := by
  obtain ⟨hlt, hx, hb, hml, hown, hts, hN, hA, hK⟩ := id C
  intro v0 s0 H locs ls h hP hD hS hl
  unfold df_X6_status_0 at h
  refine lv_aload_n hx hb dX6_status_0 rfl (lv_at hl 0 rfl) ?_
  refine va_get (D := (dC, dI)) (ci := 7) (v := .ref (a 7)) (C := RX6) (T := TX6) (N := 20) hx hb hts hi_dm_X6_status_X6 hown hK hP 0 rfl rfl 7 (by decide) (hts (.fieldLink RX6 29 "TimeMachine$Machine" "self" "[I") (List.mem_of_getElem? (i := 1) rfl)) (fun _ h9 => h9) rfl dX6_status_1 ?_
  refine lv_iload_n hx hb dX6_status_4 rfl (lv_at hl 1 rfl) ?_
  refine lv_bipush (v := 7) hx hb dX6_status_5 (by decide) ?_
  refine lv_imul hx hb dX6_status_7 ?_
  refine lv_iconst (v := 0) hx hb dX6_status_8 (by decide) ?_
  refine lv_iadd hx hb dX6_status_9 ?_
  obtain ⟨i1, h⟩ := nd_ck_e h
  refine va_iald (i := ((v0 * 7) + 0)) hx hb hK hP 7 6 rfl rfl i1 dX6_status_10 ?_
  exact K _ _ _ _ _ _ dX6_status_11 rfl (Option.some.inj h).symm hP hD hS
set_option maxHeartbeats 40000000 in
set_option maxRecDepth 100000 in
theorem dm_X6_status (l : Launch) (hlt : l.stackTraces = false) (dC : Nat → ClassId) (dI : Nat → Nat → Nat) (a : Nat → Nat) (ac : Nat → ClassId) (n : Nat) (v0 : Int32) (s0 : St × (St)) {r : Int32 × (St × (St))} (h : df_X6_status n v0 s0 = some r) (sz : Nat) : Met l yX6_status ow_dm_X6_status ({ frames := 0, cells := 0, slots := 0, locals := 0 }) (va_Pc [.ref (a 0), .int v0] (fun U => U.heap.size = sz ∧ va_P (dC, dI) vwCl (dw_X6 a ac s0) U.heap ∧ va_K (dC, dI) vwCl (dk_X6 ac) U ∧ va_D (fun _ => True) (dw_X6 a ac s0) ∧ nv_E dI (va_A (dw_X6 a ac s0) sz) U)) (va_Qi (fun x _ => x = r.1) (fun (_ : Unit) t => va_P (dC, dI) vwCl (dw_X6 a ac r.2) t.heap ∧ va_K (dC, dI) vwCl (dk_X6 ac) t ∧ va_D (va_A (dw_X6 a ac s0) sz) (dw_X6 a ac r.2)) (va_A (dw_X6 a ac s0) sz)) 0 0 (va_A (dw_X6 a ac s0) sz) := by
  refine Met.ofW (cc := cX6_status) (maxL := 2) (ret := (some .int)) (by decide) rfl ?_
  intro p e s m args below meth c s₁ B hml hv
  obtain ⟨rfl, hsz, hP, hK, hD0, hN⟩ := hv
  have hx := B.exec
  have hb := B.bytes
  have hr := B.returns
  have hts := atoms_spec (ws := ow_dm_X6_status) B.pre
  have hown : s.vm.findClass RX6 = some m.cls := findClass_of_methodNamed B.named
  have hlocks := B.notSynchronized
  subst hsz
  have hD := hD0.self (sz := s.heap.size)
  generalize hAe : va_A (dw_X6 a ac s0) s.heap.size = A at hD hN ⊢
  have hA : ∀ q : Nat, s.heap.size ≤ q → A q := fun q h => by rw [← hAe]; exact Or.inr h
  have hl := lv_entry ([.ref (a 0), .int v0]) (n := 2) (Nat.le_of_ble_eq_true rfl)
  rw [lg_entry_eq]
  generalize (lg_sl ([.ref (a 0), .int v0]) ++ List.replicate (2 - (lg_sl ([.ref (a 0), .int v0])).length) Slot.unset).toArray = ls at hl ⊢
  have hl : lv_has ls 2 [(0, .ref (a 0)), (1, .int v0)] := hl
  exact db_X6_status_0 (dC := dC) (dI := dI) (a := a) (ac := ac) (n := n) (r := r) ⟨hlt, hx, hb, hml, hown, hts, hN, hA, hK⟩ (fun pc v τ H locs ls d z er hP hD hS => by subst er; exact W.zret (v := v) hx hb hr z (fun t ht hW => ⟨⟨v, (), rfl, rfl, by rw [ht]; exact hP, va_K.moved hW.alike hK, hD⟩, hS.F ht⟩) hS.2.2 d) v0 s0 _ _ _ h hP hD va_S.rf (lv_sub hl [0, 1] rfl)
def ow_dm_X6_chooseCurrent : List Cond := Cond.code yX6_chooseCurrent cX6_chooseCurrent 1 none :: ([Cond.fieldLink RX6 66 "TimeMachine$Machine" "current" "I", Cond.fieldLink RX6 69 "TimeMachine$Machine" "last" "I", Cond.methodLink RX6 159 yX6_nextReady, Cond.instanceMethod yX6_nextReady, Cond.selects RX6 yX6_nextReady yX6_nextReady, Cond.initialized RX6, Cond.methodLink RX6 162 yX6_makeCurrent, Cond.instanceMethod yX6_makeCurrent, Cond.selects RX6 yX6_makeCurrent yX6_makeCurrent, Cond.methodLink RX6 156 yX6_status, Cond.instanceMethod yX6_status, Cond.selects RX6 yX6_status yX6_status] ++ (u_ws RX6 TX6 20 ++ (ow_dm_X6_nextReady ++ (ow_dm_X6_makeCurrent ++ (ow_dm_X6_status ++ [])))))
theorem gd_dm_X6_chooseCurrent : ∀ w ∈ ow_dm_X6_chooseCurrent, (w.onTables && w.keeps) = true ∨ ∃ ty, w = Cond.arrayClass ty := List.forall_mem_cons.mpr ⟨good_of_word rfl, List.forall_mem_append.mpr ⟨fun w h => good_of_word (List.all_eq_true.mp (by decide +kernel) w h), List.forall_mem_append.mpr ⟨gu_X6, List.forall_mem_append.mpr ⟨gd_dm_X6_nextReady, List.forall_mem_append.mpr ⟨gd_dm_X6_makeCurrent, List.forall_mem_append.mpr ⟨gd_dm_X6_status, fun _ h => nomatch h⟩⟩⟩⟩⟩⟩
theorem hi_dm_X6_chooseCurrent_X6 : ∀ w ∈ u_ws RX6 TX6 20, w ∈ ow_dm_X6_chooseCurrent := fun w h => List.mem_cons_of_mem _ (List.mem_append_right _ (List.mem_append_left _ h))
theorem gi_dm_X6_chooseCurrent_0 : GoodIn ow_dm_X6_chooseCurrent (wsV RX6 159 RX6 yX6_nextReady ow_dm_X6_nextReady) := goodIn_app (goodIn_of _ (by decide +kernel)) (fun w h => ⟨List.mem_cons_of_mem _ (List.mem_append_right _ (List.mem_append_right _ (List.mem_append_left _ h))), gd_dm_X6_nextReady w h⟩)
theorem gi_dm_X6_chooseCurrent_1 : GoodIn ow_dm_X6_chooseCurrent (wsV RX6 162 RX6 yX6_makeCurrent ow_dm_X6_makeCurrent) := goodIn_app (goodIn_of _ (by decide +kernel)) (fun w h => ⟨List.mem_cons_of_mem _ (List.mem_append_right _ (List.mem_append_right _ (List.mem_append_right _ (List.mem_append_left _ h)))), gd_dm_X6_makeCurrent w h⟩)
theorem gi_dm_X6_chooseCurrent_2 : GoodIn ow_dm_X6_chooseCurrent (wsV RX6 156 RX6 yX6_status ow_dm_X6_status) := goodIn_app (goodIn_of _ (by decide +kernel)) (fun w h => ⟨List.mem_cons_of_mem _ (List.mem_append_right _ (List.mem_append_right _ (List.mem_append_right _ (List.mem_append_right _ (List.mem_append_left _ h))))), gd_dm_X6_status w h⟩)
def dj_X6_chooseCurrent_34 (p : Program) (l : Launch) (e : Env) (s : State) (m : MethodId) (args : Array Value) (below : List Frame) (meth : Method) (c : Code) (Q : State → Prop) (A : Nat → Prop) (dC : Nat → ClassId) (dI : Nat → Nat → Nat) (a : Nat → Nat) (ac : Nat → ClassId) (g : (St × (St)) → Option (St × (St))) (r : St × (St)) : Prop := ∀ (s0 : St × (St)) (H : Heap) (locs : List Loc) (ls : Array Slot), g s0 = some r → va_P (dC, dI) vwCl (dw_X6 a ac s0) H → va_D A (dw_X6 a ac s0) → va_S A s.heap H locs → lv_has ls 1 [] → W p l e (headSpec ow_dm_X6_chooseCurrent ({ frames := 1, cells := 0, slots := 0, locals := 23 })).room s m args below meth c H locs 0 0 Q (F0 m 34 ls [])
def dj_X6_chooseCurrent_22 (p : Program) (l : Launch) (e : Env) (s : State) (m : MethodId) (args : Array Value) (below : List Frame) (meth : Method) (c : Code) (Q : State → Prop) (A : Nat → Prop) (dC : Nat → ClassId) (dI : Nat → Nat → Nat) (a : Nat → Nat) (ac : Nat → ClassId) (g : (St × (St)) → Option (St × (St))) (r : St × (St)) : Prop := ∀ (s0 : St × (St)) (H : Heap) (locs : List Loc) (ls : Array Slot), g s0 = some r → va_P (dC, dI) vwCl (dw_X6 a ac s0) H → va_D A (dw_X6 a ac s0) → va_S A s.heap H locs → lv_has ls 1 [(0, .ref (a 0))] → W p l e (headSpec ow_dm_X6_chooseCurrent ({ frames := 1, cells := 0, slots := 0, locals := 23 })).room s m args below meth c H locs 0 0 Q (F0 m 22 ls [])
def dj_X6_chooseCurrent_0 (p : Program) (l : Launch) (e : Env) (s : State) (m : MethodId) (args : Array Value) (below : List Frame) (meth : Method) (c : Code) (Q : State → Prop) (A : Nat → Prop) (dC : Nat → ClassId) (dI : Nat → Nat → Nat) (a : Nat → Nat) (ac : Nat → ClassId) (g : (St × (St)) → Option (St × (St))) (r : St × (St)) : Prop := ∀ (s0 : St × (St)) (H : Heap) (locs : List Loc) (ls : Array Slot), g s0 = some r → va_P (dC, dI) vwCl (dw_X6 a ac s0) H → va_D A (dw_X6 a ac s0) → va_S A s.heap H locs → lv_has ls 1 [(0, .ref (a 0))] → W p l e (headSpec ow_dm_X6_chooseCurrent ({ frames := 1, cells := 0, slots := 0, locals := 23 })).room s m args below meth c H locs 0 0 Q (F0 m 0 ls [])
set_option maxHeartbeats 40000000 in
set_option maxRecDepth 100000 in
theorem db_X6_chooseCurrent_34 {p : Program} {l : Launch} {e : Env} {s : State} {m : MethodId} {args : Array Value} {below : List Frame} {meth : Method} {c : Code} {Q : State → Prop} {A : Nat → Prop} {dC : Nat → ClassId} {dI : Nat → Nat → Nat} {a : Nat → Nat} {ac : Nat → ClassId} {n : Nat} {r : St × (St)} (C : nd_C p l s m args c A (dC, dI) cX6_chooseCurrent 1 RX6 ow_dm_X6_chooseCurrent (dk_X6 ac)) (K : nd_Kv p l e (headSpec ow_dm_X6_chooseCurrent ({ frames := 1, cells := 0, slots := 0, locals := 23 })).room s m args below meth c Q A (dC, dI) cX6_chooseCurrent (St × (St)) (dw_X6 a ac) r) : dj_X6_chooseCurrent_34 p l e s m args below meth c Q A dC dI a ac (df_X6_chooseCurrent_34 n) r := by
  obtain ⟨hlt, hx, hb, hml, hown, hts, hN, hA, hK⟩ := id C
  intro s0 H locs ls h hP hD hS hl
  unfold df_X6_chooseCurrent_34 at h
  exact K _ _ _ _ _ dX6_chooseCurrent_34 (Option.some.inj h).symm hP hD hS
set_option maxHeartbeats 40000000 in
set_option maxRecDepth 100000 in
theorem db_X6_chooseCurrent_22 {p : Program} {l : Launch} {e : Env} {s : State} {m : MethodId} {args : Array Value} {below : List Frame} {meth : Method} {c : Code} {Q : State → Prop} {A : Nat → Prop} {dC : Nat → ClassId} {dI : Nat → Nat → Nat} {a : Nat → Nat} {ac : Nat → ClassId} {n : Nat} {r : St × (St)} (C : nd_C p l s m args c A (dC, dI) cX6_chooseCurrent 1 RX6 ow_dm_X6_chooseCurrent (dk_X6 ac)) (K : nd_Kv p l e (headSpec ow_dm_X6_chooseCurrent ({ frames := 1, cells := 0, slots := 0, locals := 23 })).room s m args below meth c Q A (dC, dI) cX6_chooseCurrent (St × (St)) (dw_X6 a ac) r) : dj_X6_chooseCurrent_22 p l e s m args below meth c Q A dC dI a ac (df_X6_chooseCurrent_22 n) r := by
  obtain ⟨hlt, hx, hb, hml, hown, hts, hN, hA, hK⟩ := id C
  intro s0 H locs ls h hP hD hS hl
  unfold df_X6_chooseCurrent_22 at h
  refine lv_aload_n hx hb dX6_chooseCurrent_22 rfl (lv_at hl 0 rfl) ?_
  refine lv_aload_n hx hb dX6_chooseCurrent_23 rfl (lv_at hl 0 rfl) ?_
  refine lv_aload_n hx hb dX6_chooseCurrent_24 rfl (lv_at hl 0 rfl) ?_
  refine va_get (D := (dC, dI)) (ci := 7) (v := .int (sI s0.1 4)) (C := RX6) (T := TX6) (N := 20) hx hb hts hi_dm_X6_chooseCurrent_X6 hown hK hP 0 rfl rfl 14 (by decide) (hts (.fieldLink RX6 69 "TimeMachine$Machine" "last" "I") (List.mem_of_getElem? (i := 2) rfl)) (fun _ h9 => h9) rfl dX6_chooseCurrent_25 ?_
  obtain ⟨q2, s3, hq, h⟩ := nd_b2_e h
  have hPc := hP
  have hDc := hD
  have hKc := hK
  have hFc := nd_rs hD hS hA
  refine nd_cVi (As := [.int (sI s0.1 4)]) (rest := [.ref (a 0)]) (q := q2) (w' := dw_X6 a ac s3) ⟨hx, hb, hml, hown, hts⟩ (fun sz => dm_X6_nextReady l hlt dC dI a ac n ((sI s0.1 4)) s0 hq sz) (cwV 1 hts gi_dm_X6_chooseCurrent_0 rfl rfl rfl (by decide +kernel) ⟨Nat.le_of_ble_eq_true rfl, Nat.le_of_ble_eq_true rfl⟩) hPc hDc hKc hS hA hN (va_recv hKc hPc (ci := 7) (q0 := 0) rfl rfl) rfl hl.1 rfl (Nat.le_of_ble_eq_true rfl) dX6_chooseCurrent_28 (fun H locs hP1 hD1 hk1 hS => ?_)
  have hP := hP1
  have hD := hD1.weaken (fun k q _ h => hFc q.1 h)
  obtain ⟨s6, hq, h⟩ := nd_b1_e h
  have hPc := hP
  have hDc := hD
  have hKc := hK
  have hFc := nd_rs hD hS hA
  refine nd_cVv (As := [.int q2]) (rest := []) (w' := dw_X6 a ac s6) ⟨hx, hb, hml, hown, hts⟩ (fun sz => dm_X6_makeCurrent l hlt dC dI a ac n (q2) s3 hq sz) (cwV 1 hts gi_dm_X6_chooseCurrent_1 rfl rfl rfl (by decide +kernel) ⟨Nat.le_of_ble_eq_true rfl, Nat.le_of_ble_eq_true rfl⟩) hPc hDc hKc hS hA hN (va_recv hKc hPc (ci := 7) (q0 := 0) rfl rfl) rfl hl.1 rfl (Nat.le_of_ble_eq_true rfl) dX6_chooseCurrent_31 (fun H locs hP1 hD1 hk1 hS => ?_)
  have hP := hP1
  have hD := hD1.weaken (fun k q _ h => hFc q.1 h)
  exact (db_X6_chooseCurrent_34 C K)  s6 _ _ _ h hP hD hS (lv_sub hl [] rfl)
set_option maxHeartbeats 40000000 in
set_option maxRecDepth 100000 in
theorem db_X6_chooseCurrent_0 {p : Program} {l : Launch} {e : Env} {s : State} {m : MethodId} {args : Array Value} {below : List Frame} {meth : Method} {c : Code} {Q : State → Prop} {A : Nat → Prop} {dC : Nat → ClassId} {dI : Nat → Nat → Nat} {a : Nat → Nat} {ac : Nat → ClassId} {n : Nat} {r : St × (St)} (C : nd_C p l s m args c A (dC, dI) cX6_chooseCurrent 1 RX6 ow_dm_X6_chooseCurrent (dk_X6 ac)) (K : nd_Kv p l e (headSpec ow_dm_X6_chooseCurrent ({ frames := 1, cells := 0, slots := 0, locals := 23 })).room s m args below meth c Q A (dC, dI) cX6_chooseCurrent (St × (St)) (dw_X6 a ac) r) : dj_X6_chooseCurrent_0 p l e s m args below meth c Q A dC dI a ac (df_X6_chooseCurrent_0 n) r := by
  obtain ⟨hlt, hx, hb, hml, hown, hts, hN, hA, hK⟩ := id C
  intro s0 H locs ls h hP hD hS hl
  unfold df_X6_chooseCurrent_0 at h
  refine lv_aload_n hx hb dX6_chooseCurrent_0 rfl (lv_at hl 0 rfl) ?_
  refine va_get (D := (dC, dI)) (ci := 7) (v := .int (sI s0.1 3)) (C := RX6) (T := TX6) (N := 20) hx hb hts hi_dm_X6_chooseCurrent_X6 hown hK hP 0 rfl rfl 13 (by decide) (hts (.fieldLink RX6 66 "TimeMachine$Machine" "current" "I") (List.mem_of_getElem? (i := 1) rfl)) (fun _ h9 => h9) rfl dX6_chooseCurrent_1 ?_
  refine lv_if_lt (tgt := 22) hx hb dX6_chooseCurrent_4 (by decide) (fun c1 => ?_) (fun c1 => ?_)
  · have h := nd_pos h c1
    exact (db_X6_chooseCurrent_22 C K)  s0 _ _ _ h hP hD hS (lv_sub hl [0] rfl)
  · have h := nd_neg h c1
    refine lv_aload_n hx hb dX6_chooseCurrent_7 rfl (lv_at hl 0 rfl) ?_
    refine lv_aload_n hx hb dX6_chooseCurrent_8 rfl (lv_at hl 0 rfl) ?_
    refine va_get (D := (dC, dI)) (ci := 7) (v := .int (sI s0.1 3)) (C := RX6) (T := TX6) (N := 20) hx hb hts hi_dm_X6_chooseCurrent_X6 hown hK hP 0 rfl rfl 13 (by decide) (hts (.fieldLink RX6 66 "TimeMachine$Machine" "current" "I") (List.mem_of_getElem? (i := 1) rfl)) (fun _ h9 => h9) rfl dX6_chooseCurrent_9 ?_
    refine lv_bipush (v := 15) hx hb dX6_chooseCurrent_12 (by decide) ?_
    refine lv_iand hx hb dX6_chooseCurrent_14 ?_
    obtain ⟨q8, s9, hq, h⟩ := nd_b2_e h
    have hPc := hP
    have hDc := hD
    have hKc := hK
    have hFc := nd_rs hD hS hA
    refine nd_cVi (As := [.int ((sI s0.1 3) &&& 15)]) (rest := []) (q := q8) (w' := dw_X6 a ac s9) ⟨hx, hb, hml, hown, hts⟩ (fun sz => dm_X6_status l hlt dC dI a ac n (((sI s0.1 3) &&& 15)) s0 hq sz) (cwV 1 hts gi_dm_X6_chooseCurrent_2 rfl rfl rfl (by decide +kernel) ⟨Nat.le_of_ble_eq_true rfl, Nat.le_of_ble_eq_true rfl⟩) hPc hDc hKc hS hA hN (va_recv hKc hPc (ci := 7) (q0 := 0) rfl rfl) rfl hl.1 rfl (Nat.le_of_ble_eq_true rfl) dX6_chooseCurrent_15 (fun H locs hP1 hD1 hk1 hS => ?_)
    have hP := hP1
    have hD := hD1.weaken (fun k q _ h => hFc q.1 h)
    refine lv_iconst (v := 1) hx hb dX6_chooseCurrent_18 (by decide) ?_
    refine lv_icmp_eq (tgt := 34) hx hb dX6_chooseCurrent_19 (by decide) (fun c11 => ?_) (fun c11 => ?_)
    · have h := nd_pos h c11
      exact (db_X6_chooseCurrent_34 C K)  s9 _ _ _ h hP hD hS (lv_sub hl [] rfl)
    · have h := nd_neg h c11
      exact (db_X6_chooseCurrent_22 C K)  s9 _ _ _ h hP hD hS (lv_sub hl [0] rfl)
set_option maxHeartbeats 40000000 in
set_option maxRecDepth 100000 in
theorem dm_X6_chooseCurrent (l : Launch) (hlt : l.stackTraces = false) (dC : Nat → ClassId) (dI : Nat → Nat → Nat) (a : Nat → Nat) (ac : Nat → ClassId) (n : Nat) (s0 : St × (St)) {r : St × (St)} (h : df_X6_chooseCurrent n s0 = some r) (sz : Nat) : Met l yX6_chooseCurrent ow_dm_X6_chooseCurrent ({ frames := 1, cells := 0, slots := 0, locals := 23 }) (va_Pc [.ref (a 0)] (fun U => U.heap.size = sz ∧ va_P (dC, dI) vwCl (dw_X6 a ac s0) U.heap ∧ va_K (dC, dI) vwCl (dk_X6 ac) U ∧ va_D (fun _ => True) (dw_X6 a ac s0) ∧ nv_E dI (va_A (dw_X6 a ac s0) sz) U)) (va_Qv (fun _ => True) (fun (_ : Unit) t => va_P (dC, dI) vwCl (dw_X6 a ac r) t.heap ∧ va_K (dC, dI) vwCl (dk_X6 ac) t ∧ va_D (va_A (dw_X6 a ac s0) sz) (dw_X6 a ac r)) (va_A (dw_X6 a ac s0) sz)) 0 0 (va_A (dw_X6 a ac s0) sz) := by
  refine Met.ofW (cc := cX6_chooseCurrent) (maxL := 1) (ret := none) (by decide) rfl ?_
  intro p e s m args below meth c s₁ B hml hv
  obtain ⟨rfl, hsz, hP, hK, hD0, hN⟩ := hv
  have hx := B.exec
  have hb := B.bytes
  have hr := B.returns
  have hts := atoms_spec (ws := ow_dm_X6_chooseCurrent) B.pre
  have hown : s.vm.findClass RX6 = some m.cls := findClass_of_methodNamed B.named
  have hlocks := B.notSynchronized
  subst hsz
  have hD := hD0.self (sz := s.heap.size)
  generalize hAe : va_A (dw_X6 a ac s0) s.heap.size = A at hD hN ⊢
  have hA : ∀ q : Nat, s.heap.size ≤ q → A q := fun q h => by rw [← hAe]; exact Or.inr h
  have hl := lv_entry ([.ref (a 0)]) (n := 1) (Nat.le_of_ble_eq_true rfl)
  rw [lg_entry_eq]
  generalize (lg_sl ([.ref (a 0)]) ++ List.replicate (1 - (lg_sl ([.ref (a 0)])).length) Slot.unset).toArray = ls at hl ⊢
  have hl : lv_has ls 1 [(0, .ref (a 0))] := hl
  exact db_X6_chooseCurrent_0 (dC := dC) (dI := dI) (a := a) (ac := ac) (n := n) (r := r) ⟨hlt, hx, hb, hml, hown, hts, hN, hA, hK⟩ (fun pc τ H locs ls d er hP hD hS => by subst er; exact W.vret hx hb hr (fun t ht hW => ⟨⟨(), rfl, trivial, by rw [ht]; exact hP, va_K.moved hW.alike hK, hD⟩, hS.F ht⟩) hS.2.2 d) s0 _ _ _ h hP hD va_S.rf (lv_sub hl [0] rfl)
def ow_dm_X6_makeAbsent : List Cond := Cond.code yX6_makeAbsent cX6_makeAbsent 3 none :: ([Cond.fieldLink RX6 29 "TimeMachine$Machine" "self" "[I"] ++ (u_ws RX6 TX6 20 ++ []))
theorem gd_dm_X6_makeAbsent : ∀ w ∈ ow_dm_X6_makeAbsent, (w.onTables && w.keeps) = true ∨ ∃ ty, w = Cond.arrayClass ty := List.forall_mem_cons.mpr ⟨good_of_word rfl, List.forall_mem_append.mpr ⟨fun w h => good_of_word (List.all_eq_true.mp (by decide +kernel) w h), List.forall_mem_append.mpr ⟨gu_X6, fun _ h => nomatch h⟩⟩⟩
theorem hi_dm_X6_makeAbsent_X6 : ∀ w ∈ u_ws RX6 TX6 20, w ∈ ow_dm_X6_makeAbsent := fun w h => List.mem_cons_of_mem _ (List.mem_append_right _ (List.mem_append_left _ h))
def dj_X6_makeAbsent_28 (p : Program) (l : Launch) (e : Env) (s : State) (m : MethodId) (args : Array Value) (below : List Frame) (meth : Method) (c : Code) (Q : State → Prop) (A : Nat → Prop) (dC : Nat → ClassId) (dI : Nat → Nat → Nat) (a : Nat → Nat) (ac : Nat → ClassId) (g : Int32 → Int32 → Int32 → Int32 → (St × (St)) → Option (St × (St))) (r : St × (St)) : Prop := ∀ (x1 : Int32) (x2 : Int32) (y1 : Int32) (y2 : Int32) (s0 : St × (St)) (H : Heap) (locs : List Loc) (ls : Array Slot), g x1 x2 y1 y2 s0 = some r → va_P (dC, dI) vwCl (dw_X6 a ac s0) H → va_D A (dw_X6 a ac s0) → va_S A s.heap H locs → lv_has ls 3 [(0, .ref (a 0)), (1, .int x1), (2, .int x2)] → W p l e (headSpec ow_dm_X6_makeAbsent ({ frames := 0, cells := 0, slots := 0, locals := 0 })).room s m args below meth c H locs 0 0 Q (F0 m 28 ls [.int y2, .int y1, .ref (a 7)])
def dj_X6_makeAbsent_2 (p : Program) (l : Launch) (e : Env) (s : State) (m : MethodId) (args : Array Value) (below : List Frame) (meth : Method) (c : Code) (Q : State → Prop) (A : Nat → Prop) (dC : Nat → ClassId) (dI : Nat → Nat → Nat) (a : Nat → Nat) (ac : Nat → ClassId) (g : Int32 → Int32 → (St × (St)) → Option (St × (St))) (r : St × (St)) : Prop := ∀ (x1 : Int32) (x2 : Int32) (s0 : St × (St)) (H : Heap) (locs : List Loc) (ls : Array Slot), g x1 x2 s0 = some r → va_P (dC, dI) vwCl (dw_X6 a ac s0) H → va_D A (dw_X6 a ac s0) → va_S A s.heap H locs → lv_has ls 3 [(0, .ref (a 0)), (1, .int x1), (2, .int x2)] → W p l e (headSpec ow_dm_X6_makeAbsent ({ frames := 0, cells := 0, slots := 0, locals := 0 })).room s m args below meth c H locs 0 0 Q (F0 m 2 ls [])
def dj_X6_makeAbsent_0 (p : Program) (l : Launch) (e : Env) (s : State) (m : MethodId) (args : Array Value) (below : List Frame) (meth : Method) (c : Code) (Q : State → Prop) (A : Nat → Prop) (dC : Nat → ClassId) (dI : Nat → Nat → Nat) (a : Nat → Nat) (ac : Nat → ClassId) (g : Int32 → (St × (St)) → Option (St × (St))) (r : St × (St)) : Prop := ∀ (v0 : Int32) (s0 : St × (St)) (H : Heap) (locs : List Loc) (ls : Array Slot), g v0 s0 = some r → va_P (dC, dI) vwCl (dw_X6 a ac s0) H → va_D A (dw_X6 a ac s0) → va_S A s.heap H locs → lv_has ls 3 [(0, .ref (a 0)), (1, .int v0)] → W p l e (headSpec ow_dm_X6_makeAbsent ({ frames := 0, cells := 0, slots := 0, locals := 0 })).room s m args below meth c H locs 0 0 Q (F0 m 0 ls [])
set_option maxHeartbeats 40000000 in
set_option maxRecDepth 100000 in
theorem db_X6_makeAbsent_28 {p : Program} {l : Launch} {e : Env} {s : State} {m : MethodId} {args : Array Value} {below : List Frame} {meth : Method} {c : Code} {Q : State → Prop} {A : Nat → Prop} {dC : Nat → ClassId} {dI : Nat → Nat → Nat} {a : Nat → Nat} {ac : Nat → ClassId} {n : Nat} {r : St × (St)} (C : nd_C p l s m args c A (dC, dI) cX6_makeAbsent 3 RX6 ow_dm_X6_makeAbsent (dk_X6 ac)) (K : nd_Kv p l e (headSpec ow_dm_X6_makeAbsent ({ frames := 0, cells := 0, slots := 0, locals := 0 })).room s m args below meth c Q A (dC, dI) cX6_makeAbsent (St × (St)) (dw_X6 a ac) r) {g2 : Int32 → Int32 → (St × (St)) → Option (St × (St))} (J2 : dj_X6_makeAbsent_2 p l e s m args below meth c Q A dC dI a ac g2 r) : dj_X6_makeAbsent_28 p l e s m args below meth c Q A dC dI a ac (df_X6_makeAbsent_28 n g2) r := by
  obtain ⟨hlt, hx, hb, hml, hown, hts, hN, hA, hK⟩ := id C
  intro x1 x2 y1 y2 s0 H locs ls h hP hD hS hl
  unfold df_X6_makeAbsent_28 at h
  obtain ⟨i3, h⟩ := nd_ck_e h
  refine va_iast (i := y1) (x := y2) hx hb hK hP hD hS 7 6 rfl rfl i3 dX6_makeAbsent_28 (fun H locs hP hD hS => ?_)
  obtain ⟨s4, es4, h⟩ := nd_let_e h
  have hP : va_P (dC, dI) vwCl (dw_X6 a ac s4) H := by rw [es4]; exact hP
  have hD : va_D A (dw_X6 a ac s4) := by rw [es4]; exact hD
  obtain ⟨z5, ez5, h⟩ := nd_let_e h
  refine lv_iinc (v := z5) (lv' := [(2, .int z5), (0, .ref (a 0)), (1, .int x1)]) hx hb dX6_makeAbsent_29 hl (k := 2) rfl (by rw [ez5]) (by decide) rfl (fun ls hl => ?_)
  refine lv_goto (tgt := 2) hx hb dX6_makeAbsent_32 (by decide) ?_
  exact (J2) (x1) (z5) s4 _ _ _ h hP hD hS (lv_sub hl [1, 2, 0] rfl)
set_option maxHeartbeats 40000000 in
set_option maxRecDepth 100000 in
theorem dB_X6_makeAbsent_2 {p : Program} {l : Launch} {e : Env} {s : State} {m : MethodId} {args : Array Value} {below : List Frame} {meth : Method} {c : Code} {Q : State → Prop} {A : Nat → Prop} {dC : Nat → ClassId} {dI : Nat → Nat → Nat} {a : Nat → Nat} {ac : Nat → ClassId} {n : Nat} {r : St × (St)} (C : nd_C p l s m args c A (dC, dI) cX6_makeAbsent 3 RX6 ow_dm_X6_makeAbsent (dk_X6 ac)) (K : nd_Kv p l e (headSpec ow_dm_X6_makeAbsent ({ frames := 0, cells := 0, slots := 0, locals := 0 })).room s m args below meth c Q A (dC, dI) cX6_makeAbsent (St × (St)) (dw_X6 a ac) r) {g2 : Int32 → Int32 → (St × (St)) → Option (St × (St))} (J2 : dj_X6_makeAbsent_2 p l e s m args below meth c Q A dC dI a ac g2 r) : dj_X6_makeAbsent_2 p l e s m args below meth c Q A dC dI a ac (dF_X6_makeAbsent_2 n g2) r := by
  obtain ⟨hlt, hx, hb, hml, hown, hts, hN, hA, hK⟩ := id C
  intro x1 x2 s0 H locs ls h hP hD hS hl
  unfold dF_X6_makeAbsent_2 at h
  refine lv_iload_n hx hb dX6_makeAbsent_2 rfl (lv_at hl 2 rfl) ?_
  refine lv_bipush (v := 7) hx hb dX6_makeAbsent_3 (by decide) ?_
  refine lv_icmp_ge (tgt := 35) hx hb dX6_makeAbsent_5 (by decide) (fun c1 => ?_) (fun c1 => ?_)
  · have h := nd_pos h c1
    exact K _ _ _ _ _ dX6_makeAbsent_35 (Option.some.inj h).symm hP hD hS
  · have h := nd_neg h c1
    refine lv_aload_n hx hb dX6_makeAbsent_8 rfl (lv_at hl 0 rfl) ?_
    refine va_get (D := (dC, dI)) (ci := 7) (v := .ref (a 7)) (C := RX6) (T := TX6) (N := 20) hx hb hts hi_dm_X6_makeAbsent_X6 hown hK hP 0 rfl rfl 7 (by decide) (hts (.fieldLink RX6 29 "TimeMachine$Machine" "self" "[I") (List.mem_of_getElem? (i := 1) rfl)) (fun _ h9 => h9) rfl dX6_makeAbsent_9 ?_
    refine lv_iload_n hx hb dX6_makeAbsent_12 rfl (lv_at hl 1 rfl) ?_
    refine lv_bipush (v := 7) hx hb dX6_makeAbsent_13 (by decide) ?_
    refine lv_imul hx hb dX6_makeAbsent_15 ?_
    refine lv_iload_n hx hb dX6_makeAbsent_16 rfl (lv_at hl 2 rfl) ?_
    refine lv_iadd hx hb dX6_makeAbsent_17 ?_
    refine lv_iload_n hx hb dX6_makeAbsent_18 rfl (lv_at hl 2 rfl) ?_
    refine lv_iconst (v := 1) hx hb dX6_makeAbsent_19 (by decide) ?_
    refine lv_icmp_ne (tgt := 27) hx hb dX6_makeAbsent_20 (by decide) (fun c2 => ?_) (fun c2 => ?_)
    · have h := nd_neg h c2
      refine lv_iconst (v := 0) hx hb dX6_makeAbsent_27 (by decide) ?_
      exact (db_X6_makeAbsent_28 C K J2) (x1) (x2) (((x1 * 7) + x2)) (0) s0 _ _ _ h hP hD hS (lv_sub hl [0, 1, 2] rfl)
    · have h := nd_pos h c2
      refine lv_iconst (v := (-1)) hx hb dX6_makeAbsent_23 (by decide) ?_
      refine lv_goto (tgt := 28) hx hb dX6_makeAbsent_24 (by decide) ?_
      exact (db_X6_makeAbsent_28 C K J2) (x1) (x2) (((x1 * 7) + x2)) ((-1)) s0 _ _ _ h hP hD hS (lv_sub hl [0, 1, 2] rfl)
set_option maxHeartbeats 40000000 in
set_option maxRecDepth 100000 in
theorem db_X6_makeAbsent_2 {p : Program} {l : Launch} {e : Env} {s : State} {m : MethodId} {args : Array Value} {below : List Frame} {meth : Method} {c : Code} {Q : State → Prop} {A : Nat → Prop} {dC : Nat → ClassId} {dI : Nat → Nat → Nat} {a : Nat → Nat} {ac : Nat → ClassId} {n : Nat} {r : St × (St)} (C : nd_C p l s m args c A (dC, dI) cX6_makeAbsent 3 RX6 ow_dm_X6_makeAbsent (dk_X6 ac)) (K : nd_Kv p l e (headSpec ow_dm_X6_makeAbsent ({ frames := 0, cells := 0, slots := 0, locals := 0 })).room s m args below meth c Q A (dC, dI) cX6_makeAbsent (St × (St)) (dw_X6 a ac) r) (k : Nat) : dj_X6_makeAbsent_2 p l e s m args below meth c Q A dC dI a ac (df_X6_makeAbsent_2 n k) r := by
  induction k with
  | zero => intro x1 x2 s0 H locs ls h; exact nomatch (show (none : Option (St × (St))) = some r from h)
  | succ k ih => exact dB_X6_makeAbsent_2 C K ih
set_option maxHeartbeats 40000000 in
set_option maxRecDepth 100000 in
theorem db_X6_makeAbsent_0 {p : Program} {l : Launch} {e : Env} {s : State} {m : MethodId} {args : Array Value} {below : List Frame} {meth : Method} {c : Code} {Q : State → Prop} {A : Nat → Prop} {dC : Nat → ClassId} {dI : Nat → Nat → Nat} {a : Nat → Nat} {ac : Nat → ClassId} {n : Nat} {r : St × (St)} (C : nd_C p l s m args c A (dC, dI) cX6_makeAbsent 3 RX6 ow_dm_X6_makeAbsent (dk_X6 ac)) (K : nd_Kv p l e (headSpec ow_dm_X6_makeAbsent ({ frames := 0, cells := 0, slots := 0, locals := 0 })).room s m args below meth c Q A (dC, dI) cX6_makeAbsent (St × (St)) (dw_X6 a ac) r) : dj_X6_makeAbsent_0 p l e s m args below meth c Q A dC dI a ac (df_X6_makeAbsent_0 n) r := by
  obtain ⟨hlt, hx, hb, hml, hown, hts, hN, hA, hK⟩ := id C
  intro v0 s0 H locs ls h hP hD hS hl
  unfold df_X6_makeAbsent_0 at h
  refine lv_iconst (v := 0) hx hb dX6_makeAbsent_0 (by decide) ?_
  refine lv_istore_n (lv' := [(2, .int 0), (0, .ref (a 0)), (1, .int v0)]) hx hb dX6_makeAbsent_1 rfl hl (by decide) rfl (fun ls hl => ?_)
  exact (db_X6_makeAbsent_2 C K n) (v0) (0) s0 _ _ _ h hP hD hS (lv_sub hl [1, 2, 0] rfl)
set_option maxHeartbeats 40000000 in
set_option maxRecDepth 100000 in
theorem dm_X6_makeAbsent (l : Launch) (hlt : l.stackTraces = false) (dC : Nat → ClassId) (dI : Nat → Nat → Nat) (a : Nat → Nat) (ac : Nat → ClassId) (n : Nat) (v0 : Int32) (s0 : St × (St)) {r : St × (St)} (h : df_X6_makeAbsent n v0 s0 = some r) (sz : Nat) : Met l yX6_makeAbsent ow_dm_X6_makeAbsent ({ frames := 0, cells := 0, slots := 0, locals := 0 }) (va_Pc [.ref (a 0), .int v0] (fun U => U.heap.size = sz ∧ va_P (dC, dI) vwCl (dw_X6 a ac s0) U.heap ∧ va_K (dC, dI) vwCl (dk_X6 ac) U ∧ va_D (fun _ => True) (dw_X6 a ac s0) ∧ nv_E dI (va_A (dw_X6 a ac s0) sz) U)) (va_Qv (fun _ => True) (fun (_ : Unit) t => va_P (dC, dI) vwCl (dw_X6 a ac r) t.heap ∧ va_K (dC, dI) vwCl (dk_X6 ac) t ∧ va_D (va_A (dw_X6 a ac s0) sz) (dw_X6 a ac r)) (va_A (dw_X6 a ac s0) sz)) 0 0 (va_A (dw_X6 a ac s0) sz) := by
  refine Met.ofW (cc := cX6_makeAbsent) (maxL := 3) (ret := none) (by decide) rfl ?_
  intro p e s m args below meth c s₁ B hml hv
  obtain ⟨rfl, hsz, hP, hK, hD0, hN⟩ := hv
  have hx := B.exec
  have hb := B.bytes
  have hr := B.returns
  have hts := atoms_spec (ws := ow_dm_X6_makeAbsent) B.pre
  have hown : s.vm.findClass RX6 = some m.cls := findClass_of_methodNamed B.named
  have hlocks := B.notSynchronized
  subst hsz
  have hD := hD0.self (sz := s.heap.size)
  generalize hAe : va_A (dw_X6 a ac s0) s.heap.size = A at hD hN ⊢
  have hA : ∀ q : Nat, s.heap.size ≤ q → A q := fun q h => by rw [← hAe]; exact Or.inr h
  have hl := lv_entry ([.ref (a 0), .int v0]) (n := 3) (Nat.le_of_ble_eq_true rfl)
  rw [lg_entry_eq]
  generalize (lg_sl ([.ref (a 0), .int v0]) ++ List.replicate (3 - (lg_sl ([.ref (a 0), .int v0])).length) Slot.unset).toArray = ls at hl ⊢
  have hl : lv_has ls 3 [(0, .ref (a 0)), (1, .int v0)] := hl
  exact db_X6_makeAbsent_0 (dC := dC) (dI := dI) (a := a) (ac := ac) (n := n) (r := r) ⟨hlt, hx, hb, hml, hown, hts, hN, hA, hK⟩ (fun pc τ H locs ls d er hP hD hS => by subst er; exact W.vret hx hb hr (fun t ht hW => ⟨⟨(), rfl, trivial, by rw [ht]; exact hP, va_K.moved hW.alike hK, hD⟩, hS.F ht⟩) hS.2.2 d) v0 s0 _ _ _ h hP hD va_S.rf (lv_sub hl [0, 1] rfl)
def ow_dm_X6_start : List Cond := Cond.code yX6_start cX6_start 3 none :: ([Cond.fieldLink RX6 14 "TimeMachine$Machine" "users" "[I", Cond.methodLink RX6 46 yJ7_fill_53178, Cond.static yJ7_fill_53178, Cond.initialized RJ7, Cond.fieldLink RX6 17 "TimeMachine$Machine" "page" "[I", Cond.fieldLink RX6 52 "TimeMachine$Machine" "framesUsed" "I", Cond.fieldLink RX6 60 "TimeMachine$Machine" "randoms" "I", Cond.fieldLink RX6 63 "TimeMachine$Machine" "waiting" "I", Cond.fieldLink RX6 66 "TimeMachine$Machine" "current" "I", Cond.fieldLink RX6 69 "TimeMachine$Machine" "last" "I", Cond.fieldLink RX6 72 "TimeMachine$Machine" "ticked" "I", Cond.fieldLink RX6 75 "TimeMachine$Machine" "clock" "J", Cond.fieldLink RX6 79 "TimeMachine$Machine" "retired" "J", Cond.fieldLink RX6 82 "TimeMachine$Machine" "written" "I", Cond.fieldLink RX6 42 "TimeMachine$Machine" "things" "LTimeMachine$Things;", Cond.methodLink RX6 85 yX10_start, Cond.instanceMethod yX10_start, Cond.selects RX10 yX10_start yX10_start, Cond.initialized RX10, Cond.methodLink RX6 88 yX6_load, Cond.instanceMethod yX6_load, Cond.selects RX6 yX6_load yX6_load, Cond.initialized RX6, Cond.fieldLink RX6 29 "TimeMachine$Machine" "self" "[I", Cond.methodLink RX6 92 yX6_chooseCurrent, Cond.instanceMethod yX6_chooseCurrent, Cond.selects RX6 yX6_chooseCurrent yX6_chooseCurrent, Cond.methodLink RX6 56 yX6_makeAbsent, Cond.instanceMethod yX6_makeAbsent, Cond.selects RX6 yX6_makeAbsent yX6_makeAbsent] ++ (u_ws RX6 TX6 20 ++ (ow_dm_J7_fill_53178 ++ (ow_dm_X10_start ++ (ow_dm_X6_load ++ (ow_dm_X6_chooseCurrent ++ (ow_dm_X6_makeAbsent ++ [])))))))
theorem gd_dm_X6_start : ∀ w ∈ ow_dm_X6_start, (w.onTables && w.keeps) = true ∨ ∃ ty, w = Cond.arrayClass ty := List.forall_mem_cons.mpr ⟨good_of_word rfl, List.forall_mem_append.mpr ⟨fun w h => good_of_word (List.all_eq_true.mp (by decide +kernel) w h), List.forall_mem_append.mpr ⟨gu_X6, List.forall_mem_append.mpr ⟨gd_dm_J7_fill_53178, List.forall_mem_append.mpr ⟨gd_dm_X10_start, List.forall_mem_append.mpr ⟨gd_dm_X6_load, List.forall_mem_append.mpr ⟨gd_dm_X6_chooseCurrent, List.forall_mem_append.mpr ⟨gd_dm_X6_makeAbsent, fun _ h => nomatch h⟩⟩⟩⟩⟩⟩⟩⟩
theorem hi_dm_X6_start_X6 : ∀ w ∈ u_ws RX6 TX6 20, w ∈ ow_dm_X6_start := fun w h => List.mem_cons_of_mem _ (List.mem_append_right _ (List.mem_append_left _ h))
theorem gi_dm_X6_start_0 : GoodIn ow_dm_X6_start (va_wsS RX6 46 yJ7_fill_53178 ow_dm_J7_fill_53178) := goodIn_app (goodIn_of _ (by decide +kernel)) (fun w h => ⟨List.mem_cons_of_mem _ (List.mem_append_right _ (List.mem_append_right _ (List.mem_append_left _ h))), gd_dm_J7_fill_53178 w h⟩)
theorem gi_dm_X6_start_1 : GoodIn ow_dm_X6_start (wsV RX6 85 RX10 yX10_start ow_dm_X10_start) := goodIn_app (goodIn_of _ (by decide +kernel)) (fun w h => ⟨List.mem_cons_of_mem _ (List.mem_append_right _ (List.mem_append_right _ (List.mem_append_right _ (List.mem_append_left _ h)))), gd_dm_X10_start w h⟩)
theorem gi_dm_X6_start_2 : GoodIn ow_dm_X6_start (wsV RX6 88 RX6 yX6_load ow_dm_X6_load) := goodIn_app (goodIn_of _ (by decide +kernel)) (fun w h => ⟨List.mem_cons_of_mem _ (List.mem_append_right _ (List.mem_append_right _ (List.mem_append_right _ (List.mem_append_right _ (List.mem_append_left _ h))))), gd_dm_X6_load w h⟩)
theorem gi_dm_X6_start_3 : GoodIn ow_dm_X6_start (wsV RX6 92 RX6 yX6_chooseCurrent ow_dm_X6_chooseCurrent) := goodIn_app (goodIn_of _ (by decide +kernel)) (fun w h => ⟨List.mem_cons_of_mem _ (List.mem_append_right _ (List.mem_append_right _ (List.mem_append_right _ (List.mem_append_right _ (List.mem_append_right _ (List.mem_append_left _ h)))))), gd_dm_X6_chooseCurrent w h⟩)
theorem gi_dm_X6_start_4 : GoodIn ow_dm_X6_start (wsV RX6 56 RX6 yX6_makeAbsent ow_dm_X6_makeAbsent) := goodIn_app (goodIn_of _ (by decide +kernel)) (fun w h => ⟨List.mem_cons_of_mem _ (List.mem_append_right _ (List.mem_append_right _ (List.mem_append_right _ (List.mem_append_right _ (List.mem_append_right _ (List.mem_append_right _ (List.mem_append_left _ h))))))), gd_dm_X6_makeAbsent w h⟩)
def dj_X6_start_23 (p : Program) (l : Launch) (e : Env) (s : State) (m : MethodId) (args : Array Value) (below : List Frame) (meth : Method) (c : Code) (Q : State → Prop) (A : Nat → Prop) (dC : Nat → ClassId) (dI : Nat → Nat → Nat) (a : Nat → Nat) (ac : Nat → ClassId) (g : Int32 → (St × (St × (St)) × (St)) → Option (St × (St × (St)) × (St))) (r : St × (St × (St)) × (St)) : Prop := ∀ (x2 : Int32) (s0 : St × (St × (St)) × (St)) (H : Heap) (locs : List Loc) (ls : Array Slot), g x2 s0 = some r → va_P (dC, dI) vwCl (dw_X6p a ac s0) H → va_D A (dw_X6p a ac s0) → va_S A s.heap H locs → lv_has ls 3 [(0, .ref (a 0)), (1, .ref (a 20)), (2, .int x2)] → W p l e (headSpec ow_dm_X6_start ({ frames := 3, cells := 0, slots := 0, locals := 69 })).room s m args below meth c H locs 0 0 Q (F0 m 23 ls [])
def dj_X6_start_0 (p : Program) (l : Launch) (e : Env) (s : State) (m : MethodId) (args : Array Value) (below : List Frame) (meth : Method) (c : Code) (Q : State → Prop) (A : Nat → Prop) (dC : Nat → ClassId) (dI : Nat → Nat → Nat) (a : Nat → Nat) (ac : Nat → ClassId) (g : (St × (St × (St)) × (St)) → Option (St × (St × (St)) × (St))) (r : St × (St × (St)) × (St)) : Prop := ∀ (s0 : St × (St × (St)) × (St)) (H : Heap) (locs : List Loc) (ls : Array Slot), g s0 = some r → va_P (dC, dI) vwCl (dw_X6p a ac s0) H → va_D A (dw_X6p a ac s0) → va_S A s.heap H locs → lv_has ls 3 [(0, .ref (a 0)), (1, .ref (a 20))] → W p l e (headSpec ow_dm_X6_start ({ frames := 3, cells := 0, slots := 0, locals := 69 })).room s m args below meth c H locs 0 0 Q (F0 m 0 ls [])
set_option maxHeartbeats 40000000 in
set_option maxRecDepth 100000 in
theorem dB_X6_start_23 {p : Program} {l : Launch} {e : Env} {s : State} {m : MethodId} {args : Array Value} {below : List Frame} {meth : Method} {c : Code} {Q : State → Prop} {A : Nat → Prop} {dC : Nat → ClassId} {dI : Nat → Nat → Nat} {a : Nat → Nat} {ac : Nat → ClassId} {n : Nat} {r : St × (St × (St)) × (St)} (C : nd_C p l s m args c A (dC, dI) cX6_start 3 RX6 ow_dm_X6_start (dk_X6p ac)) (K : nd_Kv p l e (headSpec ow_dm_X6_start ({ frames := 3, cells := 0, slots := 0, locals := 69 })).room s m args below meth c Q A (dC, dI) cX6_start (St × (St × (St)) × (St)) (dw_X6p a ac) r) {g23 : Int32 → (St × (St × (St)) × (St)) → Option (St × (St × (St)) × (St))} (J23 : dj_X6_start_23 p l e s m args below meth c Q A dC dI a ac g23 r) : dj_X6_start_23 p l e s m args below meth c Q A dC dI a ac (dF_X6_start_23 n g23) r := by
  obtain ⟨hlt, hx, hb, hml, hown, hts, hN, hA, hK⟩ := id C
  intro x2 s0 H locs ls h hP hD hS hl
  unfold dF_X6_start_23 at h
  refine lv_iload_n hx hb dX6_start_23 rfl (lv_at hl 2 rfl) ?_
  refine lv_bipush (v := 16) hx hb dX6_start_24 (by decide) ?_
  refine lv_icmp_ge (tgt := 40) hx hb dX6_start_26 (by decide) (fun c4 => ?_) (fun c4 => ?_)
  · have h := nd_pos h c4
    refine lv_aload_n hx hb dX6_start_40 rfl (lv_at hl 0 rfl) ?_
    refine lv_iconst (v := 0) hx hb dX6_start_41 (by decide) ?_
    refine va_put (D := (dC, dI)) (ci := 7) (v := .int 0) (ty := .int) (C := RX6) (T := TX6) (N := 20) hx hb hts hi_dm_X6_start_X6 tyX6 tyX6_ok nmX6 hown hK hP hD hS 0 rfl rfl 10 (by decide) (hts (.fieldLink RX6 60 "TimeMachine$Machine" "randoms" "I") (List.mem_of_getElem? (i := 7) rfl)) (fun _ h9 => h9) rfl (by decide +kernel) rfl rfl (Nat.le_of_ble_eq_true rfl) dX6_start_42 (fun H locs hP hD hS => ?_)
    obtain ⟨s5, es5, h⟩ := nd_let_e h
    have hP : va_P (dC, dI) vwCl (dw_X6p a ac s5) H := by rw [es5]; exact hP
    have hD : va_D A (dw_X6p a ac s5) := by rw [es5]; exact hD
    refine lv_aload_n hx hb dX6_start_45 rfl (lv_at hl 0 rfl) ?_
    refine lv_iconst (v := 0) hx hb dX6_start_46 (by decide) ?_
    refine va_put (D := (dC, dI)) (ci := 7) (v := .int 0) (ty := .int) (C := RX6) (T := TX6) (N := 20) hx hb hts hi_dm_X6_start_X6 tyX6 tyX6_ok nmX6 hown hK hP hD hS 0 rfl rfl 12 (by decide) (hts (.fieldLink RX6 63 "TimeMachine$Machine" "waiting" "I") (List.mem_of_getElem? (i := 8) rfl)) (fun _ h9 => h9) rfl (by decide +kernel) rfl rfl (Nat.le_of_ble_eq_true rfl) dX6_start_47 (fun H locs hP hD hS => ?_)
    obtain ⟨s6, es6, h⟩ := nd_let_e h
    have hP : va_P (dC, dI) vwCl (dw_X6p a ac s6) H := by rw [es6]; exact hP
    have hD : va_D A (dw_X6p a ac s6) := by rw [es6]; exact hD
    refine lv_aload_n hx hb dX6_start_50 rfl (lv_at hl 0 rfl) ?_
    refine lv_iconst (v := (-1)) hx hb dX6_start_51 (by decide) ?_
    refine va_put (D := (dC, dI)) (ci := 7) (v := .int (-1)) (ty := .int) (C := RX6) (T := TX6) (N := 20) hx hb hts hi_dm_X6_start_X6 tyX6 tyX6_ok nmX6 hown hK hP hD hS 0 rfl rfl 13 (by decide) (hts (.fieldLink RX6 66 "TimeMachine$Machine" "current" "I") (List.mem_of_getElem? (i := 9) rfl)) (fun _ h9 => h9) rfl (by decide +kernel) rfl rfl (Nat.le_of_ble_eq_true rfl) dX6_start_52 (fun H locs hP hD hS => ?_)
    obtain ⟨s7, es7, h⟩ := nd_let_e h
    have hP : va_P (dC, dI) vwCl (dw_X6p a ac s7) H := by rw [es7]; exact hP
    have hD : va_D A (dw_X6p a ac s7) := by rw [es7]; exact hD
    refine lv_aload_n hx hb dX6_start_55 rfl (lv_at hl 0 rfl) ?_
    refine lv_bipush (v := 15) hx hb dX6_start_56 (by decide) ?_
    refine va_put (D := (dC, dI)) (ci := 7) (v := .int 15) (ty := .int) (C := RX6) (T := TX6) (N := 20) hx hb hts hi_dm_X6_start_X6 tyX6 tyX6_ok nmX6 hown hK hP hD hS 0 rfl rfl 14 (by decide) (hts (.fieldLink RX6 69 "TimeMachine$Machine" "last" "I") (List.mem_of_getElem? (i := 10) rfl)) (fun _ h9 => h9) rfl (by decide +kernel) rfl rfl (Nat.le_of_ble_eq_true rfl) dX6_start_58 (fun H locs hP hD hS => ?_)
    obtain ⟨s8, es8, h⟩ := nd_let_e h
    have hP : va_P (dC, dI) vwCl (dw_X6p a ac s8) H := by rw [es8]; exact hP
    have hD : va_D A (dw_X6p a ac s8) := by rw [es8]; exact hD
    refine lv_aload_n hx hb dX6_start_61 rfl (lv_at hl 0 rfl) ?_
    refine lv_iconst (v := (-1)) hx hb dX6_start_62 (by decide) ?_
    refine va_put (D := (dC, dI)) (ci := 7) (v := .int (-1)) (ty := .int) (C := RX6) (T := TX6) (N := 20) hx hb hts hi_dm_X6_start_X6 tyX6 tyX6_ok nmX6 hown hK hP hD hS 0 rfl rfl 15 (by decide) (hts (.fieldLink RX6 72 "TimeMachine$Machine" "ticked" "I") (List.mem_of_getElem? (i := 11) rfl)) (fun _ h9 => h9) rfl (by decide +kernel) rfl rfl (Nat.le_of_ble_eq_true rfl) dX6_start_63 (fun H locs hP hD hS => ?_)
    obtain ⟨s9, es9, h⟩ := nd_let_e h
    have hP : va_P (dC, dI) vwCl (dw_X6p a ac s9) H := by rw [es9]; exact hP
    have hD : va_D A (dw_X6p a ac s9) := by rw [es9]; exact hD
    refine lv_aload_n hx hb dX6_start_66 rfl (lv_at hl 0 rfl) ?_
    refine lv_lconst (v := 0) hx hb dX6_start_67 (by decide) ?_
    refine va_put (D := (dC, dI)) (ci := 7) (v := .long 0) (ty := .long) (C := RX6) (T := TX6) (N := 20) hx hb hts hi_dm_X6_start_X6 tyX6 tyX6_ok nmX6 hown hK hP hD hS 0 rfl rfl 17 (by decide) (hts (.fieldLink RX6 75 "TimeMachine$Machine" "clock" "J") (List.mem_of_getElem? (i := 12) rfl)) (fun _ h9 => h9) rfl (by decide +kernel) rfl rfl (Nat.le_of_ble_eq_true rfl) dX6_start_68 (fun H locs hP hD hS => ?_)
    obtain ⟨s10, es10, h⟩ := nd_let_e h
    have hP : va_P (dC, dI) vwCl (dw_X6p a ac s10) H := by rw [es10]; exact hP
    have hD : va_D A (dw_X6p a ac s10) := by rw [es10]; exact hD
    refine lv_aload_n hx hb dX6_start_71 rfl (lv_at hl 0 rfl) ?_
    refine lv_lconst (v := 0) hx hb dX6_start_72 (by decide) ?_
    refine va_put (D := (dC, dI)) (ci := 7) (v := .long 0) (ty := .long) (C := RX6) (T := TX6) (N := 20) hx hb hts hi_dm_X6_start_X6 tyX6 tyX6_ok nmX6 hown hK hP hD hS 0 rfl rfl 18 (by decide) (hts (.fieldLink RX6 79 "TimeMachine$Machine" "retired" "J") (List.mem_of_getElem? (i := 13) rfl)) (fun _ h9 => h9) rfl (by decide +kernel) rfl rfl (Nat.le_of_ble_eq_true rfl) dX6_start_73 (fun H locs hP hD hS => ?_)
    obtain ⟨s11, es11, h⟩ := nd_let_e h
    have hP : va_P (dC, dI) vwCl (dw_X6p a ac s11) H := by rw [es11]; exact hP
    have hD : va_D A (dw_X6p a ac s11) := by rw [es11]; exact hD
    refine lv_aload_n hx hb dX6_start_76 rfl (lv_at hl 0 rfl) ?_
    refine lv_iconst (v := 0) hx hb dX6_start_77 (by decide) ?_
    refine va_put (D := (dC, dI)) (ci := 7) (v := .int 0) (ty := .int) (C := RX6) (T := TX6) (N := 20) hx hb hts hi_dm_X6_start_X6 tyX6 tyX6_ok nmX6 hown hK hP hD hS 0 rfl rfl 19 (by decide) (hts (.fieldLink RX6 82 "TimeMachine$Machine" "written" "I") (List.mem_of_getElem? (i := 14) rfl)) (fun _ h9 => h9) rfl (by decide +kernel) rfl rfl (Nat.le_of_ble_eq_true rfl) dX6_start_78 (fun H locs hP hD hS => ?_)
    obtain ⟨s12, es12, h⟩ := nd_let_e h
    have hP : va_P (dC, dI) vwCl (dw_X6p a ac s12) H := by rw [es12]; exact hP
    have hD : va_D A (dw_X6p a ac s12) := by rw [es12]; exact hD
    refine lv_aload_n hx hb dX6_start_81 rfl (lv_at hl 0 rfl) ?_
    refine va_get (D := (dC, dI)) (ci := 7) (v := .ref (a 10)) (C := RX6) (T := TX6) (N := 20) hx hb hts hi_dm_X6_start_X6 hown hK hP 0 rfl rfl 11 (by decide) (hts (.fieldLink RX6 42 "TimeMachine$Machine" "things" "LTimeMachine$Things;") (List.mem_of_getElem? (i := 15) rfl)) (fun _ h9 => h9) rfl dX6_start_82 ?_
    obtain ⟨s14, hq, h⟩ := nd_b1_e h
    have hPc := dp_X6p_10 hP
    have hDc := dd_X6p_10 hD
    have hKc := dy_X6p_10 hK
    have hFc := nd_rs hDc hS hA
    have hzA : ∀ q : Nat, H.size ≤ q → A q := fun q h => hA q (Nat.le_trans hS.1 h)
    refine nd_cVv (As := []) (rest := []) (w' := dw_X10 (fun k => a (k + 10)) (fun k => ac (k + 10)) s14) ⟨hx, hb, hml, hown, hts⟩ (fun sz => dm_X10_start l hlt dC dI (fun k => a (k + 10)) (fun k => ac (k + 10)) n  s12.2.1.2 hq sz) (cwV 0 hts gi_dm_X6_start_1 rfl rfl rfl (by decide +kernel) ⟨Nat.le_of_ble_eq_true rfl, Nat.le_of_ble_eq_true rfl⟩) hPc hDc hKc hS hA hN (va_recv hKc hPc (ci := 11) (q0 := 0) rfl rfl) rfl hl.1 rfl (Nat.le_of_ble_eq_true rfl) dX6_start_85 (fun H locs hP1 hD1 hk1 hS => ?_)
    obtain ⟨hP, hD⟩ := dn_X6p_10 hP hD hzA hk1 hP1 hD1
    obtain ⟨s16, es16, h⟩ := nd_let_e h
    have hP : va_P (dC, dI) vwCl (dw_X6p a ac s16) H := by rw [es16]; exact hP
    have hD : va_D A (dw_X6p a ac s16) := by rw [es16]; exact hD
    refine lv_aload_n hx hb dX6_start_88 rfl (lv_at hl 0 rfl) ?_
    refine lv_iconst (v := 0) hx hb dX6_start_89 (by decide) ?_
    refine lv_aload_n hx hb dX6_start_90 rfl (lv_at hl 1 rfl) ?_
    obtain ⟨s18, hq, h⟩ := nd_b1_e h
    have hPc := hP
    have hDc := hD
    have hKc := hK
    have hFc := nd_rs hD hS hA
    refine nd_cVv (As := [.int 0, .ref (a 20)]) (rest := []) (w' := dw_X6p a ac s18) ⟨hx, hb, hml, hown, hts⟩ (fun sz => dm_X6_load l hlt dC dI a ac n (0) s16 hq sz) (cwV 2 hts gi_dm_X6_start_2 rfl rfl rfl (by decide +kernel) ⟨Nat.le_of_ble_eq_true rfl, Nat.le_of_ble_eq_true rfl⟩) hPc hDc hKc hS hA hN (va_recv hKc hPc (ci := 7) (q0 := 0) rfl rfl) rfl hl.1 rfl (Nat.le_of_ble_eq_true rfl) dX6_start_91 (fun H locs hP1 hD1 hk1 hS => ?_)
    have hP := hP1
    have hD := hD1.weaken (fun k q _ h => hFc q.1 h)
    refine lv_aload_n hx hb dX6_start_94 rfl (lv_at hl 0 rfl) ?_
    refine va_get (D := (dC, dI)) (ci := 7) (v := .ref (a 7)) (C := RX6) (T := TX6) (N := 20) hx hb hts hi_dm_X6_start_X6 hown hK hP 0 rfl rfl 7 (by decide) (hts (.fieldLink RX6 29 "TimeMachine$Machine" "self" "[I") (List.mem_of_getElem? (i := 24) rfl)) (fun _ h9 => h9) rfl dX6_start_95 ?_
    refine lv_iconst (v := 0) hx hb dX6_start_98 (by decide) ?_
    refine lv_iconst (v := 1) hx hb dX6_start_99 (by decide) ?_
    refine va_iast (i := 0) (x := 1) hx hb hK hP hD hS 7 6 rfl rfl (vp_in_iff.mpr ⟨by decide, by decide⟩) dX6_start_100 (fun H locs hP hD hS => ?_)
    obtain ⟨s20, es20, h⟩ := nd_let_e h
    have hP : va_P (dC, dI) vwCl (dw_X6p a ac s20) H := by rw [es20]; exact hP
    have hD : va_D A (dw_X6p a ac s20) := by rw [es20]; exact hD
    refine lv_aload_n hx hb dX6_start_101 rfl (lv_at hl 0 rfl) ?_
    obtain ⟨s22, hq, h⟩ := nd_b1_e h
    have hPc := dp_X6p_0 hP
    have hDc := dd_X6p_0 hD
    have hKc := dy_X6p_0 hK
    have hFc := nd_rs hDc hS hA
    have hzA : ∀ q : Nat, H.size ≤ q → A q := fun q h => hA q (Nat.le_trans hS.1 h)
    refine nd_cVv (As := []) (rest := []) (w' := dw_X6 (fun k => a (k + 0)) (fun k => ac (k + 0)) s22) ⟨hx, hb, hml, hown, hts⟩ (fun sz => dm_X6_chooseCurrent l hlt dC dI (fun k => a (k + 0)) (fun k => ac (k + 0)) n  s20.2.1 hq sz) (cwV 0 hts gi_dm_X6_start_3 rfl rfl rfl (by decide +kernel) ⟨Nat.le_of_ble_eq_true rfl, Nat.le_of_ble_eq_true rfl⟩) hPc hDc hKc hS hA hN (va_recv hKc hPc (ci := 7) (q0 := 0) rfl rfl) rfl hl.1 rfl (Nat.le_of_ble_eq_true rfl) dX6_start_102 (fun H locs hP1 hD1 hk1 hS => ?_)
    obtain ⟨hP, hD⟩ := dn_X6p_0 hP hD hzA hk1 hP1 hD1
    obtain ⟨s24, es24, h⟩ := nd_let_e h
    have hP : va_P (dC, dI) vwCl (dw_X6p a ac s24) H := by rw [es24]; exact hP
    have hD : va_D A (dw_X6p a ac s24) := by rw [es24]; exact hD
    exact K _ _ _ _ _ dX6_start_105 (Option.some.inj h).symm hP hD hS
  · have h := nd_neg h c4
    refine lv_aload_n hx hb dX6_start_29 rfl (lv_at hl 0 rfl) ?_
    refine lv_iload_n hx hb dX6_start_30 rfl (lv_at hl 2 rfl) ?_
    obtain ⟨s26, hq, h⟩ := nd_b1_e h
    have hPc := dp_X6p_0 hP
    have hDc := dd_X6p_0 hD
    have hKc := dy_X6p_0 hK
    have hFc := nd_rs hDc hS hA
    have hzA : ∀ q : Nat, H.size ≤ q → A q := fun q h => hA q (Nat.le_trans hS.1 h)
    refine nd_cVv (As := [.int x2]) (rest := []) (w' := dw_X6 (fun k => a (k + 0)) (fun k => ac (k + 0)) s26) ⟨hx, hb, hml, hown, hts⟩ (fun sz => dm_X6_makeAbsent l hlt dC dI (fun k => a (k + 0)) (fun k => ac (k + 0)) n (x2) s0.2.1 hq sz) (cwV 1 hts gi_dm_X6_start_4 rfl rfl rfl (by decide +kernel) ⟨Nat.le_of_ble_eq_true rfl, Nat.le_of_ble_eq_true rfl⟩) hPc hDc hKc hS hA hN (va_recv hKc hPc (ci := 7) (q0 := 0) rfl rfl) rfl hl.1 rfl (Nat.le_of_ble_eq_true rfl) dX6_start_31 (fun H locs hP1 hD1 hk1 hS => ?_)
    obtain ⟨hP, hD⟩ := dn_X6p_0 hP hD hzA hk1 hP1 hD1
    obtain ⟨s28, es28, h⟩ := nd_let_e h
    have hP : va_P (dC, dI) vwCl (dw_X6p a ac s28) H := by rw [es28]; exact hP
    have hD : va_D A (dw_X6p a ac s28) := by rw [es28]; exact hD
    obtain ⟨z29, ez29, h⟩ := nd_let_e h
    refine lv_iinc (v := z29) (lv' := [(2, .int z29), (0, .ref (a 0)), (1, .ref (a 20))]) hx hb dX6_start_34 hl (k := 2) rfl (by rw [ez29]) (by decide) rfl (fun ls hl => ?_)
    refine lv_goto (tgt := 23) hx hb dX6_start_37 (by decide) ?_
    exact (J23) (z29) s28 _ _ _ h hP hD hS (lv_sub hl [1, 2, 0] rfl)
set_option maxHeartbeats 40000000 in
set_option maxRecDepth 100000 in
theorem db_X6_start_23 {p : Program} {l : Launch} {e : Env} {s : State} {m : MethodId} {args : Array Value} {below : List Frame} {meth : Method} {c : Code} {Q : State → Prop} {A : Nat → Prop} {dC : Nat → ClassId} {dI : Nat → Nat → Nat} {a : Nat → Nat} {ac : Nat → ClassId} {n : Nat} {r : St × (St × (St)) × (St)} (C : nd_C p l s m args c A (dC, dI) cX6_start 3 RX6 ow_dm_X6_start (dk_X6p ac)) (K : nd_Kv p l e (headSpec ow_dm_X6_start ({ frames := 3, cells := 0, slots := 0, locals := 69 })).room s m args below meth c Q A (dC, dI) cX6_start (St × (St × (St)) × (St)) (dw_X6p a ac) r) (k : Nat) : dj_X6_start_23 p l e s m args below meth c Q A dC dI a ac (df_X6_start_23 n k) r := by
  induction k with
  | zero => intro x2 s0 H locs ls h; exact nomatch (show (none : Option (St × (St × (St)) × (St))) = some r from h)
  | succ k ih => exact dB_X6_start_23 C K ih
set_option maxHeartbeats 40000000 in
set_option maxRecDepth 100000 in
theorem db_X6_start_0 {p : Program} {l : Launch} {e : Env} {s : State} {m : MethodId} {args : Array Value} {below : List Frame} {meth : Method} {c : Code} {Q : State → Prop} {A : Nat → Prop} {dC : Nat → ClassId} {dI : Nat → Nat → Nat} {a : Nat → Nat} {ac : Nat → ClassId} {n : Nat} {r : St × (St × (St)) × (St)} (C : nd_C p l s m args c A (dC, dI) cX6_start 3 RX6 ow_dm_X6_start (dk_X6p ac)) (K : nd_Kv p l e (headSpec ow_dm_X6_start ({ frames := 3, cells := 0, slots := 0, locals := 69 })).room s m args below meth c Q A (dC, dI) cX6_start (St × (St × (St)) × (St)) (dw_X6p a ac) r) : dj_X6_start_0 p l e s m args below meth c Q A dC dI a ac (df_X6_start_0 n) r := by
  obtain ⟨hlt, hx, hb, hml, hown, hts, hN, hA, hK⟩ := id C
  intro s0 H locs ls h hP hD hS hl
  unfold df_X6_start_0 at h
  refine lv_aload_n hx hb dX6_start_0 rfl (lv_at hl 0 rfl) ?_
  refine va_get (D := (dC, dI)) (ci := 7) (v := .ref (a 2)) (C := RX6) (T := TX6) (N := 20) hx hb hts hi_dm_X6_start_X6 hown hK hP 0 rfl rfl 1 (by decide) (hts (.fieldLink RX6 14 "TimeMachine$Machine" "users" "[I") (List.mem_of_getElem? (i := 1) rfl)) (fun _ h9 => h9) rfl dX6_start_1 ?_
  refine lv_iconst (v := 0) hx hb dX6_start_4 (by decide) ?_
  have hcl : (dw_X6p a ac s0)[2]? = some ((a 2), .inl (ac 2, 256, .inl (sR s0.2.1.1 1))) := rfl
  have hPc := nd_c1 hP hcl
  have hDc := nd_cd hD hcl
  have hKc : va_K (dC, dI) vwCl [(ac 2, .int)] s := hK.sub [1] rfl
  have hFc := nd_rs hDc hS hA
  refine va_callv (va_runS (As := [.ref (a 2), .int 0]) (rest := []) ⟨hx, hb, hml, hown, hts⟩ (dm_J7_fill_53178 l hlt dC dI (a 2) (ac 2) 256 (by decide) (sR s0.2.1.1 1) 0 _) (va_cwS 2 hts gi_dm_X6_start_0 rfl rfl rfl (by decide +kernel) ⟨Nat.le_of_ble_eq_true rfl, Nat.le_of_ble_eq_true rfl⟩) ⟨fun a U g mk q => by obtain ⟨q0, q1, qP, qK, qD, qN⟩ := q; exact ⟨q0, q1, qP, va_K.moved (u := U) (U := U.calling g mk a) (Vm.Alike.refl U.vm) qK, qD, nv_same rfl rfl qN⟩, fun U hU hW => ⟨rfl, by rw [hU], by rw [hU]; exact hPc, va_K.moved hW.alike hKc, hDc.weaken (fun _ _ _ _ => trivial), nv_call hS hFc hU hW hN⟩⟩ rfl rfl hl.1 rfl (lv_room (Nat.le_of_ble_eq_true rfl)) dX6_start_5 ⟨by decide +kernel, by decide +kernel⟩) hS (fun q _ h => hFc q h) hFc (fun u t H locs ht hvm hw hB hz1 hk1 hS => ?_)
  obtain ⟨hP1, -, hD1⟩ := hB
  rw [ht] at hP1
  have hP := nd_cs hP hD hcl hk1 hP1
  have hD := hD.set (e := .inl (ac 2, 256, .inl (nd_fl 256 0 (sR s0.2.1.1 1)))) hcl
  refine W.widen (k := 0) (n := 0) (Nat.le_refl _) (Nat.le_refl _) ?_
  obtain ⟨s1, es1, h⟩ := nd_let_e h
  have hP : va_P (dC, dI) vwCl (dw_X6p a ac s1) H := by rw [es1]; exact hP
  have hD : va_D A (dw_X6p a ac s1) := by rw [es1]; exact hD
  refine lv_aload_n hx hb dX6_start_8 rfl (lv_at hl 0 rfl) ?_
  refine va_get (D := (dC, dI)) (ci := 7) (v := .ref (a 3)) (C := RX6) (T := TX6) (N := 20) hx hb hts hi_dm_X6_start_X6 hown hK hP 0 rfl rfl 2 (by decide) (hts (.fieldLink RX6 17 "TimeMachine$Machine" "page" "[I") (List.mem_of_getElem? (i := 5) rfl)) (fun _ h9 => h9) rfl dX6_start_9 ?_
  refine lv_iconst (v := 0) hx hb dX6_start_12 (by decide) ?_
  have hcl : (dw_X6p a ac s1)[3]? = some ((a 3), .inl (ac 3, 1024, .inl (sR s1.2.1.1 2))) := rfl
  have hPc := nd_c1 hP hcl
  have hDc := nd_cd hD hcl
  have hKc : va_K (dC, dI) vwCl [(ac 3, .int)] s := hK.sub [2] rfl
  have hFc := nd_rs hDc hS hA
  refine va_callv (va_runS (As := [.ref (a 3), .int 0]) (rest := []) ⟨hx, hb, hml, hown, hts⟩ (dm_J7_fill_53178 l hlt dC dI (a 3) (ac 3) 1024 (by decide) (sR s1.2.1.1 2) 0 _) (va_cwS 2 hts gi_dm_X6_start_0 rfl rfl rfl (by decide +kernel) ⟨Nat.le_of_ble_eq_true rfl, Nat.le_of_ble_eq_true rfl⟩) ⟨fun a U g mk q => by obtain ⟨q0, q1, qP, qK, qD, qN⟩ := q; exact ⟨q0, q1, qP, va_K.moved (u := U) (U := U.calling g mk a) (Vm.Alike.refl U.vm) qK, qD, nv_same rfl rfl qN⟩, fun U hU hW => ⟨rfl, by rw [hU], by rw [hU]; exact hPc, va_K.moved hW.alike hKc, hDc.weaken (fun _ _ _ _ => trivial), nv_call hS hFc hU hW hN⟩⟩ rfl rfl hl.1 rfl (lv_room (Nat.le_of_ble_eq_true rfl)) dX6_start_13 ⟨by decide +kernel, by decide +kernel⟩) hS (fun q _ h => hFc q h) hFc (fun u t H locs ht hvm hw hB hz1 hk1 hS => ?_)
  obtain ⟨hP1, -, hD1⟩ := hB
  rw [ht] at hP1
  have hP := nd_cs hP hD hcl hk1 hP1
  have hD := hD.set (e := .inl (ac 3, 1024, .inl (nd_fl 1024 0 (sR s1.2.1.1 2)))) hcl
  refine W.widen (k := 0) (n := 0) (Nat.le_refl _) (Nat.le_refl _) ?_
  obtain ⟨s2, es2, h⟩ := nd_let_e h
  have hP : va_P (dC, dI) vwCl (dw_X6p a ac s2) H := by rw [es2]; exact hP
  have hD : va_D A (dw_X6p a ac s2) := by rw [es2]; exact hD
  refine lv_aload_n hx hb dX6_start_16 rfl (lv_at hl 0 rfl) ?_
  refine lv_iconst (v := 0) hx hb dX6_start_17 (by decide) ?_
  refine va_put (D := (dC, dI)) (ci := 7) (v := .int 0) (ty := .int) (C := RX6) (T := TX6) (N := 20) hx hb hts hi_dm_X6_start_X6 tyX6 tyX6_ok nmX6 hown hK hP hD hS 0 rfl rfl 3 (by decide) (hts (.fieldLink RX6 52 "TimeMachine$Machine" "framesUsed" "I") (List.mem_of_getElem? (i := 6) rfl)) (fun _ h9 => h9) rfl (by decide +kernel) rfl rfl (Nat.le_of_ble_eq_true rfl) dX6_start_18 (fun H locs hP hD hS => ?_)
  obtain ⟨s3, es3, h⟩ := nd_let_e h
  have hP : va_P (dC, dI) vwCl (dw_X6p a ac s3) H := by rw [es3]; exact hP
  have hD : va_D A (dw_X6p a ac s3) := by rw [es3]; exact hD
  refine lv_iconst (v := 0) hx hb dX6_start_21 (by decide) ?_
  refine lv_istore_n (lv' := [(2, .int 0), (0, .ref (a 0)), (1, .ref (a 20))]) hx hb dX6_start_22 rfl hl (by decide) rfl (fun ls hl => ?_)
  exact (db_X6_start_23 C K n) (0) s3 _ _ _ h hP hD hS (lv_sub hl [1, 2, 0] rfl)
set_option maxHeartbeats 40000000 in
set_option maxRecDepth 100000 in
theorem dm_X6_start (l : Launch) (hlt : l.stackTraces = false) (dC : Nat → ClassId) (dI : Nat → Nat → Nat) (a : Nat → Nat) (ac : Nat → ClassId) (n : Nat) (s0 : St × (St × (St)) × (St)) {r : St × (St × (St)) × (St)} (h : df_X6_start n s0 = some r) (sz : Nat) : Met l yX6_start ow_dm_X6_start ({ frames := 3, cells := 0, slots := 0, locals := 69 }) (va_Pc [.ref (a 0), .ref (a 20)] (fun U => U.heap.size = sz ∧ va_P (dC, dI) vwCl (dw_X6p a ac s0) U.heap ∧ va_K (dC, dI) vwCl (dk_X6p ac) U ∧ va_D (fun _ => True) (dw_X6p a ac s0) ∧ nv_E dI (va_A (dw_X6p a ac s0) sz) U)) (va_Qv (fun _ => True) (fun (_ : Unit) t => va_P (dC, dI) vwCl (dw_X6p a ac r) t.heap ∧ va_K (dC, dI) vwCl (dk_X6p ac) t ∧ va_D (va_A (dw_X6p a ac s0) sz) (dw_X6p a ac r)) (va_A (dw_X6p a ac s0) sz)) 0 0 (va_A (dw_X6p a ac s0) sz) := by
  refine Met.ofW (cc := cX6_start) (maxL := 3) (ret := none) (by decide) rfl ?_
  intro p e s m args below meth c s₁ B hml hv
  obtain ⟨rfl, hsz, hP, hK, hD0, hN⟩ := hv
  have hx := B.exec
  have hb := B.bytes
  have hr := B.returns
  have hts := atoms_spec (ws := ow_dm_X6_start) B.pre
  have hown : s.vm.findClass RX6 = some m.cls := findClass_of_methodNamed B.named
  have hlocks := B.notSynchronized
  subst hsz
  have hD := hD0.self (sz := s.heap.size)
  generalize hAe : va_A (dw_X6p a ac s0) s.heap.size = A at hD hN ⊢
  have hA : ∀ q : Nat, s.heap.size ≤ q → A q := fun q h => by rw [← hAe]; exact Or.inr h
  have hl := lv_entry ([.ref (a 0), .ref (a 20)]) (n := 3) (Nat.le_of_ble_eq_true rfl)
  rw [lg_entry_eq]
  generalize (lg_sl ([.ref (a 0), .ref (a 20)]) ++ List.replicate (3 - (lg_sl ([.ref (a 0), .ref (a 20)])).length) Slot.unset).toArray = ls at hl ⊢
  have hl : lv_has ls 3 [(0, .ref (a 0)), (1, .ref (a 20))] := hl
  exact db_X6_start_0 (dC := dC) (dI := dI) (a := a) (ac := ac) (n := n) (r := r) ⟨hlt, hx, hb, hml, hown, hts, hN, hA, hK⟩ (fun pc τ H locs ls d er hP hD hS => by subst er; exact W.vret hx hb hr (fun t ht hW => ⟨⟨(), rfl, trivial, by rw [ht]; exact hP, va_K.moved hW.alike hK, hD⟩, hS.F ht⟩) hS.2.2 d) s0 _ _ _ h hP hD va_S.rf (lv_sub hl [0, 1] rfl)
set_option maxHeartbeats 40000000 in
set_option maxRecDepth 100000 in
theorem dp_vX6m_X10m_0 {D : va_G} {H : Heap} {a : Nat → Nat} {ac : Nat → ClassId} {σ : St × (St × (St)) × (St × (St))} (h : va_P D vwCl (dw_X6m a ac σ) H) : va_P D vwCl (dw_X10m (fun k => a (nd_ix [10, 11, 12, 13, 14, 15, 16, 17, 18, 19, 30, 31, 32, 33, 34, 35, 36, 37, 38, 39] k)) (fun k => ac (nd_ix [10, 11, 12, 13, 14, 15, 16, 17, 18, 19, 30, 31, 32, 33, 34, 35, 36, 37, 38, 39] k)) (nd_st0, σ.2.1.2, σ.2.2.2)) H := h.sub [10, 11, 12, 13, 14, 15, 16, 17, 18, 19, 30, 31, 32, 33, 34, 35, 36, 37, 38, 39] rfl
set_option maxHeartbeats 40000000 in
set_option maxRecDepth 100000 in
theorem dd_vX6m_X10m_0 {A : Nat → Prop} {a : Nat → Nat} {ac : Nat → ClassId} {σ : St × (St × (St)) × (St × (St))} (h : va_D A (dw_X6m a ac σ)) : va_D A (dw_X10m (fun k => a (nd_ix [10, 11, 12, 13, 14, 15, 16, 17, 18, 19, 30, 31, 32, 33, 34, 35, 36, 37, 38, 39] k)) (fun k => ac (nd_ix [10, 11, 12, 13, 14, 15, 16, 17, 18, 19, 30, 31, 32, 33, 34, 35, 36, 37, 38, 39] k)) (nd_st0, σ.2.1.2, σ.2.2.2)) := h.sub [10, 11, 12, 13, 14, 15, 16, 17, 18, 19, 30, 31, 32, 33, 34, 35, 36, 37, 38, 39] (by decide) rfl
set_option maxHeartbeats 40000000 in
set_option maxRecDepth 100000 in
theorem dy_vX6m_X10m_0 {D : va_G} {U : State} {ac : Nat → ClassId} (h : va_K D vwCl (dk_X6m ac) U) : va_K D vwCl (dk_X10m (fun k => ac (nd_ix [10, 11, 12, 13, 14, 15, 16, 17, 18, 19, 30, 31, 32, 33, 34, 35, 36, 37, 38, 39] k))) U := h.sub [9, 10, 11, 12, 13, 14, 15, 16, 17, 27, 28, 29, 30, 31, 32, 33, 34, 35] rfl
set_option maxHeartbeats 40000000 in
set_option maxRecDepth 100000 in
theorem dn_vX6m_X10m_0 {A0 : Nat → Prop} {D : va_G} {H H1 : Heap} {a : Nat → Nat} {ac : Nat → ClassId} {σ : St × (St × (St)) × (St × (St))} {τ : St × (St) × (St)} (hP : va_P D vwCl (dw_X6m a ac σ) H) (hD : va_D A0 (dw_X6m a ac σ)) (hA : ∀ q : Nat, H.size ≤ q → A0 q) (hk : ∀ q : Nat, q < H.size → ¬ va_A (dw_X10m (fun k => a (nd_ix [10, 11, 12, 13, 14, 15, 16, 17, 18, 19, 30, 31, 32, 33, 34, 35, 36, 37, 38, 39] k)) (fun k => ac (nd_ix [10, 11, 12, 13, 14, 15, 16, 17, 18, 19, 30, 31, 32, 33, 34, 35, 36, 37, 38, 39] k)) (nd_st0, σ.2.1.2, σ.2.2.2)) H.size q → H1[q]? = H[q]?) (h1 : va_P D vwCl (dw_X10m (fun k => a (nd_ix [10, 11, 12, 13, 14, 15, 16, 17, 18, 19, 30, 31, 32, 33, 34, 35, 36, 37, 38, 39] k)) (fun k => ac (nd_ix [10, 11, 12, 13, 14, 15, 16, 17, 18, 19, 30, 31, 32, 33, 34, 35, 36, 37, 38, 39] k)) τ) H1) (h2 : va_D (va_A (dw_X10m (fun k => a (nd_ix [10, 11, 12, 13, 14, 15, 16, 17, 18, 19, 30, 31, 32, 33, 34, 35, 36, 37, 38, 39] k)) (fun k => ac (nd_ix [10, 11, 12, 13, 14, 15, 16, 17, 18, 19, 30, 31, 32, 33, 34, 35, 36, 37, 38, 39] k)) (nd_st0, σ.2.1.2, σ.2.2.2)) H.size) (dw_X10m (fun k => a (nd_ix [10, 11, 12, 13, 14, 15, 16, 17, 18, 19, 30, 31, 32, 33, 34, 35, 36, 37, 38, 39] k)) (fun k => ac (nd_ix [10, 11, 12, 13, 14, 15, 16, 17, 18, 19, 30, 31, 32, 33, 34, 35, 36, 37, 38, 39] k)) τ)) : va_P D vwCl (dw_X6m a ac ((σ.1, ((σ.2.1.1, τ.2.1), σ.2.2)).1, ((σ.1, ((σ.2.1.1, τ.2.1), σ.2.2)).2.1, ((σ.1, ((σ.2.1.1, τ.2.1), σ.2.2)).2.2.1, τ.2.2)))) H1 ∧ va_D A0 (dw_X6m a ac ((σ.1, ((σ.2.1.1, τ.2.1), σ.2.2)).1, ((σ.1, ((σ.2.1.1, τ.2.1), σ.2.2)).2.1, ((σ.1, ((σ.2.1.1, τ.2.1), σ.2.2)).2.2.1, τ.2.2)))) := by
  obtain ⟨h1, h2⟩ := va_join (wr := [0, 1, 2, 3, 4, 5, 6, 7, 8, 9, 20, 21, 22, 23, 24, 25, 26, 27, 28, 29].filterMap (fun i => (dw_X6m a ac σ)[i]?)) hP hD [10, 11, 12, 13, 14, 15, 16, 17, 18, 19, 30, 31, 32, 33, 34, 35, 36, 37, 38, 39] [0, 1, 2, 3, 4, 5, 6, 7, 8, 9, 20, 21, 22, 23, 24, 25, 26, 27, 28, 29] rfl rfl (by decide) (by decide) hk (nd_rq (dd_vX6m_X10m_0 hD) hA) h1 h2
  exact ⟨h1.sub [0, 1, 2, 3, 4, 5, 6, 7, 8, 9, 20, 21, 22, 23, 24, 25, 26, 27, 28, 29, 10, 11, 12, 13, 14, 15, 16, 17, 18, 19, 30, 31, 32, 33, 34, 35, 36, 37, 38, 39] rfl, h2.sub [0, 1, 2, 3, 4, 5, 6, 7, 8, 9, 20, 21, 22, 23, 24, 25, 26, 27, 28, 29, 10, 11, 12, 13, 14, 15, 16, 17, 18, 19, 30, 31, 32, 33, 34, 35, 36, 37, 38, 39] (by decide) rfl⟩
def ow_dm_X6_become : List Cond := Cond.code yX6_become cX6_become 3 none :: ([Cond.fieldLink RX6 14 "TimeMachine$Machine" "users" "[I", Cond.methodLink RX6 95 arraycopyName, .native arraycopyName, Cond.static arraycopyName, Cond.initialized "java/lang/System", Cond.fieldLink RX6 17 "TimeMachine$Machine" "page" "[I", Cond.fieldLink RX6 52 "TimeMachine$Machine" "framesUsed" "I", Cond.fieldLink RX6 20 "TimeMachine$Machine" "reg" "[I", Cond.fieldLink RX6 23 "TimeMachine$Machine" "saved" "[I", Cond.fieldLink RX6 26 "TimeMachine$Machine" "handler" "[I", Cond.fieldLink RX6 29 "TimeMachine$Machine" "self" "[I", Cond.fieldLink RX6 32 "TimeMachine$Machine" "sleep" "[J", Cond.fieldLink RX6 36 "TimeMachine$Machine" "random" "[I", Cond.fieldLink RX6 60 "TimeMachine$Machine" "randoms" "I", Cond.fieldLink RX6 42 "TimeMachine$Machine" "things" "LTimeMachine$Things;", Cond.methodLink RX6 101 yX10_become, Cond.instanceMethod yX10_become, Cond.selects RX10 yX10_become yX10_become, Cond.initialized RX10, Cond.fieldLink RX6 63 "TimeMachine$Machine" "waiting" "I", Cond.fieldLink RX6 66 "TimeMachine$Machine" "current" "I", Cond.fieldLink RX6 69 "TimeMachine$Machine" "last" "I", Cond.fieldLink RX6 72 "TimeMachine$Machine" "ticked" "I", Cond.fieldLink RX6 105 "TimeMachine$Machine" "reserved" "I", Cond.fieldLink RX6 75 "TimeMachine$Machine" "clock" "J", Cond.fieldLink RX6 79 "TimeMachine$Machine" "retired" "J", Cond.fieldLink RX6 82 "TimeMachine$Machine" "written" "I", Cond.fieldLink RX6 10 "TimeMachine$Machine" "word" "[I"] ++ (u_ws RX6 TX6 20 ++ (ow_dm_X10_become ++ [])))
theorem gd_dm_X6_become : ∀ w ∈ ow_dm_X6_become, (w.onTables && w.keeps) = true ∨ ∃ ty, w = Cond.arrayClass ty := List.forall_mem_cons.mpr ⟨good_of_word rfl, List.forall_mem_append.mpr ⟨fun w h => good_of_word (List.all_eq_true.mp (by decide +kernel) w h), List.forall_mem_append.mpr ⟨gu_X6, List.forall_mem_append.mpr ⟨gd_dm_X10_become, fun _ h => nomatch h⟩⟩⟩⟩
theorem hi_dm_X6_become_X6 : ∀ w ∈ u_ws RX6 TX6 20, w ∈ ow_dm_X6_become := fun w h => List.mem_cons_of_mem _ (List.mem_append_right _ (List.mem_append_left _ h))
theorem gi_dm_X6_become_0 : GoodIn ow_dm_X6_become (wsV RX6 101 RX10 yX10_become ow_dm_X10_become) := goodIn_app (goodIn_of _ (by decide +kernel)) (fun w h => ⟨List.mem_cons_of_mem _ (List.mem_append_right _ (List.mem_append_right _ (List.mem_append_left _ h))), gd_dm_X10_become w h⟩)
def dj_X6_become_42 (p : Program) (l : Launch) (e : Env) (s : State) (m : MethodId) (args : Array Value) (below : List Frame) (meth : Method) (c : Code) (Q : State → Prop) (A : Nat → Prop) (dC : Nat → ClassId) (dI : Nat → Nat → Nat) (a : Nat → Nat) (ac : Nat → ClassId) (g : Int32 → (St × (St × (St)) × (St × (St))) → Option (St × (St × (St)) × (St × (St)))) (r : St × (St × (St)) × (St × (St))) : Prop := ∀ (x2 : Int32) (s0 : St × (St × (St)) × (St × (St))) (H : Heap) (locs : List Loc) (ls : Array Slot), g x2 s0 = some r → va_P (dC, dI) vwCl (dw_X6m a ac s0) H → va_D A (dw_X6m a ac s0) → va_S A s.heap H locs → lv_has ls 3 [(0, .ref (a 0)), (1, .ref (a 20)), (2, .int x2)] → W p l e (headSpec ow_dm_X6_become ({ frames := 2, cells := 0, slots := 0, locals := 61 })).room s m args below meth c H locs 0 0 Q (F0 m 42 ls [])
def dj_X6_become_2 (p : Program) (l : Launch) (e : Env) (s : State) (m : MethodId) (args : Array Value) (below : List Frame) (meth : Method) (c : Code) (Q : State → Prop) (A : Nat → Prop) (dC : Nat → ClassId) (dI : Nat → Nat → Nat) (a : Nat → Nat) (ac : Nat → ClassId) (g : Int32 → (St × (St × (St)) × (St × (St))) → Option (St × (St × (St)) × (St × (St)))) (r : St × (St × (St)) × (St × (St))) : Prop := ∀ (x2 : Int32) (s0 : St × (St × (St)) × (St × (St))) (H : Heap) (locs : List Loc) (ls : Array Slot), g x2 s0 = some r → va_P (dC, dI) vwCl (dw_X6m a ac s0) H → va_D A (dw_X6m a ac s0) → va_S A s.heap H locs → lv_has ls 3 [(0, .ref (a 0)), (1, .ref (a 20)), (2, .int x2)] → W p l e (headSpec ow_dm_X6_become ({ frames := 2, cells := 0, slots := 0, locals := 61 })).room s m args below meth c H locs 0 0 Q (F0 m 2 ls [])
def dj_X6_become_0 (p : Program) (l : Launch) (e : Env) (s : State) (m : MethodId) (args : Array Value) (below : List Frame) (meth : Method) (c : Code) (Q : State → Prop) (A : Nat → Prop) (dC : Nat → ClassId) (dI : Nat → Nat → Nat) (a : Nat → Nat) (ac : Nat → ClassId) (g : (St × (St × (St)) × (St × (St))) → Option (St × (St × (St)) × (St × (St)))) (r : St × (St × (St)) × (St × (St))) : Prop := ∀ (s0 : St × (St × (St)) × (St × (St))) (H : Heap) (locs : List Loc) (ls : Array Slot), g s0 = some r → va_P (dC, dI) vwCl (dw_X6m a ac s0) H → va_D A (dw_X6m a ac s0) → va_S A s.heap H locs → lv_has ls 3 [(0, .ref (a 0)), (1, .ref (a 20))] → W p l e (headSpec ow_dm_X6_become ({ frames := 2, cells := 0, slots := 0, locals := 61 })).room s m args below meth c H locs 0 0 Q (F0 m 0 ls [])
set_option maxHeartbeats 40000000 in
set_option maxRecDepth 100000 in
theorem db_X6_become_42 {p : Program} {l : Launch} {e : Env} {s : State} {m : MethodId} {args : Array Value} {below : List Frame} {meth : Method} {c : Code} {Q : State → Prop} {A : Nat → Prop} {dC : Nat → ClassId} {dI : Nat → Nat → Nat} {a : Nat → Nat} {ac : Nat → ClassId} {n : Nat} {r : St × (St × (St)) × (St × (St))} (C : nd_C p l s m args c A (dC, dI) cX6_become 3 RX6 ow_dm_X6_become (dk_X6m ac)) (K : nd_Kv p l e (headSpec ow_dm_X6_become ({ frames := 2, cells := 0, slots := 0, locals := 61 })).room s m args below meth c Q A (dC, dI) cX6_become (St × (St × (St)) × (St × (St))) (dw_X6m a ac) r) {g2 : Int32 → (St × (St × (St)) × (St × (St))) → Option (St × (St × (St)) × (St × (St)))} (J2 : dj_X6_become_2 p l e s m args below meth c Q A dC dI a ac g2 r) : dj_X6_become_42 p l e s m args below meth c Q A dC dI a ac (df_X6_become_42 n g2) r := by
  obtain ⟨hlt, hx, hb, hml, hown, hts, hN, hA, hK⟩ := id C
  intro x2 s0 H locs ls h hP hD hS hl
  unfold df_X6_become_42 at h
  obtain ⟨z34, ez34, h⟩ := nd_let_e h
  refine lv_iinc (v := z34) (lv' := [(2, .int z34), (0, .ref (a 0)), (1, .ref (a 20))]) hx hb dX6_become_42 hl (k := 2) rfl (by rw [ez34]) (by decide) rfl (fun ls hl => ?_)
  refine lv_goto (tgt := 2) hx hb dX6_become_45 (by decide) ?_
  exact (J2) (z34) s0 _ _ _ h hP hD hS (lv_sub hl [1, 2, 0] rfl)
set_option maxHeartbeats 40000000 in
set_option maxRecDepth 100000 in
theorem dB_X6_become_2 {p : Program} {l : Launch} {e : Env} {s : State} {m : MethodId} {args : Array Value} {below : List Frame} {meth : Method} {c : Code} {Q : State → Prop} {A : Nat → Prop} {dC : Nat → ClassId} {dI : Nat → Nat → Nat} {a : Nat → Nat} {ac : Nat → ClassId} {n : Nat} {r : St × (St × (St)) × (St × (St))} (C : nd_C p l s m args c A (dC, dI) cX6_become 3 RX6 ow_dm_X6_become (dk_X6m ac)) (K : nd_Kv p l e (headSpec ow_dm_X6_become ({ frames := 2, cells := 0, slots := 0, locals := 61 })).room s m args below meth c Q A (dC, dI) cX6_become (St × (St × (St)) × (St × (St))) (dw_X6m a ac) r) {g2 : Int32 → (St × (St × (St)) × (St × (St))) → Option (St × (St × (St)) × (St × (St)))} (J2 : dj_X6_become_2 p l e s m args below meth c Q A dC dI a ac g2 r) : dj_X6_become_2 p l e s m args below meth c Q A dC dI a ac (dF_X6_become_2 n g2) r := by
  obtain ⟨hlt, hx, hb, hml, hown, hts, hN, hA, hK⟩ := id C
  intro x2 s0 H locs ls h hP hD hS hl
  unfold dF_X6_become_2 at h
  refine lv_iload_n hx hb dX6_become_2 rfl (lv_at hl 2 rfl) ?_
  refine lv_sipush (v := 256) hx hb dX6_become_3 (by decide) ?_
  refine lv_icmp_ge (tgt := 48) hx hb dX6_become_6 (by decide) (fun c1 => ?_) (fun c1 => ?_)
  · have h := nd_pos h c1
    refine lv_aload_n hx hb dX6_become_48 rfl (lv_at hl 1 rfl) ?_
    refine va_get (D := (dC, dI)) (ci := 7) (v := .ref (a 22)) (C := RX6) (T := TX6) (N := 20) hx hb hts hi_dm_X6_become_X6 hown hK hP 20 rfl rfl 1 (by decide) (hts (.fieldLink RX6 14 "TimeMachine$Machine" "users" "[I") (List.mem_of_getElem? (i := 1) rfl)) (fun _ h9 => h9) rfl dX6_become_49 ?_
    refine lv_iconst (v := 0) hx hb dX6_become_52 (by decide) ?_
    refine lv_aload_n hx hb dX6_become_53 rfl (lv_at hl 0 rfl) ?_
    refine va_get (D := (dC, dI)) (ci := 7) (v := .ref (a 2)) (C := RX6) (T := TX6) (N := 20) hx hb hts hi_dm_X6_become_X6 hown hK hP 0 rfl rfl 1 (by decide) (hts (.fieldLink RX6 14 "TimeMachine$Machine" "users" "[I") (List.mem_of_getElem? (i := 1) rfl)) (fun _ h9 => h9) rfl dX6_become_54 ?_
    refine lv_iconst (v := 0) hx hb dX6_become_57 (by decide) ?_
    refine lv_aload_n hx hb dX6_become_58 rfl (lv_at hl 0 rfl) ?_
    refine va_get (D := (dC, dI)) (ci := 7) (v := .ref (a 2)) (C := RX6) (T := TX6) (N := 20) hx hb hts hi_dm_X6_become_X6 hown hK hP 0 rfl rfl 1 (by decide) (hts (.fieldLink RX6 14 "TimeMachine$Machine" "users" "[I") (List.mem_of_getElem? (i := 1) rfl)) (fun _ h9 => h9) rfl dX6_become_59 ?_
    refine va_alen (v := 256) hx hb hK hP 2 1 rfl rfl (show Int32.ofNat 256 = 256 by decide) dX6_become_62 ?_
    obtain ⟨k2, h⟩ := nd_cp_e h
    refine va_copyi (sp := 0) (dp := 0) (n := 256) hx hb (by rw [hml]; exact hl.1.symm) hown (hts (.methodLink RX6 95 arraycopyName) (List.mem_of_getElem? (i := 2) rfl)) (hts (.native arraycopyName) (List.mem_of_getElem? (i := 3) rfl)) (hts (.static arraycopyName) (List.mem_of_getElem? (i := 4) rfl)) (hts (.initialized "java/lang/System") (List.mem_of_getElem? (i := 5) rfl)) hK hP hD hS 22 2 19 1 rfl rfl rfl rfl rfl k2.1 k2.2.1 k2.2.2.1 k2.2.2.2.1 k2.2.2.2.2 (fun _ _ => rfl) (Nat.le_of_ble_eq_true rfl) (by decide +kernel) dX6_become_63 (fun H locs hP hD hS => ?_)
    obtain ⟨s3, es3, h⟩ := nd_let_e h
    have hP : va_P (dC, dI) vwCl (dw_X6m a ac s3) H := by rw [es3]; exact hP
    have hD : va_D A (dw_X6m a ac s3) := by rw [es3]; exact hD
    refine lv_aload_n hx hb dX6_become_66 rfl (lv_at hl 1 rfl) ?_
    refine va_get (D := (dC, dI)) (ci := 7) (v := .ref (a 23)) (C := RX6) (T := TX6) (N := 20) hx hb hts hi_dm_X6_become_X6 hown hK hP 20 rfl rfl 2 (by decide) (hts (.fieldLink RX6 17 "TimeMachine$Machine" "page" "[I") (List.mem_of_getElem? (i := 6) rfl)) (fun _ h9 => h9) rfl dX6_become_67 ?_
    refine lv_iconst (v := 0) hx hb dX6_become_70 (by decide) ?_
    refine lv_aload_n hx hb dX6_become_71 rfl (lv_at hl 0 rfl) ?_
    refine va_get (D := (dC, dI)) (ci := 7) (v := .ref (a 3)) (C := RX6) (T := TX6) (N := 20) hx hb hts hi_dm_X6_become_X6 hown hK hP 0 rfl rfl 2 (by decide) (hts (.fieldLink RX6 17 "TimeMachine$Machine" "page" "[I") (List.mem_of_getElem? (i := 6) rfl)) (fun _ h9 => h9) rfl dX6_become_72 ?_
    refine lv_iconst (v := 0) hx hb dX6_become_75 (by decide) ?_
    refine lv_aload_n hx hb dX6_become_76 rfl (lv_at hl 0 rfl) ?_
    refine va_get (D := (dC, dI)) (ci := 7) (v := .ref (a 3)) (C := RX6) (T := TX6) (N := 20) hx hb hts hi_dm_X6_become_X6 hown hK hP 0 rfl rfl 2 (by decide) (hts (.fieldLink RX6 17 "TimeMachine$Machine" "page" "[I") (List.mem_of_getElem? (i := 6) rfl)) (fun _ h9 => h9) rfl dX6_become_77 ?_
    refine va_alen (v := 1024) hx hb hK hP 3 2 rfl rfl (show Int32.ofNat 1024 = 1024 by decide) dX6_become_80 ?_
    obtain ⟨k4, h⟩ := nd_cp_e h
    refine va_copyi (sp := 0) (dp := 0) (n := 1024) hx hb (by rw [hml]; exact hl.1.symm) hown (hts (.methodLink RX6 95 arraycopyName) (List.mem_of_getElem? (i := 2) rfl)) (hts (.native arraycopyName) (List.mem_of_getElem? (i := 3) rfl)) (hts (.static arraycopyName) (List.mem_of_getElem? (i := 4) rfl)) (hts (.initialized "java/lang/System") (List.mem_of_getElem? (i := 5) rfl)) hK hP hD hS 23 3 20 2 rfl rfl rfl rfl rfl k4.1 k4.2.1 k4.2.2.1 k4.2.2.2.1 k4.2.2.2.2 (fun _ _ => rfl) (Nat.le_of_ble_eq_true rfl) (by decide +kernel) dX6_become_81 (fun H locs hP hD hS => ?_)
    obtain ⟨s5, es5, h⟩ := nd_let_e h
    have hP : va_P (dC, dI) vwCl (dw_X6m a ac s5) H := by rw [es5]; exact hP
    have hD : va_D A (dw_X6m a ac s5) := by rw [es5]; exact hD
    refine lv_aload_n hx hb dX6_become_84 rfl (lv_at hl 0 rfl) ?_
    refine lv_aload_n hx hb dX6_become_85 rfl (lv_at hl 1 rfl) ?_
    refine va_get (D := (dC, dI)) (ci := 7) (v := .int (sI s5.2.2.1 0)) (C := RX6) (T := TX6) (N := 20) hx hb hts hi_dm_X6_become_X6 hown hK hP 20 rfl rfl 3 (by decide) (hts (.fieldLink RX6 52 "TimeMachine$Machine" "framesUsed" "I") (List.mem_of_getElem? (i := 7) rfl)) (fun _ h9 => h9) rfl dX6_become_86 ?_
    refine va_put (D := (dC, dI)) (ci := 7) (v := .int (sI s5.2.2.1 0)) (ty := .int) (C := RX6) (T := TX6) (N := 20) hx hb hts hi_dm_X6_become_X6 tyX6 tyX6_ok nmX6 hown hK hP hD hS 0 rfl rfl 3 (by decide) (hts (.fieldLink RX6 52 "TimeMachine$Machine" "framesUsed" "I") (List.mem_of_getElem? (i := 7) rfl)) (fun _ h9 => h9) rfl (by decide +kernel) rfl rfl (Nat.le_of_ble_eq_true rfl) dX6_become_89 (fun H locs hP hD hS => ?_)
    obtain ⟨s6, es6, h⟩ := nd_let_e h
    have hP : va_P (dC, dI) vwCl (dw_X6m a ac s6) H := by rw [es6]; exact hP
    have hD : va_D A (dw_X6m a ac s6) := by rw [es6]; exact hD
    refine lv_aload_n hx hb dX6_become_92 rfl (lv_at hl 1 rfl) ?_
    refine va_get (D := (dC, dI)) (ci := 7) (v := .ref (a 24)) (C := RX6) (T := TX6) (N := 20) hx hb hts hi_dm_X6_become_X6 hown hK hP 20 rfl rfl 4 (by decide) (hts (.fieldLink RX6 20 "TimeMachine$Machine" "reg" "[I") (List.mem_of_getElem? (i := 8) rfl)) (fun _ h9 => h9) rfl dX6_become_93 ?_
    refine lv_iconst (v := 0) hx hb dX6_become_96 (by decide) ?_
    refine lv_aload_n hx hb dX6_become_97 rfl (lv_at hl 0 rfl) ?_
    refine va_get (D := (dC, dI)) (ci := 7) (v := .ref (a 4)) (C := RX6) (T := TX6) (N := 20) hx hb hts hi_dm_X6_become_X6 hown hK hP 0 rfl rfl 4 (by decide) (hts (.fieldLink RX6 20 "TimeMachine$Machine" "reg" "[I") (List.mem_of_getElem? (i := 8) rfl)) (fun _ h9 => h9) rfl dX6_become_98 ?_
    refine lv_iconst (v := 0) hx hb dX6_become_101 (by decide) ?_
    refine lv_aload_n hx hb dX6_become_102 rfl (lv_at hl 0 rfl) ?_
    refine va_get (D := (dC, dI)) (ci := 7) (v := .ref (a 4)) (C := RX6) (T := TX6) (N := 20) hx hb hts hi_dm_X6_become_X6 hown hK hP 0 rfl rfl 4 (by decide) (hts (.fieldLink RX6 20 "TimeMachine$Machine" "reg" "[I") (List.mem_of_getElem? (i := 8) rfl)) (fun _ h9 => h9) rfl dX6_become_103 ?_
    refine va_alen (v := 528) hx hb hK hP 4 3 rfl rfl (show Int32.ofNat 528 = 528 by decide) dX6_become_106 ?_
    obtain ⟨k7, h⟩ := nd_cp_e h
    refine va_copyi (sp := 0) (dp := 0) (n := 528) hx hb (by rw [hml]; exact hl.1.symm) hown (hts (.methodLink RX6 95 arraycopyName) (List.mem_of_getElem? (i := 2) rfl)) (hts (.native arraycopyName) (List.mem_of_getElem? (i := 3) rfl)) (hts (.static arraycopyName) (List.mem_of_getElem? (i := 4) rfl)) (hts (.initialized "java/lang/System") (List.mem_of_getElem? (i := 5) rfl)) hK hP hD hS 24 4 21 3 rfl rfl rfl rfl rfl k7.1 k7.2.1 k7.2.2.1 k7.2.2.2.1 k7.2.2.2.2 (fun _ _ => rfl) (Nat.le_of_ble_eq_true rfl) (by decide +kernel) dX6_become_107 (fun H locs hP hD hS => ?_)
    obtain ⟨s8, es8, h⟩ := nd_let_e h
    have hP : va_P (dC, dI) vwCl (dw_X6m a ac s8) H := by rw [es8]; exact hP
    have hD : va_D A (dw_X6m a ac s8) := by rw [es8]; exact hD
    refine lv_aload_n hx hb dX6_become_110 rfl (lv_at hl 1 rfl) ?_
    refine va_get (D := (dC, dI)) (ci := 7) (v := .ref (a 25)) (C := RX6) (T := TX6) (N := 20) hx hb hts hi_dm_X6_become_X6 hown hK hP 20 rfl rfl 5 (by decide) (hts (.fieldLink RX6 23 "TimeMachine$Machine" "saved" "[I") (List.mem_of_getElem? (i := 9) rfl)) (fun _ h9 => h9) rfl dX6_become_111 ?_
    refine lv_iconst (v := 0) hx hb dX6_become_114 (by decide) ?_
    refine lv_aload_n hx hb dX6_become_115 rfl (lv_at hl 0 rfl) ?_
    refine va_get (D := (dC, dI)) (ci := 7) (v := .ref (a 5)) (C := RX6) (T := TX6) (N := 20) hx hb hts hi_dm_X6_become_X6 hown hK hP 0 rfl rfl 5 (by decide) (hts (.fieldLink RX6 23 "TimeMachine$Machine" "saved" "[I") (List.mem_of_getElem? (i := 9) rfl)) (fun _ h9 => h9) rfl dX6_become_116 ?_
    refine lv_iconst (v := 0) hx hb dX6_become_119 (by decide) ?_
    refine lv_aload_n hx hb dX6_become_120 rfl (lv_at hl 0 rfl) ?_
    refine va_get (D := (dC, dI)) (ci := 7) (v := .ref (a 5)) (C := RX6) (T := TX6) (N := 20) hx hb hts hi_dm_X6_become_X6 hown hK hP 0 rfl rfl 5 (by decide) (hts (.fieldLink RX6 23 "TimeMachine$Machine" "saved" "[I") (List.mem_of_getElem? (i := 9) rfl)) (fun _ h9 => h9) rfl dX6_become_121 ?_
    refine va_alen (v := 528) hx hb hK hP 5 4 rfl rfl (show Int32.ofNat 528 = 528 by decide) dX6_become_124 ?_
    obtain ⟨k9, h⟩ := nd_cp_e h
    refine va_copyi (sp := 0) (dp := 0) (n := 528) hx hb (by rw [hml]; exact hl.1.symm) hown (hts (.methodLink RX6 95 arraycopyName) (List.mem_of_getElem? (i := 2) rfl)) (hts (.native arraycopyName) (List.mem_of_getElem? (i := 3) rfl)) (hts (.static arraycopyName) (List.mem_of_getElem? (i := 4) rfl)) (hts (.initialized "java/lang/System") (List.mem_of_getElem? (i := 5) rfl)) hK hP hD hS 25 5 22 4 rfl rfl rfl rfl rfl k9.1 k9.2.1 k9.2.2.1 k9.2.2.2.1 k9.2.2.2.2 (fun _ _ => rfl) (Nat.le_of_ble_eq_true rfl) (by decide +kernel) dX6_become_125 (fun H locs hP hD hS => ?_)
    obtain ⟨s10, es10, h⟩ := nd_let_e h
    have hP : va_P (dC, dI) vwCl (dw_X6m a ac s10) H := by rw [es10]; exact hP
    have hD : va_D A (dw_X6m a ac s10) := by rw [es10]; exact hD
    refine lv_aload_n hx hb dX6_become_128 rfl (lv_at hl 1 rfl) ?_
    refine va_get (D := (dC, dI)) (ci := 7) (v := .ref (a 26)) (C := RX6) (T := TX6) (N := 20) hx hb hts hi_dm_X6_become_X6 hown hK hP 20 rfl rfl 6 (by decide) (hts (.fieldLink RX6 26 "TimeMachine$Machine" "handler" "[I") (List.mem_of_getElem? (i := 10) rfl)) (fun _ h9 => h9) rfl dX6_become_129 ?_
    refine lv_iconst (v := 0) hx hb dX6_become_132 (by decide) ?_
    refine lv_aload_n hx hb dX6_become_133 rfl (lv_at hl 0 rfl) ?_
    refine va_get (D := (dC, dI)) (ci := 7) (v := .ref (a 6)) (C := RX6) (T := TX6) (N := 20) hx hb hts hi_dm_X6_become_X6 hown hK hP 0 rfl rfl 6 (by decide) (hts (.fieldLink RX6 26 "TimeMachine$Machine" "handler" "[I") (List.mem_of_getElem? (i := 10) rfl)) (fun _ h9 => h9) rfl dX6_become_134 ?_
    refine lv_iconst (v := 0) hx hb dX6_become_137 (by decide) ?_
    refine lv_aload_n hx hb dX6_become_138 rfl (lv_at hl 0 rfl) ?_
    refine va_get (D := (dC, dI)) (ci := 7) (v := .ref (a 6)) (C := RX6) (T := TX6) (N := 20) hx hb hts hi_dm_X6_become_X6 hown hK hP 0 rfl rfl 6 (by decide) (hts (.fieldLink RX6 26 "TimeMachine$Machine" "handler" "[I") (List.mem_of_getElem? (i := 10) rfl)) (fun _ h9 => h9) rfl dX6_become_139 ?_
    refine va_alen (v := 256) hx hb hK hP 6 5 rfl rfl (show Int32.ofNat 256 = 256 by decide) dX6_become_142 ?_
    obtain ⟨k11, h⟩ := nd_cp_e h
    refine va_copyi (sp := 0) (dp := 0) (n := 256) hx hb (by rw [hml]; exact hl.1.symm) hown (hts (.methodLink RX6 95 arraycopyName) (List.mem_of_getElem? (i := 2) rfl)) (hts (.native arraycopyName) (List.mem_of_getElem? (i := 3) rfl)) (hts (.static arraycopyName) (List.mem_of_getElem? (i := 4) rfl)) (hts (.initialized "java/lang/System") (List.mem_of_getElem? (i := 5) rfl)) hK hP hD hS 26 6 23 5 rfl rfl rfl rfl rfl k11.1 k11.2.1 k11.2.2.1 k11.2.2.2.1 k11.2.2.2.2 (fun _ _ => rfl) (Nat.le_of_ble_eq_true rfl) (by decide +kernel) dX6_become_143 (fun H locs hP hD hS => ?_)
    obtain ⟨s12, es12, h⟩ := nd_let_e h
    have hP : va_P (dC, dI) vwCl (dw_X6m a ac s12) H := by rw [es12]; exact hP
    have hD : va_D A (dw_X6m a ac s12) := by rw [es12]; exact hD
    refine lv_aload_n hx hb dX6_become_146 rfl (lv_at hl 1 rfl) ?_
    refine va_get (D := (dC, dI)) (ci := 7) (v := .ref (a 27)) (C := RX6) (T := TX6) (N := 20) hx hb hts hi_dm_X6_become_X6 hown hK hP 20 rfl rfl 7 (by decide) (hts (.fieldLink RX6 29 "TimeMachine$Machine" "self" "[I") (List.mem_of_getElem? (i := 11) rfl)) (fun _ h9 => h9) rfl dX6_become_147 ?_
    refine lv_iconst (v := 0) hx hb dX6_become_150 (by decide) ?_
    refine lv_aload_n hx hb dX6_become_151 rfl (lv_at hl 0 rfl) ?_
    refine va_get (D := (dC, dI)) (ci := 7) (v := .ref (a 7)) (C := RX6) (T := TX6) (N := 20) hx hb hts hi_dm_X6_become_X6 hown hK hP 0 rfl rfl 7 (by decide) (hts (.fieldLink RX6 29 "TimeMachine$Machine" "self" "[I") (List.mem_of_getElem? (i := 11) rfl)) (fun _ h9 => h9) rfl dX6_become_152 ?_
    refine lv_iconst (v := 0) hx hb dX6_become_155 (by decide) ?_
    refine lv_aload_n hx hb dX6_become_156 rfl (lv_at hl 0 rfl) ?_
    refine va_get (D := (dC, dI)) (ci := 7) (v := .ref (a 7)) (C := RX6) (T := TX6) (N := 20) hx hb hts hi_dm_X6_become_X6 hown hK hP 0 rfl rfl 7 (by decide) (hts (.fieldLink RX6 29 "TimeMachine$Machine" "self" "[I") (List.mem_of_getElem? (i := 11) rfl)) (fun _ h9 => h9) rfl dX6_become_157 ?_
    refine va_alen (v := 112) hx hb hK hP 7 6 rfl rfl (show Int32.ofNat 112 = 112 by decide) dX6_become_160 ?_
    obtain ⟨k13, h⟩ := nd_cp_e h
    refine va_copyi (sp := 0) (dp := 0) (n := 112) hx hb (by rw [hml]; exact hl.1.symm) hown (hts (.methodLink RX6 95 arraycopyName) (List.mem_of_getElem? (i := 2) rfl)) (hts (.native arraycopyName) (List.mem_of_getElem? (i := 3) rfl)) (hts (.static arraycopyName) (List.mem_of_getElem? (i := 4) rfl)) (hts (.initialized "java/lang/System") (List.mem_of_getElem? (i := 5) rfl)) hK hP hD hS 27 7 24 6 rfl rfl rfl rfl rfl k13.1 k13.2.1 k13.2.2.1 k13.2.2.2.1 k13.2.2.2.2 (fun _ _ => rfl) (Nat.le_of_ble_eq_true rfl) (by decide +kernel) dX6_become_161 (fun H locs hP hD hS => ?_)
    obtain ⟨s14, es14, h⟩ := nd_let_e h
    have hP : va_P (dC, dI) vwCl (dw_X6m a ac s14) H := by rw [es14]; exact hP
    have hD : va_D A (dw_X6m a ac s14) := by rw [es14]; exact hD
    refine lv_aload_n hx hb dX6_become_164 rfl (lv_at hl 1 rfl) ?_
    refine va_get (D := (dC, dI)) (ci := 7) (v := .ref (a 28)) (C := RX6) (T := TX6) (N := 20) hx hb hts hi_dm_X6_become_X6 hown hK hP 20 rfl rfl 8 (by decide) (hts (.fieldLink RX6 32 "TimeMachine$Machine" "sleep" "[J") (List.mem_of_getElem? (i := 12) rfl)) (fun _ h9 => h9) rfl dX6_become_165 ?_
    refine lv_iconst (v := 0) hx hb dX6_become_168 (by decide) ?_
    refine lv_aload_n hx hb dX6_become_169 rfl (lv_at hl 0 rfl) ?_
    refine va_get (D := (dC, dI)) (ci := 7) (v := .ref (a 8)) (C := RX6) (T := TX6) (N := 20) hx hb hts hi_dm_X6_become_X6 hown hK hP 0 rfl rfl 8 (by decide) (hts (.fieldLink RX6 32 "TimeMachine$Machine" "sleep" "[J") (List.mem_of_getElem? (i := 12) rfl)) (fun _ h9 => h9) rfl dX6_become_170 ?_
    refine lv_iconst (v := 0) hx hb dX6_become_173 (by decide) ?_
    refine lv_aload_n hx hb dX6_become_174 rfl (lv_at hl 0 rfl) ?_
    refine va_get (D := (dC, dI)) (ci := 7) (v := .ref (a 8)) (C := RX6) (T := TX6) (N := 20) hx hb hts hi_dm_X6_become_X6 hown hK hP 0 rfl rfl 8 (by decide) (hts (.fieldLink RX6 32 "TimeMachine$Machine" "sleep" "[J") (List.mem_of_getElem? (i := 12) rfl)) (fun _ h9 => h9) rfl dX6_become_175 ?_
    refine va_alen (v := 16) hx hb hK hP 8 7 rfl rfl (show Int32.ofNat 16 = 16 by decide) dX6_become_178 ?_
    obtain ⟨k15, h⟩ := nd_cp_e h
    refine va_copyl (sp := 0) (dp := 0) (n := 16) hx hb (by rw [hml]; exact hl.1.symm) hown (hts (.methodLink RX6 95 arraycopyName) (List.mem_of_getElem? (i := 2) rfl)) (hts (.native arraycopyName) (List.mem_of_getElem? (i := 3) rfl)) (hts (.static arraycopyName) (List.mem_of_getElem? (i := 4) rfl)) (hts (.initialized "java/lang/System") (List.mem_of_getElem? (i := 5) rfl)) hK hP hD hS 28 8 25 7 rfl rfl rfl rfl rfl k15.1 k15.2.1 k15.2.2.1 k15.2.2.2.1 k15.2.2.2.2 (fun _ _ => rfl) (Nat.le_of_ble_eq_true rfl) (by decide +kernel) dX6_become_179 (fun H locs hP hD hS => ?_)
    obtain ⟨s16, es16, h⟩ := nd_let_e h
    have hP : va_P (dC, dI) vwCl (dw_X6m a ac s16) H := by rw [es16]; exact hP
    have hD : va_D A (dw_X6m a ac s16) := by rw [es16]; exact hD
    refine lv_aload_n hx hb dX6_become_182 rfl (lv_at hl 1 rfl) ?_
    refine va_get (D := (dC, dI)) (ci := 7) (v := .ref (a 29)) (C := RX6) (T := TX6) (N := 20) hx hb hts hi_dm_X6_become_X6 hown hK hP 20 rfl rfl 9 (by decide) (hts (.fieldLink RX6 36 "TimeMachine$Machine" "random" "[I") (List.mem_of_getElem? (i := 13) rfl)) (fun _ h9 => h9) rfl dX6_become_183 ?_
    refine lv_iconst (v := 0) hx hb dX6_become_186 (by decide) ?_
    refine lv_aload_n hx hb dX6_become_187 rfl (lv_at hl 0 rfl) ?_
    refine va_get (D := (dC, dI)) (ci := 7) (v := .ref (a 9)) (C := RX6) (T := TX6) (N := 20) hx hb hts hi_dm_X6_become_X6 hown hK hP 0 rfl rfl 9 (by decide) (hts (.fieldLink RX6 36 "TimeMachine$Machine" "random" "[I") (List.mem_of_getElem? (i := 13) rfl)) (fun _ h9 => h9) rfl dX6_become_188 ?_
    refine lv_iconst (v := 0) hx hb dX6_become_191 (by decide) ?_
    refine lv_aload_n hx hb dX6_become_192 rfl (lv_at hl 0 rfl) ?_
    refine va_get (D := (dC, dI)) (ci := 7) (v := .ref (a 9)) (C := RX6) (T := TX6) (N := 20) hx hb hts hi_dm_X6_become_X6 hown hK hP 0 rfl rfl 9 (by decide) (hts (.fieldLink RX6 36 "TimeMachine$Machine" "random" "[I") (List.mem_of_getElem? (i := 13) rfl)) (fun _ h9 => h9) rfl dX6_become_193 ?_
    refine va_alen (v := 16) hx hb hK hP 9 8 rfl rfl (show Int32.ofNat 16 = 16 by decide) dX6_become_196 ?_
    obtain ⟨k17, h⟩ := nd_cp_e h
    refine va_copyi (sp := 0) (dp := 0) (n := 16) hx hb (by rw [hml]; exact hl.1.symm) hown (hts (.methodLink RX6 95 arraycopyName) (List.mem_of_getElem? (i := 2) rfl)) (hts (.native arraycopyName) (List.mem_of_getElem? (i := 3) rfl)) (hts (.static arraycopyName) (List.mem_of_getElem? (i := 4) rfl)) (hts (.initialized "java/lang/System") (List.mem_of_getElem? (i := 5) rfl)) hK hP hD hS 29 9 26 8 rfl rfl rfl rfl rfl k17.1 k17.2.1 k17.2.2.1 k17.2.2.2.1 k17.2.2.2.2 (fun _ _ => rfl) (Nat.le_of_ble_eq_true rfl) (by decide +kernel) dX6_become_197 (fun H locs hP hD hS => ?_)
    obtain ⟨s18, es18, h⟩ := nd_let_e h
    have hP : va_P (dC, dI) vwCl (dw_X6m a ac s18) H := by rw [es18]; exact hP
    have hD : va_D A (dw_X6m a ac s18) := by rw [es18]; exact hD
    refine lv_aload_n hx hb dX6_become_200 rfl (lv_at hl 0 rfl) ?_
    refine lv_aload_n hx hb dX6_become_201 rfl (lv_at hl 1 rfl) ?_
    refine va_get (D := (dC, dI)) (ci := 7) (v := .int (sI s18.2.2.1 1)) (C := RX6) (T := TX6) (N := 20) hx hb hts hi_dm_X6_become_X6 hown hK hP 20 rfl rfl 10 (by decide) (hts (.fieldLink RX6 60 "TimeMachine$Machine" "randoms" "I") (List.mem_of_getElem? (i := 14) rfl)) (fun _ h9 => h9) rfl dX6_become_202 ?_
    refine va_put (D := (dC, dI)) (ci := 7) (v := .int (sI s18.2.2.1 1)) (ty := .int) (C := RX6) (T := TX6) (N := 20) hx hb hts hi_dm_X6_become_X6 tyX6 tyX6_ok nmX6 hown hK hP hD hS 0 rfl rfl 10 (by decide) (hts (.fieldLink RX6 60 "TimeMachine$Machine" "randoms" "I") (List.mem_of_getElem? (i := 14) rfl)) (fun _ h9 => h9) rfl (by decide +kernel) rfl rfl (Nat.le_of_ble_eq_true rfl) dX6_become_205 (fun H locs hP hD hS => ?_)
    obtain ⟨s19, es19, h⟩ := nd_let_e h
    have hP : va_P (dC, dI) vwCl (dw_X6m a ac s19) H := by rw [es19]; exact hP
    have hD : va_D A (dw_X6m a ac s19) := by rw [es19]; exact hD
    refine lv_aload_n hx hb dX6_become_208 rfl (lv_at hl 0 rfl) ?_
    refine va_get (D := (dC, dI)) (ci := 7) (v := .ref (a 10)) (C := RX6) (T := TX6) (N := 20) hx hb hts hi_dm_X6_become_X6 hown hK hP 0 rfl rfl 11 (by decide) (hts (.fieldLink RX6 42 "TimeMachine$Machine" "things" "LTimeMachine$Things;") (List.mem_of_getElem? (i := 15) rfl)) (fun _ h9 => h9) rfl dX6_become_209 ?_
    refine lv_aload_n hx hb dX6_become_212 rfl (lv_at hl 1 rfl) ?_
    refine va_get (D := (dC, dI)) (ci := 7) (v := .ref (a 30)) (C := RX6) (T := TX6) (N := 20) hx hb hts hi_dm_X6_become_X6 hown hK hP 20 rfl rfl 11 (by decide) (hts (.fieldLink RX6 42 "TimeMachine$Machine" "things" "LTimeMachine$Things;") (List.mem_of_getElem? (i := 15) rfl)) (fun _ h9 => h9) rfl dX6_become_213 ?_
    obtain ⟨s21, hq, h⟩ := nd_b1_e h
    have hPc := dp_vX6m_X10m_0 hP
    have hDc := dd_vX6m_X10m_0 hD
    have hKc := dy_vX6m_X10m_0 hK
    have hFc := nd_rs hDc hS hA
    have hzA : ∀ q : Nat, H.size ≤ q → A q := fun q h => hA q (Nat.le_trans hS.1 h)
    refine nd_cVv (As := [.ref (a 30)]) (rest := []) (w' := dw_X10m (fun k => a (nd_ix [10, 11, 12, 13, 14, 15, 16, 17, 18, 19, 30, 31, 32, 33, 34, 35, 36, 37, 38, 39] k)) (fun k => ac (nd_ix [10, 11, 12, 13, 14, 15, 16, 17, 18, 19, 30, 31, 32, 33, 34, 35, 36, 37, 38, 39] k)) s21) ⟨hx, hb, hml, hown, hts⟩ (fun sz => dm_X10_become l hlt dC dI (fun k => a (nd_ix [10, 11, 12, 13, 14, 15, 16, 17, 18, 19, 30, 31, 32, 33, 34, 35, 36, 37, 38, 39] k)) (fun k => ac (nd_ix [10, 11, 12, 13, 14, 15, 16, 17, 18, 19, 30, 31, 32, 33, 34, 35, 36, 37, 38, 39] k)) n  (nd_st0, s19.2.1.2, s19.2.2.2) hq sz) (cwV 1 hts gi_dm_X6_become_0 rfl rfl rfl (by decide +kernel) ⟨Nat.le_of_ble_eq_true rfl, Nat.le_of_ble_eq_true rfl⟩) hPc hDc hKc hS hA hN (va_recv hKc hPc (ci := 11) (q0 := 0) rfl rfl) rfl hl.1 rfl (Nat.le_of_ble_eq_true rfl) dX6_become_216 (fun H locs hP1 hD1 hk1 hS => ?_)
    obtain ⟨hP, hD⟩ := dn_vX6m_X10m_0 hP hD hzA hk1 hP1 hD1
    obtain ⟨s23, es23, h⟩ := nd_let_e h
    have hP : va_P (dC, dI) vwCl (dw_X6m a ac s23) H := by rw [es23]; exact hP
    have hD : va_D A (dw_X6m a ac s23) := by rw [es23]; exact hD
    refine lv_aload_n hx hb dX6_become_219 rfl (lv_at hl 0 rfl) ?_
    refine lv_aload_n hx hb dX6_become_220 rfl (lv_at hl 1 rfl) ?_
    refine va_get (D := (dC, dI)) (ci := 7) (v := .int (sI s23.2.2.1 2)) (C := RX6) (T := TX6) (N := 20) hx hb hts hi_dm_X6_become_X6 hown hK hP 20 rfl rfl 12 (by decide) (hts (.fieldLink RX6 63 "TimeMachine$Machine" "waiting" "I") (List.mem_of_getElem? (i := 20) rfl)) (fun _ h9 => h9) rfl dX6_become_221 ?_
    refine va_put (D := (dC, dI)) (ci := 7) (v := .int (sI s23.2.2.1 2)) (ty := .int) (C := RX6) (T := TX6) (N := 20) hx hb hts hi_dm_X6_become_X6 tyX6 tyX6_ok nmX6 hown hK hP hD hS 0 rfl rfl 12 (by decide) (hts (.fieldLink RX6 63 "TimeMachine$Machine" "waiting" "I") (List.mem_of_getElem? (i := 20) rfl)) (fun _ h9 => h9) rfl (by decide +kernel) rfl rfl (Nat.le_of_ble_eq_true rfl) dX6_become_224 (fun H locs hP hD hS => ?_)
    obtain ⟨s24, es24, h⟩ := nd_let_e h
    have hP : va_P (dC, dI) vwCl (dw_X6m a ac s24) H := by rw [es24]; exact hP
    have hD : va_D A (dw_X6m a ac s24) := by rw [es24]; exact hD
    refine lv_aload_n hx hb dX6_become_227 rfl (lv_at hl 0 rfl) ?_
    refine lv_aload_n hx hb dX6_become_228 rfl (lv_at hl 1 rfl) ?_
    refine va_get (D := (dC, dI)) (ci := 7) (v := .int (sI s24.2.2.1 3)) (C := RX6) (T := TX6) (N := 20) hx hb hts hi_dm_X6_become_X6 hown hK hP 20 rfl rfl 13 (by decide) (hts (.fieldLink RX6 66 "TimeMachine$Machine" "current" "I") (List.mem_of_getElem? (i := 21) rfl)) (fun _ h9 => h9) rfl dX6_become_229 ?_
    refine va_put (D := (dC, dI)) (ci := 7) (v := .int (sI s24.2.2.1 3)) (ty := .int) (C := RX6) (T := TX6) (N := 20) hx hb hts hi_dm_X6_become_X6 tyX6 tyX6_ok nmX6 hown hK hP hD hS 0 rfl rfl 13 (by decide) (hts (.fieldLink RX6 66 "TimeMachine$Machine" "current" "I") (List.mem_of_getElem? (i := 21) rfl)) (fun _ h9 => h9) rfl (by decide +kernel) rfl rfl (Nat.le_of_ble_eq_true rfl) dX6_become_232 (fun H locs hP hD hS => ?_)
    obtain ⟨s25, es25, h⟩ := nd_let_e h
    have hP : va_P (dC, dI) vwCl (dw_X6m a ac s25) H := by rw [es25]; exact hP
    have hD : va_D A (dw_X6m a ac s25) := by rw [es25]; exact hD
    refine lv_aload_n hx hb dX6_become_235 rfl (lv_at hl 0 rfl) ?_
    refine lv_aload_n hx hb dX6_become_236 rfl (lv_at hl 1 rfl) ?_
    refine va_get (D := (dC, dI)) (ci := 7) (v := .int (sI s25.2.2.1 4)) (C := RX6) (T := TX6) (N := 20) hx hb hts hi_dm_X6_become_X6 hown hK hP 20 rfl rfl 14 (by decide) (hts (.fieldLink RX6 69 "TimeMachine$Machine" "last" "I") (List.mem_of_getElem? (i := 22) rfl)) (fun _ h9 => h9) rfl dX6_become_237 ?_
    refine va_put (D := (dC, dI)) (ci := 7) (v := .int (sI s25.2.2.1 4)) (ty := .int) (C := RX6) (T := TX6) (N := 20) hx hb hts hi_dm_X6_become_X6 tyX6 tyX6_ok nmX6 hown hK hP hD hS 0 rfl rfl 14 (by decide) (hts (.fieldLink RX6 69 "TimeMachine$Machine" "last" "I") (List.mem_of_getElem? (i := 22) rfl)) (fun _ h9 => h9) rfl (by decide +kernel) rfl rfl (Nat.le_of_ble_eq_true rfl) dX6_become_240 (fun H locs hP hD hS => ?_)
    obtain ⟨s26, es26, h⟩ := nd_let_e h
    have hP : va_P (dC, dI) vwCl (dw_X6m a ac s26) H := by rw [es26]; exact hP
    have hD : va_D A (dw_X6m a ac s26) := by rw [es26]; exact hD
    refine lv_aload_n hx hb dX6_become_243 rfl (lv_at hl 0 rfl) ?_
    refine lv_aload_n hx hb dX6_become_244 rfl (lv_at hl 1 rfl) ?_
    refine va_get (D := (dC, dI)) (ci := 7) (v := .int (sI s26.2.2.1 5)) (C := RX6) (T := TX6) (N := 20) hx hb hts hi_dm_X6_become_X6 hown hK hP 20 rfl rfl 15 (by decide) (hts (.fieldLink RX6 72 "TimeMachine$Machine" "ticked" "I") (List.mem_of_getElem? (i := 23) rfl)) (fun _ h9 => h9) rfl dX6_become_245 ?_
    refine va_put (D := (dC, dI)) (ci := 7) (v := .int (sI s26.2.2.1 5)) (ty := .int) (C := RX6) (T := TX6) (N := 20) hx hb hts hi_dm_X6_become_X6 tyX6 tyX6_ok nmX6 hown hK hP hD hS 0 rfl rfl 15 (by decide) (hts (.fieldLink RX6 72 "TimeMachine$Machine" "ticked" "I") (List.mem_of_getElem? (i := 23) rfl)) (fun _ h9 => h9) rfl (by decide +kernel) rfl rfl (Nat.le_of_ble_eq_true rfl) dX6_become_248 (fun H locs hP hD hS => ?_)
    obtain ⟨s27, es27, h⟩ := nd_let_e h
    have hP : va_P (dC, dI) vwCl (dw_X6m a ac s27) H := by rw [es27]; exact hP
    have hD : va_D A (dw_X6m a ac s27) := by rw [es27]; exact hD
    refine lv_aload_n hx hb dX6_become_251 rfl (lv_at hl 0 rfl) ?_
    refine lv_aload_n hx hb dX6_become_252 rfl (lv_at hl 1 rfl) ?_
    refine va_get (D := (dC, dI)) (ci := 7) (v := .int (sI s27.2.2.1 6)) (C := RX6) (T := TX6) (N := 20) hx hb hts hi_dm_X6_become_X6 hown hK hP 20 rfl rfl 16 (by decide) (hts (.fieldLink RX6 105 "TimeMachine$Machine" "reserved" "I") (List.mem_of_getElem? (i := 24) rfl)) (fun _ h9 => h9) rfl dX6_become_253 ?_
    refine va_put (D := (dC, dI)) (ci := 7) (v := .int (sI s27.2.2.1 6)) (ty := .int) (C := RX6) (T := TX6) (N := 20) hx hb hts hi_dm_X6_become_X6 tyX6 tyX6_ok nmX6 hown hK hP hD hS 0 rfl rfl 16 (by decide) (hts (.fieldLink RX6 105 "TimeMachine$Machine" "reserved" "I") (List.mem_of_getElem? (i := 24) rfl)) (fun _ h9 => h9) rfl (by decide +kernel) rfl rfl (Nat.le_of_ble_eq_true rfl) dX6_become_256 (fun H locs hP hD hS => ?_)
    obtain ⟨s28, es28, h⟩ := nd_let_e h
    have hP : va_P (dC, dI) vwCl (dw_X6m a ac s28) H := by rw [es28]; exact hP
    have hD : va_D A (dw_X6m a ac s28) := by rw [es28]; exact hD
    refine lv_aload_n hx hb dX6_become_259 rfl (lv_at hl 0 rfl) ?_
    refine lv_aload_n hx hb dX6_become_260 rfl (lv_at hl 1 rfl) ?_
    refine va_get (D := (dC, dI)) (ci := 7) (v := .long (sL s28.2.2.1 0)) (C := RX6) (T := TX6) (N := 20) hx hb hts hi_dm_X6_become_X6 hown hK hP 20 rfl rfl 17 (by decide) (hts (.fieldLink RX6 75 "TimeMachine$Machine" "clock" "J") (List.mem_of_getElem? (i := 25) rfl)) (fun _ h9 => h9) rfl dX6_become_261 ?_
    refine va_put (D := (dC, dI)) (ci := 7) (v := .long (sL s28.2.2.1 0)) (ty := .long) (C := RX6) (T := TX6) (N := 20) hx hb hts hi_dm_X6_become_X6 tyX6 tyX6_ok nmX6 hown hK hP hD hS 0 rfl rfl 17 (by decide) (hts (.fieldLink RX6 75 "TimeMachine$Machine" "clock" "J") (List.mem_of_getElem? (i := 25) rfl)) (fun _ h9 => h9) rfl (by decide +kernel) rfl rfl (Nat.le_of_ble_eq_true rfl) dX6_become_264 (fun H locs hP hD hS => ?_)
    obtain ⟨s29, es29, h⟩ := nd_let_e h
    have hP : va_P (dC, dI) vwCl (dw_X6m a ac s29) H := by rw [es29]; exact hP
    have hD : va_D A (dw_X6m a ac s29) := by rw [es29]; exact hD
    refine lv_aload_n hx hb dX6_become_267 rfl (lv_at hl 0 rfl) ?_
    refine lv_aload_n hx hb dX6_become_268 rfl (lv_at hl 1 rfl) ?_
    refine va_get (D := (dC, dI)) (ci := 7) (v := .long (sL s29.2.2.1 1)) (C := RX6) (T := TX6) (N := 20) hx hb hts hi_dm_X6_become_X6 hown hK hP 20 rfl rfl 18 (by decide) (hts (.fieldLink RX6 79 "TimeMachine$Machine" "retired" "J") (List.mem_of_getElem? (i := 26) rfl)) (fun _ h9 => h9) rfl dX6_become_269 ?_
    refine va_put (D := (dC, dI)) (ci := 7) (v := .long (sL s29.2.2.1 1)) (ty := .long) (C := RX6) (T := TX6) (N := 20) hx hb hts hi_dm_X6_become_X6 tyX6 tyX6_ok nmX6 hown hK hP hD hS 0 rfl rfl 18 (by decide) (hts (.fieldLink RX6 79 "TimeMachine$Machine" "retired" "J") (List.mem_of_getElem? (i := 26) rfl)) (fun _ h9 => h9) rfl (by decide +kernel) rfl rfl (Nat.le_of_ble_eq_true rfl) dX6_become_272 (fun H locs hP hD hS => ?_)
    obtain ⟨s30, es30, h⟩ := nd_let_e h
    have hP : va_P (dC, dI) vwCl (dw_X6m a ac s30) H := by rw [es30]; exact hP
    have hD : va_D A (dw_X6m a ac s30) := by rw [es30]; exact hD
    refine lv_aload_n hx hb dX6_become_275 rfl (lv_at hl 0 rfl) ?_
    refine lv_aload_n hx hb dX6_become_276 rfl (lv_at hl 1 rfl) ?_
    refine va_get (D := (dC, dI)) (ci := 7) (v := .int (sI s30.2.2.1 7)) (C := RX6) (T := TX6) (N := 20) hx hb hts hi_dm_X6_become_X6 hown hK hP 20 rfl rfl 19 (by decide) (hts (.fieldLink RX6 82 "TimeMachine$Machine" "written" "I") (List.mem_of_getElem? (i := 27) rfl)) (fun _ h9 => h9) rfl dX6_become_277 ?_
    refine va_put (D := (dC, dI)) (ci := 7) (v := .int (sI s30.2.2.1 7)) (ty := .int) (C := RX6) (T := TX6) (N := 20) hx hb hts hi_dm_X6_become_X6 tyX6 tyX6_ok nmX6 hown hK hP hD hS 0 rfl rfl 19 (by decide) (hts (.fieldLink RX6 82 "TimeMachine$Machine" "written" "I") (List.mem_of_getElem? (i := 27) rfl)) (fun _ h9 => h9) rfl (by decide +kernel) rfl rfl (Nat.le_of_ble_eq_true rfl) dX6_become_280 (fun H locs hP hD hS => ?_)
    obtain ⟨s31, es31, h⟩ := nd_let_e h
    have hP : va_P (dC, dI) vwCl (dw_X6m a ac s31) H := by rw [es31]; exact hP
    have hD : va_D A (dw_X6m a ac s31) := by rw [es31]; exact hD
    exact K _ _ _ _ _ dX6_become_283 (Option.some.inj h).symm hP hD hS
  · have h := nd_neg h c1
    refine lv_aload_n hx hb dX6_become_9 rfl (lv_at hl 1 rfl) ?_
    refine va_get (D := (dC, dI)) (ci := 7) (v := .ref (a 22)) (C := RX6) (T := TX6) (N := 20) hx hb hts hi_dm_X6_become_X6 hown hK hP 20 rfl rfl 1 (by decide) (hts (.fieldLink RX6 14 "TimeMachine$Machine" "users" "[I") (List.mem_of_getElem? (i := 1) rfl)) (fun _ h9 => h9) rfl dX6_become_10 ?_
    refine lv_iload_n hx hb dX6_become_13 rfl (lv_at hl 2 rfl) ?_
    obtain ⟨i32, h⟩ := nd_ck_e h
    refine va_iald (i := x2) hx hb hK hP 22 19 rfl rfl i32 dX6_become_14 ?_
    refine lv_if_le (tgt := 42) hx hb dX6_become_15 (by decide) (fun c33 => ?_) (fun c33 => ?_)
    · have h := nd_pos h c33
      exact (db_X6_become_42 C K J2) (x2) s0 _ _ _ h hP hD hS (lv_sub hl [0, 1, 2] rfl)
    · have h := nd_neg h c33
      refine lv_aload_n hx hb dX6_become_18 rfl (lv_at hl 1 rfl) ?_
      refine va_get (D := (dC, dI)) (ci := 7) (v := .ref (a 21)) (C := RX6) (T := TX6) (N := 20) hx hb hts hi_dm_X6_become_X6 hown hK hP 20 rfl rfl 0 (by decide) (hts (.fieldLink RX6 10 "TimeMachine$Machine" "word" "[I") (List.mem_of_getElem? (i := 28) rfl)) (fun _ h9 => h9) rfl dX6_become_19 ?_
      refine lv_iload_n hx hb dX6_become_22 rfl (lv_at hl 2 rfl) ?_
      refine lv_sipush (v := 256) hx hb dX6_become_23 (by decide) ?_
      refine lv_imul hx hb dX6_become_26 ?_
      refine lv_aload_n hx hb dX6_become_27 rfl (lv_at hl 0 rfl) ?_
      refine va_get (D := (dC, dI)) (ci := 7) (v := .ref (a 1)) (C := RX6) (T := TX6) (N := 20) hx hb hts hi_dm_X6_become_X6 hown hK hP 0 rfl rfl 0 (by decide) (hts (.fieldLink RX6 10 "TimeMachine$Machine" "word" "[I") (List.mem_of_getElem? (i := 28) rfl)) (fun _ h9 => h9) rfl dX6_become_28 ?_
      refine lv_iload_n hx hb dX6_become_31 rfl (lv_at hl 2 rfl) ?_
      refine lv_sipush (v := 256) hx hb dX6_become_32 (by decide) ?_
      refine lv_imul hx hb dX6_become_35 ?_
      refine lv_sipush (v := 256) hx hb dX6_become_36 (by decide) ?_
      obtain ⟨k35, h⟩ := nd_cp_e h
      refine va_copyi (sp := (x2 * 256)) (dp := (x2 * 256)) (n := 256) hx hb (by rw [hml]; exact hl.1.symm) hown (hts (.methodLink RX6 95 arraycopyName) (List.mem_of_getElem? (i := 2) rfl)) (hts (.native arraycopyName) (List.mem_of_getElem? (i := 3) rfl)) (hts (.static arraycopyName) (List.mem_of_getElem? (i := 4) rfl)) (hts (.initialized "java/lang/System") (List.mem_of_getElem? (i := 5) rfl)) hK hP hD hS 21 1 18 0 rfl rfl rfl rfl rfl k35.1 k35.2.1 k35.2.2.1 k35.2.2.2.1 k35.2.2.2.2 (fun _ _ => rfl) (Nat.le_of_ble_eq_true rfl) (by decide +kernel) dX6_become_39 (fun H locs hP hD hS => ?_)
      obtain ⟨s36, es36, h⟩ := nd_let_e h
      have hP : va_P (dC, dI) vwCl (dw_X6m a ac s36) H := by rw [es36]; exact hP
      have hD : va_D A (dw_X6m a ac s36) := by rw [es36]; exact hD
      exact (db_X6_become_42 C K J2) (x2) s36 _ _ _ h hP hD hS (lv_sub hl [0, 1, 2] rfl)
set_option maxHeartbeats 40000000 in
set_option maxRecDepth 100000 in
theorem db_X6_become_2 {p : Program} {l : Launch} {e : Env} {s : State} {m : MethodId} {args : Array Value} {below : List Frame} {meth : Method} {c : Code} {Q : State → Prop} {A : Nat → Prop} {dC : Nat → ClassId} {dI : Nat → Nat → Nat} {a : Nat → Nat} {ac : Nat → ClassId} {n : Nat} {r : St × (St × (St)) × (St × (St))} (C : nd_C p l s m args c A (dC, dI) cX6_become 3 RX6 ow_dm_X6_become (dk_X6m ac)) (K : nd_Kv p l e (headSpec ow_dm_X6_become ({ frames := 2, cells := 0, slots := 0, locals := 61 })).room s m args below meth c Q A (dC, dI) cX6_become (St × (St × (St)) × (St × (St))) (dw_X6m a ac) r) (k : Nat) : dj_X6_become_2 p l e s m args below meth c Q A dC dI a ac (df_X6_become_2 n k) r := by
  induction k with
  | zero => intro x2 s0 H locs ls h; exact nomatch (show (none : Option (St × (St × (St)) × (St × (St)))) = some r from h)
  | succ k ih => exact dB_X6_become_2 C K ih
set_option maxHeartbeats 40000000 in
set_option maxRecDepth 100000 in
theorem db_X6_become_0 {p : Program} {l : Launch} {e : Env} {s : State} {m : MethodId} {args : Array Value} {below : List Frame} {meth : Method} {c : Code} {Q : State → Prop} {A : Nat → Prop} {dC : Nat → ClassId} {dI : Nat → Nat → Nat} {a : Nat → Nat} {ac : Nat → ClassId} {n : Nat} {r : St × (St × (St)) × (St × (St))} (C : nd_C p l s m args c A (dC, dI) cX6_become 3 RX6 ow_dm_X6_become (dk_X6m ac)) (K : nd_Kv p l e (headSpec ow_dm_X6_become ({ frames := 2, cells := 0, slots := 0, locals := 61 })).room s m args below meth c Q A (dC, dI) cX6_become (St × (St × (St)) × (St × (St))) (dw_X6m a ac) r) : dj_X6_become_0 p l e s m args below meth c Q A dC dI a ac (df_X6_become_0 n) r := by
  obtain ⟨hlt, hx, hb, hml, hown, hts, hN, hA, hK⟩ := id C
  intro s0 H locs ls h hP hD hS hl
  unfold df_X6_become_0 at h
  refine lv_iconst (v := 0) hx hb dX6_become_0 (by decide) ?_
  refine lv_istore_n (lv' := [(2, .int 0), (0, .ref (a 0)), (1, .ref (a 20))]) hx hb dX6_become_1 rfl hl (by decide) rfl (fun ls hl => ?_)
  exact (db_X6_become_2 C K n) (0) s0 _ _ _ h hP hD hS (lv_sub hl [1, 2, 0] rfl)
set_option maxHeartbeats 40000000 in
set_option maxRecDepth 100000 in
theorem dm_X6_become (l : Launch) (hlt : l.stackTraces = false) (dC : Nat → ClassId) (dI : Nat → Nat → Nat) (a : Nat → Nat) (ac : Nat → ClassId) (n : Nat) (s0 : St × (St × (St)) × (St × (St))) {r : St × (St × (St)) × (St × (St))} (h : df_X6_become n s0 = some r) (sz : Nat) : Met l yX6_become ow_dm_X6_become ({ frames := 2, cells := 0, slots := 0, locals := 61 }) (va_Pc [.ref (a 0), .ref (a 20)] (fun U => U.heap.size = sz ∧ va_P (dC, dI) vwCl (dw_X6m a ac s0) U.heap ∧ va_K (dC, dI) vwCl (dk_X6m ac) U ∧ va_D (fun _ => True) (dw_X6m a ac s0) ∧ nv_E dI (va_A (dw_X6m a ac s0) sz) U)) (va_Qv (fun _ => True) (fun (_ : Unit) t => va_P (dC, dI) vwCl (dw_X6m a ac r) t.heap ∧ va_K (dC, dI) vwCl (dk_X6m ac) t ∧ va_D (va_A (dw_X6m a ac s0) sz) (dw_X6m a ac r)) (va_A (dw_X6m a ac s0) sz)) 0 0 (va_A (dw_X6m a ac s0) sz) := by
  refine Met.ofW (cc := cX6_become) (maxL := 3) (ret := none) (by decide) rfl ?_
  intro p e s m args below meth c s₁ B hml hv
  obtain ⟨rfl, hsz, hP, hK, hD0, hN⟩ := hv
  have hx := B.exec
  have hb := B.bytes
  have hr := B.returns
  have hts := atoms_spec (ws := ow_dm_X6_become) B.pre
  have hown : s.vm.findClass RX6 = some m.cls := findClass_of_methodNamed B.named
  have hlocks := B.notSynchronized
  subst hsz
  have hD := hD0.self (sz := s.heap.size)
  generalize hAe : va_A (dw_X6m a ac s0) s.heap.size = A at hD hN ⊢
  have hA : ∀ q : Nat, s.heap.size ≤ q → A q := fun q h => by rw [← hAe]; exact Or.inr h
  have hl := lv_entry ([.ref (a 0), .ref (a 20)]) (n := 3) (Nat.le_of_ble_eq_true rfl)
  rw [lg_entry_eq]
  generalize (lg_sl ([.ref (a 0), .ref (a 20)]) ++ List.replicate (3 - (lg_sl ([.ref (a 0), .ref (a 20)])).length) Slot.unset).toArray = ls at hl ⊢
  have hl : lv_has ls 3 [(0, .ref (a 0)), (1, .ref (a 20))] := hl
  exact db_X6_become_0 (dC := dC) (dI := dI) (a := a) (ac := ac) (n := n) (r := r) ⟨hlt, hx, hb, hml, hown, hts, hN, hA, hK⟩ (fun pc τ H locs ls d er hP hD hS => by subst er; exact W.vret hx hb hr (fun t ht hW => ⟨⟨(), rfl, trivial, by rw [ht]; exact hP, va_K.moved hW.alike hK, hD⟩, hS.F ht⟩) hS.2.2 d) s0 _ _ _ h hP hD va_S.rf (lv_sub hl [0, 1] rfl)
def ow_dm_X6_mayAll : List Cond := Cond.code yX6_mayAll cX6_mayAll 5 (some .boolean) :: ([Cond.methodLink RX6 108 yX6_may, Cond.instanceMethod yX6_may, Cond.selects RX6 yX6_may yX6_may, Cond.initialized RX6] ++ (ow_dm_X6_may ++ []))
theorem gd_dm_X6_mayAll : ∀ w ∈ ow_dm_X6_mayAll, (w.onTables && w.keeps) = true ∨ ∃ ty, w = Cond.arrayClass ty := List.forall_mem_cons.mpr ⟨good_of_word rfl, List.forall_mem_append.mpr ⟨fun w h => good_of_word (List.all_eq_true.mp (by decide +kernel) w h), List.forall_mem_append.mpr ⟨gd_dm_X6_may, fun _ h => nomatch h⟩⟩⟩
theorem gi_dm_X6_mayAll_0 : GoodIn ow_dm_X6_mayAll (wsV RX6 108 RX6 yX6_may ow_dm_X6_may) := goodIn_app (goodIn_of _ (by decide +kernel)) (fun w h => ⟨List.mem_cons_of_mem _ (List.mem_append_right _ (List.mem_append_left _ h)), gd_dm_X6_may w h⟩)
def dj_X6_mayAll_35 (p : Program) (l : Launch) (e : Env) (s : State) (m : MethodId) (args : Array Value) (below : List Frame) (meth : Method) (c : Code) (Q : State → Prop) (A : Nat → Prop) (dC : Nat → ClassId) (dI : Nat → Nat → Nat) (a : Nat → Nat) (ac : Nat → ClassId) (g : Int32 → (St × (St)) → Option (Int32 × (St × (St)))) (r : Int32 × (St × (St))) : Prop := ∀ (y0 : Int32) (s0 : St × (St)) (H : Heap) (locs : List Loc) (ls : Array Slot), g y0 s0 = some r → va_P (dC, dI) vwCl (dw_X6 a ac s0) H → va_D A (dw_X6 a ac s0) → va_S A s.heap H locs → lv_has ls 5 [] → W p l e (headSpec ow_dm_X6_mayAll ({ frames := 1, cells := 0, slots := 0, locals := 23 })).room s m args below meth c H locs 0 0 Q (F0 m 35 ls [.int y0])
def dj_X6_mayAll_30 (p : Program) (l : Launch) (e : Env) (s : State) (m : MethodId) (args : Array Value) (below : List Frame) (meth : Method) (c : Code) (Q : State → Prop) (A : Nat → Prop) (dC : Nat → ClassId) (dI : Nat → Nat → Nat) (a : Nat → Nat) (ac : Nat → ClassId) (g : (St × (St)) → Option (Int32 × (St × (St)))) (r : Int32 × (St × (St))) : Prop := ∀ (s0 : St × (St)) (H : Heap) (locs : List Loc) (ls : Array Slot), g s0 = some r → va_P (dC, dI) vwCl (dw_X6 a ac s0) H → va_D A (dw_X6 a ac s0) → va_S A s.heap H locs → lv_has ls 5 [] → W p l e (headSpec ow_dm_X6_mayAll ({ frames := 1, cells := 0, slots := 0, locals := 23 })).room s m args below meth c H locs 0 0 Q (F0 m 30 ls [])
def dj_X6_mayAll_34 (p : Program) (l : Launch) (e : Env) (s : State) (m : MethodId) (args : Array Value) (below : List Frame) (meth : Method) (c : Code) (Q : State → Prop) (A : Nat → Prop) (dC : Nat → ClassId) (dI : Nat → Nat → Nat) (a : Nat → Nat) (ac : Nat → ClassId) (g : (St × (St)) → Option (Int32 × (St × (St)))) (r : Int32 × (St × (St))) : Prop := ∀ (s0 : St × (St)) (H : Heap) (locs : List Loc) (ls : Array Slot), g s0 = some r → va_P (dC, dI) vwCl (dw_X6 a ac s0) H → va_D A (dw_X6 a ac s0) → va_S A s.heap H locs → lv_has ls 5 [] → W p l e (headSpec ow_dm_X6_mayAll ({ frames := 1, cells := 0, slots := 0, locals := 23 })).room s m args below meth c H locs 0 0 Q (F0 m 34 ls [])
def dj_X6_mayAll_0 (p : Program) (l : Launch) (e : Env) (s : State) (m : MethodId) (args : Array Value) (below : List Frame) (meth : Method) (c : Code) (Q : State → Prop) (A : Nat → Prop) (dC : Nat → ClassId) (dI : Nat → Nat → Nat) (a : Nat → Nat) (ac : Nat → ClassId) (g : Int32 → Int32 → Int32 → Int32 → (St × (St)) → Option (Int32 × (St × (St)))) (r : Int32 × (St × (St))) : Prop := ∀ (v0 : Int32) (v1 : Int32) (v2 : Int32) (v3 : Int32) (s0 : St × (St)) (H : Heap) (locs : List Loc) (ls : Array Slot), g v0 v1 v2 v3 s0 = some r → va_P (dC, dI) vwCl (dw_X6 a ac s0) H → va_D A (dw_X6 a ac s0) → va_S A s.heap H locs → lv_has ls 5 [(0, .ref (a 0)), (1, .int v0), (2, .int v1), (3, .int v2), (4, .int v3)] → W p l e (headSpec ow_dm_X6_mayAll ({ frames := 1, cells := 0, slots := 0, locals := 23 })).room s m args below meth c H locs 0 0 Q (F0 m 0 ls [])
set_option maxHeartbeats 40000000 in
set_option maxRecDepth 100000 in
theorem db_X6_mayAll_35 {p : Program} {l : Launch} {e : Env} {s : State} {m : MethodId} {args : Array Value} {below : List Frame} {meth : Method} {c : Code} {Q : State → Prop} {A : Nat → Prop} {dC : Nat → ClassId} {dI : Nat → Nat → Nat} {a : Nat → Nat} {ac : Nat → ClassId} {n : Nat} {r : Int32 × (St × (St))} (C : nd_C p l s m args c A (dC, dI) cX6_mayAll 5 RX6 ow_dm_X6_mayAll (dk_X6 ac)) (K : nd_Ki p l e (headSpec ow_dm_X6_mayAll ({ frames := 1, cells := 0, slots := 0, locals := 23 })).room s m args below meth c Q A (dC, dI) cX6_mayAll .boolean (St × (St)) (dw_X6 a ac) r) : dj_X6_mayAll_35 p l e s m args below meth c Q A dC dI a ac (df_X6_mayAll_35 n) r := by
  obtain ⟨hlt, hx, hb, hml, hown, hts, hN, hA, hK⟩ := id C
  intro y0 s0 H locs ls h hP hD hS hl
  unfold df_X6_mayAll_35 at h
  obtain ⟨n2, h⟩ := nd_z_e ⟨_, rfl⟩ h
  exact K _ _ _ _ _ _ dX6_mayAll_35 n2 (Option.some.inj h).symm hP hD hS
set_option maxHeartbeats 40000000 in
set_option maxRecDepth 100000 in
theorem db_X6_mayAll_30 {p : Program} {l : Launch} {e : Env} {s : State} {m : MethodId} {args : Array Value} {below : List Frame} {meth : Method} {c : Code} {Q : State → Prop} {A : Nat → Prop} {dC : Nat → ClassId} {dI : Nat → Nat → Nat} {a : Nat → Nat} {ac : Nat → ClassId} {n : Nat} {r : Int32 × (St × (St))} (C : nd_C p l s m args c A (dC, dI) cX6_mayAll 5 RX6 ow_dm_X6_mayAll (dk_X6 ac)) (K : nd_Ki p l e (headSpec ow_dm_X6_mayAll ({ frames := 1, cells := 0, slots := 0, locals := 23 })).room s m args below meth c Q A (dC, dI) cX6_mayAll .boolean (St × (St)) (dw_X6 a ac) r) : dj_X6_mayAll_30 p l e s m args below meth c Q A dC dI a ac (df_X6_mayAll_30 n) r := by
  obtain ⟨hlt, hx, hb, hml, hown, hts, hN, hA, hK⟩ := id C
  intro s0 H locs ls h hP hD hS hl
  unfold df_X6_mayAll_30 at h
  refine lv_iconst (v := 1) hx hb dX6_mayAll_30 (by decide) ?_
  refine lv_goto (tgt := 35) hx hb dX6_mayAll_31 (by decide) ?_
  exact (db_X6_mayAll_35 C K) (1) s0 _ _ _ h hP hD hS (lv_sub hl [] rfl)
set_option maxHeartbeats 40000000 in
set_option maxRecDepth 100000 in
theorem db_X6_mayAll_34 {p : Program} {l : Launch} {e : Env} {s : State} {m : MethodId} {args : Array Value} {below : List Frame} {meth : Method} {c : Code} {Q : State → Prop} {A : Nat → Prop} {dC : Nat → ClassId} {dI : Nat → Nat → Nat} {a : Nat → Nat} {ac : Nat → ClassId} {n : Nat} {r : Int32 × (St × (St))} (C : nd_C p l s m args c A (dC, dI) cX6_mayAll 5 RX6 ow_dm_X6_mayAll (dk_X6 ac)) (K : nd_Ki p l e (headSpec ow_dm_X6_mayAll ({ frames := 1, cells := 0, slots := 0, locals := 23 })).room s m args below meth c Q A (dC, dI) cX6_mayAll .boolean (St × (St)) (dw_X6 a ac) r) : dj_X6_mayAll_34 p l e s m args below meth c Q A dC dI a ac (df_X6_mayAll_34 n) r := by
  obtain ⟨hlt, hx, hb, hml, hown, hts, hN, hA, hK⟩ := id C
  intro s0 H locs ls h hP hD hS hl
  unfold df_X6_mayAll_34 at h
  refine lv_iconst (v := 0) hx hb dX6_mayAll_34 (by decide) ?_
  exact (db_X6_mayAll_35 C K) (0) s0 _ _ _ h hP hD hS (lv_sub hl [] rfl)
set_option maxHeartbeats 40000000 in
set_option maxRecDepth 100000 in
theorem db_X6_mayAll_0 {p : Program} {l : Launch} {e : Env} {s : State} {m : MethodId} {args : Array Value} {below : List Frame} {meth : Method} {c : Code} {Q : State → Prop} {A : Nat → Prop} {dC : Nat → ClassId} {dI : Nat → Nat → Nat} {a : Nat → Nat} {ac : Nat → ClassId} {n : Nat} {r : Int32 × (St × (St))} (C : nd_C p l s m args c A (dC, dI) cX6_mayAll 5 RX6 ow_dm_X6_mayAll (dk_X6 ac)) (K : nd_Ki p l e (headSpec ow_dm_X6_mayAll ({ frames := 1, cells := 0, slots := 0, locals := 23 })).room s m args below meth c Q A (dC, dI) cX6_mayAll .boolean (St × (St)) (dw_X6 a ac) r) : dj_X6_mayAll_0 p l e s m args below meth c Q A dC dI a ac (df_X6_mayAll_0 n) r := by
  obtain ⟨hlt, hx, hb, hml, hown, hts, hN, hA, hK⟩ := id C
  intro v0 v1 v2 v3 s0 H locs ls h hP hD hS hl
  unfold df_X6_mayAll_0 at h
  refine lv_iload_n hx hb dX6_mayAll_0 rfl (lv_at hl 3 rfl) ?_
  refine lv_if_le (tgt := 30) hx hb dX6_mayAll_1 (by decide) (fun c1 => ?_) (fun c1 => ?_)
  · have h := nd_pos h c1
    exact (db_X6_mayAll_30 C K)  s0 _ _ _ h hP hD hS (lv_sub hl [] rfl)
  · have h := nd_neg h c1
    refine lv_aload_n hx hb dX6_mayAll_4 rfl (lv_at hl 0 rfl) ?_
    refine lv_iload_n hx hb dX6_mayAll_5 rfl (lv_at hl 1 rfl) ?_
    refine lv_iload_n hx hb dX6_mayAll_6 rfl (lv_at hl 2 rfl) ?_
    refine lv_iload hx hb dX6_mayAll_7 (lv_at hl 4 rfl) ?_
    obtain ⟨q3, s4, hq, h⟩ := nd_b2_e h
    have hPc := hP
    have hDc := hD
    have hKc := hK
    have hFc := nd_rs hD hS hA
    refine nd_cVi (As := [.int v0, .int v1, .int v3]) (rest := []) (q := q3) (w' := dw_X6 a ac s4) ⟨hx, hb, hml, hown, hts⟩ (fun sz => dm_X6_may l hlt dC dI a ac n (v0) (v1) (v3) s0 hq sz) (cwV 3 hts gi_dm_X6_mayAll_0 rfl rfl rfl (by decide +kernel) ⟨Nat.le_of_ble_eq_true rfl, Nat.le_of_ble_eq_true rfl⟩) hPc hDc hKc hS hA hN (va_recv hKc hPc (ci := 7) (q0 := 0) rfl rfl) rfl hl.1 rfl (Nat.le_of_ble_eq_true rfl) dX6_mayAll_9 (fun H locs hP1 hD1 hk1 hS => ?_)
    have hP := hP1
    have hD := hD1.weaken (fun k q _ h => hFc q.1 h)
    refine lv_if_eq (tgt := 34) hx hb dX6_mayAll_12 (by decide) (fun c6 => ?_) (fun c6 => ?_)
    · have h := nd_pos h c6
      exact (db_X6_mayAll_34 C K)  s4 _ _ _ h hP hD hS (lv_sub hl [] rfl)
    · have h := nd_neg h c6
      refine lv_aload_n hx hb dX6_mayAll_15 rfl (lv_at hl 0 rfl) ?_
      refine lv_iload_n hx hb dX6_mayAll_16 rfl (lv_at hl 1 rfl) ?_
      refine lv_iload_n hx hb dX6_mayAll_17 rfl (lv_at hl 2 rfl) ?_
      refine lv_iload_n hx hb dX6_mayAll_18 rfl (lv_at hl 3 rfl) ?_
      refine lv_iadd hx hb dX6_mayAll_19 ?_
      refine lv_iconst (v := 1) hx hb dX6_mayAll_20 (by decide) ?_
      refine lv_isub hx hb dX6_mayAll_21 ?_
      refine lv_iload hx hb dX6_mayAll_22 (lv_at hl 4 rfl) ?_
      obtain ⟨q7, s8, hq, h⟩ := nd_b2_e h
      have hPc := hP
      have hDc := hD
      have hKc := hK
      have hFc := nd_rs hD hS hA
      refine nd_cVi (As := [.int v0, .int ((v1 + v2) - 1), .int v3]) (rest := []) (q := q7) (w' := dw_X6 a ac s8) ⟨hx, hb, hml, hown, hts⟩ (fun sz => dm_X6_may l hlt dC dI a ac n (v0) (((v1 + v2) - 1)) (v3) s4 hq sz) (cwV 3 hts gi_dm_X6_mayAll_0 rfl rfl rfl (by decide +kernel) ⟨Nat.le_of_ble_eq_true rfl, Nat.le_of_ble_eq_true rfl⟩) hPc hDc hKc hS hA hN (va_recv hKc hPc (ci := 7) (q0 := 0) rfl rfl) rfl hl.1 rfl (Nat.le_of_ble_eq_true rfl) dX6_mayAll_24 (fun H locs hP1 hD1 hk1 hS => ?_)
      have hP := hP1
      have hD := hD1.weaken (fun k q _ h => hFc q.1 h)
      refine lv_if_eq (tgt := 34) hx hb dX6_mayAll_27 (by decide) (fun c10 => ?_) (fun c10 => ?_)
      · have h := nd_pos h c10
        exact (db_X6_mayAll_34 C K)  s8 _ _ _ h hP hD hS (lv_sub hl [] rfl)
      · have h := nd_neg h c10
        exact (db_X6_mayAll_30 C K)  s8 _ _ _ h hP hD hS (lv_sub hl [] rfl)
set_option maxHeartbeats 40000000 in
set_option maxRecDepth 100000 in
theorem dm_X6_mayAll (l : Launch) (hlt : l.stackTraces = false) (dC : Nat → ClassId) (dI : Nat → Nat → Nat) (a : Nat → Nat) (ac : Nat → ClassId) (n : Nat) (v0 : Int32) (v1 : Int32) (v2 : Int32) (v3 : Int32) (s0 : St × (St)) {r : Int32 × (St × (St))} (h : df_X6_mayAll n v0 v1 v2 v3 s0 = some r) (sz : Nat) : Met l yX6_mayAll ow_dm_X6_mayAll ({ frames := 1, cells := 0, slots := 0, locals := 23 }) (va_Pc [.ref (a 0), .int v0, .int v1, .int v2, .int v3] (fun U => U.heap.size = sz ∧ va_P (dC, dI) vwCl (dw_X6 a ac s0) U.heap ∧ va_K (dC, dI) vwCl (dk_X6 ac) U ∧ va_D (fun _ => True) (dw_X6 a ac s0) ∧ nv_E dI (va_A (dw_X6 a ac s0) sz) U)) (va_Qi (fun x _ => x = r.1) (fun (_ : Unit) t => va_P (dC, dI) vwCl (dw_X6 a ac r.2) t.heap ∧ va_K (dC, dI) vwCl (dk_X6 ac) t ∧ va_D (va_A (dw_X6 a ac s0) sz) (dw_X6 a ac r.2)) (va_A (dw_X6 a ac s0) sz)) 0 0 (va_A (dw_X6 a ac s0) sz) := by
  refine Met.ofW (cc := cX6_mayAll) (maxL := 5) (ret := (some .boolean)) (by decide) rfl ?_
  intro p e s m args below meth c s₁ B hml hv
  obtain ⟨rfl, hsz, hP, hK, hD0, hN⟩ := hv
  have hx := B.exec
  have hb := B.bytes
  have hr := B.returns
  have hts := atoms_spec (ws := ow_dm_X6_mayAll) B.pre
  have hown : s.vm.findClass RX6 = some m.cls := findClass_of_methodNamed B.named
  have hlocks := B.notSynchronized
  subst hsz
  have hD := hD0.self (sz := s.heap.size)
  generalize hAe : va_A (dw_X6 a ac s0) s.heap.size = A at hD hN ⊢
  have hA : ∀ q : Nat, s.heap.size ≤ q → A q := fun q h => by rw [← hAe]; exact Or.inr h
  have hl := lv_entry ([.ref (a 0), .int v0, .int v1, .int v2, .int v3]) (n := 5) (Nat.le_of_ble_eq_true rfl)
  rw [lg_entry_eq]
  generalize (lg_sl ([.ref (a 0), .int v0, .int v1, .int v2, .int v3]) ++ List.replicate (5 - (lg_sl ([.ref (a 0), .int v0, .int v1, .int v2, .int v3])).length) Slot.unset).toArray = ls at hl ⊢
  have hl : lv_has ls 5 [(0, .ref (a 0)), (1, .int v0), (2, .int v1), (3, .int v2), (4, .int v3)] := hl
  exact db_X6_mayAll_0 (dC := dC) (dI := dI) (a := a) (ac := ac) (n := n) (r := r) ⟨hlt, hx, hb, hml, hown, hts, hN, hA, hK⟩ (fun pc v τ H locs ls d z er hP hD hS => by subst er; exact W.zret (v := v) hx hb hr z (fun t ht hW => ⟨⟨v, (), rfl, rfl, by rw [ht]; exact hP, va_K.moved hW.alike hK, hD⟩, hS.F ht⟩) hS.2.2 d) v0 v1 v2 v3 s0 _ _ _ h hP hD va_S.rf (lv_sub hl [0, 1, 2, 3, 4] rfl)
def ow_dm_X6_framesFree : List Cond := Cond.code yX6_framesFree cX6_framesFree 1 (some .int) :: ([Cond.fieldLink RX6 52 "TimeMachine$Machine" "framesUsed" "I"] ++ (u_ws RX6 TX6 20 ++ []))
theorem gd_dm_X6_framesFree : ∀ w ∈ ow_dm_X6_framesFree, (w.onTables && w.keeps) = true ∨ ∃ ty, w = Cond.arrayClass ty := List.forall_mem_cons.mpr ⟨good_of_word rfl, List.forall_mem_append.mpr ⟨fun w h => good_of_word (List.all_eq_true.mp (by decide +kernel) w h), List.forall_mem_append.mpr ⟨gu_X6, fun _ h => nomatch h⟩⟩⟩
theorem hi_dm_X6_framesFree_X6 : ∀ w ∈ u_ws RX6 TX6 20, w ∈ ow_dm_X6_framesFree := fun w h => List.mem_cons_of_mem _ (List.mem_append_right _ (List.mem_append_left _ h))
def dj_X6_framesFree_0 (p : Program) (l : Launch) (e : Env) (s : State) (m : MethodId) (args : Array Value) (below : List Frame) (meth : Method) (c : Code) (Q : State → Prop) (A : Nat → Prop) (dC : Nat → ClassId) (dI : Nat → Nat → Nat) (a : Nat → Nat) (ac : Nat → ClassId) (g : (St × (St)) → Option (Int32 × (St × (St)))) (r : Int32 × (St × (St))) : Prop := ∀ (s0 : St × (St)) (H : Heap) (locs : List Loc) (ls : Array Slot), g s0 = some r → va_P (dC, dI) vwCl (dw_X6 a ac s0) H → va_D A (dw_X6 a ac s0) → va_S A s.heap H locs → lv_has ls 1 [(0, .ref (a 0))] → W p l e (headSpec ow_dm_X6_framesFree ({ frames := 0, cells := 0, slots := 0, locals := 0 })).room s m args below meth c H locs 0 0 Q (F0 m 0 ls [])
set_option maxHeartbeats 40000000 in
set_option maxRecDepth 100000 in
theorem db_X6_framesFree_0 {p : Program} {l : Launch} {e : Env} {s : State} {m : MethodId} {args : Array Value} {below : List Frame} {meth : Method} {c : Code} {Q : State → Prop} {A : Nat → Prop} {dC : Nat → ClassId} {dI : Nat → Nat → Nat} {a : Nat → Nat} {ac : Nat → ClassId} {n : Nat} {r : Int32 × (St × (St))} (C : nd_C p l s m args c A (dC, dI) cX6_framesFree 1 RX6 ow_dm_X6_framesFree (dk_X6 ac)) (K : nd_Ki p l e (headSpec ow_dm_X6_framesFree ({ frames := 0, cells := 0, slots := 0, locals := 0 })).room s m args below meth c Q A (dC, dI) cX6_framesFree .int (St × (St)) (dw_X6 a ac) r) : dj_X6_framesFree_0 p l e s m args below meth c Q A dC dI a ac (df_X6_framesFree_0 n) r := by
  obtain ⟨hlt, hx, hb, hml, hown, hts, hN, hA, hK⟩ := id C
  intro s0 H locs ls h hP hD hS hl
  unfold df_X6_framesFree_0 at h
  refine lv_sipush (v := 256) hx hb dX6_framesFree_0 (by decide) ?_
  refine lv_aload_n hx hb dX6_framesFree_3 rfl (lv_at hl 0 rfl) ?_
  refine va_get (D := (dC, dI)) (ci := 7) (v := .int (sI s0.1 0)) (C := RX6) (T := TX6) (N := 20) hx hb hts hi_dm_X6_framesFree_X6 hown hK hP 0 rfl rfl 3 (by decide) (hts (.fieldLink RX6 52 "TimeMachine$Machine" "framesUsed" "I") (List.mem_of_getElem? (i := 1) rfl)) (fun _ h9 => h9) rfl dX6_framesFree_4 ?_
  refine lv_isub hx hb dX6_framesFree_7 ?_
  exact K _ _ _ _ _ _ dX6_framesFree_8 rfl (Option.some.inj h).symm hP hD hS
set_option maxHeartbeats 40000000 in
set_option maxRecDepth 100000 in
theorem dm_X6_framesFree (l : Launch) (hlt : l.stackTraces = false) (dC : Nat → ClassId) (dI : Nat → Nat → Nat) (a : Nat → Nat) (ac : Nat → ClassId) (n : Nat) (s0 : St × (St)) {r : Int32 × (St × (St))} (h : df_X6_framesFree n s0 = some r) (sz : Nat) : Met l yX6_framesFree ow_dm_X6_framesFree ({ frames := 0, cells := 0, slots := 0, locals := 0 }) (va_Pc [.ref (a 0)] (fun U => U.heap.size = sz ∧ va_P (dC, dI) vwCl (dw_X6 a ac s0) U.heap ∧ va_K (dC, dI) vwCl (dk_X6 ac) U ∧ va_D (fun _ => True) (dw_X6 a ac s0) ∧ nv_E dI (va_A (dw_X6 a ac s0) sz) U)) (va_Qi (fun x _ => x = r.1) (fun (_ : Unit) t => va_P (dC, dI) vwCl (dw_X6 a ac r.2) t.heap ∧ va_K (dC, dI) vwCl (dk_X6 ac) t ∧ va_D (va_A (dw_X6 a ac s0) sz) (dw_X6 a ac r.2)) (va_A (dw_X6 a ac s0) sz)) 0 0 (va_A (dw_X6 a ac s0) sz) := by
  refine Met.ofW (cc := cX6_framesFree) (maxL := 1) (ret := (some .int)) (by decide) rfl ?_
  intro p e s m args below meth c s₁ B hml hv
  obtain ⟨rfl, hsz, hP, hK, hD0, hN⟩ := hv
  have hx := B.exec
  have hb := B.bytes
  have hr := B.returns
  have hts := atoms_spec (ws := ow_dm_X6_framesFree) B.pre
  have hown : s.vm.findClass RX6 = some m.cls := findClass_of_methodNamed B.named
  have hlocks := B.notSynchronized
  subst hsz
  have hD := hD0.self (sz := s.heap.size)
  generalize hAe : va_A (dw_X6 a ac s0) s.heap.size = A at hD hN ⊢
  have hA : ∀ q : Nat, s.heap.size ≤ q → A q := fun q h => by rw [← hAe]; exact Or.inr h
  have hl := lv_entry ([.ref (a 0)]) (n := 1) (Nat.le_of_ble_eq_true rfl)
  rw [lg_entry_eq]
  generalize (lg_sl ([.ref (a 0)]) ++ List.replicate (1 - (lg_sl ([.ref (a 0)])).length) Slot.unset).toArray = ls at hl ⊢
  have hl : lv_has ls 1 [(0, .ref (a 0))] := hl
  exact db_X6_framesFree_0 (dC := dC) (dI := dI) (a := a) (ac := ac) (n := n) (r := r) ⟨hlt, hx, hb, hml, hown, hts, hN, hA, hK⟩ (fun pc v τ H locs ls d z er hP hD hS => by subst er; exact W.zret (v := v) hx hb hr z (fun t ht hW => ⟨⟨v, (), rfl, rfl, by rw [ht]; exact hP, va_K.moved hW.alike hK, hD⟩, hS.F ht⟩) hS.2.2 d) s0 _ _ _ h hP hD va_S.rf (lv_sub hl [0] rfl)
def ow_dm_X6_framesFor : List Cond := Cond.code yX6_framesFor cX6_framesFor 7 (some .int) :: ([Cond.fieldLink RX6 14 "TimeMachine$Machine" "users" "[I", Cond.fieldLink RX6 17 "TimeMachine$Machine" "page" "[I"] ++ (u_ws RX6 TX6 20 ++ []))
theorem gd_dm_X6_framesFor : ∀ w ∈ ow_dm_X6_framesFor, (w.onTables && w.keeps) = true ∨ ∃ ty, w = Cond.arrayClass ty := List.forall_mem_cons.mpr ⟨good_of_word rfl, List.forall_mem_append.mpr ⟨fun w h => good_of_word (List.all_eq_true.mp (by decide +kernel) w h), List.forall_mem_append.mpr ⟨gu_X6, fun _ h => nomatch h⟩⟩⟩
theorem hi_dm_X6_framesFor_X6 : ∀ w ∈ u_ws RX6 TX6 20, w ∈ ow_dm_X6_framesFor := fun w h => List.mem_cons_of_mem _ (List.mem_append_right _ (List.mem_append_left _ h))
def dj_X6_framesFor_97 (p : Program) (l : Launch) (e : Env) (s : State) (m : MethodId) (args : Array Value) (below : List Frame) (meth : Method) (c : Code) (Q : State → Prop) (A : Nat → Prop) (dC : Nat → ClassId) (dI : Nat → Nat → Nat) (a : Nat → Nat) (ac : Nat → ClassId) (g : Int32 → (St × (St)) → Option (Int32 × (St × (St)))) (r : Int32 × (St × (St))) : Prop := ∀ (y0 : Int32) (s0 : St × (St)) (H : Heap) (locs : List Loc) (ls : Array Slot), g y0 s0 = some r → va_P (dC, dI) vwCl (dw_X6 a ac s0) H → va_D A (dw_X6 a ac s0) → va_S A s.heap H locs → lv_has ls 7 [] → W p l e (headSpec ow_dm_X6_framesFor ({ frames := 0, cells := 0, slots := 0, locals := 0 })).room s m args below meth c H locs 0 0 Q (F0 m 97 ls [.int y0])
def dj_X6_framesFor_95 (p : Program) (l : Launch) (e : Env) (s : State) (m : MethodId) (args : Array Value) (below : List Frame) (meth : Method) (c : Code) (Q : State → Prop) (A : Nat → Prop) (dC : Nat → ClassId) (dI : Nat → Nat → Nat) (a : Nat → Nat) (ac : Nat → ClassId) (g : Int32 → (St × (St)) → Option (Int32 × (St × (St)))) (r : Int32 × (St × (St))) : Prop := ∀ (x6 : Int32) (s0 : St × (St)) (H : Heap) (locs : List Loc) (ls : Array Slot), g x6 s0 = some r → va_P (dC, dI) vwCl (dw_X6 a ac s0) H → va_D A (dw_X6 a ac s0) → va_S A s.heap H locs → lv_has ls 7 [(6, .int x6)] → W p l e (headSpec ow_dm_X6_framesFor ({ frames := 0, cells := 0, slots := 0, locals := 0 })).room s m args below meth c H locs 0 0 Q (F0 m 95 ls [])
def dj_X6_framesFor_61 (p : Program) (l : Launch) (e : Env) (s : State) (m : MethodId) (args : Array Value) (below : List Frame) (meth : Method) (c : Code) (Q : State → Prop) (A : Nat → Prop) (dC : Nat → ClassId) (dI : Nat → Nat → Nat) (a : Nat → Nat) (ac : Nat → ClassId) (g : Int32 → Int32 → Int32 → (St × (St)) → Option (Int32 × (St × (St)))) (r : Int32 × (St × (St))) : Prop := ∀ (x4 : Int32) (x5 : Int32) (y0 : Int32) (s0 : St × (St)) (H : Heap) (locs : List Loc) (ls : Array Slot), g x4 x5 y0 s0 = some r → va_P (dC, dI) vwCl (dw_X6 a ac s0) H → va_D A (dw_X6 a ac s0) → va_S A s.heap H locs → lv_has ls 7 [(0, .ref (a 0)), (4, .int x4), (5, .int x5)] → W p l e (headSpec ow_dm_X6_framesFor ({ frames := 0, cells := 0, slots := 0, locals := 0 })).room s m args below meth c H locs 0 0 Q (F0 m 61 ls [.int y0])
def dj_X6_framesFor_0 (p : Program) (l : Launch) (e : Env) (s : State) (m : MethodId) (args : Array Value) (below : List Frame) (meth : Method) (c : Code) (Q : State → Prop) (A : Nat → Prop) (dC : Nat → ClassId) (dI : Nat → Nat → Nat) (a : Nat → Nat) (ac : Nat → ClassId) (g : Int32 → Int32 → Int32 → (St × (St)) → Option (Int32 × (St × (St)))) (r : Int32 × (St × (St))) : Prop := ∀ (v0 : Int32) (v1 : Int32) (v2 : Int32) (s0 : St × (St)) (H : Heap) (locs : List Loc) (ls : Array Slot), g v0 v1 v2 s0 = some r → va_P (dC, dI) vwCl (dw_X6 a ac s0) H → va_D A (dw_X6 a ac s0) → va_S A s.heap H locs → lv_has ls 7 [(0, .ref (a 0)), (1, .int v0), (2, .int v1), (3, .int v2)] → W p l e (headSpec ow_dm_X6_framesFor ({ frames := 0, cells := 0, slots := 0, locals := 0 })).room s m args below meth c H locs 0 0 Q (F0 m 0 ls [])
set_option maxHeartbeats 40000000 in
set_option maxRecDepth 100000 in
theorem db_X6_framesFor_97 {p : Program} {l : Launch} {e : Env} {s : State} {m : MethodId} {args : Array Value} {below : List Frame} {meth : Method} {c : Code} {Q : State → Prop} {A : Nat → Prop} {dC : Nat → ClassId} {dI : Nat → Nat → Nat} {a : Nat → Nat} {ac : Nat → ClassId} {n : Nat} {r : Int32 × (St × (St))} (C : nd_C p l s m args c A (dC, dI) cX6_framesFor 7 RX6 ow_dm_X6_framesFor (dk_X6 ac)) (K : nd_Ki p l e (headSpec ow_dm_X6_framesFor ({ frames := 0, cells := 0, slots := 0, locals := 0 })).room s m args below meth c Q A (dC, dI) cX6_framesFor .int (St × (St)) (dw_X6 a ac) r) : dj_X6_framesFor_97 p l e s m args below meth c Q A dC dI a ac (df_X6_framesFor_97 n) r := by
  obtain ⟨hlt, hx, hb, hml, hown, hts, hN, hA, hK⟩ := id C
  intro y0 s0 H locs ls h hP hD hS hl
  unfold df_X6_framesFor_97 at h
  exact K _ _ _ _ _ _ dX6_framesFor_97 rfl (Option.some.inj h).symm hP hD hS
set_option maxHeartbeats 40000000 in
set_option maxRecDepth 100000 in
theorem db_X6_framesFor_95 {p : Program} {l : Launch} {e : Env} {s : State} {m : MethodId} {args : Array Value} {below : List Frame} {meth : Method} {c : Code} {Q : State → Prop} {A : Nat → Prop} {dC : Nat → ClassId} {dI : Nat → Nat → Nat} {a : Nat → Nat} {ac : Nat → ClassId} {n : Nat} {r : Int32 × (St × (St))} (C : nd_C p l s m args c A (dC, dI) cX6_framesFor 7 RX6 ow_dm_X6_framesFor (dk_X6 ac)) (K : nd_Ki p l e (headSpec ow_dm_X6_framesFor ({ frames := 0, cells := 0, slots := 0, locals := 0 })).room s m args below meth c Q A (dC, dI) cX6_framesFor .int (St × (St)) (dw_X6 a ac) r) : dj_X6_framesFor_95 p l e s m args below meth c Q A dC dI a ac (df_X6_framesFor_95 n) r := by
  obtain ⟨hlt, hx, hb, hml, hown, hts, hN, hA, hK⟩ := id C
  intro x6 s0 H locs ls h hP hD hS hl
  unfold df_X6_framesFor_95 at h
  refine lv_iload hx hb dX6_framesFor_95 (lv_at hl 0 rfl) ?_
  exact (db_X6_framesFor_97 C K) (x6) s0 _ _ _ h hP hD hS (lv_sub hl [] rfl)
set_option maxHeartbeats 40000000 in
set_option maxRecDepth 100000 in
theorem db_X6_framesFor_61 {p : Program} {l : Launch} {e : Env} {s : State} {m : MethodId} {args : Array Value} {below : List Frame} {meth : Method} {c : Code} {Q : State → Prop} {A : Nat → Prop} {dC : Nat → ClassId} {dI : Nat → Nat → Nat} {a : Nat → Nat} {ac : Nat → ClassId} {n : Nat} {r : Int32 × (St × (St))} (C : nd_C p l s m args c A (dC, dI) cX6_framesFor 7 RX6 ow_dm_X6_framesFor (dk_X6 ac)) (K : nd_Ki p l e (headSpec ow_dm_X6_framesFor ({ frames := 0, cells := 0, slots := 0, locals := 0 })).room s m args below meth c Q A (dC, dI) cX6_framesFor .int (St × (St)) (dw_X6 a ac) r) : dj_X6_framesFor_61 p l e s m args below meth c Q A dC dI a ac (df_X6_framesFor_61 n) r := by
  obtain ⟨hlt, hx, hb, hml, hown, hts, hN, hA, hK⟩ := id C
  intro x4 x5 y0 s0 H locs ls h hP hD hS hl
  unfold df_X6_framesFor_61 at h
  refine lv_istore (lv' := [(6, .int y0), (0, .ref (a 0)), (4, .int x4), (5, .int x5)]) hx hb dX6_framesFor_61 hl (by decide) rfl (fun ls hl => ?_)
  refine lv_iload hx hb dX6_framesFor_63 (lv_at hl 3 rfl) ?_
  refine lv_iload hx hb dX6_framesFor_65 (lv_at hl 2 rfl) ?_
  refine lv_icmp_eq (tgt := 95) hx hb dX6_framesFor_67 (by decide) (fun c7 => ?_) (fun c7 => ?_)
  · have h := nd_pos h c7
    exact (db_X6_framesFor_95 C K) (y0) s0 _ _ _ h hP hD hS (lv_sub hl [0] rfl)
  · have h := nd_neg h c7
    refine lv_aload_n hx hb dX6_framesFor_70 rfl (lv_at hl 1 rfl) ?_
    refine va_get (D := (dC, dI)) (ci := 7) (v := .ref (a 2)) (C := RX6) (T := TX6) (N := 20) hx hb hts hi_dm_X6_framesFor_X6 hown hK hP 0 rfl rfl 1 (by decide) (hts (.fieldLink RX6 14 "TimeMachine$Machine" "users" "[I") (List.mem_of_getElem? (i := 1) rfl)) (fun _ h9 => h9) rfl dX6_framesFor_71 ?_
    refine lv_aload_n hx hb dX6_framesFor_74 rfl (lv_at hl 1 rfl) ?_
    refine va_get (D := (dC, dI)) (ci := 7) (v := .ref (a 3)) (C := RX6) (T := TX6) (N := 20) hx hb hts hi_dm_X6_framesFor_X6 hown hK hP 0 rfl rfl 2 (by decide) (hts (.fieldLink RX6 17 "TimeMachine$Machine" "page" "[I") (List.mem_of_getElem? (i := 2) rfl)) (fun _ h9 => h9) rfl dX6_framesFor_75 ?_
    refine lv_iload hx hb dX6_framesFor_78 (lv_at hl 3 rfl) ?_
    obtain ⟨i8, h⟩ := nd_ck_e h
    refine va_iald (i := x5) hx hb hK hP 3 2 rfl rfl i8 dX6_framesFor_80 ?_
    refine lv_iconst (v := 3) hx hb dX6_framesFor_81 (by decide) ?_
    refine lv_ishr hx hb dX6_framesFor_82 ?_
    obtain ⟨i9, h⟩ := nd_ck_e h
    refine va_iald (i := (((sR s0.1 2 (Int32.toNatClampNeg x5)) : Int32) >>> ((3 : Int32) &&& 31))) hx hb hK hP 2 1 rfl rfl i9 dX6_framesFor_83 ?_
    refine lv_iconst (v := 1) hx hb dX6_framesFor_84 (by decide) ?_
    refine lv_icmp_le (tgt := 95) hx hb dX6_framesFor_85 (by decide) (fun c10 => ?_) (fun c10 => ?_)
    · have h := nd_pos h c10
      exact (db_X6_framesFor_95 C K) (y0) s0 _ _ _ h hP hD hS (lv_sub hl [0] rfl)
    · have h := nd_neg h c10
      refine lv_iload hx hb dX6_framesFor_88 (lv_at hl 0 rfl) ?_
      refine lv_iconst (v := 1) hx hb dX6_framesFor_90 (by decide) ?_
      refine lv_iadd hx hb dX6_framesFor_91 ?_
      refine lv_goto (tgt := 97) hx hb dX6_framesFor_92 (by decide) ?_
      exact (db_X6_framesFor_97 C K) ((y0 + 1)) s0 _ _ _ h hP hD hS (lv_sub hl [] rfl)

