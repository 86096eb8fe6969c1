set_option maxHeartbeats 40000000 in
set_option maxRecDepth 100000 in
theorem db_X3_isHead_84 {p : Program} {l : Launch} {e : Env} {s : State} {m : MethodId} {args : Array Value} {below : List Frame} {meth : Method} {c : Code} {Q : State → Prop} {A : Nat → Prop} {dC : Nat → ClassId} {dI : Nat → Nat → Nat} {a : Nat → Nat} {ac : Nat → ClassId} {n : Nat} {r : Int32 × (Unit)} (C : nd_C p l s m args c A (dC, dI) cX3_isHead 3 RX3 ow_dm_X3_isHead (dk_P ac)) (K : nd_Ki p l e (headSpec ow_dm_X3_isHead ({ frames := 0, cells := 0, slots := 0, locals := 0 })).room s m args below meth c Q A (dC, dI) cX3_isHead .boolean (Unit) (dw_P a ac) r) : dj_X3_isHead_84 p l e s m args below meth c Q A dC dI a ac (df_X3_isHead_84 n) r := by
  obtain ⟨hlt, hx, hb, hml, hown, hts, hN, hA, hK⟩ := id C
  intro y0 s0 H locs ls h hP hD hS hl
  unfold df_X3_isHead_84 at h
  obtain ⟨n14, h⟩ := nd_z_e ⟨_, rfl⟩ h
  exact K _ _ _ _ _ _ dX3_isHead_84 n14 (Option.some.inj h).symm hP hD hS
set_option maxHeartbeats 40000000 in
set_option maxRecDepth 100000 in
theorem db_X3_isHead_0 {p : Program} {l : Launch} {e : Env} {s : State} {m : MethodId} {args : Array Value} {below : List Frame} {meth : Method} {c : Code} {Q : State → Prop} {A : Nat → Prop} {dC : Nat → ClassId} {dI : Nat → Nat → Nat} {a : Nat → Nat} {ac : Nat → ClassId} {n : Nat} {r : Int32 × (Unit)} (C : nd_C p l s m args c A (dC, dI) cX3_isHead 3 RX3 ow_dm_X3_isHead (dk_P ac)) (K : nd_Ki p l e (headSpec ow_dm_X3_isHead ({ frames := 0, cells := 0, slots := 0, locals := 0 })).room s m args below meth c Q A (dC, dI) cX3_isHead .boolean (Unit) (dw_P a ac) r) : dj_X3_isHead_0 p l e s m args below meth c Q A dC dI a ac (df_X3_isHead_0 n) r := by
  obtain ⟨hlt, hx, hb, hml, hown, hts, hN, hA, hK⟩ := id C
  intro v0 v1 v2 s0 H locs ls h hP hD hS hl
  unfold df_X3_isHead_0 at h
  refine lv_iload_n hx hb dX3_isHead_0 rfl (lv_at hl 0 rfl) ?_
  by_cases c1 : v0 = 0
  · have h := nd_pos h c1
    refine lv_tableIn (off := 39) (tgt := 40) hx hb dX3_isHead_1 (by rw [c1]; decide) (by rw [c1]; decide) (by rw [c1]; decide) (by decide) ?_
    exact (db_X3_isHead_40 C K)  s0 _ _ _ h hP hD hS (lv_sub hl [] rfl)
  have h := nd_neg h c1
  by_cases c2 : v0 = 1
  · have h := nd_pos h c2
    refine lv_tableIn (off := 41) (tgt := 42) hx hb dX3_isHead_1 (by rw [c2]; decide) (by rw [c2]; decide) (by rw [c2]; decide) (by decide) ?_
    refine lv_iload_n hx hb dX3_isHead_42 rfl (lv_at hl 1 rfl) ?_
    refine lv_bipush (v := 8) hx hb dX3_isHead_43 (by decide) ?_
    refine lv_icmp_gt (tgt := 52) hx hb dX3_isHead_45 (by decide) (fun c3 => ?_) (fun c3 => ?_)
    · have h := nd_pos h c3
      refine lv_iconst (v := 0) hx hb dX3_isHead_52 (by decide) ?_
      exact (db_X3_isHead_53 C K) (0) s0 _ _ _ h hP hD hS (lv_sub hl [] rfl)
    · have h := nd_neg h c3
      refine lv_iconst (v := 1) hx hb dX3_isHead_48 (by decide) ?_
      refine lv_goto (tgt := 53) hx hb dX3_isHead_49 (by decide) ?_
      exact (db_X3_isHead_53 C K) (1) s0 _ _ _ h hP hD hS (lv_sub hl [] rfl)
  have h := nd_neg h c2
  by_cases c5 : v0 = 2
  · have h := nd_pos h c5
    refine lv_tableIn (off := 39) (tgt := 40) hx hb dX3_isHead_1 (by rw [c5]; decide) (by rw [c5]; decide) (by rw [c5]; decide) (by decide) ?_
    exact (db_X3_isHead_40 C K)  s0 _ _ _ h hP hD hS (lv_sub hl [] rfl)
  have h := nd_neg h c5
  by_cases c6 : v0 = 3
  · have h := nd_pos h c6
    refine lv_tableIn (off := 53) (tgt := 54) hx hb dX3_isHead_1 (by rw [c6]; decide) (by rw [c6]; decide) (by rw [c6]; decide) (by decide) ?_
    refine lv_iload_n hx hb dX3_isHead_54 rfl (lv_at hl 1 rfl) ?_
    refine lv_iconst (v := 1) hx hb dX3_isHead_55 (by decide) ?_
    refine lv_icmp_gt (tgt := 63) hx hb dX3_isHead_56 (by decide) (fun c7 => ?_) (fun c7 => ?_)
    · have h := nd_pos h c7
      refine lv_iconst (v := 0) hx hb dX3_isHead_63 (by decide) ?_
      exact (db_X3_isHead_64 C K) (0) s0 _ _ _ h hP hD hS (lv_sub hl [] rfl)
    · have h := nd_neg h c7
      refine lv_iconst (v := 1) hx hb dX3_isHead_59 (by decide) ?_
      refine lv_goto (tgt := 64) hx hb dX3_isHead_60 (by decide) ?_
      exact (db_X3_isHead_64 C K) (1) s0 _ _ _ h hP hD hS (lv_sub hl [] rfl)
  have h := nd_neg h c6
  by_cases c9 : v0 = 4
  · have h := nd_pos h c9
    refine lv_tableIn (off := 64) (tgt := 65) hx hb dX3_isHead_1 (by rw [c9]; decide) (by rw [c9]; decide) (by rw [c9]; decide) (by decide) ?_
    refine lv_iload_n hx hb dX3_isHead_65 rfl (lv_at hl 1 rfl) ?_
    refine lv_if_ne (tgt := 73) hx hb dX3_isHead_66 (by decide) (fun c10 => ?_) (fun c10 => ?_)
    · have h := nd_neg h c10
      refine lv_iconst (v := 0) hx hb dX3_isHead_73 (by decide) ?_
      exact (db_X3_isHead_74 C K) (0) s0 _ _ _ h hP hD hS (lv_sub hl [] rfl)
    · have h := nd_pos h c10
      refine lv_iconst (v := 1) hx hb dX3_isHead_69 (by decide) ?_
      refine lv_goto (tgt := 74) hx hb dX3_isHead_70 (by decide) ?_
      exact (db_X3_isHead_74 C K) (1) s0 _ _ _ h hP hD hS (lv_sub hl [] rfl)
  have h := nd_neg h c9
  by_cases c12 : v0 = 5
  · have h := nd_pos h c12
    refine lv_tableIn (off := 74) (tgt := 75) hx hb dX3_isHead_1 (by rw [c12]; decide) (by rw [c12]; decide) (by rw [c12]; decide) (by decide) ?_
    refine lv_iload_n hx hb dX3_isHead_75 rfl (lv_at hl 2 rfl) ?_
    refine lv_if_ne (tgt := 83) hx hb dX3_isHead_76 (by decide) (fun c13 => ?_) (fun c13 => ?_)
    · have h := nd_neg h c13
      refine lv_iconst (v := 0) hx hb dX3_isHead_83 (by decide) ?_
      exact (db_X3_isHead_84 C K) (0) s0 _ _ _ h hP hD hS (lv_sub hl [] rfl)
    · have h := nd_pos h c13
      refine lv_iconst (v := 1) hx hb dX3_isHead_79 (by decide) ?_
      refine lv_goto (tgt := 84) hx hb dX3_isHead_80 (by decide) ?_
      exact (db_X3_isHead_84 C K) (1) s0 _ _ _ h hP hD hS (lv_sub hl [] rfl)
  have h := nd_neg h c12
  refine lv_tableOut (tgt := 85) hx hb dX3_isHead_1 (by have g0 := nv_nei c1 (k := 0) (by decide); have g1 := nv_nei c2 (k := 1) (by decide); have g2 := nv_nei c5 (k := 2) (by decide); have g3 := nv_nei c6 (k := 3) (by decide); have g4 := nv_nei c9 (k := 4) (by decide); have g5 := nv_nei c12 (k := 5) (by decide); omega) (by decide) ?_
  refine lv_iconst (v := 0) hx hb dX3_isHead_85 (by decide) ?_
  exact K _ _ _ _ _ _ dX3_isHead_86 (by first | rfl | decide) (Option.some.inj h).symm hP hD hS
set_option maxHeartbeats 40000000 in
set_option maxRecDepth 100000 in
theorem dm_X3_isHead (l : Launch) (hlt : l.stackTraces = false) (dC : Nat → ClassId) (dI : Nat → Nat → Nat) (a : Nat → Nat) (ac : Nat → ClassId) (n : Nat) (v0 : Int32) (v1 : Int32) (v2 : Int32) (s0 : Unit) {r : Int32 × (Unit)} (h : df_X3_isHead n v0 v1 v2 s0 = some r) (sz : Nat) : Met l yX3_isHead ow_dm_X3_isHead ({ frames := 0, cells := 0, slots := 0, locals := 0 }) (va_Pc [.int v0, .int v1, .int v2] (fun U => U.heap.size = sz ∧ va_P (dC, dI) vwCl (dw_P a ac s0) U.heap ∧ va_K (dC, dI) vwCl (dk_P ac) U ∧ va_D (fun _ => True) (dw_P a ac s0) ∧ nv_E (va_A (dw_P a ac s0) sz) U)) (va_Qi (fun x _ => x = r.1) (fun (_ : Unit) t => va_P (dC, dI) vwCl (dw_P a ac r.2) t.heap ∧ va_K (dC, dI) vwCl (dk_P ac) t ∧ va_D (va_A (dw_P a ac s0) sz) (dw_P a ac r.2)) (va_A (dw_P a ac s0) sz)) 0 0 (va_A (dw_P a ac s0) sz) := by
  refine Met.ofW (cc := cX3_isHead) (maxL := 3) (ret := (some .boolean)) (by decide) rfl ?_
  intro p e s m args below meth c s₁ B hml hv
  obtain ⟨rfl, hsz, hP, hK, hD0, hN⟩ := hv
  have hx := B.exec
  have hb := B.bytes
  have hr := B.returns
  have hts := atoms_spec (ws := ow_dm_X3_isHead) B.pre
  have hown : s.vm.findClass RX3 = some m.cls := findClass_of_methodNamed B.named
  have hlocks := B.notSynchronized
  subst hsz
  have hD := hD0.self (sz := s.heap.size)
  generalize hAe : va_A (dw_P a ac s0) s.heap.size = A at hD hN ⊢
  have hA : ∀ q : Nat, s.heap.size ≤ q → A q := fun q h => by rw [← hAe]; exact Or.inr h
  have hl := lv_entry ([.int v0, .int v1, .int v2]) (n := 3) (Nat.le_of_ble_eq_true rfl)
  rw [lg_entry_eq]
  generalize (lg_sl ([.int v0, .int v1, .int v2]) ++ List.replicate (3 - (lg_sl ([.int v0, .int v1, .int v2])).length) Slot.unset).toArray = ls at hl ⊢
  have hl : lv_has ls 3 [(0, .int v0), (1, .int v1), (2, .int v2)] := hl
  exact db_X3_isHead_0 (dC := dC) (dI := dI) (a := a) (ac := ac) (n := n) (r := r) ⟨hlt, hx, hb, hml, hown, hts, hN, hA, hK⟩ (fun pc v τ H locs ls d z er hP hD hS => by subst er; exact W.zret (v := v) hx hb hr z (fun t ht hW => ⟨⟨v, (), rfl, rfl, by rw [ht]; exact hP, va_K.moved hW.alike hK, hD⟩, hS.F ht⟩) hS.2.2 d) v0 v1 v2 s0 _ _ _ h hP hD va_S.rf (lv_sub hl [0, 1, 2] rfl)
def ow_dm_X3_readBytes : List Cond := .code yX3_readBytes cX3_readBytes 5 (some .long) :: ([.fieldLink RX3 95 "TimeMachine$Events" "fault" "I", .methodLink RX3 117 yX3_readByte, .instanceMethod yX3_readByte, .selects RX3 yX3_readByte yX3_readByte, .initialized RX3] ++ (u_ws RX3 TX3 11 ++ (ow_dm_X3_readByte ++ [])))
theorem gd_dm_X3_readBytes : ∀ w ∈ ow_dm_X3_readBytes, (w.onTables && w.keeps) = true ∨ ∃ ty, w = Cond.arrayClass ty := List.forall_mem_cons.mpr ⟨good_of_word rfl, List.forall_mem_append.mpr ⟨fun w h => good_of_word (List.all_eq_true.mp (by decide +kernel) w h), List.forall_mem_append.mpr ⟨gu_X3, List.forall_mem_append.mpr ⟨gd_dm_X3_readByte, fun _ h => nomatch h⟩⟩⟩⟩
theorem hi_dm_X3_readBytes_X3 : ∀ w ∈ u_ws RX3 TX3 11, w ∈ ow_dm_X3_readBytes := fun w h => List.mem_cons_of_mem _ (List.mem_append_right _ (List.mem_append_left _ h))
theorem gi_dm_X3_readBytes_0 : GoodIn ow_dm_X3_readBytes (wsV RX3 117 RX3 yX3_readByte ow_dm_X3_readByte) := goodIn_app (goodIn_of _ (by decide +kernel)) (fun w h => ⟨List.mem_cons_of_mem _ (List.mem_append_right _ (List.mem_append_right _ (List.mem_append_left _ h))), gd_dm_X3_readByte w h⟩)
def dj_X3_readBytes_35 (p : Program) (l : Launch) (e : Env) (s : State) (m : MethodId) (args : Array Value) (below : List Frame) (meth : Method) (c : Code) (Q : State → Prop) (A : Nat → Prop) (dC : Nat → ClassId) (dI : Nat → Nat → Nat) (a : Nat → Nat) (ac : Nat → ClassId) (g : Int64 → (St × (St)) → Option (Int64 × (St × (St)))) (r : Int64 × (St × (St))) : Prop := ∀ (x2 : Int64) (s0 : St × (St)) (H : Heap) (locs : List Loc) (ls : Array Slot), g x2 s0 = some r → va_P (dC, dI) vwCl (dw_X3s a ac s0) H → va_D A (dw_X3s a ac s0) → va_S A s.heap H locs → lv_has ls 5 [(2, .long x2)] → W p l e (headSpec ow_dm_X3_readBytes ({ frames := 2, cells := 0, slots := 0, locals := 42 })).room s m args below meth c H locs 0 0 Q (F0 m 35 ls [])
def dj_X3_readBytes_5 (p : Program) (l : Launch) (e : Env) (s : State) (m : MethodId) (args : Array Value) (below : List Frame) (meth : Method) (c : Code) (Q : State → Prop) (A : Nat → Prop) (dC : Nat → ClassId) (dI : Nat → Nat → Nat) (a : Nat → Nat) (ac : Nat → ClassId) (g : Int32 → Int64 → Int32 → (St × (St)) → Option (Int64 × (St × (St)))) (r : Int64 × (St × (St))) : Prop := ∀ (x1 : Int32) (x2 : Int64) (x4 : Int32) (s0 : St × (St)) (H : Heap) (locs : List Loc) (ls : Array Slot), g x1 x2 x4 s0 = some r → va_P (dC, dI) vwCl (dw_X3s a ac s0) H → va_D A (dw_X3s a ac s0) → va_S A s.heap H locs → lv_has ls 5 [(0, .ref (a 1)), (1, .int x1), (2, .long x2), (4, .int x4)] → W p l e (headSpec ow_dm_X3_readBytes ({ frames := 2, cells := 0, slots := 0, locals := 42 })).room s m args below meth c H locs 0 0 Q (F0 m 5 ls [])
def dj_X3_readBytes_0 (p : Program) (l : Launch) (e : Env) (s : State) (m : MethodId) (args : Array Value) (below : List Frame) (meth : Method) (c : Code) (Q : State → Prop) (A : Nat → Prop) (dC : Nat → ClassId) (dI : Nat → Nat → Nat) (a : Nat → Nat) (ac : Nat → ClassId) (g : Int32 → (St × (St)) → Option (Int64 × (St × (St)))) (r : Int64 × (St × (St))) : Prop := ∀ (v0 : Int32) (s0 : St × (St)) (H : Heap) (locs : List Loc) (ls : Array Slot), g v0 s0 = some r → va_P (dC, dI) vwCl (dw_X3s a ac s0) H → va_D A (dw_X3s a ac s0) → va_S A s.heap H locs → lv_has ls 5 [(0, .ref (a 1)), (1, .int v0)] → W p l e (headSpec ow_dm_X3_readBytes ({ frames := 2, cells := 0, slots := 0, locals := 42 })).room s m args below meth c H locs 0 0 Q (F0 m 0 ls [])
set_option maxHeartbeats 40000000 in
set_option maxRecDepth 100000 in
theorem db_X3_readBytes_35 {p : Program} {l : Launch} {e : Env} {s : State} {m : MethodId} {args : Array Value} {below : List Frame} {meth : Method} {c : Code} {Q : State → Prop} {A : Nat → Prop} {dC : Nat → ClassId} {dI : Nat → Nat → Nat} {a : Nat → Nat} {ac : Nat → ClassId} {n : Nat} {r : Int64 × (St × (St))} (C : nd_C p l s m args c A (dC, dI) cX3_readBytes 5 RX3 ow_dm_X3_readBytes (dk_X3s ac)) (K : nd_Kl p l e (headSpec ow_dm_X3_readBytes ({ frames := 2, cells := 0, slots := 0, locals := 42 })).room s m args below meth c Q A (dC, dI) cX3_readBytes (St × (St)) (dw_X3s a ac) r) : dj_X3_readBytes_35 p l e s m args below meth c Q A dC dI a ac (df_X3_readBytes_35 n (a 0)) r := by
  obtain ⟨hlt, hx, hb, hml, hown, hts, hN, hA, hK⟩ := id C
  intro x2 s0 H locs ls h hP hD hS hl
  unfold df_X3_readBytes_35 at h
  refine lv_lload_n hx hb dX3_readBytes_35 rfl (lv_at hl 0 rfl) ?_
  exact K _ _ _ _ _ _ dX3_readBytes_36 (Option.some.inj h).symm hP hD hS
set_option maxHeartbeats 40000000 in
set_option maxRecDepth 100000 in
theorem dB_X3_readBytes_5 {p : Program} {l : Launch} {e : Env} {s : State} {m : MethodId} {args : Array Value} {below : List Frame} {meth : Method} {c : Code} {Q : State → Prop} {A : Nat → Prop} {dC : Nat → ClassId} {dI : Nat → Nat → Nat} {a : Nat → Nat} {ac : Nat → ClassId} {n : Nat} {r : Int64 × (St × (St))} (C : nd_C p l s m args c A (dC, dI) cX3_readBytes 5 RX3 ow_dm_X3_readBytes (dk_X3s ac)) (K : nd_Kl p l e (headSpec ow_dm_X3_readBytes ({ frames := 2, cells := 0, slots := 0, locals := 42 })).room s m args below meth c Q A (dC, dI) cX3_readBytes (St × (St)) (dw_X3s a ac) r) {g5 : Int32 → Int64 → Int32 → (St × (St)) → Option (Int64 × (St × (St)))} (J5 : dj_X3_readBytes_5 p l e s m args below meth c Q A dC dI a ac g5 r) : dj_X3_readBytes_5 p l e s m args below meth c Q A dC dI a ac (dF_X3_readBytes_5 n (a 0) g5) r := by
  obtain ⟨hlt, hx, hb, hml, hown, hts, hN, hA, hK⟩ := id C
  intro x1 x2 x4 s0 H locs ls h hP hD hS hl
  unfold dF_X3_readBytes_5 at h
  refine lv_iload hx hb dX3_readBytes_5 (lv_at hl 3 rfl) ?_
  refine lv_iload_n hx hb dX3_readBytes_7 rfl (lv_at hl 1 rfl) ?_
  refine lv_icmp_ge (tgt := 35) hx hb dX3_readBytes_8 (by decide) (fun c1 => ?_) (fun c1 => ?_)
  · have h := nd_pos h c1
    exact (db_X3_readBytes_35 C K) (x2) s0 _ _ _ h hP hD hS (lv_sub hl [2] rfl)
  · have h := nd_neg h c1
    refine lv_aload_n hx hb dX3_readBytes_11 rfl (lv_at hl 0 rfl) ?_
    refine va_get (D := (dC, dI)) (ci := 4) (v := .int (sI s0.2 4)) (C := RX3) (T := TX3) (N := 11) hx hb hts hi_dm_X3_readBytes_X3 hown hK hP 1 rfl rfl 9 (by decide) (hts (.fieldLink RX3 95 "TimeMachine$Events" "fault" "I") (List.mem_of_getElem? (i := 1) rfl)) (fun _ h9 => h9) rfl dX3_readBytes_12 ?_
    refine lv_if_ne (tgt := 35) hx hb dX3_readBytes_15 (by decide) (fun c2 => ?_) (fun c2 => ?_)
    · have h := nd_neg h c2
      exact (db_X3_readBytes_35 C K) (x2) s0 _ _ _ h hP hD hS (lv_sub hl [2] rfl)
    · have h := nd_pos h c2
      refine lv_lload_n hx hb dX3_readBytes_18 rfl (lv_at hl 2 rfl) ?_
      refine lv_bipush (v := 8) hx hb dX3_readBytes_19 (by decide) ?_
      refine lv_lshl hx hb dX3_readBytes_21 rfl ?_
      refine lv_aload_n hx hb dX3_readBytes_22 rfl (lv_at hl 0 rfl) ?_
      obtain ⟨q3, s4, hq, h⟩ := nd_b2_e h
      have hPc := hP
      have hDc := hD
      have hKc := hK
      have hFc := nd_rs hD hS hA
      refine nd_cVi (As := []) (rest := [.long ((x2 : Int64) <<< ((8 : Int32).toInt64 &&& 63))]) (q := q3) (w' := dw_X3s a ac s4) ⟨hx, hb, hml, hown, hts⟩ (fun sz => dm_X3_readByte l hlt dC dI a ac n  s0 hq sz) (cwV 0 hts gi_dm_X3_readBytes_0 rfl rfl rfl (by decide +kernel) ⟨Nat.le_of_ble_eq_true rfl, Nat.le_of_ble_eq_true rfl⟩) hPc hDc hKc hS hA hN (va_recv hKc hPc (ci := 4) (q0 := 1) rfl rfl) rfl hl.1 rfl (Nat.le_of_ble_eq_true rfl) dX3_readBytes_23 (fun H locs hP1 hD1 hk1 hS => ?_)
      have hP := hP1
      have hD := hD1.weaken (fun k q _ h => hFc q.1 h)
      refine lv_i2l hx hb dX3_readBytes_26 rfl ?_
      refine lv_lor hx hb dX3_readBytes_27 ?_
      refine lv_topl (fun z6 ez6 => ?_)
      have h := nd_at h ez6
      refine lv_lstore_n (lv' := [(2, .long z6), (0, .ref (a 1)), (1, .int x1), (4, .int x4)]) hx hb dX3_readBytes_28 rfl hl (by decide) rfl (fun ls hl => ?_)
      obtain ⟨z7, ez7, h⟩ := nd_let_e h
      refine lv_iinc (v := z7) (lv' := [(4, .int z7), (2, .long z6), (0, .ref (a 1)), (1, .int x1)]) hx hb dX3_readBytes_29 hl (k := 3) rfl (by rw [ez7]) (by decide) rfl (fun ls hl => ?_)
      refine lv_goto (tgt := 5) hx hb dX3_readBytes_32 (by decide) ?_
      exact (J5) (x1) (z6) (z7) s4 _ _ _ h hP hD hS (lv_sub hl [2, 3, 1, 0] rfl)
set_option maxHeartbeats 40000000 in
set_option maxRecDepth 100000 in
theorem db_X3_readBytes_5 {p : Program} {l : Launch} {e : Env} {s : State} {m : MethodId} {args : Array Value} {below : List Frame} {meth : Method} {c : Code} {Q : State → Prop} {A : Nat → Prop} {dC : Nat → ClassId} {dI : Nat → Nat → Nat} {a : Nat → Nat} {ac : Nat → ClassId} {n : Nat} {r : Int64 × (St × (St))} (C : nd_C p l s m args c A (dC, dI) cX3_readBytes 5 RX3 ow_dm_X3_readBytes (dk_X3s ac)) (K : nd_Kl p l e (headSpec ow_dm_X3_readBytes ({ frames := 2, cells := 0, slots := 0, locals := 42 })).room s m args below meth c Q A (dC, dI) cX3_readBytes (St × (St)) (dw_X3s a ac) r) (k : Nat) : dj_X3_readBytes_5 p l e s m args below meth c Q A dC dI a ac (df_X3_readBytes_5 n (a 0) k) r := by
  induction k with
  | zero => intro x1 x2 x4 s0 H locs ls h; exact nomatch (show (none : Option (Int64 × (St × (St)))) = some r from h)
  | succ k ih => exact dB_X3_readBytes_5 C K ih
set_option maxHeartbeats 40000000 in
set_option maxRecDepth 100000 in
theorem db_X3_readBytes_0 {p : Program} {l : Launch} {e : Env} {s : State} {m : MethodId} {args : Array Value} {below : List Frame} {meth : Method} {c : Code} {Q : State → Prop} {A : Nat → Prop} {dC : Nat → ClassId} {dI : Nat → Nat → Nat} {a : Nat → Nat} {ac : Nat → ClassId} {n : Nat} {r : Int64 × (St × (St))} (C : nd_C p l s m args c A (dC, dI) cX3_readBytes 5 RX3 ow_dm_X3_readBytes (dk_X3s ac)) (K : nd_Kl p l e (headSpec ow_dm_X3_readBytes ({ frames := 2, cells := 0, slots := 0, locals := 42 })).room s m args below meth c Q A (dC, dI) cX3_readBytes (St × (St)) (dw_X3s a ac) r) : dj_X3_readBytes_0 p l e s m args below meth c Q A dC dI a ac (df_X3_readBytes_0 n (a 0)) r := by
  obtain ⟨hlt, hx, hb, hml, hown, hts, hN, hA, hK⟩ := id C
  intro v0 s0 H locs ls h hP hD hS hl
  unfold df_X3_readBytes_0 at h
  refine lv_lconst (v := 0) hx hb dX3_readBytes_0 (by decide) ?_
  refine lv_lstore_n (lv' := [(2, .long 0), (0, .ref (a 1)), (1, .int v0)]) hx hb dX3_readBytes_1 rfl hl (by decide) rfl (fun ls hl => ?_)
  refine lv_iconst (v := 0) hx hb dX3_readBytes_2 (by decide) ?_
  refine lv_istore (lv' := [(4, .int 0), (2, .long 0), (0, .ref (a 1)), (1, .int v0)]) hx hb dX3_readBytes_3 hl (by decide) rfl (fun ls hl => ?_)
  exact (db_X3_readBytes_5 C K n) (v0) (0) (0) s0 _ _ _ h hP hD hS (lv_sub hl [2, 3, 1, 0] rfl)
set_option maxHeartbeats 40000000 in
set_option maxRecDepth 100000 in
theorem dm_X3_readBytes (l : Launch) (hlt : l.stackTraces = false) (dC : Nat → ClassId) (dI : Nat → Nat → Nat) (a : Nat → Nat) (ac : Nat → ClassId) (n : Nat) (v0 : Int32) (s0 : St × (St)) {r : Int64 × (St × (St))} (h : df_X3_readBytes n (a 0) v0 s0 = some r) (sz : Nat) : Met l yX3_readBytes ow_dm_X3_readBytes ({ frames := 2, cells := 0, slots := 0, locals := 42 }) (va_Pc [.ref (a 1), .int v0] (fun U => U.heap.size = sz ∧ va_P (dC, dI) vwCl (dw_X3s a ac s0) U.heap ∧ va_K (dC, dI) vwCl (dk_X3s ac) U ∧ va_D (fun _ => True) (dw_X3s a ac s0) ∧ nv_E (va_A (dw_X3s a ac s0) sz) U)) (va_Ql (fun x _ => x = r.1) (fun (_ : Unit) t => va_P (dC, dI) vwCl (dw_X3s a ac r.2) t.heap ∧ va_K (dC, dI) vwCl (dk_X3s ac) t ∧ va_D (va_A (dw_X3s a ac s0) sz) (dw_X3s a ac r.2)) (va_A (dw_X3s a ac s0) sz)) 0 0 (va_A (dw_X3s a ac s0) sz) := by
  refine Met.ofW (cc := cX3_readBytes) (maxL := 5) (ret := (some .long)) (by decide) rfl ?_
  intro p e s m args below meth c s₁ B hml hv
  obtain ⟨rfl, hsz, hP, hK, hD0, hN⟩ := hv
  have hx := B.exec
  have hb := B.bytes
  have hr := B.returns
  have hts := atoms_spec (ws := ow_dm_X3_readBytes) B.pre
  have hown : s.vm.findClass RX3 = some m.cls := findClass_of_methodNamed B.named
  have hlocks := B.notSynchronized
  subst hsz
  have hD := hD0.self (sz := s.heap.size)
  generalize hAe : va_A (dw_X3s a ac s0) s.heap.size = A at hD hN ⊢
  have hA : ∀ q : Nat, s.heap.size ≤ q → A q := fun q h => by rw [← hAe]; exact Or.inr h
  have hl := lv_entry ([.ref (a 1), .int v0]) (n := 5) (Nat.le_of_ble_eq_true rfl)
  rw [lg_entry_eq]
  generalize (lg_sl ([.ref (a 1), .int v0]) ++ List.replicate (5 - (lg_sl ([.ref (a 1), .int v0])).length) Slot.unset).toArray = ls at hl ⊢
  have hl : lv_has ls 5 [(0, .ref (a 1)), (1, .int v0)] := hl
  exact db_X3_readBytes_0 (dC := dC) (dI := dI) (a := a) (ac := ac) (n := n) (r := r) ⟨hlt, hx, hb, hml, hown, hts, hN, hA, hK⟩ (fun pc v τ H locs ls d er hP hD hS => by subst er; exact W.lret (v := v) hx hb hr (fun t ht hW => ⟨⟨v, (), rfl, rfl, by rw [ht]; exact hP, va_K.moved hW.alike hK, hD⟩, hS.F ht⟩) hS.2.2 d) v0 s0 _ _ _ h hP hD va_S.rf (lv_sub hl [0, 1] rfl)
def ow_dm_X3_readBrought : List Cond := .code yX3_readBrought cX3_readBrought 13 none :: ([.fieldLink RX3 44 "TimeMachine$Events" "place" "I", .fieldLink RX3 95 "TimeMachine$Events" "fault" "I", .methodLink RX3 133 yX3_add, .instanceMethod yX3_add, .selects RX3 yX3_add yX3_add, .initialized RX3, .methodLink RX3 137 yX3_readBytes, .instanceMethod yX3_readBytes, .selects RX3 yX3_readBytes yX3_readBytes, .methodLink RX3 101 yX3_readVarint, .instanceMethod yX3_readVarint, .selects RX3 yX3_readVarint yX3_readVarint, .fieldLink RX3 39 "TimeMachine$Events" "total" "I", .methodLink RX3 80 yX3_latest, .instanceMethod yX3_latest, .selects RX3 yX3_latest yX3_latest, .fieldLink RX3 17 "TimeMachine$Events" "a" "[J", .methodLink RX3 107 yX3_blame, .instanceMethod yX3_blame, .selects RX3 yX3_blame yX3_blame, .methodLink RX3 117 yX3_readByte, .instanceMethod yX3_readByte, .selects RX3 yX3_readByte yX3_readByte, .fieldLink RX3 20 "TimeMachine$Events" "b" "[I"] ++ (u_ws RX3 TX3 11 ++ (ow_dm_X3_add ++ (ow_dm_X3_readBytes ++ (ow_dm_X3_readVarint ++ (ow_dm_X3_latest ++ (ow_dm_X3_blame ++ (ow_dm_X3_readByte ++ []))))))))
theorem gd_dm_X3_readBrought : ∀ w ∈ ow_dm_X3_readBrought, (w.onTables && w.keeps) = true ∨ ∃ ty, w = Cond.arrayClass ty := List.forall_mem_cons.mpr ⟨good_of_word rfl, List.forall_mem_append.mpr ⟨fun w h => good_of_word (List.all_eq_true.mp (by decide +kernel) w h), List.forall_mem_append.mpr ⟨gu_X3, List.forall_mem_append.mpr ⟨gd_dm_X3_add, List.forall_mem_append.mpr ⟨gd_dm_X3_readBytes, List.forall_mem_append.mpr ⟨gd_dm_X3_readVarint, List.forall_mem_append.mpr ⟨gd_dm_X3_latest, List.forall_mem_append.mpr ⟨gd_dm_X3_blame, List.forall_mem_append.mpr ⟨gd_dm_X3_readByte, fun _ h => nomatch h⟩⟩⟩⟩⟩⟩⟩⟩⟩
theorem hi_dm_X3_readBrought_X3 : ∀ w ∈ u_ws RX3 TX3 11, w ∈ ow_dm_X3_readBrought := fun w h => List.mem_cons_of_mem _ (List.mem_append_right _ (List.mem_append_left _ h))
theorem gi_dm_X3_readBrought_0 : GoodIn ow_dm_X3_readBrought (wsV RX3 133 RX3 yX3_add ow_dm_X3_add) := goodIn_app (goodIn_of _ (by decide +kernel)) (fun w h => ⟨List.mem_cons_of_mem _ (List.mem_append_right _ (List.mem_append_right _ (List.mem_append_left _ h))), gd_dm_X3_add w h⟩)
theorem gi_dm_X3_readBrought_1 : GoodIn ow_dm_X3_readBrought (wsV RX3 137 RX3 yX3_readBytes ow_dm_X3_readBytes) := goodIn_app (goodIn_of _ (by decide +kernel)) (fun w h => ⟨List.mem_cons_of_mem _ (List.mem_append_right _ (List.mem_append_right _ (List.mem_append_right _ (List.mem_append_left _ h)))), gd_dm_X3_readBytes w h⟩)
theorem gi_dm_X3_readBrought_2 : GoodIn ow_dm_X3_readBrought (wsV RX3 101 RX3 yX3_readVarint ow_dm_X3_readVarint) := goodIn_app (goodIn_of _ (by decide +kernel)) (fun w h => ⟨List.mem_cons_of_mem _ (List.mem_append_right _ (List.mem_append_right _ (List.mem_append_right _ (List.mem_append_right _ (List.mem_append_left _ h))))), gd_dm_X3_readVarint w h⟩)
theorem gi_dm_X3_readBrought_3 : GoodIn ow_dm_X3_readBrought (wsV RX3 80 RX3 yX3_latest ow_dm_X3_latest) := goodIn_app (goodIn_of _ (by decide +kernel)) (fun w h => ⟨List.mem_cons_of_mem _ (List.mem_append_right _ (List.mem_append_right _ (List.mem_append_right _ (List.mem_append_right _ (List.mem_append_right _ (List.mem_append_left _ h)))))), gd_dm_X3_latest w h⟩)
theorem gi_dm_X3_readBrought_4 : GoodIn ow_dm_X3_readBrought (wsV RX3 107 RX3 yX3_blame ow_dm_X3_blame) := goodIn_app (goodIn_of _ (by decide +kernel)) (fun w h => ⟨List.mem_cons_of_mem _ (List.mem_append_right _ (List.mem_append_right _ (List.mem_append_right _ (List.mem_append_right _ (List.mem_append_right _ (List.mem_append_right _ (List.mem_append_left _ h))))))), gd_dm_X3_blame w h⟩)
theorem gi_dm_X3_readBrought_5 : GoodIn ow_dm_X3_readBrought (wsV RX3 117 RX3 yX3_readByte ow_dm_X3_readByte) := goodIn_app (goodIn_of _ (by decide +kernel)) (fun w h => ⟨List.mem_cons_of_mem _ (List.mem_append_right _ (List.mem_append_right _ (List.mem_append_right _ (List.mem_append_right _ (List.mem_append_right _ (List.mem_append_right _ (List.mem_append_right _ (List.mem_append_left _ h)))))))), gd_dm_X3_readByte w h⟩)
def dj_X3_readBrought_235 (p : Program) (l : Launch) (e : Env) (s : State) (m : MethodId) (args : Array Value) (below : List Frame) (meth : Method) (c : Code) (Q : State → Prop) (A : Nat → Prop) (dC : Nat → ClassId) (dI : Nat → Nat → Nat) (a : Nat → Nat) (ac : Nat → ClassId) (g : (St × (St)) → Option (St × (St))) (r : St × (St)) : Prop := ∀ (s0 : St × (St)) (H : Heap) (locs : List Loc) (ls : Array Slot), g s0 = some r → va_P (dC, dI) vwCl (dw_X3s a ac s0) H → va_D A (dw_X3s a ac s0) → va_S A s.heap H locs → lv_has ls 13 [] → W p l e (headSpec ow_dm_X3_readBrought ({ frames := 3, cells := 0, slots := 0, locals := 66 })).room s m args below meth c H locs 0 0 Q (F0 m 235 ls [])
def dj_X3_readBrought_216 (p : Program) (l : Launch) (e : Env) (s : State) (m : MethodId) (args : Array Value) (below : List Frame) (meth : Method) (c : Code) (Q : State → Prop) (A : Nat → Prop) (dC : Nat → ClassId) (dI : Nat → Nat → Nat) (a : Nat → Nat) (ac : Nat → ClassId) (g : Int32 → Int64 → Int64 → Int32 → (St × (St)) → Option (St × (St))) (r : St × (St)) : Prop := ∀ (x2 : Int32) (x4 : Int64) (x6 : Int64) (x8 : Int32) (s0 : St × (St)) (H : Heap) (locs : List Loc) (ls : Array Slot), g x2 x4 x6 x8 s0 = some r → va_P (dC, dI) vwCl (dw_X3s a ac s0) H → va_D A (dw_X3s a ac s0) → va_S A s.heap H locs → lv_has ls 13 [(0, .ref (a 1)), (2, .int x2), (4, .long x4), (6, .long x6), (8, .int x8)] → W p l e (headSpec ow_dm_X3_readBrought ({ frames := 3, cells := 0, slots := 0, locals := 66 })).room s m args below meth c H locs 0 0 Q (F0 m 216 ls [])
def dj_X3_readBrought_190 (p : Program) (l : Launch) (e : Env) (s : State) (m : MethodId) (args : Array Value) (below : List Frame) (meth : Method) (c : Code) (Q : State → Prop) (A : Nat → Prop) (dC : Nat → ClassId) (dI : Nat → Nat → Nat) (a : Nat → Nat) (ac : Nat → ClassId) (g : Int32 → Int64 → Int64 → Int32 → (St × (St)) → Option (St × (St))) (r : St × (St)) : Prop := ∀ (x2 : Int32) (x4 : Int64) (x6 : Int64) (x8 : Int32) (s0 : St × (St)) (H : Heap) (locs : List Loc) (ls : Array Slot), g x2 x4 x6 x8 s0 = some r → va_P (dC, dI) vwCl (dw_X3s a ac s0) H → va_D A (dw_X3s a ac s0) → va_S A s.heap H locs → lv_has ls 13 [(0, .ref (a 1)), (2, .int x2), (4, .long x4), (6, .long x6), (8, .int x8)] → W p l e (headSpec ow_dm_X3_readBrought ({ frames := 3, cells := 0, slots := 0, locals := 66 })).room s m args below meth c H locs 0 0 Q (F0 m 190 ls [])
def dj_X3_readBrought_187 (p : Program) (l : Launch) (e : Env) (s : State) (m : MethodId) (args : Array Value) (below : List Frame) (meth : Method) (c : Code) (Q : State → Prop) (A : Nat → Prop) (dC : Nat → ClassId) (dI : Nat → Nat → Nat) (a : Nat → Nat) (ac : Nat → ClassId) (g : Int32 → Int64 → Int64 → Int32 → (St × (St)) → Option (St × (St))) (r : St × (St)) : Prop := ∀ (x2 : Int32) (x4 : Int64) (x6 : Int64) (x8 : Int32) (s0 : St × (St)) (H : Heap) (locs : List Loc) (ls : Array Slot), g x2 x4 x6 x8 s0 = some r → va_P (dC, dI) vwCl (dw_X3s a ac s0) H → va_D A (dw_X3s a ac s0) → va_S A s.heap H locs → lv_has ls 13 [(0, .ref (a 1)), (2, .int x2), (4, .long x4), (6, .long x6), (8, .int x8)] → W p l e (headSpec ow_dm_X3_readBrought ({ frames := 3, cells := 0, slots := 0, locals := 66 })).room s m args below meth c H locs 0 0 Q (F0 m 187 ls [])
def dj_X3_readBrought_132 (p : Program) (l : Launch) (e : Env) (s : State) (m : MethodId) (args : Array Value) (below : List Frame) (meth : Method) (c : Code) (Q : State → Prop) (A : Nat → Prop) (dC : Nat → ClassId) (dI : Nat → Nat → Nat) (a : Nat → Nat) (ac : Nat → ClassId) (g : Int32 → Int64 → Int64 → Int32 → Int32 → (St × (St)) → Option (St × (St))) (r : St × (St)) : Prop := ∀ (x2 : Int32) (x4 : Int64) (x6 : Int64) (x8 : Int32) (x9 : Int32) (s0 : St × (St)) (H : Heap) (locs : List Loc) (ls : Array Slot), g x2 x4 x6 x8 x9 s0 = some r → va_P (dC, dI) vwCl (dw_X3s a ac s0) H → va_D A (dw_X3s a ac s0) → va_S A s.heap H locs → lv_has ls 13 [(0, .ref (a 1)), (2, .int x2), (4, .long x4), (6, .long x6), (8, .int x8), (9, .int x9)] → W p l e (headSpec ow_dm_X3_readBrought ({ frames := 3, cells := 0, slots := 0, locals := 66 })).room s m args below meth c H locs 0 0 Q (F0 m 132 ls [])
def dj_X3_readBrought_90 (p : Program) (l : Launch) (e : Env) (s : State) (m : MethodId) (args : Array Value) (below : List Frame) (meth : Method) (c : Code) (Q : State → Prop) (A : Nat → Prop) (dC : Nat → ClassId) (dI : Nat → Nat → Nat) (a : Nat → Nat) (ac : Nat → ClassId) (g : Int32 → Int32 → Int32 → Int64 → Int64 → Int32 → Int32 → (St × (St)) → Option (St × (St))) (r : St × (St)) : Prop := ∀ (x1 : Int32) (x2 : Int32) (x3 : Int32) (x4 : Int64) (x6 : Int64) (x8 : Int32) (x9 : Int32) (s0 : St × (St)) (H : Heap) (locs : List Loc) (ls : Array Slot), g x1 x2 x3 x4 x6 x8 x9 s0 = some r → va_P (dC, dI) vwCl (dw_X3s a ac s0) H → va_D A (dw_X3s a ac s0) → va_S A s.heap H locs → lv_has ls 13 [(0, .ref (a 1)), (1, .int x1), (2, .int x2), (3, .int x3), (4, .long x4), (6, .long x6), (8, .int x8), (9, .int x9)] → W p l e (headSpec ow_dm_X3_readBrought ({ frames := 3, cells := 0, slots := 0, locals := 66 })).room s m args below meth c H locs 0 0 Q (F0 m 90 ls [])
def dj_X3_readBrought_87 (p : Program) (l : Launch) (e : Env) (s : State) (m : MethodId) (args : Array Value) (below : List Frame) (meth : Method) (c : Code) (Q : State → Prop) (A : Nat → Prop) (dC : Nat → ClassId) (dI : Nat → Nat → Nat) (a : Nat → Nat) (ac : Nat → ClassId) (g : Int32 → Int64 → Int64 → Int32 → (St × (St)) → Option (St × (St))) (r : St × (St)) : Prop := ∀ (x2 : Int32) (x4 : Int64) (x6 : Int64) (x8 : Int32) (s0 : St × (St)) (H : Heap) (locs : List Loc) (ls : Array Slot), g x2 x4 x6 x8 s0 = some r → va_P (dC, dI) vwCl (dw_X3s a ac s0) H → va_D A (dw_X3s a ac s0) → va_S A s.heap H locs → lv_has ls 13 [(0, .ref (a 1)), (2, .int x2), (4, .long x4), (6, .long x6), (8, .int x8)] → W p l e (headSpec ow_dm_X3_readBrought ({ frames := 3, cells := 0, slots := 0, locals := 66 })).room s m args below meth c H locs 0 0 Q (F0 m 87 ls [])
def dj_X3_readBrought_42 (p : Program) (l : Launch) (e : Env) (s : State) (m : MethodId) (args : Array Value) (below : List Frame) (meth : Method) (c : Code) (Q : State → Prop) (A : Nat → Prop) (dC : Nat → ClassId) (dI : Nat → Nat → Nat) (a : Nat → Nat) (ac : Nat → ClassId) (g : Int32 → Int32 → Int64 → Int64 → Int32 → Int64 → (St × (St)) → Option (St × (St))) (r : St × (St)) : Prop := ∀ (x1 : Int32) (x2 : Int32) (x4 : Int64) (x6 : Int64) (x8 : Int32) (x10 : Int64) (s0 : St × (St)) (H : Heap) (locs : List Loc) (ls : Array Slot), g x1 x2 x4 x6 x8 x10 s0 = some r → va_P (dC, dI) vwCl (dw_X3s a ac s0) H → va_D A (dw_X3s a ac s0) → va_S A s.heap H locs → lv_has ls 13 [(0, .ref (a 1)), (1, .int x1), (2, .int x2), (4, .long x4), (6, .long x6), (8, .int x8), (10, .long x10)] → W p l e (headSpec ow_dm_X3_readBrought ({ frames := 3, cells := 0, slots := 0, locals := 66 })).room s m args below meth c H locs 0 0 Q (F0 m 42 ls [])
def dj_X3_readBrought_0 (p : Program) (l : Launch) (e : Env) (s : State) (m : MethodId) (args : Array Value) (below : List Frame) (meth : Method) (c : Code) (Q : State → Prop) (A : Nat → Prop) (dC : Nat → ClassId) (dI : Nat → Nat → Nat) (a : Nat → Nat) (ac : Nat → ClassId) (g : Int32 → Int32 → Int32 → Int64 → (St × (St)) → Option (St × (St))) (r : St × (St)) : Prop := ∀ (v0 : Int32) (v1 : Int32) (v2 : Int32) (v3 : Int64) (s0 : St × (St)) (H : Heap) (locs : List Loc) (ls : Array Slot), g v0 v1 v2 v3 s0 = some r → va_P (dC, dI) vwCl (dw_X3s a ac s0) H → va_D A (dw_X3s a ac s0) → va_S A s.heap H locs → lv_has ls 13 [(0, .ref (a 1)), (1, .int v0), (2, .int v1), (3, .int v2), (4, .long v3)] → W p l e (headSpec ow_dm_X3_readBrought ({ frames := 3, cells := 0, slots := 0, locals := 66 })).room s m args below meth c H locs 0 0 Q (F0 m 0 ls [])
set_option maxHeartbeats 40000000 in
set_option maxRecDepth 100000 in
theorem db_X3_readBrought_235 {p : Program} {l : Launch} {e : Env} {s : State} {m : MethodId} {args : Array Value} {below : List Frame} {meth : Method} {c : Code} {Q : State → Prop} {A : Nat → Prop} {dC : Nat → ClassId} {dI : Nat → Nat → Nat} {a : Nat → Nat} {ac : Nat → ClassId} {n : Nat} {r : St × (St)} (C : nd_C p l s m args c A (dC, dI) cX3_readBrought 13 RX3 ow_dm_X3_readBrought (dk_X3s ac)) (K : nd_Kv p l e (headSpec ow_dm_X3_readBrought ({ frames := 3, cells := 0, slots := 0, locals := 66 })).room s m args below meth c Q A (dC, dI) cX3_readBrought (St × (St)) (dw_X3s a ac) r) : dj_X3_readBrought_235 p l e s m args below meth c Q A dC dI a ac (df_X3_readBrought_235 n (a 0)) r := by
  obtain ⟨hlt, hx, hb, hml, hown, hts, hN, hA, hK⟩ := id C
  intro s0 H locs ls h hP hD hS hl
  unfold df_X3_readBrought_235 at h
  exact K _ _ _ _ _ dX3_readBrought_235 (Option.some.inj h).symm hP hD hS
set_option maxHeartbeats 40000000 in
set_option maxRecDepth 100000 in
theorem db_X3_readBrought_216 {p : Program} {l : Launch} {e : Env} {s : State} {m : MethodId} {args : Array Value} {below : List Frame} {meth : Method} {c : Code} {Q : State → Prop} {A : Nat → Prop} {dC : Nat → ClassId} {dI : Nat → Nat → Nat} {a : Nat → Nat} {ac : Nat → ClassId} {n : Nat} {r : St × (St)} (C : nd_C p l s m args c A (dC, dI) cX3_readBrought 13 RX3 ow_dm_X3_readBrought (dk_X3s ac)) (K : nd_Kv p l e (headSpec ow_dm_X3_readBrought ({ frames := 3, cells := 0, slots := 0, locals := 66 })).room s m args below meth c Q A (dC, dI) cX3_readBrought (St × (St)) (dw_X3s a ac) r) : dj_X3_readBrought_216 p l e s m args below meth c Q A dC dI a ac (df_X3_readBrought_216 n (a 0)) r := by
  obtain ⟨hlt, hx, hb, hml, hown, hts, hN, hA, hK⟩ := id C
  intro x2 x4 x6 x8 s0 H locs ls h hP hD hS hl
  unfold df_X3_readBrought_216 at h
  refine lv_aload_n hx hb dX3_readBrought_216 rfl (lv_at hl 0 rfl) ?_
  refine va_get (D := (dC, dI)) (ci := 4) (v := .int (sI s0.2 4)) (C := RX3) (T := TX3) (N := 11) hx hb hts hi_dm_X3_readBrought_X3 hown hK hP 1 rfl rfl 9 (by decide) (hts (.fieldLink RX3 95 "TimeMachine$Events" "fault" "I") (List.mem_of_getElem? (i := 2) rfl)) (fun _ h9 => h9) rfl dX3_readBrought_217 ?_
  refine lv_if_ne (tgt := 235) hx hb dX3_readBrought_220 (by decide) (fun c9 => ?_) (fun c9 => ?_)
  · have h := nd_neg h c9
    exact (db_X3_readBrought_235 C K)  s0 _ _ _ h hP hD hS (lv_sub hl [] rfl)
  · have h := nd_pos h c9
    refine lv_aload_n hx hb dX3_readBrought_223 rfl (lv_at hl 0 rfl) ?_
    refine lv_iload_n hx hb dX3_readBrought_224 rfl (lv_at hl 1 rfl) ?_
    refine lv_lload hx hb dX3_readBrought_225 (lv_at hl 2 rfl) ?_
    refine lv_lload hx hb dX3_readBrought_227 (lv_at hl 3 rfl) ?_
    refine lv_iload hx hb dX3_readBrought_229 (lv_at hl 4 rfl) ?_
    obtain ⟨q10, s11, hq, h⟩ := nd_b2_e h
    have hPc := dp_X3s_1 hP
    have hDc := dd_X3s_1 hD
    have hKc := dy_X3s_1 hK
    have hFc := nd_rs hDc hS hA
    have hzA : ∀ q : Nat, H.size ≤ q → A q := fun q h => hA q (Nat.le_trans hS.1 h)
    refine nd_cVi (As := [.int x2, .long x4, .long x6, .int x8]) (rest := []) (q := q10) (w' := dw_X3c (fun k => a (k + 1)) (fun k => ac (k + 1)) s11) ⟨hx, hb, hml, hown, hts⟩ (fun sz => dm_X3_add l hlt dC dI (fun k => a (k + 1)) (fun k => ac (k + 1)) n (x2) (x4) (x6) (x8) s0.2 hq sz) (cwV 4 hts gi_dm_X3_readBrought_0 rfl rfl rfl (by decide +kernel) ⟨Nat.le_of_ble_eq_true rfl, Nat.le_of_ble_eq_true rfl⟩) hPc hDc hKc hS hA hN (va_recv hKc hPc (ci := 4) (q0 := 0) rfl rfl) rfl hl.1 rfl (Nat.le_of_ble_eq_true rfl) dX3_readBrought_231 (fun H locs hP1 hD1 hk1 hS => ?_)
    obtain ⟨hP, hD⟩ := dn_X3s_1 hP hD hzA hk1 hP1 hD1
    obtain ⟨s13, es13, h⟩ := nd_let_e h
    have hP : va_P (dC, dI) vwCl (dw_X3s a ac s13) H := by rw [es13]; exact hP
    have hD : va_D A (dw_X3s a ac s13) := by rw [es13]; exact hD
    refine lv_pop hx hb dX3_readBrought_234 rfl ?_
    exact (db_X3_readBrought_235 C K)  s13 _ _ _ h hP hD hS (lv_sub hl [] rfl)
set_option maxHeartbeats 40000000 in
set_option maxRecDepth 100000 in
theorem db_X3_readBrought_190 {p : Program} {l : Launch} {e : Env} {s : State} {m : MethodId} {args : Array Value} {below : List Frame} {meth : Method} {c : Code} {Q : State → Prop} {A : Nat → Prop} {dC : Nat → ClassId} {dI : Nat → Nat → Nat} {a : Nat → Nat} {ac : Nat → ClassId} {n : Nat} {r : St × (St)} (C : nd_C p l s m args c A (dC, dI) cX3_readBrought 13 RX3 ow_dm_X3_readBrought (dk_X3s ac)) (K : nd_Kv p l e (headSpec ow_dm_X3_readBrought ({ frames := 3, cells := 0, slots := 0, locals := 66 })).room s m args below meth c Q A (dC, dI) cX3_readBrought (St × (St)) (dw_X3s a ac) r) : dj_X3_readBrought_190 p l e s m args below meth c Q A dC dI a ac (df_X3_readBrought_190 n (a 0)) r := by
  obtain ⟨hlt, hx, hb, hml, hown, hts, hN, hA, hK⟩ := id C
  intro x2 x4 x6 x8 s0 H locs ls h hP hD hS hl
  unfold df_X3_readBrought_190 at h
  refine lv_iload_n hx hb dX3_readBrought_190 rfl (lv_at hl 1 rfl) ?_
  refine lv_iconst (v := 3) hx hb dX3_readBrought_191 (by decide) ?_
  refine lv_icmp_ne (tgt := 204) hx hb dX3_readBrought_192 (by decide) (fun c7 => ?_) (fun c7 => ?_)
  · have h := nd_neg h c7
    refine lv_iload_n hx hb dX3_readBrought_204 rfl (lv_at hl 1 rfl) ?_
    refine lv_iconst (v := 4) hx hb dX3_readBrought_205 (by decide) ?_
    refine lv_icmp_ne (tgt := 216) hx hb dX3_readBrought_206 (by decide) (fun c8 => ?_) (fun c8 => ?_)
    · have h := nd_neg h c8
      exact (db_X3_readBrought_216 C K) (x2) (x4) (x6) (x8) s0 _ _ _ h hP hD hS (lv_sub hl [0, 1, 2, 3, 4] rfl)
    · have h := nd_pos h c8
      refine lv_aload_n hx hb dX3_readBrought_209 rfl (lv_at hl 0 rfl) ?_
      refine lv_iconst (v := 4) hx hb dX3_readBrought_210 (by decide) ?_
      obtain ⟨q14, s15, hq, h⟩ := nd_b2_e h
      have hPc := hP
      have hDc := hD
      have hKc := hK
      have hFc := nd_rs hD hS hA
      refine nd_cVl (As := [.int 4]) (rest := []) (q := q14) (w' := dw_X3s a ac s15) ⟨hx, hb, hml, hown, hts⟩ (fun sz => dm_X3_readBytes l hlt dC dI a ac n (4) s0 hq sz) (cwV 1 hts gi_dm_X3_readBrought_1 rfl rfl rfl (by decide +kernel) ⟨Nat.le_of_ble_eq_true rfl, Nat.le_of_ble_eq_true rfl⟩) hPc hDc hKc hS hA hN (va_recv hKc hPc (ci := 4) (q0 := 1) rfl rfl) rfl hl.1 rfl (Nat.le_of_ble_eq_true rfl) dX3_readBrought_211 (fun H locs hP1 hD1 hk1 hS => ?_)
      have hP := hP1
      have hD := hD1.weaken (fun k q _ h => hFc q.1 h)
      refine lv_lstore (lv' := [(6, .long q14), (0, .ref (a 1)), (2, .int x2), (4, .long x4), (8, .int x8)]) hx hb dX3_readBrought_214 hl (by decide) rfl (fun ls hl => ?_)
      exact (db_X3_readBrought_216 C K) (x2) (x4) (q14) (x8) s15 _ _ _ h hP hD hS (lv_sub hl [1, 2, 3, 0, 4] rfl)
  · have h := nd_pos h c7
    refine lv_aload_n hx hb dX3_readBrought_195 rfl (lv_at hl 0 rfl) ?_
    obtain ⟨q17, s18, hq, h⟩ := nd_b2_e h
    have hPc := hP
    have hDc := hD
    have hKc := hK
    have hFc := nd_rs hD hS hA
    refine nd_cVl (As := []) (rest := []) (q := q17) (w' := dw_X3s a ac s18) ⟨hx, hb, hml, hown, hts⟩ (fun sz => dm_X3_readVarint l hlt dC dI a ac n  s0 hq sz) (cwV 0 hts gi_dm_X3_readBrought_2 rfl rfl rfl (by decide +kernel) ⟨Nat.le_of_ble_eq_true rfl, Nat.le_of_ble_eq_true rfl⟩) hPc hDc hKc hS hA hN (va_recv hKc hPc (ci := 4) (q0 := 1) rfl rfl) rfl hl.1 rfl (Nat.le_of_ble_eq_true rfl) dX3_readBrought_196 (fun H locs hP1 hD1 hk1 hS => ?_)
    have hP := hP1
    have hD := hD1.weaken (fun k q _ h => hFc q.1 h)
    refine lv_lstore (lv' := [(6, .long q17), (0, .ref (a 1)), (2, .int x2), (4, .long x4), (8, .int x8)]) hx hb dX3_readBrought_199 hl (by decide) rfl (fun ls hl => ?_)
    refine lv_goto (tgt := 216) hx hb dX3_readBrought_201 (by decide) ?_
    exact (db_X3_readBrought_216 C K) (x2) (x4) (q17) (x8) s18 _ _ _ h hP hD hS (lv_sub hl [1, 2, 3, 0, 4] rfl)
set_option maxHeartbeats 40000000 in
set_option maxRecDepth 100000 in
theorem db_X3_readBrought_187 {p : Program} {l : Launch} {e : Env} {s : State} {m : MethodId} {args : Array Value} {below : List Frame} {meth : Method} {c : Code} {Q : State → Prop} {A : Nat → Prop} {dC : Nat → ClassId} {dI : Nat → Nat → Nat} {a : Nat → Nat} {ac : Nat → ClassId} {n : Nat} {r : St × (St)} (C : nd_C p l s m args c A (dC, dI) cX3_readBrought 13 RX3 ow_dm_X3_readBrought (dk_X3s ac)) (K : nd_Kv p l e (headSpec ow_dm_X3_readBrought ({ frames := 3, cells := 0, slots := 0, locals := 66 })).room s m args below meth c Q A (dC, dI) cX3_readBrought (St × (St)) (dw_X3s a ac) r) : dj_X3_readBrought_187 p l e s m args below meth c Q A dC dI a ac (df_X3_readBrought_187 n (a 0)) r := by
  obtain ⟨hlt, hx, hb, hml, hown, hts, hN, hA, hK⟩ := id C
  intro x2 x4 x6 x8 s0 H locs ls h hP hD hS hl
  unfold df_X3_readBrought_187 at h
  refine lv_goto (tgt := 216) hx hb dX3_readBrought_187 (by decide) ?_
  exact (db_X3_readBrought_216 C K) (x2) (x4) (x6) (x8) s0 _ _ _ h hP hD hS (lv_sub hl [0, 1, 2, 3, 4] rfl)
set_option maxHeartbeats 40000000 in
set_option maxRecDepth 100000 in
theorem db_X3_readBrought_132 {p : Program} {l : Launch} {e : Env} {s : State} {m : MethodId} {args : Array Value} {below : List Frame} {meth : Method} {c : Code} {Q : State → Prop} {A : Nat → Prop} {dC : Nat → ClassId} {dI : Nat → Nat → Nat} {a : Nat → Nat} {ac : Nat → ClassId} {n : Nat} {r : St × (St)} (C : nd_C p l s m args c A (dC, dI) cX3_readBrought 13 RX3 ow_dm_X3_readBrought (dk_X3s ac)) (K : nd_Kv p l e (headSpec ow_dm_X3_readBrought ({ frames := 3, cells := 0, slots := 0, locals := 66 })).room s m args below meth c Q A (dC, dI) cX3_readBrought (St × (St)) (dw_X3s a ac) r) : dj_X3_readBrought_132 p l e s m args below meth c Q A dC dI a ac (df_X3_readBrought_132 n (a 0)) r := by
  obtain ⟨hlt, hx, hb, hml, hown, hts, hN, hA, hK⟩ := id C
  intro x2 x4 x6 x8 x9 s0 H locs ls h hP hD hS hl
  unfold df_X3_readBrought_132 at h
  refine lv_aload_n hx hb dX3_readBrought_132 rfl (lv_at hl 0 rfl) ?_
  refine lv_iconst (v := 5) hx hb dX3_readBrought_133 (by decide) ?_
  refine lv_iload hx hb dX3_readBrought_134 (lv_at hl 5 rfl) ?_
  obtain ⟨s37, hq, h⟩ := nd_b1_e h
  have hPc := dp_X3s_1 hP
  have hDc := dd_X3s_1 hD
  have hKc := dy_X3s_1 hK
  have hFc := nd_rs hDc hS hA
  have hzA : ∀ q : Nat, H.size ≤ q → A q := fun q h => hA q (Nat.le_trans hS.1 h)
  refine nd_cVv (As := [.int 5, .int x9]) (rest := []) (w' := dw_X3c (fun k => a (k + 1)) (fun k => ac (k + 1)) s37) ⟨hx, hb, hml, hown, hts⟩ (fun sz => dm_X3_blame l hlt dC dI (fun k => a (k + 1)) (fun k => ac (k + 1)) n (5) (x9) s0.2 hq sz) (cwV 2 hts gi_dm_X3_readBrought_4 rfl rfl rfl (by decide +kernel) ⟨Nat.le_of_ble_eq_true rfl, Nat.le_of_ble_eq_true rfl⟩) hPc hDc hKc hS hA hN (va_recv hKc hPc (ci := 4) (q0 := 0) rfl rfl) rfl hl.1 rfl (Nat.le_of_ble_eq_true rfl) dX3_readBrought_136 (fun H locs hP1 hD1 hk1 hS => ?_)
  obtain ⟨hP, hD⟩ := dn_X3s_1 hP hD hzA hk1 hP1 hD1
  obtain ⟨s39, es39, h⟩ := nd_let_e h
  have hP : va_P (dC, dI) vwCl (dw_X3s a ac s39) H := by rw [es39]; exact hP
  have hD : va_D A (dw_X3s a ac s39) := by rw [es39]; exact hD
  refine lv_goto (tgt := 216) hx hb dX3_readBrought_139 (by decide) ?_
  exact (db_X3_readBrought_216 C K) (x2) (x4) (x6) (x8) s39 _ _ _ h hP hD hS (lv_sub hl [0, 1, 2, 3, 4] rfl)
set_option maxHeartbeats 40000000 in
set_option maxRecDepth 100000 in
theorem db_X3_readBrought_90 {p : Program} {l : Launch} {e : Env} {s : State} {m : MethodId} {args : Array Value} {below : List Frame} {meth : Method} {c : Code} {Q : State → Prop} {A : Nat → Prop} {dC : Nat → ClassId} {dI : Nat → Nat → Nat} {a : Nat → Nat} {ac : Nat → ClassId} {n : Nat} {r : St × (St)} (C : nd_C p l s m args c A (dC, dI) cX3_readBrought 13 RX3 ow_dm_X3_readBrought (dk_X3s ac)) (K : nd_Kv p l e (headSpec ow_dm_X3_readBrought ({ frames := 3, cells := 0, slots := 0, locals := 66 })).room s m args below meth c Q A (dC, dI) cX3_readBrought (St × (St)) (dw_X3s a ac) r) : dj_X3_readBrought_90 p l e s m args below meth c Q A dC dI a ac (df_X3_readBrought_90 n (a 0)) r := by
  obtain ⟨hlt, hx, hb, hml, hown, hts, hN, hA, hK⟩ := id C
  intro x1 x2 x3 x4 x6 x8 x9 s0 H locs ls h hP hD hS hl
  unfold df_X3_readBrought_90 at h
  refine lv_iload_n hx hb dX3_readBrought_90 rfl (lv_at hl 2 rfl) ?_
  refine lv_iconst (v := 1) hx hb dX3_readBrought_91 (by decide) ?_
  refine lv_icmp_ne (tgt := 108) hx hb dX3_readBrought_92 (by decide) (fun c4 => ?_) (fun c4 => ?_)
  · have h := nd_neg h c4
    refine lv_iload_n hx hb dX3_readBrought_108 rfl (lv_at hl 2 rfl) ?_
    refine lv_iconst (v := 2) hx hb dX3_readBrought_109 (by decide) ?_
    refine lv_icmp_ne (tgt := 142) hx hb dX3_readBrought_110 (by decide) (fun c5 => ?_) (fun c5 => ?_)
    · have h := nd_neg h c5
      refine lv_iload_n hx hb dX3_readBrought_142 rfl (lv_at hl 2 rfl) ?_
      refine lv_iconst (v := 3) hx hb dX3_readBrought_143 (by decide) ?_
      refine lv_icmp_ne (tgt := 190) hx hb dX3_readBrought_144 (by decide) (fun c6 => ?_) (fun c6 => ?_)
      · have h := nd_neg h c6
        exact (db_X3_readBrought_190 C K) (x2) (x4) (x6) (x8) s0 _ _ _ h hP hD hS (lv_sub hl [0, 2, 4, 5, 6] rfl)
      · have h := nd_pos h c6
        refine lv_iload_n hx hb dX3_readBrought_147 rfl (lv_at hl 3 rfl) ?_
        refine lv_iconst (v := 1) hx hb dX3_readBrought_148 (by decide) ?_
        refine lv_icmp_ne (tgt := 190) hx hb dX3_readBrought_149 (by decide) (fun c20 => ?_) (fun c20 => ?_)
        · have h := nd_neg h c20
          exact (db_X3_readBrought_190 C K) (x2) (x4) (x6) (x8) s0 _ _ _ h hP hD hS (lv_sub hl [0, 2, 4, 5, 6] rfl)
        · have h := nd_pos h c20
          refine lv_aload_n hx hb dX3_readBrought_152 rfl (lv_at hl 0 rfl) ?_
          refine lv_iconst (v := 3) hx hb dX3_readBrought_153 (by decide) ?_
          refine lv_lconst (v := 1) hx hb dX3_readBrought_154 (by decide) ?_
          refine lv_aload_n hx hb dX3_readBrought_155 rfl (lv_at hl 0 rfl) ?_
          refine va_get (D := (dC, dI)) (ci := 4) (v := .int (sI s0.2 1)) (C := RX3) (T := TX3) (N := 11) hx hb hts hi_dm_X3_readBrought_X3 hown hK hP 1 rfl rfl 5 (by decide) (hts (.fieldLink RX3 39 "TimeMachine$Events" "total" "I") (List.mem_of_getElem? (i := 13) rfl)) (fun _ h9 => h9) rfl dX3_readBrought_156 ?_
          obtain ⟨q21, s22, hq, h⟩ := nd_b2_e h
          have hPc := dp_X3s_1 hP
          have hDc := dd_X3s_1 hD
          have hKc := dy_X3s_1 hK
          have hFc := nd_rs hDc hS hA
          have hzA : ∀ q : Nat, H.size ≤ q → A q := fun q h => hA q (Nat.le_trans hS.1 h)
          refine nd_cVi (As := [.int 3, .long 1, .int (sI s0.2 1)]) (rest := []) (q := q21) (w' := dw_X3c (fun k => a (k + 1)) (fun k => ac (k + 1)) s22) ⟨hx, hb, hml, hown, hts⟩ (fun sz => dm_X3_latest l hlt dC dI (fun k => a (k + 1)) (fun k => ac (k + 1)) n (3) (1) ((sI s0.2 1)) s0.2 hq sz) (cwV 3 hts gi_dm_X3_readBrought_3 rfl rfl rfl (by decide +kernel) ⟨Nat.le_of_ble_eq_true rfl, Nat.le_of_ble_eq_true rfl⟩) hPc hDc hKc hS hA hN (va_recv hKc hPc (ci := 4) (q0 := 0) rfl rfl) rfl hl.1 rfl (Nat.le_of_ble_eq_true rfl) dX3_readBrought_159 (fun H locs hP1 hD1 hk1 hS => ?_)
          obtain ⟨hP, hD⟩ := dn_X3s_1 hP hD hzA hk1 hP1 hD1
          obtain ⟨s24, es24, h⟩ := nd_let_e h
          have hP : va_P (dC, dI) vwCl (dw_X3s a ac s24) H := by rw [es24]; exact hP
          have hD : va_D A (dw_X3s a ac s24) := by rw [es24]; exact hD
          refine lv_istore (lv' := [(10, .int q21), (0, .ref (a 1)), (1, .int x1), (2, .int x2), (3, .int x3), (4, .long x4), (6, .long x6), (8, .int x8), (9, .int x9)]) hx hb dX3_readBrought_162 hl (by decide) rfl (fun ls hl => ?_)
          refine lv_iload hx hb dX3_readBrought_164 (lv_at hl 0 rfl) ?_
          refine lv_if_ge (tgt := 178) hx hb dX3_readBrought_166 (by decide) (fun c25 => ?_) (fun c25 => ?_)
          · have h := nd_pos h c25
            refine lv_aload_n hx hb dX3_readBrought_178 rfl (lv_at hl 1 rfl) ?_
            refine va_get (D := (dC, dI)) (ci := 4) (v := .ref (a 4)) (C := RX3) (T := TX3) (N := 11) hx hb hts hi_dm_X3_readBrought_X3 hown hK hP 1 rfl rfl 2 (by decide) (hts (.fieldLink RX3 17 "TimeMachine$Events" "a" "[J") (List.mem_of_getElem? (i := 17) rfl)) (fun _ h9 => h9) rfl dX3_readBrought_179 ?_
            refine lv_iload hx hb dX3_readBrought_182 (lv_at hl 0 rfl) ?_
            obtain ⟨i26, h⟩ := nd_ck_e h
            refine va_lald (i := q21) hx hb hK hP 4 3 rfl rfl i26 dX3_readBrought_184 ?_
            refine lv_topl (fun z27 ez27 => ?_)
            have h := nd_at h ez27
            refine lv_lstore (lv' := [(6, .long z27), (10, .int q21), (0, .ref (a 1)), (1, .int x1), (2, .int x2), (3, .int x3), (4, .long x4), (8, .int x8), (9, .int x9)]) hx hb dX3_readBrought_185 hl (by decide) rfl (fun ls hl => ?_)
            exact (db_X3_readBrought_187 C K) (x2) (x4) (z27) (x8) s24 _ _ _ h hP hD hS (lv_sub hl [2, 4, 6, 0, 7] rfl)
          · have h := nd_neg h c25
            refine lv_aload_n hx hb dX3_readBrought_169 rfl (lv_at hl 1 rfl) ?_
            refine lv_iconst (v := 4) hx hb dX3_readBrought_170 (by decide) ?_
            refine lv_iload_n hx hb dX3_readBrought_171 rfl (lv_at hl 2 rfl) ?_
            obtain ⟨s29, hq, h⟩ := nd_b1_e h
            have hPc := dp_X3s_1 hP
            have hDc := dd_X3s_1 hD
            have hKc := dy_X3s_1 hK
            have hFc := nd_rs hDc hS hA
            have hzA : ∀ q : Nat, H.size ≤ q → A q := fun q h => hA q (Nat.le_trans hS.1 h)
            refine nd_cVv (As := [.int 4, .int x1]) (rest := []) (w' := dw_X3c (fun k => a (k + 1)) (fun k => ac (k + 1)) s29) ⟨hx, hb, hml, hown, hts⟩ (fun sz => dm_X3_blame l hlt dC dI (fun k => a (k + 1)) (fun k => ac (k + 1)) n (4) (x1) s24.2 hq sz) (cwV 2 hts gi_dm_X3_readBrought_4 rfl rfl rfl (by decide +kernel) ⟨Nat.le_of_ble_eq_true rfl, Nat.le_of_ble_eq_true rfl⟩) hPc hDc hKc hS hA hN (va_recv hKc hPc (ci := 4) (q0 := 0) rfl rfl) rfl hl.1 rfl (Nat.le_of_ble_eq_true rfl) dX3_readBrought_172 (fun H locs hP1 hD1 hk1 hS => ?_)
            obtain ⟨hP, hD⟩ := dn_X3s_1 hP hD hzA hk1 hP1 hD1
            obtain ⟨s31, es31, h⟩ := nd_let_e h
            have hP : va_P (dC, dI) vwCl (dw_X3s a ac s31) H := by rw [es31]; exact hP
            have hD : va_D A (dw_X3s a ac s31) := by rw [es31]; exact hD
            refine lv_goto (tgt := 187) hx hb dX3_readBrought_175 (by decide) ?_
            exact (db_X3_readBrought_187 C K) (x2) (x4) (x6) (x8) s31 _ _ _ h hP hD hS (lv_sub hl [1, 3, 5, 6, 7] rfl)
    · have h := nd_pos h c5
      refine lv_aload_n hx hb dX3_readBrought_113 rfl (lv_at hl 0 rfl) ?_
      obtain ⟨q32, s33, hq, h⟩ := nd_b2_e h
      have hPc := hP
      have hDc := hD
      have hKc := hK
      have hFc := nd_rs hD hS hA
      refine nd_cVi (As := []) (rest := []) (q := q32) (w' := dw_X3s a ac s33) ⟨hx, hb, hml, hown, hts⟩ (fun sz => dm_X3_readByte l hlt dC dI a ac n  s0 hq sz) (cwV 0 hts gi_dm_X3_readBrought_5 rfl rfl rfl (by decide +kernel) ⟨Nat.le_of_ble_eq_true rfl, Nat.le_of_ble_eq_true rfl⟩) hPc hDc hKc hS hA hN (va_recv hKc hPc (ci := 4) (q0 := 1) rfl rfl) rfl hl.1 rfl (Nat.le_of_ble_eq_true rfl) dX3_readBrought_114 (fun H locs hP1 hD1 hk1 hS => ?_)
      have hP := hP1
      have hD := hD1.weaken (fun k q _ h => hFc q.1 h)
      refine lv_istore (lv' := [(8, .int q32), (0, .ref (a 1)), (1, .int x1), (2, .int x2), (3, .int x3), (4, .long x4), (6, .long x6), (9, .int x9)]) hx hb dX3_readBrought_117 hl (by decide) rfl (fun ls hl => ?_)
      refine lv_iload hx hb dX3_readBrought_119 (lv_at hl 0 rfl) ?_
      refine lv_iconst (v := 1) hx hb dX3_readBrought_121 (by decide) ?_
      refine lv_icmp_lt (tgt := 132) hx hb dX3_readBrought_122 (by decide) (fun c35 => ?_) (fun c35 => ?_)
      · have h := nd_pos h c35
        exact (db_X3_readBrought_132 C K) (x2) (x4) (x6) (q32) (x9) s33 _ _ _ h hP hD hS (lv_sub hl [1, 3, 5, 6, 0, 7] rfl)
      · have h := nd_neg h c35
        refine lv_iload hx hb dX3_readBrought_125 (lv_at hl 0 rfl) ?_
        refine lv_bipush (v := 31) hx hb dX3_readBrought_127 (by decide) ?_
        refine lv_icmp_le (tgt := 216) hx hb dX3_readBrought_129 (by decide) (fun c40 => ?_) (fun c40 => ?_)
        · have h := nd_pos h c40
          exact (db_X3_readBrought_216 C K) (x2) (x4) (x6) (q32) s33 _ _ _ h hP hD hS (lv_sub hl [1, 3, 5, 6, 0] rfl)
        · have h := nd_neg h c40
          exact (db_X3_readBrought_132 C K) (x2) (x4) (x6) (q32) (x9) s33 _ _ _ h hP hD hS (lv_sub hl [1, 3, 5, 6, 0, 7] rfl)
  · have h := nd_pos h c4
    refine lv_aload_n hx hb dX3_readBrought_95 rfl (lv_at hl 0 rfl) ?_
    refine lv_iload_n hx hb dX3_readBrought_96 rfl (lv_at hl 3 rfl) ?_
    obtain ⟨q41, s42, hq, h⟩ := nd_b2_e h
    have hPc := hP
    have hDc := hD
    have hKc := hK
    have hFc := nd_rs hD hS hA
    refine nd_cVl (As := [.int x3]) (rest := []) (q := q41) (w' := dw_X3s a ac s42) ⟨hx, hb, hml, hown, hts⟩ (fun sz => dm_X3_readBytes l hlt dC dI a ac n (x3) s0 hq sz) (cwV 1 hts gi_dm_X3_readBrought_1 rfl rfl rfl (by decide +kernel) ⟨Nat.le_of_ble_eq_true rfl, Nat.le_of_ble_eq_true rfl⟩) hPc hDc hKc hS hA hN (va_recv hKc hPc (ci := 4) (q0 := 1) rfl rfl) rfl hl.1 rfl (Nat.le_of_ble_eq_true rfl) dX3_readBrought_97 (fun H locs hP1 hD1 hk1 hS => ?_)
    have hP := hP1
    have hD := hD1.weaken (fun k q _ h => hFc q.1 h)
    refine lv_lstore (lv' := [(6, .long q41), (0, .ref (a 1)), (1, .int x1), (2, .int x2), (3, .int x3), (4, .long x4), (8, .int x8), (9, .int x9)]) hx hb dX3_readBrought_100 hl (by decide) rfl (fun ls hl => ?_)
    refine lv_iload_n hx hb dX3_readBrought_102 rfl (lv_at hl 4 rfl) ?_
    refine lv_istore (lv' := [(8, .int x3), (6, .long q41), (0, .ref (a 1)), (1, .int x1), (2, .int x2), (3, .int x3), (4, .long x4), (9, .int x9)]) hx hb dX3_readBrought_103 hl (by decide) rfl (fun ls hl => ?_)
    refine lv_goto (tgt := 216) hx hb dX3_readBrought_105 (by decide) ?_
    exact (db_X3_readBrought_216 C K) (x2) (x4) (q41) (x3) s42 _ _ _ h hP hD hS (lv_sub hl [2, 4, 6, 1, 0] rfl)
set_option maxHeartbeats 40000000 in
set_option maxRecDepth 100000 in
theorem db_X3_readBrought_87 {p : Program} {l : Launch} {e : Env} {s : State} {m : MethodId} {args : Array Value} {below : List Frame} {meth : Method} {c : Code} {Q : State → Prop} {A : Nat → Prop} {dC : Nat → ClassId} {dI : Nat → Nat → Nat} {a : Nat → Nat} {ac : Nat → ClassId} {n : Nat} {r : St × (St)} (C : nd_C p l s m args c A (dC, dI) cX3_readBrought 13 RX3 ow_dm_X3_readBrought (dk_X3s ac)) (K : nd_Kv p l e (headSpec ow_dm_X3_readBrought ({ frames := 3, cells := 0, slots := 0, locals := 66 })).room s m args below meth c Q A (dC, dI) cX3_readBrought (St × (St)) (dw_X3s a ac) r) : dj_X3_readBrought_87 p l e s m args below meth c Q A dC dI a ac (df_X3_readBrought_87 n (a 0)) r := by
  obtain ⟨hlt, hx, hb, hml, hown, hts, hN, hA, hK⟩ := id C
  intro x2 x4 x6 x8 s0 H locs ls h hP hD hS hl
  unfold df_X3_readBrought_87 at h
  refine lv_goto (tgt := 216) hx hb dX3_readBrought_87 (by decide) ?_
  exact (db_X3_readBrought_216 C K) (x2) (x4) (x6) (x8) s0 _ _ _ h hP hD hS (lv_sub hl [0, 1, 2, 3, 4] rfl)
set_option maxHeartbeats 40000000 in
set_option maxRecDepth 100000 in
theorem db_X3_readBrought_42 {p : Program} {l : Launch} {e : Env} {s : State} {m : MethodId} {args : Array Value} {below : List Frame} {meth : Method} {c : Code} {Q : State → Prop} {A : Nat → Prop} {dC : Nat → ClassId} {dI : Nat → Nat → Nat} {a : Nat → Nat} {ac : Nat → ClassId} {n : Nat} {r : St × (St)} (C : nd_C p l s m args c A (dC, dI) cX3_readBrought 13 RX3 ow_dm_X3_readBrought (dk_X3s ac)) (K : nd_Kv p l e (headSpec ow_dm_X3_readBrought ({ frames := 3, cells := 0, slots := 0, locals := 66 })).room s m args below meth c Q A (dC, dI) cX3_readBrought (St × (St)) (dw_X3s a ac) r) : dj_X3_readBrought_42 p l e s m args below meth c Q A dC dI a ac (df_X3_readBrought_42 n (a 0)) r := by
  obtain ⟨hlt, hx, hb, hml, hown, hts, hN, hA, hK⟩ := id C
  intro x1 x2 x4 x6 x8 x10 s0 H locs ls h hP hD hS hl
  unfold df_X3_readBrought_42 at h
  refine lv_aload_n hx hb dX3_readBrought_42 rfl (lv_at hl 0 rfl) ?_
  refine lv_iconst (v := 1) hx hb dX3_readBrought_43 (by decide) ?_
  refine lv_lload hx hb dX3_readBrought_44 (lv_at hl 6 rfl) ?_
  refine lv_aload_n hx hb dX3_readBrought_46 rfl (lv_at hl 0 rfl) ?_
  refine va_get (D := (dC, dI)) (ci := 4) (v := .int (sI s0.2 1)) (C := RX3) (T := TX3) (N := 11) hx hb hts hi_dm_X3_readBrought_X3 hown hK hP 1 rfl rfl 5 (by decide) (hts (.fieldLink RX3 39 "TimeMachine$Events" "total" "I") (List.mem_of_getElem? (i := 13) rfl)) (fun _ h9 => h9) rfl dX3_readBrought_47 ?_
  obtain ⟨q49, s50, hq, h⟩ := nd_b2_e h
  have hPc := dp_X3s_1 hP
  have hDc := dd_X3s_1 hD
  have hKc := dy_X3s_1 hK
  have hFc := nd_rs hDc hS hA
  have hzA : ∀ q : Nat, H.size ≤ q → A q := fun q h => hA q (Nat.le_trans hS.1 h)
  refine nd_cVi (As := [.int 1, .long x10, .int (sI s0.2 1)]) (rest := []) (q := q49) (w' := dw_X3c (fun k => a (k + 1)) (fun k => ac (k + 1)) s50) ⟨hx, hb, hml, hown, hts⟩ (fun sz => dm_X3_latest l hlt dC dI (fun k => a (k + 1)) (fun k => ac (k + 1)) n (1) (x10) ((sI s0.2 1)) s0.2 hq sz) (cwV 3 hts gi_dm_X3_readBrought_3 rfl rfl rfl (by decide +kernel) ⟨Nat.le_of_ble_eq_true rfl, Nat.le_of_ble_eq_true rfl⟩) hPc hDc hKc hS hA hN (va_recv hKc hPc (ci := 4) (q0 := 0) rfl rfl) rfl hl.1 rfl (Nat.le_of_ble_eq_true rfl) dX3_readBrought_50 (fun H locs hP1 hD1 hk1 hS => ?_)
  obtain ⟨hP, hD⟩ := dn_X3s_1 hP hD hzA hk1 hP1 hD1
  obtain ⟨s52, es52, h⟩ := nd_let_e h
  have hP : va_P (dC, dI) vwCl (dw_X3s a ac s52) H := by rw [es52]; exact hP
  have hD : va_D A (dw_X3s a ac s52) := by rw [es52]; exact hD
  refine lv_istore (lv' := [(12, .int q49), (0, .ref (a 1)), (1, .int x1), (2, .int x2), (4, .long x4), (6, .long x6), (8, .int x8), (10, .long x10)]) hx hb dX3_readBrought_53 hl (by decide) rfl (fun ls hl => ?_)
  refine lv_iload hx hb dX3_readBrought_55 (lv_at hl 0 rfl) ?_
  refine lv_if_ge (tgt := 69) hx hb dX3_readBrought_57 (by decide) (fun c53 => ?_) (fun c53 => ?_)
  · have h := nd_pos h c53
    refine lv_aload_n hx hb dX3_readBrought_69 rfl (lv_at hl 1 rfl) ?_
    refine va_get (D := (dC, dI)) (ci := 4) (v := .ref (a 4)) (C := RX3) (T := TX3) (N := 11) hx hb hts hi_dm_X3_readBrought_X3 hown hK hP 1 rfl rfl 2 (by decide) (hts (.fieldLink RX3 17 "TimeMachine$Events" "a" "[J") (List.mem_of_getElem? (i := 17) rfl)) (fun _ h9 => h9) rfl dX3_readBrought_70 ?_
    refine lv_iload hx hb dX3_readBrought_73 (lv_at hl 0 rfl) ?_
    obtain ⟨i54, h⟩ := nd_ck_e h
    refine va_lald (i := q49) hx hb hK hP 4 3 rfl rfl i54 dX3_readBrought_75 ?_
    refine lv_topl (fun z55 ez55 => ?_)
    have h := nd_at h ez55
    refine lv_lstore (lv' := [(6, .long z55), (12, .int q49), (0, .ref (a 1)), (1, .int x1), (2, .int x2), (4, .long x4), (8, .int x8), (10, .long x10)]) hx hb dX3_readBrought_76 hl (by decide) rfl (fun ls hl => ?_)
    refine lv_aload_n hx hb dX3_readBrought_78 rfl (lv_at hl 2 rfl) ?_
    refine va_get (D := (dC, dI)) (ci := 4) (v := .ref (a 5)) (C := RX3) (T := TX3) (N := 11) hx hb hts hi_dm_X3_readBrought_X3 hown hK hP 1 rfl rfl 3 (by decide) (hts (.fieldLink RX3 20 "TimeMachine$Events" "b" "[I") (List.mem_of_getElem? (i := 24) rfl)) (fun _ h9 => h9) rfl dX3_readBrought_79 ?_
    refine lv_iload hx hb dX3_readBrought_82 (lv_at hl 1 rfl) ?_
    obtain ⟨i56, h⟩ := nd_ck_e h
    refine va_iald (i := q49) hx hb hK hP 5 4 rfl rfl i56 dX3_readBrought_84 ?_
    refine lv_topi (fun z57 ez57 => ?_)
    have h := nd_at h ez57
    refine lv_istore (lv' := [(8, .int z57), (6, .long z55), (12, .int q49), (0, .ref (a 1)), (1, .int x1), (2, .int x2), (4, .long x4), (10, .long x10)]) hx hb dX3_readBrought_85 hl (by decide) rfl (fun ls hl => ?_)
    exact (db_X3_readBrought_87 C K) (x2) (x4) (z55) (z57) s52 _ _ _ h hP hD hS (lv_sub hl [3, 5, 6, 1, 0] rfl)
  · have h := nd_neg h c53
    refine lv_aload_n hx hb dX3_readBrought_60 rfl (lv_at hl 1 rfl) ?_
    refine lv_iconst (v := 4) hx hb dX3_readBrought_61 (by decide) ?_
    refine lv_iload_n hx hb dX3_readBrought_62 rfl (lv_at hl 2 rfl) ?_
    obtain ⟨s59, hq, h⟩ := nd_b1_e h
    have hPc := dp_X3s_1 hP
    have hDc := dd_X3s_1 hD
    have hKc := dy_X3s_1 hK
    have hFc := nd_rs hDc hS hA
    have hzA : ∀ q : Nat, H.size ≤ q → A q := fun q h => hA q (Nat.le_trans hS.1 h)
    refine nd_cVv (As := [.int 4, .int x1]) (rest := []) (w' := dw_X3c (fun k => a (k + 1)) (fun k => ac (k + 1)) s59) ⟨hx, hb, hml, hown, hts⟩ (fun sz => dm_X3_blame l hlt dC dI (fun k => a (k + 1)) (fun k => ac (k + 1)) n (4) (x1) s52.2 hq sz) (cwV 2 hts gi_dm_X3_readBrought_4 rfl rfl rfl (by decide +kernel) ⟨Nat.le_of_ble_eq_true rfl, Nat.le_of_ble_eq_true rfl⟩) hPc hDc hKc hS hA hN (va_recv hKc hPc (ci := 4) (q0 := 0) rfl rfl) rfl hl.1 rfl (Nat.le_of_ble_eq_true rfl) dX3_readBrought_63 (fun H locs hP1 hD1 hk1 hS => ?_)
    obtain ⟨hP, hD⟩ := dn_X3s_1 hP hD hzA hk1 hP1 hD1
    obtain ⟨s61, es61, h⟩ := nd_let_e h
    have hP : va_P (dC, dI) vwCl (dw_X3s a ac s61) H := by rw [es61]; exact hP
    have hD : va_D A (dw_X3s a ac s61) := by rw [es61]; exact hD
    refine lv_goto (tgt := 87) hx hb dX3_readBrought_66 (by decide) ?_
    exact (db_X3_readBrought_87 C K) (x2) (x4) (x6) (x8) s61 _ _ _ h hP hD hS (lv_sub hl [1, 3, 4, 5, 6] rfl)
set_option maxHeartbeats 40000000 in
set_option maxRecDepth 100000 in
theorem db_X3_readBrought_0 {p : Program} {l : Launch} {e : Env} {s : State} {m : MethodId} {args : Array Value} {below : List Frame} {meth : Method} {c : Code} {Q : State → Prop} {A : Nat → Prop} {dC : Nat → ClassId} {dI : Nat → Nat → Nat} {a : Nat → Nat} {ac : Nat → ClassId} {n : Nat} {r : St × (St)} (C : nd_C p l s m args c A (dC, dI) cX3_readBrought 13 RX3 ow_dm_X3_readBrought (dk_X3s ac)) (K : nd_Kv p l e (headSpec ow_dm_X3_readBrought ({ frames := 3, cells := 0, slots := 0, locals := 66 })).room s m args below meth c Q A (dC, dI) cX3_readBrought (St × (St)) (dw_X3s a ac) r) : dj_X3_readBrought_0 p l e s m args below meth c Q A dC dI a ac (df_X3_readBrought_0 n (a 0)) r := by
  obtain ⟨hlt, hx, hb, hml, hown, hts, hN, hA, hK⟩ := id C
  intro v0 v1 v2 v3 s0 H locs ls h hP hD hS hl
  unfold df_X3_readBrought_0 at h
  refine lv_iload_n hx hb dX3_readBrought_0 rfl (lv_at hl 3 rfl) ?_
  refine lv_i2l hx hb dX3_readBrought_1 rfl ?_
  refine lv_topl (fun z1 ez1 => ?_)
  have h := nd_at h ez1
  refine lv_lstore (lv' := [(6, .long z1), (0, .ref (a 1)), (1, .int v0), (2, .int v1), (3, .int v2), (4, .long v3)]) hx hb dX3_readBrought_2 hl (by decide) rfl (fun ls hl => ?_)
  refine lv_iconst (v := 0) hx hb dX3_readBrought_4 (by decide) ?_
  refine lv_istore (lv' := [(8, .int 0), (6, .long z1), (0, .ref (a 1)), (1, .int v0), (2, .int v1), (3, .int v2), (4, .long v3)]) hx hb dX3_readBrought_5 hl (by decide) rfl (fun ls hl => ?_)
  refine lv_aload_n hx hb dX3_readBrought_7 rfl (lv_at hl 2 rfl) ?_
  refine va_get (D := (dC, dI)) (ci := 4) (v := .int (sI s0.2 2)) (C := RX3) (T := TX3) (N := 11) hx hb hts hi_dm_X3_readBrought_X3 hown hK hP 1 rfl rfl 7 (by decide) (hts (.fieldLink RX3 44 "TimeMachine$Events" "place" "I") (List.mem_of_getElem? (i := 1) rfl)) (fun _ h9 => h9) rfl dX3_readBrought_8 ?_
  refine lv_topi (fun z2 ez2 => ?_)
  have h := nd_at h ez2
  refine lv_istore (lv' := [(9, .int z2), (8, .int 0), (6, .long z1), (0, .ref (a 1)), (1, .int v0), (2, .int v1), (3, .int v2), (4, .long v3)]) hx hb dX3_readBrought_11 hl (by decide) rfl (fun ls hl => ?_)
  refine lv_iload_n hx hb dX3_readBrought_13 rfl (lv_at hl 5 rfl) ?_
  refine lv_iconst (v := 1) hx hb dX3_readBrought_14 (by decide) ?_
  refine lv_icmp_ne (tgt := 90) hx hb dX3_readBrought_15 (by decide) (fun c3 => ?_) (fun c3 => ?_)
  · have h := nd_neg h c3
    exact (db_X3_readBrought_90 C K) (v0) (v1) (v2) (v3) (z1) (0) (z2) s0 _ _ _ h hP hD hS (lv_sub hl [3, 4, 5, 6, 7, 2, 1, 0] rfl)
  · have h := nd_pos h c3
    refine lv_iload_n hx hb dX3_readBrought_18 rfl (lv_at hl 6 rfl) ?_
    refine lv_if_ne (tgt := 90) hx hb dX3_readBrought_19 (by decide) (fun c44 => ?_) (fun c44 => ?_)
    · have h := nd_neg h c44
      exact (db_X3_readBrought_90 C K) (v0) (v1) (v2) (v3) (z1) (0) (z2) s0 _ _ _ h hP hD hS (lv_sub hl [3, 4, 5, 6, 7, 2, 1, 0] rfl)
    · have h := nd_pos h c44
      refine lv_aload_n hx hb dX3_readBrought_22 rfl (lv_at hl 3 rfl) ?_
      obtain ⟨q45, s46, hq, h⟩ := nd_b2_e h
      have hPc := hP
      have hDc := hD
      have hKc := hK
      have hFc := nd_rs hD hS hA
      refine nd_cVl (As := []) (rest := []) (q := q45) (w' := dw_X3s a ac s46) ⟨hx, hb, hml, hown, hts⟩ (fun sz => dm_X3_readVarint l hlt dC dI a ac n  s0 hq sz) (cwV 0 hts gi_dm_X3_readBrought_2 rfl rfl rfl (by decide +kernel) ⟨Nat.le_of_ble_eq_true rfl, Nat.le_of_ble_eq_true rfl⟩) hPc hDc hKc hS hA hN (va_recv hKc hPc (ci := 4) (q0 := 1) rfl rfl) rfl hl.1 rfl (Nat.le_of_ble_eq_true rfl) dX3_readBrought_23 (fun H locs hP1 hD1 hk1 hS => ?_)
      have hP := hP1
      have hD := hD1.weaken (fun k q _ h => hFc q.1 h)
      refine lv_lstore (lv' := [(10, .long q45), (9, .int z2), (8, .int 0), (6, .long z1), (0, .ref (a 1)), (1, .int v0), (2, .int v1), (3, .int v2), (4, .long v3)]) hx hb dX3_readBrought_26 hl (by decide) rfl (fun ls hl => ?_)
      refine lv_lload hx hb dX3_readBrought_28 (lv_at hl 0 rfl) ?_
      refine lv_lconst (v := 0) hx hb dX3_readBrought_30 (by decide) ?_
      refine W.lcmp hx hb dX3_readBrought_31 ?_
      refine lv_if_ne (tgt := 42) hx hb dX3_readBrought_32 (by decide) (fun c48 => ?_) (fun c48 => ?_)
      · have h := nd_neg h c48
        exact (db_X3_readBrought_42 C K) (v0) (v1) (v3) (z1) (0) (q45) s46 _ _ _ h hP hD hS (lv_sub hl [4, 5, 6, 8, 3, 2, 0] rfl)
      · have h := nd_pos h c48
        refine lv_aload_n hx hb dX3_readBrought_35 rfl (lv_at hl 4 rfl) ?_
        refine lv_iconst (v := 5) hx hb dX3_readBrought_36 (by decide) ?_
        refine lv_iload hx hb dX3_readBrought_37 (lv_at hl 1 rfl) ?_
        obtain ⟨s63, hq, h⟩ := nd_b1_e h
        have hPc := dp_X3s_1 hP
        have hDc := dd_X3s_1 hD
        have hKc := dy_X3s_1 hK
        have hFc := nd_rs hDc hS hA
        have hzA : ∀ q : Nat, H.size ≤ q → A q := fun q h => hA q (Nat.le_trans hS.1 h)
        refine nd_cVv (As := [.int 5, .int z2]) (rest := []) (w' := dw_X3c (fun k => a (k + 1)) (fun k => ac (k + 1)) s63) ⟨hx, hb, hml, hown, hts⟩ (fun sz => dm_X3_blame l hlt dC dI (fun k => a (k + 1)) (fun k => ac (k + 1)) n (5) (z2) s46.2 hq sz) (cwV 2 hts gi_dm_X3_readBrought_4 rfl rfl rfl (by decide +kernel) ⟨Nat.le_of_ble_eq_true rfl, Nat.le_of_ble_eq_true rfl⟩) hPc hDc hKc hS hA hN (va_recv hKc hPc (ci := 4) (q0 := 0) rfl rfl) rfl hl.1 rfl (Nat.le_of_ble_eq_true rfl) dX3_readBrought_39 (fun H locs hP1 hD1 hk1 hS => ?_)
        obtain ⟨hP, hD⟩ := dn_X3s_1 hP hD hzA hk1 hP1 hD1
        obtain ⟨s65, es65, h⟩ := nd_let_e h
        have hP : va_P (dC, dI) vwCl (dw_X3s a ac s65) H := by rw [es65]; exact hP
        have hD : va_D A (dw_X3s a ac s65) := by rw [es65]; exact hD
        exact (db_X3_readBrought_42 C K) (v0) (v1) (v3) (z1) (0) (q45) s65 _ _ _ h hP hD hS (lv_sub hl [4, 5, 6, 8, 3, 2, 0] rfl)
set_option maxHeartbeats 40000000 in
set_option maxRecDepth 100000 in
theorem dm_X3_readBrought (l : Launch) (hlt : l.stackTraces = false) (dC : Nat → ClassId) (dI : Nat → Nat → Nat) (a : Nat → Nat) (ac : Nat → ClassId) (n : Nat) (v0 : Int32) (v1 : Int32) (v2 : Int32) (v3 : Int64) (s0 : St × (St)) {r : St × (St)} (h : df_X3_readBrought n (a 0) v0 v1 v2 v3 s0 = some r) (sz : Nat) : Met l yX3_readBrought ow_dm_X3_readBrought ({ frames := 3, cells := 0, slots := 0, locals := 66 }) (va_Pc [.ref (a 1), .int v0, .int v1, .int v2, .long v3] (fun U => U.heap.size = sz ∧ va_P (dC, dI) vwCl (dw_X3s a ac s0) U.heap ∧ va_K (dC, dI) vwCl (dk_X3s ac) U ∧ va_D (fun _ => True) (dw_X3s a ac s0) ∧ nv_E (va_A (dw_X3s a ac s0) sz) U)) (va_Qv (fun _ => True) (fun (_ : Unit) t => va_P (dC, dI) vwCl (dw_X3s a ac r) t.heap ∧ va_K (dC, dI) vwCl (dk_X3s ac) t ∧ va_D (va_A (dw_X3s a ac s0) sz) (dw_X3s a ac r)) (va_A (dw_X3s a ac s0) sz)) 0 0 (va_A (dw_X3s a ac s0) sz) := by
  refine Met.ofW (cc := cX3_readBrought) (maxL := 13) (ret := none) (by decide) rfl ?_
  intro p e s m args below meth c s₁ B hml hv
  obtain ⟨rfl, hsz, hP, hK, hD0, hN⟩ := hv
  have hx := B.exec
  have hb := B.bytes
  have hr := B.returns
  have hts := atoms_spec (ws := ow_dm_X3_readBrought) B.pre
  have hown : s.vm.findClass RX3 = some m.cls := findClass_of_methodNamed B.named
  have hlocks := B.notSynchronized
  subst hsz
  have hD := hD0.self (sz := s.heap.size)
  generalize hAe : va_A (dw_X3s a ac s0) s.heap.size = A at hD hN ⊢
  have hA : ∀ q : Nat, s.heap.size ≤ q → A q := fun q h => by rw [← hAe]; exact Or.inr h
  have hl := lv_entry ([.ref (a 1), .int v0, .int v1, .int v2, .long v3]) (n := 13) (Nat.le_of_ble_eq_true rfl)
  rw [lg_entry_eq]
  generalize (lg_sl ([.ref (a 1), .int v0, .int v1, .int v2, .long v3]) ++ List.replicate (13 - (lg_sl ([.ref (a 1), .int v0, .int v1, .int v2, .long v3])).length) Slot.unset).toArray = ls at hl ⊢
  have hl : lv_has ls 13 [(0, .ref (a 1)), (1, .int v0), (2, .int v1), (3, .int v2), (4, .long v3)] := hl
  exact db_X3_readBrought_0 (dC := dC) (dI := dI) (a := a) (ac := ac) (n := n) (r := r) ⟨hlt, hx, hb, hml, hown, hts, hN, hA, hK⟩ (fun pc τ H locs ls d er hP hD hS => by subst er; exact W.vret hx hb hr (fun t ht hW => ⟨⟨(), rfl, trivial, by rw [ht]; exact hP, va_K.moved hW.alike hK, hD⟩, hS.F ht⟩) hS.2.2 d) v0 v1 v2 v3 s0 _ _ _ h hP hD va_S.rf (lv_sub hl [0, 1, 2, 3, 4] rfl)
def ow_dm_X3_readRepeat : List Cond := .code yX3_readRepeat cX3_readRepeat 12 none :: ([.fieldLink RX3 39 "TimeMachine$Events" "total" "I", .fieldLink RX3 44 "TimeMachine$Events" "place" "I", .methodLink RX3 66 yX3_difference, .instanceMethod yX3_difference, .selects RX3 yX3_difference yX3_difference, .initialized RX3, .fieldLink RX3 95 "TimeMachine$Events" "fault" "I", .fieldLink RX3 9 "TimeMachine$Events" "kind" "[I", .fieldLink RX3 13 "TimeMachine$Events" "at" "[J", .fieldLink RX3 17 "TimeMachine$Events" "a" "[J", .fieldLink RX3 20 "TimeMachine$Events" "b" "[I", .methodLink RX3 133 yX3_add, .instanceMethod yX3_add, .selects RX3 yX3_add yX3_add, .methodLink RX3 107 yX3_blame, .instanceMethod yX3_blame, .selects RX3 yX3_blame yX3_blame, .methodLink RX3 101 yX3_readVarint, .instanceMethod yX3_readVarint, .selects RX3 yX3_readVarint yX3_readVarint] ++ (u_ws RX3 TX3 11 ++ (ow_dm_X3_difference ++ (ow_dm_X3_add ++ (ow_dm_X3_blame ++ (ow_dm_X3_readVarint ++ []))))))
theorem gd_dm_X3_readRepeat : ∀ w ∈ ow_dm_X3_readRepeat, (w.onTables && w.keeps) = true ∨ ∃ ty, w = Cond.arrayClass ty := List.forall_mem_cons.mpr ⟨good_of_word rfl, List.forall_mem_append.mpr ⟨fun w h => good_of_word (List.all_eq_true.mp (by decide +kernel) w h), List.forall_mem_append.mpr ⟨gu_X3, List.forall_mem_append.mpr ⟨gd_dm_X3_difference, List.forall_mem_append.mpr ⟨gd_dm_X3_add, List.forall_mem_append.mpr ⟨gd_dm_X3_blame, List.forall_mem_append.mpr ⟨gd_dm_X3_readVarint, fun _ h => nomatch h⟩⟩⟩⟩⟩⟩⟩
theorem hi_dm_X3_readRepeat_X3 : ∀ w ∈ u_ws RX3 TX3 11, w ∈ ow_dm_X3_readRepeat := fun w h => List.mem_cons_of_mem _ (List.mem_append_right _ (List.mem_append_left _ h))
theorem gi_dm_X3_readRepeat_0 : GoodIn ow_dm_X3_readRepeat (wsV RX3 66 RX3 yX3_difference ow_dm_X3_difference) := goodIn_app (goodIn_of _ (by decide +kernel)) (fun w h => ⟨List.mem_cons_of_mem _ (List.mem_append_right _ (List.mem_append_right _ (List.mem_append_left _ h))), gd_dm_X3_difference w h⟩)
theorem gi_dm_X3_readRepeat_1 : GoodIn ow_dm_X3_readRepeat (wsV RX3 133 RX3 yX3_add ow_dm_X3_add) := goodIn_app (goodIn_of _ (by decide +kernel)) (fun w h => ⟨List.mem_cons_of_mem _ (List.mem_append_right _ (List.mem_append_right _ (List.mem_append_right _ (List.mem_append_left _ h)))), gd_dm_X3_add w h⟩)
theorem gi_dm_X3_readRepeat_2 : GoodIn ow_dm_X3_readRepeat (wsV RX3 107 RX3 yX3_blame ow_dm_X3_blame) := goodIn_app (goodIn_of _ (by decide +kernel)) (fun w h => ⟨List.mem_cons_of_mem _ (List.mem_append_right _ (List.mem_append_right _ (List.mem_append_right _ (List.mem_append_right _ (List.mem_append_left _ h))))), gd_dm_X3_blame w h⟩)
theorem gi_dm_X3_readRepeat_3 : GoodIn ow_dm_X3_readRepeat (wsV RX3 101 RX3 yX3_readVarint ow_dm_X3_readVarint) := goodIn_app (goodIn_of _ (by decide +kernel)) (fun w h => ⟨List.mem_cons_of_mem _ (List.mem_append_right _ (List.mem_append_right _ (List.mem_append_right _ (List.mem_append_right _ (List.mem_append_right _ (List.mem_append_left _ h)))))), gd_dm_X3_readVarint w h⟩)
def dj_X3_readRepeat_160 (p : Program) (l : Launch) (e : Env) (s : State) (m : MethodId) (args : Array Value) (below : List Frame) (meth : Method) (c : Code) (Q : State → Prop) (A : Nat → Prop) (dC : Nat → ClassId) (dI : Nat → Nat → Nat) (a : Nat → Nat) (ac : Nat → ClassId) (g : (St × (St)) → Option (St × (St))) (r : St × (St)) : Prop := ∀ (s0 : St × (St)) (H : Heap) (locs : List Loc) (ls : Array Slot), g s0 = some r → va_P (dC, dI) vwCl (dw_X3s a ac s0) H → va_D A (dw_X3s a ac s0) → va_S A s.heap H locs → lv_has ls 12 [] → W p l e (headSpec ow_dm_X3_readRepeat ({ frames := 3, cells := 0, slots := 0, locals := 66 })).room s m args below meth c H locs 0 0 Q (F0 m 160 ls [])
def dj_X3_readRepeat_85 (p : Program) (l : Launch) (e : Env) (s : State) (m : MethodId) (args : Array Value) (below : List Frame) (meth : Method) (c : Code) (Q : State → Prop) (A : Nat → Prop) (dC : Nat → ClassId) (dI : Nat → Nat → Nat) (a : Nat → Nat) (ac : Nat → ClassId) (g : Int64 → Int64 → (St × (St)) → Option (St × (St))) (r : St × (St)) : Prop := ∀ (x8 : Int64) (x10 : Int64) (s0 : St × (St)) (H : Heap) (locs : List Loc) (ls : Array Slot), g x8 x10 s0 = some r → va_P (dC, dI) vwCl (dw_X3s a ac s0) H → va_D A (dw_X3s a ac s0) → va_S A s.heap H locs → lv_has ls 12 [(0, .ref (a 1)), (8, .long x8), (10, .long x10)] → W p l e (headSpec ow_dm_X3_readRepeat ({ frames := 3, cells := 0, slots := 0, locals := 66 })).room s m args below meth c H locs 0 0 Q (F0 m 85 ls [])
def dj_X3_readRepeat_69 (p : Program) (l : Launch) (e : Env) (s : State) (m : MethodId) (args : Array Value) (below : List Frame) (meth : Method) (c : Code) (Q : State → Prop) (A : Nat → Prop) (dC : Nat → ClassId) (dI : Nat → Nat → Nat) (a : Nat → Nat) (ac : Nat → ClassId) (g : Int64 → (St × (St)) → Option (St × (St))) (r : St × (St)) : Prop := ∀ (x6 : Int64) (s0 : St × (St)) (H : Heap) (locs : List Loc) (ls : Array Slot), g x6 s0 = some r → va_P (dC, dI) vwCl (dw_X3s a ac s0) H → va_D A (dw_X3s a ac s0) → va_S A s.heap H locs → lv_has ls 12 [(0, .ref (a 1)), (6, .long x6)] → W p l e (headSpec ow_dm_X3_readRepeat ({ frames := 3, cells := 0, slots := 0, locals := 66 })).room s m args below meth c H locs 0 0 Q (F0 m 69 ls [])
def dj_X3_readRepeat_49 (p : Program) (l : Launch) (e : Env) (s : State) (m : MethodId) (args : Array Value) (below : List Frame) (meth : Method) (c : Code) (Q : State → Prop) (A : Nat → Prop) (dC : Nat → ClassId) (dI : Nat → Nat → Nat) (a : Nat → Nat) (ac : Nat → ClassId) (g : Int32 → Int64 → Int64 → (St × (St)) → Option (St × (St))) (r : St × (St)) : Prop := ∀ (x1 : Int32) (x3 : Int64) (x6 : Int64) (s0 : St × (St)) (H : Heap) (locs : List Loc) (ls : Array Slot), g x1 x3 x6 s0 = some r → va_P (dC, dI) vwCl (dw_X3s a ac s0) H → va_D A (dw_X3s a ac s0) → va_S A s.heap H locs → lv_has ls 12 [(0, .ref (a 1)), (1, .int x1), (3, .long x3), (6, .long x6)] → W p l e (headSpec ow_dm_X3_readRepeat ({ frames := 3, cells := 0, slots := 0, locals := 66 })).room s m args below meth c H locs 0 0 Q (F0 m 49 ls [])
def dj_X3_readRepeat_33 (p : Program) (l : Launch) (e : Env) (s : State) (m : MethodId) (args : Array Value) (below : List Frame) (meth : Method) (c : Code) (Q : State → Prop) (A : Nat → Prop) (dC : Nat → ClassId) (dI : Nat → Nat → Nat) (a : Nat → Nat) (ac : Nat → ClassId) (g : Int32 → Int64 → Int32 → Int64 → (St × (St)) → Option (St × (St))) (r : St × (St)) : Prop := ∀ (x1 : Int32) (x3 : Int64) (x5 : Int32) (y0 : Int64) (s0 : St × (St)) (H : Heap) (locs : List Loc) (ls : Array Slot), g x1 x3 x5 y0 s0 = some r → va_P (dC, dI) vwCl (dw_X3s a ac s0) H → va_D A (dw_X3s a ac s0) → va_S A s.heap H locs → lv_has ls 12 [(0, .ref (a 1)), (1, .int x1), (3, .long x3), (5, .int x5)] → W p l e (headSpec ow_dm_X3_readRepeat ({ frames := 3, cells := 0, slots := 0, locals := 66 })).room s m args below meth c H locs 0 0 Q (F0 m 33 ls [.long y0])
def dj_X3_readRepeat_0 (p : Program) (l : Launch) (e : Env) (s : State) (m : MethodId) (args : Array Value) (below : List Frame) (meth : Method) (c : Code) (Q : State → Prop) (A : Nat → Prop) (dC : Nat → ClassId) (dI : Nat → Nat → Nat) (a : Nat → Nat) (ac : Nat → ClassId) (g : Int32 → Int32 → Int64 → (St × (St)) → Option (St × (St))) (r : St × (St)) : Prop := ∀ (v0 : Int32) (v1 : Int32) (v2 : Int64) (s0 : St × (St)) (H : Heap) (locs : List Loc) (ls : Array Slot), g v0 v1 v2 s0 = some r → va_P (dC, dI) vwCl (dw_X3s a ac s0) H → va_D A (dw_X3s a ac s0) → va_S A s.heap H locs → lv_has ls 12 [(0, .ref (a 1)), (1, .int v0), (2, .int v1), (3, .long v2)] → W p l e (headSpec ow_dm_X3_readRepeat ({ frames := 3, cells := 0, slots := 0, locals := 66 })).room s m args below meth c H locs 0 0 Q (F0 m 0 ls [])
set_option maxHeartbeats 40000000 in
set_option maxRecDepth 100000 in
theorem db_X3_readRepeat_160 {p : Program} {l : Launch} {e : Env} {s : State} {m : MethodId} {args : Array Value} {below : List Frame} {meth : Method} {c : Code} {Q : State → Prop} {A : Nat → Prop} {dC : Nat → ClassId} {dI : Nat → Nat → Nat} {a : Nat → Nat} {ac : Nat → ClassId} {n : Nat} {r : St × (St)} (C : nd_C p l s m args c A (dC, dI) cX3_readRepeat 12 RX3 ow_dm_X3_readRepeat (dk_X3s ac)) (K : nd_Kv p l e (headSpec ow_dm_X3_readRepeat ({ frames := 3, cells := 0, slots := 0, locals := 66 })).room s m args below meth c Q A (dC, dI) cX3_readRepeat (St × (St)) (dw_X3s a ac) r) : dj_X3_readRepeat_160 p l e s m args below meth c Q A dC dI a ac (df_X3_readRepeat_160 n (a 0)) r := by
  obtain ⟨hlt, hx, hb, hml, hown, hts, hN, hA, hK⟩ := id C
  intro s0 H locs ls h hP hD hS hl
  unfold df_X3_readRepeat_160 at h
  exact K _ _ _ _ _ dX3_readRepeat_160 (Option.some.inj h).symm hP hD hS
set_option maxHeartbeats 40000000 in
set_option maxRecDepth 100000 in
theorem dB_X3_readRepeat_85 {p : Program} {l : Launch} {e : Env} {s : State} {m : MethodId} {args : Array Value} {below : List Frame} {meth : Method} {c : Code} {Q : State → Prop} {A : Nat → Prop} {dC : Nat → ClassId} {dI : Nat → Nat → Nat} {a : Nat → Nat} {ac : Nat → ClassId} {n : Nat} {r : St × (St)} (C : nd_C p l s m args c A (dC, dI) cX3_readRepeat 12 RX3 ow_dm_X3_readRepeat (dk_X3s ac)) (K : nd_Kv p l e (headSpec ow_dm_X3_readRepeat ({ frames := 3, cells := 0, slots := 0, locals := 66 })).room s m args below meth c Q A (dC, dI) cX3_readRepeat (St × (St)) (dw_X3s a ac) r) {g85 : Int64 → Int64 → (St × (St)) → Option (St × (St))} (J85 : dj_X3_readRepeat_85 p l e s m args below meth c Q A dC dI a ac g85 r) : dj_X3_readRepeat_85 p l e s m args below meth c Q A dC dI a ac (dF_X3_readRepeat_85 n (a 0) g85) r := by
  obtain ⟨hlt, hx, hb, hml, hown, hts, hN, hA, hK⟩ := id C
  intro x8 x10 s0 H locs ls h hP hD hS hl
  unfold dF_X3_readRepeat_85 at h
  refine lv_lload hx hb dX3_readRepeat_85 (lv_at hl 2 rfl) ?_
  refine lv_lconst (v := 0) hx hb dX3_readRepeat_87 (by decide) ?_
  refine W.lcmp hx hb dX3_readRepeat_88 ?_
  refine lv_if_le (tgt := 160) hx hb dX3_readRepeat_89 (by decide) (fun c10 => ?_) (fun c10 => ?_)
  · have h := nd_pos h c10
    exact (db_X3_readRepeat_160 C K)  s0 _ _ _ h hP hD hS (lv_sub hl [] rfl)
  · have h := nd_neg h c10
    refine lv_aload_n hx hb dX3_readRepeat_92 rfl (lv_at hl 0 rfl) ?_
    refine va_get (D := (dC, dI)) (ci := 4) (v := .int (sI s0.2 4)) (C := RX3) (T := TX3) (N := 11) hx hb hts hi_dm_X3_readRepeat_X3 hown hK hP 1 rfl rfl 9 (by decide) (hts (.fieldLink RX3 95 "TimeMachine$Events" "fault" "I") (List.mem_of_getElem? (i := 7) rfl)) (fun _ h9 => h9) rfl dX3_readRepeat_93 ?_
    refine lv_if_ne (tgt := 160) hx hb dX3_readRepeat_96 (by decide) (fun c11 => ?_) (fun c11 => ?_)
    · have h := nd_neg h c11
      exact (db_X3_readRepeat_160 C K)  s0 _ _ _ h hP hD hS (lv_sub hl [] rfl)
    · have h := nd_pos h c11
      refine lv_aload_n hx hb dX3_readRepeat_99 rfl (lv_at hl 0 rfl) ?_
      refine lv_aload_n hx hb dX3_readRepeat_100 rfl (lv_at hl 0 rfl) ?_
      refine va_get (D := (dC, dI)) (ci := 4) (v := .ref (a 2)) (C := RX3) (T := TX3) (N := 11) hx hb hts hi_dm_X3_readRepeat_X3 hown hK hP 1 rfl rfl 0 (by decide) (hts (.fieldLink RX3 9 "TimeMachine$Events" "kind" "[I") (List.mem_of_getElem? (i := 8) rfl)) (fun _ h9 => h9) rfl dX3_readRepeat_101 ?_
      refine lv_aload_n hx hb dX3_readRepeat_104 rfl (lv_at hl 0 rfl) ?_
      refine va_get (D := (dC, dI)) (ci := 4) (v := .int (sI s0.2 1)) (C := RX3) (T := TX3) (N := 11) hx hb hts hi_dm_X3_readRepeat_X3 hown hK hP 1 rfl rfl 5 (by decide) (hts (.fieldLink RX3 39 "TimeMachine$Events" "total" "I") (List.mem_of_getElem? (i := 1) rfl)) (fun _ h9 => h9) rfl dX3_readRepeat_105 ?_
      refine lv_iconst (v := 1) hx hb dX3_readRepeat_108 (by decide) ?_
      refine lv_isub hx hb dX3_readRepeat_109 ?_
      obtain ⟨i12, h⟩ := nd_ck_e h
      refine va_iald (i := ((sI s0.2 1) - 1)) hx hb hK hP 2 1 rfl rfl i12 dX3_readRepeat_110 ?_
      refine lv_aload_n hx hb dX3_readRepeat_111 rfl (lv_at hl 0 rfl) ?_
      refine va_get (D := (dC, dI)) (ci := 4) (v := .ref (a 3)) (C := RX3) (T := TX3) (N := 11) hx hb hts hi_dm_X3_readRepeat_X3 hown hK hP 1 rfl rfl 1 (by decide) (hts (.fieldLink RX3 13 "TimeMachine$Events" "at" "[J") (List.mem_of_getElem? (i := 9) rfl)) (fun _ h9 => h9) rfl dX3_readRepeat_112 ?_
      refine lv_aload_n hx hb dX3_readRepeat_115 rfl (lv_at hl 0 rfl) ?_
      refine va_get (D := (dC, dI)) (ci := 4) (v := .int (sI s0.2 1)) (C := RX3) (T := TX3) (N := 11) hx hb hts hi_dm_X3_readRepeat_X3 hown hK hP 1 rfl rfl 5 (by decide) (hts (.fieldLink RX3 39 "TimeMachine$Events" "total" "I") (List.mem_of_getElem? (i := 1) rfl)) (fun _ h9 => h9) rfl dX3_readRepeat_116 ?_
      refine lv_iconst (v := 1) hx hb dX3_readRepeat_119 (by decide) ?_
      refine lv_isub hx hb dX3_readRepeat_120 ?_
      obtain ⟨i13, h⟩ := nd_ck_e h
      refine va_lald (i := ((sI s0.2 1) - 1)) hx hb hK hP 3 2 rfl rfl i13 dX3_readRepeat_121 ?_
      refine lv_lload hx hb dX3_readRepeat_122 (lv_at hl 1 rfl) ?_
      refine lv_ladd hx hb dX3_readRepeat_124 ?_
      refine lv_aload_n hx hb dX3_readRepeat_125 rfl (lv_at hl 0 rfl) ?_
      refine va_get (D := (dC, dI)) (ci := 4) (v := .ref (a 4)) (C := RX3) (T := TX3) (N := 11) hx hb hts hi_dm_X3_readRepeat_X3 hown hK hP 1 rfl rfl 2 (by decide) (hts (.fieldLink RX3 17 "TimeMachine$Events" "a" "[J") (List.mem_of_getElem? (i := 10) rfl)) (fun _ h9 => h9) rfl dX3_readRepeat_126 ?_
      refine lv_aload_n hx hb dX3_readRepeat_129 rfl (lv_at hl 0 rfl) ?_
      refine va_get (D := (dC, dI)) (ci := 4) (v := .int (sI s0.2 1)) (C := RX3) (T := TX3) (N := 11) hx hb hts hi_dm_X3_readRepeat_X3 hown hK hP 1 rfl rfl 5 (by decide) (hts (.fieldLink RX3 39 "TimeMachine$Events" "total" "I") (List.mem_of_getElem? (i := 1) rfl)) (fun _ h9 => h9) rfl dX3_readRepeat_130 ?_
      refine lv_iconst (v := 1) hx hb dX3_readRepeat_133 (by decide) ?_
      refine lv_isub hx hb dX3_readRepeat_134 ?_
      obtain ⟨i14, h⟩ := nd_ck_e h
      refine va_lald (i := ((sI s0.2 1) - 1)) hx hb hK hP 4 3 rfl rfl i14 dX3_readRepeat_135 ?_
      refine lv_aload_n hx hb dX3_readRepeat_136 rfl (lv_at hl 0 rfl) ?_
      refine va_get (D := (dC, dI)) (ci := 4) (v := .ref (a 5)) (C := RX3) (T := TX3) (N := 11) hx hb hts hi_dm_X3_readRepeat_X3 hown hK hP 1 rfl rfl 3 (by decide) (hts (.fieldLink RX3 20 "TimeMachine$Events" "b" "[I") (List.mem_of_getElem? (i := 11) rfl)) (fun _ h9 => h9) rfl dX3_readRepeat_137 ?_
      refine lv_aload_n hx hb dX3_readRepeat_140 rfl (lv_at hl 0 rfl) ?_
      refine va_get (D := (dC, dI)) (ci := 4) (v := .int (sI s0.2 1)) (C := RX3) (T := TX3) (N := 11) hx hb hts hi_dm_X3_readRepeat_X3 hown hK hP 1 rfl rfl 5 (by decide) (hts (.fieldLink RX3 39 "TimeMachine$Events" "total" "I") (List.mem_of_getElem? (i := 1) rfl)) (fun _ h9 => h9) rfl dX3_readRepeat_141 ?_
      refine lv_iconst (v := 1) hx hb dX3_readRepeat_144 (by decide) ?_
      refine lv_isub hx hb dX3_readRepeat_145 ?_
      obtain ⟨i15, h⟩ := nd_ck_e h
      refine va_iald (i := ((sI s0.2 1) - 1)) hx hb hK hP 5 4 rfl rfl i15 dX3_readRepeat_146 ?_
      obtain ⟨q16, s17, hq, h⟩ := nd_b2_e h
      have hPc := dp_X3s_1 hP
      have hDc := dd_X3s_1 hD
      have hKc := dy_X3s_1 hK
      have hFc := nd_rs hDc hS hA
      have hzA : ∀ q : Nat, H.size ≤ q → A q := fun q h => hA q (Nat.le_trans hS.1 h)
      refine nd_cVi (As := [.int (sR s0.2 0 (Int32.toNatClampNeg ((sI s0.2 1) - 1))), .long (((sQ s0.2 0 (Int32.toNatClampNeg ((sI s0.2 1) - 1))) : Int64) + x8), .long (sQ s0.2 1 (Int32.toNatClampNeg ((sI s0.2 1) - 1))), .int (sR s0.2 1 (Int32.toNatClampNeg ((sI s0.2 1) - 1)))]) (rest := []) (q := q16) (w' := dw_X3c (fun k => a (k + 1)) (fun k => ac (k + 1)) s17) ⟨hx, hb, hml, hown, hts⟩ (fun sz => dm_X3_add l hlt dC dI (fun k => a (k + 1)) (fun k => ac (k + 1)) n ((sR s0.2 0 (Int32.toNatClampNeg ((sI s0.2 1) - 1)))) ((((sQ s0.2 0 (Int32.toNatClampNeg ((sI s0.2 1) - 1))) : Int64) + x8)) ((sQ s0.2 1 (Int32.toNatClampNeg ((sI s0.2 1) - 1)))) ((sR s0.2 1 (Int32.toNatClampNeg ((sI s0.2 1) - 1)))) s0.2 hq sz) (cwV 4 hts gi_dm_X3_readRepeat_1 rfl rfl rfl (by decide +kernel) ⟨Nat.le_of_ble_eq_true rfl, Nat.le_of_ble_eq_true rfl⟩) hPc hDc hKc hS hA hN (va_recv hKc hPc (ci := 4) (q0 := 0) rfl rfl) rfl hl.1 rfl (Nat.le_of_ble_eq_true rfl) dX3_readRepeat_147 (fun H locs hP1 hD1 hk1 hS => ?_)
      obtain ⟨hP, hD⟩ := dn_X3s_1 hP hD hzA hk1 hP1 hD1
      obtain ⟨s19, es19, h⟩ := nd_let_e h
      have hP : va_P (dC, dI) vwCl (dw_X3s a ac s19) H := by rw [es19]; exact hP
      have hD : va_D A (dw_X3s a ac s19) := by rw [es19]; exact hD
      refine lv_pop hx hb dX3_readRepeat_150 rfl ?_
      refine lv_lload hx hb dX3_readRepeat_151 (lv_at hl 2 rfl) ?_
      refine lv_lconst (v := 1) hx hb dX3_readRepeat_153 (by decide) ?_
      refine lv_lsub hx hb dX3_readRepeat_154 ?_
      refine lv_topl (fun z20 ez20 => ?_)
      have h := nd_at h ez20
      refine lv_lstore (lv' := [(10, .long z20), (0, .ref (a 1)), (8, .long x8)]) hx hb dX3_readRepeat_155 hl (by decide) rfl (fun ls hl => ?_)
      refine lv_goto (tgt := 85) hx hb dX3_readRepeat_157 (by decide) ?_
      exact (J85) (x8) (z20) s19 _ _ _ h hP hD hS (lv_sub hl [1, 2, 0] rfl)
set_option maxHeartbeats 40000000 in
set_option maxRecDepth 100000 in
theorem db_X3_readRepeat_85 {p : Program} {l : Launch} {e : Env} {s : State} {m : MethodId} {args : Array Value} {below : List Frame} {meth : Method} {c : Code} {Q : State → Prop} {A : Nat → Prop} {dC : Nat → ClassId} {dI : Nat → Nat → Nat} {a : Nat → Nat} {ac : Nat → ClassId} {n : Nat} {r : St × (St)} (C : nd_C p l s m args c A (dC, dI) cX3_readRepeat 12 RX3 ow_dm_X3_readRepeat (dk_X3s ac)) (K : nd_Kv p l e (headSpec ow_dm_X3_readRepeat ({ frames := 3, cells := 0, slots := 0, locals := 66 })).room s m args below meth c Q A (dC, dI) cX3_readRepeat (St × (St)) (dw_X3s a ac) r) (k : Nat) : dj_X3_readRepeat_85 p l e s m args below meth c Q A dC dI a ac (df_X3_readRepeat_85 n (a 0) k) r := by
  induction k with
  | zero => intro x8 x10 s0 H locs ls h; exact nomatch (show (none : Option (St × (St))) = some r from h)
  | succ k ih => exact dB_X3_readRepeat_85 C K ih
set_option maxHeartbeats 40000000 in
set_option maxRecDepth 100000 in
theorem db_X3_readRepeat_69 {p : Program} {l : Launch} {e : Env} {s : State} {m : MethodId} {args : Array Value} {below : List Frame} {meth : Method} {c : Code} {Q : State → Prop} {A : Nat → Prop} {dC : Nat → ClassId} {dI : Nat → Nat → Nat} {a : Nat → Nat} {ac : Nat → ClassId} {n : Nat} {r : St × (St)} (C : nd_C p l s m args c A (dC, dI) cX3_readRepeat 12 RX3 ow_dm_X3_readRepeat (dk_X3s ac)) (K : nd_Kv p l e (headSpec ow_dm_X3_readRepeat ({ frames := 3, cells := 0, slots := 0, locals := 66 })).room s m args below meth c Q A (dC, dI) cX3_readRepeat (St × (St)) (dw_X3s a ac) r) : dj_X3_readRepeat_69 p l e s m args below meth c Q A dC dI a ac (df_X3_readRepeat_69 n (a 0)) r := by
  obtain ⟨hlt, hx, hb, hml, hown, hts, hN, hA, hK⟩ := id C
  intro x6 s0 H locs ls h hP hD hS hl
  unfold df_X3_readRepeat_69 at h
  refine lv_aload_n hx hb dX3_readRepeat_69 rfl (lv_at hl 0 rfl) ?_
  refine lv_aload_n hx hb dX3_readRepeat_70 rfl (lv_at hl 0 rfl) ?_
  refine va_get (D := (dC, dI)) (ci := 4) (v := .int (sI s0.2 1)) (C := RX3) (T := TX3) (N := 11) hx hb hts hi_dm_X3_readRepeat_X3 hown hK hP 1 rfl rfl 5 (by decide) (hts (.fieldLink RX3 39 "TimeMachine$Events" "total" "I") (List.mem_of_getElem? (i := 1) rfl)) (fun _ h9 => h9) rfl dX3_readRepeat_71 ?_
  refine lv_iconst (v := 1) hx hb dX3_readRepeat_74 (by decide) ?_
  refine lv_isub hx hb dX3_readRepeat_75 ?_
  obtain ⟨q6, s7, hq, h⟩ := nd_b2_e h
  have hPc := dp_X3s_1 hP
  have hDc := dd_X3s_1 hD
  have hKc := dy_X3s_1 hK
  have hFc := nd_rs hDc hS hA
  have hzA : ∀ q : Nat, H.size ≤ q → A q := fun q h => hA q (Nat.le_trans hS.1 h)
  refine nd_cVl (As := [.int ((sI s0.2 1) - 1)]) (rest := []) (q := q6) (w' := dw_X3c (fun k => a (k + 1)) (fun k => ac (k + 1)) s7) ⟨hx, hb, hml, hown, hts⟩ (fun sz => dm_X3_difference l hlt dC dI (fun k => a (k + 1)) (fun k => ac (k + 1)) n (((sI s0.2 1) - 1)) s0.2 hq sz) (cwV 1 hts gi_dm_X3_readRepeat_0 rfl rfl rfl (by decide +kernel) ⟨Nat.le_of_ble_eq_true rfl, Nat.le_of_ble_eq_true rfl⟩) hPc hDc hKc hS hA hN (va_recv hKc hPc (ci := 4) (q0 := 0) rfl rfl) rfl hl.1 rfl (Nat.le_of_ble_eq_true rfl) dX3_readRepeat_76 (fun H locs hP1 hD1 hk1 hS => ?_)
  obtain ⟨hP, hD⟩ := dn_X3s_1 hP hD hzA hk1 hP1 hD1
  obtain ⟨s9, es9, h⟩ := nd_let_e h
  have hP : va_P (dC, dI) vwCl (dw_X3s a ac s9) H := by rw [es9]; exact hP
  have hD : va_D A (dw_X3s a ac s9) := by rw [es9]; exact hD
  refine lv_lstore (lv' := [(8, .long q6), (0, .ref (a 1)), (6, .long x6)]) hx hb dX3_readRepeat_79 hl (by decide) rfl (fun ls hl => ?_)
  refine lv_lload hx hb dX3_readRepeat_81 (lv_at hl 2 rfl) ?_
  refine lv_lstore (lv' := [(10, .long x6), (8, .long q6), (0, .ref (a 1)), (6, .long x6)]) hx hb dX3_readRepeat_83 hl (by decide) rfl (fun ls hl => ?_)
  exact (db_X3_readRepeat_85 C K n) (q6) (x6) s9 _ _ _ h hP hD hS (lv_sub hl [2, 1, 0] rfl)
set_option maxHeartbeats 40000000 in
set_option maxRecDepth 100000 in
theorem db_X3_readRepeat_49 {p : Program} {l : Launch} {e : Env} {s : State} {m : MethodId} {args : Array Value} {below : List Frame} {meth : Method} {c : Code} {Q : State → Prop} {A : Nat → Prop} {dC : Nat → ClassId} {dI : Nat → Nat → Nat} {a : Nat → Nat} {ac : Nat → ClassId} {n : Nat} {r : St × (St)} (C : nd_C p l s m args c A (dC, dI) cX3_readRepeat 12 RX3 ow_dm_X3_readRepeat (dk_X3s ac)) (K : nd_Kv p l e (headSpec ow_dm_X3_readRepeat ({ frames := 3, cells := 0, slots := 0, locals := 66 })).room s m args below meth c Q A (dC, dI) cX3_readRepeat (St × (St)) (dw_X3s a ac) r) : dj_X3_readRepeat_49 p l e s m args below meth c Q A dC dI a ac (df_X3_readRepeat_49 n (a 0)) r := by
  obtain ⟨hlt, hx, hb, hml, hown, hts, hN, hA, hK⟩ := id C
  intro x1 x3 x6 s0 H locs ls h hP hD hS hl
  unfold df_X3_readRepeat_49 at h
  refine lv_aload_n hx hb dX3_readRepeat_49 rfl (lv_at hl 0 rfl) ?_
  refine va_get (D := (dC, dI)) (ci := 4) (v := .int (sI s0.2 1)) (C := RX3) (T := TX3) (N := 11) hx hb hts hi_dm_X3_readRepeat_X3 hown hK hP 1 rfl rfl 5 (by decide) (hts (.fieldLink RX3 39 "TimeMachine$Events" "total" "I") (List.mem_of_getElem? (i := 1) rfl)) (fun _ h9 => h9) rfl dX3_readRepeat_50 ?_
  refine lv_i2l hx hb dX3_readRepeat_53 rfl ?_
  refine lv_lload hx hb dX3_readRepeat_54 (lv_at hl 3 rfl) ?_
  refine lv_ladd hx hb dX3_readRepeat_56 ?_
  refine lv_lload_n hx hb dX3_readRepeat_57 rfl (lv_at hl 2 rfl) ?_
  refine W.lcmp hx hb dX3_readRepeat_58 ?_
  refine lv_if_le (tgt := 69) hx hb dX3_readRepeat_59 (by decide) (fun c5 => ?_) (fun c5 => ?_)
  · have h := nd_pos h c5
    exact (db_X3_readRepeat_69 C K) (x6) s0 _ _ _ h hP hD hS (lv_sub hl [0, 3] rfl)
  · have h := nd_neg h c5
    refine lv_aload_n hx hb dX3_readRepeat_62 rfl (lv_at hl 0 rfl) ?_
    refine lv_bipush (v := 6) hx hb dX3_readRepeat_63 (by decide) ?_
    refine lv_iload_n hx hb dX3_readRepeat_65 rfl (lv_at hl 1 rfl) ?_
    obtain ⟨s22, hq, h⟩ := nd_b1_e h
    have hPc := dp_X3s_1 hP
    have hDc := dd_X3s_1 hD
    have hKc := dy_X3s_1 hK
    have hFc := nd_rs hDc hS hA
    have hzA : ∀ q : Nat, H.size ≤ q → A q := fun q h => hA q (Nat.le_trans hS.1 h)
    refine nd_cVv (As := [.int 6, .int x1]) (rest := []) (w' := dw_X3c (fun k => a (k + 1)) (fun k => ac (k + 1)) s22) ⟨hx, hb, hml, hown, hts⟩ (fun sz => dm_X3_blame l hlt dC dI (fun k => a (k + 1)) (fun k => ac (k + 1)) n (6) (x1) s0.2 hq sz) (cwV 2 hts gi_dm_X3_readRepeat_2 rfl rfl rfl (by decide +kernel) ⟨Nat.le_of_ble_eq_true rfl, Nat.le_of_ble_eq_true rfl⟩) hPc hDc hKc hS hA hN (va_recv hKc hPc (ci := 4) (q0 := 0) rfl rfl) rfl hl.1 rfl (Nat.le_of_ble_eq_true rfl) dX3_readRepeat_66 (fun H locs hP1 hD1 hk1 hS => ?_)
    obtain ⟨hP, hD⟩ := dn_X3s_1 hP hD hzA hk1 hP1 hD1
    obtain ⟨s24, es24, h⟩ := nd_let_e h
    have hP : va_P (dC, dI) vwCl (dw_X3s a ac s24) H := by rw [es24]; exact hP
    have hD : va_D A (dw_X3s a ac s24) := by rw [es24]; exact hD
    exact (db_X3_readRepeat_69 C K) (x6) s24 _ _ _ h hP hD hS (lv_sub hl [0, 3] rfl)
set_option maxHeartbeats 40000000 in
set_option maxRecDepth 100000 in
theorem db_X3_readRepeat_33 {p : Program} {l : Launch} {e : Env} {s : State} {m : MethodId} {args : Array Value} {below : List Frame} {meth : Method} {c : Code} {Q : State → Prop} {A : Nat → Prop} {dC : Nat → ClassId} {dI : Nat → Nat → Nat} {a : Nat → Nat} {ac : Nat → ClassId} {n : Nat} {r : St × (St)} (C : nd_C p l s m args c A (dC, dI) cX3_readRepeat 12 RX3 ow_dm_X3_readRepeat (dk_X3s ac)) (K : nd_Kv p l e (headSpec ow_dm_X3_readRepeat ({ frames := 3, cells := 0, slots := 0, locals := 66 })).room s m args below meth c Q A (dC, dI) cX3_readRepeat (St × (St)) (dw_X3s a ac) r) : dj_X3_readRepeat_33 p l e s m args below meth c Q A dC dI a ac (df_X3_readRepeat_33 n (a 0)) r := by
  obtain ⟨hlt, hx, hb, hml, hown, hts, hN, hA, hK⟩ := id C
  intro x1 x3 x5 y0 s0 H locs ls h hP hD hS hl
  unfold df_X3_readRepeat_33 at h
  refine lv_lstore (lv' := [(6, .long y0), (0, .ref (a 1)), (1, .int x1), (3, .long x3), (5, .int x5)]) hx hb dX3_readRepeat_33 hl (by decide) rfl (fun ls hl => ?_)
  refine lv_lload hx hb dX3_readRepeat_35 (lv_at hl 0 rfl) ?_
  refine lv_lconst (v := 0) hx hb dX3_readRepeat_37 (by decide) ?_
  refine W.lcmp hx hb dX3_readRepeat_38 ?_
  refine lv_if_ne (tgt := 49) hx hb dX3_readRepeat_39 (by decide) (fun c4 => ?_) (fun c4 => ?_)
  · have h := nd_neg h c4
    exact (db_X3_readRepeat_49 C K) (x1) (x3) (y0) s0 _ _ _ h hP hD hS (lv_sub hl [1, 2, 3, 0] rfl)
  · have h := nd_pos h c4
    refine lv_aload_n hx hb dX3_readRepeat_42 rfl (lv_at hl 1 rfl) ?_
    refine lv_iconst (v := 5) hx hb dX3_readRepeat_43 (by decide) ?_
    refine lv_iload hx hb dX3_readRepeat_44 (lv_at hl 4 rfl) ?_
    obtain ⟨s26, hq, h⟩ := nd_b1_e h
    have hPc := dp_X3s_1 hP
    have hDc := dd_X3s_1 hD
    have hKc := dy_X3s_1 hK
    have hFc := nd_rs hDc hS hA
    have hzA : ∀ q : Nat, H.size ≤ q → A q := fun q h => hA q (Nat.le_trans hS.1 h)
    refine nd_cVv (As := [.int 5, .int x5]) (rest := []) (w' := dw_X3c (fun k => a (k + 1)) (fun k => ac (k + 1)) s26) ⟨hx, hb, hml, hown, hts⟩ (fun sz => dm_X3_blame l hlt dC dI (fun k => a (k + 1)) (fun k => ac (k + 1)) n (5) (x5) s0.2 hq sz) (cwV 2 hts gi_dm_X3_readRepeat_2 rfl rfl rfl (by decide +kernel) ⟨Nat.le_of_ble_eq_true rfl, Nat.le_of_ble_eq_true rfl⟩) hPc hDc hKc hS hA hN (va_recv hKc hPc (ci := 4) (q0 := 0) rfl rfl) rfl hl.1 rfl (Nat.le_of_ble_eq_true rfl) dX3_readRepeat_46 (fun H locs hP1 hD1 hk1 hS => ?_)
    obtain ⟨hP, hD⟩ := dn_X3s_1 hP hD hzA hk1 hP1 hD1
    obtain ⟨s28, es28, h⟩ := nd_let_e h
    have hP : va_P (dC, dI) vwCl (dw_X3s a ac s28) H := by rw [es28]; exact hP
    have hD : va_D A (dw_X3s a ac s28) := by rw [es28]; exact hD
    exact (db_X3_readRepeat_49 C K) (x1) (x3) (y0) s28 _ _ _ h hP hD hS (lv_sub hl [1, 2, 3, 0] rfl)
set_option maxHeartbeats 40000000 in
set_option maxRecDepth 100000 in
theorem db_X3_readRepeat_0 {p : Program} {l : Launch} {e : Env} {s : State} {m : MethodId} {args : Array Value} {below : List Frame} {meth : Method} {c : Code} {Q : State → Prop} {A : Nat → Prop} {dC : Nat → ClassId} {dI : Nat → Nat → Nat} {a : Nat → Nat} {ac : Nat → ClassId} {n : Nat} {r : St × (St)} (C : nd_C p l s m args c A (dC, dI) cX3_readRepeat 12 RX3 ow_dm_X3_readRepeat (dk_X3s ac)) (K : nd_Kv p l e (headSpec ow_dm_X3_readRepeat ({ frames := 3, cells := 0, slots := 0, locals := 66 })).room s m args below meth c Q A (dC, dI) cX3_readRepeat (St × (St)) (dw_X3s a ac) r) : dj_X3_readRepeat_0 p l e s m args below meth c Q A dC dI a ac (df_X3_readRepeat_0 n (a 0)) r := by
  obtain ⟨hlt, hx, hb, hml, hown, hts, hN, hA, hK⟩ := id C
  intro v0 v1 v2 s0 H locs ls h hP hD hS hl
  unfold df_X3_readRepeat_0 at h
  refine lv_aload_n hx hb dX3_readRepeat_0 rfl (lv_at hl 0 rfl) ?_
  refine va_get (D := (dC, dI)) (ci := 4) (v := .int (sI s0.2 1)) (C := RX3) (T := TX3) (N := 11) hx hb hts hi_dm_X3_readRepeat_X3 hown hK hP 1 rfl rfl 5 (by decide) (hts (.fieldLink RX3 39 "TimeMachine$Events" "total" "I") (List.mem_of_getElem? (i := 1) rfl)) (fun _ h9 => h9) rfl dX3_readRepeat_1 ?_
  refine lv_if_ne (tgt := 14) hx hb dX3_readRepeat_4 (by decide) (fun c1 => ?_) (fun c1 => ?_)
  · have h := nd_neg h c1
    refine lv_aload_n hx hb dX3_readRepeat_14 rfl (lv_at hl 0 rfl) ?_
    refine va_get (D := (dC, dI)) (ci := 4) (v := .int (sI s0.2 2)) (C := RX3) (T := TX3) (N := 11) hx hb hts hi_dm_X3_readRepeat_X3 hown hK hP 1 rfl rfl 7 (by decide) (hts (.fieldLink RX3 44 "TimeMachine$Events" "place" "I") (List.mem_of_getElem? (i := 2) rfl)) (fun _ h9 => h9) rfl dX3_readRepeat_15 ?_
    refine lv_topi (fun z2 ez2 => ?_)
    have h := nd_at h ez2
    refine lv_istore (lv' := [(5, .int z2), (0, .ref (a 1)), (1, .int v0), (2, .int v1), (3, .long v2)]) hx hb dX3_readRepeat_18 hl (by decide) rfl (fun ls hl => ?_)
    refine lv_iload_n hx hb dX3_readRepeat_20 rfl (lv_at hl 3 rfl) ?_
    refine lv_if_ne (tgt := 31) hx hb dX3_readRepeat_21 (by decide) (fun c3 => ?_) (fun c3 => ?_)
    · have h := nd_neg h c3
      refine lv_iload_n hx hb dX3_readRepeat_31 rfl (lv_at hl 3 rfl) ?_
      refine lv_i2l hx hb dX3_readRepeat_32 rfl ?_
      exact (db_X3_readRepeat_33 C K) (v0) (v2) (z2) ((v1.toInt64)) s0 _ _ _ h hP hD hS (lv_sub hl [1, 2, 4, 0] rfl)
    · have h := nd_pos h c3
      refine lv_aload_n hx hb dX3_readRepeat_24 rfl (lv_at hl 1 rfl) ?_
      obtain ⟨q29, s30, hq, h⟩ := nd_b2_e h
      have hPc := hP
      have hDc := hD
      have hKc := hK
      have hFc := nd_rs hD hS hA
      refine nd_cVl (As := []) (rest := []) (q := q29) (w' := dw_X3s a ac s30) ⟨hx, hb, hml, hown, hts⟩ (fun sz => dm_X3_readVarint l hlt dC dI a ac n  s0 hq sz) (cwV 0 hts gi_dm_X3_readRepeat_3 rfl rfl rfl (by decide +kernel) ⟨Nat.le_of_ble_eq_true rfl, Nat.le_of_ble_eq_true rfl⟩) hPc hDc hKc hS hA hN (va_recv hKc hPc (ci := 4) (q0 := 1) rfl rfl) rfl hl.1 rfl (Nat.le_of_ble_eq_true rfl) dX3_readRepeat_25 (fun H locs hP1 hD1 hk1 hS => ?_)
      have hP := hP1
      have hD := hD1.weaken (fun k q _ h => hFc q.1 h)
      refine lv_goto (tgt := 33) hx hb dX3_readRepeat_28 (by decide) ?_
      exact (db_X3_readRepeat_33 C K) (v0) (v2) (z2) (q29) s30 _ _ _ h hP hD hS (lv_sub hl [1, 2, 4, 0] rfl)
  · have h := nd_pos h c1
    refine lv_aload_n hx hb dX3_readRepeat_7 rfl (lv_at hl 0 rfl) ?_
    refine lv_iconst (v := 4) hx hb dX3_readRepeat_8 (by decide) ?_
    refine lv_iload_n hx hb dX3_readRepeat_9 rfl (lv_at hl 1 rfl) ?_
    obtain ⟨s33, hq, h⟩ := nd_b1_e h
    have hPc := dp_X3s_1 hP
    have hDc := dd_X3s_1 hD
    have hKc := dy_X3s_1 hK
    have hFc := nd_rs hDc hS hA
    have hzA : ∀ q : Nat, H.size ≤ q → A q := fun q h => hA q (Nat.le_trans hS.1 h)
    refine nd_cVv (As := [.int 4, .int v0]) (rest := []) (w' := dw_X3c (fun k => a (k + 1)) (fun k => ac (k + 1)) s33) ⟨hx, hb, hml, hown, hts⟩ (fun sz => dm_X3_blame l hlt dC dI (fun k => a (k + 1)) (fun k => ac (k + 1)) n (4) (v0) s0.2 hq sz) (cwV 2 hts gi_dm_X3_readRepeat_2 rfl rfl rfl (by decide +kernel) ⟨Nat.le_of_ble_eq_true rfl, Nat.le_of_ble_eq_true rfl⟩) hPc hDc hKc hS hA hN (va_recv hKc hPc (ci := 4) (q0 := 0) rfl rfl) rfl hl.1 rfl (Nat.le_of_ble_eq_true rfl) dX3_readRepeat_10 (fun H locs hP1 hD1 hk1 hS => ?_)
    obtain ⟨hP, hD⟩ := dn_X3s_1 hP hD hzA hk1 hP1 hD1
    obtain ⟨s35, es35, h⟩ := nd_let_e h
    have hP : va_P (dC, dI) vwCl (dw_X3s a ac s35) H := by rw [es35]; exact hP
    have hD : va_D A (dw_X3s a ac s35) := by rw [es35]; exact hD
    exact K _ _ _ _ _ dX3_readRepeat_13 (Option.some.inj h).symm hP hD hS
set_option maxHeartbeats 40000000 in
set_option maxRecDepth 100000 in
theorem dm_X3_readRepeat (l : Launch) (hlt : l.stackTraces = false) (dC : Nat → ClassId) (dI : Nat → Nat → Nat) (a : Nat → Nat) (ac : Nat → ClassId) (n : Nat) (v0 : Int32) (v1 : Int32) (v2 : Int64) (s0 : St × (St)) {r : St × (St)} (h : df_X3_readRepeat n (a 0) v0 v1 v2 s0 = some r) (sz : Nat) : Met l yX3_readRepeat ow_dm_X3_readRepeat ({ frames := 3, cells := 0, slots := 0, locals := 66 }) (va_Pc [.ref (a 1), .int v0, .int v1, .long v2] (fun U => U.heap.size = sz ∧ va_P (dC, dI) vwCl (dw_X3s a ac s0) U.heap ∧ va_K (dC, dI) vwCl (dk_X3s ac) U ∧ va_D (fun _ => True) (dw_X3s a ac s0) ∧ nv_E (va_A (dw_X3s a ac s0) sz) U)) (va_Qv (fun _ => True) (fun (_ : Unit) t => va_P (dC, dI) vwCl (dw_X3s a ac r) t.heap ∧ va_K (dC, dI) vwCl (dk_X3s ac) t ∧ va_D (va_A (dw_X3s a ac s0) sz) (dw_X3s a ac r)) (va_A (dw_X3s a ac s0) sz)) 0 0 (va_A (dw_X3s a ac s0) sz) := by
  refine Met.ofW (cc := cX3_readRepeat) (maxL := 12) (ret := none) (by decide) rfl ?_
  intro p e s m args below meth c s₁ B hml hv
  obtain ⟨rfl, hsz, hP, hK, hD0, hN⟩ := hv
  have hx := B.exec
  have hb := B.bytes
  have hr := B.returns
  have hts := atoms_spec (ws := ow_dm_X3_readRepeat) B.pre
  have hown : s.vm.findClass RX3 = some m.cls := findClass_of_methodNamed B.named
  have hlocks := B.notSynchronized
  subst hsz
  have hD := hD0.self (sz := s.heap.size)
  generalize hAe : va_A (dw_X3s a ac s0) s.heap.size = A at hD hN ⊢
  have hA : ∀ q : Nat, s.heap.size ≤ q → A q := fun q h => by rw [← hAe]; exact Or.inr h
  have hl := lv_entry ([.ref (a 1), .int v0, .int v1, .long v2]) (n := 12) (Nat.le_of_ble_eq_true rfl)
  rw [lg_entry_eq]
  generalize (lg_sl ([.ref (a 1), .int v0, .int v1, .long v2]) ++ List.replicate (12 - (lg_sl ([.ref (a 1), .int v0, .int v1, .long v2])).length) Slot.unset).toArray = ls at hl ⊢
  have hl : lv_has ls 12 [(0, .ref (a 1)), (1, .int v0), (2, .int v1), (3, .long v2)] := hl
  exact db_X3_readRepeat_0 (dC := dC) (dI := dI) (a := a) (ac := ac) (n := n) (r := r) ⟨hlt, hx, hb, hml, hown, hts, hN, hA, hK⟩ (fun pc τ H locs ls d er hP hD hS => by subst er; exact W.vret hx hb hr (fun t ht hW => ⟨⟨(), rfl, trivial, by rw [ht]; exact hP, va_K.moved hW.alike hK, hD⟩, hS.F ht⟩) hS.2.2 d) v0 v1 v2 s0 _ _ _ h hP hD va_S.rf (lv_sub hl [0, 1, 2, 3] rfl)
def ow_dm_X3_readEntry : List Cond := .code yX3_readEntry cX3_readEntry 10 none :: ([.fieldLink RX3 44 "TimeMachine$Events" "place" "I", .methodLink RX3 117 yX3_readByte, .instanceMethod yX3_readByte, .selects RX3 yX3_readByte yX3_readByte, .initialized RX3, .methodLink RX3 121 yX3_isHead, .static yX3_isHead, .fieldLink RX3 95 "TimeMachine$Events" "fault" "I", .methodLink RX3 101 yX3_readVarint, .instanceMethod yX3_readVarint, .selects RX3 yX3_readVarint yX3_readVarint, .fieldLink RX3 39 "TimeMachine$Events" "total" "I", .fieldLink RX3 13 "TimeMachine$Events" "at" "[J", .methodLink RX3 129 yX3_readBrought, .instanceMethod yX3_readBrought, .selects RX3 yX3_readBrought yX3_readBrought, .methodLink RX3 66 yX3_difference, .instanceMethod yX3_difference, .selects RX3 yX3_difference yX3_difference, .methodLink RX3 125 yX3_readRepeat, .instanceMethod yX3_readRepeat, .selects RX3 yX3_readRepeat yX3_readRepeat, .methodLink RX3 107 yX3_blame, .instanceMethod yX3_blame, .selects RX3 yX3_blame yX3_blame] ++ (u_ws RX3 TX3 11 ++ (ow_dm_X3_readByte ++ (ow_dm_X3_isHead ++ (ow_dm_X3_readVarint ++ (ow_dm_X3_readBrought ++ (ow_dm_X3_difference ++ (ow_dm_X3_readRepeat ++ (ow_dm_X3_blame ++ [])))))))))
theorem gd_dm_X3_readEntry : ∀ w ∈ ow_dm_X3_readEntry, (w.onTables && w.keeps) = true ∨ ∃ ty, w = Cond.arrayClass ty := List.forall_mem_cons.mpr ⟨good_of_word rfl, List.forall_mem_append.mpr ⟨fun w h => good_of_word (List.all_eq_true.mp (by decide +kernel) w h), List.forall_mem_append.mpr ⟨gu_X3, List.forall_mem_append.mpr ⟨gd_dm_X3_readByte, List.forall_mem_append.mpr ⟨gd_dm_X3_isHead, List.forall_mem_append.mpr ⟨gd_dm_X3_readVarint, List.forall_mem_append.mpr ⟨gd_dm_X3_readBrought, List.forall_mem_append.mpr ⟨gd_dm_X3_difference, List.forall_mem_append.mpr ⟨gd_dm_X3_readRepeat, List.forall_mem_append.mpr ⟨gd_dm_X3_blame, fun _ h => nomatch h⟩⟩⟩⟩⟩⟩⟩⟩⟩⟩
theorem hi_dm_X3_readEntry_X3 : ∀ w ∈ u_ws RX3 TX3 11, w ∈ ow_dm_X3_readEntry := fun w h => List.mem_cons_of_mem _ (List.mem_append_right _ (List.mem_append_left _ h))
theorem gi_dm_X3_readEntry_0 : GoodIn ow_dm_X3_readEntry (wsV RX3 117 RX3 yX3_readByte ow_dm_X3_readByte) := goodIn_app (goodIn_of _ (by decide +kernel)) (fun w h => ⟨List.mem_cons_of_mem _ (List.mem_append_right _ (List.mem_append_right _ (List.mem_append_left _ h))), gd_dm_X3_readByte w h⟩)
theorem gi_dm_X3_readEntry_1 : GoodIn ow_dm_X3_readEntry (wsS RX3 121 yX3_isHead ow_dm_X3_isHead) := goodIn_app (goodIn_of _ (by decide +kernel)) (fun w h => ⟨List.mem_cons_of_mem _ (List.mem_append_right _ (List.mem_append_right _ (List.mem_append_right _ (List.mem_append_left _ h)))), gd_dm_X3_isHead w h⟩)
theorem gi_dm_X3_readEntry_2 : GoodIn ow_dm_X3_readEntry (wsV RX3 101 RX3 yX3_readVarint ow_dm_X3_readVarint) := goodIn_app (goodIn_of _ (by decide +kernel)) (fun w h => ⟨List.mem_cons_of_mem _ (List.mem_append_right _ (List.mem_append_right _ (List.mem_append_right _ (List.mem_append_right _ (List.mem_append_left _ h))))), gd_dm_X3_readVarint w h⟩)
theorem gi_dm_X3_readEntry_3 : GoodIn ow_dm_X3_readEntry (wsV RX3 129 RX3 yX3_readBrought ow_dm_X3_readBrought) := goodIn_app (goodIn_of _ (by decide +kernel)) (fun w h => ⟨List.mem_cons_of_mem _ (List.mem_append_right _ (List.mem_append_right _ (List.mem_append_right _ (List.mem_append_right _ (List.mem_append_right _ (List.mem_append_left _ h)))))), gd_dm_X3_readBrought w h⟩)
theorem gi_dm_X3_readEntry_4 : GoodIn ow_dm_X3_readEntry (wsV RX3 66 RX3 yX3_difference ow_dm_X3_difference) := goodIn_app (goodIn_of _ (by decide +kernel)) (fun w h => ⟨List.mem_cons_of_mem _ (List.mem_append_right _ (List.mem_append_right _ (List.mem_append_right _ (List.mem_append_right _ (List.mem_append_right _ (List.mem_append_right _ (List.mem_append_left _ h))))))), gd_dm_X3_difference w h⟩)
theorem gi_dm_X3_readEntry_5 : GoodIn ow_dm_X3_readEntry (wsV RX3 125 RX3 yX3_readRepeat ow_dm_X3_readRepeat) := goodIn_app (goodIn_of _ (by decide +kernel)) (fun w h => ⟨List.mem_cons_of_mem _ (List.mem_append_right _ (List.mem_append_right _ (List.mem_append_right _ (List.mem_append_right _ (List.mem_append_right _ (List.mem_append_right _ (List.mem_append_right _ (List.mem_append_left _ h)))))))), gd_dm_X3_readRepeat w h⟩)
theorem gi_dm_X3_readEntry_6 : GoodIn ow_dm_X3_readEntry (wsV RX3 107 RX3 yX3_blame ow_dm_X3_blame) := goodIn_app (goodIn_of _ (by decide +kernel)) (fun w h => ⟨List.mem_cons_of_mem _ (List.mem_append_right _ (List.mem_append_right _ (List.mem_append_right _ (List.mem_append_right _ (List.mem_append_right _ (List.mem_append_right _ (List.mem_append_right _ (List.mem_append_right _ (List.mem_append_left _ h))))))))), gd_dm_X3_blame w h⟩)
def dj_X3_readEntry_156 (p : Program) (l : Launch) (e : Env) (s : State) (m : MethodId) (args : Array Value) (below : List Frame) (meth : Method) (c : Code) (Q : State → Prop) (A : Nat → Prop) (dC : Nat → ClassId) (dI : Nat → Nat → Nat) (a : Nat → Nat) (ac : Nat → ClassId) (g : (St × (St)) → Option (St × (St))) (r : St × (St)) : Prop := ∀ (s0 : St × (St)) (H : Heap) (locs : List Loc) (ls : Array Slot), g s0 = some r → va_P (dC, dI) vwCl (dw_X3s a ac s0) H → va_D A (dw_X3s a ac s0) → va_S A s.heap H locs → lv_has ls 10 [] → W p l e (headSpec ow_dm_X3_readEntry ({ frames := 4, cells := 0, slots := 0, locals := 98 })).room s m args below meth c H locs 0 0 Q (F0 m 156 ls [])
def dj_X3_readEntry_152 (p : Program) (l : Launch) (e : Env) (s : State) (m : MethodId) (args : Array Value) (below : List Frame) (meth : Method) (c : Code) (Q : State → Prop) (A : Nat → Prop) (dC : Nat → ClassId) (dI : Nat → Nat → Nat) (a : Nat → Nat) (ac : Nat → ClassId) (g : Int32 → Int32 → Int32 → Int64 → Int64 → (St × (St)) → Option (St × (St))) (r : St × (St)) : Prop := ∀ (y1 : Int32) (y2 : Int32) (y3 : Int32) (y4 : Int64) (y5 : Int64) (s0 : St × (St)) (H : Heap) (locs : List Loc) (ls : Array Slot), g y1 y2 y3 y4 y5 s0 = some r → va_P (dC, dI) vwCl (dw_X3s a ac s0) H → va_D A (dw_X3s a ac s0) → va_S A s.heap H locs → lv_has ls 10 [] → W p l e (headSpec ow_dm_X3_readEntry ({ frames := 4, cells := 0, slots := 0, locals := 98 })).room s m args below meth c H locs 0 0 Q (F0 m 152 ls [.long y5, .long y4, .int y3, .int y2, .int y1, .ref (a 1)])
def dj_X3_readEntry_113 (p : Program) (l : Launch) (e : Env) (s : State) (m : MethodId) (args : Array Value) (below : List Frame) (meth : Method) (c : Code) (Q : State → Prop) (A : Nat → Prop) (dC : Nat → ClassId) (dI : Nat → Nat → Nat) (a : Nat → Nat) (ac : Nat → ClassId) (g : Int32 → Int32 → Int32 → Int64 → (St × (St)) → Option (St × (St))) (r : St × (St)) : Prop := ∀ (x3 : Int32) (x5 : Int32) (x6 : Int32) (y0 : Int64) (s0 : St × (St)) (H : Heap) (locs : List Loc) (ls : Array Slot), g x3 x5 x6 y0 s0 = some r → va_P (dC, dI) vwCl (dw_X3s a ac s0) H → va_D A (dw_X3s a ac s0) → va_S A s.heap H locs → lv_has ls 10 [(0, .ref (a 1)), (3, .int x3), (5, .int x5), (6, .int x6)] → W p l e (headSpec ow_dm_X3_readEntry ({ frames := 4, cells := 0, slots := 0, locals := 98 })).room s m args below meth c H locs 0 0 Q (F0 m 113 ls [.long y0])
def dj_X3_readEntry_57 (p : Program) (l : Launch) (e : Env) (s : State) (m : MethodId) (args : Array Value) (below : List Frame) (meth : Method) (c : Code) (Q : State → Prop) (A : Nat → Prop) (dC : Nat → ClassId) (dI : Nat → Nat → Nat) (a : Nat → Nat) (ac : Nat → ClassId) (g : Int64 → Int32 → Int32 → Int32 → Int32 → (St × (St)) → Option (St × (St))) (r : St × (St)) : Prop := ∀ (x1 : Int64) (x3 : Int32) (x5 : Int32) (x6 : Int32) (x7 : Int32) (s0 : St × (St)) (H : Heap) (locs : List Loc) (ls : Array Slot), g x1 x3 x5 x6 x7 s0 = some r → va_P (dC, dI) vwCl (dw_X3s a ac s0) H → va_D A (dw_X3s a ac s0) → va_S A s.heap H locs → lv_has ls 10 [(0, .ref (a 1)), (1, .long x1), (3, .int x3), (5, .int x5), (6, .int x6), (7, .int x7)] → W p l e (headSpec ow_dm_X3_readEntry ({ frames := 4, cells := 0, slots := 0, locals := 98 })).room s m args below meth c H locs 0 0 Q (F0 m 57 ls [])
def dj_X3_readEntry_37 (p : Program) (l : Launch) (e : Env) (s : State) (m : MethodId) (args : Array Value) (below : List Frame) (meth : Method) (c : Code) (Q : State → Prop) (A : Nat → Prop) (dC : Nat → ClassId) (dI : Nat → Nat → Nat) (a : Nat → Nat) (ac : Nat → ClassId) (g : Int64 → Int32 → Int32 → Int32 → Int32 → (St × (St)) → Option (St × (St))) (r : St × (St)) : Prop := ∀ (x1 : Int64) (x3 : Int32) (x5 : Int32) (x6 : Int32) (y0 : Int32) (s0 : St × (St)) (H : Heap) (locs : List Loc) (ls : Array Slot), g x1 x3 x5 x6 y0 s0 = some r → va_P (dC, dI) vwCl (dw_X3s a ac s0) H → va_D A (dw_X3s a ac s0) → va_S A s.heap H locs → lv_has ls 10 [(0, .ref (a 1)), (1, .long x1), (3, .int x3), (5, .int x5), (6, .int x6)] → W p l e (headSpec ow_dm_X3_readEntry ({ frames := 4, cells := 0, slots := 0, locals := 98 })).room s m args below meth c H locs 0 0 Q (F0 m 37 ls [.int y0])
def dj_X3_readEntry_0 (p : Program) (l : Launch) (e : Env) (s : State) (m : MethodId) (args : Array Value) (below : List Frame) (meth : Method) (c : Code) (Q : State → Prop) (A : Nat → Prop) (dC : Nat → ClassId) (dI : Nat → Nat → Nat) (a : Nat → Nat) (ac : Nat → ClassId) (g : Int64 → (St × (St)) → Option (St × (St))) (r : St × (St)) : Prop := ∀ (v0 : Int64) (s0 : St × (St)) (H : Heap) (locs : List Loc) (ls : Array Slot), g v0 s0 = some r → va_P (dC, dI) vwCl (dw_X3s a ac s0) H → va_D A (dw_X3s a ac s0) → va_S A s.heap H locs → lv_has ls 10 [(0, .ref (a 1)), (1, .long v0)] → W p l e (headSpec ow_dm_X3_readEntry ({ frames := 4, cells := 0, slots := 0, locals := 98 })).room s m args below meth c H locs 0 0 Q (F0 m 0 ls [])
set_option maxHeartbeats 40000000 in
set_option maxRecDepth 100000 in
theorem db_X3_readEntry_156 {p : Program} {l : Launch} {e : Env} {s : State} {m : MethodId} {args : Array Value} {below : List Frame} {meth : Method} {c : Code} {Q : State → Prop} {A : Nat → Prop} {dC : Nat → ClassId} {dI : Nat → Nat → Nat} {a : Nat → Nat} {ac : Nat → ClassId} {n : Nat} {r : St × (St)} (C : nd_C p l s m args c A (dC, dI) cX3_readEntry 10 RX3 ow_dm_X3_readEntry (dk_X3s ac)) (K : nd_Kv p l e (headSpec ow_dm_X3_readEntry ({ frames := 4, cells := 0, slots := 0, locals := 98 })).room s m args below meth c Q A (dC, dI) cX3_readEntry (St × (St)) (dw_X3s a ac) r) : dj_X3_readEntry_156 p l e s m args below meth c Q A dC dI a ac (df_X3_readEntry_156 n (a 0)) r := by
  obtain ⟨hlt, hx, hb, hml, hown, hts, hN, hA, hK⟩ := id C
  intro s0 H locs ls h hP hD hS hl
  unfold df_X3_readEntry_156 at h
  exact K _ _ _ _ _ dX3_readEntry_156 (Option.some.inj h).symm hP hD hS
set_option maxHeartbeats 40000000 in
set_option maxRecDepth 100000 in
theorem db_X3_readEntry_152 {p : Program} {l : Launch} {e : Env} {s : State} {m : MethodId} {args : Array Value} {below : List Frame} {meth : Method} {c : Code} {Q : State → Prop} {A : Nat → Prop} {dC : Nat → ClassId} {dI : Nat → Nat → Nat} {a : Nat → Nat} {ac : Nat → ClassId} {n : Nat} {r : St × (St)} (C : nd_C p l s m args c A (dC, dI) cX3_readEntry 10 RX3 ow_dm_X3_readEntry (dk_X3s ac)) (K : nd_Kv p l e (headSpec ow_dm_X3_readEntry ({ frames := 4, cells := 0, slots := 0, locals := 98 })).room s m args below meth c Q A (dC, dI) cX3_readEntry (St × (St)) (dw_X3s a ac) r) : dj_X3_readEntry_152 p l e s m args below meth c Q A dC dI a ac (df_X3_readEntry_152 n (a 0)) r := by
  obtain ⟨hlt, hx, hb, hml, hown, hts, hN, hA, hK⟩ := id C
  intro y1 y2 y3 y4 y5 s0 H locs ls h hP hD hS hl
  unfold df_X3_readEntry_152 at h
  refine lv_ladd hx hb dX3_readEntry_152 ?_
  obtain ⟨s22, hq, h⟩ := nd_b1_e h
  have hPc := hP
  have hDc := hD
  have hKc := hK
  have hFc := nd_rs hD hS hA
  refine nd_cVv (As := [.int y1, .int y2, .int y3, .long ((y4 : Int64) + y5)]) (rest := []) (w' := dw_X3s a ac s22) ⟨hx, hb, hml, hown, hts⟩ (fun sz => dm_X3_readBrought l hlt dC dI a ac n (y1) (y2) (y3) (((y4 : Int64) + y5)) s0 hq sz) (cwV 4 hts gi_dm_X3_readEntry_3 rfl rfl rfl (by decide +kernel) ⟨Nat.le_of_ble_eq_true rfl, Nat.le_of_ble_eq_true rfl⟩) hPc hDc hKc hS hA hN (va_recv hKc hPc (ci := 4) (q0 := 1) rfl rfl) rfl hl.1 rfl (Nat.le_of_ble_eq_true rfl) dX3_readEntry_153 (fun H locs hP1 hD1 hk1 hS => ?_)
  have hP := hP1
  have hD := hD1.weaken (fun k q _ h => hFc q.1 h)
  exact (db_X3_readEntry_156 C K)  s22 _ _ _ h hP hD hS (lv_sub hl [] rfl)
set_option maxHeartbeats 40000000 in
set_option maxRecDepth 100000 in
theorem db_X3_readEntry_113 {p : Program} {l : Launch} {e : Env} {s : State} {m : MethodId} {args : Array Value} {below : List Frame} {meth : Method} {c : Code} {Q : State → Prop} {A : Nat → Prop} {dC : Nat → ClassId} {dI : Nat → Nat → Nat} {a : Nat → Nat} {ac : Nat → ClassId} {n : Nat} {r : St × (St)} (C : nd_C p l s m args c A (dC, dI) cX3_readEntry 10 RX3 ow_dm_X3_readEntry (dk_X3s ac)) (K : nd_Kv p l e (headSpec ow_dm_X3_readEntry ({ frames := 4, cells := 0, slots := 0, locals := 98 })).room s m args below meth c Q A (dC, dI) cX3_readEntry (St × (St)) (dw_X3s a ac) r) : dj_X3_readEntry_113 p l e s m args below meth c Q A dC dI a ac (df_X3_readEntry_113 n (a 0)) r := by
  obtain ⟨hlt, hx, hb, hml, hown, hts, hN, hA, hK⟩ := id C
  intro x3 x5 x6 y0 s0 H locs ls h hP hD hS hl
  unfold df_X3_readEntry_113 at h
  refine lv_lstore (lv' := [(8, .long y0), (0, .ref (a 1)), (3, .int x3), (5, .int x5), (6, .int x6)]) hx hb dX3_readEntry_113 hl (by decide) rfl (fun ls hl => ?_)
  refine lv_aload_n hx hb dX3_readEntry_115 rfl (lv_at hl 1 rfl) ?_
  refine va_get (D := (dC, dI)) (ci := 4) (v := .int (sI s0.2 4)) (C := RX3) (T := TX3) (N := 11) hx hb hts hi_dm_X3_readEntry_X3 hown hK hP 1 rfl rfl 9 (by decide) (hts (.fieldLink RX3 95 "TimeMachine$Events" "fault" "I") (List.mem_of_getElem? (i := 8) rfl)) (fun _ h9 => h9) rfl dX3_readEntry_116 ?_
  refine lv_if_ne (tgt := 156) hx hb dX3_readEntry_119 (by decide) (fun c18 => ?_) (fun c18 => ?_)
  · have h := nd_neg h c18
    exact (db_X3_readEntry_156 C K)  s0 _ _ _ h hP hD hS (lv_sub hl [] rfl)
  · have h := nd_pos h c18
    refine lv_aload_n hx hb dX3_readEntry_122 rfl (lv_at hl 1 rfl) ?_
    refine lv_iload_n hx hb dX3_readEntry_123 rfl (lv_at hl 2 rfl) ?_
    refine lv_iload hx hb dX3_readEntry_124 (lv_at hl 3 rfl) ?_
    refine lv_iload hx hb dX3_readEntry_126 (lv_at hl 4 rfl) ?_
    refine lv_lload hx hb dX3_readEntry_128 (lv_at hl 0 rfl) ?_
    refine lv_aload_n hx hb dX3_readEntry_130 rfl (lv_at hl 1 rfl) ?_
    refine va_get (D := (dC, dI)) (ci := 4) (v := .int (sI s0.2 1)) (C := RX3) (T := TX3) (N := 11) hx hb hts hi_dm_X3_readEntry_X3 hown hK hP 1 rfl rfl 5 (by decide) (hts (.fieldLink RX3 39 "TimeMachine$Events" "total" "I") (List.mem_of_getElem? (i := 12) rfl)) (fun _ h9 => h9) rfl dX3_readEntry_131 ?_
    refine lv_if_ne (tgt := 141) hx hb dX3_readEntry_134 (by decide) (fun c19 => ?_) (fun c19 => ?_)
    · have h := nd_neg h c19
      refine lv_aload_n hx hb dX3_readEntry_141 rfl (lv_at hl 1 rfl) ?_
      refine va_get (D := (dC, dI)) (ci := 4) (v := .ref (a 3)) (C := RX3) (T := TX3) (N := 11) hx hb hts hi_dm_X3_readEntry_X3 hown hK hP 1 rfl rfl 1 (by decide) (hts (.fieldLink RX3 13 "TimeMachine$Events" "at" "[J") (List.mem_of_getElem? (i := 13) rfl)) (fun _ h9 => h9) rfl dX3_readEntry_142 ?_
      refine lv_aload_n hx hb dX3_readEntry_145 rfl (lv_at hl 1 rfl) ?_
      refine va_get (D := (dC, dI)) (ci := 4) (v := .int (sI s0.2 1)) (C := RX3) (T := TX3) (N := 11) hx hb hts hi_dm_X3_readEntry_X3 hown hK hP 1 rfl rfl 5 (by decide) (hts (.fieldLink RX3 39 "TimeMachine$Events" "total" "I") (List.mem_of_getElem? (i := 12) rfl)) (fun _ h9 => h9) rfl dX3_readEntry_146 ?_
      refine lv_iconst (v := 1) hx hb dX3_readEntry_149 (by decide) ?_
      refine lv_isub hx hb dX3_readEntry_150 ?_
      obtain ⟨i20, h⟩ := nd_ck_e h
      refine va_lald (i := ((sI s0.2 1) - 1)) hx hb hK hP 3 2 rfl rfl i20 dX3_readEntry_151 ?_
      exact (db_X3_readEntry_152 C K) (x3) (x5) (x6) (y0) ((sQ s0.2 0 (Int32.toNatClampNeg ((sI s0.2 1) - 1)))) s0 _ _ _ h hP hD hS (lv_sub hl [] rfl)
    · have h := nd_pos h c19
      refine lv_lconst (v := 0) hx hb dX3_readEntry_137 (by decide) ?_
      refine lv_goto (tgt := 152) hx hb dX3_readEntry_138 (by decide) ?_
      exact (db_X3_readEntry_152 C K) (x3) (x5) (x6) (y0) (0) s0 _ _ _ h hP hD hS (lv_sub hl [] rfl)
set_option maxHeartbeats 40000000 in
set_option maxRecDepth 100000 in
theorem db_X3_readEntry_57 {p : Program} {l : Launch} {e : Env} {s : State} {m : MethodId} {args : Array Value} {below : List Frame} {meth : Method} {c : Code} {Q : State → Prop} {A : Nat → Prop} {dC : Nat → ClassId} {dI : Nat → Nat → Nat} {a : Nat → Nat} {ac : Nat → ClassId} {n : Nat} {r : St × (St)} (C : nd_C p l s m args c A (dC, dI) cX3_readEntry 10 RX3 ow_dm_X3_readEntry (dk_X3s ac)) (K : nd_Kv p l e (headSpec ow_dm_X3_readEntry ({ frames := 4, cells := 0, slots := 0, locals := 98 })).room s m args below meth c Q A (dC, dI) cX3_readEntry (St × (St)) (dw_X3s a ac) r) : dj_X3_readEntry_57 p l e s m args below meth c Q A dC dI a ac (df_X3_readEntry_57 n (a 0)) r := by
  obtain ⟨hlt, hx, hb, hml, hown, hts, hN, hA, hK⟩ := id C
  intro x1 x3 x5 x6 x7 s0 H locs ls h hP hD hS hl
  unfold df_X3_readEntry_57 at h
  refine lv_aload_n hx hb dX3_readEntry_57 rfl (lv_at hl 0 rfl) ?_
  refine va_get (D := (dC, dI)) (ci := 4) (v := .int (sI s0.2 4)) (C := RX3) (T := TX3) (N := 11) hx hb hts hi_dm_X3_readEntry_X3 hown hK hP 1 rfl rfl 9 (by decide) (hts (.fieldLink RX3 95 "TimeMachine$Events" "fault" "I") (List.mem_of_getElem? (i := 8) rfl)) (fun _ h9 => h9) rfl dX3_readEntry_58 ?_
  refine lv_if_eq (tgt := 65) hx hb dX3_readEntry_61 (by decide) (fun c12 => ?_) (fun c12 => ?_)
  · have h := nd_pos h c12
    refine lv_iload hx hb dX3_readEntry_65 (lv_at hl 3 rfl) ?_
    refine lv_iconst (v := 5) hx hb dX3_readEntry_67 (by decide) ?_
    refine lv_icmp_ne (tgt := 80) hx hb dX3_readEntry_68 (by decide) (fun c13 => ?_) (fun c13 => ?_)
    · have h := nd_neg h c13
      refine lv_iload hx hb dX3_readEntry_80 (lv_at hl 5 rfl) ?_
      refine lv_if_eq (tgt := 109) hx hb dX3_readEntry_82 (by decide) (fun c14 => ?_) (fun c14 => ?_)
      · have h := nd_pos h c14
        refine lv_aload_n hx hb dX3_readEntry_109 rfl (lv_at hl 0 rfl) ?_
        obtain ⟨q15, s16, hq, h⟩ := nd_b2_e h
        have hPc := hP
        have hDc := hD
        have hKc := hK
        have hFc := nd_rs hD hS hA
        refine nd_cVl (As := []) (rest := []) (q := q15) (w' := dw_X3s a ac s16) ⟨hx, hb, hml, hown, hts⟩ (fun sz => dm_X3_readVarint l hlt dC dI a ac n  s0 hq sz) (cwV 0 hts gi_dm_X3_readEntry_2 rfl rfl rfl (by decide +kernel) ⟨Nat.le_of_ble_eq_true rfl, Nat.le_of_ble_eq_true rfl⟩) hPc hDc hKc hS hA hN (va_recv hKc hPc (ci := 4) (q0 := 1) rfl rfl) rfl hl.1 rfl (Nat.le_of_ble_eq_true rfl) dX3_readEntry_110 (fun H locs hP1 hD1 hk1 hS => ?_)
        have hP := hP1
        have hD := hD1.weaken (fun k q _ h => hFc q.1 h)
        exact (db_X3_readEntry_113 C K) (x3) (x5) (x6) (q15) s16 _ _ _ h hP hD hS (lv_sub hl [0, 2, 3, 4] rfl)
      · have h := nd_neg h c14
        refine lv_aload_n hx hb dX3_readEntry_85 rfl (lv_at hl 0 rfl) ?_
        refine va_get (D := (dC, dI)) (ci := 4) (v := .int (sI s0.2 1)) (C := RX3) (T := TX3) (N := 11) hx hb hts hi_dm_X3_readEntry_X3 hown hK hP 1 rfl rfl 5 (by decide) (hts (.fieldLink RX3 39 "TimeMachine$Events" "total" "I") (List.mem_of_getElem? (i := 12) rfl)) (fun _ h9 => h9) rfl dX3_readEntry_86 ?_
        refine lv_if_ne (tgt := 96) hx hb dX3_readEntry_89 (by decide) (fun c24 => ?_) (fun c24 => ?_)
        · have h := nd_neg h c24
          refine lv_aload_n hx hb dX3_readEntry_96 rfl (lv_at hl 0 rfl) ?_
          refine lv_aload_n hx hb dX3_readEntry_97 rfl (lv_at hl 0 rfl) ?_
          refine va_get (D := (dC, dI)) (ci := 4) (v := .int (sI s0.2 1)) (C := RX3) (T := TX3) (N := 11) hx hb hts hi_dm_X3_readEntry_X3 hown hK hP 1 rfl rfl 5 (by decide) (hts (.fieldLink RX3 39 "TimeMachine$Events" "total" "I") (List.mem_of_getElem? (i := 12) rfl)) (fun _ h9 => h9) rfl dX3_readEntry_98 ?_
          refine lv_iconst (v := 1) hx hb dX3_readEntry_101 (by decide) ?_
          refine lv_isub hx hb dX3_readEntry_102 ?_
          obtain ⟨q25, s26, hq, h⟩ := nd_b2_e h
          have hPc := dp_X3s_1 hP
          have hDc := dd_X3s_1 hD
          have hKc := dy_X3s_1 hK
          have hFc := nd_rs hDc hS hA
          have hzA : ∀ q : Nat, H.size ≤ q → A q := fun q h => hA q (Nat.le_trans hS.1 h)
          refine nd_cVl (As := [.int ((sI s0.2 1) - 1)]) (rest := []) (q := q25) (w' := dw_X3c (fun k => a (k + 1)) (fun k => ac (k + 1)) s26) ⟨hx, hb, hml, hown, hts⟩ (fun sz => dm_X3_difference l hlt dC dI (fun k => a (k + 1)) (fun k => ac (k + 1)) n (((sI s0.2 1) - 1)) s0.2 hq sz) (cwV 1 hts gi_dm_X3_readEntry_4 rfl rfl rfl (by decide +kernel) ⟨Nat.le_of_ble_eq_true rfl, Nat.le_of_ble_eq_true rfl⟩) hPc hDc hKc hS hA hN (va_recv hKc hPc (ci := 4) (q0 := 0) rfl rfl) rfl hl.1 rfl (Nat.le_of_ble_eq_true rfl) dX3_readEntry_103 (fun H locs hP1 hD1 hk1 hS => ?_)
          obtain ⟨hP, hD⟩ := dn_X3s_1 hP hD hzA hk1 hP1 hD1
          obtain ⟨s28, es28, h⟩ := nd_let_e h
          have hP : va_P (dC, dI) vwCl (dw_X3s a ac s28) H := by rw [es28]; exact hP
          have hD : va_D A (dw_X3s a ac s28) := by rw [es28]; exact hD
          refine lv_goto (tgt := 113) hx hb dX3_readEntry_106 (by decide) ?_
          exact (db_X3_readEntry_113 C K) (x3) (x5) (x6) (q25) s28 _ _ _ h hP hD hS (lv_sub hl [0, 2, 3, 4] rfl)
        · have h := nd_pos h c24
          refine lv_lconst (v := 0) hx hb dX3_readEntry_92 (by decide) ?_
          refine lv_goto (tgt := 113) hx hb dX3_readEntry_93 (by decide) ?_
          exact (db_X3_readEntry_113 C K) (x3) (x5) (x6) (0) s0 _ _ _ h hP hD hS (lv_sub hl [0, 2, 3, 4] rfl)
    · have h := nd_pos h c13
      refine lv_aload_n hx hb dX3_readEntry_71 rfl (lv_at hl 0 rfl) ?_
      refine lv_iload_n hx hb dX3_readEntry_72 rfl (lv_at hl 2 rfl) ?_
      refine lv_iload hx hb dX3_readEntry_73 (lv_at hl 4 rfl) ?_
      refine lv_lload_n hx hb dX3_readEntry_75 rfl (lv_at hl 1 rfl) ?_
      obtain ⟨s30, hq, h⟩ := nd_b1_e h
      have hPc := hP
      have hDc := hD
      have hKc := hK
      have hFc := nd_rs hD hS hA
      refine nd_cVv (As := [.int x3, .int x6, .long x1]) (rest := []) (w' := dw_X3s a ac s30) ⟨hx, hb, hml, hown, hts⟩ (fun sz => dm_X3_readRepeat l hlt dC dI a ac n (x3) (x6) (x1) s0 hq sz) (cwV 3 hts gi_dm_X3_readEntry_5 rfl rfl rfl (by decide +kernel) ⟨Nat.le_of_ble_eq_true rfl, Nat.le_of_ble_eq_true rfl⟩) hPc hDc hKc hS hA hN (va_recv hKc hPc (ci := 4) (q0 := 1) rfl rfl) rfl hl.1 rfl (Nat.le_of_ble_eq_true rfl) dX3_readEntry_76 (fun H locs hP1 hD1 hk1 hS => ?_)
      have hP := hP1
      have hD := hD1.weaken (fun k q _ h => hFc q.1 h)
      exact K _ _ _ _ _ dX3_readEntry_79 (Option.some.inj h).symm hP hD hS
  · have h := nd_neg h c12
    exact K _ _ _ _ _ dX3_readEntry_64 (Option.some.inj h).symm hP hD hS
set_option maxHeartbeats 40000000 in
set_option maxRecDepth 100000 in
theorem db_X3_readEntry_37 {p : Program} {l : Launch} {e : Env} {s : State} {m : MethodId} {args : Array Value} {below : List Frame} {meth : Method} {c : Code} {Q : State → Prop} {A : Nat → Prop} {dC : Nat → ClassId} {dI : Nat → Nat → Nat} {a : Nat → Nat} {ac : Nat → ClassId} {n : Nat} {r : St × (St)} (C : nd_C p l s m args c A (dC, dI) cX3_readEntry 10 RX3 ow_dm_X3_readEntry (dk_X3s ac)) (K : nd_Kv p l e (headSpec ow_dm_X3_readEntry ({ frames := 4, cells := 0, slots := 0, locals := 98 })).room s m args below meth c Q A (dC, dI) cX3_readEntry (St × (St)) (dw_X3s a ac) r) : dj_X3_readEntry_37 p l e s m args below meth c Q A dC dI a ac (df_X3_readEntry_37 n (a 0)) r := by
  obtain ⟨hlt, hx, hb, hml, hown, hts, hN, hA, hK⟩ := id C
  intro x1 x3 x5 x6 y0 s0 H locs ls h hP hD hS hl
  unfold df_X3_readEntry_37 at h
  refine lv_istore (lv' := [(7, .int y0), (0, .ref (a 1)), (1, .long x1), (3, .int x3), (5, .int x5), (6, .int x6)]) hx hb dX3_readEntry_37 hl (by decide) rfl (fun ls hl => ?_)
  refine lv_iload hx hb dX3_readEntry_39 (lv_at hl 4 rfl) ?_
  refine lv_iload hx hb dX3_readEntry_41 (lv_at hl 5 rfl) ?_
  refine lv_iload hx hb dX3_readEntry_43 (lv_at hl 0 rfl) ?_
  obtain ⟨q8, s9, hq, h⟩ := nd_b2_e h
  have hPc : va_P (dC, dI) vwCl (dw_P a ac ()) H := nd_p0
  have hDc : va_D A (dw_P a ac ()) := nd_d0
  have hKc : va_K (dC, dI) vwCl (dk_P ac) s := nd_y0 hK
  have hFc : ∀ q, va_A (dw_P a ac ()) H.size q → A q := nd_r0 hS hA
  refine nd_cSi (As := [.int x5, .int x6, .int y0]) (rest := []) (q := q8) (w' := dw_P a ac s9) ⟨hx, hb, hml, hown, hts⟩ (fun sz => dm_X3_isHead l hlt dC dI a ac n (x5) (x6) (y0) () hq sz) (cwS 3 hts gi_dm_X3_readEntry_1 rfl rfl rfl (by decide +kernel) ⟨Nat.le_of_ble_eq_true rfl, Nat.le_of_ble_eq_true rfl⟩) hPc hDc hKc hS hA hN rfl hl.1 rfl (Nat.le_of_ble_eq_true rfl) dX3_readEntry_45 (fun H locs hP1 hD1 hk1 hS => ?_)
  have hP := nd_n0 hP hk1
  refine lv_if_ne (tgt := 57) hx hb dX3_readEntry_48 (by decide) (fun c11 => ?_) (fun c11 => ?_)
  · have h := nd_neg h c11
    exact (db_X3_readEntry_57 C K) (x1) (x3) (x5) (x6) (y0) s0 _ _ _ h hP hD hS (lv_sub hl [1, 2, 3, 4, 5, 0] rfl)
  · have h := nd_pos h c11
    refine lv_aload_n hx hb dX3_readEntry_51 rfl (lv_at hl 1 rfl) ?_
    refine lv_iconst (v := 1) hx hb dX3_readEntry_52 (by decide) ?_
    refine lv_iload_n hx hb dX3_readEntry_53 rfl (lv_at hl 3 rfl) ?_
    obtain ⟨s33, hq, h⟩ := nd_b1_e h
    have hPc := dp_X3s_1 hP
    have hDc := dd_X3s_1 hD
    have hKc := dy_X3s_1 hK
    have hFc := nd_rs hDc hS hA
    have hzA : ∀ q : Nat, H.size ≤ q → A q := fun q h => hA q (Nat.le_trans hS.1 h)
    refine nd_cVv (As := [.int 1, .int x3]) (rest := []) (w' := dw_X3c (fun k => a (k + 1)) (fun k => ac (k + 1)) s33) ⟨hx, hb, hml, hown, hts⟩ (fun sz => dm_X3_blame l hlt dC dI (fun k => a (k + 1)) (fun k => ac (k + 1)) n (1) (x3) s0.2 hq sz) (cwV 2 hts gi_dm_X3_readEntry_6 rfl rfl rfl (by decide +kernel) ⟨Nat.le_of_ble_eq_true rfl, Nat.le_of_ble_eq_true rfl⟩) hPc hDc hKc hS hA hN (va_recv hKc hPc (ci := 4) (q0 := 0) rfl rfl) rfl hl.1 rfl (Nat.le_of_ble_eq_true rfl) dX3_readEntry_54 (fun H locs hP1 hD1 hk1 hS => ?_)
    obtain ⟨hP, hD⟩ := dn_X3s_1 hP hD hzA hk1 hP1 hD1
    obtain ⟨s35, es35, h⟩ := nd_let_e h
    have hP : va_P (dC, dI) vwCl (dw_X3s a ac s35) H := by rw [es35]; exact hP
    have hD : va_D A (dw_X3s a ac s35) := by rw [es35]; exact hD
    exact (db_X3_readEntry_57 C K) (x1) (x3) (x5) (x6) (y0) s35 _ _ _ h hP hD hS (lv_sub hl [1, 2, 3, 4, 5, 0] rfl)
set_option maxHeartbeats 40000000 in
set_option maxRecDepth 100000 in
theorem db_X3_readEntry_0 {p : Program} {l : Launch} {e : Env} {s : State} {m : MethodId} {args : Array Value} {below : List Frame} {meth : Method} {c : Code} {Q : State → Prop} {A : Nat → Prop} {dC : Nat → ClassId} {dI : Nat → Nat → Nat} {a : Nat → Nat} {ac : Nat → ClassId} {n : Nat} {r : St × (St)} (C : nd_C p l s m args c A (dC, dI) cX3_readEntry 10 RX3 ow_dm_X3_readEntry (dk_X3s ac)) (K : nd_Kv p l e (headSpec ow_dm_X3_readEntry ({ frames := 4, cells := 0, slots := 0, locals := 98 })).room s m args below meth c Q A (dC, dI) cX3_readEntry (St × (St)) (dw_X3s a ac) r) : dj_X3_readEntry_0 p l e s m args below meth c Q A dC dI a ac (df_X3_readEntry_0 n (a 0)) r := by
  obtain ⟨hlt, hx, hb, hml, hown, hts, hN, hA, hK⟩ := id C
  intro v0 s0 H locs ls h hP hD hS hl
  unfold df_X3_readEntry_0 at h
  refine lv_aload_n hx hb dX3_readEntry_0 rfl (lv_at hl 0 rfl) ?_
  refine va_get (D := (dC, dI)) (ci := 4) (v := .int (sI s0.2 2)) (C := RX3) (T := TX3) (N := 11) hx hb hts hi_dm_X3_readEntry_X3 hown hK hP 1 rfl rfl 7 (by decide) (hts (.fieldLink RX3 44 "TimeMachine$Events" "place" "I") (List.mem_of_getElem? (i := 1) rfl)) (fun _ h9 => h9) rfl dX3_readEntry_1 ?_
  refine lv_topi (fun z1 ez1 => ?_)
  have h := nd_at h ez1
  refine lv_istore_n (lv' := [(3, .int z1), (0, .ref (a 1)), (1, .long v0)]) hx hb dX3_readEntry_4 rfl hl (by decide) rfl (fun ls hl => ?_)
  refine lv_aload_n hx hb dX3_readEntry_5 rfl (lv_at hl 1 rfl) ?_
  obtain ⟨q2, s3, hq, h⟩ := nd_b2_e h
  have hPc := hP
  have hDc := hD
  have hKc := hK
  have hFc := nd_rs hD hS hA
  refine nd_cVi (As := []) (rest := []) (q := q2) (w' := dw_X3s a ac s3) ⟨hx, hb, hml, hown, hts⟩ (fun sz => dm_X3_readByte l hlt dC dI a ac n  s0 hq sz) (cwV 0 hts gi_dm_X3_readEntry_0 rfl rfl rfl (by decide +kernel) ⟨Nat.le_of_ble_eq_true rfl, Nat.le_of_ble_eq_true rfl⟩) hPc hDc hKc hS hA hN (va_recv hKc hPc (ci := 4) (q0 := 1) rfl rfl) rfl hl.1 rfl (Nat.le_of_ble_eq_true rfl) dX3_readEntry_6 (fun H locs hP1 hD1 hk1 hS => ?_)
  have hP := hP1
  have hD := hD1.weaken (fun k q _ h => hFc q.1 h)
  refine lv_istore (lv' := [(4, .int q2), (3, .int z1), (0, .ref (a 1)), (1, .long v0)]) hx hb dX3_readEntry_9 hl (by decide) rfl (fun ls hl => ?_)
  refine lv_iload hx hb dX3_readEntry_11 (lv_at hl 0 rfl) ?_
  refine lv_bipush (v := 7) hx hb dX3_readEntry_13 (by decide) ?_
  refine lv_iand hx hb dX3_readEntry_15 ?_
  refine lv_topi (fun z5 ez5 => ?_)
  have h := nd_at h ez5
  refine lv_istore (lv' := [(5, .int z5), (4, .int q2), (3, .int z1), (0, .ref (a 1)), (1, .long v0)]) hx hb dX3_readEntry_16 hl (by decide) rfl (fun ls hl => ?_)
  refine lv_iload hx hb dX3_readEntry_18 (lv_at hl 1 rfl) ?_
  refine lv_iconst (v := 4) hx hb dX3_readEntry_20 (by decide) ?_
  refine lv_ishr hx hb dX3_readEntry_21 ?_
  refine lv_topi (fun z6 ez6 => ?_)
  have h := nd_at h ez6
  refine lv_istore (lv' := [(6, .int z6), (5, .int z5), (4, .int q2), (3, .int z1), (0, .ref (a 1)), (1, .long v0)]) hx hb dX3_readEntry_22 hl (by decide) rfl (fun ls hl => ?_)
  refine lv_iload hx hb dX3_readEntry_24 (lv_at hl 2 rfl) ?_
  refine lv_bipush (v := 8) hx hb dX3_readEntry_26 (by decide) ?_
  refine lv_iand hx hb dX3_readEntry_28 ?_
  refine lv_if_eq (tgt := 36) hx hb dX3_readEntry_29 (by decide) (fun c7 => ?_) (fun c7 => ?_)
  · have h := nd_pos h c7
    refine lv_iconst (v := 0) hx hb dX3_readEntry_36 (by decide) ?_
    exact (db_X3_readEntry_37 C K) (v0) (z1) (z5) (z6) (0) s3 _ _ _ h hP hD hS (lv_sub hl [4, 5, 3, 1, 0] rfl)
  · have h := nd_neg h c7
    refine lv_iconst (v := 1) hx hb dX3_readEntry_32 (by decide) ?_
    refine lv_goto (tgt := 37) hx hb dX3_readEntry_33 (by decide) ?_
    exact (db_X3_readEntry_37 C K) (v0) (z1) (z5) (z6) (1) s3 _ _ _ h hP hD hS (lv_sub hl [4, 5, 3, 1, 0] rfl)
set_option maxHeartbeats 40000000 in
set_option maxRecDepth 100000 in
theorem dm_X3_readEntry (l : Launch) (hlt : l.stackTraces = false) (dC : Nat → ClassId) (dI : Nat → Nat → Nat) (a : Nat → Nat) (ac : Nat → ClassId) (n : Nat) (v0 : Int64) (s0 : St × (St)) {r : St × (St)} (h : df_X3_readEntry n (a 0) v0 s0 = some r) (sz : Nat) : Met l yX3_readEntry ow_dm_X3_readEntry ({ frames := 4, cells := 0, slots := 0, locals := 98 }) (va_Pc [.ref (a 1), .long v0] (fun U => U.heap.size = sz ∧ va_P (dC, dI) vwCl (dw_X3s a ac s0) U.heap ∧ va_K (dC, dI) vwCl (dk_X3s ac) U ∧ va_D (fun _ => True) (dw_X3s a ac s0) ∧ nv_E (va_A (dw_X3s a ac s0) sz) U)) (va_Qv (fun _ => True) (fun (_ : Unit) t => va_P (dC, dI) vwCl (dw_X3s a ac r) t.heap ∧ va_K (dC, dI) vwCl (dk_X3s ac) t ∧ va_D (va_A (dw_X3s a ac s0) sz) (dw_X3s a ac r)) (va_A (dw_X3s a ac s0) sz)) 0 0 (va_A (dw_X3s a ac s0) sz) := by
  refine Met.ofW (cc := cX3_readEntry) (maxL := 10) (ret := none) (by decide) rfl ?_
  intro p e s m args below meth c s₁ B hml hv
  obtain ⟨rfl, hsz, hP, hK, hD0, hN⟩ := hv
  have hx := B.exec
  have hb := B.bytes
  have hr := B.returns
  have hts := atoms_spec (ws := ow_dm_X3_readEntry) B.pre
  have hown : s.vm.findClass RX3 = some m.cls := findClass_of_methodNamed B.named
  have hlocks := B.notSynchronized
  subst hsz
  have hD := hD0.self (sz := s.heap.size)
  generalize hAe : va_A (dw_X3s a ac s0) s.heap.size = A at hD hN ⊢
  have hA : ∀ q : Nat, s.heap.size ≤ q → A q := fun q h => by rw [← hAe]; exact Or.inr h
  have hl := lv_entry ([.ref (a 1), .long v0]) (n := 10) (Nat.le_of_ble_eq_true rfl)
  rw [lg_entry_eq]
  generalize (lg_sl ([.ref (a 1), .long v0]) ++ List.replicate (10 - (lg_sl ([.ref (a 1), .long v0])).length) Slot.unset).toArray = ls at hl ⊢
  have hl : lv_has ls 10 [(0, .ref (a 1)), (1, .long v0)] := hl
  exact db_X3_readEntry_0 (dC := dC) (dI := dI) (a := a) (ac := ac) (n := n) (r := r) ⟨hlt, hx, hb, hml, hown, hts, hN, hA, hK⟩ (fun pc τ H locs ls d er hP hD hS => by subst er; exact W.vret hx hb hr (fun t ht hW => ⟨⟨(), rfl, trivial, by rw [ht]; exact hP, va_K.moved hW.alike hK, hD⟩, hS.F ht⟩) hS.2.2 d) v0 s0 _ _ _ h hP hD va_S.rf (lv_sub hl [0, 1] rfl)
def ow_dm_X3_readLog : List Cond := .code yX3_readLog cX3_readLog 6 (some .int) :: ([.fieldLink RX3 23 "TimeMachine$Events" "row" "[B", .methodLink RX3 86 Lib.Math.min.name, .static Lib.Math.min.name, .initialized "java/lang/Math", .code Lib.Math.min.name Lib.Math.min.code 2 (some .int), .fieldLink RX3 92 "TimeMachine$Events" "stop" "I", .fieldLink RX3 44 "TimeMachine$Events" "place" "I", .fieldLink RX3 95 "TimeMachine$Events" "fault" "I", .methodLink RX3 98 yX3_clear, .instanceMethod yX3_clear, .selects RX3 yX3_clear yX3_clear, .initialized RX3, .methodLink RX3 101 yX3_readVarint, .instanceMethod yX3_readVarint, .selects RX3 yX3_readVarint yX3_readVarint, .constantLong RX3 105 (2048), .fieldLink RX3 114 "TimeMachine$Events" "faultPlace" "I", .fieldLink RX3 39 "TimeMachine$Events" "total" "I", .methodLink RX3 107 yX3_blame, .instanceMethod yX3_blame, .selects RX3 yX3_blame yX3_blame, .methodLink RX3 111 yX3_readEntry, .instanceMethod yX3_readEntry, .selects RX3 yX3_readEntry yX3_readEntry] ++ (u_ws RX3 TX3 11 ++ (ow_dm_X3_clear ++ (ow_dm_X3_readVarint ++ (ow_dm_X3_blame ++ (ow_dm_X3_readEntry ++ []))))))
theorem gd_dm_X3_readLog : ∀ w ∈ ow_dm_X3_readLog, (w.onTables && w.keeps) = true ∨ ∃ ty, w = Cond.arrayClass ty := List.forall_mem_cons.mpr ⟨good_of_word rfl, List.forall_mem_append.mpr ⟨fun w h => good_of_word (List.all_eq_true.mp (by decide +kernel) w h), List.forall_mem_append.mpr ⟨gu_X3, List.forall_mem_append.mpr ⟨gd_dm_X3_clear, List.forall_mem_append.mpr ⟨gd_dm_X3_readVarint, List.forall_mem_append.mpr ⟨gd_dm_X3_blame, List.forall_mem_append.mpr ⟨gd_dm_X3_readEntry, fun _ h => nomatch h⟩⟩⟩⟩⟩⟩⟩
theorem hi_dm_X3_readLog_X3 : ∀ w ∈ u_ws RX3 TX3 11, w ∈ ow_dm_X3_readLog := fun w h => List.mem_cons_of_mem _ (List.mem_append_right _ (List.mem_append_left _ h))
theorem gi_dm_X3_readLog_0 : GoodIn ow_dm_X3_readLog (wsV RX3 98 RX3 yX3_clear ow_dm_X3_clear) := goodIn_app (goodIn_of _ (by decide +kernel)) (fun w h => ⟨List.mem_cons_of_mem _ (List.mem_append_right _ (List.mem_append_right _ (List.mem_append_left _ h))), gd_dm_X3_clear w h⟩)
theorem gi_dm_X3_readLog_1 : GoodIn ow_dm_X3_readLog (wsV RX3 101 RX3 yX3_readVarint ow_dm_X3_readVarint) := goodIn_app (goodIn_of _ (by decide +kernel)) (fun w h => ⟨List.mem_cons_of_mem _ (List.mem_append_right _ (List.mem_append_right _ (List.mem_append_right _ (List.mem_append_left _ h)))), gd_dm_X3_readVarint w h⟩)
theorem gi_dm_X3_readLog_2 : GoodIn ow_dm_X3_readLog (wsV RX3 107 RX3 yX3_blame ow_dm_X3_blame) := goodIn_app (goodIn_of _ (by decide +kernel)) (fun w h => ⟨List.mem_cons_of_mem _ (List.mem_append_right _ (List.mem_append_right _ (List.mem_append_right _ (List.mem_append_right _ (List.mem_append_left _ h))))), gd_dm_X3_blame w h⟩)
theorem gi_dm_X3_readLog_3 : GoodIn ow_dm_X3_readLog (wsV RX3 111 RX3 yX3_readEntry ow_dm_X3_readEntry) := goodIn_app (goodIn_of _ (by decide +kernel)) (fun w h => ⟨List.mem_cons_of_mem _ (List.mem_append_right _ (List.mem_append_right _ (List.mem_append_right _ (List.mem_append_right _ (List.mem_append_right _ (List.mem_append_left _ h)))))), gd_dm_X3_readEntry w h⟩)
def dj_X3_readLog_136 (p : Program) (l : Launch) (e : Env) (s : State) (m : MethodId) (args : Array Value) (below : List Frame) (meth : Method) (c : Code) (Q : State → Prop) (A : Nat → Prop) (dC : Nat → ClassId) (dI : Nat → Nat → Nat) (a : Nat → Nat) (ac : Nat → ClassId) (g : Int32 → (St × (St)) → Option (Int32 × (St × (St)))) (r : Int32 × (St × (St))) : Prop := ∀ (y0 : Int32) (s0 : St × (St)) (H : Heap) (locs : List Loc) (ls : Array Slot), g y0 s0 = some r → va_P (dC, dI) vwCl (dw_X3s a ac s0) H → va_D A (dw_X3s a ac s0) → va_S A s.heap H locs → lv_has ls 6 [] → W p l e (headSpec ow_dm_X3_readLog ({ frames := 5, cells := 0, slots := 0, locals := 127 })).room s m args below meth c H locs 0 0 Q (F0 m 136 ls [.int y0])
def dj_X3_readLog_108 (p : Program) (l : Launch) (e : Env) (s : State) (m : MethodId) (args : Array Value) (below : List Frame) (meth : Method) (c : Code) (Q : State → Prop) (A : Nat → Prop) (dC : Nat → ClassId) (dI : Nat → Nat → Nat) (a : Nat → Nat) (ac : Nat → ClassId) (g : (St × (St)) → Option (Int32 × (St × (St)))) (r : Int32 × (St × (St))) : Prop := ∀ (s0 : St × (St)) (H : Heap) (locs : List Loc) (ls : Array Slot), g s0 = some r → va_P (dC, dI) vwCl (dw_X3s a ac s0) H → va_D A (dw_X3s a ac s0) → va_S A s.heap H locs → lv_has ls 6 [(0, .ref (a 1))] → W p l e (headSpec ow_dm_X3_readLog ({ frames := 5, cells := 0, slots := 0, locals := 127 })).room s m args below meth c H locs 0 0 Q (F0 m 108 ls [])
def dj_X3_readLog_87 (p : Program) (l : Launch) (e : Env) (s : State) (m : MethodId) (args : Array Value) (below : List Frame) (meth : Method) (c : Code) (Q : State → Prop) (A : Nat → Prop) (dC : Nat → ClassId) (dI : Nat → Nat → Nat) (a : Nat → Nat) (ac : Nat → ClassId) (g : (St × (St)) → Option (Int32 × (St × (St)))) (r : Int32 × (St × (St))) : Prop := ∀ (s0 : St × (St)) (H : Heap) (locs : List Loc) (ls : Array Slot), g s0 = some r → va_P (dC, dI) vwCl (dw_X3s a ac s0) H → va_D A (dw_X3s a ac s0) → va_S A s.heap H locs → lv_has ls 6 [(0, .ref (a 1))] → W p l e (headSpec ow_dm_X3_readLog ({ frames := 5, cells := 0, slots := 0, locals := 127 })).room s m args below meth c H locs 0 0 Q (F0 m 87 ls [])
def dj_X3_readLog_54 (p : Program) (l : Launch) (e : Env) (s : State) (m : MethodId) (args : Array Value) (below : List Frame) (meth : Method) (c : Code) (Q : State → Prop) (A : Nat → Prop) (dC : Nat → ClassId) (dI : Nat → Nat → Nat) (a : Nat → Nat) (ac : Nat → ClassId) (g : Int64 → Int32 → (St × (St)) → Option (Int32 × (St × (St)))) (r : Int32 × (St × (St))) : Prop := ∀ (x3 : Int64) (x5 : Int32) (s0 : St × (St)) (H : Heap) (locs : List Loc) (ls : Array Slot), g x3 x5 s0 = some r → va_P (dC, dI) vwCl (dw_X3s a ac s0) H → va_D A (dw_X3s a ac s0) → va_S A s.heap H locs → lv_has ls 6 [(0, .ref (a 1)), (3, .long x3), (5, .int x5)] → W p l e (headSpec ow_dm_X3_readLog ({ frames := 5, cells := 0, slots := 0, locals := 127 })).room s m args below meth c H locs 0 0 Q (F0 m 54 ls [])
def dj_X3_readLog_49 (p : Program) (l : Launch) (e : Env) (s : State) (m : MethodId) (args : Array Value) (below : List Frame) (meth : Method) (c : Code) (Q : State → Prop) (A : Nat → Prop) (dC : Nat → ClassId) (dI : Nat → Nat → Nat) (a : Nat → Nat) (ac : Nat → ClassId) (g : Int64 → (St × (St)) → Option (Int32 × (St × (St)))) (r : Int32 × (St × (St))) : Prop := ∀ (x3 : Int64) (s0 : St × (St)) (H : Heap) (locs : List Loc) (ls : Array Slot), g x3 s0 = some r → va_P (dC, dI) vwCl (dw_X3s a ac s0) H → va_D A (dw_X3s a ac s0) → va_S A s.heap H locs → lv_has ls 6 [(0, .ref (a 1)), (3, .long x3)] → W p l e (headSpec ow_dm_X3_readLog ({ frames := 5, cells := 0, slots := 0, locals := 127 })).room s m args below meth c H locs 0 0 Q (F0 m 49 ls [])
def dj_X3_readLog_0 (p : Program) (l : Launch) (e : Env) (s : State) (m : MethodId) (args : Array Value) (below : List Frame) (meth : Method) (c : Code) (Q : State → Prop) (A : Nat → Prop) (dC : Nat → ClassId) (dI : Nat → Nat → Nat) (a : Nat → Nat) (ac : Nat → ClassId) (g : Int32 → (St × (St)) → Option (Int32 × (St × (St)))) (r : Int32 × (St × (St))) : Prop := ∀ (v1 : Int32) (s0 : St × (St)) (H : Heap) (locs : List Loc) (ls : Array Slot), g v1 s0 = some r → va_P (dC, dI) vwCl (dw_X3s a ac s0) H → va_D A (dw_X3s a ac s0) → va_S A s.heap H locs → lv_has ls 6 [(0, .ref (a 1)), (1, .ref (a 0)), (2, .int v1)] → W p l e (headSpec ow_dm_X3_readLog ({ frames := 5, cells := 0, slots := 0, locals := 127 })).room s m args below meth c H locs 0 0 Q (F0 m 0 ls [])
set_option maxHeartbeats 40000000 in
set_option maxRecDepth 100000 in
theorem db_X3_readLog_136 {p : Program} {l : Launch} {e : Env} {s : State} {m : MethodId} {args : Array Value} {below : List Frame} {meth : Method} {c : Code} {Q : State → Prop} {A : Nat → Prop} {dC : Nat → ClassId} {dI : Nat → Nat → Nat} {a : Nat → Nat} {ac : Nat → ClassId} {n : Nat} {r : Int32 × (St × (St))} (C : nd_C p l s m args c A (dC, dI) cX3_readLog 6 RX3 ow_dm_X3_readLog (dk_X3s ac)) (K : nd_Ki p l e (headSpec ow_dm_X3_readLog ({ frames := 5, cells := 0, slots := 0, locals := 127 })).room s m args below meth c Q A (dC, dI) cX3_readLog .int (St × (St)) (dw_X3s a ac) r) : dj_X3_readLog_136 p l e s m args below meth c Q A dC dI a ac (df_X3_readLog_136 n (a 0)) r := by
  obtain ⟨hlt, hx, hb, hml, hown, hts, hN, hA, hK⟩ := id C
  intro y0 s0 H locs ls h hP hD hS hl
  unfold df_X3_readLog_136 at h
  exact K _ _ _ _ _ _ dX3_readLog_136 rfl (Option.some.inj h).symm hP hD hS
set_option maxHeartbeats 40000000 in
set_option maxRecDepth 100000 in
theorem db_X3_readLog_108 {p : Program} {l : Launch} {e : Env} {s : State} {m : MethodId} {args : Array Value} {below : List Frame} {meth : Method} {c : Code} {Q : State → Prop} {A : Nat → Prop} {dC : Nat → ClassId} {dI : Nat → Nat → Nat} {a : Nat → Nat} {ac : Nat → ClassId} {n : Nat} {r : Int32 × (St × (St))} (C : nd_C p l s m args c A (dC, dI) cX3_readLog 6 RX3 ow_dm_X3_readLog (dk_X3s ac)) (K : nd_Ki p l e (headSpec ow_dm_X3_readLog ({ frames := 5, cells := 0, slots := 0, locals := 127 })).room s m args below meth c Q A (dC, dI) cX3_readLog .int (St × (St)) (dw_X3s a ac) r) : dj_X3_readLog_108 p l e s m args below meth c Q A dC dI a ac (df_X3_readLog_108 n (a 0)) r := by
  obtain ⟨hlt, hx, hb, hml, hown, hts, hN, hA, hK⟩ := id C
  intro s0 H locs ls h hP hD hS hl
  unfold df_X3_readLog_108 at h
  refine lv_aload_n hx hb dX3_readLog_108 rfl (lv_at hl 0 rfl) ?_
  refine va_get (D := (dC, dI)) (ci := 4) (v := .int (sI s0.2 4)) (C := RX3) (T := TX3) (N := 11) hx hb hts hi_dm_X3_readLog_X3 hown hK hP 1 rfl rfl 9 (by decide) (hts (.fieldLink RX3 95 "TimeMachine$Events" "fault" "I") (List.mem_of_getElem? (i := 8) rfl)) (fun _ h9 => h9) rfl dX3_readLog_109 ?_
  refine lv_if_ne (tgt := 122) hx hb dX3_readLog_112 (by decide) (fun c15 => ?_) (fun c15 => ?_)
  · have h := nd_neg h c15
    refine lv_iconst (v := (-1)) hx hb dX3_readLog_122 (by decide) ?_
    refine lv_aload_n hx hb dX3_readLog_123 rfl (lv_at hl 0 rfl) ?_
    refine va_get (D := (dC, dI)) (ci := 4) (v := .int (sI s0.2 4)) (C := RX3) (T := TX3) (N := 11) hx hb hts hi_dm_X3_readLog_X3 hown hK hP 1 rfl rfl 9 (by decide) (hts (.fieldLink RX3 95 "TimeMachine$Events" "fault" "I") (List.mem_of_getElem? (i := 8) rfl)) (fun _ h9 => h9) rfl dX3_readLog_124 ?_
    refine lv_bipush (v := 8) hx hb dX3_readLog_127 (by decide) ?_
    refine lv_aload_n hx hb dX3_readLog_129 rfl (lv_at hl 0 rfl) ?_
    refine va_get (D := (dC, dI)) (ci := 4) (v := .int (sI s0.2 5)) (C := RX3) (T := TX3) (N := 11) hx hb hts hi_dm_X3_readLog_X3 hown hK hP 1 rfl rfl 10 (by decide) (hts (.fieldLink RX3 114 "TimeMachine$Events" "faultPlace" "I") (List.mem_of_getElem? (i := 17) rfl)) (fun _ h9 => h9) rfl dX3_readLog_130 ?_
    refine lv_imul hx hb dX3_readLog_133 ?_
    refine lv_iadd hx hb dX3_readLog_134 ?_
    refine lv_isub hx hb dX3_readLog_135 ?_
    exact (db_X3_readLog_136 C K) (((-1) - ((sI s0.2 4) + (8 * (sI s0.2 5))))) s0 _ _ _ h hP hD hS (lv_sub hl [] rfl)
  · have h := nd_pos h c15
    refine lv_aload_n hx hb dX3_readLog_115 rfl (lv_at hl 0 rfl) ?_
    refine va_get (D := (dC, dI)) (ci := 4) (v := .int (sI s0.2 1)) (C := RX3) (T := TX3) (N := 11) hx hb hts hi_dm_X3_readLog_X3 hown hK hP 1 rfl rfl 5 (by decide) (hts (.fieldLink RX3 39 "TimeMachine$Events" "total" "I") (List.mem_of_getElem? (i := 18) rfl)) (fun _ h9 => h9) rfl dX3_readLog_116 ?_
    refine lv_goto (tgt := 136) hx hb dX3_readLog_119 (by decide) ?_
    exact (db_X3_readLog_136 C K) ((sI s0.2 1)) s0 _ _ _ h hP hD hS (lv_sub hl [] rfl)
set_option maxHeartbeats 40000000 in
set_option maxRecDepth 100000 in
theorem db_X3_readLog_87 {p : Program} {l : Launch} {e : Env} {s : State} {m : MethodId} {args : Array Value} {below : List Frame} {meth : Method} {c : Code} {Q : State → Prop} {A : Nat → Prop} {dC : Nat → ClassId} {dI : Nat → Nat → Nat} {a : Nat → Nat} {ac : Nat → ClassId} {n : Nat} {r : Int32 × (St × (St))} (C : nd_C p l s m args c A (dC, dI) cX3_readLog 6 RX3 ow_dm_X3_readLog (dk_X3s ac)) (K : nd_Ki p l e (headSpec ow_dm_X3_readLog ({ frames := 5, cells := 0, slots := 0, locals := 127 })).room s m args below meth c Q A (dC, dI) cX3_readLog .int (St × (St)) (dw_X3s a ac) r) : dj_X3_readLog_87 p l e s m args below meth c Q A dC dI a ac (df_X3_readLog_87 n (a 0)) r := by
  obtain ⟨hlt, hx, hb, hml, hown, hts, hN, hA, hK⟩ := id C
  intro s0 H locs ls h hP hD hS hl
  unfold df_X3_readLog_87 at h
  refine lv_aload_n hx hb dX3_readLog_87 rfl (lv_at hl 0 rfl) ?_
  refine va_get (D := (dC, dI)) (ci := 4) (v := .int (sI s0.2 2)) (C := RX3) (T := TX3) (N := 11) hx hb hts hi_dm_X3_readLog_X3 hown hK hP 1 rfl rfl 7 (by decide) (hts (.fieldLink RX3 44 "TimeMachine$Events" "place" "I") (List.mem_of_getElem? (i := 7) rfl)) (fun _ h9 => h9) rfl dX3_readLog_88 ?_
  refine lv_aload_n hx hb dX3_readLog_91 rfl (lv_at hl 0 rfl) ?_
  refine va_get (D := (dC, dI)) (ci := 4) (v := .int (sI s0.2 3)) (C := RX3) (T := TX3) (N := 11) hx hb hts hi_dm_X3_readLog_X3 hown hK hP 1 rfl rfl 8 (by decide) (hts (.fieldLink RX3 92 "TimeMachine$Events" "stop" "I") (List.mem_of_getElem? (i := 6) rfl)) (fun _ h9 => h9) rfl dX3_readLog_92 ?_
  refine lv_icmp_ge (tgt := 108) hx hb dX3_readLog_95 (by decide) (fun c14 => ?_) (fun c14 => ?_)
  · have h := nd_pos h c14
    exact (db_X3_readLog_108 C K)  s0 _ _ _ h hP hD hS (lv_sub hl [0] rfl)
  · have h := nd_neg h c14
    refine lv_aload_n hx hb dX3_readLog_98 rfl (lv_at hl 0 rfl) ?_
    refine lv_bipush (v := 7) hx hb dX3_readLog_99 (by decide) ?_
    refine lv_aload_n hx hb dX3_readLog_101 rfl (lv_at hl 0 rfl) ?_
    refine va_get (D := (dC, dI)) (ci := 4) (v := .int (sI s0.2 2)) (C := RX3) (T := TX3) (N := 11) hx hb hts hi_dm_X3_readLog_X3 hown hK hP 1 rfl rfl 7 (by decide) (hts (.fieldLink RX3 44 "TimeMachine$Events" "place" "I") (List.mem_of_getElem? (i := 7) rfl)) (fun _ h9 => h9) rfl dX3_readLog_102 ?_
    obtain ⟨s17, hq, h⟩ := nd_b1_e h
    have hPc := dp_X3s_1 hP
    have hDc := dd_X3s_1 hD
    have hKc := dy_X3s_1 hK
    have hFc := nd_rs hDc hS hA
    have hzA : ∀ q : Nat, H.size ≤ q → A q := fun q h => hA q (Nat.le_trans hS.1 h)
    refine nd_cVv (As := [.int 7, .int (sI s0.2 2)]) (rest := []) (w' := dw_X3c (fun k => a (k + 1)) (fun k => ac (k + 1)) s17) ⟨hx, hb, hml, hown, hts⟩ (fun sz => dm_X3_blame l hlt dC dI (fun k => a (k + 1)) (fun k => ac (k + 1)) n (7) ((sI s0.2 2)) s0.2 hq sz) (cwV 2 hts gi_dm_X3_readLog_2 rfl rfl rfl (by decide +kernel) ⟨Nat.le_of_ble_eq_true rfl, Nat.le_of_ble_eq_true rfl⟩) hPc hDc hKc hS hA hN (va_recv hKc hPc (ci := 4) (q0 := 0) rfl rfl) rfl hl.1 rfl (Nat.le_of_ble_eq_true rfl) dX3_readLog_105 (fun H locs hP1 hD1 hk1 hS => ?_)
    obtain ⟨hP, hD⟩ := dn_X3s_1 hP hD hzA hk1 hP1 hD1
    obtain ⟨s19, es19, h⟩ := nd_let_e h
    have hP : va_P (dC, dI) vwCl (dw_X3s a ac s19) H := by rw [es19]; exact hP
    have hD : va_D A (dw_X3s a ac s19) := by rw [es19]; exact hD
    exact (db_X3_readLog_108 C K)  s19 _ _ _ h hP hD hS (lv_sub hl [0] rfl)
set_option maxHeartbeats 40000000 in
set_option maxRecDepth 100000 in
theorem dB_X3_readLog_54 {p : Program} {l : Launch} {e : Env} {s : State} {m : MethodId} {args : Array Value} {below : List Frame} {meth : Method} {c : Code} {Q : State → Prop} {A : Nat → Prop} {dC : Nat → ClassId} {dI : Nat → Nat → Nat} {a : Nat → Nat} {ac : Nat → ClassId} {n : Nat} {r : Int32 × (St × (St))} (C : nd_C p l s m args c A (dC, dI) cX3_readLog 6 RX3 ow_dm_X3_readLog (dk_X3s ac)) (K : nd_Ki p l e (headSpec ow_dm_X3_readLog ({ frames := 5, cells := 0, slots := 0, locals := 127 })).room s m args below meth c Q A (dC, dI) cX3_readLog .int (St × (St)) (dw_X3s a ac) r) {g54 : Int64 → Int32 → (St × (St)) → Option (Int32 × (St × (St)))} (J54 : dj_X3_readLog_54 p l e s m args below meth c Q A dC dI a ac g54 r) : dj_X3_readLog_54 p l e s m args below meth c Q A dC dI a ac (dF_X3_readLog_54 n (a 0) g54) r := by
  obtain ⟨hlt, hx, hb, hml, hown, hts, hN, hA, hK⟩ := id C
  intro x3 x5 s0 H locs ls h hP hD hS hl
  unfold dF_X3_readLog_54 at h
  refine lv_iload hx hb dX3_readLog_54 (lv_at hl 2 rfl) ?_
  refine lv_if_le (tgt := 87) hx hb dX3_readLog_56 (by decide) (fun c13 => ?_) (fun c13 => ?_)
  · have h := nd_pos h c13
    exact (db_X3_readLog_87 C K)  s0 _ _ _ h hP hD hS (lv_sub hl [0] rfl)
  · have h := nd_neg h c13
    refine lv_aload_n hx hb dX3_readLog_59 rfl (lv_at hl 0 rfl) ?_
    refine va_get (D := (dC, dI)) (ci := 4) (v := .int (sI s0.2 4)) (C := RX3) (T := TX3) (N := 11) hx hb hts hi_dm_X3_readLog_X3 hown hK hP 1 rfl rfl 9 (by decide) (hts (.fieldLink RX3 95 "TimeMachine$Events" "fault" "I") (List.mem_of_getElem? (i := 8) rfl)) (fun _ h9 => h9) rfl dX3_readLog_60 ?_
    refine lv_if_ne (tgt := 87) hx hb dX3_readLog_63 (by decide) (fun c20 => ?_) (fun c20 => ?_)
    · have h := nd_neg h c20
      exact (db_X3_readLog_87 C K)  s0 _ _ _ h hP hD hS (lv_sub hl [0] rfl)
    · have h := nd_pos h c20
      refine lv_aload_n hx hb dX3_readLog_66 rfl (lv_at hl 0 rfl) ?_
      refine va_get (D := (dC, dI)) (ci := 4) (v := .int (sI s0.2 1)) (C := RX3) (T := TX3) (N := 11) hx hb hts hi_dm_X3_readLog_X3 hown hK hP 1 rfl rfl 5 (by decide) (hts (.fieldLink RX3 39 "TimeMachine$Events" "total" "I") (List.mem_of_getElem? (i := 18) rfl)) (fun _ h9 => h9) rfl dX3_readLog_67 ?_
      refine lv_i2l hx hb dX3_readLog_70 rfl ?_
      refine lv_lload_n hx hb dX3_readLog_71 rfl (lv_at hl 1 rfl) ?_
      refine W.lcmp hx hb dX3_readLog_72 ?_
      refine lv_if_ge (tgt := 87) hx hb dX3_readLog_73 (by decide) (fun c21 => ?_) (fun c21 => ?_)
      · have h := nd_pos h c21
        exact (db_X3_readLog_87 C K)  s0 _ _ _ h hP hD hS (lv_sub hl [0] rfl)
      · have h := nd_neg h c21
        refine lv_aload_n hx hb dX3_readLog_76 rfl (lv_at hl 0 rfl) ?_
        refine lv_lload_n hx hb dX3_readLog_77 rfl (lv_at hl 1 rfl) ?_
        obtain ⟨s23, hq, h⟩ := nd_b1_e h
        have hPc := hP
        have hDc := hD
        have hKc := hK
        have hFc := nd_rs hD hS hA
        refine nd_cVv (As := [.long x3]) (rest := []) (w' := dw_X3s a ac s23) ⟨hx, hb, hml, hown, hts⟩ (fun sz => dm_X3_readEntry l hlt dC dI a ac n (x3) s0 hq sz) (cwV 1 hts gi_dm_X3_readLog_3 rfl rfl rfl (by decide +kernel) ⟨Nat.le_of_ble_eq_true rfl, Nat.le_of_ble_eq_true rfl⟩) hPc hDc hKc hS hA hN (va_recv hKc hPc (ci := 4) (q0 := 1) rfl rfl) rfl hl.1 rfl (Nat.le_of_ble_eq_true rfl) dX3_readLog_78 (fun H locs hP1 hD1 hk1 hS => ?_)
        have hP := hP1
        have hD := hD1.weaken (fun k q _ h => hFc q.1 h)
        obtain ⟨z25, ez25, h⟩ := nd_let_e h
        refine lv_iinc (v := z25) (lv' := [(5, .int z25), (0, .ref (a 1)), (3, .long x3)]) hx hb dX3_readLog_81 hl (k := 2) rfl (by rw [ez25]) (by decide) rfl (fun ls hl => ?_)
        refine lv_goto (tgt := 54) hx hb dX3_readLog_84 (by decide) ?_
        exact (J54) (x3) (z25) s23 _ _ _ h hP hD hS (lv_sub hl [1, 2, 0] rfl)
set_option maxHeartbeats 40000000 in
set_option maxRecDepth 100000 in
theorem db_X3_readLog_54 {p : Program} {l : Launch} {e : Env} {s : State} {m : MethodId} {args : Array Value} {below : List Frame} {meth : Method} {c : Code} {Q : State → Prop} {A : Nat → Prop} {dC : Nat → ClassId} {dI : Nat → Nat → Nat} {a : Nat → Nat} {ac : Nat → ClassId} {n : Nat} {r : Int32 × (St × (St))} (C : nd_C p l s m args c A (dC, dI) cX3_readLog 6 RX3 ow_dm_X3_readLog (dk_X3s ac)) (K : nd_Ki p l e (headSpec ow_dm_X3_readLog ({ frames := 5, cells := 0, slots := 0, locals := 127 })).room s m args below meth c Q A (dC, dI) cX3_readLog .int (St × (St)) (dw_X3s a ac) r) (k : Nat) : dj_X3_readLog_54 p l e s m args below meth c Q A dC dI a ac (df_X3_readLog_54 n (a 0) k) r := by
  induction k with
  | zero => intro x3 x5 s0 H locs ls h; exact nomatch (show (none : Option (Int32 × (St × (St)))) = some r from h)
  | succ k ih => exact dB_X3_readLog_54 C K ih
set_option maxHeartbeats 40000000 in
set_option maxRecDepth 100000 in
theorem db_X3_readLog_49 {p : Program} {l : Launch} {e : Env} {s : State} {m : MethodId} {args : Array Value} {below : List Frame} {meth : Method} {c : Code} {Q : State → Prop} {A : Nat → Prop} {dC : Nat → ClassId} {dI : Nat → Nat → Nat} {a : Nat → Nat} {ac : Nat → ClassId} {n : Nat} {r : Int32 × (St × (St))} (C : nd_C p l s m args c A (dC, dI) cX3_readLog 6 RX3 ow_dm_X3_readLog (dk_X3s ac)) (K : nd_Ki p l e (headSpec ow_dm_X3_readLog ({ frames := 5, cells := 0, slots := 0, locals := 127 })).room s m args below meth c Q A (dC, dI) cX3_readLog .int (St × (St)) (dw_X3s a ac) r) : dj_X3_readLog_49 p l e s m args below meth c Q A dC dI a ac (df_X3_readLog_49 n (a 0)) r := by
  obtain ⟨hlt, hx, hb, hml, hown, hts, hN, hA, hK⟩ := id C
  intro x3 s0 H locs ls h hP hD hS hl
  unfold df_X3_readLog_49 at h
  refine lv_sipush (v := 2048) hx hb dX3_readLog_49 (by decide) ?_
  refine lv_istore (lv' := [(5, .int 2048), (0, .ref (a 1)), (3, .long x3)]) hx hb dX3_readLog_52 hl (by decide) rfl (fun ls hl => ?_)
  exact (db_X3_readLog_54 C K n) (x3) (2048) s0 _ _ _ h hP hD hS (lv_sub hl [1, 2, 0] rfl)
set_option maxHeartbeats 40000000 in
set_option maxRecDepth 100000 in
theorem db_X3_readLog_0 {p : Program} {l : Launch} {e : Env} {s : State} {m : MethodId} {args : Array Value} {below : List Frame} {meth : Method} {c : Code} {Q : State → Prop} {A : Nat → Prop} {dC : Nat → ClassId} {dI : Nat → Nat → Nat} {a : Nat → Nat} {ac : Nat → ClassId} {n : Nat} {r : Int32 × (St × (St))} (C : nd_C p l s m args c A (dC, dI) cX3_readLog 6 RX3 ow_dm_X3_readLog (dk_X3s ac)) (K : nd_Ki p l e (headSpec ow_dm_X3_readLog ({ frames := 5, cells := 0, slots := 0, locals := 127 })).room s m args below meth c Q A (dC, dI) cX3_readLog .int (St × (St)) (dw_X3s a ac) r) : dj_X3_readLog_0 p l e s m args below meth c Q A dC dI a ac (df_X3_readLog_0 n (a 0)) r := by
  obtain ⟨hlt, hx, hb, hml, hown, hts, hN, hA, hK⟩ := id C
  intro v1 s0 H locs ls h hP hD hS hl
  unfold df_X3_readLog_0 at h
  refine lv_aload_n hx hb dX3_readLog_0 rfl (lv_at hl 0 rfl) ?_
  refine lv_aload_n hx hb dX3_readLog_1 rfl (lv_at hl 1 rfl) ?_
  refine va_put (D := (dC, dI)) (ci := 4) (v := .ref (a 0)) (ty := .array .byte) (C := RX3) (T := TX3) (N := 11) hx hb hts hi_dm_X3_readLog_X3 tyX3 tyX3_ok nmX3 hown hK hP hD hS 1 rfl rfl 6 (by decide) (hts (.fieldLink RX3 23 "TimeMachine$Events" "row" "[B") (List.mem_of_getElem? (i := 1) rfl)) (fun _ h9 => h9) rfl (by decide +kernel) rfl rfl (Nat.le_of_ble_eq_true rfl) dX3_readLog_2 (fun H locs hP hD hS => ?_)
  obtain ⟨s1, es1, h⟩ := nd_let_e h
  have hP : va_P (dC, dI) vwCl (dw_X3s a ac s1) H := by rw [es1]; exact hP
  have hD : va_D A (dw_X3s a ac s1) := by rw [es1]; exact hD
  refine lv_aload_n hx hb dX3_readLog_5 rfl (lv_at hl 0 rfl) ?_
  refine lv_iload_n hx hb dX3_readLog_6 rfl (lv_at hl 2 rfl) ?_
  refine lv_aload_n hx hb dX3_readLog_7 rfl (lv_at hl 1 rfl) ?_
  refine va_alen (v := 32768) hx hb hK hP 0 0 rfl rfl (show Int32.ofNat 32768 = 32768 by decide) dX3_readLog_8 ?_
  refine va_mmin hx hb (by rw [hml]; exact hl.1.symm) hown (hts (.methodLink RX3 86 Lib.Math.min.name) (List.mem_of_getElem? (i := 2) rfl)) (hts (.static Lib.Math.min.name) (List.mem_of_getElem? (i := 3) rfl)) (hts (.initialized "java/lang/Math") (List.mem_of_getElem? (i := 4) rfl)) (hts (.code Lib.Math.min.name Lib.Math.min.code 2 (some .int)) (List.mem_of_getElem? (i := 5) rfl)) (Nat.le_of_ble_eq_true rfl) (Nat.le_of_ble_eq_true rfl) (by decide +kernel) (by decide +kernel) dX3_readLog_9 ?_
  refine va_put (D := (dC, dI)) (ci := 4) (v := .int (if (32768 : Int32) < v1 then 32768 else v1)) (ty := .int) (C := RX3) (T := TX3) (N := 11) hx hb hts hi_dm_X3_readLog_X3 tyX3 tyX3_ok nmX3 hown hK hP hD hS 1 rfl rfl 8 (by decide) (hts (.fieldLink RX3 92 "TimeMachine$Events" "stop" "I") (List.mem_of_getElem? (i := 6) rfl)) (fun _ h9 => h9) rfl (by decide +kernel) rfl rfl (Nat.le_of_ble_eq_true rfl) dX3_readLog_12 (fun H locs hP hD hS => ?_)
  obtain ⟨s2, es2, h⟩ := nd_let_e h
  have hP : va_P (dC, dI) vwCl (dw_X3s a ac s2) H := by rw [es2]; exact hP
  have hD : va_D A (dw_X3s a ac s2) := by rw [es2]; exact hD
  refine lv_aload_n hx hb dX3_readLog_15 rfl (lv_at hl 0 rfl) ?_
  refine lv_iconst (v := 0) hx hb dX3_readLog_16 (by decide) ?_
  refine va_put (D := (dC, dI)) (ci := 4) (v := .int 0) (ty := .int) (C := RX3) (T := TX3) (N := 11) hx hb hts hi_dm_X3_readLog_X3 tyX3 tyX3_ok nmX3 hown hK hP hD hS 1 rfl rfl 7 (by decide) (hts (.fieldLink RX3 44 "TimeMachine$Events" "place" "I") (List.mem_of_getElem? (i := 7) rfl)) (fun _ h9 => h9) rfl (by decide +kernel) rfl rfl (Nat.le_of_ble_eq_true rfl) dX3_readLog_17 (fun H locs hP hD hS => ?_)
  obtain ⟨s3, es3, h⟩ := nd_let_e h
  have hP : va_P (dC, dI) vwCl (dw_X3s a ac s3) H := by rw [es3]; exact hP
  have hD : va_D A (dw_X3s a ac s3) := by rw [es3]; exact hD
  refine lv_aload_n hx hb dX3_readLog_20 rfl (lv_at hl 0 rfl) ?_
  refine lv_iconst (v := 0) hx hb dX3_readLog_21 (by decide) ?_
  refine va_put (D := (dC, dI)) (ci := 4) (v := .int 0) (ty := .int) (C := RX3) (T := TX3) (N := 11) hx hb hts hi_dm_X3_readLog_X3 tyX3 tyX3_ok nmX3 hown hK hP hD hS 1 rfl rfl 9 (by decide) (hts (.fieldLink RX3 95 "TimeMachine$Events" "fault" "I") (List.mem_of_getElem? (i := 8) rfl)) (fun _ h9 => h9) rfl (by decide +kernel) rfl rfl (Nat.le_of_ble_eq_true rfl) dX3_readLog_22 (fun H locs hP hD hS => ?_)
  obtain ⟨s4, es4, h⟩ := nd_let_e h
  have hP : va_P (dC, dI) vwCl (dw_X3s a ac s4) H := by rw [es4]; exact hP
  have hD : va_D A (dw_X3s a ac s4) := by rw [es4]; exact hD
  refine lv_aload_n hx hb dX3_readLog_25 rfl (lv_at hl 0 rfl) ?_
  obtain ⟨s6, hq, h⟩ := nd_b1_e h
  have hPc := dp_X3s_1 hP
  have hDc := dd_X3s_1 hD
  have hKc := dy_X3s_1 hK
  have hFc := nd_rs hDc hS hA
  have hzA : ∀ q : Nat, H.size ≤ q → A q := fun q h => hA q (Nat.le_trans hS.1 h)
  refine nd_cVv (As := []) (rest := []) (w' := dw_X3c (fun k => a (k + 1)) (fun k => ac (k + 1)) s6) ⟨hx, hb, hml, hown, hts⟩ (fun sz => dm_X3_clear l hlt dC dI (fun k => a (k + 1)) (fun k => ac (k + 1)) n  s4.2 hq sz) (cwV 0 hts gi_dm_X3_readLog_0 rfl rfl rfl (by decide +kernel) ⟨Nat.le_of_ble_eq_true rfl, Nat.le_of_ble_eq_true rfl⟩) hPc hDc hKc hS hA hN (va_recv hKc hPc (ci := 4) (q0 := 0) rfl rfl) rfl hl.1 rfl (Nat.le_of_ble_eq_true rfl) dX3_readLog_26 (fun H locs hP1 hD1 hk1 hS => ?_)
  obtain ⟨hP, hD⟩ := dn_X3s_1 hP hD hzA hk1 hP1 hD1
  obtain ⟨s8, es8, h⟩ := nd_let_e h
  have hP : va_P (dC, dI) vwCl (dw_X3s a ac s8) H := by rw [es8]; exact hP
  have hD : va_D A (dw_X3s a ac s8) := by rw [es8]; exact hD
  refine lv_aload_n hx hb dX3_readLog_29 rfl (lv_at hl 0 rfl) ?_
  obtain ⟨q9, s10, hq, h⟩ := nd_b2_e h
  have hPc := hP
  have hDc := hD
  have hKc := hK
  have hFc := nd_rs hD hS hA
  refine nd_cVl (As := []) (rest := []) (q := q9) (w' := dw_X3s a ac s10) ⟨hx, hb, hml, hown, hts⟩ (fun sz => dm_X3_readVarint l hlt dC dI a ac n  s8 hq sz) (cwV 0 hts gi_dm_X3_readLog_1 rfl rfl rfl (by decide +kernel) ⟨Nat.le_of_ble_eq_true rfl, Nat.le_of_ble_eq_true rfl⟩) hPc hDc hKc hS hA hN (va_recv hKc hPc (ci := 4) (q0 := 1) rfl rfl) rfl hl.1 rfl (Nat.le_of_ble_eq_true rfl) dX3_readLog_30 (fun H locs hP1 hD1 hk1 hS => ?_)
  have hP := hP1
  have hD := hD1.weaken (fun k q _ h => hFc q.1 h)
  refine lv_lstore_n (lv' := [(3, .long q9), (0, .ref (a 1)), (1, .ref (a 0)), (2, .int v1)]) hx hb dX3_readLog_33 rfl hl (by decide) rfl (fun ls hl => ?_)
  refine lv_lload_n hx hb dX3_readLog_34 rfl (lv_at hl 0 rfl) ?_
  refine lv_ldc2 hx hb hown (hts (.constantLong RX3 105 (2048)) (List.mem_of_getElem? (i := 16) rfl)) dX3_readLog_35 ?_
  refine W.lcmp hx hb dX3_readLog_38 ?_
  refine lv_if_le (tgt := 49) hx hb dX3_readLog_39 (by decide) (fun c12 => ?_) (fun c12 => ?_)
  · have h := nd_pos h c12
    exact (db_X3_readLog_49 C K) (q9) s10 _ _ _ h hP hD hS (lv_sub hl [1, 0] rfl)
  · have h := nd_neg h c12
    refine lv_aload_n hx hb dX3_readLog_42 rfl (lv_at hl 1 rfl) ?_
    refine lv_bipush (v := 6) hx hb dX3_readLog_43 (by decide) ?_
    refine lv_iconst (v := 0) hx hb dX3_readLog_45 (by decide) ?_
    obtain ⟨s27, hq, h⟩ := nd_b1_e h
    have hPc := dp_X3s_1 hP
    have hDc := dd_X3s_1 hD
    have hKc := dy_X3s_1 hK
    have hFc := nd_rs hDc hS hA
    have hzA : ∀ q : Nat, H.size ≤ q → A q := fun q h => hA q (Nat.le_trans hS.1 h)
    refine nd_cVv (As := [.int 6, .int 0]) (rest := []) (w' := dw_X3c (fun k => a (k + 1)) (fun k => ac (k + 1)) s27) ⟨hx, hb, hml, hown, hts⟩ (fun sz => dm_X3_blame l hlt dC dI (fun k => a (k + 1)) (fun k => ac (k + 1)) n (6) (0) s10.2 hq sz) (cwV 2 hts gi_dm_X3_readLog_2 rfl rfl rfl (by decide +kernel) ⟨Nat.le_of_ble_eq_true rfl, Nat.le_of_ble_eq_true rfl⟩) hPc hDc hKc hS hA hN (va_recv hKc hPc (ci := 4) (q0 := 0) rfl rfl) rfl hl.1 rfl (Nat.le_of_ble_eq_true rfl) dX3_readLog_46 (fun H locs hP1 hD1 hk1 hS => ?_)
    obtain ⟨hP, hD⟩ := dn_X3s_1 hP hD hzA hk1 hP1 hD1
    obtain ⟨s29, es29, h⟩ := nd_let_e h
    have hP : va_P (dC, dI) vwCl (dw_X3s a ac s29) H := by rw [es29]; exact hP
    have hD : va_D A (dw_X3s a ac s29) := by rw [es29]; exact hD
    exact (db_X3_readLog_49 C K) (q9) s29 _ _ _ h hP hD hS (lv_sub hl [1, 0] rfl)
set_option maxHeartbeats 40000000 in
set_option maxRecDepth 100000 in
theorem dm_X3_readLog (l : Launch) (hlt : l.stackTraces = false) (dC : Nat → ClassId) (dI : Nat → Nat → Nat) (a : Nat → Nat) (ac : Nat → ClassId) (n : Nat) (v1 : Int32) (s0 : St × (St)) {r : Int32 × (St × (St))} (h : df_X3_readLog n (a 0) v1 s0 = some r) (sz : Nat) : Met l yX3_readLog ow_dm_X3_readLog ({ frames := 5, cells := 0, slots := 0, locals := 127 }) (va_Pc [.ref (a 1), .ref (a 0), .int v1] (fun U => U.heap.size = sz ∧ va_P (dC, dI) vwCl (dw_X3s a ac s0) U.heap ∧ va_K (dC, dI) vwCl (dk_X3s ac) U ∧ va_D (fun _ => True) (dw_X3s a ac s0) ∧ nv_E (va_A (dw_X3s a ac s0) sz) U)) (va_Qi (fun x _ => x = r.1) (fun (_ : Unit) t => va_P (dC, dI) vwCl (dw_X3s a ac r.2) t.heap ∧ va_K (dC, dI) vwCl (dk_X3s ac) t ∧ va_D (va_A (dw_X3s a ac s0) sz) (dw_X3s a ac r.2)) (va_A (dw_X3s a ac s0) sz)) 0 0 (va_A (dw_X3s a ac s0) sz) := by
  refine Met.ofW (cc := cX3_readLog) (maxL := 6) (ret := (some .int)) (by decide) rfl ?_
  intro p e s m args below meth c s₁ B hml hv
  obtain ⟨rfl, hsz, hP, hK, hD0, hN⟩ := hv
  have hx := B.exec
  have hb := B.bytes
  have hr := B.returns
  have hts := atoms_spec (ws := ow_dm_X3_readLog) B.pre
  have hown : s.vm.findClass RX3 = some m.cls := findClass_of_methodNamed B.named
  have hlocks := B.notSynchronized
  subst hsz
  have hD := hD0.self (sz := s.heap.size)
  generalize hAe : va_A (dw_X3s a ac s0) s.heap.size = A at hD hN ⊢
  have hA : ∀ q : Nat, s.heap.size ≤ q → A q := fun q h => by rw [← hAe]; exact Or.inr h
  have hl := lv_entry ([.ref (a 1), .ref (a 0), .int v1]) (n := 6) (Nat.le_of_ble_eq_true rfl)
  rw [lg_entry_eq]
  generalize (lg_sl ([.ref (a 1), .ref (a 0), .int v1]) ++ List.replicate (6 - (lg_sl ([.ref (a 1), .ref (a 0), .int v1])).length) Slot.unset).toArray = ls at hl ⊢
  have hl : lv_has ls 6 [(0, .ref (a 1)), (1, .ref (a 0)), (2, .int v1)] := hl
  exact db_X3_readLog_0 (dC := dC) (dI := dI) (a := a) (ac := ac) (n := n) (r := r) ⟨hlt, hx, hb, hml, hown, hts, hN, hA, hK⟩ (fun pc v τ H locs ls d z er hP hD hS => by subst er; exact W.zret (v := v) hx hb hr z (fun t ht hW => ⟨⟨v, (), rfl, rfl, by rw [ht]; exact hP, va_K.moved hW.alike hK, hD⟩, hS.F ht⟩) hS.2.2 d) v1 s0 _ _ _ h hP hD va_S.rf (lv_sub hl [0, 1, 2] rfl)
def ow_dm_X7_isTarget : List Cond := .code yX7_isTarget cX7_isTarget 1 (some .boolean) :: ([] ++ [])
theorem gd_dm_X7_isTarget : ∀ w ∈ ow_dm_X7_isTarget, (w.onTables && w.keeps) = true ∨ ∃ ty, w = Cond.arrayClass ty := List.forall_mem_cons.mpr ⟨good_of_word rfl, List.forall_mem_append.mpr ⟨fun w h => good_of_word (List.all_eq_true.mp (by decide +kernel) w h), fun _ h => nomatch h⟩⟩
def dj_X7_isTarget_29 (p : Program) (l : Launch) (e : Env) (s : State) (m : MethodId) (args : Array Value) (below : List Frame) (meth : Method) (c : Code) (Q : State → Prop) (A : Nat → Prop) (dC : Nat → ClassId) (dI : Nat → Nat → Nat) (a : Nat → Nat) (ac : Nat → ClassId) (g : Int32 → (Unit) → Option (Int32 × (Unit))) (r : Int32 × (Unit)) : Prop := ∀ (y0 : Int32) (s0 : Unit) (H : Heap) (locs : List Loc) (ls : Array Slot), g y0 s0 = some r → va_P (dC, dI) vwCl (dw_P a ac s0) H → va_D A (dw_P a ac s0) → va_S A s.heap H locs → lv_has ls 1 [] → W p l e (headSpec ow_dm_X7_isTarget ({ frames := 0, cells := 0, slots := 0, locals := 0 })).room s m args below meth c H locs 0 0 Q (F0 m 29 ls [.int y0])
def dj_X7_isTarget_24 (p : Program) (l : Launch) (e : Env) (s : State) (m : MethodId) (args : Array Value) (below : List Frame) (meth : Method) (c : Code) (Q : State → Prop) (A : Nat → Prop) (dC : Nat → ClassId) (dI : Nat → Nat → Nat) (a : Nat → Nat) (ac : Nat → ClassId) (g : (Unit) → Option (Int32 × (Unit))) (r : Int32 × (Unit)) : Prop := ∀ (s0 : Unit) (H : Heap) (locs : List Loc) (ls : Array Slot), g s0 = some r → va_P (dC, dI) vwCl (dw_P a ac s0) H → va_D A (dw_P a ac s0) → va_S A s.heap H locs → lv_has ls 1 [] → W p l e (headSpec ow_dm_X7_isTarget ({ frames := 0, cells := 0, slots := 0, locals := 0 })).room s m args below meth c H locs 0 0 Q (F0 m 24 ls [])
def dj_X7_isTarget_0 (p : Program) (l : Launch) (e : Env) (s : State) (m : MethodId) (args : Array Value) (below : List Frame) (meth : Method) (c : Code) (Q : State → Prop) (A : Nat → Prop) (dC : Nat → ClassId) (dI : Nat → Nat → Nat) (a : Nat → Nat) (ac : Nat → ClassId) (g : Int32 → (Unit) → Option (Int32 × (Unit))) (r : Int32 × (Unit)) : Prop := ∀ (v0 : Int32) (s0 : Unit) (H : Heap) (locs : List Loc) (ls : Array Slot), g v0 s0 = some r → va_P (dC, dI) vwCl (dw_P a ac s0) H → va_D A (dw_P a ac s0) → va_S A s.heap H locs → lv_has ls 1 [(0, .int v0)] → W p l e (headSpec ow_dm_X7_isTarget ({ frames := 0, cells := 0, slots := 0, locals := 0 })).room s m args below meth c H locs 0 0 Q (F0 m 0 ls [])
set_option maxHeartbeats 40000000 in
set_option maxRecDepth 100000 in
theorem db_X7_isTarget_29 {p : Program} {l : Launch} {e : Env} {s : State} {m : MethodId} {args : Array Value} {below : List Frame} {meth : Method} {c : Code} {Q : State → Prop} {A : Nat → Prop} {dC : Nat → ClassId} {dI : Nat → Nat → Nat} {a : Nat → Nat} {ac : Nat → ClassId} {n : Nat} {r : Int32 × (Unit)} (C : nd_C p l s m args c A (dC, dI) cX7_isTarget 1 RX7 ow_dm_X7_isTarget (dk_P ac)) (K : nd_Ki p l e (headSpec ow_dm_X7_isTarget ({ frames := 0, cells := 0, slots := 0, locals := 0 })).room s m args below meth c Q A (dC, dI) cX7_isTarget .boolean (Unit) (dw_P a ac) r) : dj_X7_isTarget_29 p l e s m args below meth c Q A dC dI a ac (df_X7_isTarget_29 n) r := by
  obtain ⟨hlt, hx, hb, hml, hown, hts, hN, hA, hK⟩ := id C
  intro y0 s0 H locs ls h hP hD hS hl
  unfold df_X7_isTarget_29 at h
  obtain ⟨n2, h⟩ := nd_z_e ⟨_, rfl⟩ h
  exact K _ _ _ _ _ _ dX7_isTarget_29 n2 (Option.some.inj h).symm hP hD hS
set_option maxHeartbeats 40000000 in
set_option maxRecDepth 100000 in
theorem db_X7_isTarget_24 {p : Program} {l : Launch} {e : Env} {s : State} {m : MethodId} {args : Array Value} {below : List Frame} {meth : Method} {c : Code} {Q : State → Prop} {A : Nat → Prop} {dC : Nat → ClassId} {dI : Nat → Nat → Nat} {a : Nat → Nat} {ac : Nat → ClassId} {n : Nat} {r : Int32 × (Unit)} (C : nd_C p l s m args c A (dC, dI) cX7_isTarget 1 RX7 ow_dm_X7_isTarget (dk_P ac)) (K : nd_Ki p l e (headSpec ow_dm_X7_isTarget ({ frames := 0, cells := 0, slots := 0, locals := 0 })).room s m args below meth c Q A (dC, dI) cX7_isTarget .boolean (Unit) (dw_P a ac) r) : dj_X7_isTarget_24 p l e s m args below meth c Q A dC dI a ac (df_X7_isTarget_24 n) r := by
  obtain ⟨hlt, hx, hb, hml, hown, hts, hN, hA, hK⟩ := id C
  intro s0 H locs ls h hP hD hS hl
  unfold df_X7_isTarget_24 at h
  refine lv_iconst (v := 1) hx hb dX7_isTarget_24 (by decide) ?_
  refine lv_goto (tgt := 29) hx hb dX7_isTarget_25 (by decide) ?_
  exact (db_X7_isTarget_29 C K) (1) s0 _ _ _ h hP hD hS (lv_sub hl [] rfl)
set_option maxHeartbeats 40000000 in
set_option maxRecDepth 100000 in
theorem db_X7_isTarget_0 {p : Program} {l : Launch} {e : Env} {s : State} {m : MethodId} {args : Array Value} {below : List Frame} {meth : Method} {c : Code} {Q : State → Prop} {A : Nat → Prop} {dC : Nat → ClassId} {dI : Nat → Nat → Nat} {a : Nat → Nat} {ac : Nat → ClassId} {n : Nat} {r : Int32 × (Unit)} (C : nd_C p l s m args c A (dC, dI) cX7_isTarget 1 RX7 ow_dm_X7_isTarget (dk_P ac)) (K : nd_Ki p l e (headSpec ow_dm_X7_isTarget ({ frames := 0, cells := 0, slots := 0, locals := 0 })).room s m args below meth c Q A (dC, dI) cX7_isTarget .boolean (Unit) (dw_P a ac) r) : dj_X7_isTarget_0 p l e s m args below meth c Q A dC dI a ac (df_X7_isTarget_0 n) r := by
  obtain ⟨hlt, hx, hb, hml, hown, hts, hN, hA, hK⟩ := id C
  intro v0 s0 H locs ls h hP hD hS hl
  unfold df_X7_isTarget_0 at h
  refine lv_iload_n hx hb dX7_isTarget_0 rfl (lv_at hl 0 rfl) ?_
  refine lv_bipush (v := 84) hx hb dX7_isTarget_1 (by decide) ?_
  refine lv_icmp_eq (tgt := 24) hx hb dX7_isTarget_3 (by decide) (fun c1 => ?_) (fun c1 => ?_)
  · have h := nd_pos h c1
    exact (db_X7_isTarget_24 C K)  s0 _ _ _ h hP hD hS (lv_sub hl [] rfl)
  · have h := nd_neg h c1
    refine lv_iload_n hx hb dX7_isTarget_6 rfl (lv_at hl 0 rfl) ?_
    refine lv_bipush (v := 74) hx hb dX7_isTarget_7 (by decide) ?_
    refine lv_icmp_eq (tgt := 24) hx hb dX7_isTarget_9 (by decide) (fun c3 => ?_) (fun c3 => ?_)
    · have h := nd_pos h c3
      exact (db_X7_isTarget_24 C K)  s0 _ _ _ h hP hD hS (lv_sub hl [] rfl)
    · have h := nd_neg h c3
      refine lv_iload_n hx hb dX7_isTarget_12 rfl (lv_at hl 0 rfl) ?_
      refine lv_bipush (v := 75) hx hb dX7_isTarget_13 (by decide) ?_
      refine lv_icmp_eq (tgt := 24) hx hb dX7_isTarget_15 (by decide) (fun c4 => ?_) (fun c4 => ?_)
      · have h := nd_pos h c4
        exact (db_X7_isTarget_24 C K)  s0 _ _ _ h hP hD hS (lv_sub hl [] rfl)
      · have h := nd_neg h c4
        refine lv_iload_n hx hb dX7_isTarget_18 rfl (lv_at hl 0 rfl) ?_
        refine lv_bipush (v := 76) hx hb dX7_isTarget_19 (by decide) ?_
        refine lv_icmp_ne (tgt := 28) hx hb dX7_isTarget_21 (by decide) (fun c5 => ?_) (fun c5 => ?_)
        · have h := nd_neg h c5
          refine lv_iconst (v := 0) hx hb dX7_isTarget_28 (by decide) ?_
          exact (db_X7_isTarget_29 C K) (0) s0 _ _ _ h hP hD hS (lv_sub hl [] rfl)
        · have h := nd_pos h c5
          exact (db_X7_isTarget_24 C K)  s0 _ _ _ h hP hD hS (lv_sub hl [] rfl)
set_option maxHeartbeats 40000000 in
set_option maxRecDepth 100000 in
theorem dm_X7_isTarget (l : Launch) (hlt : l.stackTraces = false) (dC : Nat → ClassId) (dI : Nat → Nat → Nat) (a : Nat → Nat) (ac : Nat → ClassId) (n : Nat) (v0 : Int32) (s0 : Unit) {r : Int32 × (Unit)} (h : df_X7_isTarget n v0 s0 = some r) (sz : Nat) : Met l yX7_isTarget ow_dm_X7_isTarget ({ frames := 0, cells := 0, slots := 0, locals := 0 }) (va_Pc [.int v0] (fun U => U.heap.size = sz ∧ va_P (dC, dI) vwCl (dw_P a ac s0) U.heap ∧ va_K (dC, dI) vwCl (dk_P ac) U ∧ va_D (fun _ => True) (dw_P a ac s0) ∧ nv_E (va_A (dw_P a ac s0) sz) U)) (va_Qi (fun x _ => x = r.1) (fun (_ : Unit) t => va_P (dC, dI) vwCl (dw_P a ac r.2) t.heap ∧ va_K (dC, dI) vwCl (dk_P ac) t ∧ va_D (va_A (dw_P a ac s0) sz) (dw_P a ac r.2)) (va_A (dw_P a ac s0) sz)) 0 0 (va_A (dw_P a ac s0) sz) := by
  refine Met.ofW (cc := cX7_isTarget) (maxL := 1) (ret := (some .boolean)) (by decide) rfl ?_
  intro p e s m args below meth c s₁ B hml hv
  obtain ⟨rfl, hsz, hP, hK, hD0, hN⟩ := hv
  have hx := B.exec
  have hb := B.bytes
  have hr := B.returns
  have hts := atoms_spec (ws := ow_dm_X7_isTarget) B.pre
  have hown : s.vm.findClass RX7 = some m.cls := findClass_of_methodNamed B.named
  have hlocks := B.notSynchronized
  subst hsz
  have hD := hD0.self (sz := s.heap.size)
  generalize hAe : va_A (dw_P a ac s0) s.heap.size = A at hD hN ⊢
  have hA : ∀ q : Nat, s.heap.size ≤ q → A q := fun q h => by rw [← hAe]; exact Or.inr h
  have hl := lv_entry ([.int v0]) (n := 1) (Nat.le_of_ble_eq_true rfl)
  rw [lg_entry_eq]
  generalize (lg_sl ([.int v0]) ++ List.replicate (1 - (lg_sl ([.int v0])).length) Slot.unset).toArray = ls at hl ⊢
  have hl : lv_has ls 1 [(0, .int v0)] := hl
  exact db_X7_isTarget_0 (dC := dC) (dI := dI) (a := a) (ac := ac) (n := n) (r := r) ⟨hlt, hx, hb, hml, hown, hts, hN, hA, hK⟩ (fun pc v τ H locs ls d z er hP hD hS => by subst er; exact W.zret (v := v) hx hb hr z (fun t ht hW => ⟨⟨v, (), rfl, rfl, by rw [ht]; exact hP, va_K.moved hW.alike hK, hD⟩, hS.F ht⟩) hS.2.2 d) v0 s0 _ _ _ h hP hD va_S.rf (lv_sub hl [0] rfl)
def ow_dm_X7_fits : List Cond := .code yX7_fits cX7_fits 2 (some .boolean) :: ([.constant RX7 464 (-1048576), .constant RX7 465 (1048574), .constant RX7 463 (1048575)] ++ [])
theorem gd_dm_X7_fits : ∀ w ∈ ow_dm_X7_fits, (w.onTables && w.keeps) = true ∨ ∃ ty, w = Cond.arrayClass ty := List.forall_mem_cons.mpr ⟨good_of_word rfl, List.forall_mem_append.mpr ⟨fun w h => good_of_word (List.all_eq_true.mp (by decide +kernel) w h), fun _ h => nomatch h⟩⟩
def dj_X7_fits_294 (p : Program) (l : Launch) (e : Env) (s : State) (m : MethodId) (args : Array Value) (below : List Frame) (meth : Method) (c : Code) (Q : State → Prop) (A : Nat → Prop) (dC : Nat → ClassId) (dI : Nat → Nat → Nat) (a : Nat → Nat) (ac : Nat → ClassId) (g : Int32 → (Unit) → Option (Int32 × (Unit))) (r : Int32 × (Unit)) : Prop := ∀ (y0 : Int32) (s0 : Unit) (H : Heap) (locs : List Loc) (ls : Array Slot), g y0 s0 = some r → va_P (dC, dI) vwCl (dw_P a ac s0) H → va_D A (dw_P a ac s0) → va_S A s.heap H locs → lv_has ls 2 [] → W p l e (headSpec ow_dm_X7_fits ({ frames := 0, cells := 0, slots := 0, locals := 0 })).room s m args below meth c H locs 0 0 Q (F0 m 294 ls [.int y0])
def dj_X7_fits_293 (p : Program) (l : Launch) (e : Env) (s : State) (m : MethodId) (args : Array Value) (below : List Frame) (meth : Method) (c : Code) (Q : State → Prop) (A : Nat → Prop) (dC : Nat → ClassId) (dI : Nat → Nat → Nat) (a : Nat → Nat) (ac : Nat → ClassId) (g : (Unit) → Option (Int32 × (Unit))) (r : Int32 × (Unit)) : Prop := ∀ (s0 : Unit) (H : Heap) (locs : List Loc) (ls : Array Slot), g s0 = some r → va_P (dC, dI) vwCl (dw_P a ac s0) H → va_D A (dw_P a ac s0) → va_S A s.heap H locs → lv_has ls 2 [] → W p l e (headSpec ow_dm_X7_fits ({ frames := 0, cells := 0, slots := 0, locals := 0 })).room s m args below meth c H locs 0 0 Q (F0 m 293 ls [])
def dj_X7_fits_279 (p : Program) (l : Launch) (e : Env) (s : State) (m : MethodId) (args : Array Value) (below : List Frame) (meth : Method) (c : Code) (Q : State → Prop) (A : Nat → Prop) (dC : Nat → ClassId) (dI : Nat → Nat → Nat) (a : Nat → Nat) (ac : Nat → ClassId) (g : Int32 → (Unit) → Option (Int32 × (Unit))) (r : Int32 × (Unit)) : Prop := ∀ (x1 : Int32) (s0 : Unit) (H : Heap) (locs : List Loc) (ls : Array Slot), g x1 s0 = some r → va_P (dC, dI) vwCl (dw_P a ac s0) H → va_D A (dw_P a ac s0) → va_S A s.heap H locs → lv_has ls 2 [(1, .int x1)] → W p l e (headSpec ow_dm_X7_fits ({ frames := 0, cells := 0, slots := 0, locals := 0 })).room s m args below meth c H locs 0 0 Q (F0 m 279 ls [])
def dj_X7_fits_278 (p : Program) (l : Launch) (e : Env) (s : State) (m : MethodId) (args : Array Value) (below : List Frame) (meth : Method) (c : Code) (Q : State → Prop) (A : Nat → Prop) (dC : Nat → ClassId) (dI : Nat → Nat → Nat) (a : Nat → Nat) (ac : Nat → ClassId) (g : Int32 → (Unit) → Option (Int32 × (Unit))) (r : Int32 × (Unit)) : Prop := ∀ (y0 : Int32) (s0 : Unit) (H : Heap) (locs : List Loc) (ls : Array Slot), g y0 s0 = some r → va_P (dC, dI) vwCl (dw_P a ac s0) H → va_D A (dw_P a ac s0) → va_S A s.heap H locs → lv_has ls 2 [] → W p l e (headSpec ow_dm_X7_fits ({ frames := 0, cells := 0, slots := 0, locals := 0 })).room s m args below meth c H locs 0 0 Q (F0 m 278 ls [.int y0])
def dj_X7_fits_277 (p : Program) (l : Launch) (e : Env) (s : State) (m : MethodId) (args : Array Value) (below : List Frame) (meth : Method) (c : Code) (Q : State → Prop) (A : Nat → Prop) (dC : Nat → ClassId) (dI : Nat → Nat → Nat) (a : Nat → Nat) (ac : Nat → ClassId) (g : (Unit) → Option (Int32 × (Unit))) (r : Int32 × (Unit)) : Prop := ∀ (s0 : Unit) (H : Heap) (locs : List Loc) (ls : Array Slot), g s0 = some r → va_P (dC, dI) vwCl (dw_P a ac s0) H → va_D A (dw_P a ac s0) → va_S A s.heap H locs → lv_has ls 2 [] → W p l e (headSpec ow_dm_X7_fits ({ frames := 0, cells := 0, slots := 0, locals := 0 })).room s m args below meth c H locs 0 0 Q (F0 m 277 ls [])
def dj_X7_fits_259 (p : Program) (l : Launch) (e : Env) (s : State) (m : MethodId) (args : Array Value) (below : List Frame) (meth : Method) (c : Code) (Q : State → Prop) (A : Nat → Prop) (dC : Nat → ClassId) (dI : Nat → Nat → Nat) (a : Nat → Nat) (ac : Nat → ClassId) (g : Int32 → (Unit) → Option (Int32 × (Unit))) (r : Int32 × (Unit)) : Prop := ∀ (x1 : Int32) (s0 : Unit) (H : Heap) (locs : List Loc) (ls : Array Slot), g x1 s0 = some r → va_P (dC, dI) vwCl (dw_P a ac s0) H → va_D A (dw_P a ac s0) → va_S A s.heap H locs → lv_has ls 2 [(1, .int x1)] → W p l e (headSpec ow_dm_X7_fits ({ frames := 0, cells := 0, slots := 0, locals := 0 })).room s m args below meth c H locs 0 0 Q (F0 m 259 ls [])
def dj_X7_fits_363 (p : Program) (l : Launch) (e : Env) (s : State) (m : MethodId) (args : Array Value) (below : List Frame) (meth : Method) (c : Code) (Q : State → Prop) (A : Nat → Prop) (dC : Nat → ClassId) (dI : Nat → Nat → Nat) (a : Nat → Nat) (ac : Nat → ClassId) (g : Int32 → (Unit) → Option (Int32 × (Unit))) (r : Int32 × (Unit)) : Prop := ∀ (y0 : Int32) (s0 : Unit) (H : Heap) (locs : List Loc) (ls : Array Slot), g y0 s0 = some r → va_P (dC, dI) vwCl (dw_P a ac s0) H → va_D A (dw_P a ac s0) → va_S A s.heap H locs → lv_has ls 2 [] → W p l e (headSpec ow_dm_X7_fits ({ frames := 0, cells := 0, slots := 0, locals := 0 })).room s m args below meth c H locs 0 0 Q (F0 m 363 ls [.int y0])
def dj_X7_fits_362 (p : Program) (l : Launch) (e : Env) (s : State) (m : MethodId) (args : Array Value) (below : List Frame) (meth : Method) (c : Code) (Q : State → Prop) (A : Nat → Prop) (dC : Nat → ClassId) (dI : Nat → Nat → Nat) (a : Nat → Nat) (ac : Nat → ClassId) (g : (Unit) → Option (Int32 × (Unit))) (r : Int32 × (Unit)) : Prop := ∀ (s0 : Unit) (H : Heap) (locs : List Loc) (ls : Array Slot), g s0 = some r → va_P (dC, dI) vwCl (dw_P a ac s0) H → va_D A (dw_P a ac s0) → va_S A s.heap H locs → lv_has ls 2 [] → W p l e (headSpec ow_dm_X7_fits ({ frames := 0, cells := 0, slots := 0, locals := 0 })).room s m args below meth c H locs 0 0 Q (F0 m 362 ls [])
def dj_X7_fits_389 (p : Program) (l : Launch) (e : Env) (s : State) (m : MethodId) (args : Array Value) (below : List Frame) (meth : Method) (c : Code) (Q : State → Prop) (A : Nat → Prop) (dC : Nat → ClassId) (dI : Nat → Nat → Nat) (a : Nat → Nat) (ac : Nat → ClassId) (g : Int32 → (Unit) → Option (Int32 × (Unit))) (r : Int32 × (Unit)) : Prop := ∀ (y0 : Int32) (s0 : Unit) (H : Heap) (locs : List Loc) (ls : Array Slot), g y0 s0 = some r → va_P (dC, dI) vwCl (dw_P a ac s0) H → va_D A (dw_P a ac s0) → va_S A s.heap H locs → lv_has ls 2 [] → W p l e (headSpec ow_dm_X7_fits ({ frames := 0, cells := 0, slots := 0, locals := 0 })).room s m args below meth c H locs 0 0 Q (F0 m 389 ls [.int y0])
def dj_X7_fits_388 (p : Program) (l : Launch) (e : Env) (s : State) (m : MethodId) (args : Array Value) (below : List Frame) (meth : Method) (c : Code) (Q : State → Prop) (A : Nat → Prop) (dC : Nat → ClassId) (dI : Nat → Nat → Nat) (a : Nat → Nat) (ac : Nat → ClassId) (g : (Unit) → Option (Int32 × (Unit))) (r : Int32 × (Unit)) : Prop := ∀ (s0 : Unit) (H : Heap) (locs : List Loc) (ls : Array Slot), g s0 = some r → va_P (dC, dI) vwCl (dw_P a ac s0) H → va_D A (dw_P a ac s0) → va_S A s.heap H locs → lv_has ls 2 [] → W p l e (headSpec ow_dm_X7_fits ({ frames := 0, cells := 0, slots := 0, locals := 0 })).room s m args below meth c H locs 0 0 Q (F0 m 388 ls [])
def dj_X7_fits_415 (p : Program) (l : Launch) (e : Env) (s : State) (m : MethodId) (args : Array Value) (below : List Frame) (meth : Method) (c : Code) (Q : State → Prop) (A : Nat → Prop) (dC : Nat → ClassId) (dI : Nat → Nat → Nat) (a : Nat → Nat) (ac : Nat → ClassId) (g : Int32 → (Unit) → Option (Int32 × (Unit))) (r : Int32 × (Unit)) : Prop := ∀ (y0 : Int32) (s0 : Unit) (H : Heap) (locs : List Loc) (ls : Array Slot), g y0 s0 = some r → va_P (dC, dI) vwCl (dw_P a ac s0) H → va_D A (dw_P a ac s0) → va_S A s.heap H locs → lv_has ls 2 [] → W p l e (headSpec ow_dm_X7_fits ({ frames := 0, cells := 0, slots := 0, locals := 0 })).room s m args below meth c H locs 0 0 Q (F0 m 415 ls [.int y0])
def dj_X7_fits_414 (p : Program) (l : Launch) (e : Env) (s : State) (m : MethodId) (args : Array Value) (below : List Frame) (meth : Method) (c : Code) (Q : State → Prop) (A : Nat → Prop) (dC : Nat → ClassId) (dI : Nat → Nat → Nat) (a : Nat → Nat) (ac : Nat → ClassId) (g : (Unit) → Option (Int32 × (Unit))) (r : Int32 × (Unit)) : Prop := ∀ (s0 : Unit) (H : Heap) (locs : List Loc) (ls : Array Slot), g s0 = some r → va_P (dC, dI) vwCl (dw_P a ac s0) H → va_D A (dw_P a ac s0) → va_S A s.heap H locs → lv_has ls 2 [] → W p l e (headSpec ow_dm_X7_fits ({ frames := 0, cells := 0, slots := 0, locals := 0 })).room s m args below meth c H locs 0 0 Q (F0 m 414 ls [])
def dj_X7_fits_455 (p : Program) (l : Launch) (e : Env) (s : State) (m : MethodId) (args : Array Value) (below : List Frame) (meth : Method) (c : Code) (Q : State → Prop) (A : Nat → Prop) (dC : Nat → ClassId) (dI : Nat → Nat → Nat) (a : Nat → Nat) (ac : Nat → ClassId) (g : Int32 → (Unit) → Option (Int32 × (Unit))) (r : Int32 × (Unit)) : Prop := ∀ (y0 : Int32) (s0 : Unit) (H : Heap) (locs : List Loc) (ls : Array Slot), g y0 s0 = some r → va_P (dC, dI) vwCl (dw_P a ac s0) H → va_D A (dw_P a ac s0) → va_S A s.heap H locs → lv_has ls 2 [] → W p l e (headSpec ow_dm_X7_fits ({ frames := 0, cells := 0, slots := 0, locals := 0 })).room s m args below meth c H locs 0 0 Q (F0 m 455 ls [.int y0])
def dj_X7_fits_454 (p : Program) (l : Launch) (e : Env) (s : State) (m : MethodId) (args : Array Value) (below : List Frame) (meth : Method) (c : Code) (Q : State → Prop) (A : Nat → Prop) (dC : Nat → ClassId) (dI : Nat → Nat → Nat) (a : Nat → Nat) (ac : Nat → ClassId) (g : (Unit) → Option (Int32 × (Unit))) (r : Int32 × (Unit)) : Prop := ∀ (s0 : Unit) (H : Heap) (locs : List Loc) (ls : Array Slot), g s0 = some r → va_P (dC, dI) vwCl (dw_P a ac s0) H → va_D A (dw_P a ac s0) → va_S A s.heap H locs → lv_has ls 2 [] → W p l e (headSpec ow_dm_X7_fits ({ frames := 0, cells := 0, slots := 0, locals := 0 })).room s m args below meth c H locs 0 0 Q (F0 m 454 ls [])
def dj_X7_fits_433 (p : Program) (l : Launch) (e : Env) (s : State) (m : MethodId) (args : Array Value) (below : List Frame) (meth : Method) (c : Code) (Q : State → Prop) (A : Nat → Prop) (dC : Nat → ClassId) (dI : Nat → Nat → Nat) (a : Nat → Nat) (ac : Nat → ClassId) (g : Int32 → (Unit) → Option (Int32 × (Unit))) (r : Int32 × (Unit)) : Prop := ∀ (y0 : Int32) (s0 : Unit) (H : Heap) (locs : List Loc) (ls : Array Slot), g y0 s0 = some r → va_P (dC, dI) vwCl (dw_P a ac s0) H → va_D A (dw_P a ac s0) → va_S A s.heap H locs → lv_has ls 2 [] → W p l e (headSpec ow_dm_X7_fits ({ frames := 0, cells := 0, slots := 0, locals := 0 })).room s m args below meth c H locs 0 0 Q (F0 m 433 ls [.int y0])
def dj_X7_fits_432 (p : Program) (l : Launch) (e : Env) (s : State) (m : MethodId) (args : Array Value) (below : List Frame) (meth : Method) (c : Code) (Q : State → Prop) (A : Nat → Prop) (dC : Nat → ClassId) (dI : Nat → Nat → Nat) (a : Nat → Nat) (ac : Nat → ClassId) (g : (Unit) → Option (Int32 × (Unit))) (r : Int32 × (Unit)) : Prop := ∀ (s0 : Unit) (H : Heap) (locs : List Loc) (ls : Array Slot), g s0 = some r → va_P (dC, dI) vwCl (dw_P a ac s0) H → va_D A (dw_P a ac s0) → va_S A s.heap H locs → lv_has ls 2 [] → W p l e (headSpec ow_dm_X7_fits ({ frames := 0, cells := 0, slots := 0, locals := 0 })).room s m args below meth c H locs 0 0 Q (F0 m 432 ls [])
def dj_X7_fits_556 (p : Program) (l : Launch) (e : Env) (s : State) (m : MethodId) (args : Array Value) (below : List Frame) (meth : Method) (c : Code) (Q : State → Prop) (A : Nat → Prop) (dC : Nat → ClassId) (dI : Nat → Nat → Nat) (a : Nat → Nat) (ac : Nat → ClassId) (g : (Unit) → Option (Int32 × (Unit))) (r : Int32 × (Unit)) : Prop := ∀ (s0 : Unit) (H : Heap) (locs : List Loc) (ls : Array Slot), g s0 = some r → va_P (dC, dI) vwCl (dw_P a ac s0) H → va_D A (dw_P a ac s0) → va_S A s.heap H locs → lv_has ls 2 [] → W p l e (headSpec ow_dm_X7_fits ({ frames := 0, cells := 0, slots := 0, locals := 0 })).room s m args below meth c H locs 0 0 Q (F0 m 556 ls [])
def dj_X7_fits_555 (p : Program) (l : Launch) (e : Env) (s : State) (m : MethodId) (args : Array Value) (below : List Frame) (meth : Method) (c : Code) (Q : State → Prop) (A : Nat → Prop) (dC : Nat → ClassId) (dI : Nat → Nat → Nat) (a : Nat → Nat) (ac : Nat → ClassId) (g : Int32 → (Unit) → Option (Int32 × (Unit))) (r : Int32 × (Unit)) : Prop := ∀ (y0 : Int32) (s0 : Unit) (H : Heap) (locs : List Loc) (ls : Array Slot), g y0 s0 = some r → va_P (dC, dI) vwCl (dw_P a ac s0) H → va_D A (dw_P a ac s0) → va_S A s.heap H locs → lv_has ls 2 [] → W p l e (headSpec ow_dm_X7_fits ({ frames := 0, cells := 0, slots := 0, locals := 0 })).room s m args below meth c H locs 0 0 Q (F0 m 555 ls [.int y0])
def dj_X7_fits_554 (p : Program) (l : Launch) (e : Env) (s : State) (m : MethodId) (args : Array Value) (below : List Frame) (meth : Method) (c : Code) (Q : State → Prop) (A : Nat → Prop) (dC : Nat → ClassId) (dI : Nat → Nat → Nat) (a : Nat → Nat) (ac : Nat → ClassId) (g : (Unit) → Option (Int32 × (Unit))) (r : Int32 × (Unit)) : Prop := ∀ (s0 : Unit) (H : Heap) (locs : List Loc) (ls : Array Slot), g s0 = some r → va_P (dC, dI) vwCl (dw_P a ac s0) H → va_D A (dw_P a ac s0) → va_S A s.heap H locs → lv_has ls 2 [] → W p l e (headSpec ow_dm_X7_fits ({ frames := 0, cells := 0, slots := 0, locals := 0 })).room s m args below meth c H locs 0 0 Q (F0 m 554 ls [])
def dj_X7_fits_533 (p : Program) (l : Launch) (e : Env) (s : State) (m : MethodId) (args : Array Value) (below : List Frame) (meth : Method) (c : Code) (Q : State → Prop) (A : Nat → Prop) (dC : Nat → ClassId) (dI : Nat → Nat → Nat) (a : Nat → Nat) (ac : Nat → ClassId) (g : Int32 → (Unit) → Option (Int32 × (Unit))) (r : Int32 × (Unit)) : Prop := ∀ (x1 : Int32) (s0 : Unit) (H : Heap) (locs : List Loc) (ls : Array Slot), g x1 s0 = some r → va_P (dC, dI) vwCl (dw_P a ac s0) H → va_D A (dw_P a ac s0) → va_S A s.heap H locs → lv_has ls 2 [(1, .int x1)] → W p l e (headSpec ow_dm_X7_fits ({ frames := 0, cells := 0, slots := 0, locals := 0 })).room s m args below meth c H locs 0 0 Q (F0 m 533 ls [])
def dj_X7_fits_337 (p : Program) (l : Launch) (e : Env) (s : State) (m : MethodId) (args : Array Value) (below : List Frame) (meth : Method) (c : Code) (Q : State → Prop) (A : Nat → Prop) (dC : Nat → ClassId) (dI : Nat → Nat → Nat) (a : Nat → Nat) (ac : Nat → ClassId) (g : Int32 → (Unit) → Option (Int32 × (Unit))) (r : Int32 × (Unit)) : Prop := ∀ (y0 : Int32) (s0 : Unit) (H : Heap) (locs : List Loc) (ls : Array Slot), g y0 s0 = some r → va_P (dC, dI) vwCl (dw_P a ac s0) H → va_D A (dw_P a ac s0) → va_S A s.heap H locs → lv_has ls 2 [] → W p l e (headSpec ow_dm_X7_fits ({ frames := 0, cells := 0, slots := 0, locals := 0 })).room s m args below meth c H locs 0 0 Q (F0 m 337 ls [.int y0])
def dj_X7_fits_336 (p : Program) (l : Launch) (e : Env) (s : State) (m : MethodId) (args : Array Value) (below : List Frame) (meth : Method) (c : Code) (Q : State → Prop) (A : Nat → Prop) (dC : Nat → ClassId) (dI : Nat → Nat → Nat) (a : Nat → Nat) (ac : Nat → ClassId) (g : (Unit) → Option (Int32 × (Unit))) (r : Int32 × (Unit)) : Prop := ∀ (s0 : Unit) (H : Heap) (locs : List Loc) (ls : Array Slot), g s0 = some r → va_P (dC, dI) vwCl (dw_P a ac s0) H → va_D A (dw_P a ac s0) → va_S A s.heap H locs → lv_has ls 2 [] → W p l e (headSpec ow_dm_X7_fits ({ frames := 0, cells := 0, slots := 0, locals := 0 })).room s m args below meth c H locs 0 0 Q (F0 m 336 ls [])
def dj_X7_fits_311 (p : Program) (l : Launch) (e : Env) (s : State) (m : MethodId) (args : Array Value) (below : List Frame) (meth : Method) (c : Code) (Q : State → Prop) (A : Nat → Prop) (dC : Nat → ClassId) (dI : Nat → Nat → Nat) (a : Nat → Nat) (ac : Nat → ClassId) (g : Int32 → (Unit) → Option (Int32 × (Unit))) (r : Int32 × (Unit)) : Prop := ∀ (y0 : Int32) (s0 : Unit) (H : Heap) (locs : List Loc) (ls : Array Slot), g y0 s0 = some r → va_P (dC, dI) vwCl (dw_P a ac s0) H → va_D A (dw_P a ac s0) → va_S A s.heap H locs → lv_has ls 2 [] → W p l e (headSpec ow_dm_X7_fits ({ frames := 0, cells := 0, slots := 0, locals := 0 })).room s m args below meth c H locs 0 0 Q (F0 m 311 ls [.int y0])
def dj_X7_fits_310 (p : Program) (l : Launch) (e : Env) (s : State) (m : MethodId) (args : Array Value) (below : List Frame) (meth : Method) (c : Code) (Q : State → Prop) (A : Nat → Prop) (dC : Nat → ClassId) (dI : Nat → Nat → Nat) (a : Nat → Nat) (ac : Nat → ClassId) (g : (Unit) → Option (Int32 × (Unit))) (r : Int32 × (Unit)) : Prop := ∀ (s0 : Unit) (H : Heap) (locs : List Loc) (ls : Array Slot), g s0 = some r → va_P (dC, dI) vwCl (dw_P a ac s0) H → va_D A (dw_P a ac s0) → va_S A s.heap H locs → lv_has ls 2 [] → W p l e (headSpec ow_dm_X7_fits ({ frames := 0, cells := 0, slots := 0, locals := 0 })).room s m args below meth c H locs 0 0 Q (F0 m 310 ls [])
def dj_X7_fits_501 (p : Program) (l : Launch) (e : Env) (s : State) (m : MethodId) (args : Array Value) (below : List Frame) (meth : Method) (c : Code) (Q : State → Prop) (A : Nat → Prop) (dC : Nat → ClassId) (dI : Nat → Nat → Nat) (a : Nat → Nat) (ac : Nat → ClassId) (g : Int32 → (Unit) → Option (Int32 × (Unit))) (r : Int32 × (Unit)) : Prop := ∀ (y0 : Int32) (s0 : Unit) (H : Heap) (locs : List Loc) (ls : Array Slot), g y0 s0 = some r → va_P (dC, dI) vwCl (dw_P a ac s0) H → va_D A (dw_P a ac s0) → va_S A s.heap H locs → lv_has ls 2 [] → W p l e (headSpec ow_dm_X7_fits ({ frames := 0, cells := 0, slots := 0, locals := 0 })).room s m args below meth c H locs 0 0 Q (F0 m 501 ls [.int y0])
def dj_X7_fits_500 (p : Program) (l : Launch) (e : Env) (s : State) (m : MethodId) (args : Array Value) (below : List Frame) (meth : Method) (c : Code) (Q : State → Prop) (A : Nat → Prop) (dC : Nat → ClassId) (dI : Nat → Nat → Nat) (a : Nat → Nat) (ac : Nat → ClassId) (g : (Unit) → Option (Int32 × (Unit))) (r : Int32 × (Unit)) : Prop := ∀ (s0 : Unit) (H : Heap) (locs : List Loc) (ls : Array Slot), g s0 = some r → va_P (dC, dI) vwCl (dw_P a ac s0) H → va_D A (dw_P a ac s0) → va_S A s.heap H locs → lv_has ls 2 [] → W p l e (headSpec ow_dm_X7_fits ({ frames := 0, cells := 0, slots := 0, locals := 0 })).room s m args below meth c H locs 0 0 Q (F0 m 500 ls [])
def dj_X7_fits_479 (p : Program) (l : Launch) (e : Env) (s : State) (m : MethodId) (args : Array Value) (below : List Frame) (meth : Method) (c : Code) (Q : State → Prop) (A : Nat → Prop) (dC : Nat → ClassId) (dI : Nat → Nat → Nat) (a : Nat → Nat) (ac : Nat → ClassId) (g : Int32 → (Unit) → Option (Int32 × (Unit))) (r : Int32 × (Unit)) : Prop := ∀ (y0 : Int32) (s0 : Unit) (H : Heap) (locs : List Loc) (ls : Array Slot), g y0 s0 = some r → va_P (dC, dI) vwCl (dw_P a ac s0) H → va_D A (dw_P a ac s0) → va_S A s.heap H locs → lv_has ls 2 [] → W p l e (headSpec ow_dm_X7_fits ({ frames := 0, cells := 0, slots := 0, locals := 0 })).room s m args below meth c H locs 0 0 Q (F0 m 479 ls [.int y0])
def dj_X7_fits_478 (p : Program) (l : Launch) (e : Env) (s : State) (m : MethodId) (args : Array Value) (below : List Frame) (meth : Method) (c : Code) (Q : State → Prop) (A : Nat → Prop) (dC : Nat → ClassId) (dI : Nat → Nat → Nat) (a : Nat → Nat) (ac : Nat → ClassId) (g : (Unit) → Option (Int32 × (Unit))) (r : Int32 × (Unit)) : Prop := ∀ (s0 : Unit) (H : Heap) (locs : List Loc) (ls : Array Slot), g s0 = some r → va_P (dC, dI) vwCl (dw_P a ac s0) H → va_D A (dw_P a ac s0) → va_S A s.heap H locs → lv_has ls 2 [] → W p l e (headSpec ow_dm_X7_fits ({ frames := 0, cells := 0, slots := 0, locals := 0 })).room s m args below meth c H locs 0 0 Q (F0 m 478 ls [])
def dj_X7_fits_532 (p : Program) (l : Launch) (e : Env) (s : State) (m : MethodId) (args : Array Value) (below : List Frame) (meth : Method) (c : Code) (Q : State → Prop) (A : Nat → Prop) (dC : Nat → ClassId) (dI : Nat → Nat → Nat) (a : Nat → Nat) (ac : Nat → ClassId) (g : Int32 → (Unit) → Option (Int32 × (Unit))) (r : Int32 × (Unit)) : Prop := ∀ (y0 : Int32) (s0 : Unit) (H : Heap) (locs : List Loc) (ls : Array Slot), g y0 s0 = some r → va_P (dC, dI) vwCl (dw_P a ac s0) H → va_D A (dw_P a ac s0) → va_S A s.heap H locs → lv_has ls 2 [] → W p l e (headSpec ow_dm_X7_fits ({ frames := 0, cells := 0, slots := 0, locals := 0 })).room s m args below meth c H locs 0 0 Q (F0 m 532 ls [.int y0])
def dj_X7_fits_531 (p : Program) (l : Launch) (e : Env) (s : State) (m : MethodId) (args : Array Value) (below : List Frame) (meth : Method) (c : Code) (Q : State → Prop) (A : Nat → Prop) (dC : Nat → ClassId) (dI : Nat → Nat → Nat) (a : Nat → Nat) (ac : Nat → ClassId) (g : (Unit) → Option (Int32 × (Unit))) (r : Int32 × (Unit)) : Prop := ∀ (s0 : Unit) (H : Heap) (locs : List Loc) (ls : Array Slot), g s0 = some r → va_P (dC, dI) vwCl (dw_P a ac s0) H → va_D A (dw_P a ac s0) → va_S A s.heap H locs → lv_has ls 2 [] → W p l e (headSpec ow_dm_X7_fits ({ frames := 0, cells := 0, slots := 0, locals := 0 })).room s m args below meth c H locs 0 0 Q (F0 m 531 ls [])
def dj_X7_fits_240 (p : Program) (l : Launch) (e : Env) (s : State) (m : MethodId) (args : Array Value) (below : List Frame) (meth : Method) (c : Code) (Q : State → Prop) (A : Nat → Prop) (dC : Nat → ClassId) (dI : Nat → Nat → Nat) (a : Nat → Nat) (ac : Nat → ClassId) (g : Int32 → (Unit) → Option (Int32 × (Unit))) (r : Int32 × (Unit)) : Prop := ∀ (y0 : Int32) (s0 : Unit) (H : Heap) (locs : List Loc) (ls : Array Slot), g y0 s0 = some r → va_P (dC, dI) vwCl (dw_P a ac s0) H → va_D A (dw_P a ac s0) → va_S A s.heap H locs → lv_has ls 2 [] → W p l e (headSpec ow_dm_X7_fits ({ frames := 0, cells := 0, slots := 0, locals := 0 })).room s m args below meth c H locs 0 0 Q (F0 m 240 ls [.int y0])
def dj_X7_fits_229 (p : Program) (l : Launch) (e : Env) (s : State) (m : MethodId) (args : Array Value) (below : List Frame) (meth : Method) (c : Code) (Q : State → Prop) (A : Nat → Prop) (dC : Nat → ClassId) (dI : Nat → Nat → Nat) (a : Nat → Nat) (ac : Nat → ClassId) (g : Int32 → (Unit) → Option (Int32 × (Unit))) (r : Int32 × (Unit)) : Prop := ∀ (y0 : Int32) (s0 : Unit) (H : Heap) (locs : List Loc) (ls : Array Slot), g y0 s0 = some r → va_P (dC, dI) vwCl (dw_P a ac s0) H → va_D A (dw_P a ac s0) → va_S A s.heap H locs → lv_has ls 2 [] → W p l e (headSpec ow_dm_X7_fits ({ frames := 0, cells := 0, slots := 0, locals := 0 })).room s m args below meth c H locs 0 0 Q (F0 m 229 ls [.int y0])
def dj_X7_fits_220 (p : Program) (l : Launch) (e : Env) (s : State) (m : MethodId) (args : Array Value) (below : List Frame) (meth : Method) (c : Code) (Q : State → Prop) (A : Nat → Prop) (dC : Nat → ClassId) (dI : Nat → Nat → Nat) (a : Nat → Nat) (ac : Nat → ClassId) (g : Int32 → (Unit) → Option (Int32 × (Unit))) (r : Int32 × (Unit)) : Prop := ∀ (x1 : Int32) (s0 : Unit) (H : Heap) (locs : List Loc) (ls : Array Slot), g x1 s0 = some r → va_P (dC, dI) vwCl (dw_P a ac s0) H → va_D A (dw_P a ac s0) → va_S A s.heap H locs → lv_has ls 2 [(1, .int x1)] → W p l e (headSpec ow_dm_X7_fits ({ frames := 0, cells := 0, slots := 0, locals := 0 })).room s m args below meth c H locs 0 0 Q (F0 m 220 ls [])
def dj_X7_fits_258 (p : Program) (l : Launch) (e : Env) (s : State) (m : MethodId) (args : Array Value) (below : List Frame) (meth : Method) (c : Code) (Q : State → Prop) (A : Nat → Prop) (dC : Nat → ClassId) (dI : Nat → Nat → Nat) (a : Nat → Nat) (ac : Nat → ClassId) (g : Int32 → (Unit) → Option (Int32 × (Unit))) (r : Int32 × (Unit)) : Prop := ∀ (y0 : Int32) (s0 : Unit) (H : Heap) (locs : List Loc) (ls : Array Slot), g y0 s0 = some r → va_P (dC, dI) vwCl (dw_P a ac s0) H → va_D A (dw_P a ac s0) → va_S A s.heap H locs → lv_has ls 2 [] → W p l e (headSpec ow_dm_X7_fits ({ frames := 0, cells := 0, slots := 0, locals := 0 })).room s m args below meth c H locs 0 0 Q (F0 m 258 ls [.int y0])
def dj_X7_fits_257 (p : Program) (l : Launch) (e : Env) (s : State) (m : MethodId) (args : Array Value) (below : List Frame) (meth : Method) (c : Code) (Q : State → Prop) (A : Nat → Prop) (dC : Nat → ClassId) (dI : Nat → Nat → Nat) (a : Nat → Nat) (ac : Nat → ClassId) (g : (Unit) → Option (Int32 × (Unit))) (r : Int32 × (Unit)) : Prop := ∀ (s0 : Unit) (H : Heap) (locs : List Loc) (ls : Array Slot), g s0 = some r → va_P (dC, dI) vwCl (dw_P a ac s0) H → va_D A (dw_P a ac s0) → va_S A s.heap H locs → lv_has ls 2 [] → W p l e (headSpec ow_dm_X7_fits ({ frames := 0, cells := 0, slots := 0, locals := 0 })).room s m args below meth c H locs 0 0 Q (F0 m 257 ls [])
def dj_X7_fits_241 (p : Program) (l : Launch) (e : Env) (s : State) (m : MethodId) (args : Array Value) (below : List Frame) (meth : Method) (c : Code) (Q : State → Prop) (A : Nat → Prop) (dC : Nat → ClassId) (dI : Nat → Nat → Nat) (a : Nat → Nat) (ac : Nat → ClassId) (g : Int32 → (Unit) → Option (Int32 × (Unit))) (r : Int32 × (Unit)) : Prop := ∀ (x1 : Int32) (s0 : Unit) (H : Heap) (locs : List Loc) (ls : Array Slot), g x1 s0 = some r → va_P (dC, dI) vwCl (dw_P a ac s0) H → va_D A (dw_P a ac s0) → va_S A s.heap H locs → lv_has ls 2 [(1, .int x1)] → W p l e (headSpec ow_dm_X7_fits ({ frames := 0, cells := 0, slots := 0, locals := 0 })).room s m args below meth c H locs 0 0 Q (F0 m 241 ls [])
def dj_X7_fits_0 (p : Program) (l : Launch) (e : Env) (s : State) (m : MethodId) (args : Array Value) (below : List Frame) (meth : Method) (c : Code) (Q : State → Prop) (A : Nat → Prop) (dC : Nat → ClassId) (dI : Nat → Nat → Nat) (a : Nat → Nat) (ac : Nat → ClassId) (g : Int32 → Int32 → (Unit) → Option (Int32 × (Unit))) (r : Int32 × (Unit)) : Prop := ∀ (v0 : Int32) (v1 : Int32) (s0 : Unit) (H : Heap) (locs : List Loc) (ls : Array Slot), g v0 v1 s0 = some r → va_P (dC, dI) vwCl (dw_P a ac s0) H → va_D A (dw_P a ac s0) → va_S A s.heap H locs → lv_has ls 2 [(0, .int v0), (1, .int v1)] → W p l e (headSpec ow_dm_X7_fits ({ frames := 0, cells := 0, slots := 0, locals := 0 })).room s m args below meth c H locs 0 0 Q (F0 m 0 ls [])
set_option maxHeartbeats 40000000 in
set_option maxRecDepth 100000 in
theorem db_X7_fits_294 {p : Program} {l : Launch} {e : Env} {s : State} {m : MethodId} {args : Array Value} {below : List Frame} {meth : Method} {c : Code} {Q : State → Prop} {A : Nat → Prop} {dC : Nat → ClassId} {dI : Nat → Nat → Nat} {a : Nat → Nat} {ac : Nat → ClassId} {n : Nat} {r : Int32 × (Unit)} (C : nd_C p l s m args c A (dC, dI) cX7_fits 2 RX7 ow_dm_X7_fits (dk_P ac)) (K : nd_Ki p l e (headSpec ow_dm_X7_fits ({ frames := 0, cells := 0, slots := 0, locals := 0 })).room s m args below meth c Q A (dC, dI) cX7_fits .boolean (Unit) (dw_P a ac) r) : dj_X7_fits_294 p l e s m args below meth c Q A dC dI a ac (df_X7_fits_294 n) r := by
  obtain ⟨hlt, hx, hb, hml, hown, hts, hN, hA, hK⟩ := id C
  intro y0 s0 H locs ls h hP hD hS hl
  unfold df_X7_fits_294 at h
  obtain ⟨n3, h⟩ := nd_z_e ⟨_, rfl⟩ h
  exact K _ _ _ _ _ _ dX7_fits_294 n3 (Option.some.inj h).symm hP hD hS
set_option maxHeartbeats 40000000 in
set_option maxRecDepth 100000 in
theorem db_X7_fits_293 {p : Program} {l : Launch} {e : Env} {s : State} {m : MethodId} {args : Array Value} {below : List Frame} {meth : Method} {c : Code} {Q : State → Prop} {A : Nat → Prop} {dC : Nat → ClassId} {dI : Nat → Nat → Nat} {a : Nat → Nat} {ac : Nat → ClassId} {n : Nat} {r : Int32 × (Unit)} (C : nd_C p l s m args c A (dC, dI) cX7_fits 2 RX7 ow_dm_X7_fits (dk_P ac)) (K : nd_Ki p l e (headSpec ow_dm_X7_fits ({ frames := 0, cells := 0, slots := 0, locals := 0 })).room s m args below meth c Q A (dC, dI) cX7_fits .boolean (Unit) (dw_P a ac) r) : dj_X7_fits_293 p l e s m args below meth c Q A dC dI a ac (df_X7_fits_293 n) r := by
  obtain ⟨hlt, hx, hb, hml, hown, hts, hN, hA, hK⟩ := id C
  intro s0 H locs ls h hP hD hS hl
  unfold df_X7_fits_293 at h
  refine lv_iconst (v := 0) hx hb dX7_fits_293 (by decide) ?_
  exact (db_X7_fits_294 C K) (0) s0 _ _ _ h hP hD hS (lv_sub hl [] rfl)
set_option maxHeartbeats 40000000 in
set_option maxRecDepth 100000 in
theorem db_X7_fits_279 {p : Program} {l : Launch} {e : Env} {s : State} {m : MethodId} {args : Array Value} {below : List Frame} {meth : Method} {c : Code} {Q : State → Prop} {A : Nat → Prop} {dC : Nat → ClassId} {dI : Nat → Nat → Nat} {a : Nat → Nat} {ac : Nat → ClassId} {n : Nat} {r : Int32 × (Unit)} (C : nd_C p l s m args c A (dC, dI) cX7_fits 2 RX7 ow_dm_X7_fits (dk_P ac)) (K : nd_Ki p l e (headSpec ow_dm_X7_fits ({ frames := 0, cells := 0, slots := 0, locals := 0 })).room s m args below meth c Q A (dC, dI) cX7_fits .boolean (Unit) (dw_P a ac) r) : dj_X7_fits_279 p l e s m args below meth c Q A dC dI a ac (df_X7_fits_279 n) r := by
  obtain ⟨hlt, hx, hb, hml, hown, hts, hN, hA, hK⟩ := id C
  intro x1 s0 H locs ls h hP hD hS hl
  unfold df_X7_fits_279 at h
  refine lv_iload_n hx hb dX7_fits_279 rfl (lv_at hl 0 rfl) ?_
  refine lv_if_lt (tgt := 293) hx hb dX7_fits_280 (by decide) (fun c2 => ?_) (fun c2 => ?_)
  · have h := nd_pos h c2
    exact (db_X7_fits_293 C K)  s0 _ _ _ h hP hD hS (lv_sub hl [] rfl)
  · have h := nd_neg h c2
    refine lv_iload_n hx hb dX7_fits_283 rfl (lv_at hl 0 rfl) ?_
    refine lv_bipush (v := 31) hx hb dX7_fits_284 (by decide) ?_
    refine lv_icmp_gt (tgt := 293) hx hb dX7_fits_286 (by decide) (fun c4 => ?_) (fun c4 => ?_)
    · have h := nd_pos h c4
      exact (db_X7_fits_293 C K)  s0 _ _ _ h hP hD hS (lv_sub hl [] rfl)
    · have h := nd_neg h c4
      refine lv_iconst (v := 1) hx hb dX7_fits_289 (by decide) ?_
      refine lv_goto (tgt := 294) hx hb dX7_fits_290 (by decide) ?_
      exact (db_X7_fits_294 C K) (1) s0 _ _ _ h hP hD hS (lv_sub hl [] rfl)
set_option maxHeartbeats 40000000 in
set_option maxRecDepth 100000 in
theorem db_X7_fits_278 {p : Program} {l : Launch} {e : Env} {s : State} {m : MethodId} {args : Array Value} {below : List Frame} {meth : Method} {c : Code} {Q : State → Prop} {A : Nat → Prop} {dC : Nat → ClassId} {dI : Nat → Nat → Nat} {a : Nat → Nat} {ac : Nat → ClassId} {n : Nat} {r : Int32 × (Unit)} (C : nd_C p l s m args c A (dC, dI) cX7_fits 2 RX7 ow_dm_X7_fits (dk_P ac)) (K : nd_Ki p l e (headSpec ow_dm_X7_fits ({ frames := 0, cells := 0, slots := 0, locals := 0 })).room s m args below meth c Q A (dC, dI) cX7_fits .boolean (Unit) (dw_P a ac) r) : dj_X7_fits_278 p l e s m args below meth c Q A dC dI a ac (df_X7_fits_278 n) r := by
  obtain ⟨hlt, hx, hb, hml, hown, hts, hN, hA, hK⟩ := id C
  intro y0 s0 H locs ls h hP hD hS hl
  unfold df_X7_fits_278 at h
  obtain ⟨n7, h⟩ := nd_z_e ⟨_, rfl⟩ h
  exact K _ _ _ _ _ _ dX7_fits_278 n7 (Option.some.inj h).symm hP hD hS
set_option maxHeartbeats 40000000 in
set_option maxRecDepth 100000 in
theorem db_X7_fits_277 {p : Program} {l : Launch} {e : Env} {s : State} {m : MethodId} {args : Array Value} {below : List Frame} {meth : Method} {c : Code} {Q : State → Prop} {A : Nat → Prop} {dC : Nat → ClassId} {dI : Nat → Nat → Nat} {a : Nat → Nat} {ac : Nat → ClassId} {n : Nat} {r : Int32 × (Unit)} (C : nd_C p l s m args c A (dC, dI) cX7_fits 2 RX7 ow_dm_X7_fits (dk_P ac)) (K : nd_Ki p l e (headSpec ow_dm_X7_fits ({ frames := 0, cells := 0, slots := 0, locals := 0 })).room s m args below meth c Q A (dC, dI) cX7_fits .boolean (Unit) (dw_P a ac) r) : dj_X7_fits_277 p l e s m args below meth c Q A dC dI a ac (df_X7_fits_277 n) r := by
  obtain ⟨hlt, hx, hb, hml, hown, hts, hN, hA, hK⟩ := id C
  intro s0 H locs ls h hP hD hS hl
  unfold df_X7_fits_277 at h
  refine lv_iconst (v := 0) hx hb dX7_fits_277 (by decide) ?_
  exact (db_X7_fits_278 C K) (0) s0 _ _ _ h hP hD hS (lv_sub hl [] rfl)
set_option maxHeartbeats 40000000 in
set_option maxRecDepth 100000 in
theorem db_X7_fits_259 {p : Program} {l : Launch} {e : Env} {s : State} {m : MethodId} {args : Array Value} {below : List Frame} {meth : Method} {c : Code} {Q : State → Prop} {A : Nat → Prop} {dC : Nat → ClassId} {dI : Nat → Nat → Nat} {a : Nat → Nat} {ac : Nat → ClassId} {n : Nat} {r : Int32 × (Unit)} (C : nd_C p l s m args c A (dC, dI) cX7_fits 2 RX7 ow_dm_X7_fits (dk_P ac)) (K : nd_Ki p l e (headSpec ow_dm_X7_fits ({ frames := 0, cells := 0, slots := 0, locals := 0 })).room s m args below meth c Q A (dC, dI) cX7_fits .boolean (Unit) (dw_P a ac) r) : dj_X7_fits_259 p l e s m args below meth c Q A dC dI a ac (df_X7_fits_259 n) r := by
  obtain ⟨hlt, hx, hb, hml, hown, hts, hN, hA, hK⟩ := id C
  intro x1 s0 H locs ls h hP hD hS hl
  unfold df_X7_fits_259 at h
  refine lv_iload_n hx hb dX7_fits_259 rfl (lv_at hl 0 rfl) ?_
  refine lv_sipush (v := (-2048)) hx hb dX7_fits_260 (by decide) ?_
  refine lv_icmp_lt (tgt := 277) hx hb dX7_fits_263 (by decide) (fun c6 => ?_) (fun c6 => ?_)
  · have h := nd_pos h c6
    exact (db_X7_fits_277 C K)  s0 _ _ _ h hP hD hS (lv_sub hl [] rfl)
  · have h := nd_neg h c6
    refine lv_iload_n hx hb dX7_fits_266 rfl (lv_at hl 0 rfl) ?_
    refine lv_sipush (v := 2047) hx hb dX7_fits_267 (by decide) ?_
    refine lv_icmp_gt (tgt := 277) hx hb dX7_fits_270 (by decide) (fun c8 => ?_) (fun c8 => ?_)
    · have h := nd_pos h c8
      exact (db_X7_fits_277 C K)  s0 _ _ _ h hP hD hS (lv_sub hl [] rfl)
    · have h := nd_neg h c8
      refine lv_iconst (v := 1) hx hb dX7_fits_273 (by decide) ?_
      refine lv_goto (tgt := 278) hx hb dX7_fits_274 (by decide) ?_
      exact (db_X7_fits_278 C K) (1) s0 _ _ _ h hP hD hS (lv_sub hl [] rfl)
set_option maxHeartbeats 40000000 in
set_option maxRecDepth 100000 in
theorem db_X7_fits_363 {p : Program} {l : Launch} {e : Env} {s : State} {m : MethodId} {args : Array Value} {below : List Frame} {meth : Method} {c : Code} {Q : State → Prop} {A : Nat → Prop} {dC : Nat → ClassId} {dI : Nat → Nat → Nat} {a : Nat → Nat} {ac : Nat → ClassId} {n : Nat} {r : Int32 × (Unit)} (C : nd_C p l s m args c A (dC, dI) cX7_fits 2 RX7 ow_dm_X7_fits (dk_P ac)) (K : nd_Ki p l e (headSpec ow_dm_X7_fits ({ frames := 0, cells := 0, slots := 0, locals := 0 })).room s m args below meth c Q A (dC, dI) cX7_fits .boolean (Unit) (dw_P a ac) r) : dj_X7_fits_363 p l e s m args below meth c Q A dC dI a ac (df_X7_fits_363 n) r := by
  obtain ⟨hlt, hx, hb, hml, hown, hts, hN, hA, hK⟩ := id C
  intro y0 s0 H locs ls h hP hD hS hl
  unfold df_X7_fits_363 at h
  obtain ⟨n11, h⟩ := nd_z_e ⟨_, rfl⟩ h
  exact K _ _ _ _ _ _ dX7_fits_363 n11 (Option.some.inj h).symm hP hD hS
set_option maxHeartbeats 40000000 in
set_option maxRecDepth 100000 in
theorem db_X7_fits_362 {p : Program} {l : Launch} {e : Env} {s : State} {m : MethodId} {args : Array Value} {below : List Frame} {meth : Method} {c : Code} {Q : State → Prop} {A : Nat → Prop} {dC : Nat → ClassId} {dI : Nat → Nat → Nat} {a : Nat → Nat} {ac : Nat → ClassId} {n : Nat} {r : Int32 × (Unit)} (C : nd_C p l s m args c A (dC, dI) cX7_fits 2 RX7 ow_dm_X7_fits (dk_P ac)) (K : nd_Ki p l e (headSpec ow_dm_X7_fits ({ frames := 0, cells := 0, slots := 0, locals := 0 })).room s m args below meth c Q A (dC, dI) cX7_fits .boolean (Unit) (dw_P a ac) r) : dj_X7_fits_362 p l e s m args below meth c Q A dC dI a ac (df_X7_fits_362 n) r := by
  obtain ⟨hlt, hx, hb, hml, hown, hts, hN, hA, hK⟩ := id C
  intro s0 H locs ls h hP hD hS hl
  unfold df_X7_fits_362 at h
  refine lv_iconst (v := 0) hx hb dX7_fits_362 (by decide) ?_
  exact (db_X7_fits_363 C K) (0) s0 _ _ _ h hP hD hS (lv_sub hl [] rfl)
set_option maxHeartbeats 40000000 in
set_option maxRecDepth 100000 in
theorem db_X7_fits_389 {p : Program} {l : Launch} {e : Env} {s : State} {m : MethodId} {args : Array Value} {below : List Frame} {meth : Method} {c : Code} {Q : State → Prop} {A : Nat → Prop} {dC : Nat → ClassId} {dI : Nat → Nat → Nat} {a : Nat → Nat} {ac : Nat → ClassId} {n : Nat} {r : Int32 × (Unit)} (C : nd_C p l s m args c A (dC, dI) cX7_fits 2 RX7 ow_dm_X7_fits (dk_P ac)) (K : nd_Ki p l e (headSpec ow_dm_X7_fits ({ frames := 0, cells := 0, slots := 0, locals := 0 })).room s m args below meth c Q A (dC, dI) cX7_fits .boolean (Unit) (dw_P a ac) r) : dj_X7_fits_389 p l e s m args below meth c Q A dC dI a ac (df_X7_fits_389 n) r := by
  obtain ⟨hlt, hx, hb, hml, hown, hts, hN, hA, hK⟩ := id C
  intro y0 s0 H locs ls h hP hD hS hl
  unfold df_X7_fits_389 at h
  obtain ⟨n16, h⟩ := nd_z_e ⟨_, rfl⟩ h
  exact K _ _ _ _ _ _ dX7_fits_389 n16 (Option.some.inj h).symm hP hD hS
set_option maxHeartbeats 40000000 in
set_option maxRecDepth 100000 in
theorem db_X7_fits_388 {p : Program} {l : Launch} {e : Env} {s : State} {m : MethodId} {args : Array Value} {below : List Frame} {meth : Method} {c : Code} {Q : State → Prop} {A : Nat → Prop} {dC : Nat → ClassId} {dI : Nat → Nat → Nat} {a : Nat → Nat} {ac : Nat → ClassId} {n : Nat} {r : Int32 × (Unit)} (C : nd_C p l s m args c A (dC, dI) cX7_fits 2 RX7 ow_dm_X7_fits (dk_P ac)) (K : nd_Ki p l e (headSpec ow_dm_X7_fits ({ frames := 0, cells := 0, slots := 0, locals := 0 })).room s m args below meth c Q A (dC, dI) cX7_fits .boolean (Unit) (dw_P a ac) r) : dj_X7_fits_388 p l e s m args below meth c Q A dC dI a ac (df_X7_fits_388 n) r := by
  obtain ⟨hlt, hx, hb, hml, hown, hts, hN, hA, hK⟩ := id C
  intro s0 H locs ls h hP hD hS hl
  unfold df_X7_fits_388 at h
  refine lv_iconst (v := 0) hx hb dX7_fits_388 (by decide) ?_
  exact (db_X7_fits_389 C K) (0) s0 _ _ _ h hP hD hS (lv_sub hl [] rfl)
set_option maxHeartbeats 40000000 in
set_option maxRecDepth 100000 in
theorem db_X7_fits_415 {p : Program} {l : Launch} {e : Env} {s : State} {m : MethodId} {args : Array Value} {below : List Frame} {meth : Method} {c : Code} {Q : State → Prop} {A : Nat → Prop} {dC : Nat → ClassId} {dI : Nat → Nat → Nat} {a : Nat → Nat} {ac : Nat → ClassId} {n : Nat} {r : Int32 × (Unit)} (C : nd_C p l s m args c A (dC, dI) cX7_fits 2 RX7 ow_dm_X7_fits (dk_P ac)) (K : nd_Ki p l e (headSpec ow_dm_X7_fits ({ frames := 0, cells := 0, slots := 0, locals := 0 })).room s m args below meth c Q A (dC, dI) cX7_fits .boolean (Unit) (dw_P a ac) r) : dj_X7_fits_415 p l e s m args below meth c Q A dC dI a ac (df_X7_fits_415 n) r := by
  obtain ⟨hlt, hx, hb, hml, hown, hts, hN, hA, hK⟩ := id C
  intro y0 s0 H locs ls h hP hD hS hl
  unfold df_X7_fits_415 at h
  obtain ⟨n21, h⟩ := nd_z_e ⟨_, rfl⟩ h
  exact K _ _ _ _ _ _ dX7_fits_415 n21 (Option.some.inj h).symm hP hD hS
set_option maxHeartbeats 40000000 in
set_option maxRecDepth 100000 in
theorem db_X7_fits_414 {p : Program} {l : Launch} {e : Env} {s : State} {m : MethodId} {args : Array Value} {below : List Frame} {meth : Method} {c : Code} {Q : State → Prop} {A : Nat → Prop} {dC : Nat → ClassId} {dI : Nat → Nat → Nat} {a : Nat → Nat} {ac : Nat → ClassId} {n : Nat} {r : Int32 × (Unit)} (C : nd_C p l s m args c A (dC, dI) cX7_fits 2 RX7 ow_dm_X7_fits (dk_P ac)) (K : nd_Ki p l e (headSpec ow_dm_X7_fits ({ frames := 0, cells := 0, slots := 0, locals := 0 })).room s m args below meth c Q A (dC, dI) cX7_fits .boolean (Unit) (dw_P a ac) r) : dj_X7_fits_414 p l e s m args below meth c Q A dC dI a ac (df_X7_fits_414 n) r := by
  obtain ⟨hlt, hx, hb, hml, hown, hts, hN, hA, hK⟩ := id C
  intro s0 H locs ls h hP hD hS hl
  unfold df_X7_fits_414 at h
  refine lv_iconst (v := 0) hx hb dX7_fits_414 (by decide) ?_
  exact (db_X7_fits_415 C K) (0) s0 _ _ _ h hP hD hS (lv_sub hl [] rfl)
set_option maxHeartbeats 40000000 in
set_option maxRecDepth 100000 in
theorem db_X7_fits_455 {p : Program} {l : Launch} {e : Env} {s : State} {m : MethodId} {args : Array Value} {below : List Frame} {meth : Method} {c : Code} {Q : State → Prop} {A : Nat → Prop} {dC : Nat → ClassId} {dI : Nat → Nat → Nat} {a : Nat → Nat} {ac : Nat → ClassId} {n : Nat} {r : Int32 × (Unit)} (C : nd_C p l s m args c A (dC, dI) cX7_fits 2 RX7 ow_dm_X7_fits (dk_P ac)) (K : nd_Ki p l e (headSpec ow_dm_X7_fits ({ frames := 0, cells := 0, slots := 0, locals := 0 })).room s m args below meth c Q A (dC, dI) cX7_fits .boolean (Unit) (dw_P a ac) r) : dj_X7_fits_455 p l e s m args below meth c Q A dC dI a ac (df_X7_fits_455 n) r := by
  obtain ⟨hlt, hx, hb, hml, hown, hts, hN, hA, hK⟩ := id C
  intro y0 s0 H locs ls h hP hD hS hl
  unfold df_X7_fits_455 at h
  obtain ⟨n26, h⟩ := nd_z_e ⟨_, rfl⟩ h
  exact K _ _ _ _ _ _ dX7_fits_455 n26 (Option.some.inj h).symm hP hD hS
set_option maxHeartbeats 40000000 in
set_option maxRecDepth 100000 in
theorem db_X7_fits_454 {p : Program} {l : Launch} {e : Env} {s : State} {m : MethodId} {args : Array Value} {below : List Frame} {meth : Method} {c : Code} {Q : State → Prop} {A : Nat → Prop} {dC : Nat → ClassId} {dI : Nat → Nat → Nat} {a : Nat → Nat} {ac : Nat → ClassId} {n : Nat} {r : Int32 × (Unit)} (C : nd_C p l s m args c A (dC, dI) cX7_fits 2 RX7 ow_dm_X7_fits (dk_P ac)) (K : nd_Ki p l e (headSpec ow_dm_X7_fits ({ frames := 0, cells := 0, slots := 0, locals := 0 })).room s m args below meth c Q A (dC, dI) cX7_fits .boolean (Unit) (dw_P a ac) r) : dj_X7_fits_454 p l e s m args below meth c Q A dC dI a ac (df_X7_fits_454 n) r := by
  obtain ⟨hlt, hx, hb, hml, hown, hts, hN, hA, hK⟩ := id C
  intro s0 H locs ls h hP hD hS hl
  unfold df_X7_fits_454 at h
  refine lv_iconst (v := 0) hx hb dX7_fits_454 (by decide) ?_
  exact (db_X7_fits_455 C K) (0) s0 _ _ _ h hP hD hS (lv_sub hl [] rfl)
set_option maxHeartbeats 40000000 in
set_option maxRecDepth 100000 in
theorem db_X7_fits_433 {p : Program} {l : Launch} {e : Env} {s : State} {m : MethodId} {args : Array Value} {below : List Frame} {meth : Method} {c : Code} {Q : State → Prop} {A : Nat → Prop} {dC : Nat → ClassId} {dI : Nat → Nat → Nat} {a : Nat → Nat} {ac : Nat → ClassId} {n : Nat} {r : Int32 × (Unit)} (C : nd_C p l s m args c A (dC, dI) cX7_fits 2 RX7 ow_dm_X7_fits (dk_P ac)) (K : nd_Ki p l e (headSpec ow_dm_X7_fits ({ frames := 0, cells := 0, slots := 0, locals := 0 })).room s m args below meth c Q A (dC, dI) cX7_fits .boolean (Unit) (dw_P a ac) r) : dj_X7_fits_433 p l e s m args below meth c Q A dC dI a ac (df_X7_fits_433 n) r := by
  obtain ⟨hlt, hx, hb, hml, hown, hts, hN, hA, hK⟩ := id C
  intro y0 s0 H locs ls h hP hD hS hl
  unfold df_X7_fits_433 at h
  obtain ⟨n31, h⟩ := nd_z_e ⟨_, rfl⟩ h
  exact K _ _ _ _ _ _ dX7_fits_433 n31 (Option.some.inj h).symm hP hD hS
set_option maxHeartbeats 40000000 in
set_option maxRecDepth 100000 in
theorem db_X7_fits_432 {p : Program} {l : Launch} {e : Env} {s : State} {m : MethodId} {args : Array Value} {below : List Frame} {meth : Method} {c : Code} {Q : State → Prop} {A : Nat → Prop} {dC : Nat → ClassId} {dI : Nat → Nat → Nat} {a : Nat → Nat} {ac : Nat → ClassId} {n : Nat} {r : Int32 × (Unit)} (C : nd_C p l s m args c A (dC, dI) cX7_fits 2 RX7 ow_dm_X7_fits (dk_P ac)) (K : nd_Ki p l e (headSpec ow_dm_X7_fits ({ frames := 0, cells := 0, slots := 0, locals := 0 })).room s m args below meth c Q A (dC, dI) cX7_fits .boolean (Unit) (dw_P a ac) r) : dj_X7_fits_432 p l e s m args below meth c Q A dC dI a ac (df_X7_fits_432 n) r := by
  obtain ⟨hlt, hx, hb, hml, hown, hts, hN, hA, hK⟩ := id C
  intro s0 H locs ls h hP hD hS hl
  unfold df_X7_fits_432 at h
  refine lv_iconst (v := 0) hx hb dX7_fits_432 (by decide) ?_
  exact (db_X7_fits_433 C K) (0) s0 _ _ _ h hP hD hS (lv_sub hl [] rfl)
set_option maxHeartbeats 40000000 in
set_option maxRecDepth 100000 in
theorem db_X7_fits_556 {p : Program} {l : Launch} {e : Env} {s : State} {m : MethodId} {args : Array Value} {below : List Frame} {meth : Method} {c : Code} {Q : State → Prop} {A : Nat → Prop} {dC : Nat → ClassId} {dI : Nat → Nat → Nat} {a : Nat → Nat} {ac : Nat → ClassId} {n : Nat} {r : Int32 × (Unit)} (C : nd_C p l s m args c A (dC, dI) cX7_fits 2 RX7 ow_dm_X7_fits (dk_P ac)) (K : nd_Ki p l e (headSpec ow_dm_X7_fits ({ frames := 0, cells := 0, slots := 0, locals := 0 })).room s m args below meth c Q A (dC, dI) cX7_fits .boolean (Unit) (dw_P a ac) r) : dj_X7_fits_556 p l e s m args below meth c Q A dC dI a ac (df_X7_fits_556 n) r := by
  obtain ⟨hlt, hx, hb, hml, hown, hts, hN, hA, hK⟩ := id C
  intro s0 H locs ls h hP hD hS hl
  unfold df_X7_fits_556 at h
  refine lv_iconst (v := 1) hx hb dX7_fits_556 (by decide) ?_
  exact K _ _ _ _ _ _ dX7_fits_557 (by first | rfl | decide) (Option.some.inj h).symm hP hD hS
set_option maxHeartbeats 40000000 in
set_option maxRecDepth 100000 in
theorem db_X7_fits_555 {p : Program} {l : Launch} {e : Env} {s : State} {m : MethodId} {args : Array Value} {below : List Frame} {meth : Method} {c : Code} {Q : State → Prop} {A : Nat → Prop} {dC : Nat → ClassId} {dI : Nat → Nat → Nat} {a : Nat → Nat} {ac : Nat → ClassId} {n : Nat} {r : Int32 × (Unit)} (C : nd_C p l s m args c A (dC, dI) cX7_fits 2 RX7 ow_dm_X7_fits (dk_P ac)) (K : nd_Ki p l e (headSpec ow_dm_X7_fits ({ frames := 0, cells := 0, slots := 0, locals := 0 })).room s m args below meth c Q A (dC, dI) cX7_fits .boolean (Unit) (dw_P a ac) r) : dj_X7_fits_555 p l e s m args below meth c Q A dC dI a ac (df_X7_fits_555 n) r := by
  obtain ⟨hlt, hx, hb, hml, hown, hts, hN, hA, hK⟩ := id C
  intro y0 s0 H locs ls h hP hD hS hl
  unfold df_X7_fits_555 at h
  obtain ⟨n36, h⟩ := nd_z_e ⟨_, rfl⟩ h
  exact K _ _ _ _ _ _ dX7_fits_555 n36 (Option.some.inj h).symm hP hD hS
set_option maxHeartbeats 40000000 in
set_option maxRecDepth 100000 in
theorem db_X7_fits_554 {p : Program} {l : Launch} {e : Env} {s : State} {m : MethodId} {args : Array Value} {below : List Frame} {meth : Method} {c : Code} {Q : State → Prop} {A : Nat → Prop} {dC : Nat → ClassId} {dI : Nat → Nat → Nat} {a : Nat → Nat} {ac : Nat → ClassId} {n : Nat} {r : Int32 × (Unit)} (C : nd_C p l s m args c A (dC, dI) cX7_fits 2 RX7 ow_dm_X7_fits (dk_P ac)) (K : nd_Ki p l e (headSpec ow_dm_X7_fits ({ frames := 0, cells := 0, slots := 0, locals := 0 })).room s m args below meth c Q A (dC, dI) cX7_fits .boolean (Unit) (dw_P a ac) r) : dj_X7_fits_554 p l e s m args below meth c Q A dC dI a ac (df_X7_fits_554 n) r := by
  obtain ⟨hlt, hx, hb, hml, hown, hts, hN, hA, hK⟩ := id C
  intro s0 H locs ls h hP hD hS hl
  unfold df_X7_fits_554 at h
  refine lv_iconst (v := 0) hx hb dX7_fits_554 (by decide) ?_
  exact (db_X7_fits_555 C K) (0) s0 _ _ _ h hP hD hS (lv_sub hl [] rfl)
set_option maxHeartbeats 40000000 in
set_option maxRecDepth 100000 in
theorem db_X7_fits_533 {p : Program} {l : Launch} {e : Env} {s : State} {m : MethodId} {args : Array Value} {below : List Frame} {meth : Method} {c : Code} {Q : State → Prop} {A : Nat → Prop} {dC : Nat → ClassId} {dI : Nat → Nat → Nat} {a : Nat → Nat} {ac : Nat → ClassId} {n : Nat} {r : Int32 × (Unit)} (C : nd_C p l s m args c A (dC, dI) cX7_fits 2 RX7 ow_dm_X7_fits (dk_P ac)) (K : nd_Ki p l e (headSpec ow_dm_X7_fits ({ frames := 0, cells := 0, slots := 0, locals := 0 })).room s m args below meth c Q A (dC, dI) cX7_fits .boolean (Unit) (dw_P a ac) r) : dj_X7_fits_533 p l e s m args below meth c Q A dC dI a ac (df_X7_fits_533 n) r := by
  obtain ⟨hlt, hx, hb, hml, hown, hts, hN, hA, hK⟩ := id C
  intro x1 s0 H locs ls h hP hD hS hl
  unfold df_X7_fits_533 at h
  refine lv_iload_n hx hb dX7_fits_533 rfl (lv_at hl 0 rfl) ?_
  refine lv_if_lt (tgt := 554) hx hb dX7_fits_534 (by decide) (fun c35 => ?_) (fun c35 => ?_)
  · have h := nd_pos h c35
    exact (db_X7_fits_554 C K)  s0 _ _ _ h hP hD hS (lv_sub hl [] rfl)
  · have h := nd_neg h c35
    refine lv_iload_n hx hb dX7_fits_537 rfl (lv_at hl 0 rfl) ?_
    refine lv_sipush (v := 252) hx hb dX7_fits_538 (by decide) ?_
    refine lv_icmp_gt (tgt := 554) hx hb dX7_fits_541 (by decide) (fun c37 => ?_) (fun c37 => ?_)
    · have h := nd_pos h c37
      exact (db_X7_fits_554 C K)  s0 _ _ _ h hP hD hS (lv_sub hl [] rfl)
    · have h := nd_neg h c37
      refine lv_iload_n hx hb dX7_fits_544 rfl (lv_at hl 0 rfl) ?_
      refine lv_iconst (v := 3) hx hb dX7_fits_545 (by decide) ?_
      refine lv_iand hx hb dX7_fits_546 ?_
      refine lv_if_ne (tgt := 554) hx hb dX7_fits_547 (by decide) (fun c38 => ?_) (fun c38 => ?_)
      · have h := nd_neg h c38
        exact (db_X7_fits_554 C K)  s0 _ _ _ h hP hD hS (lv_sub hl [] rfl)
      · have h := nd_pos h c38
        refine lv_iconst (v := 1) hx hb dX7_fits_550 (by decide) ?_
        refine lv_goto (tgt := 555) hx hb dX7_fits_551 (by decide) ?_
        exact (db_X7_fits_555 C K) (1) s0 _ _ _ h hP hD hS (lv_sub hl [] rfl)
set_option maxHeartbeats 40000000 in
set_option maxRecDepth 100000 in
theorem db_X7_fits_337 {p : Program} {l : Launch} {e : Env} {s : State} {m : MethodId} {args : Array Value} {below : List Frame} {meth : Method} {c : Code} {Q : State → Prop} {A : Nat → Prop} {dC : Nat → ClassId} {dI : Nat → Nat → Nat} {a : Nat → Nat} {ac : Nat → ClassId} {n : Nat} {r : Int32 × (Unit)} (C : nd_C p l s m args c A (dC, dI) cX7_fits 2 RX7 ow_dm_X7_fits (dk_P ac)) (K : nd_Ki p l e (headSpec ow_dm_X7_fits ({ frames := 0, cells := 0, slots := 0, locals := 0 })).room s m args below meth c Q A (dC, dI) cX7_fits .boolean (Unit) (dw_P a ac) r) : dj_X7_fits_337 p l e s m args below meth c Q A dC dI a ac (df_X7_fits_337 n) r := by
  obtain ⟨hlt, hx, hb, hml, hown, hts, hN, hA, hK⟩ := id C
  intro y0 s0 H locs ls h hP hD hS hl
  unfold df_X7_fits_337 at h
  obtain ⟨n44, h⟩ := nd_z_e ⟨_, rfl⟩ h
  exact K _ _ _ _ _ _ dX7_fits_337 n44 (Option.some.inj h).symm hP hD hS
set_option maxHeartbeats 40000000 in
set_option maxRecDepth 100000 in
theorem db_X7_fits_336 {p : Program} {l : Launch} {e : Env} {s : State} {m : MethodId} {args : Array Value} {below : List Frame} {meth : Method} {c : Code} {Q : State → Prop} {A : Nat → Prop} {dC : Nat → ClassId} {dI : Nat → Nat → Nat} {a : Nat → Nat} {ac : Nat → ClassId} {n : Nat} {r : Int32 × (Unit)} (C : nd_C p l s m args c A (dC, dI) cX7_fits 2 RX7 ow_dm_X7_fits (dk_P ac)) (K : nd_Ki p l e (headSpec ow_dm_X7_fits ({ frames := 0, cells := 0, slots := 0, locals := 0 })).room s m args below meth c Q A (dC, dI) cX7_fits .boolean (Unit) (dw_P a ac) r) : dj_X7_fits_336 p l e s m args below meth c Q A dC dI a ac (df_X7_fits_336 n) r := by
  obtain ⟨hlt, hx, hb, hml, hown, hts, hN, hA, hK⟩ := id C
  intro s0 H locs ls h hP hD hS hl
  unfold df_X7_fits_336 at h
  refine lv_iconst (v := 0) hx hb dX7_fits_336 (by decide) ?_
  exact (db_X7_fits_337 C K) (0) s0 _ _ _ h hP hD hS (lv_sub hl [] rfl)
set_option maxHeartbeats 40000000 in
set_option maxRecDepth 100000 in
theorem db_X7_fits_311 {p : Program} {l : Launch} {e : Env} {s : State} {m : MethodId} {args : Array Value} {below : List Frame} {meth : Method} {c : Code} {Q : State → Prop} {A : Nat → Prop} {dC : Nat → ClassId} {dI : Nat → Nat → Nat} {a : Nat → Nat} {ac : Nat → ClassId} {n : Nat} {r : Int32 × (Unit)} (C : nd_C p l s m args c A (dC, dI) cX7_fits 2 RX7 ow_dm_X7_fits (dk_P ac)) (K : nd_Ki p l e (headSpec ow_dm_X7_fits ({ frames := 0, cells := 0, slots := 0, locals := 0 })).room s m args below meth c Q A (dC, dI) cX7_fits .boolean (Unit) (dw_P a ac) r) : dj_X7_fits_311 p l e s m args below meth c Q A dC dI a ac (df_X7_fits_311 n) r := by
  obtain ⟨hlt, hx, hb, hml, hown, hts, hN, hA, hK⟩ := id C
  intro y0 s0 H locs ls h hP hD hS hl
  unfold df_X7_fits_311 at h
  obtain ⟨n49, h⟩ := nd_z_e ⟨_, rfl⟩ h
  exact K _ _ _ _ _ _ dX7_fits_311 n49 (Option.some.inj h).symm hP hD hS
set_option maxHeartbeats 40000000 in
set_option maxRecDepth 100000 in
theorem db_X7_fits_310 {p : Program} {l : Launch} {e : Env} {s : State} {m : MethodId} {args : Array Value} {below : List Frame} {meth : Method} {c : Code} {Q : State → Prop} {A : Nat → Prop} {dC : Nat → ClassId} {dI : Nat → Nat → Nat} {a : Nat → Nat} {ac : Nat → ClassId} {n : Nat} {r : Int32 × (Unit)} (C : nd_C p l s m args c A (dC, dI) cX7_fits 2 RX7 ow_dm_X7_fits (dk_P ac)) (K : nd_Ki p l e (headSpec ow_dm_X7_fits ({ frames := 0, cells := 0, slots := 0, locals := 0 })).room s m args below meth c Q A (dC, dI) cX7_fits .boolean (Unit) (dw_P a ac) r) : dj_X7_fits_310 p l e s m args below meth c Q A dC dI a ac (df_X7_fits_310 n) r := by
  obtain ⟨hlt, hx, hb, hml, hown, hts, hN, hA, hK⟩ := id C
  intro s0 H locs ls h hP hD hS hl
  unfold df_X7_fits_310 at h
  refine lv_iconst (v := 0) hx hb dX7_fits_310 (by decide) ?_
  exact (db_X7_fits_311 C K) (0) s0 _ _ _ h hP hD hS (lv_sub hl [] rfl)
set_option maxHeartbeats 40000000 in
set_option maxRecDepth 100000 in
theorem db_X7_fits_501 {p : Program} {l : Launch} {e : Env} {s : State} {m : MethodId} {args : Array Value} {below : List Frame} {meth : Method} {c : Code} {Q : State → Prop} {A : Nat → Prop} {dC : Nat → ClassId} {dI : Nat → Nat → Nat} {a : Nat → Nat} {ac : Nat → ClassId} {n : Nat} {r : Int32 × (Unit)} (C : nd_C p l s m args c A (dC, dI) cX7_fits 2 RX7 ow_dm_X7_fits (dk_P ac)) (K : nd_Ki p l e (headSpec ow_dm_X7_fits ({ frames := 0, cells := 0, slots := 0, locals := 0 })).room s m args below meth c Q A (dC, dI) cX7_fits .boolean (Unit) (dw_P a ac) r) : dj_X7_fits_501 p l e s m args below meth c Q A dC dI a ac (df_X7_fits_501 n) r := by
  obtain ⟨hlt, hx, hb, hml, hown, hts, hN, hA, hK⟩ := id C
  intro y0 s0 H locs ls h hP hD hS hl
  unfold df_X7_fits_501 at h
  obtain ⟨n54, h⟩ := nd_z_e ⟨_, rfl⟩ h
  exact K _ _ _ _ _ _ dX7_fits_501 n54 (Option.some.inj h).symm hP hD hS
set_option maxHeartbeats 40000000 in
set_option maxRecDepth 100000 in
theorem db_X7_fits_500 {p : Program} {l : Launch} {e : Env} {s : State} {m : MethodId} {args : Array Value} {below : List Frame} {meth : Method} {c : Code} {Q : State → Prop} {A : Nat → Prop} {dC : Nat → ClassId} {dI : Nat → Nat → Nat} {a : Nat → Nat} {ac : Nat → ClassId} {n : Nat} {r : Int32 × (Unit)} (C : nd_C p l s m args c A (dC, dI) cX7_fits 2 RX7 ow_dm_X7_fits (dk_P ac)) (K : nd_Ki p l e (headSpec ow_dm_X7_fits ({ frames := 0, cells := 0, slots := 0, locals := 0 })).room s m args below meth c Q A (dC, dI) cX7_fits .boolean (Unit) (dw_P a ac) r) : dj_X7_fits_500 p l e s m args below meth c Q A dC dI a ac (df_X7_fits_500 n) r := by
  obtain ⟨hlt, hx, hb, hml, hown, hts, hN, hA, hK⟩ := id C
  intro s0 H locs ls h hP hD hS hl
  unfold df_X7_fits_500 at h
  refine lv_iconst (v := 0) hx hb dX7_fits_500 (by decide) ?_
  exact (db_X7_fits_501 C K) (0) s0 _ _ _ h hP hD hS (lv_sub hl [] rfl)
set_option maxHeartbeats 40000000 in
set_option maxRecDepth 100000 in
theorem db_X7_fits_479 {p : Program} {l : Launch} {e : Env} {s : State} {m : MethodId} {args : Array Value} {below : List Frame} {meth : Method} {c : Code} {Q : State → Prop} {A : Nat → Prop} {dC : Nat → ClassId} {dI : Nat → Nat → Nat} {a : Nat → Nat} {ac : Nat → ClassId} {n : Nat} {r : Int32 × (Unit)} (C : nd_C p l s m args c A (dC, dI) cX7_fits 2 RX7 ow_dm_X7_fits (dk_P ac)) (K : nd_Ki p l e (headSpec ow_dm_X7_fits ({ frames := 0, cells := 0, slots := 0, locals := 0 })).room s m args below meth c Q A (dC, dI) cX7_fits .boolean (Unit) (dw_P a ac) r) : dj_X7_fits_479 p l e s m args below meth c Q A dC dI a ac (df_X7_fits_479 n) r := by
  obtain ⟨hlt, hx, hb, hml, hown, hts, hN, hA, hK⟩ := id C
  intro y0 s0 H locs ls h hP hD hS hl
  unfold df_X7_fits_479 at h
  obtain ⟨n59, h⟩ := nd_z_e ⟨_, rfl⟩ h
  exact K _ _ _ _ _ _ dX7_fits_479 n59 (Option.some.inj h).symm hP hD hS
set_option maxHeartbeats 40000000 in
set_option maxRecDepth 100000 in
theorem db_X7_fits_478 {p : Program} {l : Launch} {e : Env} {s : State} {m : MethodId} {args : Array Value} {below : List Frame} {meth : Method} {c : Code} {Q : State → Prop} {A : Nat → Prop} {dC : Nat → ClassId} {dI : Nat → Nat → Nat} {a : Nat → Nat} {ac : Nat → ClassId} {n : Nat} {r : Int32 × (Unit)} (C : nd_C p l s m args c A (dC, dI) cX7_fits 2 RX7 ow_dm_X7_fits (dk_P ac)) (K : nd_Ki p l e (headSpec ow_dm_X7_fits ({ frames := 0, cells := 0, slots := 0, locals := 0 })).room s m args below meth c Q A (dC, dI) cX7_fits .boolean (Unit) (dw_P a ac) r) : dj_X7_fits_478 p l e s m args below meth c Q A dC dI a ac (df_X7_fits_478 n) r := by
  obtain ⟨hlt, hx, hb, hml, hown, hts, hN, hA, hK⟩ := id C
  intro s0 H locs ls h hP hD hS hl
  unfold df_X7_fits_478 at h
  refine lv_iconst (v := 0) hx hb dX7_fits_478 (by decide) ?_
  exact (db_X7_fits_479 C K) (0) s0 _ _ _ h hP hD hS (lv_sub hl [] rfl)
set_option maxHeartbeats 40000000 in
set_option maxRecDepth 100000 in
theorem db_X7_fits_532 {p : Program} {l : Launch} {e : Env} {s : State} {m : MethodId} {args : Array Value} {below : List Frame} {meth : Method} {c : Code} {Q : State → Prop} {A : Nat → Prop} {dC : Nat → ClassId} {dI : Nat → Nat → Nat} {a : Nat → Nat} {ac : Nat → ClassId} {n : Nat} {r : Int32 × (Unit)} (C : nd_C p l s m args c A (dC, dI) cX7_fits 2 RX7 ow_dm_X7_fits (dk_P ac)) (K : nd_Ki p l e (headSpec ow_dm_X7_fits ({ frames := 0, cells := 0, slots := 0, locals := 0 })).room s m args below meth c Q A (dC, dI) cX7_fits .boolean (Unit) (dw_P a ac) r) : dj_X7_fits_532 p l e s m args below meth c Q A dC dI a ac (df_X7_fits_532 n) r := by
  obtain ⟨hlt, hx, hb, hml, hown, hts, hN, hA, hK⟩ := id C
  intro y0 s0 H locs ls h hP hD hS hl
  unfold df_X7_fits_532 at h
  obtain ⟨n64, h⟩ := nd_z_e ⟨_, rfl⟩ h
  exact K _ _ _ _ _ _ dX7_fits_532 n64 (Option.some.inj h).symm hP hD hS
set_option maxHeartbeats 40000000 in
set_option maxRecDepth 100000 in
theorem db_X7_fits_531 {p : Program} {l : Launch} {e : Env} {s : State} {m : MethodId} {args : Array Value} {below : List Frame} {meth : Method} {c : Code} {Q : State → Prop} {A : Nat → Prop} {dC : Nat → ClassId} {dI : Nat → Nat → Nat} {a : Nat → Nat} {ac : Nat → ClassId} {n : Nat} {r : Int32 × (Unit)} (C : nd_C p l s m args c A (dC, dI) cX7_fits 2 RX7 ow_dm_X7_fits (dk_P ac)) (K : nd_Ki p l e (headSpec ow_dm_X7_fits ({ frames := 0, cells := 0, slots := 0, locals := 0 })).room s m args below meth c Q A (dC, dI) cX7_fits .boolean (Unit) (dw_P a ac) r) : dj_X7_fits_531 p l e s m args below meth c Q A dC dI a ac (df_X7_fits_531 n) r := by
  obtain ⟨hlt, hx, hb, hml, hown, hts, hN, hA, hK⟩ := id C
  intro s0 H locs ls h hP hD hS hl
  unfold df_X7_fits_531 at h
  refine lv_iconst (v := 0) hx hb dX7_fits_531 (by decide) ?_
  exact (db_X7_fits_532 C K) (0) s0 _ _ _ h hP hD hS (lv_sub hl [] rfl)
set_option maxHeartbeats 40000000 in
set_option maxRecDepth 100000 in
theorem db_X7_fits_240 {p : Program} {l : Launch} {e : Env} {s : State} {m : MethodId} {args : Array Value} {below : List Frame} {meth : Method} {c : Code} {Q : State → Prop} {A : Nat → Prop} {dC : Nat → ClassId} {dI : Nat → Nat → Nat} {a : Nat → Nat} {ac : Nat → ClassId} {n : Nat} {r : Int32 × (Unit)} (C : nd_C p l s m args c A (dC, dI) cX7_fits 2 RX7 ow_dm_X7_fits (dk_P ac)) (K : nd_Ki p l e (headSpec ow_dm_X7_fits ({ frames := 0, cells := 0, slots := 0, locals := 0 })).room s m args below meth c Q A (dC, dI) cX7_fits .boolean (Unit) (dw_P a ac) r) : dj_X7_fits_240 p l e s m args below meth c Q A dC dI a ac (df_X7_fits_240 n) r := by
  obtain ⟨hlt, hx, hb, hml, hown, hts, hN, hA, hK⟩ := id C
  intro y0 s0 H locs ls h hP hD hS hl
  unfold df_X7_fits_240 at h
  obtain ⟨n89, h⟩ := nd_z_e ⟨_, rfl⟩ h
  exact K _ _ _ _ _ _ dX7_fits_240 n89 (Option.some.inj h).symm hP hD hS
set_option maxHeartbeats 40000000 in
set_option maxRecDepth 100000 in
theorem db_X7_fits_229 {p : Program} {l : Launch} {e : Env} {s : State} {m : MethodId} {args : Array Value} {below : List Frame} {meth : Method} {c : Code} {Q : State → Prop} {A : Nat → Prop} {dC : Nat → ClassId} {dI : Nat → Nat → Nat} {a : Nat → Nat} {ac : Nat → ClassId} {n : Nat} {r : Int32 × (Unit)} (C : nd_C p l s m args c A (dC, dI) cX7_fits 2 RX7 ow_dm_X7_fits (dk_P ac)) (K : nd_Ki p l e (headSpec ow_dm_X7_fits ({ frames := 0, cells := 0, slots := 0, locals := 0 })).room s m args below meth c Q A (dC, dI) cX7_fits .boolean (Unit) (dw_P a ac) r) : dj_X7_fits_229 p l e s m args below meth c Q A dC dI a ac (df_X7_fits_229 n) r := by
  obtain ⟨hlt, hx, hb, hml, hown, hts, hN, hA, hK⟩ := id C
  intro y0 s0 H locs ls h hP hD hS hl
  unfold df_X7_fits_229 at h
  obtain ⟨n92, h⟩ := nd_z_e ⟨_, rfl⟩ h
  exact K _ _ _ _ _ _ dX7_fits_229 n92 (Option.some.inj h).symm hP hD hS
set_option maxHeartbeats 40000000 in
set_option maxRecDepth 100000 in
theorem db_X7_fits_220 {p : Program} {l : Launch} {e : Env} {s : State} {m : MethodId} {args : Array Value} {below : List Frame} {meth : Method} {c : Code} {Q : State → Prop} {A : Nat → Prop} {dC : Nat → ClassId} {dI : Nat → Nat → Nat} {a : Nat → Nat} {ac : Nat → ClassId} {n : Nat} {r : Int32 × (Unit)} (C : nd_C p l s m args c A (dC, dI) cX7_fits 2 RX7 ow_dm_X7_fits (dk_P ac)) (K : nd_Ki p l e (headSpec ow_dm_X7_fits ({ frames := 0, cells := 0, slots := 0, locals := 0 })).room s m args below meth c Q A (dC, dI) cX7_fits .boolean (Unit) (dw_P a ac) r) : dj_X7_fits_220 p l e s m args below meth c Q A dC dI a ac (df_X7_fits_220 n) r := by
  obtain ⟨hlt, hx, hb, hml, hown, hts, hN, hA, hK⟩ := id C
  intro x1 s0 H locs ls h hP hD hS hl
  unfold df_X7_fits_220 at h
  refine lv_iload_n hx hb dX7_fits_220 rfl (lv_at hl 0 rfl) ?_
  refine lv_if_eq (tgt := 228) hx hb dX7_fits_221 (by decide) (fun c91 => ?_) (fun c91 => ?_)
  · have h := nd_pos h c91
    refine lv_iconst (v := 0) hx hb dX7_fits_228 (by decide) ?_
    exact (db_X7_fits_229 C K) (0) s0 _ _ _ h hP hD hS (lv_sub hl [] rfl)
  · have h := nd_neg h c91
    refine lv_iconst (v := 1) hx hb dX7_fits_224 (by decide) ?_
    refine lv_goto (tgt := 229) hx hb dX7_fits_225 (by decide) ?_
    exact (db_X7_fits_229 C K) (1) s0 _ _ _ h hP hD hS (lv_sub hl [] rfl)
set_option maxHeartbeats 40000000 in
set_option maxRecDepth 100000 in
theorem db_X7_fits_258 {p : Program} {l : Launch} {e : Env} {s : State} {m : MethodId} {args : Array Value} {below : List Frame} {meth : Method} {c : Code} {Q : State → Prop} {A : Nat → Prop} {dC : Nat → ClassId} {dI : Nat → Nat → Nat} {a : Nat → Nat} {ac : Nat → ClassId} {n : Nat} {r : Int32 × (Unit)} (C : nd_C p l s m args c A (dC, dI) cX7_fits 2 RX7 ow_dm_X7_fits (dk_P ac)) (K : nd_Ki p l e (headSpec ow_dm_X7_fits ({ frames := 0, cells := 0, slots := 0, locals := 0 })).room s m args below meth c Q A (dC, dI) cX7_fits .boolean (Unit) (dw_P a ac) r) : dj_X7_fits_258 p l e s m args below meth c Q A dC dI a ac (df_X7_fits_258 n) r := by
  obtain ⟨hlt, hx, hb, hml, hown, hts, hN, hA, hK⟩ := id C
  intro y0 s0 H locs ls h hP hD hS hl
  unfold df_X7_fits_258 at h
  obtain ⟨n96, h⟩ := nd_z_e ⟨_, rfl⟩ h
  exact K _ _ _ _ _ _ dX7_fits_258 n96 (Option.some.inj h).symm hP hD hS
set_option maxHeartbeats 40000000 in
set_option maxRecDepth 100000 in
theorem db_X7_fits_257 {p : Program} {l : Launch} {e : Env} {s : State} {m : MethodId} {args : Array Value} {below : List Frame} {meth : Method} {c : Code} {Q : State → Prop} {A : Nat → Prop} {dC : Nat → ClassId} {dI : Nat → Nat → Nat} {a : Nat → Nat} {ac : Nat → ClassId} {n : Nat} {r : Int32 × (Unit)} (C : nd_C p l s m args c A (dC, dI) cX7_fits 2 RX7 ow_dm_X7_fits (dk_P ac)) (K : nd_Ki p l e (headSpec ow_dm_X7_fits ({ frames := 0, cells := 0, slots := 0, locals := 0 })).room s m args below meth c Q A (dC, dI) cX7_fits .boolean (Unit) (dw_P a ac) r) : dj_X7_fits_257 p l e s m args below meth c Q A dC dI a ac (df_X7_fits_257 n) r := by
  obtain ⟨hlt, hx, hb, hml, hown, hts, hN, hA, hK⟩ := id C
  intro s0 H locs ls h hP hD hS hl
  unfold df_X7_fits_257 at h
  refine lv_iconst (v := 0) hx hb dX7_fits_257 (by decide) ?_
  exact (db_X7_fits_258 C K) (0) s0 _ _ _ h hP hD hS (lv_sub hl [] rfl)
set_option maxHeartbeats 40000000 in
set_option maxRecDepth 100000 in
theorem db_X7_fits_241 {p : Program} {l : Launch} {e : Env} {s : State} {m : MethodId} {args : Array Value} {below : List Frame} {meth : Method} {c : Code} {Q : State → Prop} {A : Nat → Prop} {dC : Nat → ClassId} {dI : Nat → Nat → Nat} {a : Nat → Nat} {ac : Nat → ClassId} {n : Nat} {r : Int32 × (Unit)} (C : nd_C p l s m args c A (dC, dI) cX7_fits 2 RX7 ow_dm_X7_fits (dk_P ac)) (K : nd_Ki p l e (headSpec ow_dm_X7_fits ({ frames := 0, cells := 0, slots := 0, locals := 0 })).room s m args below meth c Q A (dC, dI) cX7_fits .boolean (Unit) (dw_P a ac) r) : dj_X7_fits_241 p l e s m args below meth c Q A dC dI a ac (df_X7_fits_241 n) r := by
  obtain ⟨hlt, hx, hb, hml, hown, hts, hN, hA, hK⟩ := id C
  intro x1 s0 H locs ls h hP hD hS hl
  unfold df_X7_fits_241 at h
  refine lv_iload_n hx hb dX7_fits_241 rfl (lv_at hl 0 rfl) ?_
  refine lv_bipush (v := 8) hx hb dX7_fits_242 (by decide) ?_
  refine lv_icmp_lt (tgt := 257) hx hb dX7_fits_244 (by decide) (fun c95 => ?_) (fun c95 => ?_)
  · have h := nd_pos h c95
    exact (db_X7_fits_257 C K)  s0 _ _ _ h hP hD hS (lv_sub hl [] rfl)
  · have h := nd_neg h c95
    refine lv_iload_n hx hb dX7_fits_247 rfl (lv_at hl 0 rfl) ?_
    refine lv_bipush (v := 15) hx hb dX7_fits_248 (by decide) ?_
    refine lv_icmp_gt (tgt := 257) hx hb dX7_fits_250 (by decide) (fun c97 => ?_) (fun c97 => ?_)
    · have h := nd_pos h c97
      exact (db_X7_fits_257 C K)  s0 _ _ _ h hP hD hS (lv_sub hl [] rfl)
    · have h := nd_neg h c97
      refine lv_iconst (v := 1) hx hb dX7_fits_253 (by decide) ?_
      refine lv_goto (tgt := 258) hx hb dX7_fits_254 (by decide) ?_
      exact (db_X7_fits_258 C K) (1) s0 _ _ _ h hP hD hS (lv_sub hl [] rfl)
set_option maxHeartbeats 40000000 in
set_option maxRecDepth 100000 in
theorem db_X7_fits_0 {p : Program} {l : Launch} {e : Env} {s : State} {m : MethodId} {args : Array Value} {below : List Frame} {meth : Method} {c : Code} {Q : State → Prop} {A : Nat → Prop} {dC : Nat → ClassId} {dI : Nat → Nat → Nat} {a : Nat → Nat} {ac : Nat → ClassId} {n : Nat} {r : Int32 × (Unit)} (C : nd_C p l s m args c A (dC, dI) cX7_fits 2 RX7 ow_dm_X7_fits (dk_P ac)) (K : nd_Ki p l e (headSpec ow_dm_X7_fits ({ frames := 0, cells := 0, slots := 0, locals := 0 })).room s m args below meth c Q A (dC, dI) cX7_fits .boolean (Unit) (dw_P a ac) r) : dj_X7_fits_0 p l e s m args below meth c Q A dC dI a ac (df_X7_fits_0 n) r := by
  obtain ⟨hlt, hx, hb, hml, hown, hts, hN, hA, hK⟩ := id C
  intro v0 v1 s0 H locs ls h hP hD hS hl
  unfold df_X7_fits_0 at h
  refine lv_iload_n hx hb dX7_fits_0 rfl (lv_at hl 0 rfl) ?_
  by_cases c1 : v0 = 72
  · have h := nd_pos h c1
    refine lv_tableIn (off := 278) (tgt := 279) hx hb dX7_fits_1 (by rw [c1]; decide) (by rw [c1]; decide) (by rw [c1]; decide) (by decide) ?_
    exact (db_X7_fits_279 C K) (v1) s0 _ _ _ h hP hD hS (lv_sub hl [1] rfl)
  have h := nd_neg h c1
  by_cases c5 : v0 = 73
  · have h := nd_pos h c5
    refine lv_tableIn (off := 258) (tgt := 259) hx hb dX7_fits_1 (by rw [c5]; decide) (by rw [c5]; decide) (by rw [c5]; decide) (by decide) ?_
    exact (db_X7_fits_259 C K) (v1) s0 _ _ _ h hP hD hS (lv_sub hl [1] rfl)
  have h := nd_neg h c5
  by_cases c9 : v0 = 74
  · have h := nd_pos h c9
    refine lv_tableIn (off := 337) (tgt := 338) hx hb dX7_fits_1 (by rw [c9]; decide) (by rw [c9]; decide) (by rw [c9]; decide) (by decide) ?_
    refine lv_iload_n hx hb dX7_fits_338 rfl (lv_at hl 1 rfl) ?_
    refine lv_ldcw hx hb hown (hts (.constant RX7 464 (-1048576)) (List.mem_of_getElem? (i := 1) rfl)) dX7_fits_339 ?_
    refine lv_icmp_lt (tgt := 362) hx hb dX7_fits_342 (by decide) (fun c10 => ?_) (fun c10 => ?_)
    · have h := nd_pos h c10
      exact (db_X7_fits_362 C K)  s0 _ _ _ h hP hD hS (lv_sub hl [] rfl)
    · have h := nd_neg h c10
      refine lv_iload_n hx hb dX7_fits_345 rfl (lv_at hl 1 rfl) ?_
      refine lv_ldcw hx hb hown (hts (.constant RX7 465 (1048574)) (List.mem_of_getElem? (i := 2) rfl)) dX7_fits_346 ?_
      refine lv_icmp_gt (tgt := 362) hx hb dX7_fits_349 (by decide) (fun c12 => ?_) (fun c12 => ?_)
      · have h := nd_pos h c12
        exact (db_X7_fits_362 C K)  s0 _ _ _ h hP hD hS (lv_sub hl [] rfl)
      · have h := nd_neg h c12
        refine lv_iload_n hx hb dX7_fits_352 rfl (lv_at hl 1 rfl) ?_
        refine lv_iconst (v := 1) hx hb dX7_fits_353 (by decide) ?_
        refine lv_iand hx hb dX7_fits_354 ?_
        refine lv_if_ne (tgt := 362) hx hb dX7_fits_355 (by decide) (fun c13 => ?_) (fun c13 => ?_)
        · have h := nd_neg h c13
          exact (db_X7_fits_362 C K)  s0 _ _ _ h hP hD hS (lv_sub hl [] rfl)
        · have h := nd_pos h c13
          refine lv_iconst (v := 1) hx hb dX7_fits_358 (by decide) ?_
          refine lv_goto (tgt := 363) hx hb dX7_fits_359 (by decide) ?_
          exact (db_X7_fits_363 C K) (1) s0 _ _ _ h hP hD hS (lv_sub hl [] rfl)
  have h := nd_neg h c9
  by_cases c14 : v0 = 75
  · have h := nd_pos h c14
    refine lv_tableIn (off := 363) (tgt := 364) hx hb dX7_fits_1 (by rw [c14]; decide) (by rw [c14]; decide) (by rw [c14]; decide) (by decide) ?_
    refine lv_iload_n hx hb dX7_fits_364 rfl (lv_at hl 1 rfl) ?_
    refine lv_sipush (v := (-2048)) hx hb dX7_fits_365 (by decide) ?_
    refine lv_icmp_lt (tgt := 388) hx hb dX7_fits_368 (by decide) (fun c15 => ?_) (fun c15 => ?_)
    · have h := nd_pos h c15
      exact (db_X7_fits_388 C K)  s0 _ _ _ h hP hD hS (lv_sub hl [] rfl)
    · have h := nd_neg h c15
      refine lv_iload_n hx hb dX7_fits_371 rfl (lv_at hl 1 rfl) ?_
      refine lv_sipush (v := 2046) hx hb dX7_fits_372 (by decide) ?_
      refine lv_icmp_gt (tgt := 388) hx hb dX7_fits_375 (by decide) (fun c17 => ?_) (fun c17 => ?_)
      · have h := nd_pos h c17
        exact (db_X7_fits_388 C K)  s0 _ _ _ h hP hD hS (lv_sub hl [] rfl)
      · have h := nd_neg h c17
        refine lv_iload_n hx hb dX7_fits_378 rfl (lv_at hl 1 rfl) ?_
        refine lv_iconst (v := 1) hx hb dX7_fits_379 (by decide) ?_
        refine lv_iand hx hb dX7_fits_380 ?_
        refine lv_if_ne (tgt := 388) hx hb dX7_fits_381 (by decide) (fun c18 => ?_) (fun c18 => ?_)
        · have h := nd_neg h c18
          exact (db_X7_fits_388 C K)  s0 _ _ _ h hP hD hS (lv_sub hl [] rfl)
        · have h := nd_pos h c18
          refine lv_iconst (v := 1) hx hb dX7_fits_384 (by decide) ?_
          refine lv_goto (tgt := 389) hx hb dX7_fits_385 (by decide) ?_
          exact (db_X7_fits_389 C K) (1) s0 _ _ _ h hP hD hS (lv_sub hl [] rfl)
  have h := nd_neg h c14
  by_cases c19 : v0 = 76
  · have h := nd_pos h c19
    refine lv_tableIn (off := 389) (tgt := 390) hx hb dX7_fits_1 (by rw [c19]; decide) (by rw [c19]; decide) (by rw [c19]; decide) (by decide) ?_
    refine lv_iload_n hx hb dX7_fits_390 rfl (lv_at hl 1 rfl) ?_
    refine lv_sipush (v := (-256)) hx hb dX7_fits_391 (by decide) ?_
    refine lv_icmp_lt (tgt := 414) hx hb dX7_fits_394 (by decide) (fun c20 => ?_) (fun c20 => ?_)
    · have h := nd_pos h c20
      exact (db_X7_fits_414 C K)  s0 _ _ _ h hP hD hS (lv_sub hl [] rfl)
    · have h := nd_neg h c20
      refine lv_iload_n hx hb dX7_fits_397 rfl (lv_at hl 1 rfl) ?_
      refine lv_sipush (v := 254) hx hb dX7_fits_398 (by decide) ?_
      refine lv_icmp_gt (tgt := 414) hx hb dX7_fits_401 (by decide) (fun c22 => ?_) (fun c22 => ?_)
      · have h := nd_pos h c22
        exact (db_X7_fits_414 C K)  s0 _ _ _ h hP hD hS (lv_sub hl [] rfl)
      · have h := nd_neg h c22
        refine lv_iload_n hx hb dX7_fits_404 rfl (lv_at hl 1 rfl) ?_
        refine lv_iconst (v := 1) hx hb dX7_fits_405 (by decide) ?_
        refine lv_iand hx hb dX7_fits_406 ?_
        refine lv_if_ne (tgt := 414) hx hb dX7_fits_407 (by decide) (fun c23 => ?_) (fun c23 => ?_)
        · have h := nd_neg h c23
          exact (db_X7_fits_414 C K)  s0 _ _ _ h hP hD hS (lv_sub hl [] rfl)
        · have h := nd_pos h c23
          refine lv_iconst (v := 1) hx hb dX7_fits_410 (by decide) ?_
          refine lv_goto (tgt := 415) hx hb dX7_fits_411 (by decide) ?_
          exact (db_X7_fits_415 C K) (1) s0 _ _ _ h hP hD hS (lv_sub hl [] rfl)
  have h := nd_neg h c19
  by_cases c24 : v0 = 77
  · have h := nd_pos h c24
    refine lv_tableIn (off := 433) (tgt := 434) hx hb dX7_fits_1 (by rw [c24]; decide) (by rw [c24]; decide) (by rw [c24]; decide) (by decide) ?_
    refine lv_iload_n hx hb dX7_fits_434 rfl (lv_at hl 1 rfl) ?_
    refine lv_bipush (v := (-32)) hx hb dX7_fits_435 (by decide) ?_
    refine lv_icmp_lt (tgt := 454) hx hb dX7_fits_437 (by decide) (fun c25 => ?_) (fun c25 => ?_)
    · have h := nd_pos h c25
      exact (db_X7_fits_454 C K)  s0 _ _ _ h hP hD hS (lv_sub hl [] rfl)
    · have h := nd_neg h c25
      refine lv_iload_n hx hb dX7_fits_440 rfl (lv_at hl 1 rfl) ?_
      refine lv_bipush (v := 31) hx hb dX7_fits_441 (by decide) ?_
      refine lv_icmp_gt (tgt := 454) hx hb dX7_fits_443 (by decide) (fun c27 => ?_) (fun c27 => ?_)
      · have h := nd_pos h c27
        exact (db_X7_fits_454 C K)  s0 _ _ _ h hP hD hS (lv_sub hl [] rfl)
      · have h := nd_neg h c27
        refine lv_iload_n hx hb dX7_fits_446 rfl (lv_at hl 1 rfl) ?_
        refine lv_if_eq (tgt := 454) hx hb dX7_fits_447 (by decide) (fun c28 => ?_) (fun c28 => ?_)
        · have h := nd_pos h c28
          exact (db_X7_fits_454 C K)  s0 _ _ _ h hP hD hS (lv_sub hl [] rfl)
        · have h := nd_neg h c28
          refine lv_iconst (v := 1) hx hb dX7_fits_450 (by decide) ?_
          refine lv_goto (tgt := 455) hx hb dX7_fits_451 (by decide) ?_
          exact (db_X7_fits_455 C K) (1) s0 _ _ _ h hP hD hS (lv_sub hl [] rfl)
  have h := nd_neg h c24
  by_cases c29 : v0 = 78
  · have h := nd_pos h c29
    refine lv_tableIn (off := 415) (tgt := 416) hx hb dX7_fits_1 (by rw [c29]; decide) (by rw [c29]; decide) (by rw [c29]; decide) (by decide) ?_
    refine lv_iload_n hx hb dX7_fits_416 rfl (lv_at hl 1 rfl) ?_
    refine lv_bipush (v := (-32)) hx hb dX7_fits_417 (by decide) ?_
    refine lv_icmp_lt (tgt := 432) hx hb dX7_fits_419 (by decide) (fun c30 => ?_) (fun c30 => ?_)
    · have h := nd_pos h c30
      exact (db_X7_fits_432 C K)  s0 _ _ _ h hP hD hS (lv_sub hl [] rfl)
    · have h := nd_neg h c30
      refine lv_iload_n hx hb dX7_fits_422 rfl (lv_at hl 1 rfl) ?_
      refine lv_bipush (v := 31) hx hb dX7_fits_423 (by decide) ?_
      refine lv_icmp_gt (tgt := 432) hx hb dX7_fits_425 (by decide) (fun c32 => ?_) (fun c32 => ?_)
      · have h := nd_pos h c32
        exact (db_X7_fits_432 C K)  s0 _ _ _ h hP hD hS (lv_sub hl [] rfl)
      · have h := nd_neg h c32
        refine lv_iconst (v := 1) hx hb dX7_fits_428 (by decide) ?_
        refine lv_goto (tgt := 433) hx hb dX7_fits_429 (by decide) ?_
        exact (db_X7_fits_433 C K) (1) s0 _ _ _ h hP hD hS (lv_sub hl [] rfl)
  have h := nd_neg h c29
  by_cases c33 : v0 = 79
  · have h := nd_pos h c33
    refine lv_tableIn (off := 555) (tgt := 556) hx hb dX7_fits_1 (by rw [c33]; decide) (by rw [c33]; decide) (by rw [c33]; decide) (by decide) ?_
    exact (db_X7_fits_556 C K)  s0 _ _ _ h hP hD hS (lv_sub hl [] rfl)
  have h := nd_neg h c33
  by_cases c34 : v0 = 80
  · have h := nd_pos h c34
    refine lv_tableIn (off := 532) (tgt := 533) hx hb dX7_fits_1 (by rw [c34]; decide) (by rw [c34]; decide) (by rw [c34]; decide) (by decide) ?_
    exact (db_X7_fits_533 C K) (v1) s0 _ _ _ h hP hD hS (lv_sub hl [1] rfl)
  have h := nd_neg h c34
  by_cases c39 : v0 = 81
  · have h := nd_pos h c39
    refine lv_tableIn (off := 532) (tgt := 533) hx hb dX7_fits_1 (by rw [c39]; decide) (by rw [c39]; decide) (by rw [c39]; decide) (by decide) ?_
    exact (db_X7_fits_533 C K) (v1) s0 _ _ _ h hP hD hS (lv_sub hl [1] rfl)
  have h := nd_neg h c39
  by_cases c40 : v0 = 82
  · have h := nd_pos h c40
    refine lv_tableIn (off := 555) (tgt := 556) hx hb dX7_fits_1 (by rw [c40]; decide) (by rw [c40]; decide) (by rw [c40]; decide) (by decide) ?_
    exact (db_X7_fits_556 C K)  s0 _ _ _ h hP hD hS (lv_sub hl [] rfl)
  have h := nd_neg h c40
  by_cases c41 : v0 = 83
  · have h := nd_pos h c41
    refine lv_tableIn (off := 258) (tgt := 259) hx hb dX7_fits_1 (by rw [c41]; decide) (by rw [c41]; decide) (by rw [c41]; decide) (by decide) ?_
    exact (db_X7_fits_259 C K) (v1) s0 _ _ _ h hP hD hS (lv_sub hl [1] rfl)
  have h := nd_neg h c41
  by_cases c42 : v0 = 84
  · have h := nd_pos h c42
    refine lv_tableIn (off := 311) (tgt := 312) hx hb dX7_fits_1 (by rw [c42]; decide) (by rw [c42]; decide) (by rw [c42]; decide) (by decide) ?_
    refine lv_iload_n hx hb dX7_fits_312 rfl (lv_at hl 1 rfl) ?_
    refine lv_sipush (v := (-4096)) hx hb dX7_fits_313 (by decide) ?_
    refine lv_icmp_lt (tgt := 336) hx hb dX7_fits_316 (by decide) (fun c43 => ?_) (fun c43 => ?_)
    · have h := nd_pos h c43
      exact (db_X7_fits_336 C K)  s0 _ _ _ h hP hD hS (lv_sub hl [] rfl)
    · have h := nd_neg h c43
      refine lv_iload_n hx hb dX7_fits_319 rfl (lv_at hl 1 rfl) ?_
      refine lv_sipush (v := 4094) hx hb dX7_fits_320 (by decide) ?_
      refine lv_icmp_gt (tgt := 336) hx hb dX7_fits_323 (by decide) (fun c45 => ?_) (fun c45 => ?_)
      · have h := nd_pos h c45
        exact (db_X7_fits_336 C K)  s0 _ _ _ h hP hD hS (lv_sub hl [] rfl)
      · have h := nd_neg h c45
        refine lv_iload_n hx hb dX7_fits_326 rfl (lv_at hl 1 rfl) ?_
        refine lv_iconst (v := 1) hx hb dX7_fits_327 (by decide) ?_
        refine lv_iand hx hb dX7_fits_328 ?_
        refine lv_if_ne (tgt := 336) hx hb dX7_fits_329 (by decide) (fun c46 => ?_) (fun c46 => ?_)
        · have h := nd_neg h c46
          exact (db_X7_fits_336 C K)  s0 _ _ _ h hP hD hS (lv_sub hl [] rfl)
        · have h := nd_pos h c46
          refine lv_iconst (v := 1) hx hb dX7_fits_332 (by decide) ?_
          refine lv_goto (tgt := 337) hx hb dX7_fits_333 (by decide) ?_
          exact (db_X7_fits_337 C K) (1) s0 _ _ _ h hP hD hS (lv_sub hl [] rfl)
  have h := nd_neg h c42
  by_cases c47 : v0 = 85
  · have h := nd_pos h c47
    refine lv_tableIn (off := 294) (tgt := 295) hx hb dX7_fits_1 (by rw [c47]; decide) (by rw [c47]; decide) (by rw [c47]; decide) (by decide) ?_
    refine lv_iload_n hx hb dX7_fits_295 rfl (lv_at hl 1 rfl) ?_
    refine lv_if_lt (tgt := 310) hx hb dX7_fits_296 (by decide) (fun c48 => ?_) (fun c48 => ?_)
    · have h := nd_pos h c48
      exact (db_X7_fits_310 C K)  s0 _ _ _ h hP hD hS (lv_sub hl [] rfl)
    · have h := nd_neg h c48
      refine lv_iload_n hx hb dX7_fits_299 rfl (lv_at hl 1 rfl) ?_
      refine lv_ldcw hx hb hown (hts (.constant RX7 463 (1048575)) (List.mem_of_getElem? (i := 3) rfl)) dX7_fits_300 ?_
      refine lv_icmp_gt (tgt := 310) hx hb dX7_fits_303 (by decide) (fun c50 => ?_) (fun c50 => ?_)
      · have h := nd_pos h c50
        exact (db_X7_fits_310 C K)  s0 _ _ _ h hP hD hS (lv_sub hl [] rfl)
      · have h := nd_neg h c50
        refine lv_iconst (v := 1) hx hb dX7_fits_306 (by decide) ?_
        refine lv_goto (tgt := 311) hx hb dX7_fits_307 (by decide) ?_
        exact (db_X7_fits_311 C K) (1) s0 _ _ _ h hP hD hS (lv_sub hl [] rfl)
  have h := nd_neg h c47
  by_cases c51 : v0 = 86
  · have h := nd_pos h c51
    refine lv_tableIn (off := 278) (tgt := 279) hx hb dX7_fits_1 (by rw [c51]; decide) (by rw [c51]; decide) (by rw [c51]; decide) (by decide) ?_
    exact (db_X7_fits_279 C K) (v1) s0 _ _ _ h hP hD hS (lv_sub hl [1] rfl)
  have h := nd_neg h c51
  by_cases c52 : v0 = 87
  · have h := nd_pos h c52
    refine lv_tableIn (off := 479) (tgt := 480) hx hb dX7_fits_1 (by rw [c52]; decide) (by rw [c52]; decide) (by rw [c52]; decide) (by decide) ?_
    refine lv_iload_n hx hb dX7_fits_480 rfl (lv_at hl 1 rfl) ?_
    refine lv_if_lt (tgt := 500) hx hb dX7_fits_481 (by decide) (fun c53 => ?_) (fun c53 => ?_)
    · have h := nd_pos h c53
      exact (db_X7_fits_500 C K)  s0 _ _ _ h hP hD hS (lv_sub hl [] rfl)
    · have h := nd_neg h c53
      refine lv_iload_n hx hb dX7_fits_484 rfl (lv_at hl 1 rfl) ?_
      refine lv_bipush (v := 124) hx hb dX7_fits_485 (by decide) ?_
      refine lv_icmp_gt (tgt := 500) hx hb dX7_fits_487 (by decide) (fun c55 => ?_) (fun c55 => ?_)
      · have h := nd_pos h c55
        exact (db_X7_fits_500 C K)  s0 _ _ _ h hP hD hS (lv_sub hl [] rfl)
      · have h := nd_neg h c55
        refine lv_iload_n hx hb dX7_fits_490 rfl (lv_at hl 1 rfl) ?_
        refine lv_iconst (v := 3) hx hb dX7_fits_491 (by decide) ?_
        refine lv_iand hx hb dX7_fits_492 ?_
        refine lv_if_ne (tgt := 500) hx hb dX7_fits_493 (by decide) (fun c56 => ?_) (fun c56 => ?_)
        · have h := nd_neg h c56
          exact (db_X7_fits_500 C K)  s0 _ _ _ h hP hD hS (lv_sub hl [] rfl)
        · have h := nd_pos h c56
          refine lv_iconst (v := 1) hx hb dX7_fits_496 (by decide) ?_
          refine lv_goto (tgt := 501) hx hb dX7_fits_497 (by decide) ?_
          exact (db_X7_fits_501 C K) (1) s0 _ _ _ h hP hD hS (lv_sub hl [] rfl)
  have h := nd_neg h c52
  by_cases c57 : v0 = 88
  · have h := nd_pos h c57
    refine lv_tableIn (off := 455) (tgt := 456) hx hb dX7_fits_1 (by rw [c57]; decide) (by rw [c57]; decide) (by rw [c57]; decide) (by decide) ?_
    refine lv_iload_n hx hb dX7_fits_456 rfl (lv_at hl 1 rfl) ?_
    refine lv_iconst (v := 4) hx hb dX7_fits_457 (by decide) ?_
    refine lv_icmp_lt (tgt := 478) hx hb dX7_fits_458 (by decide) (fun c58 => ?_) (fun c58 => ?_)
    · have h := nd_pos h c58
      exact (db_X7_fits_478 C K)  s0 _ _ _ h hP hD hS (lv_sub hl [] rfl)
    · have h := nd_neg h c58
      refine lv_iload_n hx hb dX7_fits_461 rfl (lv_at hl 1 rfl) ?_
      refine lv_sipush (v := 1020) hx hb dX7_fits_462 (by decide) ?_
      refine lv_icmp_gt (tgt := 478) hx hb dX7_fits_465 (by decide) (fun c60 => ?_) (fun c60 => ?_)
      · have h := nd_pos h c60
        exact (db_X7_fits_478 C K)  s0 _ _ _ h hP hD hS (lv_sub hl [] rfl)
      · have h := nd_neg h c60
        refine lv_iload_n hx hb dX7_fits_468 rfl (lv_at hl 1 rfl) ?_
        refine lv_iconst (v := 3) hx hb dX7_fits_469 (by decide) ?_
        refine lv_iand hx hb dX7_fits_470 ?_
        refine lv_if_ne (tgt := 478) hx hb dX7_fits_471 (by decide) (fun c61 => ?_) (fun c61 => ?_)
        · have h := nd_neg h c61
          exact (db_X7_fits_478 C K)  s0 _ _ _ h hP hD hS (lv_sub hl [] rfl)
        · have h := nd_pos h c61
          refine lv_iconst (v := 1) hx hb dX7_fits_474 (by decide) ?_
          refine lv_goto (tgt := 479) hx hb dX7_fits_475 (by decide) ?_
          exact (db_X7_fits_479 C K) (1) s0 _ _ _ h hP hD hS (lv_sub hl [] rfl)
  have h := nd_neg h c57
  by_cases c62 : v0 = 89
  · have h := nd_pos h c62
    refine lv_tableIn (off := 501) (tgt := 502) hx hb dX7_fits_1 (by rw [c62]; decide) (by rw [c62]; decide) (by rw [c62]; decide) (by decide) ?_
    refine lv_iload_n hx hb dX7_fits_502 rfl (lv_at hl 1 rfl) ?_
    refine lv_sipush (v := (-512)) hx hb dX7_fits_503 (by decide) ?_
    refine lv_icmp_lt (tgt := 531) hx hb dX7_fits_506 (by decide) (fun c63 => ?_) (fun c63 => ?_)
    · have h := nd_pos h c63
      exact (db_X7_fits_531 C K)  s0 _ _ _ h hP hD hS (lv_sub hl [] rfl)
    · have h := nd_neg h c63
      refine lv_iload_n hx hb dX7_fits_509 rfl (lv_at hl 1 rfl) ?_
      refine lv_sipush (v := 496) hx hb dX7_fits_510 (by decide) ?_
      refine lv_icmp_gt (tgt := 531) hx hb dX7_fits_513 (by decide) (fun c65 => ?_) (fun c65 => ?_)
      · have h := nd_pos h c65
        exact (db_X7_fits_531 C K)  s0 _ _ _ h hP hD hS (lv_sub hl [] rfl)
      · have h := nd_neg h c65
        refine lv_iload_n hx hb dX7_fits_516 rfl (lv_at hl 1 rfl) ?_
        refine lv_bipush (v := 15) hx hb dX7_fits_517 (by decide) ?_
        refine lv_iand hx hb dX7_fits_519 ?_
        refine lv_if_ne (tgt := 531) hx hb dX7_fits_520 (by decide) (fun c66 => ?_) (fun c66 => ?_)
        · have h := nd_neg h c66
          exact (db_X7_fits_531 C K)  s0 _ _ _ h hP hD hS (lv_sub hl [] rfl)
        · have h := nd_pos h c66
          refine lv_iload_n hx hb dX7_fits_523 rfl (lv_at hl 1 rfl) ?_
          refine lv_if_eq (tgt := 531) hx hb dX7_fits_524 (by decide) (fun c67 => ?_) (fun c67 => ?_)
          · have h := nd_pos h c67
            exact (db_X7_fits_531 C K)  s0 _ _ _ h hP hD hS (lv_sub hl [] rfl)
          · have h := nd_neg h c67
            refine lv_iconst (v := 1) hx hb dX7_fits_527 (by decide) ?_
            refine lv_goto (tgt := 532) hx hb dX7_fits_528 (by decide) ?_
            exact (db_X7_fits_532 C K) (1) s0 _ _ _ h hP hD hS (lv_sub hl [] rfl)
  have h := nd_neg h c62
  by_cases c68 : v0 = 90
  · have h := nd_pos h c68
    refine lv_tableIn (off := 555) (tgt := 556) hx hb dX7_fits_1 (by rw [c68]; decide) (by rw [c68]; decide) (by rw [c68]; decide) (by decide) ?_
    exact (db_X7_fits_556 C K)  s0 _ _ _ h hP hD hS (lv_sub hl [] rfl)
  have h := nd_neg h c68
  by_cases c69 : v0 = 91
  · have h := nd_pos h c69
    refine lv_tableIn (off := 555) (tgt := 556) hx hb dX7_fits_1 (by rw [c69]; decide) (by rw [c69]; decide) (by rw [c69]; decide) (by decide) ?_
    exact (db_X7_fits_556 C K)  s0 _ _ _ h hP hD hS (lv_sub hl [] rfl)
  have h := nd_neg h c69
  by_cases c70 : v0 = 92
  · have h := nd_pos h c70
    refine lv_tableIn (off := 555) (tgt := 556) hx hb dX7_fits_1 (by rw [c70]; decide) (by rw [c70]; decide) (by rw [c70]; decide) (by decide) ?_
    exact (db_X7_fits_556 C K)  s0 _ _ _ h hP hD hS (lv_sub hl [] rfl)
  have h := nd_neg h c70
  by_cases c71 : v0 = 93
  · have h := nd_pos h c71
    refine lv_tableIn (off := 555) (tgt := 556) hx hb dX7_fits_1 (by rw [c71]; decide) (by rw [c71]; decide) (by rw [c71]; decide) (by decide) ?_
    exact (db_X7_fits_556 C K)  s0 _ _ _ h hP hD hS (lv_sub hl [] rfl)
  have h := nd_neg h c71
  by_cases c72 : v0 = 94
  · have h := nd_pos h c72
    refine lv_tableIn (off := 555) (tgt := 556) hx hb dX7_fits_1 (by rw [c72]; decide) (by rw [c72]; decide) (by rw [c72]; decide) (by decide) ?_
    exact (db_X7_fits_556 C K)  s0 _ _ _ h hP hD hS (lv_sub hl [] rfl)
  have h := nd_neg h c72
  by_cases c73 : v0 = 95
  · have h := nd_pos h c73
    refine lv_tableIn (off := 555) (tgt := 556) hx hb dX7_fits_1 (by rw [c73]; decide) (by rw [c73]; decide) (by rw [c73]; decide) (by decide) ?_
    exact (db_X7_fits_556 C K)  s0 _ _ _ h hP hD hS (lv_sub hl [] rfl)
  have h := nd_neg h c73
  by_cases c74 : v0 = 96
  · have h := nd_pos h c74
    refine lv_tableIn (off := 555) (tgt := 556) hx hb dX7_fits_1 (by rw [c74]; decide) (by rw [c74]; decide) (by rw [c74]; decide) (by decide) ?_
    exact (db_X7_fits_556 C K)  s0 _ _ _ h hP hD hS (lv_sub hl [] rfl)
  have h := nd_neg h c74
  by_cases c75 : v0 = 97
  · have h := nd_pos h c75
    refine lv_tableIn (off := 555) (tgt := 556) hx hb dX7_fits_1 (by rw [c75]; decide) (by rw [c75]; decide) (by rw [c75]; decide) (by decide) ?_
    exact (db_X7_fits_556 C K)  s0 _ _ _ h hP hD hS (lv_sub hl [] rfl)
  have h := nd_neg h c75
  by_cases c76 : v0 = 98
  · have h := nd_pos h c76
    refine lv_tableIn (off := 555) (tgt := 556) hx hb dX7_fits_1 (by rw [c76]; decide) (by rw [c76]; decide) (by rw [c76]; decide) (by decide) ?_
    exact (db_X7_fits_556 C K)  s0 _ _ _ h hP hD hS (lv_sub hl [] rfl)
  have h := nd_neg h c76
  by_cases c77 : v0 = 99
  · have h := nd_pos h c77
    refine lv_tableIn (off := 555) (tgt := 556) hx hb dX7_fits_1 (by rw [c77]; decide) (by rw [c77]; decide) (by rw [c77]; decide) (by decide) ?_
    exact (db_X7_fits_556 C K)  s0 _ _ _ h hP hD hS (lv_sub hl [] rfl)
  have h := nd_neg h c77
  by_cases c78 : v0 = 100
  · have h := nd_pos h c78
    refine lv_tableIn (off := 555) (tgt := 556) hx hb dX7_fits_1 (by rw [c78]; decide) (by rw [c78]; decide) (by rw [c78]; decide) (by decide) ?_
    exact (db_X7_fits_556 C K)  s0 _ _ _ h hP hD hS (lv_sub hl [] rfl)
  have h := nd_neg h c78
  by_cases c79 : v0 = 101
  · have h := nd_pos h c79
    refine lv_tableIn (off := 555) (tgt := 556) hx hb dX7_fits_1 (by rw [c79]; decide) (by rw [c79]; decide) (by rw [c79]; decide) (by decide) ?_
    exact (db_X7_fits_556 C K)  s0 _ _ _ h hP hD hS (lv_sub hl [] rfl)
  have h := nd_neg h c79
  by_cases c80 : v0 = 102
  · have h := nd_pos h c80
    refine lv_tableIn (off := 555) (tgt := 556) hx hb dX7_fits_1 (by rw [c80]; decide) (by rw [c80]; decide) (by rw [c80]; decide) (by decide) ?_
    exact (db_X7_fits_556 C K)  s0 _ _ _ h hP hD hS (lv_sub hl [] rfl)
  have h := nd_neg h c80
  by_cases c81 : v0 = 103
  · have h := nd_pos h c81
    refine lv_tableIn (off := 555) (tgt := 556) hx hb dX7_fits_1 (by rw [c81]; decide) (by rw [c81]; decide) (by rw [c81]; decide) (by decide) ?_
    exact (db_X7_fits_556 C K)  s0 _ _ _ h hP hD hS (lv_sub hl [] rfl)
  have h := nd_neg h c81
  by_cases c82 : v0 = 104
  · have h := nd_pos h c82
    refine lv_tableIn (off := 555) (tgt := 556) hx hb dX7_fits_1 (by rw [c82]; decide) (by rw [c82]; decide) (by rw [c82]; decide) (by decide) ?_
    exact (db_X7_fits_556 C K)  s0 _ _ _ h hP hD hS (lv_sub hl [] rfl)
  have h := nd_neg h c82
  by_cases c83 : v0 = 105
  · have h := nd_pos h c83
    refine lv_tableIn (off := 555) (tgt := 556) hx hb dX7_fits_1 (by rw [c83]; decide) (by rw [c83]; decide) (by rw [c83]; decide) (by decide) ?_
    exact (db_X7_fits_556 C K)  s0 _ _ _ h hP hD hS (lv_sub hl [] rfl)
  have h := nd_neg h c83
  by_cases c84 : v0 = 106
  · have h := nd_pos h c84
    refine lv_tableIn (off := 555) (tgt := 556) hx hb dX7_fits_1 (by rw [c84]; decide) (by rw [c84]; decide) (by rw [c84]; decide) (by decide) ?_
    exact (db_X7_fits_556 C K)  s0 _ _ _ h hP hD hS (lv_sub hl [] rfl)
  have h := nd_neg h c84
  by_cases c85 : v0 = 107
  · have h := nd_pos h c85
    refine lv_tableIn (off := 555) (tgt := 556) hx hb dX7_fits_1 (by rw [c85]; decide) (by rw [c85]; decide) (by rw [c85]; decide) (by decide) ?_
    exact (db_X7_fits_556 C K)  s0 _ _ _ h hP hD hS (lv_sub hl [] rfl)
  have h := nd_neg h c85
  by_cases c86 : v0 = 108
  · have h := nd_pos h c86
    refine lv_tableIn (off := 555) (tgt := 556) hx hb dX7_fits_1 (by rw [c86]; decide) (by rw [c86]; decide) (by rw [c86]; decide) (by decide) ?_
    exact (db_X7_fits_556 C K)  s0 _ _ _ h hP hD hS (lv_sub hl [] rfl)
  have h := nd_neg h c86
  by_cases c87 : v0 = 109
  · have h := nd_pos h c87
    refine lv_tableIn (off := 229) (tgt := 230) hx hb dX7_fits_1 (by rw [c87]; decide) (by rw [c87]; decide) (by rw [c87]; decide) (by decide) ?_
    refine lv_iload_n hx hb dX7_fits_230 rfl (lv_at hl 1 rfl) ?_
    refine lv_iconst (v := 2) hx hb dX7_fits_231 (by decide) ?_
    refine lv_icmp_eq (tgt := 239) hx hb dX7_fits_232 (by decide) (fun c88 => ?_) (fun c88 => ?_)
    · have h := nd_pos h c88
      refine lv_iconst (v := 0) hx hb dX7_fits_239 (by decide) ?_
      exact (db_X7_fits_240 C K) (0) s0 _ _ _ h hP hD hS (lv_sub hl [] rfl)
    · have h := nd_neg h c88
      refine lv_iconst (v := 1) hx hb dX7_fits_235 (by decide) ?_
      refine lv_goto (tgt := 240) hx hb dX7_fits_236 (by decide) ?_
      exact (db_X7_fits_240 C K) (1) s0 _ _ _ h hP hD hS (lv_sub hl [] rfl)
  have h := nd_neg h c87
  by_cases c90 : v0 = 110
  · have h := nd_pos h c90
    refine lv_tableIn (off := 219) (tgt := 220) hx hb dX7_fits_1 (by rw [c90]; decide) (by rw [c90]; decide) (by rw [c90]; decide) (by decide) ?_
    exact (db_X7_fits_220 C K) (v1) s0 _ _ _ h hP hD hS (lv_sub hl [1] rfl)
  have h := nd_neg h c90
  by_cases c93 : v0 = 111
  · have h := nd_pos h c93
    refine lv_tableIn (off := 555) (tgt := 556) hx hb dX7_fits_1 (by rw [c93]; decide) (by rw [c93]; decide) (by rw [c93]; decide) (by decide) ?_
    exact (db_X7_fits_556 C K)  s0 _ _ _ h hP hD hS (lv_sub hl [] rfl)
  have h := nd_neg h c93
  by_cases c94 : v0 = 112
  · have h := nd_pos h c94
    refine lv_tableIn (off := 240) (tgt := 241) hx hb dX7_fits_1 (by rw [c94]; decide) (by rw [c94]; decide) (by rw [c94]; decide) (by decide) ?_
    exact (db_X7_fits_241 C K) (v1) s0 _ _ _ h hP hD hS (lv_sub hl [1] rfl)
  have h := nd_neg h c94
  by_cases c98 : v0 = 113
  · have h := nd_pos h c98
    refine lv_tableIn (off := 240) (tgt := 241) hx hb dX7_fits_1 (by rw [c98]; decide) (by rw [c98]; decide) (by rw [c98]; decide) (by decide) ?_
    exact (db_X7_fits_241 C K) (v1) s0 _ _ _ h hP hD hS (lv_sub hl [1] rfl)
  have h := nd_neg h c98
  by_cases c99 : v0 = 114
  · have h := nd_pos h c99
    refine lv_tableIn (off := 555) (tgt := 556) hx hb dX7_fits_1 (by rw [c99]; decide) (by rw [c99]; decide) (by rw [c99]; decide) (by decide) ?_
    exact (db_X7_fits_556 C K)  s0 _ _ _ h hP hD hS (lv_sub hl [] rfl)
  have h := nd_neg h c99
  by_cases c100 : v0 = 115
  · have h := nd_pos h c100
    refine lv_tableIn (off := 555) (tgt := 556) hx hb dX7_fits_1 (by rw [c100]; decide) (by rw [c100]; decide) (by rw [c100]; decide) (by decide) ?_
    exact (db_X7_fits_556 C K)  s0 _ _ _ h hP hD hS (lv_sub hl [] rfl)
  have h := nd_neg h c100
  by_cases c101 : v0 = 116
  · have h := nd_pos h c101
    refine lv_tableIn (off := 555) (tgt := 556) hx hb dX7_fits_1 (by rw [c101]; decide) (by rw [c101]; decide) (by rw [c101]; decide) (by decide) ?_
    exact (db_X7_fits_556 C K)  s0 _ _ _ h hP hD hS (lv_sub hl [] rfl)
  have h := nd_neg h c101
  by_cases c102 : v0 = 117
  · have h := nd_pos h c102
    refine lv_tableIn (off := 555) (tgt := 556) hx hb dX7_fits_1 (by rw [c102]; decide) (by rw [c102]; decide) (by rw [c102]; decide) (by decide) ?_
    exact (db_X7_fits_556 C K)  s0 _ _ _ h hP hD hS (lv_sub hl [] rfl)
  have h := nd_neg h c102
  by_cases c103 : v0 = 118
  · have h := nd_pos h c103
    refine lv_tableIn (off := 555) (tgt := 556) hx hb dX7_fits_1 (by rw [c103]; decide) (by rw [c103]; decide) (by rw [c103]; decide) (by decide) ?_
    exact (db_X7_fits_556 C K)  s0 _ _ _ h hP hD hS (lv_sub hl [] rfl)
  have h := nd_neg h c103
  by_cases c104 : v0 = 119
  · have h := nd_pos h c104
    refine lv_tableIn (off := 555) (tgt := 556) hx hb dX7_fits_1 (by rw [c104]; decide) (by rw [c104]; decide) (by rw [c104]; decide) (by decide) ?_
    exact (db_X7_fits_556 C K)  s0 _ _ _ h hP hD hS (lv_sub hl [] rfl)
  have h := nd_neg h c104
  by_cases c105 : v0 = 120
  · have h := nd_pos h c105
    refine lv_tableIn (off := 555) (tgt := 556) hx hb dX7_fits_1 (by rw [c105]; decide) (by rw [c105]; decide) (by rw [c105]; decide) (by decide) ?_
    exact (db_X7_fits_556 C K)  s0 _ _ _ h hP hD hS (lv_sub hl [] rfl)
  have h := nd_neg h c105
  by_cases c106 : v0 = 121
  · have h := nd_pos h c106
    refine lv_tableIn (off := 555) (tgt := 556) hx hb dX7_fits_1 (by rw [c106]; decide) (by rw [c106]; decide) (by rw [c106]; decide) (by decide) ?_
    exact (db_X7_fits_556 C K)  s0 _ _ _ h hP hD hS (lv_sub hl [] rfl)
  have h := nd_neg h c106
  by_cases c107 : v0 = 122
  · have h := nd_pos h c107
    refine lv_tableIn (off := 219) (tgt := 220) hx hb dX7_fits_1 (by rw [c107]; decide) (by rw [c107]; decide) (by rw [c107]; decide) (by decide) ?_
    exact (db_X7_fits_220 C K) (v1) s0 _ _ _ h hP hD hS (lv_sub hl [1] rfl)
  have h := nd_neg h c107
  refine lv_tableOut (tgt := 556) hx hb dX7_fits_1 (by have g0 := nv_nei c1 (k := 72) (by decide); have g1 := nv_nei c5 (k := 73) (by decide); have g2 := nv_nei c9 (k := 74) (by decide); have g3 := nv_nei c14 (k := 75) (by decide); have g4 := nv_nei c19 (k := 76) (by decide); have g5 := nv_nei c24 (k := 77) (by decide); have g6 := nv_nei c29 (k := 78) (by decide); have g7 := nv_nei c33 (k := 79) (by decide); have g8 := nv_nei c34 (k := 80) (by decide); have g9 := nv_nei c39 (k := 81) (by decide); have g10 := nv_nei c40 (k := 82) (by decide); have g11 := nv_nei c41 (k := 83) (by decide); have g12 := nv_nei c42 (k := 84) (by decide); have g13 := nv_nei c47 (k := 85) (by decide); have g14 := nv_nei c51 (k := 86) (by decide); have g15 := nv_nei c52 (k := 87) (by decide); have g16 := nv_nei c57 (k := 88) (by decide); have g17 := nv_nei c62 (k := 89) (by decide); have g18 := nv_nei c68 (k := 90) (by decide); have g19 := nv_nei c69 (k := 91) (by decide); have g20 := nv_nei c70 (k := 92) (by decide); have g21 := nv_nei c71 (k := 93) (by decide); have g22 := nv_nei c72 (k := 94) (by decide); have g23 := nv_nei c73 (k := 95) (by decide); have g24 := nv_nei c74 (k := 96) (by decide); have g25 := nv_nei c75 (k := 97) (by decide); have g26 := nv_nei c76 (k := 98) (by decide); have g27 := nv_nei c77 (k := 99) (by decide); have g28 := nv_nei c78 (k := 100) (by decide); have g29 := nv_nei c79 (k := 101) (by decide); have g30 := nv_nei c80 (k := 102) (by decide); have g31 := nv_nei c81 (k := 103) (by decide); have g32 := nv_nei c82 (k := 104) (by decide); have g33 := nv_nei c83 (k := 105) (by decide); have g34 := nv_nei c84 (k := 106) (by decide); have g35 := nv_nei c85 (k := 107) (by decide); have g36 := nv_nei c86 (k := 108) (by decide); have g37 := nv_nei c87 (k := 109) (by decide); have g38 := nv_nei c90 (k := 110) (by decide); have g39 := nv_nei c93 (k := 111) (by decide); have g40 := nv_nei c94 (k := 112) (by decide); have g41 := nv_nei c98 (k := 113) (by decide); have g42 := nv_nei c99 (k := 114) (by decide); have g43 := nv_nei c100 (k := 115) (by decide); have g44 := nv_nei c101 (k := 116) (by decide); have g45 := nv_nei c102 (k := 117) (by decide); have g46 := nv_nei c103 (k := 118) (by decide); have g47 := nv_nei c104 (k := 119) (by decide); have g48 := nv_nei c105 (k := 120) (by decide); have g49 := nv_nei c106 (k := 121) (by decide); have g50 := nv_nei c107 (k := 122) (by decide); omega) (by decide) ?_
  exact (db_X7_fits_556 C K)  s0 _ _ _ h hP hD hS (lv_sub hl [] rfl)
set_option maxHeartbeats 40000000 in
set_option maxRecDepth 100000 in
theorem dm_X7_fits (l : Launch) (hlt : l.stackTraces = false) (dC : Nat → ClassId) (dI : Nat → Nat → Nat) (a : Nat → Nat) (ac : Nat → ClassId) (n : Nat) (v0 : Int32) (v1 : Int32) (s0 : Unit) {r : Int32 × (Unit)} (h : df_X7_fits n v0 v1 s0 = some r) (sz : Nat) : Met l yX7_fits ow_dm_X7_fits ({ frames := 0, cells := 0, slots := 0, locals := 0 }) (va_Pc [.int v0, .int v1] (fun U => U.heap.size = sz ∧ va_P (dC, dI) vwCl (dw_P a ac s0) U.heap ∧ va_K (dC, dI) vwCl (dk_P ac) U ∧ va_D (fun _ => True) (dw_P a ac s0) ∧ nv_E (va_A (dw_P a ac s0) sz) U)) (va_Qi (fun x _ => x = r.1) (fun (_ : Unit) t => va_P (dC, dI) vwCl (dw_P a ac r.2) t.heap ∧ va_K (dC, dI) vwCl (dk_P ac) t ∧ va_D (va_A (dw_P a ac s0) sz) (dw_P a ac r.2)) (va_A (dw_P a ac s0) sz)) 0 0 (va_A (dw_P a ac s0) sz) := by
  refine Met.ofW (cc := cX7_fits) (maxL := 2) (ret := (some .boolean)) (by decide) rfl ?_
  intro p e s m args below meth c s₁ B hml hv
  obtain ⟨rfl, hsz, hP, hK, hD0, hN⟩ := hv
  have hx := B.exec
  have hb := B.bytes
  have hr := B.returns
  have hts := atoms_spec (ws := ow_dm_X7_fits) B.pre
  have hown : s.vm.findClass RX7 = some m.cls := findClass_of_methodNamed B.named
  have hlocks := B.notSynchronized
  subst hsz
  have hD := hD0.self (sz := s.heap.size)
  generalize hAe : va_A (dw_P a ac s0) s.heap.size = A at hD hN ⊢
  have hA : ∀ q : Nat, s.heap.size ≤ q → A q := fun q h => by rw [← hAe]; exact Or.inr h
  have hl := lv_entry ([.int v0, .int v1]) (n := 2) (Nat.le_of_ble_eq_true rfl)
  rw [lg_entry_eq]
  generalize (lg_sl ([.int v0, .int v1]) ++ List.replicate (2 - (lg_sl ([.int v0, .int v1])).length) Slot.unset).toArray = ls at hl ⊢
  have hl : lv_has ls 2 [(0, .int v0), (1, .int v1)] := hl
  exact db_X7_fits_0 (dC := dC) (dI := dI) (a := a) (ac := ac) (n := n) (r := r) ⟨hlt, hx, hb, hml, hown, hts, hN, hA, hK⟩ (fun pc v τ H locs ls d z er hP hD hS => by subst er; exact W.zret (v := v) hx hb hr z (fun t ht hW => ⟨⟨v, (), rfl, rfl, by rw [ht]; exact hP, va_K.moved hW.alike hK, hD⟩, hS.F ht⟩) hS.2.2 d) v0 v1 s0 _ _ _ h hP hD va_S.rf (lv_sub hl [0, 1] rfl)
def ow_dm_X7_part : List Cond := .code yX7_part cX7_part 4 (some .int) :: ([] ++ [])
theorem gd_dm_X7_part : ∀ w ∈ ow_dm_X7_part, (w.onTables && w.keeps) = true ∨ ∃ ty, w = Cond.arrayClass ty := List.forall_mem_cons.mpr ⟨good_of_word rfl, List.forall_mem_append.mpr ⟨fun w h => good_of_word (List.all_eq_true.mp (by decide +kernel) w h), fun _ h => nomatch h⟩⟩
def dj_X7_part_0 (p : Program) (l : Launch) (e : Env) (s : State) (m : MethodId) (args : Array Value) (below : List Frame) (meth : Method) (c : Code) (Q : State → Prop) (A : Nat → Prop) (dC : Nat → ClassId) (dI : Nat → Nat → Nat) (a : Nat → Nat) (ac : Nat → ClassId) (g : Int32 → Int32 → Int32 → Int32 → (Unit) → Option (Int32 × (Unit))) (r : Int32 × (Unit)) : Prop := ∀ (v0 : Int32) (v1 : Int32) (v2 : Int32) (v3 : Int32) (s0 : Unit) (H : Heap) (locs : List Loc) (ls : Array Slot), g v0 v1 v2 v3 s0 = some r → va_P (dC, dI) vwCl (dw_P a ac s0) H → va_D A (dw_P a ac s0) → va_S A s.heap H locs → lv_has ls 4 [(0, .int v0), (1, .int v1), (2, .int v2), (3, .int v3)] → W p l e (headSpec ow_dm_X7_part ({ frames := 0, cells := 0, slots := 0, locals := 0 })).room s m args below meth c H locs 0 0 Q (F0 m 0 ls [])
set_option maxHeartbeats 40000000 in
set_option maxRecDepth 100000 in
theorem db_X7_part_0 {p : Program} {l : Launch} {e : Env} {s : State} {m : MethodId} {args : Array Value} {below : List Frame} {meth : Method} {c : Code} {Q : State → Prop} {A : Nat → Prop} {dC : Nat → ClassId} {dI : Nat → Nat → Nat} {a : Nat → Nat} {ac : Nat → ClassId} {n : Nat} {r : Int32 × (Unit)} (C : nd_C p l s m args c A (dC, dI) cX7_part 4 RX7 ow_dm_X7_part (dk_P ac)) (K : nd_Ki p l e (headSpec ow_dm_X7_part ({ frames := 0, cells := 0, slots := 0, locals := 0 })).room s m args below meth c Q A (dC, dI) cX7_part .int (Unit) (dw_P a ac) r) : dj_X7_part_0 p l e s m args below meth c Q A dC dI a ac (df_X7_part_0 n) r := by
  obtain ⟨hlt, hx, hb, hml, hown, hts, hN, hA, hK⟩ := id C
  intro v0 v1 v2 v3 s0 H locs ls h hP hD hS hl
  unfold df_X7_part_0 at h
  refine lv_iload_n hx hb dX7_part_0 rfl (lv_at hl 0 rfl) ?_
  refine lv_iload_n hx hb dX7_part_1 rfl (lv_at hl 1 rfl) ?_
  refine lv_ishr hx hb dX7_part_2 ?_
  refine lv_iconst (v := 1) hx hb dX7_part_3 (by decide) ?_
  refine lv_iload_n hx hb dX7_part_4 rfl (lv_at hl 2 rfl) ?_
  refine lv_ishl hx hb dX7_part_5 ?_
  refine lv_iconst (v := 1) hx hb dX7_part_6 (by decide) ?_
  refine lv_isub hx hb dX7_part_7 ?_
  refine lv_iand hx hb dX7_part_8 ?_
  refine lv_iload_n hx hb dX7_part_9 rfl (lv_at hl 3 rfl) ?_
  refine lv_ishl hx hb dX7_part_10 ?_
  exact K _ _ _ _ _ _ dX7_part_11 rfl (Option.some.inj h).symm hP hD hS
set_option maxHeartbeats 40000000 in
set_option maxRecDepth 100000 in
theorem dm_X7_part (l : Launch) (hlt : l.stackTraces = false) (dC : Nat → ClassId) (dI : Nat → Nat → Nat) (a : Nat → Nat) (ac : Nat → ClassId) (n : Nat) (v0 : Int32) (v1 : Int32) (v2 : Int32) (v3 : Int32) (s0 : Unit) {r : Int32 × (Unit)} (h : df_X7_part n v0 v1 v2 v3 s0 = some r) (sz : Nat) : Met l yX7_part ow_dm_X7_part ({ frames := 0, cells := 0, slots := 0, locals := 0 }) (va_Pc [.int v0, .int v1, .int v2, .int v3] (fun U => U.heap.size = sz ∧ va_P (dC, dI) vwCl (dw_P a ac s0) U.heap ∧ va_K (dC, dI) vwCl (dk_P ac) U ∧ va_D (fun _ => True) (dw_P a ac s0) ∧ nv_E (va_A (dw_P a ac s0) sz) U)) (va_Qi (fun x _ => x = r.1) (fun (_ : Unit) t => va_P (dC, dI) vwCl (dw_P a ac r.2) t.heap ∧ va_K (dC, dI) vwCl (dk_P ac) t ∧ va_D (va_A (dw_P a ac s0) sz) (dw_P a ac r.2)) (va_A (dw_P a ac s0) sz)) 0 0 (va_A (dw_P a ac s0) sz) := by
  refine Met.ofW (cc := cX7_part) (maxL := 4) (ret := (some .int)) (by decide) rfl ?_
  intro p e s m args below meth c s₁ B hml hv
  obtain ⟨rfl, hsz, hP, hK, hD0, hN⟩ := hv
  have hx := B.exec
  have hb := B.bytes
  have hr := B.returns
  have hts := atoms_spec (ws := ow_dm_X7_part) B.pre
  have hown : s.vm.findClass RX7 = some m.cls := findClass_of_methodNamed B.named
  have hlocks := B.notSynchronized
  subst hsz
  have hD := hD0.self (sz := s.heap.size)
  generalize hAe : va_A (dw_P a ac s0) s.heap.size = A at hD hN ⊢
  have hA : ∀ q : Nat, s.heap.size ≤ q → A q := fun q h => by rw [← hAe]; exact Or.inr h
  have hl := lv_entry ([.int v0, .int v1, .int v2, .int v3]) (n := 4) (Nat.le_of_ble_eq_true rfl)
  rw [lg_entry_eq]
  generalize (lg_sl ([.int v0, .int v1, .int v2, .int v3]) ++ List.replicate (4 - (lg_sl ([.int v0, .int v1, .int v2, .int v3])).length) Slot.unset).toArray = ls at hl ⊢
  have hl : lv_has ls 4 [(0, .int v0), (1, .int v1), (2, .int v2), (3, .int v3)] := hl
  exact db_X7_part_0 (dC := dC) (dI := dI) (a := a) (ac := ac) (n := n) (r := r) ⟨hlt, hx, hb, hml, hown, hts, hN, hA, hK⟩ (fun pc v τ H locs ls d z er hP hD hS => by subst er; exact W.zret (v := v) hx hb hr z (fun t ht hW => ⟨⟨v, (), rfl, rfl, by rw [ht]; exact hP, va_K.moved hW.alike hK, hD⟩, hS.F ht⟩) hS.2.2 d) v0 v1 v2 v3 s0 _ _ _ h hP hD va_S.rf (lv_sub hl [0, 1, 2, 3] rfl)
def ow_dm_X7_placedShort : List Cond := .code yX7_placedShort cX7_placedShort 2 (some .int) :: ([.methodLink RX7 466 yX7_part, .static yX7_part, .initialized RX7] ++ (ow_dm_X7_part ++ []))
theorem gd_dm_X7_placedShort : ∀ w ∈ ow_dm_X7_placedShort, (w.onTables && w.keeps) = true ∨ ∃ ty, w = Cond.arrayClass ty := List.forall_mem_cons.mpr ⟨good_of_word rfl, List.forall_mem_append.mpr ⟨fun w h => good_of_word (List.all_eq_true.mp (by decide +kernel) w h), List.forall_mem_append.mpr ⟨gd_dm_X7_part, fun _ h => nomatch h⟩⟩⟩
theorem gi_dm_X7_placedShort_0 : GoodIn ow_dm_X7_placedShort (wsS RX7 466 yX7_part ow_dm_X7_part) := goodIn_app (goodIn_of _ (by decide +kernel)) (fun w h => ⟨List.mem_cons_of_mem _ (List.mem_append_right _ (List.mem_append_left _ h)), gd_dm_X7_part w h⟩)
def dj_X7_placedShort_195 (p : Program) (l : Launch) (e : Env) (s : State) (m : MethodId) (args : Array Value) (below : List Frame) (meth : Method) (c : Code) (Q : State → Prop) (A : Nat → Prop) (dC : Nat → ClassId) (dI : Nat → Nat → Nat) (a : Nat → Nat) (ac : Nat → ClassId) (g : Int32 → (Unit) → Option (Int32 × (Unit))) (r : Int32 × (Unit)) : Prop := ∀ (x1 : Int32) (s0 : Unit) (H : Heap) (locs : List Loc) (ls : Array Slot), g x1 s0 = some r → va_P (dC, dI) vwCl (dw_P a ac s0) H → va_D A (dw_P a ac s0) → va_S A s.heap H locs → lv_has ls 2 [(1, .int x1)] → W p l e (headSpec ow_dm_X7_placedShort ({ frames := 1, cells := 0, slots := 0, locals := 23 })).room s m args below meth c H locs 0 0 Q (F0 m 195 ls [])
def dj_X7_placedShort_373 (p : Program) (l : Launch) (e : Env) (s : State) (m : MethodId) (args : Array Value) (below : List Frame) (meth : Method) (c : Code) (Q : State → Prop) (A : Nat → Prop) (dC : Nat → ClassId) (dI : Nat → Nat → Nat) (a : Nat → Nat) (ac : Nat → ClassId) (g : (Unit) → Option (Int32 × (Unit))) (r : Int32 × (Unit)) : Prop := ∀ (s0 : Unit) (H : Heap) (locs : List Loc) (ls : Array Slot), g s0 = some r → va_P (dC, dI) vwCl (dw_P a ac s0) H → va_D A (dw_P a ac s0) → va_S A s.heap H locs → lv_has ls 2 [] → W p l e (headSpec ow_dm_X7_placedShort ({ frames := 1, cells := 0, slots := 0, locals := 23 })).room s m args below meth c H locs 0 0 Q (F0 m 373 ls [])
def dj_X7_placedShort_0 (p : Program) (l : Launch) (e : Env) (s : State) (m : MethodId) (args : Array Value) (below : List Frame) (meth : Method) (c : Code) (Q : State → Prop) (A : Nat → Prop) (dC : Nat → ClassId) (dI : Nat → Nat → Nat) (a : Nat → Nat) (ac : Nat → ClassId) (g : Int32 → Int32 → (Unit) → Option (Int32 × (Unit))) (r : Int32 × (Unit)) : Prop := ∀ (v0 : Int32) (v1 : Int32) (s0 : Unit) (H : Heap) (locs : List Loc) (ls : Array Slot), g v0 v1 s0 = some r → va_P (dC, dI) vwCl (dw_P a ac s0) H → va_D A (dw_P a ac s0) → va_S A s.heap H locs → lv_has ls 2 [(0, .int v0), (1, .int v1)] → W p l e (headSpec ow_dm_X7_placedShort ({ frames := 1, cells := 0, slots := 0, locals := 23 })).room s m args below meth c H locs 0 0 Q (F0 m 0 ls [])
set_option maxHeartbeats 40000000 in
set_option maxRecDepth 100000 in
theorem db_X7_placedShort_195 {p : Program} {l : Launch} {e : Env} {s : State} {m : MethodId} {args : Array Value} {below : List Frame} {meth : Method} {c : Code} {Q : State → Prop} {A : Nat → Prop} {dC : Nat → ClassId} {dI : Nat → Nat → Nat} {a : Nat → Nat} {ac : Nat → ClassId} {n : Nat} {r : Int32 × (Unit)} (C : nd_C p l s m args c A (dC, dI) cX7_placedShort 2 RX7 ow_dm_X7_placedShort (dk_P ac)) (K : nd_Ki p l e (headSpec ow_dm_X7_placedShort ({ frames := 1, cells := 0, slots := 0, locals := 23 })).room s m args below meth c Q A (dC, dI) cX7_placedShort .int (Unit) (dw_P a ac) r) : dj_X7_placedShort_195 p l e s m args below meth c Q A dC dI a ac (df_X7_placedShort_195 n) r := by
  obtain ⟨hlt, hx, hb, hml, hown, hts, hN, hA, hK⟩ := id C
  intro x1 s0 H locs ls h hP hD hS hl
  unfold df_X7_placedShort_195 at h
  refine lv_iload_n hx hb dX7_placedShort_195 rfl (lv_at hl 0 rfl) ?_
  refine lv_iconst (v := 5) hx hb dX7_placedShort_196 (by decide) ?_
  refine lv_iconst (v := 1) hx hb dX7_placedShort_197 (by decide) ?_
  refine lv_bipush (v := 12) hx hb dX7_placedShort_198 (by decide) ?_
  obtain ⟨q43, s44, hq, h⟩ := nd_b2_e h
  have hPc : va_P (dC, dI) vwCl (dw_P a ac ()) H := nd_p0
  have hDc : va_D A (dw_P a ac ()) := nd_d0
  have hKc : va_K (dC, dI) vwCl (dk_P ac) s := nd_y0 hK
  have hFc : ∀ q, va_A (dw_P a ac ()) H.size q → A q := nd_r0 hS hA
  refine nd_cSi (As := [.int x1, .int 5, .int 1, .int 12]) (rest := []) (q := q43) (w' := dw_P a ac s44) ⟨hx, hb, hml, hown, hts⟩ (fun sz => dm_X7_part l hlt dC dI a ac n (x1) (5) (1) (12) () hq sz) (cwS 4 hts gi_dm_X7_placedShort_0 rfl rfl rfl (by decide +kernel) ⟨Nat.le_of_ble_eq_true rfl, Nat.le_of_ble_eq_true rfl⟩) hPc hDc hKc hS hA hN rfl hl.1 rfl (Nat.le_of_ble_eq_true rfl) dX7_placedShort_200 (fun H locs hP1 hD1 hk1 hS => ?_)
  have hP := nd_n0 hP hk1
  refine lv_iload_n hx hb dX7_placedShort_203 rfl (lv_at hl 0 rfl) ?_
  refine lv_iconst (v := 0) hx hb dX7_placedShort_204 (by decide) ?_
  refine lv_iconst (v := 5) hx hb dX7_placedShort_205 (by decide) ?_
  refine lv_iconst (v := 2) hx hb dX7_placedShort_206 (by decide) ?_
  obtain ⟨q46, s47, hq, h⟩ := nd_b2_e h
  have hPc : va_P (dC, dI) vwCl (dw_P a ac ()) H := nd_p0
  have hDc : va_D A (dw_P a ac ()) := nd_d0
  have hKc : va_K (dC, dI) vwCl (dk_P ac) s := nd_y0 hK
  have hFc : ∀ q, va_A (dw_P a ac ()) H.size q → A q := nd_r0 hS hA
  refine nd_cSi (As := [.int x1, .int 0, .int 5, .int 2]) (rest := [.int q43]) (q := q46) (w' := dw_P a ac s47) ⟨hx, hb, hml, hown, hts⟩ (fun sz => dm_X7_part l hlt dC dI a ac n (x1) (0) (5) (2) () hq sz) (cwS 4 hts gi_dm_X7_placedShort_0 rfl rfl rfl (by decide +kernel) ⟨Nat.le_of_ble_eq_true rfl, Nat.le_of_ble_eq_true rfl⟩) hPc hDc hKc hS hA hN rfl hl.1 rfl (Nat.le_of_ble_eq_true rfl) dX7_placedShort_207 (fun H locs hP1 hD1 hk1 hS => ?_)
  have hP := nd_n0 hP hk1
  refine lv_ior hx hb dX7_placedShort_210 ?_
  exact K _ _ _ _ _ _ dX7_placedShort_211 rfl (Option.some.inj h).symm hP hD hS
set_option maxHeartbeats 40000000 in
set_option maxRecDepth 100000 in
theorem db_X7_placedShort_373 {p : Program} {l : Launch} {e : Env} {s : State} {m : MethodId} {args : Array Value} {below : List Frame} {meth : Method} {c : Code} {Q : State → Prop} {A : Nat → Prop} {dC : Nat → ClassId} {dI : Nat → Nat → Nat} {a : Nat → Nat} {ac : Nat → ClassId} {n : Nat} {r : Int32 × (Unit)} (C : nd_C p l s m args c A (dC, dI) cX7_placedShort 2 RX7 ow_dm_X7_placedShort (dk_P ac)) (K : nd_Ki p l e (headSpec ow_dm_X7_placedShort ({ frames := 1, cells := 0, slots := 0, locals := 23 })).room s m args below meth c Q A (dC, dI) cX7_placedShort .int (Unit) (dw_P a ac) r) : dj_X7_placedShort_373 p l e s m args below meth c Q A dC dI a ac (df_X7_placedShort_373 n) r := by
  obtain ⟨hlt, hx, hb, hml, hown, hts, hN, hA, hK⟩ := id C
  intro s0 H locs ls h hP hD hS hl
  unfold df_X7_placedShort_373 at h
  refine lv_iconst (v := 0) hx hb dX7_placedShort_373 (by decide) ?_
  exact K _ _ _ _ _ _ dX7_placedShort_374 rfl (Option.some.inj h).symm hP hD hS
set_option maxHeartbeats 40000000 in
set_option maxRecDepth 100000 in
theorem db_X7_placedShort_0 {p : Program} {l : Launch} {e : Env} {s : State} {m : MethodId} {args : Array Value} {below : List Frame} {meth : Method} {c : Code} {Q : State → Prop} {A : Nat → Prop} {dC : Nat → ClassId} {dI : Nat → Nat → Nat} {a : Nat → Nat} {ac : Nat → ClassId} {n : Nat} {r : Int32 × (Unit)} (C : nd_C p l s m args c A (dC, dI) cX7_placedShort 2 RX7 ow_dm_X7_placedShort (dk_P ac)) (K : nd_Ki p l e (headSpec ow_dm_X7_placedShort ({ frames := 1, cells := 0, slots := 0, locals := 23 })).room s m args below meth c Q A (dC, dI) cX7_placedShort .int (Unit) (dw_P a ac) r) : dj_X7_placedShort_0 p l e s m args below meth c Q A dC dI a ac (df_X7_placedShort_0 n) r := by
  obtain ⟨hlt, hx, hb, hml, hown, hts, hN, hA, hK⟩ := id C
  intro v0 v1 s0 H locs ls h hP hD hS hl
  unfold df_X7_placedShort_0 at h
  refine lv_iload_n hx hb dX7_placedShort_0 rfl (lv_at hl 0 rfl) ?_
  by_cases c1 : v0 = 75
  · have h := nd_pos h c1
    refine lv_tableIn (off := 75) (tgt := 76) hx hb dX7_placedShort_1 (by rw [c1]; decide) (by rw [c1]; decide) (by rw [c1]; decide) (by decide) ?_
    refine lv_iload_n hx hb dX7_placedShort_76 rfl (lv_at hl 1 rfl) ?_
    refine lv_bipush (v := 11) hx hb dX7_placedShort_77 (by decide) ?_
    refine lv_iconst (v := 1) hx hb dX7_placedShort_79 (by decide) ?_
    refine lv_bipush (v := 12) hx hb dX7_placedShort_80 (by decide) ?_
    obtain ⟨q2, s3, hq, h⟩ := nd_b2_e h
    have hPc : va_P (dC, dI) vwCl (dw_P a ac ()) H := nd_p0
    have hDc : va_D A (dw_P a ac ()) := nd_d0
    have hKc : va_K (dC, dI) vwCl (dk_P ac) s := nd_y0 hK
    have hFc : ∀ q, va_A (dw_P a ac ()) H.size q → A q := nd_r0 hS hA
    refine nd_cSi (As := [.int v1, .int 11, .int 1, .int 12]) (rest := []) (q := q2) (w' := dw_P a ac s3) ⟨hx, hb, hml, hown, hts⟩ (fun sz => dm_X7_part l hlt dC dI a ac n (v1) (11) (1) (12) () hq sz) (cwS 4 hts gi_dm_X7_placedShort_0 rfl rfl rfl (by decide +kernel) ⟨Nat.le_of_ble_eq_true rfl, Nat.le_of_ble_eq_true rfl⟩) hPc hDc hKc hS hA hN rfl hl.1 rfl (Nat.le_of_ble_eq_true rfl) dX7_placedShort_82 (fun H locs hP1 hD1 hk1 hS => ?_)
    have hP := nd_n0 hP hk1
    refine lv_iload_n hx hb dX7_placedShort_85 rfl (lv_at hl 1 rfl) ?_
    refine lv_iconst (v := 4) hx hb dX7_placedShort_86 (by decide) ?_
    refine lv_iconst (v := 1) hx hb dX7_placedShort_87 (by decide) ?_
    refine lv_bipush (v := 11) hx hb dX7_placedShort_88 (by decide) ?_
    obtain ⟨q5, s6, hq, h⟩ := nd_b2_e h
    have hPc : va_P (dC, dI) vwCl (dw_P a ac ()) H := nd_p0
    have hDc : va_D A (dw_P a ac ()) := nd_d0
    have hKc : va_K (dC, dI) vwCl (dk_P ac) s := nd_y0 hK
    have hFc : ∀ q, va_A (dw_P a ac ()) H.size q → A q := nd_r0 hS hA
    refine nd_cSi (As := [.int v1, .int 4, .int 1, .int 11]) (rest := [.int q2]) (q := q5) (w' := dw_P a ac s6) ⟨hx, hb, hml, hown, hts⟩ (fun sz => dm_X7_part l hlt dC dI a ac n (v1) (4) (1) (11) () hq sz) (cwS 4 hts gi_dm_X7_placedShort_0 rfl rfl rfl (by decide +kernel) ⟨Nat.le_of_ble_eq_true rfl, Nat.le_of_ble_eq_true rfl⟩) hPc hDc hKc hS hA hN rfl hl.1 rfl (Nat.le_of_ble_eq_true rfl) dX7_placedShort_90 (fun H locs hP1 hD1 hk1 hS => ?_)
    have hP := nd_n0 hP hk1
    refine lv_ior hx hb dX7_placedShort_93 ?_
    refine lv_iload_n hx hb dX7_placedShort_94 rfl (lv_at hl 1 rfl) ?_
    refine lv_bipush (v := 8) hx hb dX7_placedShort_95 (by decide) ?_
    refine lv_iconst (v := 2) hx hb dX7_placedShort_97 (by decide) ?_
    refine lv_bipush (v := 9) hx hb dX7_placedShort_98 (by decide) ?_
    obtain ⟨q8, s9, hq, h⟩ := nd_b2_e h
    have hPc : va_P (dC, dI) vwCl (dw_P a ac ()) H := nd_p0
    have hDc : va_D A (dw_P a ac ()) := nd_d0
    have hKc : va_K (dC, dI) vwCl (dk_P ac) s := nd_y0 hK
    have hFc : ∀ q, va_A (dw_P a ac ()) H.size q → A q := nd_r0 hS hA
    refine nd_cSi (As := [.int v1, .int 8, .int 2, .int 9]) (rest := [.int (q2 ||| q5)]) (q := q8) (w' := dw_P a ac s9) ⟨hx, hb, hml, hown, hts⟩ (fun sz => dm_X7_part l hlt dC dI a ac n (v1) (8) (2) (9) () hq sz) (cwS 4 hts gi_dm_X7_placedShort_0 rfl rfl rfl (by decide +kernel) ⟨Nat.le_of_ble_eq_true rfl, Nat.le_of_ble_eq_true rfl⟩) hPc hDc hKc hS hA hN rfl hl.1 rfl (Nat.le_of_ble_eq_true rfl) dX7_placedShort_100 (fun H locs hP1 hD1 hk1 hS => ?_)
    have hP := nd_n0 hP hk1
    refine lv_ior hx hb dX7_placedShort_103 ?_
    refine lv_iload_n hx hb dX7_placedShort_104 rfl (lv_at hl 1 rfl) ?_
    refine lv_bipush (v := 10) hx hb dX7_placedShort_105 (by decide) ?_
    refine lv_iconst (v := 1) hx hb dX7_placedShort_107 (by decide) ?_
    refine lv_bipush (v := 8) hx hb dX7_placedShort_108 (by decide) ?_
    obtain ⟨q11, s12, hq, h⟩ := nd_b2_e h
    have hPc : va_P (dC, dI) vwCl (dw_P a ac ()) H := nd_p0
    have hDc : va_D A (dw_P a ac ()) := nd_d0
    have hKc : va_K (dC, dI) vwCl (dk_P ac) s := nd_y0 hK
    have hFc : ∀ q, va_A (dw_P a ac ()) H.size q → A q := nd_r0 hS hA
    refine nd_cSi (As := [.int v1, .int 10, .int 1, .int 8]) (rest := [.int ((q2 ||| q5) ||| q8)]) (q := q11) (w' := dw_P a ac s12) ⟨hx, hb, hml, hown, hts⟩ (fun sz => dm_X7_part l hlt dC dI a ac n (v1) (10) (1) (8) () hq sz) (cwS 4 hts gi_dm_X7_placedShort_0 rfl rfl rfl (by decide +kernel) ⟨Nat.le_of_ble_eq_true rfl, Nat.le_of_ble_eq_true rfl⟩) hPc hDc hKc hS hA hN rfl hl.1 rfl (Nat.le_of_ble_eq_true rfl) dX7_placedShort_110 (fun H locs hP1 hD1 hk1 hS => ?_)
    have hP := nd_n0 hP hk1
    refine lv_ior hx hb dX7_placedShort_113 ?_
    refine lv_iload_n hx hb dX7_placedShort_114 rfl (lv_at hl 1 rfl) ?_
    refine lv_bipush (v := 6) hx hb dX7_placedShort_115 (by decide) ?_
    refine lv_iconst (v := 1) hx hb dX7_placedShort_117 (by decide) ?_
    refine lv_bipush (v := 7) hx hb dX7_placedShort_118 (by decide) ?_
    obtain ⟨q14, s15, hq, h⟩ := nd_b2_e h
    have hPc : va_P (dC, dI) vwCl (dw_P a ac ()) H := nd_p0
    have hDc : va_D A (dw_P a ac ()) := nd_d0
    have hKc : va_K (dC, dI) vwCl (dk_P ac) s := nd_y0 hK
    have hFc : ∀ q, va_A (dw_P a ac ()) H.size q → A q := nd_r0 hS hA
    refine nd_cSi (As := [.int v1, .int 6, .int 1, .int 7]) (rest := [.int (((q2 ||| q5) ||| q8) ||| q11)]) (q := q14) (w' := dw_P a ac s15) ⟨hx, hb, hml, hown, hts⟩ (fun sz => dm_X7_part l hlt dC dI a ac n (v1) (6) (1) (7) () hq sz) (cwS 4 hts gi_dm_X7_placedShort_0 rfl rfl rfl (by decide +kernel) ⟨Nat.le_of_ble_eq_true rfl, Nat.le_of_ble_eq_true rfl⟩) hPc hDc hKc hS hA hN rfl hl.1 rfl (Nat.le_of_ble_eq_true rfl) dX7_placedShort_120 (fun H locs hP1 hD1 hk1 hS => ?_)
    have hP := nd_n0 hP hk1
    refine lv_ior hx hb dX7_placedShort_123 ?_
    refine lv_iload_n hx hb dX7_placedShort_124 rfl (lv_at hl 1 rfl) ?_
    refine lv_bipush (v := 7) hx hb dX7_placedShort_125 (by decide) ?_
    refine lv_iconst (v := 1) hx hb dX7_placedShort_127 (by decide) ?_
    refine lv_bipush (v := 6) hx hb dX7_placedShort_128 (by decide) ?_
    obtain ⟨q17, s18, hq, h⟩ := nd_b2_e h
    have hPc : va_P (dC, dI) vwCl (dw_P a ac ()) H := nd_p0
    have hDc : va_D A (dw_P a ac ()) := nd_d0
    have hKc : va_K (dC, dI) vwCl (dk_P ac) s := nd_y0 hK
    have hFc : ∀ q, va_A (dw_P a ac ()) H.size q → A q := nd_r0 hS hA
    refine nd_cSi (As := [.int v1, .int 7, .int 1, .int 6]) (rest := [.int ((((q2 ||| q5) ||| q8) ||| q11) ||| q14)]) (q := q17) (w' := dw_P a ac s18) ⟨hx, hb, hml, hown, hts⟩ (fun sz => dm_X7_part l hlt dC dI a ac n (v1) (7) (1) (6) () hq sz) (cwS 4 hts gi_dm_X7_placedShort_0 rfl rfl rfl (by decide +kernel) ⟨Nat.le_of_ble_eq_true rfl, Nat.le_of_ble_eq_true rfl⟩) hPc hDc hKc hS hA hN rfl hl.1 rfl (Nat.le_of_ble_eq_true rfl) dX7_placedShort_130 (fun H locs hP1 hD1 hk1 hS => ?_)
    have hP := nd_n0 hP hk1
    refine lv_ior hx hb dX7_placedShort_133 ?_
    refine lv_iload_n hx hb dX7_placedShort_134 rfl (lv_at hl 1 rfl) ?_
    refine lv_iconst (v := 1) hx hb dX7_placedShort_135 (by decide) ?_
    refine lv_iconst (v := 3) hx hb dX7_placedShort_136 (by decide) ?_
    refine lv_iconst (v := 3) hx hb dX7_placedShort_137 (by decide) ?_
    obtain ⟨q20, s21, hq, h⟩ := nd_b2_e h
    have hPc : va_P (dC, dI) vwCl (dw_P a ac ()) H := nd_p0
    have hDc : va_D A (dw_P a ac ()) := nd_d0
    have hKc : va_K (dC, dI) vwCl (dk_P ac) s := nd_y0 hK
    have hFc : ∀ q, va_A (dw_P a ac ()) H.size q → A q := nd_r0 hS hA
    refine nd_cSi (As := [.int v1, .int 1, .int 3, .int 3]) (rest := [.int (((((q2 ||| q5) ||| q8) ||| q11) ||| q14) ||| q17)]) (q := q20) (w' := dw_P a ac s21) ⟨hx, hb, hml, hown, hts⟩ (fun sz => dm_X7_part l hlt dC dI a ac n (v1) (1) (3) (3) () hq sz) (cwS 4 hts gi_dm_X7_placedShort_0 rfl rfl rfl (by decide +kernel) ⟨Nat.le_of_ble_eq_true rfl, Nat.le_of_ble_eq_true rfl⟩) hPc hDc hKc hS hA hN rfl hl.1 rfl (Nat.le_of_ble_eq_true rfl) dX7_placedShort_138 (fun H locs hP1 hD1 hk1 hS => ?_)
    have hP := nd_n0 hP hk1
    refine lv_ior hx hb dX7_placedShort_141 ?_
    refine lv_iload_n hx hb dX7_placedShort_142 rfl (lv_at hl 1 rfl) ?_
    refine lv_iconst (v := 5) hx hb dX7_placedShort_143 (by decide) ?_
    refine lv_iconst (v := 1) hx hb dX7_placedShort_144 (by decide) ?_
    refine lv_iconst (v := 2) hx hb dX7_placedShort_145 (by decide) ?_
    obtain ⟨q23, s24, hq, h⟩ := nd_b2_e h
    have hPc : va_P (dC, dI) vwCl (dw_P a ac ()) H := nd_p0
    have hDc : va_D A (dw_P a ac ()) := nd_d0
    have hKc : va_K (dC, dI) vwCl (dk_P ac) s := nd_y0 hK
    have hFc : ∀ q, va_A (dw_P a ac ()) H.size q → A q := nd_r0 hS hA
    refine nd_cSi (As := [.int v1, .int 5, .int 1, .int 2]) (rest := [.int ((((((q2 ||| q5) ||| q8) ||| q11) ||| q14) ||| q17) ||| q20)]) (q := q23) (w' := dw_P a ac s24) ⟨hx, hb, hml, hown, hts⟩ (fun sz => dm_X7_part l hlt dC dI a ac n (v1) (5) (1) (2) () hq sz) (cwS 4 hts gi_dm_X7_placedShort_0 rfl rfl rfl (by decide +kernel) ⟨Nat.le_of_ble_eq_true rfl, Nat.le_of_ble_eq_true rfl⟩) hPc hDc hKc hS hA hN rfl hl.1 rfl (Nat.le_of_ble_eq_true rfl) dX7_placedShort_146 (fun H locs hP1 hD1 hk1 hS => ?_)
    have hP := nd_n0 hP hk1
    refine lv_ior hx hb dX7_placedShort_149 ?_
    exact K _ _ _ _ _ _ dX7_placedShort_150 rfl (Option.some.inj h).symm hP hD hS
  have h := nd_neg h c1
  by_cases c26 : v0 = 76
  · have h := nd_pos h c26
    refine lv_tableIn (off := 150) (tgt := 151) hx hb dX7_placedShort_1 (by rw [c26]; decide) (by rw [c26]; decide) (by rw [c26]; decide) (by decide) ?_
    refine lv_iload_n hx hb dX7_placedShort_151 rfl (lv_at hl 1 rfl) ?_
    refine lv_bipush (v := 8) hx hb dX7_placedShort_152 (by decide) ?_
    refine lv_iconst (v := 1) hx hb dX7_placedShort_154 (by decide) ?_
    refine lv_bipush (v := 12) hx hb dX7_placedShort_155 (by decide) ?_
    obtain ⟨q27, s28, hq, h⟩ := nd_b2_e h
    have hPc : va_P (dC, dI) vwCl (dw_P a ac ()) H := nd_p0
    have hDc : va_D A (dw_P a ac ()) := nd_d0
    have hKc : va_K (dC, dI) vwCl (dk_P ac) s := nd_y0 hK
    have hFc : ∀ q, va_A (dw_P a ac ()) H.size q → A q := nd_r0 hS hA
    refine nd_cSi (As := [.int v1, .int 8, .int 1, .int 12]) (rest := []) (q := q27) (w' := dw_P a ac s28) ⟨hx, hb, hml, hown, hts⟩ (fun sz => dm_X7_part l hlt dC dI a ac n (v1) (8) (1) (12) () hq sz) (cwS 4 hts gi_dm_X7_placedShort_0 rfl rfl rfl (by decide +kernel) ⟨Nat.le_of_ble_eq_true rfl, Nat.le_of_ble_eq_true rfl⟩) hPc hDc hKc hS hA hN rfl hl.1 rfl (Nat.le_of_ble_eq_true rfl) dX7_placedShort_157 (fun H locs hP1 hD1 hk1 hS => ?_)
    have hP := nd_n0 hP hk1
    refine lv_iload_n hx hb dX7_placedShort_160 rfl (lv_at hl 1 rfl) ?_
    refine lv_iconst (v := 3) hx hb dX7_placedShort_161 (by decide) ?_
    refine lv_iconst (v := 2) hx hb dX7_placedShort_162 (by decide) ?_
    refine lv_bipush (v := 10) hx hb dX7_placedShort_163 (by decide) ?_
    obtain ⟨q30, s31, hq, h⟩ := nd_b2_e h
    have hPc : va_P (dC, dI) vwCl (dw_P a ac ()) H := nd_p0
    have hDc : va_D A (dw_P a ac ()) := nd_d0
    have hKc : va_K (dC, dI) vwCl (dk_P ac) s := nd_y0 hK
    have hFc : ∀ q, va_A (dw_P a ac ()) H.size q → A q := nd_r0 hS hA
    refine nd_cSi (As := [.int v1, .int 3, .int 2, .int 10]) (rest := [.int q27]) (q := q30) (w' := dw_P a ac s31) ⟨hx, hb, hml, hown, hts⟩ (fun sz => dm_X7_part l hlt dC dI a ac n (v1) (3) (2) (10) () hq sz) (cwS 4 hts gi_dm_X7_placedShort_0 rfl rfl rfl (by decide +kernel) ⟨Nat.le_of_ble_eq_true rfl, Nat.le_of_ble_eq_true rfl⟩) hPc hDc hKc hS hA hN rfl hl.1 rfl (Nat.le_of_ble_eq_true rfl) dX7_placedShort_165 (fun H locs hP1 hD1 hk1 hS => ?_)
    have hP := nd_n0 hP hk1
    refine lv_ior hx hb dX7_placedShort_168 ?_
    refine lv_iload_n hx hb dX7_placedShort_169 rfl (lv_at hl 1 rfl) ?_
    refine lv_bipush (v := 6) hx hb dX7_placedShort_170 (by decide) ?_
    refine lv_iconst (v := 2) hx hb dX7_placedShort_172 (by decide) ?_
    refine lv_iconst (v := 5) hx hb dX7_placedShort_173 (by decide) ?_
    obtain ⟨q33, s34, hq, h⟩ := nd_b2_e h
    have hPc : va_P (dC, dI) vwCl (dw_P a ac ()) H := nd_p0
    have hDc : va_D A (dw_P a ac ()) := nd_d0
    have hKc : va_K (dC, dI) vwCl (dk_P ac) s := nd_y0 hK
    have hFc : ∀ q, va_A (dw_P a ac ()) H.size q → A q := nd_r0 hS hA
    refine nd_cSi (As := [.int v1, .int 6, .int 2, .int 5]) (rest := [.int (q27 ||| q30)]) (q := q33) (w' := dw_P a ac s34) ⟨hx, hb, hml, hown, hts⟩ (fun sz => dm_X7_part l hlt dC dI a ac n (v1) (6) (2) (5) () hq sz) (cwS 4 hts gi_dm_X7_placedShort_0 rfl rfl rfl (by decide +kernel) ⟨Nat.le_of_ble_eq_true rfl, Nat.le_of_ble_eq_true rfl⟩) hPc hDc hKc hS hA hN rfl hl.1 rfl (Nat.le_of_ble_eq_true rfl) dX7_placedShort_174 (fun H locs hP1 hD1 hk1 hS => ?_)
    have hP := nd_n0 hP hk1
    refine lv_ior hx hb dX7_placedShort_177 ?_
    refine lv_iload_n hx hb dX7_placedShort_178 rfl (lv_at hl 1 rfl) ?_
    refine lv_iconst (v := 1) hx hb dX7_placedShort_179 (by decide) ?_
    refine lv_iconst (v := 2) hx hb dX7_placedShort_180 (by decide) ?_
    refine lv_iconst (v := 3) hx hb dX7_placedShort_181 (by decide) ?_
    obtain ⟨q36, s37, hq, h⟩ := nd_b2_e h
    have hPc : va_P (dC, dI) vwCl (dw_P a ac ()) H := nd_p0
    have hDc : va_D A (dw_P a ac ()) := nd_d0
    have hKc : va_K (dC, dI) vwCl (dk_P ac) s := nd_y0 hK
    have hFc : ∀ q, va_A (dw_P a ac ()) H.size q → A q := nd_r0 hS hA
    refine nd_cSi (As := [.int v1, .int 1, .int 2, .int 3]) (rest := [.int ((q27 ||| q30) ||| q33)]) (q := q36) (w' := dw_P a ac s37) ⟨hx, hb, hml, hown, hts⟩ (fun sz => dm_X7_part l hlt dC dI a ac n (v1) (1) (2) (3) () hq sz) (cwS 4 hts gi_dm_X7_placedShort_0 rfl rfl rfl (by decide +kernel) ⟨Nat.le_of_ble_eq_true rfl, Nat.le_of_ble_eq_true rfl⟩) hPc hDc hKc hS hA hN rfl hl.1 rfl (Nat.le_of_ble_eq_true rfl) dX7_placedShort_182 (fun H locs hP1 hD1 hk1 hS => ?_)
    have hP := nd_n0 hP hk1
    refine lv_ior hx hb dX7_placedShort_185 ?_
    refine lv_iload_n hx hb dX7_placedShort_186 rfl (lv_at hl 1 rfl) ?_
    refine lv_iconst (v := 5) hx hb dX7_placedShort_187 (by decide) ?_
    refine lv_iconst (v := 1) hx hb dX7_placedShort_188 (by decide) ?_
    refine lv_iconst (v := 2) hx hb dX7_placedShort_189 (by decide) ?_
    obtain ⟨q39, s40, hq, h⟩ := nd_b2_e h
    have hPc : va_P (dC, dI) vwCl (dw_P a ac ()) H := nd_p0
    have hDc : va_D A (dw_P a ac ()) := nd_d0
    have hKc : va_K (dC, dI) vwCl (dk_P ac) s := nd_y0 hK
    have hFc : ∀ q, va_A (dw_P a ac ()) H.size q → A q := nd_r0 hS hA
    refine nd_cSi (As := [.int v1, .int 5, .int 1, .int 2]) (rest := [.int (((q27 ||| q30) ||| q33) ||| q36)]) (q := q39) (w' := dw_P a ac s40) ⟨hx, hb, hml, hown, hts⟩ (fun sz => dm_X7_part l hlt dC dI a ac n (v1) (5) (1) (2) () hq sz) (cwS 4 hts gi_dm_X7_placedShort_0 rfl rfl rfl (by decide +kernel) ⟨Nat.le_of_ble_eq_true rfl, Nat.le_of_ble_eq_true rfl⟩) hPc hDc hKc hS hA hN rfl hl.1 rfl (Nat.le_of_ble_eq_true rfl) dX7_placedShort_190 (fun H locs hP1 hD1 hk1 hS => ?_)
    have hP := nd_n0 hP hk1
    refine lv_ior hx hb dX7_placedShort_193 ?_
    exact K _ _ _ _ _ _ dX7_placedShort_194 rfl (Option.some.inj h).symm hP hD hS
  have h := nd_neg h c26
  by_cases c42 : v0 = 77
  · have h := nd_pos h c42
    refine lv_tableIn (off := 194) (tgt := 195) hx hb dX7_placedShort_1 (by rw [c42]; decide) (by rw [c42]; decide) (by rw [c42]; decide) (by decide) ?_
    exact (db_X7_placedShort_195 C K) (v1) s0 _ _ _ h hP hD hS (lv_sub hl [1] rfl)
  have h := nd_neg h c42
  by_cases c49 : v0 = 78
  · have h := nd_pos h c49
    refine lv_tableIn (off := 194) (tgt := 195) hx hb dX7_placedShort_1 (by rw [c49]; decide) (by rw [c49]; decide) (by rw [c49]; decide) (by decide) ?_
    exact (db_X7_placedShort_195 C K) (v1) s0 _ _ _ h hP hD hS (lv_sub hl [1] rfl)
  have h := nd_neg h c49
  by_cases c50 : v0 = 79
  · have h := nd_pos h c50
    refine lv_tableIn (off := 372) (tgt := 373) hx hb dX7_placedShort_1 (by rw [c50]; decide) (by rw [c50]; decide) (by rw [c50]; decide) (by decide) ?_
    exact (db_X7_placedShort_373 C K)  s0 _ _ _ h hP hD hS (lv_sub hl [] rfl)
  have h := nd_neg h c50
  by_cases c51 : v0 = 80
  · have h := nd_pos h c51
    refine lv_tableIn (off := 327) (tgt := 328) hx hb dX7_placedShort_1 (by rw [c51]; decide) (by rw [c51]; decide) (by rw [c51]; decide) (by decide) ?_
    refine lv_iload_n hx hb dX7_placedShort_328 rfl (lv_at hl 1 rfl) ?_
    refine lv_iconst (v := 5) hx hb dX7_placedShort_329 (by decide) ?_
    refine lv_iconst (v := 1) hx hb dX7_placedShort_330 (by decide) ?_
    refine lv_bipush (v := 12) hx hb dX7_placedShort_331 (by decide) ?_
    obtain ⟨q52, s53, hq, h⟩ := nd_b2_e h
    have hPc : va_P (dC, dI) vwCl (dw_P a ac ()) H := nd_p0
    have hDc : va_D A (dw_P a ac ()) := nd_d0
    have hKc : va_K (dC, dI) vwCl (dk_P ac) s := nd_y0 hK
    have hFc : ∀ q, va_A (dw_P a ac ()) H.size q → A q := nd_r0 hS hA
    refine nd_cSi (As := [.int v1, .int 5, .int 1, .int 12]) (rest := []) (q := q52) (w' := dw_P a ac s53) ⟨hx, hb, hml, hown, hts⟩ (fun sz => dm_X7_part l hlt dC dI a ac n (v1) (5) (1) (12) () hq sz) (cwS 4 hts gi_dm_X7_placedShort_0 rfl rfl rfl (by decide +kernel) ⟨Nat.le_of_ble_eq_true rfl, Nat.le_of_ble_eq_true rfl⟩) hPc hDc hKc hS hA hN rfl hl.1 rfl (Nat.le_of_ble_eq_true rfl) dX7_placedShort_333 (fun H locs hP1 hD1 hk1 hS => ?_)
    have hP := nd_n0 hP hk1
    refine lv_iload_n hx hb dX7_placedShort_336 rfl (lv_at hl 1 rfl) ?_
    refine lv_iconst (v := 2) hx hb dX7_placedShort_337 (by decide) ?_
    refine lv_iconst (v := 3) hx hb dX7_placedShort_338 (by decide) ?_
    refine lv_iconst (v := 4) hx hb dX7_placedShort_339 (by decide) ?_
    obtain ⟨q55, s56, hq, h⟩ := nd_b2_e h
    have hPc : va_P (dC, dI) vwCl (dw_P a ac ()) H := nd_p0
    have hDc : va_D A (dw_P a ac ()) := nd_d0
    have hKc : va_K (dC, dI) vwCl (dk_P ac) s := nd_y0 hK
    have hFc : ∀ q, va_A (dw_P a ac ()) H.size q → A q := nd_r0 hS hA
    refine nd_cSi (As := [.int v1, .int 2, .int 3, .int 4]) (rest := [.int q52]) (q := q55) (w' := dw_P a ac s56) ⟨hx, hb, hml, hown, hts⟩ (fun sz => dm_X7_part l hlt dC dI a ac n (v1) (2) (3) (4) () hq sz) (cwS 4 hts gi_dm_X7_placedShort_0 rfl rfl rfl (by decide +kernel) ⟨Nat.le_of_ble_eq_true rfl, Nat.le_of_ble_eq_true rfl⟩) hPc hDc hKc hS hA hN rfl hl.1 rfl (Nat.le_of_ble_eq_true rfl) dX7_placedShort_340 (fun H locs hP1 hD1 hk1 hS => ?_)
    have hP := nd_n0 hP hk1
    refine lv_ior hx hb dX7_placedShort_343 ?_
    refine lv_iload_n hx hb dX7_placedShort_344 rfl (lv_at hl 1 rfl) ?_
    refine lv_bipush (v := 6) hx hb dX7_placedShort_345 (by decide) ?_
    refine lv_iconst (v := 2) hx hb dX7_placedShort_347 (by decide) ?_
    refine lv_iconst (v := 2) hx hb dX7_placedShort_348 (by decide) ?_
    obtain ⟨q58, s59, hq, h⟩ := nd_b2_e h
    have hPc : va_P (dC, dI) vwCl (dw_P a ac ()) H := nd_p0
    have hDc : va_D A (dw_P a ac ()) := nd_d0
    have hKc : va_K (dC, dI) vwCl (dk_P ac) s := nd_y0 hK
    have hFc : ∀ q, va_A (dw_P a ac ()) H.size q → A q := nd_r0 hS hA
    refine nd_cSi (As := [.int v1, .int 6, .int 2, .int 2]) (rest := [.int (q52 ||| q55)]) (q := q58) (w' := dw_P a ac s59) ⟨hx, hb, hml, hown, hts⟩ (fun sz => dm_X7_part l hlt dC dI a ac n (v1) (6) (2) (2) () hq sz) (cwS 4 hts gi_dm_X7_placedShort_0 rfl rfl rfl (by decide +kernel) ⟨Nat.le_of_ble_eq_true rfl, Nat.le_of_ble_eq_true rfl⟩) hPc hDc hKc hS hA hN rfl hl.1 rfl (Nat.le_of_ble_eq_true rfl) dX7_placedShort_349 (fun H locs hP1 hD1 hk1 hS => ?_)
    have hP := nd_n0 hP hk1
    refine lv_ior hx hb dX7_placedShort_352 ?_
    exact K _ _ _ _ _ _ dX7_placedShort_353 rfl (Option.some.inj h).symm hP hD hS
  have h := nd_neg h c51
  by_cases c61 : v0 = 81
  · have h := nd_pos h c61
    refine lv_tableIn (off := 353) (tgt := 354) hx hb dX7_placedShort_1 (by rw [c61]; decide) (by rw [c61]; decide) (by rw [c61]; decide) (by decide) ?_
    refine lv_iload_n hx hb dX7_placedShort_354 rfl (lv_at hl 1 rfl) ?_
    refine lv_iconst (v := 2) hx hb dX7_placedShort_355 (by decide) ?_
    refine lv_iconst (v := 4) hx hb dX7_placedShort_356 (by decide) ?_
    refine lv_bipush (v := 9) hx hb dX7_placedShort_357 (by decide) ?_
    obtain ⟨q62, s63, hq, h⟩ := nd_b2_e h
    have hPc : va_P (dC, dI) vwCl (dw_P a ac ()) H := nd_p0
    have hDc : va_D A (dw_P a ac ()) := nd_d0
    have hKc : va_K (dC, dI) vwCl (dk_P ac) s := nd_y0 hK
    have hFc : ∀ q, va_A (dw_P a ac ()) H.size q → A q := nd_r0 hS hA
    refine nd_cSi (As := [.int v1, .int 2, .int 4, .int 9]) (rest := []) (q := q62) (w' := dw_P a ac s63) ⟨hx, hb, hml, hown, hts⟩ (fun sz => dm_X7_part l hlt dC dI a ac n (v1) (2) (4) (9) () hq sz) (cwS 4 hts gi_dm_X7_placedShort_0 rfl rfl rfl (by decide +kernel) ⟨Nat.le_of_ble_eq_true rfl, Nat.le_of_ble_eq_true rfl⟩) hPc hDc hKc hS hA hN rfl hl.1 rfl (Nat.le_of_ble_eq_true rfl) dX7_placedShort_359 (fun H locs hP1 hD1 hk1 hS => ?_)
    have hP := nd_n0 hP hk1
    refine lv_iload_n hx hb dX7_placedShort_362 rfl (lv_at hl 1 rfl) ?_
    refine lv_bipush (v := 6) hx hb dX7_placedShort_363 (by decide) ?_
    refine lv_iconst (v := 2) hx hb dX7_placedShort_365 (by decide) ?_
    refine lv_bipush (v := 7) hx hb dX7_placedShort_366 (by decide) ?_
    obtain ⟨q65, s66, hq, h⟩ := nd_b2_e h
    have hPc : va_P (dC, dI) vwCl (dw_P a ac ()) H := nd_p0
    have hDc : va_D A (dw_P a ac ()) := nd_d0
    have hKc : va_K (dC, dI) vwCl (dk_P ac) s := nd_y0 hK
    have hFc : ∀ q, va_A (dw_P a ac ()) H.size q → A q := nd_r0 hS hA
    refine nd_cSi (As := [.int v1, .int 6, .int 2, .int 7]) (rest := [.int q62]) (q := q65) (w' := dw_P a ac s66) ⟨hx, hb, hml, hown, hts⟩ (fun sz => dm_X7_part l hlt dC dI a ac n (v1) (6) (2) (7) () hq sz) (cwS 4 hts gi_dm_X7_placedShort_0 rfl rfl rfl (by decide +kernel) ⟨Nat.le_of_ble_eq_true rfl, Nat.le_of_ble_eq_true rfl⟩) hPc hDc hKc hS hA hN rfl hl.1 rfl (Nat.le_of_ble_eq_true rfl) dX7_placedShort_368 (fun H locs hP1 hD1 hk1 hS => ?_)
    have hP := nd_n0 hP hk1
    refine lv_ior hx hb dX7_placedShort_371 ?_
    exact K _ _ _ _ _ _ dX7_placedShort_372 rfl (Option.some.inj h).symm hP hD hS
  have h := nd_neg h c61
  by_cases c68 : v0 = 82
  · have h := nd_pos h c68
    refine lv_tableIn (off := 372) (tgt := 373) hx hb dX7_placedShort_1 (by rw [c68]; decide) (by rw [c68]; decide) (by rw [c68]; decide) (by decide) ?_
    exact (db_X7_placedShort_373 C K)  s0 _ _ _ h hP hD hS (lv_sub hl [] rfl)
  have h := nd_neg h c68
  by_cases c69 : v0 = 83
  · have h := nd_pos h c69
    refine lv_tableIn (off := 372) (tgt := 373) hx hb dX7_placedShort_1 (by rw [c69]; decide) (by rw [c69]; decide) (by rw [c69]; decide) (by decide) ?_
    exact (db_X7_placedShort_373 C K)  s0 _ _ _ h hP hD hS (lv_sub hl [] rfl)
  have h := nd_neg h c69
  by_cases c70 : v0 = 84
  · have h := nd_pos h c70
    refine lv_tableIn (off := 372) (tgt := 373) hx hb dX7_placedShort_1 (by rw [c70]; decide) (by rw [c70]; decide) (by rw [c70]; decide) (by decide) ?_
    exact (db_X7_placedShort_373 C K)  s0 _ _ _ h hP hD hS (lv_sub hl [] rfl)
  have h := nd_neg h c70
  by_cases c71 : v0 = 85
  · have h := nd_pos h c71
    refine lv_tableIn (off := 372) (tgt := 373) hx hb dX7_placedShort_1 (by rw [c71]; decide) (by rw [c71]; decide) (by rw [c71]; decide) (by decide) ?_
    exact (db_X7_placedShort_373 C K)  s0 _ _ _ h hP hD hS (lv_sub hl [] rfl)
  have h := nd_neg h c71
  by_cases c72 : v0 = 86
  · have h := nd_pos h c72
    refine lv_tableIn (off := 319) (tgt := 320) hx hb dX7_placedShort_1 (by rw [c72]; decide) (by rw [c72]; decide) (by rw [c72]; decide) (by decide) ?_
    refine lv_iload_n hx hb dX7_placedShort_320 rfl (lv_at hl 1 rfl) ?_
    refine lv_iconst (v := 0) hx hb dX7_placedShort_321 (by decide) ?_
    refine lv_iconst (v := 5) hx hb dX7_placedShort_322 (by decide) ?_
    refine lv_iconst (v := 2) hx hb dX7_placedShort_323 (by decide) ?_
    obtain ⟨q73, s74, hq, h⟩ := nd_b2_e h
    have hPc : va_P (dC, dI) vwCl (dw_P a ac ()) H := nd_p0
    have hDc : va_D A (dw_P a ac ()) := nd_d0
    have hKc : va_K (dC, dI) vwCl (dk_P ac) s := nd_y0 hK
    have hFc : ∀ q, va_A (dw_P a ac ()) H.size q → A q := nd_r0 hS hA
    refine nd_cSi (As := [.int v1, .int 0, .int 5, .int 2]) (rest := []) (q := q73) (w' := dw_P a ac s74) ⟨hx, hb, hml, hown, hts⟩ (fun sz => dm_X7_part l hlt dC dI a ac n (v1) (0) (5) (2) () hq sz) (cwS 4 hts gi_dm_X7_placedShort_0 rfl rfl rfl (by decide +kernel) ⟨Nat.le_of_ble_eq_true rfl, Nat.le_of_ble_eq_true rfl⟩) hPc hDc hKc hS hA hN rfl hl.1 rfl (Nat.le_of_ble_eq_true rfl) dX7_placedShort_324 (fun H locs hP1 hD1 hk1 hS => ?_)
    have hP := nd_n0 hP hk1
    exact K _ _ _ _ _ _ dX7_placedShort_327 rfl (Option.some.inj h).symm hP hD hS
  have h := nd_neg h c72
  by_cases c76 : v0 = 87
  · have h := nd_pos h c76
    refine lv_tableIn (off := 247) (tgt := 248) hx hb dX7_placedShort_1 (by rw [c76]; decide) (by rw [c76]; decide) (by rw [c76]; decide) (by decide) ?_
    refine lv_iload_n hx hb dX7_placedShort_248 rfl (lv_at hl 1 rfl) ?_
    refine lv_iconst (v := 3) hx hb dX7_placedShort_249 (by decide) ?_
    refine lv_iconst (v := 3) hx hb dX7_placedShort_250 (by decide) ?_
    refine lv_bipush (v := 10) hx hb dX7_placedShort_251 (by decide) ?_
    obtain ⟨q77, s78, hq, h⟩ := nd_b2_e h
    have hPc : va_P (dC, dI) vwCl (dw_P a ac ()) H := nd_p0
    have hDc : va_D A (dw_P a ac ()) := nd_d0
    have hKc : va_K (dC, dI) vwCl (dk_P ac) s := nd_y0 hK
    have hFc : ∀ q, va_A (dw_P a ac ()) H.size q → A q := nd_r0 hS hA
    refine nd_cSi (As := [.int v1, .int 3, .int 3, .int 10]) (rest := []) (q := q77) (w' := dw_P a ac s78) ⟨hx, hb, hml, hown, hts⟩ (fun sz => dm_X7_part l hlt dC dI a ac n (v1) (3) (3) (10) () hq sz) (cwS 4 hts gi_dm_X7_placedShort_0 rfl rfl rfl (by decide +kernel) ⟨Nat.le_of_ble_eq_true rfl, Nat.le_of_ble_eq_true rfl⟩) hPc hDc hKc hS hA hN rfl hl.1 rfl (Nat.le_of_ble_eq_true rfl) dX7_placedShort_253 (fun H locs hP1 hD1 hk1 hS => ?_)
    have hP := nd_n0 hP hk1
    refine lv_iload_n hx hb dX7_placedShort_256 rfl (lv_at hl 1 rfl) ?_
    refine lv_iconst (v := 2) hx hb dX7_placedShort_257 (by decide) ?_
    refine lv_iconst (v := 1) hx hb dX7_placedShort_258 (by decide) ?_
    refine lv_bipush (v := 6) hx hb dX7_placedShort_259 (by decide) ?_
    obtain ⟨q80, s81, hq, h⟩ := nd_b2_e h
    have hPc : va_P (dC, dI) vwCl (dw_P a ac ()) H := nd_p0
    have hDc : va_D A (dw_P a ac ()) := nd_d0
    have hKc : va_K (dC, dI) vwCl (dk_P ac) s := nd_y0 hK
    have hFc : ∀ q, va_A (dw_P a ac ()) H.size q → A q := nd_r0 hS hA
    refine nd_cSi (As := [.int v1, .int 2, .int 1, .int 6]) (rest := [.int q77]) (q := q80) (w' := dw_P a ac s81) ⟨hx, hb, hml, hown, hts⟩ (fun sz => dm_X7_part l hlt dC dI a ac n (v1) (2) (1) (6) () hq sz) (cwS 4 hts gi_dm_X7_placedShort_0 rfl rfl rfl (by decide +kernel) ⟨Nat.le_of_ble_eq_true rfl, Nat.le_of_ble_eq_true rfl⟩) hPc hDc hKc hS hA hN rfl hl.1 rfl (Nat.le_of_ble_eq_true rfl) dX7_placedShort_261 (fun H locs hP1 hD1 hk1 hS => ?_)
    have hP := nd_n0 hP hk1
    refine lv_ior hx hb dX7_placedShort_264 ?_
    refine lv_iload_n hx hb dX7_placedShort_265 rfl (lv_at hl 1 rfl) ?_
    refine lv_bipush (v := 6) hx hb dX7_placedShort_266 (by decide) ?_
    refine lv_iconst (v := 1) hx hb dX7_placedShort_268 (by decide) ?_
    refine lv_iconst (v := 5) hx hb dX7_placedShort_269 (by decide) ?_
    obtain ⟨q83, s84, hq, h⟩ := nd_b2_e h
    have hPc : va_P (dC, dI) vwCl (dw_P a ac ()) H := nd_p0
    have hDc : va_D A (dw_P a ac ()) := nd_d0
    have hKc : va_K (dC, dI) vwCl (dk_P ac) s := nd_y0 hK
    have hFc : ∀ q, va_A (dw_P a ac ()) H.size q → A q := nd_r0 hS hA
    refine nd_cSi (As := [.int v1, .int 6, .int 1, .int 5]) (rest := [.int (q77 ||| q80)]) (q := q83) (w' := dw_P a ac s84) ⟨hx, hb, hml, hown, hts⟩ (fun sz => dm_X7_part l hlt dC dI a ac n (v1) (6) (1) (5) () hq sz) (cwS 4 hts gi_dm_X7_placedShort_0 rfl rfl rfl (by decide +kernel) ⟨Nat.le_of_ble_eq_true rfl, Nat.le_of_ble_eq_true rfl⟩) hPc hDc hKc hS hA hN rfl hl.1 rfl (Nat.le_of_ble_eq_true rfl) dX7_placedShort_270 (fun H locs hP1 hD1 hk1 hS => ?_)
    have hP := nd_n0 hP hk1
    refine lv_ior hx hb dX7_placedShort_273 ?_
    exact K _ _ _ _ _ _ dX7_placedShort_274 rfl (Option.some.inj h).symm hP hD hS
  have h := nd_neg h c76
  by_cases c86 : v0 = 88
  · have h := nd_pos h c86
    refine lv_tableIn (off := 211) (tgt := 212) hx hb dX7_placedShort_1 (by rw [c86]; decide) (by rw [c86]; decide) (by rw [c86]; decide) (by decide) ?_
    refine lv_iload_n hx hb dX7_placedShort_212 rfl (lv_at hl 1 rfl) ?_
    refine lv_iconst (v := 4) hx hb dX7_placedShort_213 (by decide) ?_
    refine lv_iconst (v := 2) hx hb dX7_placedShort_214 (by decide) ?_
    refine lv_bipush (v := 11) hx hb dX7_placedShort_215 (by decide) ?_
    obtain ⟨q87, s88, hq, h⟩ := nd_b2_e h
    have hPc : va_P (dC, dI) vwCl (dw_P a ac ()) H := nd_p0
    have hDc : va_D A (dw_P a ac ()) := nd_d0
    have hKc : va_K (dC, dI) vwCl (dk_P ac) s := nd_y0 hK
    have hFc : ∀ q, va_A (dw_P a ac ()) H.size q → A q := nd_r0 hS hA
    refine nd_cSi (As := [.int v1, .int 4, .int 2, .int 11]) (rest := []) (q := q87) (w' := dw_P a ac s88) ⟨hx, hb, hml, hown, hts⟩ (fun sz => dm_X7_part l hlt dC dI a ac n (v1) (4) (2) (11) () hq sz) (cwS 4 hts gi_dm_X7_placedShort_0 rfl rfl rfl (by decide +kernel) ⟨Nat.le_of_ble_eq_true rfl, Nat.le_of_ble_eq_true rfl⟩) hPc hDc hKc hS hA hN rfl hl.1 rfl (Nat.le_of_ble_eq_true rfl) dX7_placedShort_217 (fun H locs hP1 hD1 hk1 hS => ?_)
    have hP := nd_n0 hP hk1
    refine lv_iload_n hx hb dX7_placedShort_220 rfl (lv_at hl 1 rfl) ?_
    refine lv_bipush (v := 6) hx hb dX7_placedShort_221 (by decide) ?_
    refine lv_iconst (v := 4) hx hb dX7_placedShort_223 (by decide) ?_
    refine lv_bipush (v := 7) hx hb dX7_placedShort_224 (by decide) ?_
    obtain ⟨q90, s91, hq, h⟩ := nd_b2_e h
    have hPc : va_P (dC, dI) vwCl (dw_P a ac ()) H := nd_p0
    have hDc : va_D A (dw_P a ac ()) := nd_d0
    have hKc : va_K (dC, dI) vwCl (dk_P ac) s := nd_y0 hK
    have hFc : ∀ q, va_A (dw_P a ac ()) H.size q → A q := nd_r0 hS hA
    refine nd_cSi (As := [.int v1, .int 6, .int 4, .int 7]) (rest := [.int q87]) (q := q90) (w' := dw_P a ac s91) ⟨hx, hb, hml, hown, hts⟩ (fun sz => dm_X7_part l hlt dC dI a ac n (v1) (6) (4) (7) () hq sz) (cwS 4 hts gi_dm_X7_placedShort_0 rfl rfl rfl (by decide +kernel) ⟨Nat.le_of_ble_eq_true rfl, Nat.le_of_ble_eq_true rfl⟩) hPc hDc hKc hS hA hN rfl hl.1 rfl (Nat.le_of_ble_eq_true rfl) dX7_placedShort_226 (fun H locs hP1 hD1 hk1 hS => ?_)
    have hP := nd_n0 hP hk1
    refine lv_ior hx hb dX7_placedShort_229 ?_
    refine lv_iload_n hx hb dX7_placedShort_230 rfl (lv_at hl 1 rfl) ?_
    refine lv_iconst (v := 2) hx hb dX7_placedShort_231 (by decide) ?_
    refine lv_iconst (v := 1) hx hb dX7_placedShort_232 (by decide) ?_
    refine lv_bipush (v := 6) hx hb dX7_placedShort_233 (by decide) ?_
    obtain ⟨q93, s94, hq, h⟩ := nd_b2_e h
    have hPc : va_P (dC, dI) vwCl (dw_P a ac ()) H := nd_p0
    have hDc : va_D A (dw_P a ac ()) := nd_d0
    have hKc : va_K (dC, dI) vwCl (dk_P ac) s := nd_y0 hK
    have hFc : ∀ q, va_A (dw_P a ac ()) H.size q → A q := nd_r0 hS hA
    refine nd_cSi (As := [.int v1, .int 2, .int 1, .int 6]) (rest := [.int (q87 ||| q90)]) (q := q93) (w' := dw_P a ac s94) ⟨hx, hb, hml, hown, hts⟩ (fun sz => dm_X7_part l hlt dC dI a ac n (v1) (2) (1) (6) () hq sz) (cwS 4 hts gi_dm_X7_placedShort_0 rfl rfl rfl (by decide +kernel) ⟨Nat.le_of_ble_eq_true rfl, Nat.le_of_ble_eq_true rfl⟩) hPc hDc hKc hS hA hN rfl hl.1 rfl (Nat.le_of_ble_eq_true rfl) dX7_placedShort_235 (fun H locs hP1 hD1 hk1 hS => ?_)
    have hP := nd_n0 hP hk1
    refine lv_ior hx hb dX7_placedShort_238 ?_
    refine lv_iload_n hx hb dX7_placedShort_239 rfl (lv_at hl 1 rfl) ?_
    refine lv_iconst (v := 3) hx hb dX7_placedShort_240 (by decide) ?_
    refine lv_iconst (v := 1) hx hb dX7_placedShort_241 (by decide) ?_
    refine lv_iconst (v := 5) hx hb dX7_placedShort_242 (by decide) ?_
    obtain ⟨q96, s97, hq, h⟩ := nd_b2_e h
    have hPc : va_P (dC, dI) vwCl (dw_P a ac ()) H := nd_p0
    have hDc : va_D A (dw_P a ac ()) := nd_d0
    have hKc : va_K (dC, dI) vwCl (dk_P ac) s := nd_y0 hK
    have hFc : ∀ q, va_A (dw_P a ac ()) H.size q → A q := nd_r0 hS hA
    refine nd_cSi (As := [.int v1, .int 3, .int 1, .int 5]) (rest := [.int ((q87 ||| q90) ||| q93)]) (q := q96) (w' := dw_P a ac s97) ⟨hx, hb, hml, hown, hts⟩ (fun sz => dm_X7_part l hlt dC dI a ac n (v1) (3) (1) (5) () hq sz) (cwS 4 hts gi_dm_X7_placedShort_0 rfl rfl rfl (by decide +kernel) ⟨Nat.le_of_ble_eq_true rfl, Nat.le_of_ble_eq_true rfl⟩) hPc hDc hKc hS hA hN rfl hl.1 rfl (Nat.le_of_ble_eq_true rfl) dX7_placedShort_243 (fun H locs hP1 hD1 hk1 hS => ?_)
    have hP := nd_n0 hP hk1
    refine lv_ior hx hb dX7_placedShort_246 ?_
    exact K _ _ _ _ _ _ dX7_placedShort_247 rfl (Option.some.inj h).symm hP hD hS
  have h := nd_neg h c86
  by_cases c99 : v0 = 89
  · have h := nd_pos h c99
    refine lv_tableIn (off := 274) (tgt := 275) hx hb dX7_placedShort_1 (by rw [c99]; decide) (by rw [c99]; decide) (by rw [c99]; decide) (by decide) ?_
    refine lv_iload_n hx hb dX7_placedShort_275 rfl (lv_at hl 1 rfl) ?_
    refine lv_bipush (v := 9) hx hb dX7_placedShort_276 (by decide) ?_
    refine lv_iconst (v := 1) hx hb dX7_placedShort_278 (by decide) ?_
    refine lv_bipush (v := 12) hx hb dX7_placedShort_279 (by decide) ?_
    obtain ⟨q100, s101, hq, h⟩ := nd_b2_e h
    have hPc : va_P (dC, dI) vwCl (dw_P a ac ()) H := nd_p0
    have hDc : va_D A (dw_P a ac ()) := nd_d0
    have hKc : va_K (dC, dI) vwCl (dk_P ac) s := nd_y0 hK
    have hFc : ∀ q, va_A (dw_P a ac ()) H.size q → A q := nd_r0 hS hA
    refine nd_cSi (As := [.int v1, .int 9, .int 1, .int 12]) (rest := []) (q := q100) (w' := dw_P a ac s101) ⟨hx, hb, hml, hown, hts⟩ (fun sz => dm_X7_part l hlt dC dI a ac n (v1) (9) (1) (12) () hq sz) (cwS 4 hts gi_dm_X7_placedShort_0 rfl rfl rfl (by decide +kernel) ⟨Nat.le_of_ble_eq_true rfl, Nat.le_of_ble_eq_true rfl⟩) hPc hDc hKc hS hA hN rfl hl.1 rfl (Nat.le_of_ble_eq_true rfl) dX7_placedShort_281 (fun H locs hP1 hD1 hk1 hS => ?_)
    have hP := nd_n0 hP hk1
    refine lv_iload_n hx hb dX7_placedShort_284 rfl (lv_at hl 1 rfl) ?_
    refine lv_iconst (v := 4) hx hb dX7_placedShort_285 (by decide) ?_
    refine lv_iconst (v := 1) hx hb dX7_placedShort_286 (by decide) ?_
    refine lv_bipush (v := 6) hx hb dX7_placedShort_287 (by decide) ?_
    obtain ⟨q103, s104, hq, h⟩ := nd_b2_e h
    have hPc : va_P (dC, dI) vwCl (dw_P a ac ()) H := nd_p0
    have hDc : va_D A (dw_P a ac ()) := nd_d0
    have hKc : va_K (dC, dI) vwCl (dk_P ac) s := nd_y0 hK
    have hFc : ∀ q, va_A (dw_P a ac ()) H.size q → A q := nd_r0 hS hA
    refine nd_cSi (As := [.int v1, .int 4, .int 1, .int 6]) (rest := [.int q100]) (q := q103) (w' := dw_P a ac s104) ⟨hx, hb, hml, hown, hts⟩ (fun sz => dm_X7_part l hlt dC dI a ac n (v1) (4) (1) (6) () hq sz) (cwS 4 hts gi_dm_X7_placedShort_0 rfl rfl rfl (by decide +kernel) ⟨Nat.le_of_ble_eq_true rfl, Nat.le_of_ble_eq_true rfl⟩) hPc hDc hKc hS hA hN rfl hl.1 rfl (Nat.le_of_ble_eq_true rfl) dX7_placedShort_289 (fun H locs hP1 hD1 hk1 hS => ?_)
    have hP := nd_n0 hP hk1
    refine lv_ior hx hb dX7_placedShort_292 ?_
    refine lv_iload_n hx hb dX7_placedShort_293 rfl (lv_at hl 1 rfl) ?_
    refine lv_bipush (v := 6) hx hb dX7_placedShort_294 (by decide) ?_
    refine lv_iconst (v := 1) hx hb dX7_placedShort_296 (by decide) ?_
    refine lv_iconst (v := 5) hx hb dX7_placedShort_297 (by decide) ?_
    obtain ⟨q106, s107, hq, h⟩ := nd_b2_e h
    have hPc : va_P (dC, dI) vwCl (dw_P a ac ()) H := nd_p0
    have hDc : va_D A (dw_P a ac ()) := nd_d0
    have hKc : va_K (dC, dI) vwCl (dk_P ac) s := nd_y0 hK
    have hFc : ∀ q, va_A (dw_P a ac ()) H.size q → A q := nd_r0 hS hA
    refine nd_cSi (As := [.int v1, .int 6, .int 1, .int 5]) (rest := [.int (q100 ||| q103)]) (q := q106) (w' := dw_P a ac s107) ⟨hx, hb, hml, hown, hts⟩ (fun sz => dm_X7_part l hlt dC dI a ac n (v1) (6) (1) (5) () hq sz) (cwS 4 hts gi_dm_X7_placedShort_0 rfl rfl rfl (by decide +kernel) ⟨Nat.le_of_ble_eq_true rfl, Nat.le_of_ble_eq_true rfl⟩) hPc hDc hKc hS hA hN rfl hl.1 rfl (Nat.le_of_ble_eq_true rfl) dX7_placedShort_298 (fun H locs hP1 hD1 hk1 hS => ?_)
    have hP := nd_n0 hP hk1
    refine lv_ior hx hb dX7_placedShort_301 ?_
    refine lv_iload_n hx hb dX7_placedShort_302 rfl (lv_at hl 1 rfl) ?_
    refine lv_bipush (v := 7) hx hb dX7_placedShort_303 (by decide) ?_
    refine lv_iconst (v := 2) hx hb dX7_placedShort_305 (by decide) ?_
    refine lv_iconst (v := 3) hx hb dX7_placedShort_306 (by decide) ?_
    obtain ⟨q109, s110, hq, h⟩ := nd_b2_e h
    have hPc : va_P (dC, dI) vwCl (dw_P a ac ()) H := nd_p0
    have hDc : va_D A (dw_P a ac ()) := nd_d0
    have hKc : va_K (dC, dI) vwCl (dk_P ac) s := nd_y0 hK
    have hFc : ∀ q, va_A (dw_P a ac ()) H.size q → A q := nd_r0 hS hA
    refine nd_cSi (As := [.int v1, .int 7, .int 2, .int 3]) (rest := [.int ((q100 ||| q103) ||| q106)]) (q := q109) (w' := dw_P a ac s110) ⟨hx, hb, hml, hown, hts⟩ (fun sz => dm_X7_part l hlt dC dI a ac n (v1) (7) (2) (3) () hq sz) (cwS 4 hts gi_dm_X7_placedShort_0 rfl rfl rfl (by decide +kernel) ⟨Nat.le_of_ble_eq_true rfl, Nat.le_of_ble_eq_true rfl⟩) hPc hDc hKc hS hA hN rfl hl.1 rfl (Nat.le_of_ble_eq_true rfl) dX7_placedShort_307 (fun H locs hP1 hD1 hk1 hS => ?_)
    have hP := nd_n0 hP hk1
    refine lv_ior hx hb dX7_placedShort_310 ?_
    refine lv_iload_n hx hb dX7_placedShort_311 rfl (lv_at hl 1 rfl) ?_
    refine lv_iconst (v := 5) hx hb dX7_placedShort_312 (by decide) ?_
    refine lv_iconst (v := 1) hx hb dX7_placedShort_313 (by decide) ?_
    refine lv_iconst (v := 2) hx hb dX7_placedShort_314 (by decide) ?_
    obtain ⟨q112, s113, hq, h⟩ := nd_b2_e h
    have hPc : va_P (dC, dI) vwCl (dw_P a ac ()) H := nd_p0
    have hDc : va_D A (dw_P a ac ()) := nd_d0
    have hKc : va_K (dC, dI) vwCl (dk_P ac) s := nd_y0 hK
    have hFc : ∀ q, va_A (dw_P a ac ()) H.size q → A q := nd_r0 hS hA
    refine nd_cSi (As := [.int v1, .int 5, .int 1, .int 2]) (rest := [.int (((q100 ||| q103) ||| q106) ||| q109)]) (q := q112) (w' := dw_P a ac s113) ⟨hx, hb, hml, hown, hts⟩ (fun sz => dm_X7_part l hlt dC dI a ac n (v1) (5) (1) (2) () hq sz) (cwS 4 hts gi_dm_X7_placedShort_0 rfl rfl rfl (by decide +kernel) ⟨Nat.le_of_ble_eq_true rfl, Nat.le_of_ble_eq_true rfl⟩) hPc hDc hKc hS hA hN rfl hl.1 rfl (Nat.le_of_ble_eq_true rfl) dX7_placedShort_315 (fun H locs hP1 hD1 hk1 hS => ?_)
    have hP := nd_n0 hP hk1
    refine lv_ior hx hb dX7_placedShort_318 ?_
    exact K _ _ _ _ _ _ dX7_placedShort_319 rfl (Option.some.inj h).symm hP hD hS
  have h := nd_neg h c99
  refine lv_tableOut (tgt := 373) hx hb dX7_placedShort_1 (by have g0 := nv_nei c1 (k := 75) (by decide); have g1 := nv_nei c26 (k := 76) (by decide); have g2 := nv_nei c42 (k := 77) (by decide); have g3 := nv_nei c49 (k := 78) (by decide); have g4 := nv_nei c50 (k := 79) (by decide); have g5 := nv_nei c51 (k := 80) (by decide); have g6 := nv_nei c61 (k := 81) (by decide); have g7 := nv_nei c68 (k := 82) (by decide); have g8 := nv_nei c69 (k := 83) (by decide); have g9 := nv_nei c70 (k := 84) (by decide); have g10 := nv_nei c71 (k := 85) (by decide); have g11 := nv_nei c72 (k := 86) (by decide); have g12 := nv_nei c76 (k := 87) (by decide); have g13 := nv_nei c86 (k := 88) (by decide); have g14 := nv_nei c99 (k := 89) (by decide); omega) (by decide) ?_
  exact (db_X7_placedShort_373 C K)  s0 _ _ _ h hP hD hS (lv_sub hl [] rfl)
set_option maxHeartbeats 40000000 in
set_option maxRecDepth 100000 in
theorem dm_X7_placedShort (l : Launch) (hlt : l.stackTraces = false) (dC : Nat → ClassId) (dI : Nat → Nat → Nat) (a : Nat → Nat) (ac : Nat → ClassId) (n : Nat) (v0 : Int32) (v1 : Int32) (s0 : Unit) {r : Int32 × (Unit)} (h : df_X7_placedShort n v0 v1 s0 = some r) (sz : Nat) : Met l yX7_placedShort ow_dm_X7_placedShort ({ frames := 1, cells := 0, slots := 0, locals := 23 }) (va_Pc [.int v0, .int v1] (fun U => U.heap.size = sz ∧ va_P (dC, dI) vwCl (dw_P a ac s0) U.heap ∧ va_K (dC, dI) vwCl (dk_P ac) U ∧ va_D (fun _ => True) (dw_P a ac s0) ∧ nv_E (va_A (dw_P a ac s0) sz) U)) (va_Qi (fun x _ => x = r.1) (fun (_ : Unit) t => va_P (dC, dI) vwCl (dw_P a ac r.2) t.heap ∧ va_K (dC, dI) vwCl (dk_P ac) t ∧ va_D (va_A (dw_P a ac s0) sz) (dw_P a ac r.2)) (va_A (dw_P a ac s0) sz)) 0 0 (va_A (dw_P a ac s0) sz) := by
  refine Met.ofW (cc := cX7_placedShort) (maxL := 2) (ret := (some .int)) (by decide) rfl ?_
  intro p e s m args below meth c s₁ B hml hv
  obtain ⟨rfl, hsz, hP, hK, hD0, hN⟩ := hv
  have hx := B.exec
  have hb := B.bytes
  have hr := B.returns
  have hts := atoms_spec (ws := ow_dm_X7_placedShort) B.pre
  have hown : s.vm.findClass RX7 = some m.cls := findClass_of_methodNamed B.named
  have hlocks := B.notSynchronized
  subst hsz
  have hD := hD0.self (sz := s.heap.size)
  generalize hAe : va_A (dw_P a ac s0) s.heap.size = A at hD hN ⊢
  have hA : ∀ q : Nat, s.heap.size ≤ q → A q := fun q h => by rw [← hAe]; exact Or.inr h
  have hl := lv_entry ([.int v0, .int v1]) (n := 2) (Nat.le_of_ble_eq_true rfl)
  rw [lg_entry_eq]
  generalize (lg_sl ([.int v0, .int v1]) ++ List.replicate (2 - (lg_sl ([.int v0, .int v1])).length) Slot.unset).toArray = ls at hl ⊢
  have hl : lv_has ls 2 [(0, .int v0), (1, .int v1)] := hl
  exact db_X7_placedShort_0 (dC := dC) (dI := dI) (a := a) (ac := ac) (n := n) (r := r) ⟨hlt, hx, hb, hml, hown, hts, hN, hA, hK⟩ (fun pc v τ H locs ls d z er hP hD hS => by subst er; exact W.zret (v := v) hx hb hr z (fun t ht hW => ⟨⟨v, (), rfl, rfl, by rw [ht]; exact hP, va_K.moved hW.alike hK, hD⟩, hS.F ht⟩) hS.2.2 d) v0 v1 s0 _ _ _ h hP hD va_S.rf (lv_sub hl [0, 1] rfl)
def ow_dm_X7_placed : List Cond := .code yX7_placed cX7_placed 2 (some .int) :: ([.methodLink RX7 466 yX7_part, .static yX7_part, .initialized RX7, .methodLink RX7 470 yX7_placedShort, .static yX7_placedShort] ++ (ow_dm_X7_part ++ (ow_dm_X7_placedShort ++ [])))
theorem gd_dm_X7_placed : ∀ w ∈ ow_dm_X7_placed, (w.onTables && w.keeps) = true ∨ ∃ ty, w = Cond.arrayClass ty := List.forall_mem_cons.mpr ⟨good_of_word rfl, List.forall_mem_append.mpr ⟨fun w h => good_of_word (List.all_eq_true.mp (by decide +kernel) w h), List.forall_mem_append.mpr ⟨gd_dm_X7_part, List.forall_mem_append.mpr ⟨gd_dm_X7_placedShort, fun _ h => nomatch h⟩⟩⟩⟩
theorem gi_dm_X7_placed_0 : GoodIn ow_dm_X7_placed (wsS RX7 466 yX7_part ow_dm_X7_part) := goodIn_app (goodIn_of _ (by decide +kernel)) (fun w h => ⟨List.mem_cons_of_mem _ (List.mem_append_right _ (List.mem_append_left _ h)), gd_dm_X7_part w h⟩)
theorem gi_dm_X7_placed_1 : GoodIn ow_dm_X7_placed (wsS RX7 470 yX7_placedShort ow_dm_X7_placedShort) := goodIn_app (goodIn_of _ (by decide +kernel)) (fun w h => ⟨List.mem_cons_of_mem _ (List.mem_append_right _ (List.mem_append_right _ (List.mem_append_left _ h))), gd_dm_X7_placedShort w h⟩)
def dj_X7_placed_371 (p : Program) (l : Launch) (e : Env) (s : State) (m : MethodId) (args : Array Value) (below : List Frame) (meth : Method) (c : Code) (Q : State → Prop) (A : Nat → Prop) (dC : Nat → ClassId) (dI : Nat → Nat → Nat) (a : Nat → Nat) (ac : Nat → ClassId) (g : Int32 → Int32 → (Unit) → Option (Int32 × (Unit))) (r : Int32 × (Unit)) : Prop := ∀ (x0 : Int32) (x1 : Int32) (s0 : Unit) (H : Heap) (locs : List Loc) (ls : Array Slot), g x0 x1 s0 = some r → va_P (dC, dI) vwCl (dw_P a ac s0) H → va_D A (dw_P a ac s0) → va_S A s.heap H locs → lv_has ls 2 [(0, .int x0), (1, .int x1)] → W p l e (headSpec ow_dm_X7_placed ({ frames := 2, cells := 0, slots := 0, locals := 44 })).room s m args below meth c H locs 0 0 Q (F0 m 371 ls [])
def dj_X7_placed_220 (p : Program) (l : Launch) (e : Env) (s : State) (m : MethodId) (args : Array Value) (below : List Frame) (meth : Method) (c : Code) (Q : State → Prop) (A : Nat → Prop) (dC : Nat → ClassId) (dI : Nat → Nat → Nat) (a : Nat → Nat) (ac : Nat → ClassId) (g : Int32 → (Unit) → Option (Int32 × (Unit))) (r : Int32 × (Unit)) : Prop := ∀ (x1 : Int32) (s0 : Unit) (H : Heap) (locs : List Loc) (ls : Array Slot), g x1 s0 = some r → va_P (dC, dI) vwCl (dw_P a ac s0) H → va_D A (dw_P a ac s0) → va_S A s.heap H locs → lv_has ls 2 [(1, .int x1)] → W p l e (headSpec ow_dm_X7_placed ({ frames := 2, cells := 0, slots := 0, locals := 44 })).room s m args below meth c H locs 0 0 Q (F0 m 220 ls [])
def dj_X7_placed_235 (p : Program) (l : Launch) (e : Env) (s : State) (m : MethodId) (args : Array Value) (below : List Frame) (meth : Method) (c : Code) (Q : State → Prop) (A : Nat → Prop) (dC : Nat → ClassId) (dI : Nat → Nat → Nat) (a : Nat → Nat) (ac : Nat → ClassId) (g : Int32 → (Unit) → Option (Int32 × (Unit))) (r : Int32 × (Unit)) : Prop := ∀ (x1 : Int32) (s0 : Unit) (H : Heap) (locs : List Loc) (ls : Array Slot), g x1 s0 = some r → va_P (dC, dI) vwCl (dw_P a ac s0) H → va_D A (dw_P a ac s0) → va_S A s.heap H locs → lv_has ls 2 [(1, .int x1)] → W p l e (headSpec ow_dm_X7_placed ({ frames := 2, cells := 0, slots := 0, locals := 44 })).room s m args below meth c H locs 0 0 Q (F0 m 235 ls [])
def dj_X7_placed_0 (p : Program) (l : Launch) (e : Env) (s : State) (m : MethodId) (args : Array Value) (below : List Frame) (meth : Method) (c : Code) (Q : State → Prop) (A : Nat → Prop) (dC : Nat → ClassId) (dI : Nat → Nat → Nat) (a : Nat → Nat) (ac : Nat → ClassId) (g : Int32 → Int32 → (Unit) → Option (Int32 × (Unit))) (r : Int32 × (Unit)) : Prop := ∀ (v0 : Int32) (v1 : Int32) (s0 : Unit) (H : Heap) (locs : List Loc) (ls : Array Slot), g v0 v1 s0 = some r → va_P (dC, dI) vwCl (dw_P a ac s0) H → va_D A (dw_P a ac s0) → va_S A s.heap H locs → lv_has ls 2 [(0, .int v0), (1, .int v1)] → W p l e (headSpec ow_dm_X7_placed ({ frames := 2, cells := 0, slots := 0, locals := 44 })).room s m args below meth c H locs 0 0 Q (F0 m 0 ls [])
set_option maxHeartbeats 40000000 in
set_option maxRecDepth 100000 in
theorem db_X7_placed_371 {p : Program} {l : Launch} {e : Env} {s : State} {m : MethodId} {args : Array Value} {below : List Frame} {meth : Method} {c : Code} {Q : State → Prop} {A : Nat → Prop} {dC : Nat → ClassId} {dI : Nat → Nat → Nat} {a : Nat → Nat} {ac : Nat → ClassId} {n : Nat} {r : Int32 × (Unit)} (C : nd_C p l s m args c A (dC, dI) cX7_placed 2 RX7 ow_dm_X7_placed (dk_P ac)) (K : nd_Ki p l e (headSpec ow_dm_X7_placed ({ frames := 2, cells := 0, slots := 0, locals := 44 })).room s m args below meth c Q A (dC, dI) cX7_placed .int (Unit) (dw_P a ac) r) : dj_X7_placed_371 p l e s m args below meth c Q A dC dI a ac (df_X7_placed_371 n) r := by
  obtain ⟨hlt, hx, hb, hml, hown, hts, hN, hA, hK⟩ := id C
  intro x0 x1 s0 H locs ls h hP hD hS hl
  unfold df_X7_placed_371 at h
  refine lv_iload_n hx hb dX7_placed_371 rfl (lv_at hl 0 rfl) ?_
  refine lv_iload_n hx hb dX7_placed_372 rfl (lv_at hl 1 rfl) ?_
  obtain ⟨q17, s18, hq, h⟩ := nd_b2_e h
  have hPc : va_P (dC, dI) vwCl (dw_P a ac ()) H := nd_p0
  have hDc : va_D A (dw_P a ac ()) := nd_d0
  have hKc : va_K (dC, dI) vwCl (dk_P ac) s := nd_y0 hK
  have hFc : ∀ q, va_A (dw_P a ac ()) H.size q → A q := nd_r0 hS hA
  refine nd_cSi (As := [.int x0, .int x1]) (rest := []) (q := q17) (w' := dw_P a ac s18) ⟨hx, hb, hml, hown, hts⟩ (fun sz => dm_X7_placedShort l hlt dC dI a ac n (x0) (x1) () hq sz) (cwS 2 hts gi_dm_X7_placed_1 rfl rfl rfl (by decide +kernel) ⟨Nat.le_of_ble_eq_true rfl, Nat.le_of_ble_eq_true rfl⟩) hPc hDc hKc hS hA hN rfl hl.1 rfl (Nat.le_of_ble_eq_true rfl) dX7_placed_373 (fun H locs hP1 hD1 hk1 hS => ?_)
  have hP := nd_n0 hP hk1
  exact K _ _ _ _ _ _ dX7_placed_376 rfl (Option.some.inj h).symm hP hD hS
set_option maxHeartbeats 40000000 in
set_option maxRecDepth 100000 in
theorem db_X7_placed_220 {p : Program} {l : Launch} {e : Env} {s : State} {m : MethodId} {args : Array Value} {below : List Frame} {meth : Method} {c : Code} {Q : State → Prop} {A : Nat → Prop} {dC : Nat → ClassId} {dI : Nat → Nat → Nat} {a : Nat → Nat} {ac : Nat → ClassId} {n : Nat} {r : Int32 × (Unit)} (C : nd_C p l s m args c A (dC, dI) cX7_placed 2 RX7 ow_dm_X7_placed (dk_P ac)) (K : nd_Ki p l e (headSpec ow_dm_X7_placed ({ frames := 2, cells := 0, slots := 0, locals := 44 })).room s m args below meth c Q A (dC, dI) cX7_placed .int (Unit) (dw_P a ac) r) : dj_X7_placed_220 p l e s m args below meth c Q A dC dI a ac (df_X7_placed_220 n) r := by
  obtain ⟨hlt, hx, hb, hml, hown, hts, hN, hA, hK⟩ := id C
  intro x1 s0 H locs ls h hP hD hS hl
  unfold df_X7_placed_220 at h
  refine lv_iload_n hx hb dX7_placed_220 rfl (lv_at hl 0 rfl) ?_
  refine lv_bipush (v := 7) hx hb dX7_placed_221 (by decide) ?_
  refine lv_ishl hx hb dX7_placed_223 ?_
  exact K _ _ _ _ _ _ dX7_placed_224 rfl (Option.some.inj h).symm hP hD hS
set_option maxHeartbeats 40000000 in
set_option maxRecDepth 100000 in
theorem db_X7_placed_235 {p : Program} {l : Launch} {e : Env} {s : State} {m : MethodId} {args : Array Value} {below : List Frame} {meth : Method} {c : Code} {Q : State → Prop} {A : Nat → Prop} {dC : Nat → ClassId} {dI : Nat → Nat → Nat} {a : Nat → Nat} {ac : Nat → ClassId} {n : Nat} {r : Int32 × (Unit)} (C : nd_C p l s m args c A (dC, dI) cX7_placed 2 RX7 ow_dm_X7_placed (dk_P ac)) (K : nd_Ki p l e (headSpec ow_dm_X7_placed ({ frames := 2, cells := 0, slots := 0, locals := 44 })).room s m args below meth c Q A (dC, dI) cX7_placed .int (Unit) (dw_P a ac) r) : dj_X7_placed_235 p l e s m args below meth c Q A dC dI a ac (df_X7_placed_235 n) r := by
  obtain ⟨hlt, hx, hb, hml, hown, hts, hN, hA, hK⟩ := id C
  intro x1 s0 H locs ls h hP hD hS hl
  unfold df_X7_placed_235 at h
  refine lv_iload_n hx hb dX7_placed_235 rfl (lv_at hl 0 rfl) ?_
  refine lv_iconst (v := 2) hx hb dX7_placed_236 (by decide) ?_
  refine lv_ishl hx hb dX7_placed_237 ?_
  exact K _ _ _ _ _ _ dX7_placed_238 rfl (Option.some.inj h).symm hP hD hS
set_option maxHeartbeats 40000000 in
set_option maxRecDepth 100000 in
theorem db_X7_placed_0 {p : Program} {l : Launch} {e : Env} {s : State} {m : MethodId} {args : Array Value} {below : List Frame} {meth : Method} {c : Code} {Q : State → Prop} {A : Nat → Prop} {dC : Nat → ClassId} {dI : Nat → Nat → Nat} {a : Nat → Nat} {ac : Nat → ClassId} {n : Nat} {r : Int32 × (Unit)} (C : nd_C p l s m args c A (dC, dI) cX7_placed 2 RX7 ow_dm_X7_placed (dk_P ac)) (K : nd_Ki p l e (headSpec ow_dm_X7_placed ({ frames := 2, cells := 0, slots := 0, locals := 44 })).room s m args below meth c Q A (dC, dI) cX7_placed .int (Unit) (dw_P a ac) r) : dj_X7_placed_0 p l e s m args below meth c Q A dC dI a ac (df_X7_placed_0 n) r := by
  obtain ⟨hlt, hx, hb, hml, hown, hts, hN, hA, hK⟩ := id C
  intro v0 v1 s0 H locs ls h hP hD hS hl
  unfold df_X7_placed_0 at h
  refine lv_iload_n hx hb dX7_placed_0 rfl (lv_at hl 0 rfl) ?_
  by_cases c1 : v0 = 72
  · have h := nd_pos h c1
    refine lv_tableIn (off := 258) (tgt := 259) hx hb dX7_placed_1 (by rw [c1]; decide) (by rw [c1]; decide) (by rw [c1]; decide) (by decide) ?_
    refine lv_iload_n hx hb dX7_placed_259 rfl (lv_at hl 1 rfl) ?_
    refine lv_bipush (v := 31) hx hb dX7_placed_260 (by decide) ?_
    refine lv_iand hx hb dX7_placed_262 ?_
    refine lv_bipush (v := 20) hx hb dX7_placed_263 (by decide) ?_
    refine lv_ishl hx hb dX7_placed_265 ?_
    exact K _ _ _ _ _ _ dX7_placed_266 rfl (Option.some.inj h).symm hP hD hS
  have h := nd_neg h c1
  by_cases c2 : v0 = 73
  · have h := nd_pos h c2
    refine lv_tableIn (off := 253) (tgt := 254) hx hb dX7_placed_1 (by rw [c2]; decide) (by rw [c2]; decide) (by rw [c2]; decide) (by decide) ?_
    refine lv_iload_n hx hb dX7_placed_254 rfl (lv_at hl 1 rfl) ?_
    refine lv_bipush (v := 20) hx hb dX7_placed_255 (by decide) ?_
    refine lv_ishl hx hb dX7_placed_257 ?_
    exact K _ _ _ _ _ _ dX7_placed_258 rfl (Option.some.inj h).symm hP hD hS
  have h := nd_neg h c2
  by_cases c3 : v0 = 74
  · have h := nd_pos h c3
    refine lv_tableIn (off := 329) (tgt := 330) hx hb dX7_placed_1 (by rw [c3]; decide) (by rw [c3]; decide) (by rw [c3]; decide) (by decide) ?_
    refine lv_iload_n hx hb dX7_placed_330 rfl (lv_at hl 1 rfl) ?_
    refine lv_bipush (v := 20) hx hb dX7_placed_331 (by decide) ?_
    refine lv_iconst (v := 1) hx hb dX7_placed_333 (by decide) ?_
    refine lv_bipush (v := 31) hx hb dX7_placed_334 (by decide) ?_
    obtain ⟨q4, s5, hq, h⟩ := nd_b2_e h
    have hPc : va_P (dC, dI) vwCl (dw_P a ac ()) H := nd_p0
    have hDc : va_D A (dw_P a ac ()) := nd_d0
    have hKc : va_K (dC, dI) vwCl (dk_P ac) s := nd_y0 hK
    have hFc : ∀ q, va_A (dw_P a ac ()) H.size q → A q := nd_r0 hS hA
    refine nd_cSi (As := [.int v1, .int 20, .int 1, .int 31]) (rest := []) (q := q4) (w' := dw_P a ac s5) ⟨hx, hb, hml, hown, hts⟩ (fun sz => dm_X7_part l hlt dC dI a ac n (v1) (20) (1) (31) () hq sz) (cwS 4 hts gi_dm_X7_placed_0 rfl rfl rfl (by decide +kernel) ⟨Nat.le_of_ble_eq_true rfl, Nat.le_of_ble_eq_true rfl⟩) hPc hDc hKc hS hA hN rfl hl.1 rfl (Nat.le_of_ble_eq_true rfl) dX7_placed_336 (fun H locs hP1 hD1 hk1 hS => ?_)
    have hP := nd_n0 hP hk1
    refine lv_iload_n hx hb dX7_placed_339 rfl (lv_at hl 1 rfl) ?_
    refine lv_iconst (v := 1) hx hb dX7_placed_340 (by decide) ?_
    refine lv_bipush (v := 10) hx hb dX7_placed_341 (by decide) ?_
    refine lv_bipush (v := 21) hx hb dX7_placed_343 (by decide) ?_
    obtain ⟨q7, s8, hq, h⟩ := nd_b2_e h
    have hPc : va_P (dC, dI) vwCl (dw_P a ac ()) H := nd_p0
    have hDc : va_D A (dw_P a ac ()) := nd_d0
    have hKc : va_K (dC, dI) vwCl (dk_P ac) s := nd_y0 hK
    have hFc : ∀ q, va_A (dw_P a ac ()) H.size q → A q := nd_r0 hS hA
    refine nd_cSi (As := [.int v1, .int 1, .int 10, .int 21]) (rest := [.int q4]) (q := q7) (w' := dw_P a ac s8) ⟨hx, hb, hml, hown, hts⟩ (fun sz => dm_X7_part l hlt dC dI a ac n (v1) (1) (10) (21) () hq sz) (cwS 4 hts gi_dm_X7_placed_0 rfl rfl rfl (by decide +kernel) ⟨Nat.le_of_ble_eq_true rfl, Nat.le_of_ble_eq_true rfl⟩) hPc hDc hKc hS hA hN rfl hl.1 rfl (Nat.le_of_ble_eq_true rfl) dX7_placed_345 (fun H locs hP1 hD1 hk1 hS => ?_)
    have hP := nd_n0 hP hk1
    refine lv_ior hx hb dX7_placed_348 ?_
    refine lv_iload_n hx hb dX7_placed_349 rfl (lv_at hl 1 rfl) ?_
    refine lv_bipush (v := 11) hx hb dX7_placed_350 (by decide) ?_
    refine lv_iconst (v := 1) hx hb dX7_placed_352 (by decide) ?_
    refine lv_bipush (v := 20) hx hb dX7_placed_353 (by decide) ?_
    obtain ⟨q10, s11, hq, h⟩ := nd_b2_e h
    have hPc : va_P (dC, dI) vwCl (dw_P a ac ()) H := nd_p0
    have hDc : va_D A (dw_P a ac ()) := nd_d0
    have hKc : va_K (dC, dI) vwCl (dk_P ac) s := nd_y0 hK
    have hFc : ∀ q, va_A (dw_P a ac ()) H.size q → A q := nd_r0 hS hA
    refine nd_cSi (As := [.int v1, .int 11, .int 1, .int 20]) (rest := [.int (q4 ||| q7)]) (q := q10) (w' := dw_P a ac s11) ⟨hx, hb, hml, hown, hts⟩ (fun sz => dm_X7_part l hlt dC dI a ac n (v1) (11) (1) (20) () hq sz) (cwS 4 hts gi_dm_X7_placed_0 rfl rfl rfl (by decide +kernel) ⟨Nat.le_of_ble_eq_true rfl, Nat.le_of_ble_eq_true rfl⟩) hPc hDc hKc hS hA hN rfl hl.1 rfl (Nat.le_of_ble_eq_true rfl) dX7_placed_355 (fun H locs hP1 hD1 hk1 hS => ?_)
    have hP := nd_n0 hP hk1
    refine lv_ior hx hb dX7_placed_358 ?_
    refine lv_iload_n hx hb dX7_placed_359 rfl (lv_at hl 1 rfl) ?_
    refine lv_bipush (v := 12) hx hb dX7_placed_360 (by decide) ?_
    refine lv_bipush (v := 8) hx hb dX7_placed_362 (by decide) ?_
    refine lv_bipush (v := 12) hx hb dX7_placed_364 (by decide) ?_
    obtain ⟨q13, s14, hq, h⟩ := nd_b2_e h
    have hPc : va_P (dC, dI) vwCl (dw_P a ac ()) H := nd_p0
    have hDc : va_D A (dw_P a ac ()) := nd_d0
    have hKc : va_K (dC, dI) vwCl (dk_P ac) s := nd_y0 hK
    have hFc : ∀ q, va_A (dw_P a ac ()) H.size q → A q := nd_r0 hS hA
    refine nd_cSi (As := [.int v1, .int 12, .int 8, .int 12]) (rest := [.int ((q4 ||| q7) ||| q10)]) (q := q13) (w' := dw_P a ac s14) ⟨hx, hb, hml, hown, hts⟩ (fun sz => dm_X7_part l hlt dC dI a ac n (v1) (12) (8) (12) () hq sz) (cwS 4 hts gi_dm_X7_placed_0 rfl rfl rfl (by decide +kernel) ⟨Nat.le_of_ble_eq_true rfl, Nat.le_of_ble_eq_true rfl⟩) hPc hDc hKc hS hA hN rfl hl.1 rfl (Nat.le_of_ble_eq_true rfl) dX7_placed_366 (fun H locs hP1 hD1 hk1 hS => ?_)
    have hP := nd_n0 hP hk1
    refine lv_ior hx hb dX7_placed_369 ?_
    exact K _ _ _ _ _ _ dX7_placed_370 rfl (Option.some.inj h).symm hP hD hS
  have h := nd_neg h c3
  by_cases c16 : v0 = 75
  · have h := nd_pos h c16
    refine lv_tableIn (off := 370) (tgt := 371) hx hb dX7_placed_1 (by rw [c16]; decide) (by rw [c16]; decide) (by rw [c16]; decide) (by decide) ?_
    exact (db_X7_placed_371 C K) (v0) (v1) s0 _ _ _ h hP hD hS (lv_sub hl [0, 1] rfl)
  have h := nd_neg h c16
  by_cases c20 : v0 = 76
  · have h := nd_pos h c20
    refine lv_tableIn (off := 370) (tgt := 371) hx hb dX7_placed_1 (by rw [c20]; decide) (by rw [c20]; decide) (by rw [c20]; decide) (by decide) ?_
    exact (db_X7_placed_371 C K) (v0) (v1) s0 _ _ _ h hP hD hS (lv_sub hl [0, 1] rfl)
  have h := nd_neg h c20
  by_cases c21 : v0 = 77
  · have h := nd_pos h c21
    refine lv_tableIn (off := 370) (tgt := 371) hx hb dX7_placed_1 (by rw [c21]; decide) (by rw [c21]; decide) (by rw [c21]; decide) (by decide) ?_
    exact (db_X7_placed_371 C K) (v0) (v1) s0 _ _ _ h hP hD hS (lv_sub hl [0, 1] rfl)
  have h := nd_neg h c21
  by_cases c22 : v0 = 78
  · have h := nd_pos h c22
    refine lv_tableIn (off := 370) (tgt := 371) hx hb dX7_placed_1 (by rw [c22]; decide) (by rw [c22]; decide) (by rw [c22]; decide) (by decide) ?_
    exact (db_X7_placed_371 C K) (v0) (v1) s0 _ _ _ h hP hD hS (lv_sub hl [0, 1] rfl)
  have h := nd_neg h c22
  by_cases c23 : v0 = 79
  · have h := nd_pos h c23
    refine lv_tableIn (off := 370) (tgt := 371) hx hb dX7_placed_1 (by rw [c23]; decide) (by rw [c23]; decide) (by rw [c23]; decide) (by decide) ?_
    exact (db_X7_placed_371 C K) (v0) (v1) s0 _ _ _ h hP hD hS (lv_sub hl [0, 1] rfl)
  have h := nd_neg h c23
  by_cases c24 : v0 = 80
  · have h := nd_pos h c24
    refine lv_tableIn (off := 370) (tgt := 371) hx hb dX7_placed_1 (by rw [c24]; decide) (by rw [c24]; decide) (by rw [c24]; decide) (by decide) ?_
    exact (db_X7_placed_371 C K) (v0) (v1) s0 _ _ _ h hP hD hS (lv_sub hl [0, 1] rfl)
  have h := nd_neg h c24
  by_cases c25 : v0 = 81
  · have h := nd_pos h c25
    refine lv_tableIn (off := 370) (tgt := 371) hx hb dX7_placed_1 (by rw [c25]; decide) (by rw [c25]; decide) (by rw [c25]; decide) (by decide) ?_
    exact (db_X7_placed_371 C K) (v0) (v1) s0 _ _ _ h hP hD hS (lv_sub hl [0, 1] rfl)
  have h := nd_neg h c25
  by_cases c26 : v0 = 82
  · have h := nd_pos h c26
    refine lv_tableIn (off := 370) (tgt := 371) hx hb dX7_placed_1 (by rw [c26]; decide) (by rw [c26]; decide) (by rw [c26]; decide) (by decide) ?_
    exact (db_X7_placed_371 C K) (v0) (v1) s0 _ _ _ h hP hD hS (lv_sub hl [0, 1] rfl)
  have h := nd_neg h c26
  by_cases c27 : v0 = 83
  · have h := nd_pos h c27
    refine lv_tableIn (off := 266) (tgt := 267) hx hb dX7_placed_1 (by rw [c27]; decide) (by rw [c27]; decide) (by rw [c27]; decide) (by decide) ?_
    refine lv_iload_n hx hb dX7_placed_267 rfl (lv_at hl 1 rfl) ?_
    refine lv_iconst (v := 5) hx hb dX7_placed_268 (by decide) ?_
    refine lv_bipush (v := 7) hx hb dX7_placed_269 (by decide) ?_
    refine lv_bipush (v := 25) hx hb dX7_placed_271 (by decide) ?_
    obtain ⟨q28, s29, hq, h⟩ := nd_b2_e h
    have hPc : va_P (dC, dI) vwCl (dw_P a ac ()) H := nd_p0
    have hDc : va_D A (dw_P a ac ()) := nd_d0
    have hKc : va_K (dC, dI) vwCl (dk_P ac) s := nd_y0 hK
    have hFc : ∀ q, va_A (dw_P a ac ()) H.size q → A q := nd_r0 hS hA
    refine nd_cSi (As := [.int v1, .int 5, .int 7, .int 25]) (rest := []) (q := q28) (w' := dw_P a ac s29) ⟨hx, hb, hml, hown, hts⟩ (fun sz => dm_X7_part l hlt dC dI a ac n (v1) (5) (7) (25) () hq sz) (cwS 4 hts gi_dm_X7_placed_0 rfl rfl rfl (by decide +kernel) ⟨Nat.le_of_ble_eq_true rfl, Nat.le_of_ble_eq_true rfl⟩) hPc hDc hKc hS hA hN rfl hl.1 rfl (Nat.le_of_ble_eq_true rfl) dX7_placed_273 (fun H locs hP1 hD1 hk1 hS => ?_)
    have hP := nd_n0 hP hk1
    refine lv_iload_n hx hb dX7_placed_276 rfl (lv_at hl 1 rfl) ?_
    refine lv_iconst (v := 0) hx hb dX7_placed_277 (by decide) ?_
    refine lv_iconst (v := 5) hx hb dX7_placed_278 (by decide) ?_
    refine lv_bipush (v := 7) hx hb dX7_placed_279 (by decide) ?_
    obtain ⟨q31, s32, hq, h⟩ := nd_b2_e h
    have hPc : va_P (dC, dI) vwCl (dw_P a ac ()) H := nd_p0
    have hDc : va_D A (dw_P a ac ()) := nd_d0
    have hKc : va_K (dC, dI) vwCl (dk_P ac) s := nd_y0 hK
    have hFc : ∀ q, va_A (dw_P a ac ()) H.size q → A q := nd_r0 hS hA
    refine nd_cSi (As := [.int v1, .int 0, .int 5, .int 7]) (rest := [.int q28]) (q := q31) (w' := dw_P a ac s32) ⟨hx, hb, hml, hown, hts⟩ (fun sz => dm_X7_part l hlt dC dI a ac n (v1) (0) (5) (7) () hq sz) (cwS 4 hts gi_dm_X7_placed_0 rfl rfl rfl (by decide +kernel) ⟨Nat.le_of_ble_eq_true rfl, Nat.le_of_ble_eq_true rfl⟩) hPc hDc hKc hS hA hN rfl hl.1 rfl (Nat.le_of_ble_eq_true rfl) dX7_placed_281 (fun H locs hP1 hD1 hk1 hS => ?_)
    have hP := nd_n0 hP hk1
    refine lv_ior hx hb dX7_placed_284 ?_
    exact K _ _ _ _ _ _ dX7_placed_285 rfl (Option.some.inj h).symm hP hD hS
  have h := nd_neg h c27
  by_cases c34 : v0 = 84
  · have h := nd_pos h c34
    refine lv_tableIn (off := 290) (tgt := 291) hx hb dX7_placed_1 (by rw [c34]; decide) (by rw [c34]; decide) (by rw [c34]; decide) (by decide) ?_
    refine lv_iload_n hx hb dX7_placed_291 rfl (lv_at hl 1 rfl) ?_
    refine lv_bipush (v := 12) hx hb dX7_placed_292 (by decide) ?_
    refine lv_iconst (v := 1) hx hb dX7_placed_294 (by decide) ?_
    refine lv_bipush (v := 31) hx hb dX7_placed_295 (by decide) ?_
    obtain ⟨q35, s36, hq, h⟩ := nd_b2_e h
    have hPc : va_P (dC, dI) vwCl (dw_P a ac ()) H := nd_p0
    have hDc : va_D A (dw_P a ac ()) := nd_d0
    have hKc : va_K (dC, dI) vwCl (dk_P ac) s := nd_y0 hK
    have hFc : ∀ q, va_A (dw_P a ac ()) H.size q → A q := nd_r0 hS hA
    refine nd_cSi (As := [.int v1, .int 12, .int 1, .int 31]) (rest := []) (q := q35) (w' := dw_P a ac s36) ⟨hx, hb, hml, hown, hts⟩ (fun sz => dm_X7_part l hlt dC dI a ac n (v1) (12) (1) (31) () hq sz) (cwS 4 hts gi_dm_X7_placed_0 rfl rfl rfl (by decide +kernel) ⟨Nat.le_of_ble_eq_true rfl, Nat.le_of_ble_eq_true rfl⟩) hPc hDc hKc hS hA hN rfl hl.1 rfl (Nat.le_of_ble_eq_true rfl) dX7_placed_297 (fun H locs hP1 hD1 hk1 hS => ?_)
    have hP := nd_n0 hP hk1
    refine lv_iload_n hx hb dX7_placed_300 rfl (lv_at hl 1 rfl) ?_
    refine lv_iconst (v := 5) hx hb dX7_placed_301 (by decide) ?_
    refine lv_bipush (v := 6) hx hb dX7_placed_302 (by decide) ?_
    refine lv_bipush (v := 25) hx hb dX7_placed_304 (by decide) ?_
    obtain ⟨q38, s39, hq, h⟩ := nd_b2_e h
    have hPc : va_P (dC, dI) vwCl (dw_P a ac ()) H := nd_p0
    have hDc : va_D A (dw_P a ac ()) := nd_d0
    have hKc : va_K (dC, dI) vwCl (dk_P ac) s := nd_y0 hK
    have hFc : ∀ q, va_A (dw_P a ac ()) H.size q → A q := nd_r0 hS hA
    refine nd_cSi (As := [.int v1, .int 5, .int 6, .int 25]) (rest := [.int q35]) (q := q38) (w' := dw_P a ac s39) ⟨hx, hb, hml, hown, hts⟩ (fun sz => dm_X7_part l hlt dC dI a ac n (v1) (5) (6) (25) () hq sz) (cwS 4 hts gi_dm_X7_placed_0 rfl rfl rfl (by decide +kernel) ⟨Nat.le_of_ble_eq_true rfl, Nat.le_of_ble_eq_true rfl⟩) hPc hDc hKc hS hA hN rfl hl.1 rfl (Nat.le_of_ble_eq_true rfl) dX7_placed_306 (fun H locs hP1 hD1 hk1 hS => ?_)
    have hP := nd_n0 hP hk1
    refine lv_ior hx hb dX7_placed_309 ?_
    refine lv_iload_n hx hb dX7_placed_310 rfl (lv_at hl 1 rfl) ?_
    refine lv_iconst (v := 1) hx hb dX7_placed_311 (by decide) ?_
    refine lv_iconst (v := 4) hx hb dX7_placed_312 (by decide) ?_
    refine lv_bipush (v := 8) hx hb dX7_placed_313 (by decide) ?_
    obtain ⟨q41, s42, hq, h⟩ := nd_b2_e h
    have hPc : va_P (dC, dI) vwCl (dw_P a ac ()) H := nd_p0
    have hDc : va_D A (dw_P a ac ()) := nd_d0
    have hKc : va_K (dC, dI) vwCl (dk_P ac) s := nd_y0 hK
    have hFc : ∀ q, va_A (dw_P a ac ()) H.size q → A q := nd_r0 hS hA
    refine nd_cSi (As := [.int v1, .int 1, .int 4, .int 8]) (rest := [.int (q35 ||| q38)]) (q := q41) (w' := dw_P a ac s42) ⟨hx, hb, hml, hown, hts⟩ (fun sz => dm_X7_part l hlt dC dI a ac n (v1) (1) (4) (8) () hq sz) (cwS 4 hts gi_dm_X7_placed_0 rfl rfl rfl (by decide +kernel) ⟨Nat.le_of_ble_eq_true rfl, Nat.le_of_ble_eq_true rfl⟩) hPc hDc hKc hS hA hN rfl hl.1 rfl (Nat.le_of_ble_eq_true rfl) dX7_placed_315 (fun H locs hP1 hD1 hk1 hS => ?_)
    have hP := nd_n0 hP hk1
    refine lv_ior hx hb dX7_placed_318 ?_
    refine lv_iload_n hx hb dX7_placed_319 rfl (lv_at hl 1 rfl) ?_
    refine lv_bipush (v := 11) hx hb dX7_placed_320 (by decide) ?_
    refine lv_iconst (v := 1) hx hb dX7_placed_322 (by decide) ?_
    refine lv_bipush (v := 7) hx hb dX7_placed_323 (by decide) ?_
    obtain ⟨q44, s45, hq, h⟩ := nd_b2_e h
    have hPc : va_P (dC, dI) vwCl (dw_P a ac ()) H := nd_p0
    have hDc : va_D A (dw_P a ac ()) := nd_d0
    have hKc : va_K (dC, dI) vwCl (dk_P ac) s := nd_y0 hK
    have hFc : ∀ q, va_A (dw_P a ac ()) H.size q → A q := nd_r0 hS hA
    refine nd_cSi (As := [.int v1, .int 11, .int 1, .int 7]) (rest := [.int ((q35 ||| q38) ||| q41)]) (q := q44) (w' := dw_P a ac s45) ⟨hx, hb, hml, hown, hts⟩ (fun sz => dm_X7_part l hlt dC dI a ac n (v1) (11) (1) (7) () hq sz) (cwS 4 hts gi_dm_X7_placed_0 rfl rfl rfl (by decide +kernel) ⟨Nat.le_of_ble_eq_true rfl, Nat.le_of_ble_eq_true rfl⟩) hPc hDc hKc hS hA hN rfl hl.1 rfl (Nat.le_of_ble_eq_true rfl) dX7_placed_325 (fun H locs hP1 hD1 hk1 hS => ?_)
    have hP := nd_n0 hP hk1
    refine lv_ior hx hb dX7_placed_328 ?_
    exact K _ _ _ _ _ _ dX7_placed_329 rfl (Option.some.inj h).symm hP hD hS
  have h := nd_neg h c34
  by_cases c47 : v0 = 85
  · have h := nd_pos h c47
    refine lv_tableIn (off := 285) (tgt := 286) hx hb dX7_placed_1 (by rw [c47]; decide) (by rw [c47]; decide) (by rw [c47]; decide) (by decide) ?_
    refine lv_iload_n hx hb dX7_placed_286 rfl (lv_at hl 1 rfl) ?_
    refine lv_bipush (v := 12) hx hb dX7_placed_287 (by decide) ?_
    refine lv_ishl hx hb dX7_placed_289 ?_
    exact K _ _ _ _ _ _ dX7_placed_290 rfl (Option.some.inj h).symm hP hD hS
  have h := nd_neg h c47
  by_cases c48 : v0 = 86
  · have h := nd_pos h c48
    refine lv_tableIn (off := 370) (tgt := 371) hx hb dX7_placed_1 (by rw [c48]; decide) (by rw [c48]; decide) (by rw [c48]; decide) (by decide) ?_
    exact (db_X7_placed_371 C K) (v0) (v1) s0 _ _ _ h hP hD hS (lv_sub hl [0, 1] rfl)
  have h := nd_neg h c48
  by_cases c49 : v0 = 87
  · have h := nd_pos h c49
    refine lv_tableIn (off := 370) (tgt := 371) hx hb dX7_placed_1 (by rw [c49]; decide) (by rw [c49]; decide) (by rw [c49]; decide) (by decide) ?_
    exact (db_X7_placed_371 C K) (v0) (v1) s0 _ _ _ h hP hD hS (lv_sub hl [0, 1] rfl)
  have h := nd_neg h c49
  by_cases c50 : v0 = 88
  · have h := nd_pos h c50
    refine lv_tableIn (off := 370) (tgt := 371) hx hb dX7_placed_1 (by rw [c50]; decide) (by rw [c50]; decide) (by rw [c50]; decide) (by decide) ?_
    exact (db_X7_placed_371 C K) (v0) (v1) s0 _ _ _ h hP hD hS (lv_sub hl [0, 1] rfl)
  have h := nd_neg h c50
  by_cases c51 : v0 = 89
  · have h := nd_pos h c51
    refine lv_tableIn (off := 370) (tgt := 371) hx hb dX7_placed_1 (by rw [c51]; decide) (by rw [c51]; decide) (by rw [c51]; decide) (by decide) ?_
    exact (db_X7_placed_371 C K) (v0) (v1) s0 _ _ _ h hP hD hS (lv_sub hl [0, 1] rfl)
  have h := nd_neg h c51
  by_cases c52 : v0 = 90
  · have h := nd_pos h c52
    refine lv_tableIn (off := 370) (tgt := 371) hx hb dX7_placed_1 (by rw [c52]; decide) (by rw [c52]; decide) (by rw [c52]; decide) (by decide) ?_
    exact (db_X7_placed_371 C K) (v0) (v1) s0 _ _ _ h hP hD hS (lv_sub hl [0, 1] rfl)
  have h := nd_neg h c52
  by_cases c53 : v0 = 91
  · have h := nd_pos h c53
    refine lv_tableIn (off := 370) (tgt := 371) hx hb dX7_placed_1 (by rw [c53]; decide) (by rw [c53]; decide) (by rw [c53]; decide) (by decide) ?_
    exact (db_X7_placed_371 C K) (v0) (v1) s0 _ _ _ h hP hD hS (lv_sub hl [0, 1] rfl)
  have h := nd_neg h c53
  by_cases c54 : v0 = 92
  · have h := nd_pos h c54
    refine lv_tableIn (off := 370) (tgt := 371) hx hb dX7_placed_1 (by rw [c54]; decide) (by rw [c54]; decide) (by rw [c54]; decide) (by decide) ?_
    exact (db_X7_placed_371 C K) (v0) (v1) s0 _ _ _ h hP hD hS (lv_sub hl [0, 1] rfl)
  have h := nd_neg h c54
  by_cases c55 : v0 = 93
  · have h := nd_pos h c55
    refine lv_tableIn (off := 370) (tgt := 371) hx hb dX7_placed_1 (by rw [c55]; decide) (by rw [c55]; decide) (by rw [c55]; decide) (by decide) ?_
    exact (db_X7_placed_371 C K) (v0) (v1) s0 _ _ _ h hP hD hS (lv_sub hl [0, 1] rfl)
  have h := nd_neg h c55
  by_cases c56 : v0 = 94
  · have h := nd_pos h c56
    refine lv_tableIn (off := 370) (tgt := 371) hx hb dX7_placed_1 (by rw [c56]; decide) (by rw [c56]; decide) (by rw [c56]; decide) (by decide) ?_
    exact (db_X7_placed_371 C K) (v0) (v1) s0 _ _ _ h hP hD hS (lv_sub hl [0, 1] rfl)
  have h := nd_neg h c56
  by_cases c57 : v0 = 95
  · have h := nd_pos h c57
    refine lv_tableIn (off := 370) (tgt := 371) hx hb dX7_placed_1 (by rw [c57]; decide) (by rw [c57]; decide) (by rw [c57]; decide) (by decide) ?_
    exact (db_X7_placed_371 C K) (v0) (v1) s0 _ _ _ h hP hD hS (lv_sub hl [0, 1] rfl)
  have h := nd_neg h c57
  by_cases c58 : v0 = 96
  · have h := nd_pos h c58
    refine lv_tableIn (off := 370) (tgt := 371) hx hb dX7_placed_1 (by rw [c58]; decide) (by rw [c58]; decide) (by rw [c58]; decide) (by decide) ?_
    exact (db_X7_placed_371 C K) (v0) (v1) s0 _ _ _ h hP hD hS (lv_sub hl [0, 1] rfl)
  have h := nd_neg h c58
  by_cases c59 : v0 = 97
  · have h := nd_pos h c59
    refine lv_tableIn (off := 224) (tgt := 225) hx hb dX7_placed_1 (by rw [c59]; decide) (by rw [c59]; decide) (by rw [c59]; decide) (by decide) ?_
    refine lv_iload_n hx hb dX7_placed_225 rfl (lv_at hl 1 rfl) ?_
    refine lv_bipush (v := 15) hx hb dX7_placed_226 (by decide) ?_
    refine lv_ishl hx hb dX7_placed_228 ?_
    exact K _ _ _ _ _ _ dX7_placed_229 rfl (Option.some.inj h).symm hP hD hS
  have h := nd_neg h c59
  by_cases c60 : v0 = 98
  · have h := nd_pos h c60
    refine lv_tableIn (off := 229) (tgt := 230) hx hb dX7_placed_1 (by rw [c60]; decide) (by rw [c60]; decide) (by rw [c60]; decide) (by decide) ?_
    refine lv_iload_n hx hb dX7_placed_230 rfl (lv_at hl 1 rfl) ?_
    refine lv_bipush (v := 20) hx hb dX7_placed_231 (by decide) ?_
    refine lv_ishl hx hb dX7_placed_233 ?_
    exact K _ _ _ _ _ _ dX7_placed_234 rfl (Option.some.inj h).symm hP hD hS
  have h := nd_neg h c60
  by_cases c61 : v0 = 99
  · have h := nd_pos h c61
    refine lv_tableIn (off := 370) (tgt := 371) hx hb dX7_placed_1 (by rw [c61]; decide) (by rw [c61]; decide) (by rw [c61]; decide) (by decide) ?_
    exact (db_X7_placed_371 C K) (v0) (v1) s0 _ _ _ h hP hD hS (lv_sub hl [0, 1] rfl)
  have h := nd_neg h c61
  by_cases c62 : v0 = 100
  · have h := nd_pos h c62
    refine lv_tableIn (off := 219) (tgt := 220) hx hb dX7_placed_1 (by rw [c62]; decide) (by rw [c62]; decide) (by rw [c62]; decide) (by decide) ?_
    exact (db_X7_placed_220 C K) (v1) s0 _ _ _ h hP hD hS (lv_sub hl [1] rfl)
  have h := nd_neg h c62
  by_cases c63 : v0 = 101
  · have h := nd_pos h c63
    refine lv_tableIn (off := 370) (tgt := 371) hx hb dX7_placed_1 (by rw [c63]; decide) (by rw [c63]; decide) (by rw [c63]; decide) (by decide) ?_
    exact (db_X7_placed_371 C K) (v0) (v1) s0 _ _ _ h hP hD hS (lv_sub hl [0, 1] rfl)
  have h := nd_neg h c63
  by_cases c64 : v0 = 102
  · have h := nd_pos h c64
    refine lv_tableIn (off := 370) (tgt := 371) hx hb dX7_placed_1 (by rw [c64]; decide) (by rw [c64]; decide) (by rw [c64]; decide) (by decide) ?_
    exact (db_X7_placed_371 C K) (v0) (v1) s0 _ _ _ h hP hD hS (lv_sub hl [0, 1] rfl)
  have h := nd_neg h c64
  by_cases c65 : v0 = 103
  · have h := nd_pos h c65
    refine lv_tableIn (off := 370) (tgt := 371) hx hb dX7_placed_1 (by rw [c65]; decide) (by rw [c65]; decide) (by rw [c65]; decide) (by decide) ?_
    exact (db_X7_placed_371 C K) (v0) (v1) s0 _ _ _ h hP hD hS (lv_sub hl [0, 1] rfl)
  have h := nd_neg h c65
  by_cases c66 : v0 = 104
  · have h := nd_pos h c66
    refine lv_tableIn (off := 370) (tgt := 371) hx hb dX7_placed_1 (by rw [c66]; decide) (by rw [c66]; decide) (by rw [c66]; decide) (by decide) ?_
    exact (db_X7_placed_371 C K) (v0) (v1) s0 _ _ _ h hP hD hS (lv_sub hl [0, 1] rfl)
  have h := nd_neg h c66
  by_cases c67 : v0 = 105
  · have h := nd_pos h c67
    refine lv_tableIn (off := 370) (tgt := 371) hx hb dX7_placed_1 (by rw [c67]; decide) (by rw [c67]; decide) (by rw [c67]; decide) (by decide) ?_
    exact (db_X7_placed_371 C K) (v0) (v1) s0 _ _ _ h hP hD hS (lv_sub hl [0, 1] rfl)
  have h := nd_neg h c67
  by_cases c68 : v0 = 106
  · have h := nd_pos h c68
    refine lv_tableIn (off := 370) (tgt := 371) hx hb dX7_placed_1 (by rw [c68]; decide) (by rw [c68]; decide) (by rw [c68]; decide) (by decide) ?_
    exact (db_X7_placed_371 C K) (v0) (v1) s0 _ _ _ h hP hD hS (lv_sub hl [0, 1] rfl)
  have h := nd_neg h c68
  by_cases c69 : v0 = 107
  · have h := nd_pos h c69
    refine lv_tableIn (off := 370) (tgt := 371) hx hb dX7_placed_1 (by rw [c69]; decide) (by rw [c69]; decide) (by rw [c69]; decide) (by decide) ?_
    exact (db_X7_placed_371 C K) (v0) (v1) s0 _ _ _ h hP hD hS (lv_sub hl [0, 1] rfl)
  have h := nd_neg h c69
  by_cases c70 : v0 = 108
  · have h := nd_pos h c70
    refine lv_tableIn (off := 370) (tgt := 371) hx hb dX7_placed_1 (by rw [c70]; decide) (by rw [c70]; decide) (by rw [c70]; decide) (by decide) ?_
    exact (db_X7_placed_371 C K) (v0) (v1) s0 _ _ _ h hP hD hS (lv_sub hl [0, 1] rfl)
  have h := nd_neg h c70
  by_cases c71 : v0 = 109
  · have h := nd_pos h c71
    refine lv_tableIn (off := 219) (tgt := 220) hx hb dX7_placed_1 (by rw [c71]; decide) (by rw [c71]; decide) (by rw [c71]; decide) (by decide) ?_
    exact (db_X7_placed_220 C K) (v1) s0 _ _ _ h hP hD hS (lv_sub hl [1] rfl)
  have h := nd_neg h c71
  by_cases c72 : v0 = 110
  · have h := nd_pos h c72
    refine lv_tableIn (off := 219) (tgt := 220) hx hb dX7_placed_1 (by rw [c72]; decide) (by rw [c72]; decide) (by rw [c72]; decide) (by decide) ?_
    exact (db_X7_placed_220 C K) (v1) s0 _ _ _ h hP hD hS (lv_sub hl [1] rfl)
  have h := nd_neg h c72
  by_cases c73 : v0 = 111
  · have h := nd_pos h c73
    refine lv_tableIn (off := 370) (tgt := 371) hx hb dX7_placed_1 (by rw [c73]; decide) (by rw [c73]; decide) (by rw [c73]; decide) (by decide) ?_
    exact (db_X7_placed_371 C K) (v0) (v1) s0 _ _ _ h hP hD hS (lv_sub hl [0, 1] rfl)
  have h := nd_neg h c73
  by_cases c74 : v0 = 112
  · have h := nd_pos h c74
    refine lv_tableIn (off := 238) (tgt := 239) hx hb dX7_placed_1 (by rw [c74]; decide) (by rw [c74]; decide) (by rw [c74]; decide) (by decide) ?_
    refine lv_iload_n hx hb dX7_placed_239 rfl (lv_at hl 1 rfl) ?_
    refine lv_bipush (v := 7) hx hb dX7_placed_240 (by decide) ?_
    refine lv_iand hx hb dX7_placed_242 ?_
    refine lv_iconst (v := 2) hx hb dX7_placed_243 (by decide) ?_
    refine lv_ishl hx hb dX7_placed_244 ?_
    exact K _ _ _ _ _ _ dX7_placed_245 rfl (Option.some.inj h).symm hP hD hS
  have h := nd_neg h c74
  by_cases c75 : v0 = 113
  · have h := nd_pos h c75
    refine lv_tableIn (off := 245) (tgt := 246) hx hb dX7_placed_1 (by rw [c75]; decide) (by rw [c75]; decide) (by rw [c75]; decide) (by decide) ?_
    refine lv_iload_n hx hb dX7_placed_246 rfl (lv_at hl 1 rfl) ?_
    refine lv_bipush (v := 7) hx hb dX7_placed_247 (by decide) ?_
    refine lv_iand hx hb dX7_placed_249 ?_
    refine lv_bipush (v := 7) hx hb dX7_placed_250 (by decide) ?_
    refine lv_ishl hx hb dX7_placed_252 ?_
    exact K _ _ _ _ _ _ dX7_placed_253 rfl (Option.some.inj h).symm hP hD hS
  have h := nd_neg h c75
  by_cases c76 : v0 = 114
  · have h := nd_pos h c76
    refine lv_tableIn (off := 370) (tgt := 371) hx hb dX7_placed_1 (by rw [c76]; decide) (by rw [c76]; decide) (by rw [c76]; decide) (by decide) ?_
    exact (db_X7_placed_371 C K) (v0) (v1) s0 _ _ _ h hP hD hS (lv_sub hl [0, 1] rfl)
  have h := nd_neg h c76
  by_cases c77 : v0 = 115
  · have h := nd_pos h c77
    refine lv_tableIn (off := 234) (tgt := 235) hx hb dX7_placed_1 (by rw [c77]; decide) (by rw [c77]; decide) (by rw [c77]; decide) (by decide) ?_
    exact (db_X7_placed_235 C K) (v1) s0 _ _ _ h hP hD hS (lv_sub hl [1] rfl)
  have h := nd_neg h c77
  by_cases c78 : v0 = 116
  · have h := nd_pos h c78
    refine lv_tableIn (off := 370) (tgt := 371) hx hb dX7_placed_1 (by rw [c78]; decide) (by rw [c78]; decide) (by rw [c78]; decide) (by decide) ?_
    exact (db_X7_placed_371 C K) (v0) (v1) s0 _ _ _ h hP hD hS (lv_sub hl [0, 1] rfl)
  have h := nd_neg h c78
  by_cases c79 : v0 = 117
  · have h := nd_pos h c79
    refine lv_tableIn (off := 370) (tgt := 371) hx hb dX7_placed_1 (by rw [c79]; decide) (by rw [c79]; decide) (by rw [c79]; decide) (by decide) ?_
    exact (db_X7_placed_371 C K) (v0) (v1) s0 _ _ _ h hP hD hS (lv_sub hl [0, 1] rfl)
  have h := nd_neg h c79
  by_cases c80 : v0 = 118
  · have h := nd_pos h c80
    refine lv_tableIn (off := 370) (tgt := 371) hx hb dX7_placed_1 (by rw [c80]; decide) (by rw [c80]; decide) (by rw [c80]; decide) (by decide) ?_
    exact (db_X7_placed_371 C K) (v0) (v1) s0 _ _ _ h hP hD hS (lv_sub hl [0, 1] rfl)
  have h := nd_neg h c80
  by_cases c81 : v0 = 119
  · have h := nd_pos h c81
    refine lv_tableIn (off := 370) (tgt := 371) hx hb dX7_placed_1 (by rw [c81]; decide) (by rw [c81]; decide) (by rw [c81]; decide) (by decide) ?_
    exact (db_X7_placed_371 C K) (v0) (v1) s0 _ _ _ h hP hD hS (lv_sub hl [0, 1] rfl)
  have h := nd_neg h c81
  by_cases c82 : v0 = 120
  · have h := nd_pos h c82
    refine lv_tableIn (off := 370) (tgt := 371) hx hb dX7_placed_1 (by rw [c82]; decide) (by rw [c82]; decide) (by rw [c82]; decide) (by decide) ?_
    exact (db_X7_placed_371 C K) (v0) (v1) s0 _ _ _ h hP hD hS (lv_sub hl [0, 1] rfl)
  have h := nd_neg h c82
  by_cases c83 : v0 = 121
  · have h := nd_pos h c83
    refine lv_tableIn (off := 370) (tgt := 371) hx hb dX7_placed_1 (by rw [c83]; decide) (by rw [c83]; decide) (by rw [c83]; decide) (by decide) ?_
    exact (db_X7_placed_371 C K) (v0) (v1) s0 _ _ _ h hP hD hS (lv_sub hl [0, 1] rfl)
  have h := nd_neg h c83
  by_cases c84 : v0 = 122
  · have h := nd_pos h c84
    refine lv_tableIn (off := 234) (tgt := 235) hx hb dX7_placed_1 (by rw [c84]; decide) (by rw [c84]; decide) (by rw [c84]; decide) (by decide) ?_
    exact (db_X7_placed_235 C K) (v1) s0 _ _ _ h hP hD hS (lv_sub hl [1] rfl)
  have h := nd_neg h c84
  refine lv_tableOut (tgt := 371) hx hb dX7_placed_1 (by have g0 := nv_nei c1 (k := 72) (by decide); have g1 := nv_nei c2 (k := 73) (by decide); have g2 := nv_nei c3 (k := 74) (by decide); have g3 := nv_nei c16 (k := 75) (by decide); have g4 := nv_nei c20 (k := 76) (by decide); have g5 := nv_nei c21 (k := 77) (by decide); have g6 := nv_nei c22 (k := 78) (by decide); have g7 := nv_nei c23 (k := 79) (by decide); have g8 := nv_nei c24 (k := 80) (by decide); have g9 := nv_nei c25 (k := 81) (by decide); have g10 := nv_nei c26 (k := 82) (by decide); have g11 := nv_nei c27 (k := 83) (by decide); have g12 := nv_nei c34 (k := 84) (by decide); have g13 := nv_nei c47 (k := 85) (by decide); have g14 := nv_nei c48 (k := 86) (by decide); have g15 := nv_nei c49 (k := 87) (by decide); have g16 := nv_nei c50 (k := 88) (by decide); have g17 := nv_nei c51 (k := 89) (by decide); have g18 := nv_nei c52 (k := 90) (by decide); have g19 := nv_nei c53 (k := 91) (by decide); have g20 := nv_nei c54 (k := 92) (by decide); have g21 := nv_nei c55 (k := 93) (by decide); have g22 := nv_nei c56 (k := 94) (by decide); have g23 := nv_nei c57 (k := 95) (by decide); have g24 := nv_nei c58 (k := 96) (by decide); have g25 := nv_nei c59 (k := 97) (by decide); have g26 := nv_nei c60 (k := 98) (by decide); have g27 := nv_nei c61 (k := 99) (by decide); have g28 := nv_nei c62 (k := 100) (by decide); have g29 := nv_nei c63 (k := 101) (by decide); have g30 := nv_nei c64 (k := 102) (by decide); have g31 := nv_nei c65 (k := 103) (by decide); have g32 := nv_nei c66 (k := 104) (by decide); have g33 := nv_nei c67 (k := 105) (by decide); have g34 := nv_nei c68 (k := 106) (by decide); have g35 := nv_nei c69 (k := 107) (by decide); have g36 := nv_nei c70 (k := 108) (by decide); have g37 := nv_nei c71 (k := 109) (by decide); have g38 := nv_nei c72 (k := 110) (by decide); have g39 := nv_nei c73 (k := 111) (by decide); have g40 := nv_nei c74 (k := 112) (by decide); have g41 := nv_nei c75 (k := 113) (by decide); have g42 := nv_nei c76 (k := 114) (by decide); have g43 := nv_nei c77 (k := 115) (by decide); have g44 := nv_nei c78 (k := 116) (by decide); have g45 := nv_nei c79 (k := 117) (by decide); have g46 := nv_nei c80 (k := 118) (by decide); have g47 := nv_nei c81 (k := 119) (by decide); have g48 := nv_nei c82 (k := 120) (by decide); have g49 := nv_nei c83 (k := 121) (by decide); have g50 := nv_nei c84 (k := 122) (by decide); omega) (by decide) ?_
  exact (db_X7_placed_371 C K) (v0) (v1) s0 _ _ _ h hP hD hS (lv_sub hl [0, 1] rfl)
set_option maxHeartbeats 40000000 in
set_option maxRecDepth 100000 in
theorem dm_X7_placed (l : Launch) (hlt : l.stackTraces = false) (dC : Nat → ClassId) (dI : Nat → Nat → Nat) (a : Nat → Nat) (ac : Nat → ClassId) (n : Nat) (v0 : Int32) (v1 : Int32) (s0 : Unit) {r : Int32 × (Unit)} (h : df_X7_placed n v0 v1 s0 = some r) (sz : Nat) : Met l yX7_placed ow_dm_X7_placed ({ frames := 2, cells := 0, slots := 0, locals := 44 }) (va_Pc [.int v0, .int v1] (fun U => U.heap.size = sz ∧ va_P (dC, dI) vwCl (dw_P a ac s0) U.heap ∧ va_K (dC, dI) vwCl (dk_P ac) U ∧ va_D (fun _ => True) (dw_P a ac s0) ∧ nv_E (va_A (dw_P a ac s0) sz) U)) (va_Qi (fun x _ => x = r.1) (fun (_ : Unit) t => va_P (dC, dI) vwCl (dw_P a ac r.2) t.heap ∧ va_K (dC, dI) vwCl (dk_P ac) t ∧ va_D (va_A (dw_P a ac s0) sz) (dw_P a ac r.2)) (va_A (dw_P a ac s0) sz)) 0 0 (va_A (dw_P a ac s0) sz) := by
  refine Met.ofW (cc := cX7_placed) (maxL := 2) (ret := (some .int)) (by decide) rfl ?_
  intro p e s m args below meth c s₁ B hml hv
  obtain ⟨rfl, hsz, hP, hK, hD0, hN⟩ := hv
  have hx := B.exec
  have hb := B.bytes
  have hr := B.returns
  have hts := atoms_spec (ws := ow_dm_X7_placed) B.pre
  have hown : s.vm.findClass RX7 = some m.cls := findClass_of_methodNamed B.named
  have hlocks := B.notSynchronized
  subst hsz
  have hD := hD0.self (sz := s.heap.size)
  generalize hAe : va_A (dw_P a ac s0) s.heap.size = A at hD hN ⊢
  have hA : ∀ q : Nat, s.heap.size ≤ q → A q := fun q h => by rw [← hAe]; exact Or.inr h
  have hl := lv_entry ([.int v0, .int v1]) (n := 2) (Nat.le_of_ble_eq_true rfl)
  rw [lg_entry_eq]
  generalize (lg_sl ([.int v0, .int v1]) ++ List.replicate (2 - (lg_sl ([.int v0, .int v1])).length) Slot.unset).toArray = ls at hl ⊢
  have hl : lv_has ls 2 [(0, .int v0), (1, .int v1)] := hl
  exact db_X7_placed_0 (dC := dC) (dI := dI) (a := a) (ac := ac) (n := n) (r := r) ⟨hlt, hx, hb, hml, hown, hts, hN, hA, hK⟩ (fun pc v τ H locs ls d z er hP hD hS => by subst er; exact W.zret (v := v) hx hb hr z (fun t ht hW => ⟨⟨v, (), rfl, rfl, by rw [ht]; exact hP, va_K.moved hW.alike hK, hD⟩, hS.F ht⟩) hS.2.2 d) v0 v1 s0 _ _ _ h hP hD va_S.rf (lv_sub hl [0, 1] rfl)
def ow_dm_X7_gathered : List Cond := .code yX7_gathered cX7_gathered 6 (some .int) :: ([.methodLink RX7 480 yX7_fits, .static yX7_fits, .initialized RX7, .methodLink RX7 477 yX7_placed, .static yX7_placed] ++ (ow_dm_X7_fits ++ (ow_dm_X7_placed ++ [])))
theorem gd_dm_X7_gathered : ∀ w ∈ ow_dm_X7_gathered, (w.onTables && w.keeps) = true ∨ ∃ ty, w = Cond.arrayClass ty := List.forall_mem_cons.mpr ⟨good_of_word rfl, List.forall_mem_append.mpr ⟨fun w h => good_of_word (List.all_eq_true.mp (by decide +kernel) w h), List.forall_mem_append.mpr ⟨gd_dm_X7_fits, List.forall_mem_append.mpr ⟨gd_dm_X7_placed, fun _ h => nomatch h⟩⟩⟩⟩
theorem gi_dm_X7_gathered_0 : GoodIn ow_dm_X7_gathered (wsS RX7 480 yX7_fits ow_dm_X7_fits) := goodIn_app (goodIn_of _ (by decide +kernel)) (fun w h => ⟨List.mem_cons_of_mem _ (List.mem_append_right _ (List.mem_append_left _ h)), gd_dm_X7_fits w h⟩)
theorem gi_dm_X7_gathered_1 : GoodIn ow_dm_X7_gathered (wsS RX7 477 yX7_placed ow_dm_X7_placed) := goodIn_app (goodIn_of _ (by decide +kernel)) (fun w h => ⟨List.mem_cons_of_mem _ (List.mem_append_right _ (List.mem_append_right _ (List.mem_append_left _ h))), gd_dm_X7_placed w h⟩)
def dj_X7_gathered_86 (p : Program) (l : Launch) (e : Env) (s : State) (m : MethodId) (args : Array Value) (below : List Frame) (meth : Method) (c : Code) (Q : State → Prop) (A : Nat → Prop) (dC : Nat → ClassId) (dI : Nat → Nat → Nat) (a : Nat → Nat) (ac : Nat → ClassId) (g : Int32 → (Unit) → Option (Int32 × (Unit))) (r : Int32 × (Unit)) : Prop := ∀ (y0 : Int32) (s0 : Unit) (H : Heap) (locs : List Loc) (ls : Array Slot), g y0 s0 = some r → va_P (dC, dI) vwCl (dw_P a ac s0) H → va_D A (dw_P a ac s0) → va_S A s.heap H locs → lv_has ls 6 [] → W p l e (headSpec ow_dm_X7_gathered ({ frames := 3, cells := 0, slots := 0, locals := 65 })).room s m args below meth c H locs 0 0 Q (F0 m 86 ls [.int y0])
def dj_X7_gathered_85 (p : Program) (l : Launch) (e : Env) (s : State) (m : MethodId) (args : Array Value) (below : List Frame) (meth : Method) (c : Code) (Q : State → Prop) (A : Nat → Prop) (dC : Nat → ClassId) (dI : Nat → Nat → Nat) (a : Nat → Nat) (ac : Nat → ClassId) (g : Int32 → (Unit) → Option (Int32 × (Unit))) (r : Int32 × (Unit)) : Prop := ∀ (x2 : Int32) (s0 : Unit) (H : Heap) (locs : List Loc) (ls : Array Slot), g x2 s0 = some r → va_P (dC, dI) vwCl (dw_P a ac s0) H → va_D A (dw_P a ac s0) → va_S A s.heap H locs → lv_has ls 6 [(2, .int x2)] → W p l e (headSpec ow_dm_X7_gathered ({ frames := 3, cells := 0, slots := 0, locals := 65 })).room s m args below meth c H locs 0 0 Q (F0 m 85 ls [])
def dj_X7_gathered_50 (p : Program) (l : Launch) (e : Env) (s : State) (m : MethodId) (args : Array Value) (below : List Frame) (meth : Method) (c : Code) (Q : State → Prop) (A : Nat → Prop) (dC : Nat → ClassId) (dI : Nat → Nat → Nat) (a : Nat → Nat) (ac : Nat → ClassId) (g : Int32 → Int32 → Int32 → Int32 → Int32 → (Unit) → Option (Int32 × (Unit))) (r : Int32 × (Unit)) : Prop := ∀ (x0 : Int32) (x1 : Int32) (x2 : Int32) (x3 : Int32) (x4 : Int32) (s0 : Unit) (H : Heap) (locs : List Loc) (ls : Array Slot), g x0 x1 x2 x3 x4 s0 = some r → va_P (dC, dI) vwCl (dw_P a ac s0) H → va_D A (dw_P a ac s0) → va_S A s.heap H locs → lv_has ls 6 [(0, .int x0), (1, .int x1), (2, .int x2), (3, .int x3), (4, .int x4)] → W p l e (headSpec ow_dm_X7_gathered ({ frames := 3, cells := 0, slots := 0, locals := 65 })).room s m args below meth c H locs 0 0 Q (F0 m 50 ls [])
def dj_X7_gathered_48 (p : Program) (l : Launch) (e : Env) (s : State) (m : MethodId) (args : Array Value) (below : List Frame) (meth : Method) (c : Code) (Q : State → Prop) (A : Nat → Prop) (dC : Nat → ClassId) (dI : Nat → Nat → Nat) (a : Nat → Nat) (ac : Nat → ClassId) (g : Int32 → Int32 → Int32 → Int32 → Int32 → Int32 → (Unit) → Option (Int32 × (Unit))) (r : Int32 × (Unit)) : Prop := ∀ (x0 : Int32) (x1 : Int32) (x3 : Int32) (x4 : Int32) (y0 : Int32) (y1 : Int32) (s0 : Unit) (H : Heap) (locs : List Loc) (ls : Array Slot), g x0 x1 x3 x4 y0 y1 s0 = some r → va_P (dC, dI) vwCl (dw_P a ac s0) H → va_D A (dw_P a ac s0) → va_S A s.heap H locs → lv_has ls 6 [(0, .int x0), (1, .int x1), (3, .int x3), (4, .int x4)] → W p l e (headSpec ow_dm_X7_gathered ({ frames := 3, cells := 0, slots := 0, locals := 65 })).room s m args below meth c H locs 0 0 Q (F0 m 48 ls [.int y1, .int y0])
def dj_X7_gathered_7 (p : Program) (l : Launch) (e : Env) (s : State) (m : MethodId) (args : Array Value) (below : List Frame) (meth : Method) (c : Code) (Q : State → Prop) (A : Nat → Prop) (dC : Nat → ClassId) (dI : Nat → Nat → Nat) (a : Nat → Nat) (ac : Nat → ClassId) (g : Int32 → Int32 → Int32 → Int32 → Int32 → (Unit) → Option (Int32 × (Unit))) (r : Int32 × (Unit)) : Prop := ∀ (x0 : Int32) (x1 : Int32) (x2 : Int32) (x3 : Int32) (x4 : Int32) (s0 : Unit) (H : Heap) (locs : List Loc) (ls : Array Slot), g x0 x1 x2 x3 x4 s0 = some r → va_P (dC, dI) vwCl (dw_P a ac s0) H → va_D A (dw_P a ac s0) → va_S A s.heap H locs → lv_has ls 6 [(0, .int x0), (1, .int x1), (2, .int x2), (3, .int x3), (4, .int x4)] → W p l e (headSpec ow_dm_X7_gathered ({ frames := 3, cells := 0, slots := 0, locals := 65 })).room s m args below meth c H locs 0 0 Q (F0 m 7 ls [])
def dj_X7_gathered_0 (p : Program) (l : Launch) (e : Env) (s : State) (m : MethodId) (args : Array Value) (below : List Frame) (meth : Method) (c : Code) (Q : State → Prop) (A : Nat → Prop) (dC : Nat → ClassId) (dI : Nat → Nat → Nat) (a : Nat → Nat) (ac : Nat → ClassId) (g : Int32 → Int32 → (Unit) → Option (Int32 × (Unit))) (r : Int32 × (Unit)) : Prop := ∀ (v0 : Int32) (v1 : Int32) (s0 : Unit) (H : Heap) (locs : List Loc) (ls : Array Slot), g v0 v1 s0 = some r → va_P (dC, dI) vwCl (dw_P a ac s0) H → va_D A (dw_P a ac s0) → va_S A s.heap H locs → lv_has ls 6 [(0, .int v0), (1, .int v1)] → W p l e (headSpec ow_dm_X7_gathered ({ frames := 3, cells := 0, slots := 0, locals := 65 })).room s m args below meth c H locs 0 0 Q (F0 m 0 ls [])
set_option maxHeartbeats 40000000 in
set_option maxRecDepth 100000 in
theorem db_X7_gathered_86 {p : Program} {l : Launch} {e : Env} {s : State} {m : MethodId} {args : Array Value} {below : List Frame} {meth : Method} {c : Code} {Q : State → Prop} {A : Nat → Prop} {dC : Nat → ClassId} {dI : Nat → Nat → Nat} {a : Nat → Nat} {ac : Nat → ClassId} {n : Nat} {r : Int32 × (Unit)} (C : nd_C p l s m args c A (dC, dI) cX7_gathered 6 RX7 ow_dm_X7_gathered (dk_P ac)) (K : nd_Ki p l e (headSpec ow_dm_X7_gathered ({ frames := 3, cells := 0, slots := 0, locals := 65 })).room s m args below meth c Q A (dC, dI) cX7_gathered .int (Unit) (dw_P a ac) r) : dj_X7_gathered_86 p l e s m args below meth c Q A dC dI a ac (df_X7_gathered_86 n) r := by
  obtain ⟨hlt, hx, hb, hml, hown, hts, hN, hA, hK⟩ := id C
  intro y0 s0 H locs ls h hP hD hS hl
  unfold df_X7_gathered_86 at h
  exact K _ _ _ _ _ _ dX7_gathered_86 rfl (Option.some.inj h).symm hP hD hS
set_option maxHeartbeats 40000000 in
set_option maxRecDepth 100000 in
theorem db_X7_gathered_85 {p : Program} {l : Launch} {e : Env} {s : State} {m : MethodId} {args : Array Value} {below : List Frame} {meth : Method} {c : Code} {Q : State → Prop} {A : Nat → Prop} {dC : Nat → ClassId} {dI : Nat → Nat → Nat} {a : Nat → Nat} {ac : Nat → ClassId} {n : Nat} {r : Int32 × (Unit)} (C : nd_C p l s m args c A (dC, dI) cX7_gathered 6 RX7 ow_dm_X7_gathered (dk_P ac)) (K : nd_Ki p l e (headSpec ow_dm_X7_gathered ({ frames := 3, cells := 0, slots := 0, locals := 65 })).room s m args below meth c Q A (dC, dI) cX7_gathered .int (Unit) (dw_P a ac) r) : dj_X7_gathered_85 p l e s m args below meth c Q A dC dI a ac (df_X7_gathered_85 n) r := by
  obtain ⟨hlt, hx, hb, hml, hown, hts, hN, hA, hK⟩ := id C
  intro x2 s0 H locs ls h hP hD hS hl
  unfold df_X7_gathered_85 at h
  refine lv_iload_n hx hb dX7_gathered_85 rfl (lv_at hl 0 rfl) ?_
  exact (db_X7_gathered_86 C K) (x2) s0 _ _ _ h hP hD hS (lv_sub hl [] rfl)
set_option maxHeartbeats 40000000 in
set_option maxRecDepth 100000 in
theorem db_X7_gathered_50 {p : Program} {l : Launch} {e : Env} {s : State} {m : MethodId} {args : Array Value} {below : List Frame} {meth : Method} {c : Code} {Q : State → Prop} {A : Nat → Prop} {dC : Nat → ClassId} {dI : Nat → Nat → Nat} {a : Nat → Nat} {ac : Nat → ClassId} {n : Nat} {r : Int32 × (Unit)} (C : nd_C p l s m args c A (dC, dI) cX7_gathered 6 RX7 ow_dm_X7_gathered (dk_P ac)) (K : nd_Ki p l e (headSpec ow_dm_X7_gathered ({ frames := 3, cells := 0, slots := 0, locals := 65 })).room s m args below meth c Q A (dC, dI) cX7_gathered .int (Unit) (dw_P a ac) r) {g7 : Int32 → Int32 → Int32 → Int32 → Int32 → (Unit) → Option (Int32 × (Unit))} (J7 : dj_X7_gathered_7 p l e s m args below meth c Q A dC dI a ac g7 r) : dj_X7_gathered_50 p l e s m args below meth c Q A dC dI a ac (df_X7_gathered_50 n g7) r := by
  obtain ⟨hlt, hx, hb, hml, hown, hts, hN, hA, hK⟩ := id C
  intro x0 x1 x2 x3 x4 s0 H locs ls h hP hD hS hl
  unfold df_X7_gathered_50 at h
  obtain ⟨z11, ez11, h⟩ := nd_let_e h
  refine lv_iinc (v := z11) (lv' := [(4, .int z11), (0, .int x0), (1, .int x1), (2, .int x2), (3, .int x3)]) hx hb dX7_gathered_50 hl (k := 4) rfl (by rw [ez11]) (by decide) rfl (fun ls hl => ?_)
  refine lv_goto (tgt := 7) hx hb dX7_gathered_53 (by decide) ?_
  exact (J7) (x0) (x1) (x2) (x3) (z11) s0 _ _ _ h hP hD hS (lv_sub hl [1, 2, 3, 4, 0] rfl)
set_option maxHeartbeats 40000000 in
set_option maxRecDepth 100000 in
theorem db_X7_gathered_48 {p : Program} {l : Launch} {e : Env} {s : State} {m : MethodId} {args : Array Value} {below : List Frame} {meth : Method} {c : Code} {Q : State → Prop} {A : Nat → Prop} {dC : Nat → ClassId} {dI : Nat → Nat → Nat} {a : Nat → Nat} {ac : Nat → ClassId} {n : Nat} {r : Int32 × (Unit)} (C : nd_C p l s m args c A (dC, dI) cX7_gathered 6 RX7 ow_dm_X7_gathered (dk_P ac)) (K : nd_Ki p l e (headSpec ow_dm_X7_gathered ({ frames := 3, cells := 0, slots := 0, locals := 65 })).room s m args below meth c Q A (dC, dI) cX7_gathered .int (Unit) (dw_P a ac) r) {g7 : Int32 → Int32 → Int32 → Int32 → Int32 → (Unit) → Option (Int32 × (Unit))} (J7 : dj_X7_gathered_7 p l e s m args below meth c Q A dC dI a ac g7 r) : dj_X7_gathered_48 p l e s m args below meth c Q A dC dI a ac (df_X7_gathered_48 n g7) r := by
  obtain ⟨hlt, hx, hb, hml, hown, hts, hN, hA, hK⟩ := id C
  intro x0 x1 x3 x4 y0 y1 s0 H locs ls h hP hD hS hl
  unfold df_X7_gathered_48 at h
  refine lv_ior hx hb dX7_gathered_48 ?_
  refine lv_topi (fun z13 ez13 => ?_)
  have h := nd_at h ez13
  refine lv_istore_n (lv' := [(2, .int z13), (0, .int x0), (1, .int x1), (3, .int x3), (4, .int x4)]) hx hb dX7_gathered_49 rfl hl (by decide) rfl (fun ls hl => ?_)
  exact (db_X7_gathered_50 C K J7) (x0) (x1) (z13) (x3) (x4) s0 _ _ _ h hP hD hS (lv_sub hl [1, 2, 0, 3, 4] rfl)
set_option maxHeartbeats 40000000 in
set_option maxRecDepth 100000 in
theorem dB_X7_gathered_7 {p : Program} {l : Launch} {e : Env} {s : State} {m : MethodId} {args : Array Value} {below : List Frame} {meth : Method} {c : Code} {Q : State → Prop} {A : Nat → Prop} {dC : Nat → ClassId} {dI : Nat → Nat → Nat} {a : Nat → Nat} {ac : Nat → ClassId} {n : Nat} {r : Int32 × (Unit)} (C : nd_C p l s m args c A (dC, dI) cX7_gathered 6 RX7 ow_dm_X7_gathered (dk_P ac)) (K : nd_Ki p l e (headSpec ow_dm_X7_gathered ({ frames := 3, cells := 0, slots := 0, locals := 65 })).room s m args below meth c Q A (dC, dI) cX7_gathered .int (Unit) (dw_P a ac) r) {g7 : Int32 → Int32 → Int32 → Int32 → Int32 → (Unit) → Option (Int32 × (Unit))} (J7 : dj_X7_gathered_7 p l e s m args below meth c Q A dC dI a ac g7 r) : dj_X7_gathered_7 p l e s m args below meth c Q A dC dI a ac (dF_X7_gathered_7 n g7) r := by
  obtain ⟨hlt, hx, hb, hml, hown, hts, hN, hA, hK⟩ := id C
  intro x0 x1 x2 x3 x4 s0 H locs ls h hP hD hS hl
  unfold dF_X7_gathered_7 at h
  refine lv_iload hx hb dX7_gathered_7 (lv_at hl 4 rfl) ?_
  refine lv_bipush (v := 20) hx hb dX7_gathered_9 (by decide) ?_
  refine lv_icmp_gt (tgt := 56) hx hb dX7_gathered_11 (by decide) (fun c1 => ?_) (fun c1 => ?_)
  · have h := nd_pos h c1
    refine lv_iload_n hx hb dX7_gathered_56 rfl (lv_at hl 0 rfl) ?_
    refine lv_bipush (v := (-16)) hx hb dX7_gathered_57 (by decide) ?_
    obtain ⟨q2, s3, hq, h⟩ := nd_b2_e h
    have hPc : va_P (dC, dI) vwCl (dw_P a ac ()) H := nd_p0
    have hDc : va_D A (dw_P a ac ()) := nd_d0
    have hKc : va_K (dC, dI) vwCl (dk_P ac) s := nd_y0 hK
    have hFc : ∀ q, va_A (dw_P a ac ()) H.size q → A q := nd_r0 hS hA
    refine nd_cSi (As := [.int x0, .int (-16)]) (rest := []) (q := q2) (w' := dw_P a ac s3) ⟨hx, hb, hml, hown, hts⟩ (fun sz => dm_X7_fits l hlt dC dI a ac n (x0) ((-16)) () hq sz) (cwS 2 hts gi_dm_X7_gathered_0 rfl rfl rfl (by decide +kernel) ⟨Nat.le_of_ble_eq_true rfl, Nat.le_of_ble_eq_true rfl⟩) hPc hDc hKc hS hA hN rfl hl.1 rfl (Nat.le_of_ble_eq_true rfl) dX7_gathered_59 (fun H locs hP1 hD1 hk1 hS => ?_)
    have hP := nd_n0 hP hk1
    refine lv_istore (lv' := [(4, .int q2), (0, .int x0), (1, .int x1), (2, .int x2), (3, .int x3)]) hx hb dX7_gathered_62 hl (by decide) rfl (fun ls hl => ?_)
    refine lv_iload hx hb dX7_gathered_64 (lv_at hl 0 rfl) ?_
    refine lv_if_eq (tgt := 85) hx hb dX7_gathered_66 (by decide) (fun c5 => ?_) (fun c5 => ?_)
    · have h := nd_pos h c5
      exact (db_X7_gathered_85 C K) (x2) s0 _ _ _ h hP hD hS (lv_sub hl [3] rfl)
    · have h := nd_neg h c5
      refine lv_iload_n hx hb dX7_gathered_69 rfl (lv_at hl 3 rfl) ?_
      refine lv_iload_n hx hb dX7_gathered_70 rfl (lv_at hl 4 rfl) ?_
      refine lv_ishr hx hb dX7_gathered_71 ?_
      refine lv_iconst (v := 1) hx hb dX7_gathered_72 (by decide) ?_
      refine lv_iand hx hb dX7_gathered_73 ?_
      refine lv_if_eq (tgt := 85) hx hb dX7_gathered_74 (by decide) (fun c6 => ?_) (fun c6 => ?_)
      · have h := nd_pos h c6
        exact (db_X7_gathered_85 C K) (x2) s0 _ _ _ h hP hD hS (lv_sub hl [3] rfl)
      · have h := nd_neg h c6
        refine lv_iload_n hx hb dX7_gathered_77 rfl (lv_at hl 3 rfl) ?_
        refine lv_iconst (v := 2) hx hb dX7_gathered_78 (by decide) ?_
        refine lv_iload_n hx hb dX7_gathered_79 rfl (lv_at hl 4 rfl) ?_
        refine lv_ishl hx hb dX7_gathered_80 ?_
        refine lv_isub hx hb dX7_gathered_81 ?_
        refine lv_goto (tgt := 86) hx hb dX7_gathered_82 (by decide) ?_
        exact (db_X7_gathered_86 C K) ((x2 - ((2 : Int32) <<< ((x3 : Int32) &&& 31)))) s0 _ _ _ h hP hD hS (lv_sub hl [] rfl)
  · have h := nd_neg h c1
    refine lv_iload_n hx hb dX7_gathered_14 rfl (lv_at hl 0 rfl) ?_
    refine lv_iconst (v := 1) hx hb dX7_gathered_15 (by decide) ?_
    refine lv_iload hx hb dX7_gathered_16 (lv_at hl 4 rfl) ?_
    refine lv_ishl hx hb dX7_gathered_18 ?_
    obtain ⟨q7, s8, hq, h⟩ := nd_b2_e h
    have hPc : va_P (dC, dI) vwCl (dw_P a ac ()) H := nd_p0
    have hDc : va_D A (dw_P a ac ()) := nd_d0
    have hKc : va_K (dC, dI) vwCl (dk_P ac) s := nd_y0 hK
    have hFc : ∀ q, va_A (dw_P a ac ()) H.size q → A q := nd_r0 hS hA
    refine nd_cSi (As := [.int x0, .int ((1 : Int32) <<< ((x4 : Int32) &&& 31))]) (rest := []) (q := q7) (w' := dw_P a ac s8) ⟨hx, hb, hml, hown, hts⟩ (fun sz => dm_X7_placed l hlt dC dI a ac n (x0) (((1 : Int32) <<< ((x4 : Int32) &&& 31))) () hq sz) (cwS 2 hts gi_dm_X7_gathered_1 rfl rfl rfl (by decide +kernel) ⟨Nat.le_of_ble_eq_true rfl, Nat.le_of_ble_eq_true rfl⟩) hPc hDc hKc hS hA hN rfl hl.1 rfl (Nat.le_of_ble_eq_true rfl) dX7_gathered_19 (fun H locs hP1 hD1 hk1 hS => ?_)
    have hP := nd_n0 hP hk1
    refine lv_istore (lv' := [(5, .int q7), (0, .int x0), (1, .int x1), (2, .int x2), (3, .int x3), (4, .int x4)]) hx hb dX7_gathered_22 hl (by decide) rfl (fun ls hl => ?_)
    refine lv_iload hx hb dX7_gathered_24 (lv_at hl 0 rfl) ?_
    refine lv_if_eq (tgt := 50) hx hb dX7_gathered_26 (by decide) (fun c10 => ?_) (fun c10 => ?_)
    · have h := nd_pos h c10
      exact (db_X7_gathered_50 C K J7) (x0) (x1) (x2) (x3) (x4) s0 _ _ _ h hP hD hS (lv_sub hl [1, 2, 3, 4, 5] rfl)
    · have h := nd_neg h c10
      refine lv_iload hx hb dX7_gathered_29 (lv_at hl 5 rfl) ?_
      refine lv_istore_n (lv' := [(3, .int x4), (5, .int q7), (0, .int x0), (1, .int x1), (2, .int x2), (4, .int x4)]) hx hb dX7_gathered_31 rfl hl (by decide) rfl (fun ls hl => ?_)
      refine lv_iload_n hx hb dX7_gathered_32 rfl (lv_at hl 4 rfl) ?_
      refine lv_iload_n hx hb dX7_gathered_33 rfl (lv_at hl 3 rfl) ?_
      refine lv_iload hx hb dX7_gathered_34 (lv_at hl 1 rfl) ?_
      refine lv_iand hx hb dX7_gathered_36 ?_
      refine lv_if_eq (tgt := 47) hx hb dX7_gathered_37 (by decide) (fun c12 => ?_) (fun c12 => ?_)
      · have h := nd_pos h c12
        refine lv_iconst (v := 0) hx hb dX7_gathered_47 (by decide) ?_
        exact (db_X7_gathered_48 C K J7) (x0) (x1) (x4) (x4) (x2) (0) s0 _ _ _ h hP hD hS (lv_sub hl [2, 3, 0, 5] rfl)
      · have h := nd_neg h c12
        refine lv_iconst (v := 1) hx hb dX7_gathered_40 (by decide) ?_
        refine lv_iload hx hb dX7_gathered_41 (lv_at hl 5 rfl) ?_
        refine lv_ishl hx hb dX7_gathered_43 ?_
        refine lv_goto (tgt := 48) hx hb dX7_gathered_44 (by decide) ?_
        exact (db_X7_gathered_48 C K J7) (x0) (x1) (x4) (x4) (x2) (((1 : Int32) <<< ((x4 : Int32) &&& 31))) s0 _ _ _ h hP hD hS (lv_sub hl [2, 3, 0, 5] rfl)
set_option maxHeartbeats 40000000 in
set_option maxRecDepth 100000 in
theorem db_X7_gathered_7 {p : Program} {l : Launch} {e : Env} {s : State} {m : MethodId} {args : Array Value} {below : List Frame} {meth : Method} {c : Code} {Q : State → Prop} {A : Nat → Prop} {dC : Nat → ClassId} {dI : Nat → Nat → Nat} {a : Nat → Nat} {ac : Nat → ClassId} {n : Nat} {r : Int32 × (Unit)} (C : nd_C p l s m args c A (dC, dI) cX7_gathered 6 RX7 ow_dm_X7_gathered (dk_P ac)) (K : nd_Ki p l e (headSpec ow_dm_X7_gathered ({ frames := 3, cells := 0, slots := 0, locals := 65 })).room s m args below meth c Q A (dC, dI) cX7_gathered .int (Unit) (dw_P a ac) r) (k : Nat) : dj_X7_gathered_7 p l e s m args below meth c Q A dC dI a ac (df_X7_gathered_7 n k) r := by
  induction k with
  | zero => intro x0 x1 x2 x3 x4 s0 H locs ls h; exact nomatch (show (none : Option (Int32 × (Unit))) = some r from h)
  | succ k ih => exact dB_X7_gathered_7 C K ih
set_option maxHeartbeats 40000000 in
set_option maxRecDepth 100000 in
theorem db_X7_gathered_0 {p : Program} {l : Launch} {e : Env} {s : State} {m : MethodId} {args : Array Value} {below : List Frame} {meth : Method} {c : Code} {Q : State → Prop} {A : Nat → Prop} {dC : Nat → ClassId} {dI : Nat → Nat → Nat} {a : Nat → Nat} {ac : Nat → ClassId} {n : Nat} {r : Int32 × (Unit)} (C : nd_C p l s m args c A (dC, dI) cX7_gathered 6 RX7 ow_dm_X7_gathered (dk_P ac)) (K : nd_Ki p l e (headSpec ow_dm_X7_gathered ({ frames := 3, cells := 0, slots := 0, locals := 65 })).room s m args below meth c Q A (dC, dI) cX7_gathered .int (Unit) (dw_P a ac) r) : dj_X7_gathered_0 p l e s m args below meth c Q A dC dI a ac (df_X7_gathered_0 n) r := by
  obtain ⟨hlt, hx, hb, hml, hown, hts, hN, hA, hK⟩ := id C
  intro v0 v1 s0 H locs ls h hP hD hS hl
  unfold df_X7_gathered_0 at h
  refine lv_iconst (v := 0) hx hb dX7_gathered_0 (by decide) ?_
  refine lv_istore_n (lv' := [(2, .int 0), (0, .int v0), (1, .int v1)]) hx hb dX7_gathered_1 rfl hl (by decide) rfl (fun ls hl => ?_)
  refine lv_iconst (v := 0) hx hb dX7_gathered_2 (by decide) ?_
  refine lv_istore_n (lv' := [(3, .int 0), (2, .int 0), (0, .int v0), (1, .int v1)]) hx hb dX7_gathered_3 rfl hl (by decide) rfl (fun ls hl => ?_)
  refine lv_iconst (v := 0) hx hb dX7_gathered_4 (by decide) ?_
  refine lv_istore (lv' := [(4, .int 0), (3, .int 0), (2, .int 0), (0, .int v0), (1, .int v1)]) hx hb dX7_gathered_5 hl (by decide) rfl (fun ls hl => ?_)
  exact (db_X7_gathered_7 C K n) (v0) (v1) (0) (0) (0) s0 _ _ _ h hP hD hS (lv_sub hl [3, 4, 2, 1, 0] rfl)
set_option maxHeartbeats 40000000 in
set_option maxRecDepth 100000 in
theorem dm_X7_gathered (l : Launch) (hlt : l.stackTraces = false) (dC : Nat → ClassId) (dI : Nat → Nat → Nat) (a : Nat → Nat) (ac : Nat → ClassId) (n : Nat) (v0 : Int32) (v1 : Int32) (s0 : Unit) {r : Int32 × (Unit)} (h : df_X7_gathered n v0 v1 s0 = some r) (sz : Nat) : Met l yX7_gathered ow_dm_X7_gathered ({ frames := 3, cells := 0, slots := 0, locals := 65 }) (va_Pc [.int v0, .int v1] (fun U => U.heap.size = sz ∧ va_P (dC, dI) vwCl (dw_P a ac s0) U.heap ∧ va_K (dC, dI) vwCl (dk_P ac) U ∧ va_D (fun _ => True) (dw_P a ac s0) ∧ nv_E (va_A (dw_P a ac s0) sz) U)) (va_Qi (fun x _ => x = r.1) (fun (_ : Unit) t => va_P (dC, dI) vwCl (dw_P a ac r.2) t.heap ∧ va_K (dC, dI) vwCl (dk_P ac) t ∧ va_D (va_A (dw_P a ac s0) sz) (dw_P a ac r.2)) (va_A (dw_P a ac s0) sz)) 0 0 (va_A (dw_P a ac s0) sz) := by
  refine Met.ofW (cc := cX7_gathered) (maxL := 6) (ret := (some .int)) (by decide) rfl ?_
  intro p e s m args below meth c s₁ B hml hv
  obtain ⟨rfl, hsz, hP, hK, hD0, hN⟩ := hv
  have hx := B.exec
  have hb := B.bytes
  have hr := B.returns
  have hts := atoms_spec (ws := ow_dm_X7_gathered) B.pre
  have hown : s.vm.findClass RX7 = some m.cls := findClass_of_methodNamed B.named
  have hlocks := B.notSynchronized
  subst hsz
  have hD := hD0.self (sz := s.heap.size)
  generalize hAe : va_A (dw_P a ac s0) s.heap.size = A at hD hN ⊢
  have hA : ∀ q : Nat, s.heap.size ≤ q → A q := fun q h => by rw [← hAe]; exact Or.inr h
  have hl := lv_entry ([.int v0, .int v1]) (n := 6) (Nat.le_of_ble_eq_true rfl)
  rw [lg_entry_eq]
  generalize (lg_sl ([.int v0, .int v1]) ++ List.replicate (6 - (lg_sl ([.int v0, .int v1])).length) Slot.unset).toArray = ls at hl ⊢
  have hl : lv_has ls 6 [(0, .int v0), (1, .int v1)] := hl
  exact db_X7_gathered_0 (dC := dC) (dI := dI) (a := a) (ac := ac) (n := n) (r := r) ⟨hlt, hx, hb, hml, hown, hts, hN, hA, hK⟩ (fun pc v τ H locs ls d z er hP hD hS => by subst er; exact W.zret (v := v) hx hb hr z (fun t ht hW => ⟨⟨v, (), rfl, rfl, by rw [ht]; exact hP, va_K.moved hW.alike hK, hD⟩, hS.F ht⟩) hS.2.2 d) v0 v1 s0 _ _ _ h hP hD va_S.rf (lv_sub hl [0, 1] rfl)
def ow_dm_X7_taken : List Cond := .code yX7_taken cX7_taken 2 (some .int) :: ([.methodLink RX7 474 yX7_gathered, .static yX7_gathered, .initialized RX7] ++ (ow_dm_X7_gathered ++ []))
theorem gd_dm_X7_taken : ∀ w ∈ ow_dm_X7_taken, (w.onTables && w.keeps) = true ∨ ∃ ty, w = Cond.arrayClass ty := List.forall_mem_cons.mpr ⟨good_of_word rfl, List.forall_mem_append.mpr ⟨fun w h => good_of_word (List.all_eq_true.mp (by decide +kernel) w h), List.forall_mem_append.mpr ⟨gd_dm_X7_gathered, fun _ h => nomatch h⟩⟩⟩
theorem gi_dm_X7_taken_0 : GoodIn ow_dm_X7_taken (wsS RX7 474 yX7_gathered ow_dm_X7_gathered) := goodIn_app (goodIn_of _ (by decide +kernel)) (fun w h => ⟨List.mem_cons_of_mem _ (List.mem_append_right _ (List.mem_append_left _ h)), gd_dm_X7_gathered w h⟩)
def dj_X7_taken_172 (p : Program) (l : Launch) (e : Env) (s : State) (m : MethodId) (args : Array Value) (below : List Frame) (meth : Method) (c : Code) (Q : State → Prop) (A : Nat → Prop) (dC : Nat → ClassId) (dI : Nat → Nat → Nat) (a : Nat → Nat) (ac : Nat → ClassId) (g : Int32 → Int32 → (Unit) → Option (Int32 × (Unit))) (r : Int32 × (Unit)) : Prop := ∀ (x0 : Int32) (x1 : Int32) (s0 : Unit) (H : Heap) (locs : List Loc) (ls : Array Slot), g x0 x1 s0 = some r → va_P (dC, dI) vwCl (dw_P a ac s0) H → va_D A (dw_P a ac s0) → va_S A s.heap H locs → lv_has ls 2 [(0, .int x0), (1, .int x1)] → W p l e (headSpec ow_dm_X7_taken ({ frames := 4, cells := 0, slots := 0, locals := 90 })).room s m args below meth c H locs 0 0 Q (F0 m 172 ls [])
def dj_X7_taken_120 (p : Program) (l : Launch) (e : Env) (s : State) (m : MethodId) (args : Array Value) (below : List Frame) (meth : Method) (c : Code) (Q : State → Prop) (A : Nat → Prop) (dC : Nat → ClassId) (dI : Nat → Nat → Nat) (a : Nat → Nat) (ac : Nat → ClassId) (g : Int32 → (Unit) → Option (Int32 × (Unit))) (r : Int32 × (Unit)) : Prop := ∀ (x1 : Int32) (s0 : Unit) (H : Heap) (locs : List Loc) (ls : Array Slot), g x1 s0 = some r → va_P (dC, dI) vwCl (dw_P a ac s0) H → va_D A (dw_P a ac s0) → va_S A s.heap H locs → lv_has ls 2 [(1, .int x1)] → W p l e (headSpec ow_dm_X7_taken ({ frames := 4, cells := 0, slots := 0, locals := 90 })).room s m args below meth c H locs 0 0 Q (F0 m 120 ls [])
def dj_X7_taken_144 (p : Program) (l : Launch) (e : Env) (s : State) (m : MethodId) (args : Array Value) (below : List Frame) (meth : Method) (c : Code) (Q : State → Prop) (A : Nat → Prop) (dC : Nat → ClassId) (dI : Nat → Nat → Nat) (a : Nat → Nat) (ac : Nat → ClassId) (g : Int32 → (Unit) → Option (Int32 × (Unit))) (r : Int32 × (Unit)) : Prop := ∀ (x1 : Int32) (s0 : Unit) (H : Heap) (locs : List Loc) (ls : Array Slot), g x1 s0 = some r → va_P (dC, dI) vwCl (dw_P a ac s0) H → va_D A (dw_P a ac s0) → va_S A s.heap H locs → lv_has ls 2 [(1, .int x1)] → W p l e (headSpec ow_dm_X7_taken ({ frames := 4, cells := 0, slots := 0, locals := 90 })).room s m args below meth c H locs 0 0 Q (F0 m 144 ls [])
def dj_X7_taken_0 (p : Program) (l : Launch) (e : Env) (s : State) (m : MethodId) (args : Array Value) (below : List Frame) (meth : Method) (c : Code) (Q : State → Prop) (A : Nat → Prop) (dC : Nat → ClassId) (dI : Nat → Nat → Nat) (a : Nat → Nat) (ac : Nat → ClassId) (g : Int32 → Int32 → (Unit) → Option (Int32 × (Unit))) (r : Int32 × (Unit)) : Prop := ∀ (v0 : Int32) (v1 : Int32) (s0 : Unit) (H : Heap) (locs : List Loc) (ls : Array Slot), g v0 v1 s0 = some r → va_P (dC, dI) vwCl (dw_P a ac s0) H → va_D A (dw_P a ac s0) → va_S A s.heap H locs → lv_has ls 2 [(0, .int v0), (1, .int v1)] → W p l e (headSpec ow_dm_X7_taken ({ frames := 4, cells := 0, slots := 0, locals := 90 })).room s m args below meth c H locs 0 0 Q (F0 m 0 ls [])
set_option maxHeartbeats 40000000 in
set_option maxRecDepth 100000 in
theorem db_X7_taken_172 {p : Program} {l : Launch} {e : Env} {s : State} {m : MethodId} {args : Array Value} {below : List Frame} {meth : Method} {c : Code} {Q : State → Prop} {A : Nat → Prop} {dC : Nat → ClassId} {dI : Nat → Nat → Nat} {a : Nat → Nat} {ac : Nat → ClassId} {n : Nat} {r : Int32 × (Unit)} (C : nd_C p l s m args c A (dC, dI) cX7_taken 2 RX7 ow_dm_X7_taken (dk_P ac)) (K : nd_Ki p l e (headSpec ow_dm_X7_taken ({ frames := 4, cells := 0, slots := 0, locals := 90 })).room s m args below meth c Q A (dC, dI) cX7_taken .int (Unit) (dw_P a ac) r) : dj_X7_taken_172 p l e s m args below meth c Q A dC dI a ac (df_X7_taken_172 n) r := by
  obtain ⟨hlt, hx, hb, hml, hown, hts, hN, hA, hK⟩ := id C
  intro x0 x1 s0 H locs ls h hP hD hS hl
  unfold df_X7_taken_172 at h
  refine lv_iload_n hx hb dX7_taken_172 rfl (lv_at hl 0 rfl) ?_
  refine lv_iload_n hx hb dX7_taken_173 rfl (lv_at hl 1 rfl) ?_
  obtain ⟨q4, s5, hq, h⟩ := nd_b2_e h
  have hPc : va_P (dC, dI) vwCl (dw_P a ac ()) H := nd_p0
  have hDc : va_D A (dw_P a ac ()) := nd_d0
  have hKc : va_K (dC, dI) vwCl (dk_P ac) s := nd_y0 hK
  have hFc : ∀ q, va_A (dw_P a ac ()) H.size q → A q := nd_r0 hS hA
  refine nd_cSi (As := [.int x0, .int x1]) (rest := []) (q := q4) (w' := dw_P a ac s5) ⟨hx, hb, hml, hown, hts⟩ (fun sz => dm_X7_gathered l hlt dC dI a ac n (x0) (x1) () hq sz) (cwS 2 hts gi_dm_X7_taken_0 rfl rfl rfl (by decide +kernel) ⟨Nat.le_of_ble_eq_true rfl, Nat.le_of_ble_eq_true rfl⟩) hPc hDc hKc hS hA hN rfl hl.1 rfl (Nat.le_of_ble_eq_true rfl) dX7_taken_174 (fun H locs hP1 hD1 hk1 hS => ?_)
  have hP := nd_n0 hP hk1
  exact K _ _ _ _ _ _ dX7_taken_177 rfl (Option.some.inj h).symm hP hD hS
set_option maxHeartbeats 40000000 in
set_option maxRecDepth 100000 in
theorem db_X7_taken_120 {p : Program} {l : Launch} {e : Env} {s : State} {m : MethodId} {args : Array Value} {below : List Frame} {meth : Method} {c : Code} {Q : State → Prop} {A : Nat → Prop} {dC : Nat → ClassId} {dI : Nat → Nat → Nat} {a : Nat → Nat} {ac : Nat → ClassId} {n : Nat} {r : Int32 × (Unit)} (C : nd_C p l s m args c A (dC, dI) cX7_taken 2 RX7 ow_dm_X7_taken (dk_P ac)) (K : nd_Ki p l e (headSpec ow_dm_X7_taken ({ frames := 4, cells := 0, slots := 0, locals := 90 })).room s m args below meth c Q A (dC, dI) cX7_taken .int (Unit) (dw_P a ac) r) : dj_X7_taken_120 p l e s m args below meth c Q A dC dI a ac (df_X7_taken_120 n) r := by
  obtain ⟨hlt, hx, hb, hml, hown, hts, hN, hA, hK⟩ := id C
  intro x1 s0 H locs ls h hP hD hS hl
  unfold df_X7_taken_120 at h
  refine lv_iload_n hx hb dX7_taken_120 rfl (lv_at hl 0 rfl) ?_
  refine lv_bipush (v := 7) hx hb dX7_taken_121 (by decide) ?_
  refine lv_ishr hx hb dX7_taken_123 ?_
  refine lv_bipush (v := 31) hx hb dX7_taken_124 (by decide) ?_
  refine lv_iand hx hb dX7_taken_126 ?_
  exact K _ _ _ _ _ _ dX7_taken_127 rfl (Option.some.inj h).symm hP hD hS
set_option maxHeartbeats 40000000 in
set_option maxRecDepth 100000 in
theorem db_X7_taken_144 {p : Program} {l : Launch} {e : Env} {s : State} {m : MethodId} {args : Array Value} {below : List Frame} {meth : Method} {c : Code} {Q : State → Prop} {A : Nat → Prop} {dC : Nat → ClassId} {dI : Nat → Nat → Nat} {a : Nat → Nat} {ac : Nat → ClassId} {n : Nat} {r : Int32 × (Unit)} (C : nd_C p l s m args c A (dC, dI) cX7_taken 2 RX7 ow_dm_X7_taken (dk_P ac)) (K : nd_Ki p l e (headSpec ow_dm_X7_taken ({ frames := 4, cells := 0, slots := 0, locals := 90 })).room s m args below meth c Q A (dC, dI) cX7_taken .int (Unit) (dw_P a ac) r) : dj_X7_taken_144 p l e s m args below meth c Q A dC dI a ac (df_X7_taken_144 n) r := by
  obtain ⟨hlt, hx, hb, hml, hown, hts, hN, hA, hK⟩ := id C
  intro x1 s0 H locs ls h hP hD hS hl
  unfold df_X7_taken_144 at h
  refine lv_iload_n hx hb dX7_taken_144 rfl (lv_at hl 0 rfl) ?_
  refine lv_iconst (v := 2) hx hb dX7_taken_145 (by decide) ?_
  refine lv_ishr hx hb dX7_taken_146 ?_
  refine lv_bipush (v := 31) hx hb dX7_taken_147 (by decide) ?_
  refine lv_iand hx hb dX7_taken_149 ?_
  exact K _ _ _ _ _ _ dX7_taken_150 rfl (Option.some.inj h).symm hP hD hS
