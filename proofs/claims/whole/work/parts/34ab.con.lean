set_option maxHeartbeats 40000000 in
set_option maxRecDepth 100000 in
theorem db_X3_isHead_74 {p : Program} {l : Launch} {e : Env} {s : State} {m : MethodId} {args : Array Value} {below : List Frame} {meth : Method} {c : Code} {Q : State → Prop} {A : Nat → Prop} {dC : Nat → ClassId} {dI : Nat → Nat → Nat} {a : Nat → Nat} {ac : Nat → ClassId} {n : Nat} {r : Int32 × (Unit)} (C : nd_C p l s m args c A (dC, dI) cX3_isHead 3 RX3 ow_dm_X3_isHead (dk_P ac)) (K : nd_Ki p l e (headSpec ow_dm_X3_isHead ({ frames := 0, cells := 0, slots := 0, locals := 0 })).room s m args below meth c Q A (dC, dI) cX3_isHead .boolean (Unit) (dw_P a ac) r) : dj_X3_isHead_74 p l e s m args below meth c Q A dC dI a ac (df_X3_isHead_74 n) r := by
  obtain ⟨hlt, hx, hb, hml, hown, hts, hN, hA, hK⟩ := id C
  intro y0 s0 H locs ls h hP hD hS hl
  unfold df_X3_isHead_74 at h
  obtain ⟨n11, h⟩ := nd_z_e ⟨_, rfl⟩ h
  exact K _ _ _ _ _ _ dX3_isHead_74 n11 (Option.some.inj h).symm hP hD hS
set_option maxHeartbeats 40000000 in
set_option maxRecDepth 100000 in
theorem db_X3_isHead_84 {p : Program} {l : Launch} {e : Env} {s : State} {m : MethodId} {args : Array Value} {below : List Frame} {meth : Method} {c : Code} {Q : State → Prop} {A : Nat → Prop} {dC : Nat → ClassId} {dI : Nat → Nat → Nat} {a : Nat → Nat} {ac : Nat → ClassId} {n : Nat} {r : Int32 × (Unit)} (C : nd_C p l s m args c A (dC, dI) cX3_isHead 3 RX3 ow_dm_X3_isHead (dk_P ac)) (K : nd_Ki p l e (headSpec ow_dm_X3_isHead ({ frames := 0, cells := 0, slots := 0, locals := 0 })).room s m args below meth c Q A (dC, dI) cX3_isHead .boolean (Unit) (dw_P a ac) r) : dj_X3_isHead_84 p l e s m args below meth c Q A dC dI a ac (df_X3_isHead_84 n) r := by
  obtain ⟨hlt, hx, hb, hml, hown, hts, hN, hA, hK⟩ := id C
  intro y0 s0 H locs ls h hP hD hS hl
  unfold df_X3_isHead_84 at h
  obtain ⟨n14, h⟩ := nd_z_e ⟨_, rfl⟩ h
  exact K _ _ _ _ _ _ dX3_isHead_84 n14 (Option.some.inj h).symm hP hD hS
set_option maxHeartbeats 40000000 in
set_option maxRecDepth 100000 in
theorem db_X3_isHead_0 {p : Program} {l : Launch} {e : Env} {s : State} {m : MethodId} {args : Array Value} {below : List Frame} {meth : Method} {c : Code} {Q : State → Prop} {A : Nat → Prop} {dC : Nat → ClassId} {dI : Nat → Nat → Nat} {a : Nat → Nat} {ac : Nat → ClassId} {n : Nat} {r : Int32 × (Unit)} (C : nd_C p l s m args c A (dC, dI) cX3_isHead 3 RX3 ow_dm_X3_isHead (dk_P ac)) (K : nd_Ki p l e (headSpec ow_dm_X3_isHead ({ frames := 0, cells := 0, slots := 0, locals := 0 })).room s m args below meth c Q A (dC, dI) cX3_isHead .boolean (Unit) (dw_P a ac) r) : dj_X3_isHead_0 p l e s m args below meth c Q A dC dI a ac (df_X3_isHead_0 n) r := by
  obtain ⟨hlt, hx, hb, hml, hown, hts, hN, hA, hK⟩ := id C
  intro v0 v1 v2 s0 H locs ls h hP hD hS hl
  unfold df_X3_isHead_0 at h
  refine lv_iload_n hx hb dX3_isHead_0 rfl (lv_at hl 0 rfl) ?_
  by_cases c1 : v0 = 0
  · have h := nd_pos h c1
    refine lv_tableIn (off := 39) (tgt := 40) hx hb dX3_isHead_1 (by rw [c1]; decide) (by rw [c1]; decide) (by rw [c1]; decide) (by decide) ?_
    exact (db_X3_isHead_40 C K)  s0 _ _ _ h hP hD hS (lv_sub hl [] rfl)
  have h := nd_neg h c1
  by_cases c2 : v0 = 1
  · have h := nd_pos h c2
    refine lv_tableIn (off := 41) (tgt := 42) hx hb dX3_isHead_1 (by rw [c2]; decide) (by rw [c2]; decide) (by rw [c2]; decide) (by decide) ?_
    refine lv_iload_n hx hb dX3_isHead_42 rfl (lv_at hl 1 rfl) ?_
    refine lv_bipush (v := 8) hx hb dX3_isHead_43 (by decide) ?_
    refine lv_icmp_gt (tgt := 52) hx hb dX3_isHead_45 (by decide) (fun c3 => ?_) (fun c3 => ?_)
    · have h := nd_pos h c3
      refine lv_iconst (v := 0) hx hb dX3_isHead_52 (by decide) ?_
      exact (db_X3_isHead_53 C K) (0) s0 _ _ _ h hP hD hS (lv_sub hl [] rfl)
    · have h := nd_neg h c3
      refine lv_iconst (v := 1) hx hb dX3_isHead_48 (by decide) ?_
      refine lv_goto (tgt := 53) hx hb dX3_isHead_49 (by decide) ?_
      exact (db_X3_isHead_53 C K) (1) s0 _ _ _ h hP hD hS (lv_sub hl [] rfl)
  have h := nd_neg h c2
  by_cases c5 : v0 = 2
  · have h := nd_pos h c5
    refine lv_tableIn (off := 39) (tgt := 40) hx hb dX3_isHead_1 (by rw [c5]; decide) (by rw [c5]; decide) (by rw [c5]; decide) (by decide) ?_
    exact (db_X3_isHead_40 C K)  s0 _ _ _ h hP hD hS (lv_sub hl [] rfl)
  have h := nd_neg h c5
  by_cases c6 : v0 = 3
  · have h := nd_pos h c6
    refine lv_tableIn (off := 53) (tgt := 54) hx hb dX3_isHead_1 (by rw [c6]; decide) (by rw [c6]; decide) (by rw [c6]; decide) (by decide) ?_
    refine lv_iload_n hx hb dX3_isHead_54 rfl (lv_at hl 1 rfl) ?_
    refine lv_iconst (v := 1) hx hb dX3_isHead_55 (by decide) ?_
    refine lv_icmp_gt (tgt := 63) hx hb dX3_isHead_56 (by decide) (fun c7 => ?_) (fun c7 => ?_)
    · have h := nd_pos h c7
      refine lv_iconst (v := 0) hx hb dX3_isHead_63 (by decide) ?_
      exact (db_X3_isHead_64 C K) (0) s0 _ _ _ h hP hD hS (lv_sub hl [] rfl)
    · have h := nd_neg h c7
      refine lv_iconst (v := 1) hx hb dX3_isHead_59 (by decide) ?_
      refine lv_goto (tgt := 64) hx hb dX3_isHead_60 (by decide) ?_
      exact (db_X3_isHead_64 C K) (1) s0 _ _ _ h hP hD hS (lv_sub hl [] rfl)
  have h := nd_neg h c6
  by_cases c9 : v0 = 4
  · have h := nd_pos h c9
    refine lv_tableIn (off := 64) (tgt := 65) hx hb dX3_isHead_1 (by rw [c9]; decide) (by rw [c9]; decide) (by rw [c9]; decide) (by decide) ?_
    refine lv_iload_n hx hb dX3_isHead_65 rfl (lv_at hl 1 rfl) ?_
    refine lv_if_ne (tgt := 73) hx hb dX3_isHead_66 (by decide) (fun c10 => ?_) (fun c10 => ?_)
    · have h := nd_neg h c10
      refine lv_iconst (v := 0) hx hb dX3_isHead_73 (by decide) ?_
      exact (db_X3_isHead_74 C K) (0) s0 _ _ _ h hP hD hS (lv_sub hl [] rfl)
    · have h := nd_pos h c10
      refine lv_iconst (v := 1) hx hb dX3_isHead_69 (by decide) ?_
      refine lv_goto (tgt := 74) hx hb dX3_isHead_70 (by decide) ?_
      exact (db_X3_isHead_74 C K) (1) s0 _ _ _ h hP hD hS (lv_sub hl [] rfl)
  have h := nd_neg h c9
  by_cases c12 : v0 = 5
  · have h := nd_pos h c12
    refine lv_tableIn (off := 74) (tgt := 75) hx hb dX3_isHead_1 (by rw [c12]; decide) (by rw [c12]; decide) (by rw [c12]; decide) (by decide) ?_
    refine lv_iload_n hx hb dX3_isHead_75 rfl (lv_at hl 2 rfl) ?_
    refine lv_if_ne (tgt := 83) hx hb dX3_isHead_76 (by decide) (fun c13 => ?_) (fun c13 => ?_)
    · have h := nd_neg h c13
      refine lv_iconst (v := 0) hx hb dX3_isHead_83 (by decide) ?_
      exact (db_X3_isHead_84 C K) (0) s0 _ _ _ h hP hD hS (lv_sub hl [] rfl)
    · have h := nd_pos h c13
      refine lv_iconst (v := 1) hx hb dX3_isHead_79 (by decide) ?_
      refine lv_goto (tgt := 84) hx hb dX3_isHead_80 (by decide) ?_
      exact (db_X3_isHead_84 C K) (1) s0 _ _ _ h hP hD hS (lv_sub hl [] rfl)
  have h := nd_neg h c12
  refine lv_tableOut (tgt := 85) hx hb dX3_isHead_1 (by have g0 := nv_nei c1 (k := 0) (by decide); have g1 := nv_nei c2 (k := 1) (by decide); have g2 := nv_nei c5 (k := 2) (by decide); have g3 := nv_nei c6 (k := 3) (by decide); have g4 := nv_nei c9 (k := 4) (by decide); have g5 := nv_nei c12 (k := 5) (by decide); omega) (by decide) ?_
  refine lv_iconst (v := 0) hx hb dX3_isHead_85 (by decide) ?_
  exact K _ _ _ _ _ _ dX3_isHead_86 (by first | rfl | decide) (Option.some.inj h).symm hP hD hS
set_option maxHeartbeats 40000000 in
set_option maxRecDepth 100000 in
theorem dm_X3_isHead (l : Launch) (hlt : l.stackTraces = false) (dC : Nat → ClassId) (dI : Nat → Nat → Nat) (a : Nat → Nat) (ac : Nat → ClassId) (n : Nat) (v0 : Int32) (v1 : Int32) (v2 : Int32) (s0 : Unit) {r : Int32 × (Unit)} (h : df_X3_isHead n v0 v1 v2 s0 = some r) (sz : Nat) : Met l yX3_isHead ow_dm_X3_isHead ({ frames := 0, cells := 0, slots := 0, locals := 0 }) (va_Pc [.int v0, .int v1, .int v2] (fun U => U.heap.size = sz ∧ va_P (dC, dI) vwCl (dw_P a ac s0) U.heap ∧ va_K (dC, dI) vwCl (dk_P ac) U ∧ va_D (fun _ => True) (dw_P a ac s0) ∧ nv_E dI (va_A (dw_P a ac s0) sz) U)) (va_Qi (fun x _ => x = r.1) (fun (_ : Unit) t => va_P (dC, dI) vwCl (dw_P a ac r.2) t.heap ∧ va_K (dC, dI) vwCl (dk_P ac) t ∧ va_D (va_A (dw_P a ac s0) sz) (dw_P a ac r.2)) (va_A (dw_P a ac s0) sz)) 0 0 (va_A (dw_P a ac s0) sz) := by
  refine Met.ofW (cc := cX3_isHead) (maxL := 3) (ret := (some .boolean)) (by decide) rfl ?_
  intro p e s m args below meth c s₁ B hml hv
  obtain ⟨rfl, hsz, hP, hK, hD0, hN⟩ := hv
  have hx := B.exec
  have hb := B.bytes
  have hr := B.returns
  have hts := atoms_spec (ws := ow_dm_X3_isHead) B.pre
  have hown : s.vm.findClass RX3 = some m.cls := findClass_of_methodNamed B.named
  have hlocks := B.notSynchronized
  subst hsz
  have hD := hD0.self (sz := s.heap.size)
  generalize hAe : va_A (dw_P a ac s0) s.heap.size = A at hD hN ⊢
  have hA : ∀ q : Nat, s.heap.size ≤ q → A q := fun q h => by rw [← hAe]; exact Or.inr h
  have hl := lv_entry ([.int v0, .int v1, .int v2]) (n := 3) (Nat.le_of_ble_eq_true rfl)
  rw [lg_entry_eq]
  generalize (lg_sl ([.int v0, .int v1, .int v2]) ++ List.replicate (3 - (lg_sl ([.int v0, .int v1, .int v2])).length) Slot.unset).toArray = ls at hl ⊢
  have hl : lv_has ls 3 [(0, .int v0), (1, .int v1), (2, .int v2)] := hl
  exact db_X3_isHead_0 (dC := dC) (dI := dI) (a := a) (ac := ac) (n := n) (r := r) ⟨hlt, hx, hb, hml, hown, hts, hN, hA, hK⟩ (fun pc v τ H locs ls d z er hP hD hS => by subst er; exact W.zret (v := v) hx hb hr z (fun t ht hW => ⟨⟨v, (), rfl, rfl, by rw [ht]; exact hP, va_K.moved hW.alike hK, hD⟩, hS.F ht⟩) hS.2.2 d) v0 v1 v2 s0 _ _ _ h hP hD va_S.rf (lv_sub hl [0, 1, 2] rfl)
def ow_dm_X3_readBytes : List Cond := Cond.code yX3_readBytes cX3_readBytes 5 (some .long) :: ([Cond.fieldLink RX3 95 "TimeMachine$Events" "fault" "I", Cond.methodLink RX3 117 yX3_readByte, Cond.instanceMethod yX3_readByte, Cond.selects RX3 yX3_readByte yX3_readByte, Cond.initialized RX3] ++ (u_ws RX3 TX3 11 ++ (ow_dm_X3_readByte ++ [])))
theorem gd_dm_X3_readBytes : ∀ w ∈ ow_dm_X3_readBytes, (w.onTables && w.keeps) = true ∨ ∃ ty, w = Cond.arrayClass ty := List.forall_mem_cons.mpr ⟨good_of_word rfl, List.forall_mem_append.mpr ⟨fun w h => good_of_word (List.all_eq_true.mp (by decide +kernel) w h), List.forall_mem_append.mpr ⟨gu_X3, List.forall_mem_append.mpr ⟨gd_dm_X3_readByte, fun _ h => nomatch h⟩⟩⟩⟩
theorem hi_dm_X3_readBytes_X3 : ∀ w ∈ u_ws RX3 TX3 11, w ∈ ow_dm_X3_readBytes := fun w h => List.mem_cons_of_mem _ (List.mem_append_right _ (List.mem_append_left _ h))
theorem gi_dm_X3_readBytes_0 : GoodIn ow_dm_X3_readBytes (wsV RX3 117 RX3 yX3_readByte ow_dm_X3_readByte) := goodIn_app (goodIn_of _ (by decide +kernel)) (fun w h => ⟨List.mem_cons_of_mem _ (List.mem_append_right _ (List.mem_append_right _ (List.mem_append_left _ h))), gd_dm_X3_readByte w h⟩)
def dj_X3_readBytes_35 (p : Program) (l : Launch) (e : Env) (s : State) (m : MethodId) (args : Array Value) (below : List Frame) (meth : Method) (c : Code) (Q : State → Prop) (A : Nat → Prop) (dC : Nat → ClassId) (dI : Nat → Nat → Nat) (a : Nat → Nat) (ac : Nat → ClassId) (g : Int64 → (St × (St)) → Option (Int64 × (St × (St)))) (r : Int64 × (St × (St))) : Prop := ∀ (x2 : Int64) (s0 : St × (St)) (H : Heap) (locs : List Loc) (ls : Array Slot), g x2 s0 = some r → va_P (dC, dI) vwCl (dw_X3s a ac s0) H → va_D A (dw_X3s a ac s0) → va_S A s.heap H locs → lv_has ls 5 [(2, .long x2)] → W p l e (headSpec ow_dm_X3_readBytes ({ frames := 2, cells := 0, slots := 0, locals := 42 })).room s m args below meth c H locs 0 0 Q (F0 m 35 ls [])
def dj_X3_readBytes_5 (p : Program) (l : Launch) (e : Env) (s : State) (m : MethodId) (args : Array Value) (below : List Frame) (meth : Method) (c : Code) (Q : State → Prop) (A : Nat → Prop) (dC : Nat → ClassId) (dI : Nat → Nat → Nat) (a : Nat → Nat) (ac : Nat → ClassId) (g : Int32 → Int64 → Int32 → (St × (St)) → Option (Int64 × (St × (St)))) (r : Int64 × (St × (St))) : Prop := ∀ (x1 : Int32) (x2 : Int64) (x4 : Int32) (s0 : St × (St)) (H : Heap) (locs : List Loc) (ls : Array Slot), g x1 x2 x4 s0 = some r → va_P (dC, dI) vwCl (dw_X3s a ac s0) H → va_D A (dw_X3s a ac s0) → va_S A s.heap H locs → lv_has ls 5 [(0, .ref (a 1)), (1, .int x1), (2, .long x2), (4, .int x4)] → W p l e (headSpec ow_dm_X3_readBytes ({ frames := 2, cells := 0, slots := 0, locals := 42 })).room s m args below meth c H locs 0 0 Q (F0 m 5 ls [])
def dj_X3_readBytes_0 (p : Program) (l : Launch) (e : Env) (s : State) (m : MethodId) (args : Array Value) (below : List Frame) (meth : Method) (c : Code) (Q : State → Prop) (A : Nat → Prop) (dC : Nat → ClassId) (dI : Nat → Nat → Nat) (a : Nat → Nat) (ac : Nat → ClassId) (g : Int32 → (St × (St)) → Option (Int64 × (St × (St)))) (r : Int64 × (St × (St))) : Prop := ∀ (v0 : Int32) (s0 : St × (St)) (H : Heap) (locs : List Loc) (ls : Array Slot), g v0 s0 = some r → va_P (dC, dI) vwCl (dw_X3s a ac s0) H → va_D A (dw_X3s a ac s0) → va_S A s.heap H locs → lv_has ls 5 [(0, .ref (a 1)), (1, .int v0)] → W p l e (headSpec ow_dm_X3_readBytes ({ frames := 2, cells := 0, slots := 0, locals := 42 })).room s m args below meth c H locs 0 0 Q (F0 m 0 ls [])
set_option maxHeartbeats 40000000 in
set_option maxRecDepth 100000 in
theorem db_X3_readBytes_35 {p : Program} {l : Launch} {e : Env} {s : State} {m : MethodId} {args : Array Value} {below : List Frame} {meth : Method} {c : Code} {Q : State → Prop} {A : Nat → Prop} {dC : Nat → ClassId} {dI : Nat → Nat → Nat} {a : Nat → Nat} {ac : Nat → ClassId} {n : Nat} {r : Int64 × (St × (St))} (C : nd_C p l s m args c A (dC, dI) cX3_readBytes 5 RX3 ow_dm_X3_readBytes (dk_X3s ac)) (K : nd_Kl p l e (headSpec ow_dm_X3_readBytes ({ frames := 2, cells := 0, slots := 0, locals := 42 })).room s m args below meth c Q A (dC, dI) cX3_readBytes (St × (St)) (dw_X3s a ac) r) : dj_X3_readBytes_35 p l e s m args below meth c Q A dC dI a ac (df_X3_readBytes_35 n (a 0)) r := by
  obtain ⟨hlt, hx, hb, hml, hown, hts, hN, hA, hK⟩ := id C
  intro x2 s0 H locs ls h hP hD hS hl
  unfold df_X3_readBytes_35 at h
  refine lv_lload_n hx hb dX3_readBytes_35 rfl (lv_at hl 0 rfl) ?_
  exact K _ _ _ _ _ _ dX3_readBytes_36 (Option.some.inj h).symm hP hD hS
set_option maxHeartbeats 40000000 in
set_option maxRecDepth 100000 in
theorem dB_X3_readBytes_5 {p : Program} {l : Launch} {e : Env} {s : State} {m : MethodId} {args : Array Value} {below : List Frame} {meth : Method} {c : Code} {Q : State → Prop} {A : Nat → Prop} {dC : Nat → ClassId} {dI : Nat → Nat → Nat} {a : Nat → Nat} {ac : Nat → ClassId} {n : Nat} {r : Int64 × (St × (St))} (C : nd_C p l s m args c A (dC, dI) cX3_readBytes 5 RX3 ow_dm_X3_readBytes (dk_X3s ac)) (K : nd_Kl p l e (headSpec ow_dm_X3_readBytes ({ frames := 2, cells := 0, slots := 0, locals := 42 })).room s m args below meth c Q A (dC, dI) cX3_readBytes (St × (St)) (dw_X3s a ac) r) {g5 : Int32 → Int64 → Int32 → (St × (St)) → Option (Int64 × (St × (St)))} (J5 : dj_X3_readBytes_5 p l e s m args below meth c Q A dC dI a ac g5 r) : dj_X3_readBytes_5 p l e s m args below meth c Q A dC dI a ac (dF_X3_readBytes_5 n (a 0) g5) r := by
  obtain ⟨hlt, hx, hb, hml, hown, hts, hN, hA, hK⟩ := id C
  intro x1 x2 x4 s0 H locs ls h hP hD hS hl
  unfold dF_X3_readBytes_5 at h
  refine lv_iload hx hb dX3_readBytes_5 (lv_at hl 3 rfl) ?_
  refine lv_iload_n hx hb dX3_readBytes_7 rfl (lv_at hl 1 rfl) ?_
  refine lv_icmp_ge (tgt := 35) hx hb dX3_readBytes_8 (by decide) (fun c1 => ?_) (fun c1 => ?_)
  · have h := nd_pos h c1
    exact (db_X3_readBytes_35 C K) (x2) s0 _ _ _ h hP hD hS (lv_sub hl [2] rfl)
  · have h := nd_neg h c1
    refine lv_aload_n hx hb dX3_readBytes_11 rfl (lv_at hl 0 rfl) ?_
    refine va_get (D := (dC, dI)) (ci := 4) (v := .int (sI s0.2 4)) (C := RX3) (T := TX3) (N := 11) hx hb hts hi_dm_X3_readBytes_X3 hown hK hP 1 rfl rfl 9 (by decide) (hts (.fieldLink RX3 95 "TimeMachine$Events" "fault" "I") (List.mem_of_getElem? (i := 1) rfl)) (fun _ h9 => h9) rfl dX3_readBytes_12 ?_
    refine lv_if_ne (tgt := 35) hx hb dX3_readBytes_15 (by decide) (fun c2 => ?_) (fun c2 => ?_)
    · have h := nd_neg h c2
      exact (db_X3_readBytes_35 C K) (x2) s0 _ _ _ h hP hD hS (lv_sub hl [2] rfl)
    · have h := nd_pos h c2
      refine lv_lload_n hx hb dX3_readBytes_18 rfl (lv_at hl 2 rfl) ?_
      refine lv_bipush (v := 8) hx hb dX3_readBytes_19 (by decide) ?_
      refine lv_lshl hx hb dX3_readBytes_21 rfl ?_
      refine lv_aload_n hx hb dX3_readBytes_22 rfl (lv_at hl 0 rfl) ?_
      obtain ⟨q3, s4, hq, h⟩ := nd_b2_e h
      have hPc := hP
      have hDc := hD
      have hKc := hK
      have hFc := nd_rs hD hS hA
      refine nd_cVi (As := []) (rest := [.long ((x2 : Int64) <<< ((8 : Int32).toInt64 &&& 63))]) (q := q3) (w' := dw_X3s a ac s4) ⟨hx, hb, hml, hown, hts⟩ (fun sz => dm_X3_readByte l hlt dC dI a ac n  s0 hq sz) (cwV 0 hts gi_dm_X3_readBytes_0 rfl rfl rfl (by decide +kernel) ⟨Nat.le_of_ble_eq_true rfl, Nat.le_of_ble_eq_true rfl⟩) hPc hDc hKc hS hA hN (va_recv hKc hPc (ci := 4) (q0 := 1) rfl rfl) rfl hl.1 rfl (Nat.le_of_ble_eq_true rfl) dX3_readBytes_23 (fun H locs hP1 hD1 hk1 hS => ?_)
      have hP := hP1
      have hD := hD1.weaken (fun k q _ h => hFc q.1 h)
      refine lv_i2l hx hb dX3_readBytes_26 rfl ?_
      refine lv_lor hx hb dX3_readBytes_27 ?_
      refine lv_topl (fun z6 ez6 => ?_)
      have h := nd_at h ez6
      refine lv_lstore_n (lv' := [(2, .long z6), (0, .ref (a 1)), (1, .int x1), (4, .int x4)]) hx hb dX3_readBytes_28 rfl hl (by decide) rfl (fun ls hl => ?_)
      obtain ⟨z7, ez7, h⟩ := nd_let_e h
      refine lv_iinc (v := z7) (lv' := [(4, .int z7), (2, .long z6), (0, .ref (a 1)), (1, .int x1)]) hx hb dX3_readBytes_29 hl (k := 3) rfl (by rw [ez7]) (by decide) rfl (fun ls hl => ?_)
      refine lv_goto (tgt := 5) hx hb dX3_readBytes_32 (by decide) ?_
      exact (J5) (x1) (z6) (z7) s4 _ _ _ h hP hD hS (lv_sub hl [2, 3, 1, 0] rfl)
set_option maxHeartbeats 40000000 in
set_option maxRecDepth 100000 in
theorem db_X3_readBytes_5 {p : Program} {l : Launch} {e : Env} {s : State} {m : MethodId} {args : Array Value} {below : List Frame} {meth : Method} {c : Code} {Q : State → Prop} {A : Nat → Prop} {dC : Nat → ClassId} {dI : Nat → Nat → Nat} {a : Nat → Nat} {ac : Nat → ClassId} {n : Nat} {r : Int64 × (St × (St))} (C : nd_C p l s m args c A (dC, dI) cX3_readBytes 5 RX3 ow_dm_X3_readBytes (dk_X3s ac)) (K : nd_Kl p l e (headSpec ow_dm_X3_readBytes ({ frames := 2, cells := 0, slots := 0, locals := 42 })).room s m args below meth c Q A (dC, dI) cX3_readBytes (St × (St)) (dw_X3s a ac) r) (k : Nat) : dj_X3_readBytes_5 p l e s m args below meth c Q A dC dI a ac (df_X3_readBytes_5 n (a 0) k) r := by
  induction k with
  | zero => intro x1 x2 x4 s0 H locs ls h; exact nomatch (show (none : Option (Int64 × (St × (St)))) = some r from h)
  | succ k ih => exact dB_X3_readBytes_5 C K ih
set_option maxHeartbeats 40000000 in
set_option maxRecDepth 100000 in
theorem db_X3_readBytes_0 {p : Program} {l : Launch} {e : Env} {s : State} {m : MethodId} {args : Array Value} {below : List Frame} {meth : Method} {c : Code} {Q : State → Prop} {A : Nat → Prop} {dC : Nat → ClassId} {dI : Nat → Nat → Nat} {a : Nat → Nat} {ac : Nat → ClassId} {n : Nat} {r : Int64 × (St × (St))} (C : nd_C p l s m args c A (dC, dI) cX3_readBytes 5 RX3 ow_dm_X3_readBytes (dk_X3s ac)) (K : nd_Kl p l e (headSpec ow_dm_X3_readBytes ({ frames := 2, cells := 0, slots := 0, locals := 42 })).room s m args below meth c Q A (dC, dI) cX3_readBytes (St × (St)) (dw_X3s a ac) r) : dj_X3_readBytes_0 p l e s m args below meth c Q A dC dI a ac (df_X3_readBytes_0 n (a 0)) r := by
  obtain ⟨hlt, hx, hb, hml, hown, hts, hN, hA, hK⟩ := id C
  intro v0 s0 H locs ls h hP hD hS hl
  unfold df_X3_readBytes_0 at h
  refine lv_lconst (v := 0) hx hb dX3_readBytes_0 (by decide) ?_
  refine lv_lstore_n (lv' := [(2, .long 0), (0, .ref (a 1)), (1, .int v0)]) hx hb dX3_readBytes_1 rfl hl (by decide) rfl (fun ls hl => ?_)
  refine lv_iconst (v := 0) hx hb dX3_readBytes_2 (by decide) ?_
  refine lv_istore (lv' := [(4, .int 0), (2, .long 0), (0, .ref (a 1)), (1, .int v0)]) hx hb dX3_readBytes_3 hl (by decide) rfl (fun ls hl => ?_)
  exact (db_X3_readBytes_5 C K n) (v0) (0) (0) s0 _ _ _ h hP hD hS (lv_sub hl [2, 3, 1, 0] rfl)
set_option maxHeartbeats 40000000 in
set_option maxRecDepth 100000 in
theorem dm_X3_readBytes (l : Launch) (hlt : l.stackTraces = false) (dC : Nat → ClassId) (dI : Nat → Nat → Nat) (a : Nat → Nat) (ac : Nat → ClassId) (n : Nat) (v0 : Int32) (s0 : St × (St)) {r : Int64 × (St × (St))} (h : df_X3_readBytes n (a 0) v0 s0 = some r) (sz : Nat) : Met l yX3_readBytes ow_dm_X3_readBytes ({ frames := 2, cells := 0, slots := 0, locals := 42 }) (va_Pc [.ref (a 1), .int v0] (fun U => U.heap.size = sz ∧ va_P (dC, dI) vwCl (dw_X3s a ac s0) U.heap ∧ va_K (dC, dI) vwCl (dk_X3s ac) U ∧ va_D (fun _ => True) (dw_X3s a ac s0) ∧ nv_E dI (va_A (dw_X3s a ac s0) sz) U)) (va_Ql (fun x _ => x = r.1) (fun (_ : Unit) t => va_P (dC, dI) vwCl (dw_X3s a ac r.2) t.heap ∧ va_K (dC, dI) vwCl (dk_X3s ac) t ∧ va_D (va_A (dw_X3s a ac s0) sz) (dw_X3s a ac r.2)) (va_A (dw_X3s a ac s0) sz)) 0 0 (va_A (dw_X3s a ac s0) sz) := by
  refine Met.ofW (cc := cX3_readBytes) (maxL := 5) (ret := (some .long)) (by decide) rfl ?_
  intro p e s m args below meth c s₁ B hml hv
  obtain ⟨rfl, hsz, hP, hK, hD0, hN⟩ := hv
  have hx := B.exec
  have hb := B.bytes
  have hr := B.returns
  have hts := atoms_spec (ws := ow_dm_X3_readBytes) B.pre
  have hown : s.vm.findClass RX3 = some m.cls := findClass_of_methodNamed B.named
  have hlocks := B.notSynchronized
  subst hsz
  have hD := hD0.self (sz := s.heap.size)
  generalize hAe : va_A (dw_X3s a ac s0) s.heap.size = A at hD hN ⊢
  have hA : ∀ q : Nat, s.heap.size ≤ q → A q := fun q h => by rw [← hAe]; exact Or.inr h
  have hl := lv_entry ([.ref (a 1), .int v0]) (n := 5) (Nat.le_of_ble_eq_true rfl)
  rw [lg_entry_eq]
  generalize (lg_sl ([.ref (a 1), .int v0]) ++ List.replicate (5 - (lg_sl ([.ref (a 1), .int v0])).length) Slot.unset).toArray = ls at hl ⊢
  have hl : lv_has ls 5 [(0, .ref (a 1)), (1, .int v0)] := hl
  exact db_X3_readBytes_0 (dC := dC) (dI := dI) (a := a) (ac := ac) (n := n) (r := r) ⟨hlt, hx, hb, hml, hown, hts, hN, hA, hK⟩ (fun pc v τ H locs ls d er hP hD hS => by subst er; exact W.lret (v := v) hx hb hr (fun t ht hW => ⟨⟨v, (), rfl, rfl, by rw [ht]; exact hP, va_K.moved hW.alike hK, hD⟩, hS.F ht⟩) hS.2.2 d) v0 s0 _ _ _ h hP hD va_S.rf (lv_sub hl [0, 1] rfl)
def ow_dm_X3_readBrought : List Cond := Cond.code yX3_readBrought cX3_readBrought 13 none :: ([Cond.fieldLink RX3 44 "TimeMachine$Events" "place" "I", Cond.fieldLink RX3 95 "TimeMachine$Events" "fault" "I", Cond.methodLink RX3 133 yX3_add, Cond.instanceMethod yX3_add, Cond.selects RX3 yX3_add yX3_add, Cond.initialized RX3, Cond.methodLink RX3 137 yX3_readBytes, Cond.instanceMethod yX3_readBytes, Cond.selects RX3 yX3_readBytes yX3_readBytes, Cond.methodLink RX3 101 yX3_readVarint, Cond.instanceMethod yX3_readVarint, Cond.selects RX3 yX3_readVarint yX3_readVarint, Cond.fieldLink RX3 39 "TimeMachine$Events" "total" "I", Cond.methodLink RX3 80 yX3_latest, Cond.instanceMethod yX3_latest, Cond.selects RX3 yX3_latest yX3_latest, Cond.fieldLink RX3 17 "TimeMachine$Events" "a" "[J", Cond.methodLink RX3 107 yX3_blame, Cond.instanceMethod yX3_blame, Cond.selects RX3 yX3_blame yX3_blame, Cond.methodLink RX3 117 yX3_readByte, Cond.instanceMethod yX3_readByte, Cond.selects RX3 yX3_readByte yX3_readByte, Cond.fieldLink RX3 20 "TimeMachine$Events" "b" "[I"] ++ (u_ws RX3 TX3 11 ++ (ow_dm_X3_add ++ (ow_dm_X3_readBytes ++ (ow_dm_X3_readVarint ++ (ow_dm_X3_latest ++ (ow_dm_X3_blame ++ (ow_dm_X3_readByte ++ []))))))))
theorem gd_dm_X3_readBrought : ∀ w ∈ ow_dm_X3_readBrought, (w.onTables && w.keeps) = true ∨ ∃ ty, w = Cond.arrayClass ty := List.forall_mem_cons.mpr ⟨good_of_word rfl, List.forall_mem_append.mpr ⟨fun w h => good_of_word (List.all_eq_true.mp (by decide +kernel) w h), List.forall_mem_append.mpr ⟨gu_X3, List.forall_mem_append.mpr ⟨gd_dm_X3_add, List.forall_mem_append.mpr ⟨gd_dm_X3_readBytes, List.forall_mem_append.mpr ⟨gd_dm_X3_readVarint, List.forall_mem_append.mpr ⟨gd_dm_X3_latest, List.forall_mem_append.mpr ⟨gd_dm_X3_blame, List.forall_mem_append.mpr ⟨gd_dm_X3_readByte, fun _ h => nomatch h⟩⟩⟩⟩⟩⟩⟩⟩⟩
theorem hi_dm_X3_readBrought_X3 : ∀ w ∈ u_ws RX3 TX3 11, w ∈ ow_dm_X3_readBrought := fun w h => List.mem_cons_of_mem _ (List.mem_append_right _ (List.mem_append_left _ h))
theorem gi_dm_X3_readBrought_0 : GoodIn ow_dm_X3_readBrought (wsV RX3 133 RX3 yX3_add ow_dm_X3_add) := goodIn_app (goodIn_of _ (by decide +kernel)) (fun w h => ⟨List.mem_cons_of_mem _ (List.mem_append_right _ (List.mem_append_right _ (List.mem_append_left _ h))), gd_dm_X3_add w h⟩)
theorem gi_dm_X3_readBrought_1 : GoodIn ow_dm_X3_readBrought (wsV RX3 137 RX3 yX3_readBytes ow_dm_X3_readBytes) := goodIn_app (goodIn_of _ (by decide +kernel)) (fun w h => ⟨List.mem_cons_of_mem _ (List.mem_append_right _ (List.mem_append_right _ (List.mem_append_right _ (List.mem_append_left _ h)))), gd_dm_X3_readBytes w h⟩)
theorem gi_dm_X3_readBrought_2 : GoodIn ow_dm_X3_readBrought (wsV RX3 101 RX3 yX3_readVarint ow_dm_X3_readVarint) := goodIn_app (goodIn_of _ (by decide +kernel)) (fun w h => ⟨List.mem_cons_of_mem _ (List.mem_append_right _ (List.mem_append_right _ (List.mem_append_right _ (List.mem_append_right _ (List.mem_append_left _ h))))), gd_dm_X3_readVarint w h⟩)
theorem gi_dm_X3_readBrought_3 : GoodIn ow_dm_X3_readBrought (wsV RX3 80 RX3 yX3_latest ow_dm_X3_latest) := goodIn_app (goodIn_of _ (by decide +kernel)) (fun w h => ⟨List.mem_cons_of_mem _ (List.mem_append_right _ (List.mem_append_right _ (List.mem_append_right _ (List.mem_append_right _ (List.mem_append_right _ (List.mem_append_left _ h)))))), gd_dm_X3_latest w h⟩)
theorem gi_dm_X3_readBrought_4 : GoodIn ow_dm_X3_readBrought (wsV RX3 107 RX3 yX3_blame ow_dm_X3_blame) := goodIn_app (goodIn_of _ (by decide +kernel)) (fun w h => ⟨List.mem_cons_of_mem _ (List.mem_append_right _ (List.mem_append_right _ (List.mem_append_right _ (List.mem_append_right _ (List.mem_append_right _ (List.mem_append_right _ (List.mem_append_left _ h))))))), gd_dm_X3_blame w h⟩)
theorem gi_dm_X3_readBrought_5 : GoodIn ow_dm_X3_readBrought (wsV RX3 117 RX3 yX3_readByte ow_dm_X3_readByte) := goodIn_app (goodIn_of _ (by decide +kernel)) (fun w h => ⟨List.mem_cons_of_mem _ (List.mem_append_right _ (List.mem_append_right _ (List.mem_append_right _ (List.mem_append_right _ (List.mem_append_right _ (List.mem_append_right _ (List.mem_append_right _ (List.mem_append_left _ h)))))))), gd_dm_X3_readByte w h⟩)
def dj_X3_readBrought_235 (p : Program) (l : Launch) (e : Env) (s : State) (m : MethodId) (args : Array Value) (below : List Frame) (meth : Method) (c : Code) (Q : State → Prop) (A : Nat → Prop) (dC : Nat → ClassId) (dI : Nat → Nat → Nat) (a : Nat → Nat) (ac : Nat → ClassId) (g : (St × (St)) → Option (St × (St))) (r : St × (St)) : Prop := ∀ (s0 : St × (St)) (H : Heap) (locs : List Loc) (ls : Array Slot), g s0 = some r → va_P (dC, dI) vwCl (dw_X3s a ac s0) H → va_D A (dw_X3s a ac s0) → va_S A s.heap H locs → lv_has ls 13 [] → W p l e (headSpec ow_dm_X3_readBrought ({ frames := 3, cells := 0, slots := 0, locals := 66 })).room s m args below meth c H locs 0 0 Q (F0 m 235 ls [])
def dj_X3_readBrought_216 (p : Program) (l : Launch) (e : Env) (s : State) (m : MethodId) (args : Array Value) (below : List Frame) (meth : Method) (c : Code) (Q : State → Prop) (A : Nat → Prop) (dC : Nat → ClassId) (dI : Nat → Nat → Nat) (a : Nat → Nat) (ac : Nat → ClassId) (g : Int32 → Int64 → Int64 → Int32 → (St × (St)) → Option (St × (St))) (r : St × (St)) : Prop := ∀ (x2 : Int32) (x4 : Int64) (x6 : Int64) (x8 : Int32) (s0 : St × (St)) (H : Heap) (locs : List Loc) (ls : Array Slot), g x2 x4 x6 x8 s0 = some r → va_P (dC, dI) vwCl (dw_X3s a ac s0) H → va_D A (dw_X3s a ac s0) → va_S A s.heap H locs → lv_has ls 13 [(0, .ref (a 1)), (2, .int x2), (4, .long x4), (6, .long x6), (8, .int x8)] → W p l e (headSpec ow_dm_X3_readBrought ({ frames := 3, cells := 0, slots := 0, locals := 66 })).room s m args below meth c H locs 0 0 Q (F0 m 216 ls [])
def dj_X3_readBrought_190 (p : Program) (l : Launch) (e : Env) (s : State) (m : MethodId) (args : Array Value) (below : List Frame) (meth : Method) (c : Code) (Q : State → Prop) (A : Nat → Prop) (dC : Nat → ClassId) (dI : Nat → Nat → Nat) (a : Nat → Nat) (ac : Nat → ClassId) (g : Int32 → Int64 → Int64 → Int32 → (St × (St)) → Option (St × (St))) (r : St × (St)) : Prop := ∀ (x2 : Int32) (x4 : Int64) (x6 : Int64) (x8 : Int32) (s0 : St × (St)) (H : Heap) (locs : List Loc) (ls : Array Slot), g x2 x4 x6 x8 s0 = some r → va_P (dC, dI) vwCl (dw_X3s a ac s0) H → va_D A (dw_X3s a ac s0) → va_S A s.heap H locs → lv_has ls 13 [(0, .ref (a 1)), (2, .int x2), (4, .long x4), (6, .long x6), (8, .int x8)] → W p l e (headSpec ow_dm_X3_readBrought ({ frames := 3, cells := 0, slots := 0, locals := 66 })).room s m args below meth c H locs 0 0 Q (F0 m 190 ls [])
def dj_X3_readBrought_187 (p : Program) (l : Launch) (e : Env) (s : State) (m : MethodId) (args : Array Value) (below : List Frame) (meth : Method) (c : Code) (Q : State → Prop) (A : Nat → Prop) (dC : Nat → ClassId) (dI : Nat → Nat → Nat) (a : Nat → Nat) (ac : Nat → ClassId) (g : Int32 → Int64 → Int64 → Int32 → (St × (St)) → Option (St × (St))) (r : St × (St)) : Prop := ∀ (x2 : Int32) (x4 : Int64) (x6 : Int64) (x8 : Int32) (s0 : St × (St)) (H : Heap) (locs : List Loc) (ls : Array Slot), g x2 x4 x6 x8 s0 = some r → va_P (dC, dI) vwCl (dw_X3s a ac s0) H → va_D A (dw_X3s a ac s0) → va_S A s.heap H locs → lv_has ls 13 [(0, .ref (a 1)), (2, .int x2), (4, .long x4), (6, .long x6), (8, .int x8)] → W p l e (headSpec ow_dm_X3_readBrought ({ frames := 3, cells := 0, slots := 0, locals := 66 })).room s m args below meth c H locs 0 0 Q (F0 m 187 ls [])
def dj_X3_readBrought_132 (p : Program) (l : Launch) (e : Env) (s : State) (m : MethodId) (args : Array Value) (below : List Frame) (meth : Method) (c : Code) (Q : State → Prop) (A : Nat → Prop) (dC : Nat → ClassId) (dI : Nat → Nat → Nat) (a : Nat → Nat) (ac : Nat → ClassId) (g : Int32 → Int64 → Int64 → Int32 → Int32 → (St × (St)) → Option (St × (St))) (r : St × (St)) : Prop := ∀ (x2 : Int32) (x4 : Int64) (x6 : Int64) (x8 : Int32) (x9 : Int32) (s0 : St × (St)) (H : Heap) (locs : List Loc) (ls : Array Slot), g x2 x4 x6 x8 x9 s0 = some r → va_P (dC, dI) vwCl (dw_X3s a ac s0) H → va_D A (dw_X3s a ac s0) → va_S A s.heap H locs → lv_has ls 13 [(0, .ref (a 1)), (2, .int x2), (4, .long x4), (6, .long x6), (8, .int x8), (9, .int x9)] → W p l e (headSpec ow_dm_X3_readBrought ({ frames := 3, cells := 0, slots := 0, locals := 66 })).room s m args below meth c H locs 0 0 Q (F0 m 132 ls [])
def dj_X3_readBrought_90 (p : Program) (l : Launch) (e : Env) (s : State) (m : MethodId) (args : Array Value) (below : List Frame) (meth : Method) (c : Code) (Q : State → Prop) (A : Nat → Prop) (dC : Nat → ClassId) (dI : Nat → Nat → Nat) (a : Nat → Nat) (ac : Nat → ClassId) (g : Int32 → Int32 → Int32 → Int64 → Int64 → Int32 → Int32 → (St × (St)) → Option (St × (St))) (r : St × (St)) : Prop := ∀ (x1 : Int32) (x2 : Int32) (x3 : Int32) (x4 : Int64) (x6 : Int64) (x8 : Int32) (x9 : Int32) (s0 : St × (St)) (H : Heap) (locs : List Loc) (ls : Array Slot), g x1 x2 x3 x4 x6 x8 x9 s0 = some r → va_P (dC, dI) vwCl (dw_X3s a ac s0) H → va_D A (dw_X3s a ac s0) → va_S A s.heap H locs → lv_has ls 13 [(0, .ref (a 1)), (1, .int x1), (2, .int x2), (3, .int x3), (4, .long x4), (6, .long x6), (8, .int x8), (9, .int x9)] → W p l e (headSpec ow_dm_X3_readBrought ({ frames := 3, cells := 0, slots := 0, locals := 66 })).room s m args below meth c H locs 0 0 Q (F0 m 90 ls [])
def dj_X3_readBrought_87 (p : Program) (l : Launch) (e : Env) (s : State) (m : MethodId) (args : Array Value) (below : List Frame) (meth : Method) (c : Code) (Q : State → Prop) (A : Nat → Prop) (dC : Nat → ClassId) (dI : Nat → Nat → Nat) (a : Nat → Nat) (ac : Nat → ClassId) (g : Int32 → Int64 → Int64 → Int32 → (St × (St)) → Option (St × (St))) (r : St × (St)) : Prop := ∀ (x2 : Int32) (x4 : Int64) (x6 : Int64) (x8 : Int32) (s0 : St × (St)) (H : Heap) (locs : List Loc) (ls : Array Slot), g x2 x4 x6 x8 s0 = some r → va_P (dC, dI) vwCl (dw_X3s a ac s0) H → va_D A (dw_X3s a ac s0) → va_S A s.heap H locs → lv_has ls 13 [(0, .ref (a 1)), (2, .int x2), (4, .long x4), (6, .long x6), (8, .int x8)] → W p l e (headSpec ow_dm_X3_readBrought ({ frames := 3, cells := 0, slots := 0, locals := 66 })).room s m args below meth c H locs 0 0 Q (F0 m 87 ls [])
def dj_X3_readBrought_42 (p : Program) (l : Launch) (e : Env) (s : State) (m : MethodId) (args : Array Value) (below : List Frame) (meth : Method) (c : Code) (Q : State → Prop) (A : Nat → Prop) (dC : Nat → ClassId) (dI : Nat → Nat → Nat) (a : Nat → Nat) (ac : Nat → ClassId) (g : Int32 → Int32 → Int64 → Int64 → Int32 → Int64 → (St × (St)) → Option (St × (St))) (r : St × (St)) : Prop := ∀ (x1 : Int32) (x2 : Int32) (x4 : Int64) (x6 : Int64) (x8 : Int32) (x10 : Int64) (s0 : St × (St)) (H : Heap) (locs : List Loc) (ls : Array Slot), g x1 x2 x4 x6 x8 x10 s0 = some r → va_P (dC, dI) vwCl (dw_X3s a ac s0) H → va_D A (dw_X3s a ac s0) → va_S A s.heap H locs → lv_has ls 13 [(0, .ref (a 1)), (1, .int x1), (2, .int x2), (4, .long x4), (6, .long x6), (8, .int x8), (10, .long x10)] → W p l e (headSpec ow_dm_X3_readBrought ({ frames := 3, cells := 0, slots := 0, locals := 66 })).room s m args below meth c H locs 0 0 Q (F0 m 42 ls [])
def dj_X3_readBrought_0 (p : Program) (l : Launch) (e : Env) (s : State) (m : MethodId) (args : Array Value) (below : List Frame) (meth : Method) (c : Code) (Q : State → Prop) (A : Nat → Prop) (dC : Nat → ClassId) (dI : Nat → Nat → Nat) (a : Nat → Nat) (ac : Nat → ClassId) (g : Int32 → Int32 → Int32 → Int64 → (St × (St)) → Option (St × (St))) (r : St × (St)) : Prop := ∀ (v0 : Int32) (v1 : Int32) (v2 : Int32) (v3 : Int64) (s0 : St × (St)) (H : Heap) (locs : List Loc) (ls : Array Slot), g v0 v1 v2 v3 s0 = some r → va_P (dC, dI) vwCl (dw_X3s a ac s0) H → va_D A (dw_X3s a ac s0) → va_S A s.heap H locs → lv_has ls 13 [(0, .ref (a 1)), (1, .int v0), (2, .int v1), (3, .int v2), (4, .long v3)] → W p l e (headSpec ow_dm_X3_readBrought ({ frames := 3, cells := 0, slots := 0, locals := 66 })).room s m args below meth c H locs 0 0 Q (F0 m 0 ls [])
set_option maxHeartbeats 40000000 in
set_option maxRecDepth 100000 in
theorem db_X3_readBrought_235 {p : Program} {l : Launch} {e : Env} {s : State} {m : MethodId} {args : Array Value} {below : List Frame} {meth : Method} {c : Code} {Q : State → Prop} {A : Nat → Prop} {dC : Nat → ClassId} {dI : Nat → Nat → Nat} {a : Nat → Nat} {ac : Nat → ClassId} {n : Nat} {r : St × (St)} (C : nd_C p l s m args c A (dC, dI) cX3_readBrought 13 RX3 ow_dm_X3_readBrought (dk_X3s ac)) (K : nd_Kv p l e (headSpec ow_dm_X3_readBrought ({ frames := 3, cells := 0, slots := 0, locals := 66 })).room s m args below meth c Q A (dC, dI) cX3_readBrought (St × (St)) (dw_X3s a ac) r) : dj_X3_readBrought_235 p l e s m args below meth c Q A dC dI a ac (df_X3_readBrought_235 n (a 0)) r := by
  obtain ⟨hlt, hx, hb, hml, hown, hts, hN, hA, hK⟩ := id C
  intro s0 H locs ls h hP hD hS hl
  unfold df_X3_readBrought_235 at h
  exact K _ _ _ _ _ dX3_readBrought_235 (Option.some.inj h).symm hP hD hS
set_option maxHeartbeats 40000000 in
set_option maxRecDepth 100000 in
theorem db_X3_readBrought_216 {p : Program} {l : Launch} {e : Env} {s : State} {m : MethodId} {args : Array Value} {below : List Frame} {meth : Method} {c : Code} {Q : State → Prop} {A : Nat → Prop} {dC : Nat → ClassId} {dI : Nat → Nat → Nat} {a : Nat → Nat} {ac : Nat → ClassId} {n : Nat} {r : St × (St)} (C : nd_C p l s m args c A (dC, dI) cX3_readBrought 13 RX3 ow_dm_X3_readBrought (dk_X3s ac)) (K : nd_Kv p l e (headSpec ow_dm_X3_readBrought ({ frames := 3, cells := 0, slots := 0, locals := 66 })).room s m args below meth c Q A (dC, dI) cX3_readBrought (St × (St)) (dw_X3s a ac) r) : dj_X3_readBrought_216 p l e s m args below meth c Q A dC dI a ac (df_X3_readBrought_216 n (a 0)) r := by
  obtain ⟨hlt, hx, hb, hml, hown, hts, hN, hA, hK⟩ := id C
  intro x2 x4 x6 x8 s0 H locs ls h hP hD hS hl
  unfold df_X3_readBrought_216 at h
  refine lv_aload_n hx hb dX3_readBrought_216 rfl (lv_at hl 0 rfl) ?_
  refine va_get (D := (dC, dI)) (ci := 4) (v := .int (sI s0.2 4)) (C := RX3) (T := TX3) (N := 11) hx hb hts hi_dm_X3_readBrought_X3 hown hK hP 1 rfl rfl 9 (by decide) (hts (.fieldLink RX3 95 "TimeMachine$Events" "fault" "I") (List.mem_of_getElem? (i := 2) rfl)) (fun _ h9 => h9) rfl dX3_readBrought_217 ?_
  refine lv_if_ne (tgt := 235) hx hb dX3_readBrought_220 (by decide) (fun c9 => ?_) (fun c9 => ?_)
  · have h := nd_neg h c9
    exact (db_X3_readBrought_235 C K)  s0 _ _ _ h hP hD hS (lv_sub hl [] rfl)
  · have h := nd_pos h c9
    refine lv_aload_n hx hb dX3_readBrought_223 rfl (lv_at hl 0 rfl) ?_
    refine lv_iload_n hx hb dX3_readBrought_224 rfl (lv_at hl 1 rfl) ?_
    refine lv_lload hx hb dX3_readBrought_225 (lv_at hl 2 rfl) ?_
    refine lv_lload hx hb dX3_readBrought_227 (lv_at hl 3 rfl) ?_
    refine lv_iload hx hb dX3_readBrought_229 (lv_at hl 4 rfl) ?_
    obtain ⟨q10, s11, hq, h⟩ := nd_b2_e h
    have hPc := dp_X3s_1 hP
    have hDc := dd_X3s_1 hD
    have hKc := dy_X3s_1 hK
    have hFc := nd_rs hDc hS hA
    have hzA : ∀ q : Nat, H.size ≤ q → A q := fun q h => hA q (Nat.le_trans hS.1 h)
    refine nd_cVi (As := [.int x2, .long x4, .long x6, .int x8]) (rest := []) (q := q10) (w' := dw_X3c (fun k => a (k + 1)) (fun k => ac (k + 1)) s11) ⟨hx, hb, hml, hown, hts⟩ (fun sz => dm_X3_add l hlt dC dI (fun k => a (k + 1)) (fun k => ac (k + 1)) n (x2) (x4) (x6) (x8) s0.2 hq sz) (cwV 4 hts gi_dm_X3_readBrought_0 rfl rfl rfl (by decide +kernel) ⟨Nat.le_of_ble_eq_true rfl, Nat.le_of_ble_eq_true rfl⟩) hPc hDc hKc hS hA hN (va_recv hKc hPc (ci := 4) (q0 := 0) rfl rfl) rfl hl.1 rfl (Nat.le_of_ble_eq_true rfl) dX3_readBrought_231 (fun H locs hP1 hD1 hk1 hS => ?_)
    obtain ⟨hP, hD⟩ := dn_X3s_1 hP hD hzA hk1 hP1 hD1
    obtain ⟨s13, es13, h⟩ := nd_let_e h
    have hP : va_P (dC, dI) vwCl (dw_X3s a ac s13) H := by rw [es13]; exact hP
    have hD : va_D A (dw_X3s a ac s13) := by rw [es13]; exact hD
    refine lv_pop hx hb dX3_readBrought_234 rfl ?_
    exact (db_X3_readBrought_235 C K)  s13 _ _ _ h hP hD hS (lv_sub hl [] rfl)
set_option maxHeartbeats 40000000 in
set_option maxRecDepth 100000 in
theorem db_X3_readBrought_190 {p : Program} {l : Launch} {e : Env} {s : State} {m : MethodId} {args : Array Value} {below : List Frame} {meth : Method} {c : Code} {Q : State → Prop} {A : Nat → Prop} {dC : Nat → ClassId} {dI : Nat → Nat → Nat} {a : Nat → Nat} {ac : Nat → ClassId} {n : Nat} {r : St × (St)} (C : nd_C p l s m args c A (dC, dI) cX3_readBrought 13 RX3 ow_dm_X3_readBrought (dk_X3s ac)) (K : nd_Kv p l e (headSpec ow_dm_X3_readBrought ({ frames := 3, cells := 0, slots := 0, locals := 66 })).room s m args below meth c Q A (dC, dI) cX3_readBrought (St × (St)) (dw_X3s a ac) r) : dj_X3_readBrought_190 p l e s m args below meth c Q A dC dI a ac (df_X3_readBrought_190 n (a 0)) r := by
  obtain ⟨hlt, hx, hb, hml, hown, hts, hN, hA, hK⟩ := id C
  intro x2 x4 x6 x8 s0 H locs ls h hP hD hS hl
  unfold df_X3_readBrought_190 at h
  refine lv_iload_n hx hb dX3_readBrought_190 rfl (lv_at hl 1 rfl) ?_
  refine lv_iconst (v := 3) hx hb dX3_readBrought_191 (by decide) ?_
  refine lv_icmp_ne (tgt := 204) hx hb dX3_readBrought_192 (by decide) (fun c7 => ?_) (fun c7 => ?_)
  · have h := nd_neg h c7
    refine lv_iload_n hx hb dX3_readBrought_204 rfl (lv_at hl 1 rfl) ?_
    refine lv_iconst (v := 4) hx hb dX3_readBrought_205 (by decide) ?_
    refine lv_icmp_ne (tgt := 216) hx hb dX3_readBrought_206 (by decide) (fun c8 => ?_) (fun c8 => ?_)
    · have h := nd_neg h c8
      exact (db_X3_readBrought_216 C K) (x2) (x4) (x6) (x8) s0 _ _ _ h hP hD hS (lv_sub hl [0, 1, 2, 3, 4] rfl)
    · have h := nd_pos h c8
      refine lv_aload_n hx hb dX3_readBrought_209 rfl (lv_at hl 0 rfl) ?_
      refine lv_iconst (v := 4) hx hb dX3_readBrought_210 (by decide) ?_
      obtain ⟨q14, s15, hq, h⟩ := nd_b2_e h
      have hPc := hP
      have hDc := hD
      have hKc := hK
      have hFc := nd_rs hD hS hA
      refine nd_cVl (As := [.int 4]) (rest := []) (q := q14) (w' := dw_X3s a ac s15) ⟨hx, hb, hml, hown, hts⟩ (fun sz => dm_X3_readBytes l hlt dC dI a ac n (4) s0 hq sz) (cwV 1 hts gi_dm_X3_readBrought_1 rfl rfl rfl (by decide +kernel) ⟨Nat.le_of_ble_eq_true rfl, Nat.le_of_ble_eq_true rfl⟩) hPc hDc hKc hS hA hN (va_recv hKc hPc (ci := 4) (q0 := 1) rfl rfl) rfl hl.1 rfl (Nat.le_of_ble_eq_true rfl) dX3_readBrought_211 (fun H locs hP1 hD1 hk1 hS => ?_)
      have hP := hP1
      have hD := hD1.weaken (fun k q _ h => hFc q.1 h)
      refine lv_lstore (lv' := [(6, .long q14), (0, .ref (a 1)), (2, .int x2), (4, .long x4), (8, .int x8)]) hx hb dX3_readBrought_214 hl (by decide) rfl (fun ls hl => ?_)
      exact (db_X3_readBrought_216 C K) (x2) (x4) (q14) (x8) s15 _ _ _ h hP hD hS (lv_sub hl [1, 2, 3, 0, 4] rfl)
  · have h := nd_pos h c7
    refine lv_aload_n hx hb dX3_readBrought_195 rfl (lv_at hl 0 rfl) ?_
    obtain ⟨q17, s18, hq, h⟩ := nd_b2_e h
    have hPc := hP
    have hDc := hD
    have hKc := hK
    have hFc := nd_rs hD hS hA
    refine nd_cVl (As := []) (rest := []) (q := q17) (w' := dw_X3s a ac s18) ⟨hx, hb, hml, hown, hts⟩ (fun sz => dm_X3_readVarint l hlt dC dI a ac n  s0 hq sz) (cwV 0 hts gi_dm_X3_readBrought_2 rfl rfl rfl (by decide +kernel) ⟨Nat.le_of_ble_eq_true rfl, Nat.le_of_ble_eq_true rfl⟩) hPc hDc hKc hS hA hN (va_recv hKc hPc (ci := 4) (q0 := 1) rfl rfl) rfl hl.1 rfl (Nat.le_of_ble_eq_true rfl) dX3_readBrought_196 (fun H locs hP1 hD1 hk1 hS => ?_)
    have hP := hP1
    have hD := hD1.weaken (fun k q _ h => hFc q.1 h)
    refine lv_lstore (lv' := [(6, .long q17), (0, .ref (a 1)), (2, .int x2), (4, .long x4), (8, .int x8)]) hx hb dX3_readBrought_199 hl (by decide) rfl (fun ls hl => ?_)
    refine lv_goto (tgt := 216) hx hb dX3_readBrought_201 (by decide) ?_
    exact (db_X3_readBrought_216 C K) (x2) (x4) (q17) (x8) s18 _ _ _ h hP hD hS (lv_sub hl [1, 2, 3, 0, 4] rfl)
set_option maxHeartbeats 40000000 in
set_option maxRecDepth 100000 in
theorem db_X3_readBrought_187 {p : Program} {l : Launch} {e : Env} {s : State} {m : MethodId} {args : Array Value} {below : List Frame} {meth : Method} {c : Code} {Q : State → Prop} {A : Nat → Prop} {dC : Nat → ClassId} {dI : Nat → Nat → Nat} {a : Nat → Nat} {ac : Nat → ClassId} {n : Nat} {r : St × (St)} (C : nd_C p l s m args c A (dC, dI) cX3_readBrought 13 RX3 ow_dm_X3_readBrought (dk_X3s ac)) (K : nd_Kv p l e (headSpec ow_dm_X3_readBrought ({ frames := 3, cells := 0, slots := 0, locals := 66 })).room s m args below meth c Q A (dC, dI) cX3_readBrought (St × (St)) (dw_X3s a ac) r) : dj_X3_readBrought_187 p l e s m args below meth c Q A dC dI a ac (df_X3_readBrought_187 n (a 0)) r := by
  obtain ⟨hlt, hx, hb, hml, hown, hts, hN, hA, hK⟩ := id C
  intro x2 x4 x6 x8 s0 H locs ls h hP hD hS hl
  unfold df_X3_readBrought_187 at h
  refine lv_goto (tgt := 216) hx hb dX3_readBrought_187 (by decide) ?_
  exact (db_X3_readBrought_216 C K) (x2) (x4) (x6) (x8) s0 _ _ _ h hP hD hS (lv_sub hl [0, 1, 2, 3, 4] rfl)
set_option maxHeartbeats 40000000 in
set_option maxRecDepth 100000 in
theorem db_X3_readBrought_132 {p : Program} {l : Launch} {e : Env} {s : State} {m : MethodId} {args : Array Value} {below : List Frame} {meth : Method} {c : Code} {Q : State → Prop} {A : Nat → Prop} {dC : Nat → ClassId} {dI : Nat → Nat → Nat} {a : Nat → Nat} {ac : Nat → ClassId} {n : Nat} {r : St × (St)} (C : nd_C p l s m args c A (dC, dI) cX3_readBrought 13 RX3 ow_dm_X3_readBrought (dk_X3s ac)) (K : nd_Kv p l e (headSpec ow_dm_X3_readBrought ({ frames := 3, cells := 0, slots := 0, locals := 66 })).room s m args below meth c Q A (dC, dI) cX3_readBrought (St × (St)) (dw_X3s a ac) r) : dj_X3_readBrought_132 p l e s m args below meth c Q A dC dI a ac (df_X3_readBrought_132 n (a 0)) r := by
  obtain ⟨hlt, hx, hb, hml, hown, hts, hN, hA, hK⟩ := id C
  intro x2 x4 x6 x8 x9 s0 H locs ls h hP hD hS hl
  unfold df_X3_readBrought_132 at h
  refine lv_aload_n hx hb dX3_readBrought_132 rfl (lv_at hl 0 rfl) ?_
  refine lv_iconst (v := 5) hx hb dX3_readBrought_133 (by decide) ?_
  refine lv_iload hx hb dX3_readBrought_134 (lv_at hl 5 rfl) ?_
  obtain ⟨s37, hq, h⟩ := nd_b1_e h
  have hPc := dp_X3s_1 hP
  have hDc := dd_X3s_1 hD
  have hKc := dy_X3s_1 hK
  have hFc := nd_rs hDc hS hA
  have hzA : ∀ q : Nat, H.size ≤ q → A q := fun q h => hA q (Nat.le_trans hS.1 h)
  refine nd_cVv (As := [.int 5, .int x9]) (rest := []) (w' := dw_X3c (fun k => a (k + 1)) (fun k => ac (k + 1)) s37) ⟨hx, hb, hml, hown, hts⟩ (fun sz => dm_X3_blame l hlt dC dI (fun k => a (k + 1)) (fun k => ac (k + 1)) n (5) (x9) s0.2 hq sz) (cwV 2 hts gi_dm_X3_readBrought_4 rfl rfl rfl (by decide +kernel) ⟨Nat.le_of_ble_eq_true rfl, Nat.le_of_ble_eq_true rfl⟩) hPc hDc hKc hS hA hN (va_recv hKc hPc (ci := 4) (q0 := 0) rfl rfl) rfl hl.1 rfl (Nat.le_of_ble_eq_true rfl) dX3_readBrought_136 (fun H locs hP1 hD1 hk1 hS => ?_)
  obtain ⟨hP, hD⟩ := dn_X3s_1 hP hD hzA hk1 hP1 hD1
  obtain ⟨s39, es39, h⟩ := nd_let_e h
  have hP : va_P (dC, dI) vwCl (dw_X3s a ac s39) H := by rw [es39]; exact hP
  have hD : va_D A (dw_X3s a ac s39) := by rw [es39]; exact hD
  refine lv_goto (tgt := 216) hx hb dX3_readBrought_139 (by decide) ?_
  exact (db_X3_readBrought_216 C K) (x2) (x4) (x6) (x8) s39 _ _ _ h hP hD hS (lv_sub hl [0, 1, 2, 3, 4] rfl)
set_option maxHeartbeats 40000000 in
set_option maxRecDepth 100000 in
theorem db_X3_readBrought_90 {p : Program} {l : Launch} {e : Env} {s : State} {m : MethodId} {args : Array Value} {below : List Frame} {meth : Method} {c : Code} {Q : State → Prop} {A : Nat → Prop} {dC : Nat → ClassId} {dI : Nat → Nat → Nat} {a : Nat → Nat} {ac : Nat → ClassId} {n : Nat} {r : St × (St)} (C : nd_C p l s m args c A (dC, dI) cX3_readBrought 13 RX3 ow_dm_X3_readBrought (dk_X3s ac)) (K : nd_Kv p l e (headSpec ow_dm_X3_readBrought ({ frames := 3, cells := 0, slots := 0, locals := 66 })).room s m args below meth c Q A (dC, dI) cX3_readBrought (St × (St)) (dw_X3s a ac) r) : dj_X3_readBrought_90 p l e s m args below meth c Q A dC dI a ac (df_X3_readBrought_90 n (a 0)) r := by
  obtain ⟨hlt, hx, hb, hml, hown, hts, hN, hA, hK⟩ := id C
  intro x1 x2 x3 x4 x6 x8 x9 s0 H locs ls h hP hD hS hl
  unfold df_X3_readBrought_90 at h
  refine lv_iload_n hx hb dX3_readBrought_90 rfl (lv_at hl 2 rfl) ?_
  refine lv_iconst (v := 1) hx hb dX3_readBrought_91 (by decide) ?_
  refine lv_icmp_ne (tgt := 108) hx hb dX3_readBrought_92 (by decide) (fun c4 => ?_) (fun c4 => ?_)
  · have h := nd_neg h c4
    refine lv_iload_n hx hb dX3_readBrought_108 rfl (lv_at hl 2 rfl) ?_
    refine lv_iconst (v := 2) hx hb dX3_readBrought_109 (by decide) ?_
    refine lv_icmp_ne (tgt := 142) hx hb dX3_readBrought_110 (by decide) (fun c5 => ?_) (fun c5 => ?_)
    · have h := nd_neg h c5
      refine lv_iload_n hx hb dX3_readBrought_142 rfl (lv_at hl 2 rfl) ?_
      refine lv_iconst (v := 3) hx hb dX3_readBrought_143 (by decide) ?_
      refine lv_icmp_ne (tgt := 190) hx hb dX3_readBrought_144 (by decide) (fun c6 => ?_) (fun c6 => ?_)
      · have h := nd_neg h c6
        exact (db_X3_readBrought_190 C K) (x2) (x4) (x6) (x8) s0 _ _ _ h hP hD hS (lv_sub hl [0, 2, 4, 5, 6] rfl)
      · have h := nd_pos h c6
        refine lv_iload_n hx hb dX3_readBrought_147 rfl (lv_at hl 3 rfl) ?_
        refine lv_iconst (v := 1) hx hb dX3_readBrought_148 (by decide) ?_
        refine lv_icmp_ne (tgt := 190) hx hb dX3_readBrought_149 (by decide) (fun c20 => ?_) (fun c20 => ?_)
        · have h := nd_neg h c20
          exact (db_X3_readBrought_190 C K) (x2) (x4) (x6) (x8) s0 _ _ _ h hP hD hS (lv_sub hl [0, 2, 4, 5, 6] rfl)
        · have h := nd_pos h c20
          refine lv_aload_n hx hb dX3_readBrought_152 rfl (lv_at hl 0 rfl) ?_
          refine lv_iconst (v := 3) hx hb dX3_readBrought_153 (by decide) ?_
          refine lv_lconst (v := 1) hx hb dX3_readBrought_154 (by decide) ?_
          refine lv_aload_n hx hb dX3_readBrought_155 rfl (lv_at hl 0 rfl) ?_
          refine va_get (D := (dC, dI)) (ci := 4) (v := .int (sI s0.2 1)) (C := RX3) (T := TX3) (N := 11) hx hb hts hi_dm_X3_readBrought_X3 hown hK hP 1 rfl rfl 5 (by decide) (hts (.fieldLink RX3 39 "TimeMachine$Events" "total" "I") (List.mem_of_getElem? (i := 13) rfl)) (fun _ h9 => h9) rfl dX3_readBrought_156 ?_
          obtain ⟨q21, s22, hq, h⟩ := nd_b2_e h
          have hPc := dp_X3s_1 hP
          have hDc := dd_X3s_1 hD
          have hKc := dy_X3s_1 hK
          have hFc := nd_rs hDc hS hA
          have hzA : ∀ q : Nat, H.size ≤ q → A q := fun q h => hA q (Nat.le_trans hS.1 h)
          refine nd_cVi (As := [.int 3, .long 1, .int (sI s0.2 1)]) (rest := []) (q := q21) (w' := dw_X3c (fun k => a (k + 1)) (fun k => ac (k + 1)) s22) ⟨hx, hb, hml, hown, hts⟩ (fun sz => dm_X3_latest l hlt dC dI (fun k => a (k + 1)) (fun k => ac (k + 1)) n (3) (1) ((sI s0.2 1)) s0.2 hq sz) (cwV 3 hts gi_dm_X3_readBrought_3 rfl rfl rfl (by decide +kernel) ⟨Nat.le_of_ble_eq_true rfl, Nat.le_of_ble_eq_true rfl⟩) hPc hDc hKc hS hA hN (va_recv hKc hPc (ci := 4) (q0 := 0) rfl rfl) rfl hl.1 rfl (Nat.le_of_ble_eq_true rfl) dX3_readBrought_159 (fun H locs hP1 hD1 hk1 hS => ?_)
          obtain ⟨hP, hD⟩ := dn_X3s_1 hP hD hzA hk1 hP1 hD1
          obtain ⟨s24, es24, h⟩ := nd_let_e h
          have hP : va_P (dC, dI) vwCl (dw_X3s a ac s24) H := by rw [es24]; exact hP
          have hD : va_D A (dw_X3s a ac s24) := by rw [es24]; exact hD
          refine lv_istore (lv' := [(10, .int q21), (0, .ref (a 1)), (1, .int x1), (2, .int x2), (3, .int x3), (4, .long x4), (6, .long x6), (8, .int x8), (9, .int x9)]) hx hb dX3_readBrought_162 hl (by decide) rfl (fun ls hl => ?_)
          refine lv_iload hx hb dX3_readBrought_164 (lv_at hl 0 rfl) ?_
          refine lv_if_ge (tgt := 178) hx hb dX3_readBrought_166 (by decide) (fun c25 => ?_) (fun c25 => ?_)
          · have h := nd_pos h c25
            refine lv_aload_n hx hb dX3_readBrought_178 rfl (lv_at hl 1 rfl) ?_
            refine va_get (D := (dC, dI)) (ci := 4) (v := .ref (a 4)) (C := RX3) (T := TX3) (N := 11) hx hb hts hi_dm_X3_readBrought_X3 hown hK hP 1 rfl rfl 2 (by decide) (hts (.fieldLink RX3 17 "TimeMachine$Events" "a" "[J") (List.mem_of_getElem? (i := 17) rfl)) (fun _ h9 => h9) rfl dX3_readBrought_179 ?_
            refine lv_iload hx hb dX3_readBrought_182 (lv_at hl 0 rfl) ?_
            obtain ⟨i26, h⟩ := nd_ck_e h
            refine va_lald (i := q21) hx hb hK hP 4 3 rfl rfl i26 dX3_readBrought_184 ?_
            refine lv_topl (fun z27 ez27 => ?_)
            have h := nd_at h ez27
            refine lv_lstore (lv' := [(6, .long z27), (10, .int q21), (0, .ref (a 1)), (1, .int x1), (2, .int x2), (3, .int x3), (4, .long x4), (8, .int x8), (9, .int x9)]) hx hb dX3_readBrought_185 hl (by decide) rfl (fun ls hl => ?_)
            exact (db_X3_readBrought_187 C K) (x2) (x4) (z27) (x8) s24 _ _ _ h hP hD hS (lv_sub hl [2, 4, 6, 0, 7] rfl)
          · have h := nd_neg h c25
            refine lv_aload_n hx hb dX3_readBrought_169 rfl (lv_at hl 1 rfl) ?_
            refine lv_iconst (v := 4) hx hb dX3_readBrought_170 (by decide) ?_
            refine lv_iload_n hx hb dX3_readBrought_171 rfl (lv_at hl 2 rfl) ?_
            obtain ⟨s29, hq, h⟩ := nd_b1_e h
            have hPc := dp_X3s_1 hP
            have hDc := dd_X3s_1 hD
            have hKc := dy_X3s_1 hK
            have hFc := nd_rs hDc hS hA
            have hzA : ∀ q : Nat, H.size ≤ q → A q := fun q h => hA q (Nat.le_trans hS.1 h)
            refine nd_cVv (As := [.int 4, .int x1]) (rest := []) (w' := dw_X3c (fun k => a (k + 1)) (fun k => ac (k + 1)) s29) ⟨hx, hb, hml, hown, hts⟩ (fun sz => dm_X3_blame l hlt dC dI (fun k => a (k + 1)) (fun k => ac (k + 1)) n (4) (x1) s24.2 hq sz) (cwV 2 hts gi_dm_X3_readBrought_4 rfl rfl rfl (by decide +kernel) ⟨Nat.le_of_ble_eq_true rfl, Nat.le_of_ble_eq_true rfl⟩) hPc hDc hKc hS hA hN (va_recv hKc hPc (ci := 4) (q0 := 0) rfl rfl) rfl hl.1 rfl (Nat.le_of_ble_eq_true rfl) dX3_readBrought_172 (fun H locs hP1 hD1 hk1 hS => ?_)
            obtain ⟨hP, hD⟩ := dn_X3s_1 hP hD hzA hk1 hP1 hD1
            obtain ⟨s31, es31, h⟩ := nd_let_e h
            have hP : va_P (dC, dI) vwCl (dw_X3s a ac s31) H := by rw [es31]; exact hP
            have hD : va_D A (dw_X3s a ac s31) := by rw [es31]; exact hD
            refine lv_goto (tgt := 187) hx hb dX3_readBrought_175 (by decide) ?_
            exact (db_X3_readBrought_187 C K) (x2) (x4) (x6) (x8) s31 _ _ _ h hP hD hS (lv_sub hl [1, 3, 5, 6, 7] rfl)
    · have h := nd_pos h c5
      refine lv_aload_n hx hb dX3_readBrought_113 rfl (lv_at hl 0 rfl) ?_
      obtain ⟨q32, s33, hq, h⟩ := nd_b2_e h
      have hPc := hP
      have hDc := hD
      have hKc := hK
      have hFc := nd_rs hD hS hA
      refine nd_cVi (As := []) (rest := []) (q := q32) (w' := dw_X3s a ac s33) ⟨hx, hb, hml, hown, hts⟩ (fun sz => dm_X3_readByte l hlt dC dI a ac n  s0 hq sz) (cwV 0 hts gi_dm_X3_readBrought_5 rfl rfl rfl (by decide +kernel) ⟨Nat.le_of_ble_eq_true rfl, Nat.le_of_ble_eq_true rfl⟩) hPc hDc hKc hS hA hN (va_recv hKc hPc (ci := 4) (q0 := 1) rfl rfl) rfl hl.1 rfl (Nat.le_of_ble_eq_true rfl) dX3_readBrought_114 (fun H locs hP1 hD1 hk1 hS => ?_)
      have hP := hP1
      have hD := hD1.weaken (fun k q _ h => hFc q.1 h)
      refine lv_istore (lv' := [(8, .int q32), (0, .ref (a 1)), (1, .int x1), (2, .int x2), (3, .int x3), (4, .long x4), (6, .long x6), (9, .int x9)]) hx hb dX3_readBrought_117 hl (by decide) rfl (fun ls hl => ?_)
      refine lv_iload hx hb dX3_readBrought_119 (lv_at hl 0 rfl) ?_
      refine lv_iconst (v := 1) hx hb dX3_readBrought_121 (by decide) ?_
      refine lv_icmp_lt (tgt := 132) hx hb dX3_readBrought_122 (by decide) (fun c35 => ?_) (fun c35 => ?_)
      · have h := nd_pos h c35
        exact (db_X3_readBrought_132 C K) (x2) (x4) (x6) (q32) (x9) s33 _ _ _ h hP hD hS (lv_sub hl [1, 3, 5, 6, 0, 7] rfl)
      · have h := nd_neg h c35
        refine lv_iload hx hb dX3_readBrought_125 (lv_at hl 0 rfl) ?_
        refine lv_bipush (v := 31) hx hb dX3_readBrought_127 (by decide) ?_
        refine lv_icmp_le (tgt := 216) hx hb dX3_readBrought_129 (by decide) (fun c40 => ?_) (fun c40 => ?_)
        · have h := nd_pos h c40
          exact (db_X3_readBrought_216 C K) (x2) (x4) (x6) (q32) s33 _ _ _ h hP hD hS (lv_sub hl [1, 3, 5, 6, 0] rfl)
        · have h := nd_neg h c40
          exact (db_X3_readBrought_132 C K) (x2) (x4) (x6) (q32) (x9) s33 _ _ _ h hP hD hS (lv_sub hl [1, 3, 5, 6, 0, 7] rfl)
  · have h := nd_pos h c4
    refine lv_aload_n hx hb dX3_readBrought_95 rfl (lv_at hl 0 rfl) ?_
    refine lv_iload_n hx hb dX3_readBrought_96 rfl (lv_at hl 3 rfl) ?_
    obtain ⟨q41, s42, hq, h⟩ := nd_b2_e h
    have hPc := hP
    have hDc := hD
    have hKc := hK
    have hFc := nd_rs hD hS hA
    refine nd_cVl (As := [.int x3]) (rest := []) (q := q41) (w' := dw_X3s a ac s42) ⟨hx, hb, hml, hown, hts⟩ (fun sz => dm_X3_readBytes l hlt dC dI a ac n (x3) s0 hq sz) (cwV 1 hts gi_dm_X3_readBrought_1 rfl rfl rfl (by decide +kernel) ⟨Nat.le_of_ble_eq_true rfl, Nat.le_of_ble_eq_true rfl⟩) hPc hDc hKc hS hA hN (va_recv hKc hPc (ci := 4) (q0 := 1) rfl rfl) rfl hl.1 rfl (Nat.le_of_ble_eq_true rfl) dX3_readBrought_97 (fun H locs hP1 hD1 hk1 hS => ?_)
    have hP := hP1
    have hD := hD1.weaken (fun k q _ h => hFc q.1 h)
    refine lv_lstore (lv' := [(6, .long q41), (0, .ref (a 1)), (1, .int x1), (2, .int x2), (3, .int x3), (4, .long x4), (8, .int x8), (9, .int x9)]) hx hb dX3_readBrought_100 hl (by decide) rfl (fun ls hl => ?_)
    refine lv_iload_n hx hb dX3_readBrought_102 rfl (lv_at hl 4 rfl) ?_
    refine lv_istore (lv' := [(8, .int x3), (6, .long q41), (0, .ref (a 1)), (1, .int x1), (2, .int x2), (3, .int x3), (4, .long x4), (9, .int x9)]) hx hb dX3_readBrought_103 hl (by decide) rfl (fun ls hl => ?_)
    refine lv_goto (tgt := 216) hx hb dX3_readBrought_105 (by decide) ?_
    exact (db_X3_readBrought_216 C K) (x2) (x4) (q41) (x3) s42 _ _ _ h hP hD hS (lv_sub hl [2, 4, 6, 1, 0] rfl)
set_option maxHeartbeats 40000000 in
set_option maxRecDepth 100000 in
theorem db_X3_readBrought_87 {p : Program} {l : Launch} {e : Env} {s : State} {m : MethodId} {args : Array Value} {below : List Frame} {meth : Method} {c : Code} {Q : State → Prop} {A : Nat → Prop} {dC : Nat → ClassId} {dI : Nat → Nat → Nat} {a : Nat → Nat} {ac : Nat → ClassId} {n : Nat} {r : St × (St)} (C : nd_C p l s m args c A (dC, dI) cX3_readBrought 13 RX3 ow_dm_X3_readBrought (dk_X3s ac)) (K : nd_Kv p l e (headSpec ow_dm_X3_readBrought ({ frames := 3, cells := 0, slots := 0, locals := 66 })).room s m args below meth c Q A (dC, dI) cX3_readBrought (St × (St)) (dw_X3s a ac) r) : dj_X3_readBrought_87 p l e s m args below meth c Q A dC dI a ac (df_X3_readBrought_87 n (a 0)) r := by
  obtain ⟨hlt, hx, hb, hml, hown, hts, hN, hA, hK⟩ := id C
  intro x2 x4 x6 x8 s0 H locs ls h hP hD hS hl
  unfold df_X3_readBrought_87 at h
  refine lv_goto (tgt := 216) hx hb dX3_readBrought_87 (by decide) ?_
  exact (db_X3_readBrought_216 C K) (x2) (x4) (x6) (x8) s0 _ _ _ h hP hD hS (lv_sub hl [0, 1, 2, 3, 4] rfl)
set_option maxHeartbeats 40000000 in
set_option maxRecDepth 100000 in
theorem db_X3_readBrought_42 {p : Program} {l : Launch} {e : Env} {s : State} {m : MethodId} {args : Array Value} {below : List Frame} {meth : Method} {c : Code} {Q : State → Prop} {A : Nat → Prop} {dC : Nat → ClassId} {dI : Nat → Nat → Nat} {a : Nat → Nat} {ac : Nat → ClassId} {n : Nat} {r : St × (St)} (C : nd_C p l s m args c A (dC, dI) cX3_readBrought 13 RX3 ow_dm_X3_readBrought (dk_X3s ac)) (K : nd_Kv p l e (headSpec ow_dm_X3_readBrought ({ frames := 3, cells := 0, slots := 0, locals := 66 })).room s m args below meth c Q A (dC, dI) cX3_readBrought (St × (St)) (dw_X3s a ac) r) : dj_X3_readBrought_42 p l e s m args below meth c Q A dC dI a ac (df_X3_readBrought_42 n (a 0)) r := by
  obtain ⟨hlt, hx, hb, hml, hown, hts, hN, hA, hK⟩ := id C
  intro x1 x2 x4 x6 x8 x10 s0 H locs ls h hP hD hS hl
  unfold df_X3_readBrought_42 at h
  refine lv_aload_n hx hb dX3_readBrought_42 rfl (lv_at hl 0 rfl) ?_
  refine lv_iconst (v := 1) hx hb dX3_readBrought_43 (by decide) ?_
  refine lv_lload hx hb dX3_readBrought_44 (lv_at hl 6 rfl) ?_
  refine lv_aload_n hx hb dX3_readBrought_46 rfl (lv_at hl 0 rfl) ?_
  refine va_get (D := (dC, dI)) (ci := 4) (v := .int (sI s0.2 1)) (C := RX3) (T := TX3) (N := 11) hx hb hts hi_dm_X3_readBrought_X3 hown hK hP 1 rfl rfl 5 (by decide) (hts (.fieldLink RX3 39 "TimeMachine$Events" "total" "I") (List.mem_of_getElem? (i := 13) rfl)) (fun _ h9 => h9) rfl dX3_readBrought_47 ?_
  obtain ⟨q49, s50, hq, h⟩ := nd_b2_e h
  have hPc := dp_X3s_1 hP
  have hDc := dd_X3s_1 hD
  have hKc := dy_X3s_1 hK
  have hFc := nd_rs hDc hS hA
  have hzA : ∀ q : Nat, H.size ≤ q → A q := fun q h => hA q (Nat.le_trans hS.1 h)
  refine nd_cVi (As := [.int 1, .long x10, .int (sI s0.2 1)]) (rest := []) (q := q49) (w' := dw_X3c (fun k => a (k + 1)) (fun k => ac (k + 1)) s50) ⟨hx, hb, hml, hown, hts⟩ (fun sz => dm_X3_latest l hlt dC dI (fun k => a (k + 1)) (fun k => ac (k + 1)) n (1) (x10) ((sI s0.2 1)) s0.2 hq sz) (cwV 3 hts gi_dm_X3_readBrought_3 rfl rfl rfl (by decide +kernel) ⟨Nat.le_of_ble_eq_true rfl, Nat.le_of_ble_eq_true rfl⟩) hPc hDc hKc hS hA hN (va_recv hKc hPc (ci := 4) (q0 := 0) rfl rfl) rfl hl.1 rfl (Nat.le_of_ble_eq_true rfl) dX3_readBrought_50 (fun H locs hP1 hD1 hk1 hS => ?_)
  obtain ⟨hP, hD⟩ := dn_X3s_1 hP hD hzA hk1 hP1 hD1
  obtain ⟨s52, es52, h⟩ := nd_let_e h
  have hP : va_P (dC, dI) vwCl (dw_X3s a ac s52) H := by rw [es52]; exact hP
  have hD : va_D A (dw_X3s a ac s52) := by rw [es52]; exact hD
  refine lv_istore (lv' := [(12, .int q49), (0, .ref (a 1)), (1, .int x1), (2, .int x2), (4, .long x4), (6, .long x6), (8, .int x8), (10, .long x10)]) hx hb dX3_readBrought_53 hl (by decide) rfl (fun ls hl => ?_)
  refine lv_iload hx hb dX3_readBrought_55 (lv_at hl 0 rfl) ?_
  refine lv_if_ge (tgt := 69) hx hb dX3_readBrought_57 (by decide) (fun c53 => ?_) (fun c53 => ?_)
  · have h := nd_pos h c53
    refine lv_aload_n hx hb dX3_readBrought_69 rfl (lv_at hl 1 rfl) ?_
    refine va_get (D := (dC, dI)) (ci := 4) (v := .ref (a 4)) (C := RX3) (T := TX3) (N := 11) hx hb hts hi_dm_X3_readBrought_X3 hown hK hP 1 rfl rfl 2 (by decide) (hts (.fieldLink RX3 17 "TimeMachine$Events" "a" "[J") (List.mem_of_getElem? (i := 17) rfl)) (fun _ h9 => h9) rfl dX3_readBrought_70 ?_
    refine lv_iload hx hb dX3_readBrought_73 (lv_at hl 0 rfl) ?_
    obtain ⟨i54, h⟩ := nd_ck_e h
    refine va_lald (i := q49) hx hb hK hP 4 3 rfl rfl i54 dX3_readBrought_75 ?_
    refine lv_topl (fun z55 ez55 => ?_)
    have h := nd_at h ez55
    refine lv_lstore (lv' := [(6, .long z55), (12, .int q49), (0, .ref (a 1)), (1, .int x1), (2, .int x2), (4, .long x4), (8, .int x8), (10, .long x10)]) hx hb dX3_readBrought_76 hl (by decide) rfl (fun ls hl => ?_)
    refine lv_aload_n hx hb dX3_readBrought_78 rfl (lv_at hl 2 rfl) ?_
    refine va_get (D := (dC, dI)) (ci := 4) (v := .ref (a 5)) (C := RX3) (T := TX3) (N := 11) hx hb hts hi_dm_X3_readBrought_X3 hown hK hP 1 rfl rfl 3 (by decide) (hts (.fieldLink RX3 20 "TimeMachine$Events" "b" "[I") (List.mem_of_getElem? (i := 24) rfl)) (fun _ h9 => h9) rfl dX3_readBrought_79 ?_
    refine lv_iload hx hb dX3_readBrought_82 (lv_at hl 1 rfl) ?_
    obtain ⟨i56, h⟩ := nd_ck_e h
    refine va_iald (i := q49) hx hb hK hP 5 4 rfl rfl i56 dX3_readBrought_84 ?_
    refine lv_topi (fun z57 ez57 => ?_)
    have h := nd_at h ez57
    refine lv_istore (lv' := [(8, .int z57), (6, .long z55), (12, .int q49), (0, .ref (a 1)), (1, .int x1), (2, .int x2), (4, .long x4), (10, .long x10)]) hx hb dX3_readBrought_85 hl (by decide) rfl (fun ls hl => ?_)
    exact (db_X3_readBrought_87 C K) (x2) (x4) (z55) (z57) s52 _ _ _ h hP hD hS (lv_sub hl [3, 5, 6, 1, 0] rfl)
  · have h := nd_neg h c53
    refine lv_aload_n hx hb dX3_readBrought_60 rfl (lv_at hl 1 rfl) ?_
    refine lv_iconst (v := 4) hx hb dX3_readBrought_61 (by decide) ?_
    refine lv_iload_n hx hb dX3_readBrought_62 rfl (lv_at hl 2 rfl) ?_
    obtain ⟨s59, hq, h⟩ := nd_b1_e h
    have hPc := dp_X3s_1 hP
    have hDc := dd_X3s_1 hD
    have hKc := dy_X3s_1 hK
    have hFc := nd_rs hDc hS hA
    have hzA : ∀ q : Nat, H.size ≤ q → A q := fun q h => hA q (Nat.le_trans hS.1 h)
    refine nd_cVv (As := [.int 4, .int x1]) (rest := []) (w' := dw_X3c (fun k => a (k + 1)) (fun k => ac (k + 1)) s59) ⟨hx, hb, hml, hown, hts⟩ (fun sz => dm_X3_blame l hlt dC dI (fun k => a (k + 1)) (fun k => ac (k + 1)) n (4) (x1) s52.2 hq sz) (cwV 2 hts gi_dm_X3_readBrought_4 rfl rfl rfl (by decide +kernel) ⟨Nat.le_of_ble_eq_true rfl, Nat.le_of_ble_eq_true rfl⟩) hPc hDc hKc hS hA hN (va_recv hKc hPc (ci := 4) (q0 := 0) rfl rfl) rfl hl.1 rfl (Nat.le_of_ble_eq_true rfl) dX3_readBrought_63 (fun H locs hP1 hD1 hk1 hS => ?_)
    obtain ⟨hP, hD⟩ := dn_X3s_1 hP hD hzA hk1 hP1 hD1
    obtain ⟨s61, es61, h⟩ := nd_let_e h
    have hP : va_P (dC, dI) vwCl (dw_X3s a ac s61) H := by rw [es61]; exact hP
    have hD : va_D A (dw_X3s a ac s61) := by rw [es61]; exact hD
    refine lv_goto (tgt := 87) hx hb dX3_readBrought_66 (by decide) ?_
    exact (db_X3_readBrought_87 C K) (x2) (x4) (x6) (x8) s61 _ _ _ h hP hD hS (lv_sub hl [1, 3, 4, 5, 6] rfl)
set_option maxHeartbeats 40000000 in
set_option maxRecDepth 100000 in
theorem db_X3_readBrought_0 {p : Program} {l : Launch} {e : Env} {s : State} {m : MethodId} {args : Array Value} {below : List Frame} {meth : Method} {c : Code} {Q : State → Prop} {A : Nat → Prop} {dC : Nat → ClassId} {dI : Nat → Nat → Nat} {a : Nat → Nat} {ac : Nat → ClassId} {n : Nat} {r : St × (St)} (C : nd_C p l s m args c A (dC, dI) cX3_readBrought 13 RX3 ow_dm_X3_readBrought (dk_X3s ac)) (K : nd_Kv p l e (headSpec ow_dm_X3_readBrought ({ frames := 3, cells := 0, slots := 0, locals := 66 })).room s m args below meth c Q A (dC, dI) cX3_readBrought (St × (St)) (dw_X3s a ac) r) : dj_X3_readBrought_0 p l e s m args below meth c Q A dC dI a ac (df_X3_readBrought_0 n (a 0)) r := by
  obtain ⟨hlt, hx, hb, hml, hown, hts, hN, hA, hK⟩ := id C
  intro v0 v1 v2 v3 s0 H locs ls h hP hD hS hl
  unfold df_X3_readBrought_0 at h
  refine lv_iload_n hx hb dX3_readBrought_0 rfl (lv_at hl 3 rfl) ?_
  refine lv_i2l hx hb dX3_readBrought_1 rfl ?_
  refine lv_topl (fun z1 ez1 => ?_)
  have h := nd_at h ez1
  refine lv_lstore (lv' := [(6, .long z1), (0, .ref (a 1)), (1, .int v0), (2, .int v1), (3, .int v2), (4, .long v3)]) hx hb dX3_readBrought_2 hl (by decide) rfl (fun ls hl => ?_)
  refine lv_iconst (v := 0) hx hb dX3_readBrought_4 (by decide) ?_
  refine lv_istore (lv' := [(8, .int 0), (6, .long z1), (0, .ref (a 1)), (1, .int v0), (2, .int v1), (3, .int v2), (4, .long v3)]) hx hb dX3_readBrought_5 hl (by decide) rfl (fun ls hl => ?_)
  refine lv_aload_n hx hb dX3_readBrought_7 rfl (lv_at hl 2 rfl) ?_
  refine va_get (D := (dC, dI)) (ci := 4) (v := .int (sI s0.2 2)) (C := RX3) (T := TX3) (N := 11) hx hb hts hi_dm_X3_readBrought_X3 hown hK hP 1 rfl rfl 7 (by decide) (hts (.fieldLink RX3 44 "TimeMachine$Events" "place" "I") (List.mem_of_getElem? (i := 1) rfl)) (fun _ h9 => h9) rfl dX3_readBrought_8 ?_
  refine lv_topi (fun z2 ez2 => ?_)
  have h := nd_at h ez2
  refine lv_istore (lv' := [(9, .int z2), (8, .int 0), (6, .long z1), (0, .ref (a 1)), (1, .int v0), (2, .int v1), (3, .int v2), (4, .long v3)]) hx hb dX3_readBrought_11 hl (by decide) rfl (fun ls hl => ?_)
  refine lv_iload_n hx hb dX3_readBrought_13 rfl (lv_at hl 5 rfl) ?_
  refine lv_iconst (v := 1) hx hb dX3_readBrought_14 (by decide) ?_
  refine lv_icmp_ne (tgt := 90) hx hb dX3_readBrought_15 (by decide) (fun c3 => ?_) (fun c3 => ?_)
  · have h := nd_neg h c3
    exact (db_X3_readBrought_90 C K) (v0) (v1) (v2) (v3) (z1) (0) (z2) s0 _ _ _ h hP hD hS (lv_sub hl [3, 4, 5, 6, 7, 2, 1, 0] rfl)
  · have h := nd_pos h c3
    refine lv_iload_n hx hb dX3_readBrought_18 rfl (lv_at hl 6 rfl) ?_
    refine lv_if_ne (tgt := 90) hx hb dX3_readBrought_19 (by decide) (fun c44 => ?_) (fun c44 => ?_)
    · have h := nd_neg h c44
      exact (db_X3_readBrought_90 C K) (v0) (v1) (v2) (v3) (z1) (0) (z2) s0 _ _ _ h hP hD hS (lv_sub hl [3, 4, 5, 6, 7, 2, 1, 0] rfl)
    · have h := nd_pos h c44
      refine lv_aload_n hx hb dX3_readBrought_22 rfl (lv_at hl 3 rfl) ?_
      obtain ⟨q45, s46, hq, h⟩ := nd_b2_e h
      have hPc := hP
      have hDc := hD
      have hKc := hK
      have hFc := nd_rs hD hS hA
      refine nd_cVl (As := []) (rest := []) (q := q45) (w' := dw_X3s a ac s46) ⟨hx, hb, hml, hown, hts⟩ (fun sz => dm_X3_readVarint l hlt dC dI a ac n  s0 hq sz) (cwV 0 hts gi_dm_X3_readBrought_2 rfl rfl rfl (by decide +kernel) ⟨Nat.le_of_ble_eq_true rfl, Nat.le_of_ble_eq_true rfl⟩) hPc hDc hKc hS hA hN (va_recv hKc hPc (ci := 4) (q0 := 1) rfl rfl) rfl hl.1 rfl (Nat.le_of_ble_eq_true rfl) dX3_readBrought_23 (fun H locs hP1 hD1 hk1 hS => ?_)
      have hP := hP1
      have hD := hD1.weaken (fun k q _ h => hFc q.1 h)
      refine lv_lstore (lv' := [(10, .long q45), (9, .int z2), (8, .int 0), (6, .long z1), (0, .ref (a 1)), (1, .int v0), (2, .int v1), (3, .int v2), (4, .long v3)]) hx hb dX3_readBrought_26 hl (by decide) rfl (fun ls hl => ?_)
      refine lv_lload hx hb dX3_readBrought_28 (lv_at hl 0 rfl) ?_
      refine lv_lconst (v := 0) hx hb dX3_readBrought_30 (by decide) ?_
      refine W.lcmp hx hb dX3_readBrought_31 ?_
      refine lv_if_ne (tgt := 42) hx hb dX3_readBrought_32 (by decide) (fun c48 => ?_) (fun c48 => ?_)
      · have h := nd_neg h c48
        exact (db_X3_readBrought_42 C K) (v0) (v1) (v3) (z1) (0) (q45) s46 _ _ _ h hP hD hS (lv_sub hl [4, 5, 6, 8, 3, 2, 0] rfl)
      · have h := nd_pos h c48
        refine lv_aload_n hx hb dX3_readBrought_35 rfl (lv_at hl 4 rfl) ?_
        refine lv_iconst (v := 5) hx hb dX3_readBrought_36 (by decide) ?_
        refine lv_iload hx hb dX3_readBrought_37 (lv_at hl 1 rfl) ?_
        obtain ⟨s63, hq, h⟩ := nd_b1_e h
        have hPc := dp_X3s_1 hP
        have hDc := dd_X3s_1 hD
        have hKc := dy_X3s_1 hK
        have hFc := nd_rs hDc hS hA
        have hzA : ∀ q : Nat, H.size ≤ q → A q := fun q h => hA q (Nat.le_trans hS.1 h)
        refine nd_cVv (As := [.int 5, .int z2]) (rest := []) (w' := dw_X3c (fun k => a (k + 1)) (fun k => ac (k + 1)) s63) ⟨hx, hb, hml, hown, hts⟩ (fun sz => dm_X3_blame l hlt dC dI (fun k => a (k + 1)) (fun k => ac (k + 1)) n (5) (z2) s46.2 hq sz) (cwV 2 hts gi_dm_X3_readBrought_4 rfl rfl rfl (by decide +kernel) ⟨Nat.le_of_ble_eq_true rfl, Nat.le_of_ble_eq_true rfl⟩) hPc hDc hKc hS hA hN (va_recv hKc hPc (ci := 4) (q0 := 0) rfl rfl) rfl hl.1 rfl (Nat.le_of_ble_eq_true rfl) dX3_readBrought_39 (fun H locs hP1 hD1 hk1 hS => ?_)
        obtain ⟨hP, hD⟩ := dn_X3s_1 hP hD hzA hk1 hP1 hD1
        obtain ⟨s65, es65, h⟩ := nd_let_e h
        have hP : va_P (dC, dI) vwCl (dw_X3s a ac s65) H := by rw [es65]; exact hP
        have hD : va_D A (dw_X3s a ac s65) := by rw [es65]; exact hD
        exact (db_X3_readBrought_42 C K) (v0) (v1) (v3) (z1) (0) (q45) s65 _ _ _ h hP hD hS (lv_sub hl [4, 5, 6, 8, 3, 2, 0] rfl)
set_option maxHeartbeats 40000000 in
set_option maxRecDepth 100000 in
theorem dm_X3_readBrought (l : Launch) (hlt : l.stackTraces = false) (dC : Nat → ClassId) (dI : Nat → Nat → Nat) (a : Nat → Nat) (ac : Nat → ClassId) (n : Nat) (v0 : Int32) (v1 : Int32) (v2 : Int32) (v3 : Int64) (s0 : St × (St)) {r : St × (St)} (h : df_X3_readBrought n (a 0) v0 v1 v2 v3 s0 = some r) (sz : Nat) : Met l yX3_readBrought ow_dm_X3_readBrought ({ frames := 3, cells := 0, slots := 0, locals := 66 }) (va_Pc [.ref (a 1), .int v0, .int v1, .int v2, .long v3] (fun U => U.heap.size = sz ∧ va_P (dC, dI) vwCl (dw_X3s a ac s0) U.heap ∧ va_K (dC, dI) vwCl (dk_X3s ac) U ∧ va_D (fun _ => True) (dw_X3s a ac s0) ∧ nv_E dI (va_A (dw_X3s a ac s0) sz) U)) (va_Qv (fun _ => True) (fun (_ : Unit) t => va_P (dC, dI) vwCl (dw_X3s a ac r) t.heap ∧ va_K (dC, dI) vwCl (dk_X3s ac) t ∧ va_D (va_A (dw_X3s a ac s0) sz) (dw_X3s a ac r)) (va_A (dw_X3s a ac s0) sz)) 0 0 (va_A (dw_X3s a ac s0) sz) := by
  refine Met.ofW (cc := cX3_readBrought) (maxL := 13) (ret := none) (by decide) rfl ?_
  intro p e s m args below meth c s₁ B hml hv
  obtain ⟨rfl, hsz, hP, hK, hD0, hN⟩ := hv
  have hx := B.exec
  have hb := B.bytes
  have hr := B.returns
  have hts := atoms_spec (ws := ow_dm_X3_readBrought) B.pre
  have hown : s.vm.findClass RX3 = some m.cls := findClass_of_methodNamed B.named
  have hlocks := B.notSynchronized
  subst hsz
  have hD := hD0.self (sz := s.heap.size)
  generalize hAe : va_A (dw_X3s a ac s0) s.heap.size = A at hD hN ⊢
  have hA : ∀ q : Nat, s.heap.size ≤ q → A q := fun q h => by rw [← hAe]; exact Or.inr h
  have hl := lv_entry ([.ref (a 1), .int v0, .int v1, .int v2, .long v3]) (n := 13) (Nat.le_of_ble_eq_true rfl)
  rw [lg_entry_eq]
  generalize (lg_sl ([.ref (a 1), .int v0, .int v1, .int v2, .long v3]) ++ List.replicate (13 - (lg_sl ([.ref (a 1), .int v0, .int v1, .int v2, .long v3])).length) Slot.unset).toArray = ls at hl ⊢
  have hl : lv_has ls 13 [(0, .ref (a 1)), (1, .int v0), (2, .int v1), (3, .int v2), (4, .long v3)] := hl
  exact db_X3_readBrought_0 (dC := dC) (dI := dI) (a := a) (ac := ac) (n := n) (r := r) ⟨hlt, hx, hb, hml, hown, hts, hN, hA, hK⟩ (fun pc τ H locs ls d er hP hD hS => by subst er; exact W.vret hx hb hr (fun t ht hW => ⟨⟨(), rfl, trivial, by rw [ht]; exact hP, va_K.moved hW.alike hK, hD⟩, hS.F ht⟩) hS.2.2 d) v0 v1 v2 v3 s0 _ _ _ h hP hD va_S.rf (lv_sub hl [0, 1, 2, 3, 4] rfl)
def ow_dm_X3_readRepeat : List Cond := Cond.code yX3_readRepeat cX3_readRepeat 12 none :: ([Cond.fieldLink RX3 39 "TimeMachine$Events" "total" "I", Cond.fieldLink RX3 44 "TimeMachine$Events" "place" "I", Cond.methodLink RX3 66 yX3_difference, Cond.instanceMethod yX3_difference, Cond.selects RX3 yX3_difference yX3_difference, Cond.initialized RX3, Cond.fieldLink RX3 95 "TimeMachine$Events" "fault" "I", Cond.fieldLink RX3 9 "TimeMachine$Events" "kind" "[I", Cond.fieldLink RX3 13 "TimeMachine$Events" "at" "[J", Cond.fieldLink RX3 17 "TimeMachine$Events" "a" "[J", Cond.fieldLink RX3 20 "TimeMachine$Events" "b" "[I", Cond.methodLink RX3 133 yX3_add, Cond.instanceMethod yX3_add, Cond.selects RX3 yX3_add yX3_add, Cond.methodLink RX3 107 yX3_blame, Cond.instanceMethod yX3_blame, Cond.selects RX3 yX3_blame yX3_blame, Cond.methodLink RX3 101 yX3_readVarint, Cond.instanceMethod yX3_readVarint, Cond.selects RX3 yX3_readVarint yX3_readVarint] ++ (u_ws RX3 TX3 11 ++ (ow_dm_X3_difference ++ (ow_dm_X3_add ++ (ow_dm_X3_blame ++ (ow_dm_X3_readVarint ++ []))))))
theorem gd_dm_X3_readRepeat : ∀ w ∈ ow_dm_X3_readRepeat, (w.onTables && w.keeps) = true ∨ ∃ ty, w = Cond.arrayClass ty := List.forall_mem_cons.mpr ⟨good_of_word rfl, List.forall_mem_append.mpr ⟨fun w h => good_of_word (List.all_eq_true.mp (by decide +kernel) w h), List.forall_mem_append.mpr ⟨gu_X3, List.forall_mem_append.mpr ⟨gd_dm_X3_difference, List.forall_mem_append.mpr ⟨gd_dm_X3_add, List.forall_mem_append.mpr ⟨gd_dm_X3_blame, List.forall_mem_append.mpr ⟨gd_dm_X3_readVarint, fun _ h => nomatch h⟩⟩⟩⟩⟩⟩⟩
theorem hi_dm_X3_readRepeat_X3 : ∀ w ∈ u_ws RX3 TX3 11, w ∈ ow_dm_X3_readRepeat := fun w h => List.mem_cons_of_mem _ (List.mem_append_right _ (List.mem_append_left _ h))
theorem gi_dm_X3_readRepeat_0 : GoodIn ow_dm_X3_readRepeat (wsV RX3 66 RX3 yX3_difference ow_dm_X3_difference) := goodIn_app (goodIn_of _ (by decide +kernel)) (fun w h => ⟨List.mem_cons_of_mem _ (List.mem_append_right _ (List.mem_append_right _ (List.mem_append_left _ h))), gd_dm_X3_difference w h⟩)
theorem gi_dm_X3_readRepeat_1 : GoodIn ow_dm_X3_readRepeat (wsV RX3 133 RX3 yX3_add ow_dm_X3_add) := goodIn_app (goodIn_of _ (by decide +kernel)) (fun w h => ⟨List.mem_cons_of_mem _ (List.mem_append_right _ (List.mem_append_right _ (List.mem_append_right _ (List.mem_append_left _ h)))), gd_dm_X3_add w h⟩)
theorem gi_dm_X3_readRepeat_2 : GoodIn ow_dm_X3_readRepeat (wsV RX3 107 RX3 yX3_blame ow_dm_X3_blame) := goodIn_app (goodIn_of _ (by decide +kernel)) (fun w h => ⟨List.mem_cons_of_mem _ (List.mem_append_right _ (List.mem_append_right _ (List.mem_append_right _ (List.mem_append_right _ (List.mem_append_left _ h))))), gd_dm_X3_blame w h⟩)
theorem gi_dm_X3_readRepeat_3 : GoodIn ow_dm_X3_readRepeat (wsV RX3 101 RX3 yX3_readVarint ow_dm_X3_readVarint) := goodIn_app (goodIn_of _ (by decide +kernel)) (fun w h => ⟨List.mem_cons_of_mem _ (List.mem_append_right _ (List.mem_append_right _ (List.mem_append_right _ (List.mem_append_right _ (List.mem_append_right _ (List.mem_append_left _ h)))))), gd_dm_X3_readVarint w h⟩)
def dj_X3_readRepeat_160 (p : Program) (l : Launch) (e : Env) (s : State) (m : MethodId) (args : Array Value) (below : List Frame) (meth : Method) (c : Code) (Q : State → Prop) (A : Nat → Prop) (dC : Nat → ClassId) (dI : Nat → Nat → Nat) (a : Nat → Nat) (ac : Nat → ClassId) (g : (St × (St)) → Option (St × (St))) (r : St × (St)) : Prop := ∀ (s0 : St × (St)) (H : Heap) (locs : List Loc) (ls : Array Slot), g s0 = some r → va_P (dC, dI) vwCl (dw_X3s a ac s0) H → va_D A (dw_X3s a ac s0) → va_S A s.heap H locs → lv_has ls 12 [] → W p l e (headSpec ow_dm_X3_readRepeat ({ frames := 3, cells := 0, slots := 0, locals := 66 })).room s m args below meth c H locs 0 0 Q (F0 m 160 ls [])
def dj_X3_readRepeat_85 (p : Program) (l : Launch) (e : Env) (s : State) (m : MethodId) (args : Array Value) (below : List Frame) (meth : Method) (c : Code) (Q : State → Prop) (A : Nat → Prop) (dC : Nat → ClassId) (dI : Nat → Nat → Nat) (a : Nat → Nat) (ac : Nat → ClassId) (g : Int64 → Int64 → (St × (St)) → Option (St × (St))) (r : St × (St)) : Prop := ∀ (x8 : Int64) (x10 : Int64) (s0 : St × (St)) (H : Heap) (locs : List Loc) (ls : Array Slot), g x8 x10 s0 = some r → va_P (dC, dI) vwCl (dw_X3s a ac s0) H → va_D A (dw_X3s a ac s0) → va_S A s.heap H locs → lv_has ls 12 [(0, .ref (a 1)), (8, .long x8), (10, .long x10)] → W p l e (headSpec ow_dm_X3_readRepeat ({ frames := 3, cells := 0, slots := 0, locals := 66 })).room s m args below meth c H locs 0 0 Q (F0 m 85 ls [])
def dj_X3_readRepeat_69 (p : Program) (l : Launch) (e : Env) (s : State) (m : MethodId) (args : Array Value) (below : List Frame) (meth : Method) (c : Code) (Q : State → Prop) (A : Nat → Prop) (dC : Nat → ClassId) (dI : Nat → Nat → Nat) (a : Nat → Nat) (ac : Nat → ClassId) (g : Int64 → (St × (St)) → Option (St × (St))) (r : St × (St)) : Prop := ∀ (x6 : Int64) (s0 : St × (St)) (H : Heap) (locs : List Loc) (ls : Array Slot), g x6 s0 = some r → va_P (dC, dI) vwCl (dw_X3s a ac s0) H → va_D A (dw_X3s a ac s0) → va_S A s.heap H locs → lv_has ls 12 [(0, .ref (a 1)), (6, .long x6)] → W p l e (headSpec ow_dm_X3_readRepeat ({ frames := 3, cells := 0, slots := 0, locals := 66 })).room s m args below meth c H locs 0 0 Q (F0 m 69 ls [])
def dj_X3_readRepeat_49 (p : Program) (l : Launch) (e : Env) (s : State) (m : MethodId) (args : Array Value) (below : List Frame) (meth : Method) (c : Code) (Q : State → Prop) (A : Nat → Prop) (dC : Nat → ClassId) (dI : Nat → Nat → Nat) (a : Nat → Nat) (ac : Nat → ClassId) (g : Int32 → Int64 → Int64 → (St × (St)) → Option (St × (St))) (r : St × (St)) : Prop := ∀ (x1 : Int32) (x3 : Int64) (x6 : Int64) (s0 : St × (St)) (H : Heap) (locs : List Loc) (ls : Array Slot), g x1 x3 x6 s0 = some r → va_P (dC, dI) vwCl (dw_X3s a ac s0) H → va_D A (dw_X3s a ac s0) → va_S A s.heap H locs → lv_has ls 12 [(0, .ref (a 1)), (1, .int x1), (3, .long x3), (6, .long x6)] → W p l e (headSpec ow_dm_X3_readRepeat ({ frames := 3, cells := 0, slots := 0, locals := 66 })).room s m args below meth c H locs 0 0 Q (F0 m 49 ls [])
def dj_X3_readRepeat_33 (p : Program) (l : Launch) (e : Env) (s : State) (m : MethodId) (args : Array Value) (below : List Frame) (meth : Method) (c : Code) (Q : State → Prop) (A : Nat → Prop) (dC : Nat → ClassId) (dI : Nat → Nat → Nat) (a : Nat → Nat) (ac : Nat → ClassId) (g : Int32 → Int64 → Int32 → Int64 → (St × (St)) → Option (St × (St))) (r : St × (St)) : Prop := ∀ (x1 : Int32) (x3 : Int64) (x5 : Int32) (y0 : Int64) (s0 : St × (St)) (H : Heap) (locs : List Loc) (ls : Array Slot), g x1 x3 x5 y0 s0 = some r → va_P (dC, dI) vwCl (dw_X3s a ac s0) H → va_D A (dw_X3s a ac s0) → va_S A s.heap H locs → lv_has ls 12 [(0, .ref (a 1)), (1, .int x1), (3, .long x3), (5, .int x5)] → W p l e (headSpec ow_dm_X3_readRepeat ({ frames := 3, cells := 0, slots := 0, locals := 66 })).room s m args below meth c H locs 0 0 Q (F0 m 33 ls [.long y0])
def dj_X3_readRepeat_0 (p : Program) (l : Launch) (e : Env) (s : State) (m : MethodId) (args : Array Value) (below : List Frame) (meth : Method) (c : Code) (Q : State → Prop) (A : Nat → Prop) (dC : Nat → ClassId) (dI : Nat → Nat → Nat) (a : Nat → Nat) (ac : Nat → ClassId) (g : Int32 → Int32 → Int64 → (St × (St)) → Option (St × (St))) (r : St × (St)) : Prop := ∀ (v0 : Int32) (v1 : Int32) (v2 : Int64) (s0 : St × (St)) (H : Heap) (locs : List Loc) (ls : Array Slot), g v0 v1 v2 s0 = some r → va_P (dC, dI) vwCl (dw_X3s a ac s0) H → va_D A (dw_X3s a ac s0) → va_S A s.heap H locs → lv_has ls 12 [(0, .ref (a 1)), (1, .int v0), (2, .int v1), (3, .long v2)] → W p l e (headSpec ow_dm_X3_readRepeat ({ frames := 3, cells := 0, slots := 0, locals := 66 })).room s m args below meth c H locs 0 0 Q (F0 m 0 ls [])
set_option maxHeartbeats 40000000 in
set_option maxRecDepth 100000 in
theorem db_X3_readRepeat_160 {p : Program} {l : Launch} {e : Env} {s : State} {m : MethodId} {args : Array Value} {below : List Frame} {meth : Method} {c : Code} {Q : State → Prop} {A : Nat → Prop} {dC : Nat → ClassId} {dI : Nat → Nat → Nat} {a : Nat → Nat} {ac : Nat → ClassId} {n : Nat} {r : St × (St)} (C : nd_C p l s m args c A (dC, dI) cX3_readRepeat 12 RX3 ow_dm_X3_readRepeat (dk_X3s ac)) (K : nd_Kv p l e (headSpec ow_dm_X3_readRepeat ({ frames := 3, cells := 0, slots := 0, locals := 66 })).room s m args below meth c Q A (dC, dI) cX3_readRepeat (St × (St)) (dw_X3s a ac) r) : dj_X3_readRepeat_160 p l e s m args below meth c Q A dC dI a ac (df_X3_readRepeat_160 n (a 0)) r := by
  obtain ⟨hlt, hx, hb, hml, hown, hts, hN, hA, hK⟩ := id C
  intro s0 H locs ls h hP hD hS hl
  unfold df_X3_readRepeat_160 at h
  exact K _ _ _ _ _ dX3_readRepeat_160 (Option.some.inj h).symm hP hD hS
set_option maxHeartbeats 40000000 in
set_option maxRecDepth 100000 in
theorem dB_X3_readRepeat_85 {p : Program} {l : Launch} {e : Env} {s : State} {m : MethodId} {args : Array Value} {below : List Frame} {meth : Method} {c : Code} {Q : State → Prop} {A : Nat → Prop} {dC : Nat → ClassId} {dI : Nat → Nat → Nat} {a : Nat → Nat} {ac : Nat → ClassId} {n : Nat} {r : St × (St)} (C : nd_C p l s m args c A (dC, dI) cX3_readRepeat 12 RX3 ow_dm_X3_readRepeat (dk_X3s ac)) (K : nd_Kv p l e (headSpec ow_dm_X3_readRepeat ({ frames := 3, cells := 0, slots := 0, locals := 66 })).room s m args below meth c Q A (dC, dI) cX3_readRepeat (St × (St)) (dw_X3s a ac) r) {g85 : Int64 → Int64 → (St × (St)) → Option (St × (St))} (J85 : dj_X3_readRepeat_85 p l e s m args below meth c Q A dC dI a ac g85 r) : dj_X3_readRepeat_85 p l e s m args below meth c Q A dC dI a ac (dF_X3_readRepeat_85 n (a 0) g85) r := by
  obtain ⟨hlt, hx, hb, hml, hown, hts, hN, hA, hK⟩ := id C
  intro x8 x10 s0 H locs ls h hP hD hS hl
  unfold dF_X3_readRepeat_85 at h
  refine lv_lload hx hb dX3_readRepeat_85 (lv_at hl 2 rfl) ?_
  refine lv_lconst (v := 0) hx hb dX3_readRepeat_87 (by decide) ?_
  refine W.lcmp hx hb dX3_readRepeat_88 ?_
  refine lv_if_le (tgt := 160) hx hb dX3_readRepeat_89 (by decide) (fun c10 => ?_) (fun c10 => ?_)
  · have h := nd_pos h c10
    exact (db_X3_readRepeat_160 C K)  s0 _ _ _ h hP hD hS (lv_sub hl [] rfl)
  · have h := nd_neg h c10
    refine lv_aload_n hx hb dX3_readRepeat_92 rfl (lv_at hl 0 rfl) ?_
    refine va_get (D := (dC, dI)) (ci := 4) (v := .int (sI s0.2 4)) (C := RX3) (T := TX3) (N := 11) hx hb hts hi_dm_X3_readRepeat_X3 hown hK hP 1 rfl rfl 9 (by decide) (hts (.fieldLink RX3 95 "TimeMachine$Events" "fault" "I") (List.mem_of_getElem? (i := 7) rfl)) (fun _ h9 => h9) rfl dX3_readRepeat_93 ?_
    refine lv_if_ne (tgt := 160) hx hb dX3_readRepeat_96 (by decide) (fun c11 => ?_) (fun c11 => ?_)
    · have h := nd_neg h c11
      exact (db_X3_readRepeat_160 C K)  s0 _ _ _ h hP hD hS (lv_sub hl [] rfl)
    · have h := nd_pos h c11
      refine lv_aload_n hx hb dX3_readRepeat_99 rfl (lv_at hl 0 rfl) ?_
      refine lv_aload_n hx hb dX3_readRepeat_100 rfl (lv_at hl 0 rfl) ?_
      refine va_get (D := (dC, dI)) (ci := 4) (v := .ref (a 2)) (C := RX3) (T := TX3) (N := 11) hx hb hts hi_dm_X3_readRepeat_X3 hown hK hP 1 rfl rfl 0 (by decide) (hts (.fieldLink RX3 9 "TimeMachine$Events" "kind" "[I") (List.mem_of_getElem? (i := 8) rfl)) (fun _ h9 => h9) rfl dX3_readRepeat_101 ?_
      refine lv_aload_n hx hb dX3_readRepeat_104 rfl (lv_at hl 0 rfl) ?_
      refine va_get (D := (dC, dI)) (ci := 4) (v := .int (sI s0.2 1)) (C := RX3) (T := TX3) (N := 11) hx hb hts hi_dm_X3_readRepeat_X3 hown hK hP 1 rfl rfl 5 (by decide) (hts (.fieldLink RX3 39 "TimeMachine$Events" "total" "I") (List.mem_of_getElem? (i := 1) rfl)) (fun _ h9 => h9) rfl dX3_readRepeat_105 ?_
      refine lv_iconst (v := 1) hx hb dX3_readRepeat_108 (by decide) ?_
      refine lv_isub hx hb dX3_readRepeat_109 ?_
      obtain ⟨i12, h⟩ := nd_ck_e h
      refine va_iald (i := ((sI s0.2 1) - 1)) hx hb hK hP 2 1 rfl rfl i12 dX3_readRepeat_110 ?_
      refine lv_aload_n hx hb dX3_readRepeat_111 rfl (lv_at hl 0 rfl) ?_
      refine va_get (D := (dC, dI)) (ci := 4) (v := .ref (a 3)) (C := RX3) (T := TX3) (N := 11) hx hb hts hi_dm_X3_readRepeat_X3 hown hK hP 1 rfl rfl 1 (by decide) (hts (.fieldLink RX3 13 "TimeMachine$Events" "at" "[J") (List.mem_of_getElem? (i := 9) rfl)) (fun _ h9 => h9) rfl dX3_readRepeat_112 ?_
      refine lv_aload_n hx hb dX3_readRepeat_115 rfl (lv_at hl 0 rfl) ?_
      refine va_get (D := (dC, dI)) (ci := 4) (v := .int (sI s0.2 1)) (C := RX3) (T := TX3) (N := 11) hx hb hts hi_dm_X3_readRepeat_X3 hown hK hP 1 rfl rfl 5 (by decide) (hts (.fieldLink RX3 39 "TimeMachine$Events" "total" "I") (List.mem_of_getElem? (i := 1) rfl)) (fun _ h9 => h9) rfl dX3_readRepeat_116 ?_
      refine lv_iconst (v := 1) hx hb dX3_readRepeat_119 (by decide) ?_
      refine lv_isub hx hb dX3_readRepeat_120 ?_
      obtain ⟨i13, h⟩ := nd_ck_e h
      refine va_lald (i := ((sI s0.2 1) - 1)) hx hb hK hP 3 2 rfl rfl i13 dX3_readRepeat_121 ?_
      refine lv_lload hx hb dX3_readRepeat_122 (lv_at hl 1 rfl) ?_
      refine lv_ladd hx hb dX3_readRepeat_124 ?_
      refine lv_aload_n hx hb dX3_readRepeat_125 rfl (lv_at hl 0 rfl) ?_
      refine va_get (D := (dC, dI)) (ci := 4) (v := .ref (a 4)) (C := RX3) (T := TX3) (N := 11) hx hb hts hi_dm_X3_readRepeat_X3 hown hK hP 1 rfl rfl 2 (by decide) (hts (.fieldLink RX3 17 "TimeMachine$Events" "a" "[J") (List.mem_of_getElem? (i := 10) rfl)) (fun _ h9 => h9) rfl dX3_readRepeat_126 ?_
      refine lv_aload_n hx hb dX3_readRepeat_129 rfl (lv_at hl 0 rfl) ?_
      refine va_get (D := (dC, dI)) (ci := 4) (v := .int (sI s0.2 1)) (C := RX3) (T := TX3) (N := 11) hx hb hts hi_dm_X3_readRepeat_X3 hown hK hP 1 rfl rfl 5 (by decide) (hts (.fieldLink RX3 39 "TimeMachine$Events" "total" "I") (List.mem_of_getElem? (i := 1) rfl)) (fun _ h9 => h9) rfl dX3_readRepeat_130 ?_
      refine lv_iconst (v := 1) hx hb dX3_readRepeat_133 (by decide) ?_
      refine lv_isub hx hb dX3_readRepeat_134 ?_
      obtain ⟨i14, h⟩ := nd_ck_e h
      refine va_lald (i := ((sI s0.2 1) - 1)) hx hb hK hP 4 3 rfl rfl i14 dX3_readRepeat_135 ?_
      refine lv_aload_n hx hb dX3_readRepeat_136 rfl (lv_at hl 0 rfl) ?_
      refine va_get (D := (dC, dI)) (ci := 4) (v := .ref (a 5)) (C := RX3) (T := TX3) (N := 11) hx hb hts hi_dm_X3_readRepeat_X3 hown hK hP 1 rfl rfl 3 (by decide) (hts (.fieldLink RX3 20 "TimeMachine$Events" "b" "[I") (List.mem_of_getElem? (i := 11) rfl)) (fun _ h9 => h9) rfl dX3_readRepeat_137 ?_
      refine lv_aload_n hx hb dX3_readRepeat_140 rfl (lv_at hl 0 rfl) ?_
      refine va_get (D := (dC, dI)) (ci := 4) (v := .int (sI s0.2 1)) (C := RX3) (T := TX3) (N := 11) hx hb hts hi_dm_X3_readRepeat_X3 hown hK hP 1 rfl rfl 5 (by decide) (hts (.fieldLink RX3 39 "TimeMachine$Events" "total" "I") (List.mem_of_getElem? (i := 1) rfl)) (fun _ h9 => h9) rfl dX3_readRepeat_141 ?_
      refine lv_iconst (v := 1) hx hb dX3_readRepeat_144 (by decide) ?_
      refine lv_isub hx hb dX3_readRepeat_145 ?_
      obtain ⟨i15, h⟩ := nd_ck_e h
      refine va_iald (i := ((sI s0.2 1) - 1)) hx hb hK hP 5 4 rfl rfl i15 dX3_readRepeat_146 ?_
      obtain ⟨q16, s17, hq, h⟩ := nd_b2_e h
      have hPc := dp_X3s_1 hP
      have hDc := dd_X3s_1 hD
      have hKc := dy_X3s_1 hK
      have hFc := nd_rs hDc hS hA
      have hzA : ∀ q : Nat, H.size ≤ q → A q := fun q h => hA q (Nat.le_trans hS.1 h)
      refine nd_cVi (As := [.int (sR s0.2 0 (Int32.toNatClampNeg ((sI s0.2 1) - 1))), .long (((sQ s0.2 0 (Int32.toNatClampNeg ((sI s0.2 1) - 1))) : Int64) + x8), .long (sQ s0.2 1 (Int32.toNatClampNeg ((sI s0.2 1) - 1))), .int (sR s0.2 1 (Int32.toNatClampNeg ((sI s0.2 1) - 1)))]) (rest := []) (q := q16) (w' := dw_X3c (fun k => a (k + 1)) (fun k => ac (k + 1)) s17) ⟨hx, hb, hml, hown, hts⟩ (fun sz => dm_X3_add l hlt dC dI (fun k => a (k + 1)) (fun k => ac (k + 1)) n ((sR s0.2 0 (Int32.toNatClampNeg ((sI s0.2 1) - 1)))) ((((sQ s0.2 0 (Int32.toNatClampNeg ((sI s0.2 1) - 1))) : Int64) + x8)) ((sQ s0.2 1 (Int32.toNatClampNeg ((sI s0.2 1) - 1)))) ((sR s0.2 1 (Int32.toNatClampNeg ((sI s0.2 1) - 1)))) s0.2 hq sz) (cwV 4 hts gi_dm_X3_readRepeat_1 rfl rfl rfl (by decide +kernel) ⟨Nat.le_of_ble_eq_true rfl, Nat.le_of_ble_eq_true rfl⟩) hPc hDc hKc hS hA hN (va_recv hKc hPc (ci := 4) (q0 := 0) rfl rfl) rfl hl.1 rfl (Nat.le_of_ble_eq_true rfl) dX3_readRepeat_147 (fun H locs hP1 hD1 hk1 hS => ?_)
      obtain ⟨hP, hD⟩ := dn_X3s_1 hP hD hzA hk1 hP1 hD1
      obtain ⟨s19, es19, h⟩ := nd_let_e h
      have hP : va_P (dC, dI) vwCl (dw_X3s a ac s19) H := by rw [es19]; exact hP
      have hD : va_D A (dw_X3s a ac s19) := by rw [es19]; exact hD
      refine lv_pop hx hb dX3_readRepeat_150 rfl ?_
      refine lv_lload hx hb dX3_readRepeat_151 (lv_at hl 2 rfl) ?_
      refine lv_lconst (v := 1) hx hb dX3_readRepeat_153 (by decide) ?_
      refine lv_lsub hx hb dX3_readRepeat_154 ?_
      refine lv_topl (fun z20 ez20 => ?_)
      have h := nd_at h ez20
      refine lv_lstore (lv' := [(10, .long z20), (0, .ref (a 1)), (8, .long x8)]) hx hb dX3_readRepeat_155 hl (by decide) rfl (fun ls hl => ?_)
      refine lv_goto (tgt := 85) hx hb dX3_readRepeat_157 (by decide) ?_
      exact (J85) (x8) (z20) s19 _ _ _ h hP hD hS (lv_sub hl [1, 2, 0] rfl)
set_option maxHeartbeats 40000000 in
set_option maxRecDepth 100000 in
theorem db_X3_readRepeat_85 {p : Program} {l : Launch} {e : Env} {s : State} {m : MethodId} {args : Array Value} {below : List Frame} {meth : Method} {c : Code} {Q : State → Prop} {A : Nat → Prop} {dC : Nat → ClassId} {dI : Nat → Nat → Nat} {a : Nat → Nat} {ac : Nat → ClassId} {n : Nat} {r : St × (St)} (C : nd_C p l s m args c A (dC, dI) cX3_readRepeat 12 RX3 ow_dm_X3_readRepeat (dk_X3s ac)) (K : nd_Kv p l e (headSpec ow_dm_X3_readRepeat ({ frames := 3, cells := 0, slots := 0, locals := 66 })).room s m args below meth c Q A (dC, dI) cX3_readRepeat (St × (St)) (dw_X3s a ac) r) (k : Nat) : dj_X3_readRepeat_85 p l e s m args below meth c Q A dC dI a ac (df_X3_readRepeat_85 n (a 0) k) r := by
  induction k with
  | zero => intro x8 x10 s0 H locs ls h; exact nomatch (show (none : Option (St × (St))) = some r from h)
  | succ k ih => exact dB_X3_readRepeat_85 C K ih
set_option maxHeartbeats 40000000 in
set_option maxRecDepth 100000 in
theorem db_X3_readRepeat_69 {p : Program} {l : Launch} {e : Env} {s : State} {m : MethodId} {args : Array Value} {below : List Frame} {meth : Method} {c : Code} {Q : State → Prop} {A : Nat → Prop} {dC : Nat → ClassId} {dI : Nat → Nat → Nat} {a : Nat → Nat} {ac : Nat → ClassId} {n : Nat} {r : St × (St)} (C : nd_C p l s m args c A (dC, dI) cX3_readRepeat 12 RX3 ow_dm_X3_readRepeat (dk_X3s ac)) (K : nd_Kv p l e (headSpec ow_dm_X3_readRepeat ({ frames := 3, cells := 0, slots := 0, locals := 66 })).room s m args below meth c Q A (dC, dI) cX3_readRepeat (St × (St)) (dw_X3s a ac) r) : dj_X3_readRepeat_69 p l e s m args below meth c Q A dC dI a ac (df_X3_readRepeat_69 n (a 0)) r := by
  obtain ⟨hlt, hx, hb, hml, hown, hts, hN, hA, hK⟩ := id C
  intro x6 s0 H locs ls h hP hD hS hl
  unfold df_X3_readRepeat_69 at h
  refine lv_aload_n hx hb dX3_readRepeat_69 rfl (lv_at hl 0 rfl) ?_
  refine lv_aload_n hx hb dX3_readRepeat_70 rfl (lv_at hl 0 rfl) ?_
  refine va_get (D := (dC, dI)) (ci := 4) (v := .int (sI s0.2 1)) (C := RX3) (T := TX3) (N := 11) hx hb hts hi_dm_X3_readRepeat_X3 hown hK hP 1 rfl rfl 5 (by decide) (hts (.fieldLink RX3 39 "TimeMachine$Events" "total" "I") (List.mem_of_getElem? (i := 1) rfl)) (fun _ h9 => h9) rfl dX3_readRepeat_71 ?_
  refine lv_iconst (v := 1) hx hb dX3_readRepeat_74 (by decide) ?_
  refine lv_isub hx hb dX3_readRepeat_75 ?_
  obtain ⟨q6, s7, hq, h⟩ := nd_b2_e h
  have hPc := dp_X3s_1 hP
  have hDc := dd_X3s_1 hD
  have hKc := dy_X3s_1 hK
  have hFc := nd_rs hDc hS hA
  have hzA : ∀ q : Nat, H.size ≤ q → A q := fun q h => hA q (Nat.le_trans hS.1 h)
  refine nd_cVl (As := [.int ((sI s0.2 1) - 1)]) (rest := []) (q := q6) (w' := dw_X3c (fun k => a (k + 1)) (fun k => ac (k + 1)) s7) ⟨hx, hb, hml, hown, hts⟩ (fun sz => dm_X3_difference l hlt dC dI (fun k => a (k + 1)) (fun k => ac (k + 1)) n (((sI s0.2 1) - 1)) s0.2 hq sz) (cwV 1 hts gi_dm_X3_readRepeat_0 rfl rfl rfl (by decide +kernel) ⟨Nat.le_of_ble_eq_true rfl, Nat.le_of_ble_eq_true rfl⟩) hPc hDc hKc hS hA hN (va_recv hKc hPc (ci := 4) (q0 := 0) rfl rfl) rfl hl.1 rfl (Nat.le_of_ble_eq_true rfl) dX3_readRepeat_76 (fun H locs hP1 hD1 hk1 hS => ?_)
  obtain ⟨hP, hD⟩ := dn_X3s_1 hP hD hzA hk1 hP1 hD1
  obtain ⟨s9, es9, h⟩ := nd_let_e h
  have hP : va_P (dC, dI) vwCl (dw_X3s a ac s9) H := by rw [es9]; exact hP
  have hD : va_D A (dw_X3s a ac s9) := by rw [es9]; exact hD
  refine lv_lstore (lv' := [(8, .long q6), (0, .ref (a 1)), (6, .long x6)]) hx hb dX3_readRepeat_79 hl (by decide) rfl (fun ls hl => ?_)
  refine lv_lload hx hb dX3_readRepeat_81 (lv_at hl 2 rfl) ?_
  refine lv_lstore (lv' := [(10, .long x6), (8, .long q6), (0, .ref (a 1)), (6, .long x6)]) hx hb dX3_readRepeat_83 hl (by decide) rfl (fun ls hl => ?_)
  exact (db_X3_readRepeat_85 C K n) (q6) (x6) s9 _ _ _ h hP hD hS (lv_sub hl [2, 1, 0] rfl)
set_option maxHeartbeats 40000000 in
set_option maxRecDepth 100000 in
theorem db_X3_readRepeat_49 {p : Program} {l : Launch} {e : Env} {s : State} {m : MethodId} {args : Array Value} {below : List Frame} {meth : Method} {c : Code} {Q : State → Prop} {A : Nat → Prop} {dC : Nat → ClassId} {dI : Nat → Nat → Nat} {a : Nat → Nat} {ac : Nat → ClassId} {n : Nat} {r : St × (St)} (C : nd_C p l s m args c A (dC, dI) cX3_readRepeat 12 RX3 ow_dm_X3_readRepeat (dk_X3s ac)) (K : nd_Kv p l e (headSpec ow_dm_X3_readRepeat ({ frames := 3, cells := 0, slots := 0, locals := 66 })).room s m args below meth c Q A (dC, dI) cX3_readRepeat (St × (St)) (dw_X3s a ac) r) : dj_X3_readRepeat_49 p l e s m args below meth c Q A dC dI a ac (df_X3_readRepeat_49 n (a 0)) r := by
  obtain ⟨hlt, hx, hb, hml, hown, hts, hN, hA, hK⟩ := id C
  intro x1 x3 x6 s0 H locs ls h hP hD hS hl
  unfold df_X3_readRepeat_49 at h
  refine lv_aload_n hx hb dX3_readRepeat_49 rfl (lv_at hl 0 rfl) ?_
  refine va_get (D := (dC, dI)) (ci := 4) (v := .int (sI s0.2 1)) (C := RX3) (T := TX3) (N := 11) hx hb hts hi_dm_X3_readRepeat_X3 hown hK hP 1 rfl rfl 5 (by decide) (hts (.fieldLink RX3 39 "TimeMachine$Events" "total" "I") (List.mem_of_getElem? (i := 1) rfl)) (fun _ h9 => h9) rfl dX3_readRepeat_50 ?_
  refine lv_i2l hx hb dX3_readRepeat_53 rfl ?_
  refine lv_lload hx hb dX3_readRepeat_54 (lv_at hl 3 rfl) ?_
  refine lv_ladd hx hb dX3_readRepeat_56 ?_
  refine lv_lload_n hx hb dX3_readRepeat_57 rfl (lv_at hl 2 rfl) ?_
  refine W.lcmp hx hb dX3_readRepeat_58 ?_
  refine lv_if_le (tgt := 69) hx hb dX3_readRepeat_59 (by decide) (fun c5 => ?_) (fun c5 => ?_)
  · have h := nd_pos h c5
    exact (db_X3_readRepeat_69 C K) (x6) s0 _ _ _ h hP hD hS (lv_sub hl [0, 3] rfl)
  · have h := nd_neg h c5
    refine lv_aload_n hx hb dX3_readRepeat_62 rfl (lv_at hl 0 rfl) ?_
    refine lv_bipush (v := 6) hx hb dX3_readRepeat_63 (by decide) ?_
    refine lv_iload_n hx hb dX3_readRepeat_65 rfl (lv_at hl 1 rfl) ?_
    obtain ⟨s22, hq, h⟩ := nd_b1_e h
    have hPc := dp_X3s_1 hP
    have hDc := dd_X3s_1 hD
    have hKc := dy_X3s_1 hK
    have hFc := nd_rs hDc hS hA
    have hzA : ∀ q : Nat, H.size ≤ q → A q := fun q h => hA q (Nat.le_trans hS.1 h)
    refine nd_cVv (As := [.int 6, .int x1]) (rest := []) (w' := dw_X3c (fun k => a (k + 1)) (fun k => ac (k + 1)) s22) ⟨hx, hb, hml, hown, hts⟩ (fun sz => dm_X3_blame l hlt dC dI (fun k => a (k + 1)) (fun k => ac (k + 1)) n (6) (x1) s0.2 hq sz) (cwV 2 hts gi_dm_X3_readRepeat_2 rfl rfl rfl (by decide +kernel) ⟨Nat.le_of_ble_eq_true rfl, Nat.le_of_ble_eq_true rfl⟩) hPc hDc hKc hS hA hN (va_recv hKc hPc (ci := 4) (q0 := 0) rfl rfl) rfl hl.1 rfl (Nat.le_of_ble_eq_true rfl) dX3_readRepeat_66 (fun H locs hP1 hD1 hk1 hS => ?_)
    obtain ⟨hP, hD⟩ := dn_X3s_1 hP hD hzA hk1 hP1 hD1
    obtain ⟨s24, es24, h⟩ := nd_let_e h
    have hP : va_P (dC, dI) vwCl (dw_X3s a ac s24) H := by rw [es24]; exact hP
    have hD : va_D A (dw_X3s a ac s24) := by rw [es24]; exact hD
    exact (db_X3_readRepeat_69 C K) (x6) s24 _ _ _ h hP hD hS (lv_sub hl [0, 3] rfl)
set_option maxHeartbeats 40000000 in
set_option maxRecDepth 100000 in
theorem db_X3_readRepeat_33 {p : Program} {l : Launch} {e : Env} {s : State} {m : MethodId} {args : Array Value} {below : List Frame} {meth : Method} {c : Code} {Q : State → Prop} {A : Nat → Prop} {dC : Nat → ClassId} {dI : Nat → Nat → Nat} {a : Nat → Nat} {ac : Nat → ClassId} {n : Nat} {r : St × (St)} (C : nd_C p l s m args c A (dC, dI) cX3_readRepeat 12 RX3 ow_dm_X3_readRepeat (dk_X3s ac)) (K : nd_Kv p l e (headSpec ow_dm_X3_readRepeat ({ frames := 3, cells := 0, slots := 0, locals := 66 })).room s m args below meth c Q A (dC, dI) cX3_readRepeat (St × (St)) (dw_X3s a ac) r) : dj_X3_readRepeat_33 p l e s m args below meth c Q A dC dI a ac (df_X3_readRepeat_33 n (a 0)) r := by
  obtain ⟨hlt, hx, hb, hml, hown, hts, hN, hA, hK⟩ := id C
  intro x1 x3 x5 y0 s0 H locs ls h hP hD hS hl
  unfold df_X3_readRepeat_33 at h
  refine lv_lstore (lv' := [(6, .long y0), (0, .ref (a 1)), (1, .int x1), (3, .long x3), (5, .int x5)]) hx hb dX3_readRepeat_33 hl (by decide) rfl (fun ls hl => ?_)
  refine lv_lload hx hb dX3_readRepeat_35 (lv_at hl 0 rfl) ?_
  refine lv_lconst (v := 0) hx hb dX3_readRepeat_37 (by decide) ?_
  refine W.lcmp hx hb dX3_readRepeat_38 ?_
  refine lv_if_ne (tgt := 49) hx hb dX3_readRepeat_39 (by decide) (fun c4 => ?_) (fun c4 => ?_)
  · have h := nd_neg h c4
    exact (db_X3_readRepeat_49 C K) (x1) (x3) (y0) s0 _ _ _ h hP hD hS (lv_sub hl [1, 2, 3, 0] rfl)
  · have h := nd_pos h c4
    refine lv_aload_n hx hb dX3_readRepeat_42 rfl (lv_at hl 1 rfl) ?_
    refine lv_iconst (v := 5) hx hb dX3_readRepeat_43 (by decide) ?_
    refine lv_iload hx hb dX3_readRepeat_44 (lv_at hl 4 rfl) ?_
    obtain ⟨s26, hq, h⟩ := nd_b1_e h
    have hPc := dp_X3s_1 hP
    have hDc := dd_X3s_1 hD
    have hKc := dy_X3s_1 hK
    have hFc := nd_rs hDc hS hA
    have hzA : ∀ q : Nat, H.size ≤ q → A q := fun q h => hA q (Nat.le_trans hS.1 h)
    refine nd_cVv (As := [.int 5, .int x5]) (rest := []) (w' := dw_X3c (fun k => a (k + 1)) (fun k => ac (k + 1)) s26) ⟨hx, hb, hml, hown, hts⟩ (fun sz => dm_X3_blame l hlt dC dI (fun k => a (k + 1)) (fun k => ac (k + 1)) n (5) (x5) s0.2 hq sz) (cwV 2 hts gi_dm_X3_readRepeat_2 rfl rfl rfl (by decide +kernel) ⟨Nat.le_of_ble_eq_true rfl, Nat.le_of_ble_eq_true rfl⟩) hPc hDc hKc hS hA hN (va_recv hKc hPc (ci := 4) (q0 := 0) rfl rfl) rfl hl.1 rfl (Nat.le_of_ble_eq_true rfl) dX3_readRepeat_46 (fun H locs hP1 hD1 hk1 hS => ?_)
    obtain ⟨hP, hD⟩ := dn_X3s_1 hP hD hzA hk1 hP1 hD1
    obtain ⟨s28, es28, h⟩ := nd_let_e h
    have hP : va_P (dC, dI) vwCl (dw_X3s a ac s28) H := by rw [es28]; exact hP
    have hD : va_D A (dw_X3s a ac s28) := by rw [es28]; exact hD
    exact (db_X3_readRepeat_49 C K) (x1) (x3) (y0) s28 _ _ _ h hP hD hS (lv_sub hl [1, 2, 3, 0] rfl)
set_option maxHeartbeats 40000000 in
set_option maxRecDepth 100000 in
theorem db_X3_readRepeat_0 {p : Program} {l : Launch} {e : Env} {s : State} {m : MethodId} {args : Array Value} {below : List Frame} {meth : Method} {c : Code} {Q : State → Prop} {A : Nat → Prop} {dC : Nat → ClassId} {dI : Nat → Nat → Nat} {a : Nat → Nat} {ac : Nat → ClassId} {n : Nat} {r : St × (St)} (C : nd_C p l s m args c A (dC, dI) cX3_readRepeat 12 RX3 ow_dm_X3_readRepeat (dk_X3s ac)) (K : nd_Kv p l e (headSpec ow_dm_X3_readRepeat ({ frames := 3, cells := 0, slots := 0, locals := 66 })).room s m args below meth c Q A (dC, dI) cX3_readRepeat (St × (St)) (dw_X3s a ac) r) : dj_X3_readRepeat_0 p l e s m args below meth c Q A dC dI a ac (df_X3_readRepeat_0 n (a 0)) r := by
  obtain ⟨hlt, hx, hb, hml, hown, hts, hN, hA, hK⟩ := id C
  intro v0 v1 v2 s0 H locs ls h hP hD hS hl
  unfold df_X3_readRepeat_0 at h
  refine lv_aload_n hx hb dX3_readRepeat_0 rfl (lv_at hl 0 rfl) ?_
  refine va_get (D := (dC, dI)) (ci := 4) (v := .int (sI s0.2 1)) (C := RX3) (T := TX3) (N := 11) hx hb hts hi_dm_X3_readRepeat_X3 hown hK hP 1 rfl rfl 5 (by decide) (hts (.fieldLink RX3 39 "TimeMachine$Events" "total" "I") (List.mem_of_getElem? (i := 1) rfl)) (fun _ h9 => h9) rfl dX3_readRepeat_1 ?_
  refine lv_if_ne (tgt := 14) hx hb dX3_readRepeat_4 (by decide) (fun c1 => ?_) (fun c1 => ?_)
  · have h := nd_neg h c1
    refine lv_aload_n hx hb dX3_readRepeat_14 rfl (lv_at hl 0 rfl) ?_
    refine va_get (D := (dC, dI)) (ci := 4) (v := .int (sI s0.2 2)) (C := RX3) (T := TX3) (N := 11) hx hb hts hi_dm_X3_readRepeat_X3 hown hK hP 1 rfl rfl 7 (by decide) (hts (.fieldLink RX3 44 "TimeMachine$Events" "place" "I") (List.mem_of_getElem? (i := 2) rfl)) (fun _ h9 => h9) rfl dX3_readRepeat_15 ?_
    refine lv_topi (fun z2 ez2 => ?_)
    have h := nd_at h ez2
    refine lv_istore (lv' := [(5, .int z2), (0, .ref (a 1)), (1, .int v0), (2, .int v1), (3, .long v2)]) hx hb dX3_readRepeat_18 hl (by decide) rfl (fun ls hl => ?_)
    refine lv_iload_n hx hb dX3_readRepeat_20 rfl (lv_at hl 3 rfl) ?_
    refine lv_if_ne (tgt := 31) hx hb dX3_readRepeat_21 (by decide) (fun c3 => ?_) (fun c3 => ?_)
    · have h := nd_neg h c3
      refine lv_iload_n hx hb dX3_readRepeat_31 rfl (lv_at hl 3 rfl) ?_
      refine lv_i2l hx hb dX3_readRepeat_32 rfl ?_
      exact (db_X3_readRepeat_33 C K) (v0) (v2) (z2) ((v1.toInt64)) s0 _ _ _ h hP hD hS (lv_sub hl [1, 2, 4, 0] rfl)
    · have h := nd_pos h c3
      refine lv_aload_n hx hb dX3_readRepeat_24 rfl (lv_at hl 1 rfl) ?_
      obtain ⟨q29, s30, hq, h⟩ := nd_b2_e h
      have hPc := hP
      have hDc := hD
      have hKc := hK
      have hFc := nd_rs hD hS hA
      refine nd_cVl (As := []) (rest := []) (q := q29) (w' := dw_X3s a ac s30) ⟨hx, hb, hml, hown, hts⟩ (fun sz => dm_X3_readVarint l hlt dC dI a ac n  s0 hq sz) (cwV 0 hts gi_dm_X3_readRepeat_3 rfl rfl rfl (by decide +kernel) ⟨Nat.le_of_ble_eq_true rfl, Nat.le_of_ble_eq_true rfl⟩) hPc hDc hKc hS hA hN (va_recv hKc hPc (ci := 4) (q0 := 1) rfl rfl) rfl hl.1 rfl (Nat.le_of_ble_eq_true rfl) dX3_readRepeat_25 (fun H locs hP1 hD1 hk1 hS => ?_)
      have hP := hP1
      have hD := hD1.weaken (fun k q _ h => hFc q.1 h)
      refine lv_goto (tgt := 33) hx hb dX3_readRepeat_28 (by decide) ?_
      exact (db_X3_readRepeat_33 C K) (v0) (v2) (z2) (q29) s30 _ _ _ h hP hD hS (lv_sub hl [1, 2, 4, 0] rfl)
  · have h := nd_pos h c1
    refine lv_aload_n hx hb dX3_readRepeat_7 rfl (lv_at hl 0 rfl) ?_
    refine lv_iconst (v := 4) hx hb dX3_readRepeat_8 (by decide) ?_
    refine lv_iload_n hx hb dX3_readRepeat_9 rfl (lv_at hl 1 rfl) ?_
    obtain ⟨s33, hq, h⟩ := nd_b1_e h
    have hPc := dp_X3s_1 hP
    have hDc := dd_X3s_1 hD
    have hKc := dy_X3s_1 hK
    have hFc := nd_rs hDc hS hA
    have hzA : ∀ q : Nat, H.size ≤ q → A q := fun q h => hA q (Nat.le_trans hS.1 h)
    refine nd_cVv (As := [.int 4, .int v0]) (rest := []) (w' := dw_X3c (fun k => a (k + 1)) (fun k => ac (k + 1)) s33) ⟨hx, hb, hml, hown, hts⟩ (fun sz => dm_X3_blame l hlt dC dI (fun k => a (k + 1)) (fun k => ac (k + 1)) n (4) (v0) s0.2 hq sz) (cwV 2 hts gi_dm_X3_readRepeat_2 rfl rfl rfl (by decide +kernel) ⟨Nat.le_of_ble_eq_true rfl, Nat.le_of_ble_eq_true rfl⟩) hPc hDc hKc hS hA hN (va_recv hKc hPc (ci := 4) (q0 := 0) rfl rfl) rfl hl.1 rfl (Nat.le_of_ble_eq_true rfl) dX3_readRepeat_10 (fun H locs hP1 hD1 hk1 hS => ?_)
    obtain ⟨hP, hD⟩ := dn_X3s_1 hP hD hzA hk1 hP1 hD1
    obtain ⟨s35, es35, h⟩ := nd_let_e h
    have hP : va_P (dC, dI) vwCl (dw_X3s a ac s35) H := by rw [es35]; exact hP
    have hD : va_D A (dw_X3s a ac s35) := by rw [es35]; exact hD
    exact K _ _ _ _ _ dX3_readRepeat_13 (Option.some.inj h).symm hP hD hS
set_option maxHeartbeats 40000000 in
set_option maxRecDepth 100000 in
theorem dm_X3_readRepeat (l : Launch) (hlt : l.stackTraces = false) (dC : Nat → ClassId) (dI : Nat → Nat → Nat) (a : Nat → Nat) (ac : Nat → ClassId) (n : Nat) (v0 : Int32) (v1 : Int32) (v2 : Int64) (s0 : St × (St)) {r : St × (St)} (h : df_X3_readRepeat n (a 0) v0 v1 v2 s0 = some r) (sz : Nat) : Met l yX3_readRepeat ow_dm_X3_readRepeat ({ frames := 3, cells := 0, slots := 0, locals := 66 }) (va_Pc [.ref (a 1), .int v0, .int v1, .long v2] (fun U => U.heap.size = sz ∧ va_P (dC, dI) vwCl (dw_X3s a ac s0) U.heap ∧ va_K (dC, dI) vwCl (dk_X3s ac) U ∧ va_D (fun _ => True) (dw_X3s a ac s0) ∧ nv_E dI (va_A (dw_X3s a ac s0) sz) U)) (va_Qv (fun _ => True) (fun (_ : Unit) t => va_P (dC, dI) vwCl (dw_X3s a ac r) t.heap ∧ va_K (dC, dI) vwCl (dk_X3s ac) t ∧ va_D (va_A (dw_X3s a ac s0) sz) (dw_X3s a ac r)) (va_A (dw_X3s a ac s0) sz)) 0 0 (va_A (dw_X3s a ac s0) sz) := by
  refine Met.ofW (cc := cX3_readRepeat) (maxL := 12) (ret := none) (by decide) rfl ?_
  intro p e s m args below meth c s₁ B hml hv
  obtain ⟨rfl, hsz, hP, hK, hD0, hN⟩ := hv
  have hx := B.exec
  have hb := B.bytes
  have hr := B.returns
  have hts := atoms_spec (ws := ow_dm_X3_readRepeat) B.pre
  have hown : s.vm.findClass RX3 = some m.cls := findClass_of_methodNamed B.named
  have hlocks := B.notSynchronized
  subst hsz
  have hD := hD0.self (sz := s.heap.size)
  generalize hAe : va_A (dw_X3s a ac s0) s.heap.size = A at hD hN ⊢
  have hA : ∀ q : Nat, s.heap.size ≤ q → A q := fun q h => by rw [← hAe]; exact Or.inr h
  have hl := lv_entry ([.ref (a 1), .int v0, .int v1, .long v2]) (n := 12) (Nat.le_of_ble_eq_true rfl)
  rw [lg_entry_eq]
  generalize (lg_sl ([.ref (a 1), .int v0, .int v1, .long v2]) ++ List.replicate (12 - (lg_sl ([.ref (a 1), .int v0, .int v1, .long v2])).length) Slot.unset).toArray = ls at hl ⊢
  have hl : lv_has ls 12 [(0, .ref (a 1)), (1, .int v0), (2, .int v1), (3, .long v2)] := hl
  exact db_X3_readRepeat_0 (dC := dC) (dI := dI) (a := a) (ac := ac) (n := n) (r := r) ⟨hlt, hx, hb, hml, hown, hts, hN, hA, hK⟩ (fun pc τ H locs ls d er hP hD hS => by subst er; exact W.vret hx hb hr (fun t ht hW => ⟨⟨(), rfl, trivial, by rw [ht]; exact hP, va_K.moved hW.alike hK, hD⟩, hS.F ht⟩) hS.2.2 d) v0 v1 v2 s0 _ _ _ h hP hD va_S.rf (lv_sub hl [0, 1, 2, 3] rfl)
def ow_dm_X3_readEntry : List Cond := Cond.code yX3_readEntry cX3_readEntry 10 none :: ([Cond.fieldLink RX3 44 "TimeMachine$Events" "place" "I", Cond.methodLink RX3 117 yX3_readByte, Cond.instanceMethod yX3_readByte, Cond.selects RX3 yX3_readByte yX3_readByte, Cond.initialized RX3, Cond.methodLink RX3 121 yX3_isHead, Cond.static yX3_isHead, Cond.fieldLink RX3 95 "TimeMachine$Events" "fault" "I", Cond.methodLink RX3 101 yX3_readVarint, Cond.instanceMethod yX3_readVarint, Cond.selects RX3 yX3_readVarint yX3_readVarint, Cond.fieldLink RX3 39 "TimeMachine$Events" "total" "I", Cond.fieldLink RX3 13 "TimeMachine$Events" "at" "[J", Cond.methodLink RX3 129 yX3_readBrought, Cond.instanceMethod yX3_readBrought, Cond.selects RX3 yX3_readBrought yX3_readBrought, Cond.methodLink RX3 66 yX3_difference, Cond.instanceMethod yX3_difference, Cond.selects RX3 yX3_difference yX3_difference, Cond.methodLink RX3 125 yX3_readRepeat, Cond.instanceMethod yX3_readRepeat, Cond.selects RX3 yX3_readRepeat yX3_readRepeat, Cond.methodLink RX3 107 yX3_blame, Cond.instanceMethod yX3_blame, Cond.selects RX3 yX3_blame yX3_blame] ++ (u_ws RX3 TX3 11 ++ (ow_dm_X3_readByte ++ (ow_dm_X3_isHead ++ (ow_dm_X3_readVarint ++ (ow_dm_X3_readBrought ++ (ow_dm_X3_difference ++ (ow_dm_X3_readRepeat ++ (ow_dm_X3_blame ++ [])))))))))
theorem gd_dm_X3_readEntry : ∀ w ∈ ow_dm_X3_readEntry, (w.onTables && w.keeps) = true ∨ ∃ ty, w = Cond.arrayClass ty := List.forall_mem_cons.mpr ⟨good_of_word rfl, List.forall_mem_append.mpr ⟨fun w h => good_of_word (List.all_eq_true.mp (by decide +kernel) w h), List.forall_mem_append.mpr ⟨gu_X3, List.forall_mem_append.mpr ⟨gd_dm_X3_readByte, List.forall_mem_append.mpr ⟨gd_dm_X3_isHead, List.forall_mem_append.mpr ⟨gd_dm_X3_readVarint, List.forall_mem_append.mpr ⟨gd_dm_X3_readBrought, List.forall_mem_append.mpr ⟨gd_dm_X3_difference, List.forall_mem_append.mpr ⟨gd_dm_X3_readRepeat, List.forall_mem_append.mpr ⟨gd_dm_X3_blame, fun _ h => nomatch h⟩⟩⟩⟩⟩⟩⟩⟩⟩⟩
theorem hi_dm_X3_readEntry_X3 : ∀ w ∈ u_ws RX3 TX3 11, w ∈ ow_dm_X3_readEntry := fun w h => List.mem_cons_of_mem _ (List.mem_append_right _ (List.mem_append_left _ h))
theorem gi_dm_X3_readEntry_0 : GoodIn ow_dm_X3_readEntry (wsV RX3 117 RX3 yX3_readByte ow_dm_X3_readByte) := goodIn_app (goodIn_of _ (by decide +kernel)) (fun w h => ⟨List.mem_cons_of_mem _ (List.mem_append_right _ (List.mem_append_right _ (List.mem_append_left _ h))), gd_dm_X3_readByte w h⟩)
theorem gi_dm_X3_readEntry_1 : GoodIn ow_dm_X3_readEntry (wsS RX3 121 yX3_isHead ow_dm_X3_isHead) := goodIn_app (goodIn_of _ (by decide +kernel)) (fun w h => ⟨List.mem_cons_of_mem _ (List.mem_append_right _ (List.mem_append_right _ (List.mem_append_right _ (List.mem_append_left _ h)))), gd_dm_X3_isHead w h⟩)
theorem gi_dm_X3_readEntry_2 : GoodIn ow_dm_X3_readEntry (wsV RX3 101 RX3 yX3_readVarint ow_dm_X3_readVarint) := goodIn_app (goodIn_of _ (by decide +kernel)) (fun w h => ⟨List.mem_cons_of_mem _ (List.mem_append_right _ (List.mem_append_right _ (List.mem_append_right _ (List.mem_append_right _ (List.mem_append_left _ h))))), gd_dm_X3_readVarint w h⟩)
theorem gi_dm_X3_readEntry_3 : GoodIn ow_dm_X3_readEntry (wsV RX3 129 RX3 yX3_readBrought ow_dm_X3_readBrought) := goodIn_app (goodIn_of _ (by decide +kernel)) (fun w h => ⟨List.mem_cons_of_mem _ (List.mem_append_right _ (List.mem_append_right _ (List.mem_append_right _ (List.mem_append_right _ (List.mem_append_right _ (List.mem_append_left _ h)))))), gd_dm_X3_readBrought w h⟩)
theorem gi_dm_X3_readEntry_4 : GoodIn ow_dm_X3_readEntry (wsV RX3 66 RX3 yX3_difference ow_dm_X3_difference) := goodIn_app (goodIn_of _ (by decide +kernel)) (fun w h => ⟨List.mem_cons_of_mem _ (List.mem_append_right _ (List.mem_append_right _ (List.mem_append_right _ (List.mem_append_right _ (List.mem_append_right _ (List.mem_append_right _ (List.mem_append_left _ h))))))), gd_dm_X3_difference w h⟩)
theorem gi_dm_X3_readEntry_5 : GoodIn ow_dm_X3_readEntry (wsV RX3 125 RX3 yX3_readRepeat ow_dm_X3_readRepeat) := goodIn_app (goodIn_of _ (by decide +kernel)) (fun w h => ⟨List.mem_cons_of_mem _ (List.mem_append_right _ (List.mem_append_right _ (List.mem_append_right _ (List.mem_append_right _ (List.mem_append_right _ (List.mem_append_right _ (List.mem_append_right _ (List.mem_append_left _ h)))))))), gd_dm_X3_readRepeat w h⟩)
theorem gi_dm_X3_readEntry_6 : GoodIn ow_dm_X3_readEntry (wsV RX3 107 RX3 yX3_blame ow_dm_X3_blame) := goodIn_app (goodIn_of _ (by decide +kernel)) (fun w h => ⟨List.mem_cons_of_mem _ (List.mem_append_right _ (List.mem_append_right _ (List.mem_append_right _ (List.mem_append_right _ (List.mem_append_right _ (List.mem_append_right _ (List.mem_append_right _ (List.mem_append_right _ (List.mem_append_left _ h))))))))), gd_dm_X3_blame w h⟩)
def dj_X3_readEntry_156 (p : Program) (l : Launch) (e : Env) (s : State) (m : MethodId) (args : Array Value) (below : List Frame) (meth : Method) (c : Code) (Q : State → Prop) (A : Nat → Prop) (dC : Nat → ClassId) (dI : Nat → Nat → Nat) (a : Nat → Nat) (ac : Nat → ClassId) (g : (St × (St)) → Option (St × (St))) (r : St × (St)) : Prop := ∀ (s0 : St × (St)) (H : Heap) (locs : List Loc) (ls : Array Slot), g s0 = some r → va_P (dC, dI) vwCl (dw_X3s a ac s0) H → va_D A (dw_X3s a ac s0) → va_S A s.heap H locs → lv_has ls 10 [] → W p l e (headSpec ow_dm_X3_readEntry ({ frames := 4, cells := 0, slots := 0, locals := 98 })).room s m args below meth c H locs 0 0 Q (F0 m 156 ls [])
def dj_X3_readEntry_152 (p : Program) (l : Launch) (e : Env) (s : State) (m : MethodId) (args : Array Value) (below : List Frame) (meth : Method) (c : Code) (Q : State → Prop) (A : Nat → Prop) (dC : Nat → ClassId) (dI : Nat → Nat → Nat) (a : Nat → Nat) (ac : Nat → ClassId) (g : Int32 → Int32 → Int32 → Int64 → Int64 → (St × (St)) → Option (St × (St))) (r : St × (St)) : Prop := ∀ (y1 : Int32) (y2 : Int32) (y3 : Int32) (y4 : Int64) (y5 : Int64) (s0 : St × (St)) (H : Heap) (locs : List Loc) (ls : Array Slot), g y1 y2 y3 y4 y5 s0 = some r → va_P (dC, dI) vwCl (dw_X3s a ac s0) H → va_D A (dw_X3s a ac s0) → va_S A s.heap H locs → lv_has ls 10 [] → W p l e (headSpec ow_dm_X3_readEntry ({ frames := 4, cells := 0, slots := 0, locals := 98 })).room s m args below meth c H locs 0 0 Q (F0 m 152 ls [.long y5, .long y4, .int y3, .int y2, .int y1, .ref (a 1)])
def dj_X3_readEntry_113 (p : Program) (l : Launch) (e : Env) (s : State) (m : MethodId) (args : Array Value) (below : List Frame) (meth : Method) (c : Code) (Q : State → Prop) (A : Nat → Prop) (dC : Nat → ClassId) (dI : Nat → Nat → Nat) (a : Nat → Nat) (ac : Nat → ClassId) (g : Int32 → Int32 → Int32 → Int64 → (St × (St)) → Option (St × (St))) (r : St × (St)) : Prop := ∀ (x3 : Int32) (x5 : Int32) (x6 : Int32) (y0 : Int64) (s0 : St × (St)) (H : Heap) (locs : List Loc) (ls : Array Slot), g x3 x5 x6 y0 s0 = some r → va_P (dC, dI) vwCl (dw_X3s a ac s0) H → va_D A (dw_X3s a ac s0) → va_S A s.heap H locs → lv_has ls 10 [(0, .ref (a 1)), (3, .int x3), (5, .int x5), (6, .int x6)] → W p l e (headSpec ow_dm_X3_readEntry ({ frames := 4, cells := 0, slots := 0, locals := 98 })).room s m args below meth c H locs 0 0 Q (F0 m 113 ls [.long y0])
def dj_X3_readEntry_57 (p : Program) (l : Launch) (e : Env) (s : State) (m : MethodId) (args : Array Value) (below : List Frame) (meth : Method) (c : Code) (Q : State → Prop) (A : Nat → Prop) (dC : Nat → ClassId) (dI : Nat → Nat → Nat) (a : Nat → Nat) (ac : Nat → ClassId) (g : Int64 → Int32 → Int32 → Int32 → Int32 → (St × (St)) → Option (St × (St))) (r : St × (St)) : Prop := ∀ (x1 : Int64) (x3 : Int32) (x5 : Int32) (x6 : Int32) (x7 : Int32) (s0 : St × (St)) (H : Heap) (locs : List Loc) (ls : Array Slot), g x1 x3 x5 x6 x7 s0 = some r → va_P (dC, dI) vwCl (dw_X3s a ac s0) H → va_D A (dw_X3s a ac s0) → va_S A s.heap H locs → lv_has ls 10 [(0, .ref (a 1)), (1, .long x1), (3, .int x3), (5, .int x5), (6, .int x6), (7, .int x7)] → W p l e (headSpec ow_dm_X3_readEntry ({ frames := 4, cells := 0, slots := 0, locals := 98 })).room s m args below meth c H locs 0 0 Q (F0 m 57 ls [])
def dj_X3_readEntry_37 (p : Program) (l : Launch) (e : Env) (s : State) (m : MethodId) (args : Array Value) (below : List Frame) (meth : Method) (c : Code) (Q : State → Prop) (A : Nat → Prop) (dC : Nat → ClassId) (dI : Nat → Nat → Nat) (a : Nat → Nat) (ac : Nat → ClassId) (g : Int64 → Int32 → Int32 → Int32 → Int32 → (St × (St)) → Option (St × (St))) (r : St × (St)) : Prop := ∀ (x1 : Int64) (x3 : Int32) (x5 : Int32) (x6 : Int32) (y0 : Int32) (s0 : St × (St)) (H : Heap) (locs : List Loc) (ls : Array Slot), g x1 x3 x5 x6 y0 s0 = some r → va_P (dC, dI) vwCl (dw_X3s a ac s0) H → va_D A (dw_X3s a ac s0) → va_S A s.heap H locs → lv_has ls 10 [(0, .ref (a 1)), (1, .long x1), (3, .int x3), (5, .int x5), (6, .int x6)] → W p l e (headSpec ow_dm_X3_readEntry ({ frames := 4, cells := 0, slots := 0, locals := 98 })).room s m args below meth c H locs 0 0 Q (F0 m 37 ls [.int y0])
def dj_X3_readEntry_0 (p : Program) (l : Launch) (e : Env) (s : State) (m : MethodId) (args : Array Value) (below : List Frame) (meth : Method) (c : Code) (Q : State → Prop) (A : Nat → Prop) (dC : Nat → ClassId) (dI : Nat → Nat → Nat) (a : Nat → Nat) (ac : Nat → ClassId) (g : Int64 → (St × (St)) → Option (St × (St))) (r : St × (St)) : Prop := ∀ (v0 : Int64) (s0 : St × (St)) (H : Heap) (locs : List Loc) (ls : Array Slot), g v0 s0 = some r → va_P (dC, dI) vwCl (dw_X3s a ac s0) H → va_D A (dw_X3s a ac s0) → va_S A s.heap H locs → lv_has ls 10 [(0, .ref (a 1)), (1, .long v0)] → W p l e (headSpec ow_dm_X3_readEntry ({ frames := 4, cells := 0, slots := 0, locals := 98 })).room s m args below meth c H locs 0 0 Q (F0 m 0 ls [])
set_option maxHeartbeats 40000000 in
set_option maxRecDepth 100000 in
theorem db_X3_readEntry_156 {p : Program} {l : Launch} {e : Env} {s : State} {m : MethodId} {args : Array Value} {below : List Frame} {meth : Method} {c : Code} {Q : State → Prop} {A : Nat → Prop} {dC : Nat → ClassId} {dI : Nat → Nat → Nat} {a : Nat → Nat} {ac : Nat → ClassId} {n : Nat} {r : St × (St)} (C : nd_C p l s m args c A (dC, dI) cX3_readEntry 10 RX3 ow_dm_X3_readEntry (dk_X3s ac)) (K : nd_Kv p l e (headSpec ow_dm_X3_readEntry ({ frames := 4, cells := 0, slots := 0, locals := 98 })).room s m args below meth c Q A (dC, dI) cX3_readEntry (St × (St)) (dw_X3s a ac) r) : dj_X3_readEntry_156 p l e s m args below meth c Q A dC dI a ac (df_X3_readEntry_156 n (a 0)) r := by
  obtain ⟨hlt, hx, hb, hml, hown, hts, hN, hA, hK⟩ := id C
  intro s0 H locs ls h hP hD hS hl
  unfold df_X3_readEntry_156 at h
  exact K _ _ _ _ _ dX3_readEntry_156 (Option.some.inj h).symm hP hD hS
set_option maxHeartbeats 40000000 in
set_option maxRecDepth 100000 in
theorem db_X3_readEntry_152 {p : Program} {l : Launch} {e : Env} {s : State} {m : MethodId} {args : Array Value} {below : List Frame} {meth : Method} {c : Code} {Q : State → Prop} {A : Nat → Prop} {dC : Nat → ClassId} {dI : Nat → Nat → Nat} {a : Nat → Nat} {ac : Nat → ClassId} {n : Nat} {r : St × (St)} (C : nd_C p l s m args c A (dC, dI) cX3_readEntry 10 RX3 ow_dm_X3_readEntry (dk_X3s ac)) (K : nd_Kv p l e (headSpec ow_dm_X3_readEntry ({ frames := 4, cells := 0, slots := 0, locals := 98 })).room s m args below meth c Q A (dC, dI) cX3_readEntry (St × (St)) (dw_X3s a ac) r) : dj_X3_readEntry_152 p l e s m args below meth c Q A dC dI a ac (df_X3_readEntry_152 n (a 0)) r := by
  obtain ⟨hlt, hx, hb, hml, hown, hts, hN, hA, hK⟩ := id C
  intro y1 y2 y3 y4 y5 s0 H locs ls h hP hD hS hl
  unfold df_X3_readEntry_152 at h
  refine lv_ladd hx hb dX3_readEntry_152 ?_
  obtain ⟨s22, hq, h⟩ := nd_b1_e h
  have hPc := hP
  have hDc := hD
  have hKc := hK
  have hFc := nd_rs hD hS hA
  refine nd_cVv (As := [.int y1, .int y2, .int y3, .long ((y4 : Int64) + y5)]) (rest := []) (w' := dw_X3s a ac s22) ⟨hx, hb, hml, hown, hts⟩ (fun sz => dm_X3_readBrought l hlt dC dI a ac n (y1) (y2) (y3) (((y4 : Int64) + y5)) s0 hq sz) (cwV 4 hts gi_dm_X3_readEntry_3 rfl rfl rfl (by decide +kernel) ⟨Nat.le_of_ble_eq_true rfl, Nat.le_of_ble_eq_true rfl⟩) hPc hDc hKc hS hA hN (va_recv hKc hPc (ci := 4) (q0 := 1) rfl rfl) rfl hl.1 rfl (Nat.le_of_ble_eq_true rfl) dX3_readEntry_153 (fun H locs hP1 hD1 hk1 hS => ?_)
  have hP := hP1
  have hD := hD1.weaken (fun k q _ h => hFc q.1 h)
  exact (db_X3_readEntry_156 C K)  s22 _ _ _ h hP hD hS (lv_sub hl [] rfl)
set_option maxHeartbeats 40000000 in
set_option maxRecDepth 100000 in
theorem db_X3_readEntry_113 {p : Program} {l : Launch} {e : Env} {s : State} {m : MethodId} {args : Array Value} {below : List Frame} {meth : Method} {c : Code} {Q : State → Prop} {A : Nat → Prop} {dC : Nat → ClassId} {dI : Nat → Nat → Nat} {a : Nat → Nat} {ac : Nat → ClassId} {n : Nat} {r : St × (St)} (C : nd_C p l s m args c A (dC, dI) cX3_readEntry 10 RX3 ow_dm_X3_readEntry (dk_X3s ac)) (K : nd_Kv p l e (headSpec ow_dm_X3_readEntry ({ frames := 4, cells := 0, slots := 0, locals := 98 })).room s m args below meth c Q A (dC, dI) cX3_readEntry (St × (St)) (dw_X3s a ac) r) : dj_X3_readEntry_113 p l e s m args below meth c Q A dC dI a ac (df_X3_readEntry_113 n (a 0)) r := by
  obtain ⟨hlt, hx, hb, hml, hown, hts, hN, hA, hK⟩ := id C
  intro x3 x5 x6 y0 s0 H locs ls h hP hD hS hl
  unfold df_X3_readEntry_113 at h
  refine lv_lstore (lv' := [(8, .long y0), (0, .ref (a 1)), (3, .int x3), (5, .int x5), (6, .int x6)]) hx hb dX3_readEntry_113 hl (by decide) rfl (fun ls hl => ?_)
  refine lv_aload_n hx hb dX3_readEntry_115 rfl (lv_at hl 1 rfl) ?_
  refine va_get (D := (dC, dI)) (ci := 4) (v := .int (sI s0.2 4)) (C := RX3) (T := TX3) (N := 11) hx hb hts hi_dm_X3_readEntry_X3 hown hK hP 1 rfl rfl 9 (by decide) (hts (.fieldLink RX3 95 "TimeMachine$Events" "fault" "I") (List.mem_of_getElem? (i := 8) rfl)) (fun _ h9 => h9) rfl dX3_readEntry_116 ?_
  refine lv_if_ne (tgt := 156) hx hb dX3_readEntry_119 (by decide) (fun c18 => ?_) (fun c18 => ?_)
  · have h := nd_neg h c18
    exact (db_X3_readEntry_156 C K)  s0 _ _ _ h hP hD hS (lv_sub hl [] rfl)
  · have h := nd_pos h c18
    refine lv_aload_n hx hb dX3_readEntry_122 rfl (lv_at hl 1 rfl) ?_
    refine lv_iload_n hx hb dX3_readEntry_123 rfl (lv_at hl 2 rfl) ?_
    refine lv_iload hx hb dX3_readEntry_124 (lv_at hl 3 rfl) ?_
    refine lv_iload hx hb dX3_readEntry_126 (lv_at hl 4 rfl) ?_
    refine lv_lload hx hb dX3_readEntry_128 (lv_at hl 0 rfl) ?_
    refine lv_aload_n hx hb dX3_readEntry_130 rfl (lv_at hl 1 rfl) ?_
    refine va_get (D := (dC, dI)) (ci := 4) (v := .int (sI s0.2 1)) (C := RX3) (T := TX3) (N := 11) hx hb hts hi_dm_X3_readEntry_X3 hown hK hP 1 rfl rfl 5 (by decide) (hts (.fieldLink RX3 39 "TimeMachine$Events" "total" "I") (List.mem_of_getElem? (i := 12) rfl)) (fun _ h9 => h9) rfl dX3_readEntry_131 ?_
    refine lv_if_ne (tgt := 141) hx hb dX3_readEntry_134 (by decide) (fun c19 => ?_) (fun c19 => ?_)
    · have h := nd_neg h c19
      refine lv_aload_n hx hb dX3_readEntry_141 rfl (lv_at hl 1 rfl) ?_
      refine va_get (D := (dC, dI)) (ci := 4) (v := .ref (a 3)) (C := RX3) (T := TX3) (N := 11) hx hb hts hi_dm_X3_readEntry_X3 hown hK hP 1 rfl rfl 1 (by decide) (hts (.fieldLink RX3 13 "TimeMachine$Events" "at" "[J") (List.mem_of_getElem? (i := 13) rfl)) (fun _ h9 => h9) rfl dX3_readEntry_142 ?_
      refine lv_aload_n hx hb dX3_readEntry_145 rfl (lv_at hl 1 rfl) ?_
      refine va_get (D := (dC, dI)) (ci := 4) (v := .int (sI s0.2 1)) (C := RX3) (T := TX3) (N := 11) hx hb hts hi_dm_X3_readEntry_X3 hown hK hP 1 rfl rfl 5 (by decide) (hts (.fieldLink RX3 39 "TimeMachine$Events" "total" "I") (List.mem_of_getElem? (i := 12) rfl)) (fun _ h9 => h9) rfl dX3_readEntry_146 ?_
      refine lv_iconst (v := 1) hx hb dX3_readEntry_149 (by decide) ?_
      refine lv_isub hx hb dX3_readEntry_150 ?_
      obtain ⟨i20, h⟩ := nd_ck_e h
      refine va_lald (i := ((sI s0.2 1) - 1)) hx hb hK hP 3 2 rfl rfl i20 dX3_readEntry_151 ?_
      exact (db_X3_readEntry_152 C K) (x3) (x5) (x6) (y0) ((sQ s0.2 0 (Int32.toNatClampNeg ((sI s0.2 1) - 1)))) s0 _ _ _ h hP hD hS (lv_sub hl [] rfl)
    · have h := nd_pos h c19
      refine lv_lconst (v := 0) hx hb dX3_readEntry_137 (by decide) ?_
      refine lv_goto (tgt := 152) hx hb dX3_readEntry_138 (by decide) ?_
      exact (db_X3_readEntry_152 C K) (x3) (x5) (x6) (y0) (0) s0 _ _ _ h hP hD hS (lv_sub hl [] rfl)
set_option maxHeartbeats 40000000 in
set_option maxRecDepth 100000 in
theorem db_X3_readEntry_57 {p : Program} {l : Launch} {e : Env} {s : State} {m : MethodId} {args : Array Value} {below : List Frame} {meth : Method} {c : Code} {Q : State → Prop} {A : Nat → Prop} {dC : Nat → ClassId} {dI : Nat → Nat → Nat} {a : Nat → Nat} {ac : Nat → ClassId} {n : Nat} {r : St × (St)} (C : nd_C p l s m args c A (dC, dI) cX3_readEntry 10 RX3 ow_dm_X3_readEntry (dk_X3s ac)) (K : nd_Kv p l e (headSpec ow_dm_X3_readEntry ({ frames := 4, cells := 0, slots := 0, locals := 98 })).room s m args below meth c Q A (dC, dI) cX3_readEntry (St × (St)) (dw_X3s a ac) r) : dj_X3_readEntry_57 p l e s m args below meth c Q A dC dI a ac (df_X3_readEntry_57 n (a 0)) r := by
  obtain ⟨hlt, hx, hb, hml, hown, hts, hN, hA, hK⟩ := id C
  intro x1 x3 x5 x6 x7 s0 H locs ls h hP hD hS hl
  unfold df_X3_readEntry_57 at h
  refine lv_aload_n hx hb dX3_readEntry_57 rfl (lv_at hl 0 rfl) ?_
  refine va_get (D := (dC, dI)) (ci := 4) (v := .int (sI s0.2 4)) (C := RX3) (T := TX3) (N := 11) hx hb hts hi_dm_X3_readEntry_X3 hown hK hP 1 rfl rfl 9 (by decide) (hts (.fieldLink RX3 95 "TimeMachine$Events" "fault" "I") (List.mem_of_getElem? (i := 8) rfl)) (fun _ h9 => h9) rfl dX3_readEntry_58 ?_
  refine lv_if_eq (tgt := 65) hx hb dX3_readEntry_61 (by decide) (fun c12 => ?_) (fun c12 => ?_)
  · have h := nd_pos h c12
    refine lv_iload hx hb dX3_readEntry_65 (lv_at hl 3 rfl) ?_
    refine lv_iconst (v := 5) hx hb dX3_readEntry_67 (by decide) ?_
    refine lv_icmp_ne (tgt := 80) hx hb dX3_readEntry_68 (by decide) (fun c13 => ?_) (fun c13 => ?_)
    · have h := nd_neg h c13
      refine lv_iload hx hb dX3_readEntry_80 (lv_at hl 5 rfl) ?_
      refine lv_if_eq (tgt := 109) hx hb dX3_readEntry_82 (by decide) (fun c14 => ?_) (fun c14 => ?_)
      · have h := nd_pos h c14
        refine lv_aload_n hx hb dX3_readEntry_109 rfl (lv_at hl 0 rfl) ?_
        obtain ⟨q15, s16, hq, h⟩ := nd_b2_e h
        have hPc := hP
        have hDc := hD
        have hKc := hK
        have hFc := nd_rs hD hS hA
        refine nd_cVl (As := []) (rest := []) (q := q15) (w' := dw_X3s a ac s16) ⟨hx, hb, hml, hown, hts⟩ (fun sz => dm_X3_readVarint l hlt dC dI a ac n  s0 hq sz) (cwV 0 hts gi_dm_X3_readEntry_2 rfl rfl rfl (by decide +kernel) ⟨Nat.le_of_ble_eq_true rfl, Nat.le_of_ble_eq_true rfl⟩) hPc hDc hKc hS hA hN (va_recv hKc hPc (ci := 4) (q0 := 1) rfl rfl) rfl hl.1 rfl (Nat.le_of_ble_eq_true rfl) dX3_readEntry_110 (fun H locs hP1 hD1 hk1 hS => ?_)
        have hP := hP1
        have hD := hD1.weaken (fun k q _ h => hFc q.1 h)
        exact (db_X3_readEntry_113 C K) (x3) (x5) (x6) (q15) s16 _ _ _ h hP hD hS (lv_sub hl [0, 2, 3, 4] rfl)
      · have h := nd_neg h c14
        refine lv_aload_n hx hb dX3_readEntry_85 rfl (lv_at hl 0 rfl) ?_
        refine va_get (D := (dC, dI)) (ci := 4) (v := .int (sI s0.2 1)) (C := RX3) (T := TX3) (N := 11) hx hb hts hi_dm_X3_readEntry_X3 hown hK hP 1 rfl rfl 5 (by decide) (hts (.fieldLink RX3 39 "TimeMachine$Events" "total" "I") (List.mem_of_getElem? (i := 12) rfl)) (fun _ h9 => h9) rfl dX3_readEntry_86 ?_
        refine lv_if_ne (tgt := 96) hx hb dX3_readEntry_89 (by decide) (fun c24 => ?_) (fun c24 => ?_)
        · have h := nd_neg h c24
          refine lv_aload_n hx hb dX3_readEntry_96 rfl (lv_at hl 0 rfl) ?_
          refine lv_aload_n hx hb dX3_readEntry_97 rfl (lv_at hl 0 rfl) ?_
          refine va_get (D := (dC, dI)) (ci := 4) (v := .int (sI s0.2 1)) (C := RX3) (T := TX3) (N := 11) hx hb hts hi_dm_X3_readEntry_X3 hown hK hP 1 rfl rfl 5 (by decide) (hts (.fieldLink RX3 39 "TimeMachine$Events" "total" "I") (List.mem_of_getElem? (i := 12) rfl)) (fun _ h9 => h9) rfl dX3_readEntry_98 ?_
          refine lv_iconst (v := 1) hx hb dX3_readEntry_101 (by decide) ?_
          refine lv_isub hx hb dX3_readEntry_102 ?_
          obtain ⟨q25, s26, hq, h⟩ := nd_b2_e h
          have hPc := dp_X3s_1 hP
          have hDc := dd_X3s_1 hD
          have hKc := dy_X3s_1 hK
          have hFc := nd_rs hDc hS hA
          have hzA : ∀ q : Nat, H.size ≤ q → A q := fun q h => hA q (Nat.le_trans hS.1 h)
          refine nd_cVl (As := [.int ((sI s0.2 1) - 1)]) (rest := []) (q := q25) (w' := dw_X3c (fun k => a (k + 1)) (fun k => ac (k + 1)) s26) ⟨hx, hb, hml, hown, hts⟩ (fun sz => dm_X3_difference l hlt dC dI (fun k => a (k + 1)) (fun k => ac (k + 1)) n (((sI s0.2 1) - 1)) s0.2 hq sz) (cwV 1 hts gi_dm_X3_readEntry_4 rfl rfl rfl (by decide +kernel) ⟨Nat.le_of_ble_eq_true rfl, Nat.le_of_ble_eq_true rfl⟩) hPc hDc hKc hS hA hN (va_recv hKc hPc (ci := 4) (q0 := 0) rfl rfl) rfl hl.1 rfl (Nat.le_of_ble_eq_true rfl) dX3_readEntry_103 (fun H locs hP1 hD1 hk1 hS => ?_)
          obtain ⟨hP, hD⟩ := dn_X3s_1 hP hD hzA hk1 hP1 hD1
          obtain ⟨s28, es28, h⟩ := nd_let_e h
          have hP : va_P (dC, dI) vwCl (dw_X3s a ac s28) H := by rw [es28]; exact hP
          have hD : va_D A (dw_X3s a ac s28) := by rw [es28]; exact hD
          refine lv_goto (tgt := 113) hx hb dX3_readEntry_106 (by decide) ?_
          exact (db_X3_readEntry_113 C K) (x3) (x5) (x6) (q25) s28 _ _ _ h hP hD hS (lv_sub hl [0, 2, 3, 4] rfl)
        · have h := nd_pos h c24
          refine lv_lconst (v := 0) hx hb dX3_readEntry_92 (by decide) ?_
          refine lv_goto (tgt := 113) hx hb dX3_readEntry_93 (by decide) ?_
          exact (db_X3_readEntry_113 C K) (x3) (x5) (x6) (0) s0 _ _ _ h hP hD hS (lv_sub hl [0, 2, 3, 4] rfl)
    · have h := nd_pos h c13
      refine lv_aload_n hx hb dX3_readEntry_71 rfl (lv_at hl 0 rfl) ?_
      refine lv_iload_n hx hb dX3_readEntry_72 rfl (lv_at hl 2 rfl) ?_
      refine lv_iload hx hb dX3_readEntry_73 (lv_at hl 4 rfl) ?_
      refine lv_lload_n hx hb dX3_readEntry_75 rfl (lv_at hl 1 rfl) ?_
      obtain ⟨s30, hq, h⟩ := nd_b1_e h
      have hPc := hP
      have hDc := hD
      have hKc := hK
      have hFc := nd_rs hD hS hA
      refine nd_cVv (As := [.int x3, .int x6, .long x1]) (rest := []) (w' := dw_X3s a ac s30) ⟨hx, hb, hml, hown, hts⟩ (fun sz => dm_X3_readRepeat l hlt dC dI a ac n (x3) (x6) (x1) s0 hq sz) (cwV 3 hts gi_dm_X3_readEntry_5 rfl rfl rfl (by decide +kernel) ⟨Nat.le_of_ble_eq_true rfl, Nat.le_of_ble_eq_true rfl⟩) hPc hDc hKc hS hA hN (va_recv hKc hPc (ci := 4) (q0 := 1) rfl rfl) rfl hl.1 rfl (Nat.le_of_ble_eq_true rfl) dX3_readEntry_76 (fun H locs hP1 hD1 hk1 hS => ?_)
      have hP := hP1
      have hD := hD1.weaken (fun k q _ h => hFc q.1 h)
      exact K _ _ _ _ _ dX3_readEntry_79 (Option.some.inj h).symm hP hD hS
  · have h := nd_neg h c12
    exact K _ _ _ _ _ dX3_readEntry_64 (Option.some.inj h).symm hP hD hS
set_option maxHeartbeats 40000000 in
set_option maxRecDepth 100000 in
theorem db_X3_readEntry_37 {p : Program} {l : Launch} {e : Env} {s : State} {m : MethodId} {args : Array Value} {below : List Frame} {meth : Method} {c : Code} {Q : State → Prop} {A : Nat → Prop} {dC : Nat → ClassId} {dI : Nat → Nat → Nat} {a : Nat → Nat} {ac : Nat → ClassId} {n : Nat} {r : St × (St)} (C : nd_C p l s m args c A (dC, dI) cX3_readEntry 10 RX3 ow_dm_X3_readEntry (dk_X3s ac)) (K : nd_Kv p l e (headSpec ow_dm_X3_readEntry ({ frames := 4, cells := 0, slots := 0, locals := 98 })).room s m args below meth c Q A (dC, dI) cX3_readEntry (St × (St)) (dw_X3s a ac) r) : dj_X3_readEntry_37 p l e s m args below meth c Q A dC dI a ac (df_X3_readEntry_37 n (a 0)) r := by
  obtain ⟨hlt, hx, hb, hml, hown, hts, hN, hA, hK⟩ := id C
  intro x1 x3 x5 x6 y0 s0 H locs ls h hP hD hS hl
  unfold df_X3_readEntry_37 at h
  refine lv_istore (lv' := [(7, .int y0), (0, .ref (a 1)), (1, .long x1), (3, .int x3), (5, .int x5), (6, .int x6)]) hx hb dX3_readEntry_37 hl (by decide) rfl (fun ls hl => ?_)
  refine lv_iload hx hb dX3_readEntry_39 (lv_at hl 4 rfl) ?_
  refine lv_iload hx hb dX3_readEntry_41 (lv_at hl 5 rfl) ?_
  refine lv_iload hx hb dX3_readEntry_43 (lv_at hl 0 rfl) ?_
  obtain ⟨q8, s9, hq, h⟩ := nd_b2_e h
  have hPc : va_P (dC, dI) vwCl (dw_P a ac ()) H := nd_p0
  have hDc : va_D A (dw_P a ac ()) := nd_d0
  have hKc : va_K (dC, dI) vwCl (dk_P ac) s := nd_y0 hK
  have hFc : ∀ q, va_A (dw_P a ac ()) H.size q → A q := nd_r0 hS hA
  refine nd_cSi (As := [.int x5, .int x6, .int y0]) (rest := []) (q := q8) (w' := dw_P a ac s9) ⟨hx, hb, hml, hown, hts⟩ (fun sz => dm_X3_isHead l hlt dC dI a ac n (x5) (x6) (y0) () hq sz) (cwS 3 hts gi_dm_X3_readEntry_1 rfl rfl rfl (by decide +kernel) ⟨Nat.le_of_ble_eq_true rfl, Nat.le_of_ble_eq_true rfl⟩) hPc hDc hKc hS hA hN rfl hl.1 rfl (Nat.le_of_ble_eq_true rfl) dX3_readEntry_45 (fun H locs hP1 hD1 hk1 hS => ?_)
  have hP := nd_n0 hP hk1
  refine lv_if_ne (tgt := 57) hx hb dX3_readEntry_48 (by decide) (fun c11 => ?_) (fun c11 => ?_)
  · have h := nd_neg h c11
    exact (db_X3_readEntry_57 C K) (x1) (x3) (x5) (x6) (y0) s0 _ _ _ h hP hD hS (lv_sub hl [1, 2, 3, 4, 5, 0] rfl)
  · have h := nd_pos h c11
    refine lv_aload_n hx hb dX3_readEntry_51 rfl (lv_at hl 1 rfl) ?_
    refine lv_iconst (v := 1) hx hb dX3_readEntry_52 (by decide) ?_
    refine lv_iload_n hx hb dX3_readEntry_53 rfl (lv_at hl 3 rfl) ?_
    obtain ⟨s33, hq, h⟩ := nd_b1_e h
    have hPc := dp_X3s_1 hP
    have hDc := dd_X3s_1 hD
    have hKc := dy_X3s_1 hK
    have hFc := nd_rs hDc hS hA
    have hzA : ∀ q : Nat, H.size ≤ q → A q := fun q h => hA q (Nat.le_trans hS.1 h)
    refine nd_cVv (As := [.int 1, .int x3]) (rest := []) (w' := dw_X3c (fun k => a (k + 1)) (fun k => ac (k + 1)) s33) ⟨hx, hb, hml, hown, hts⟩ (fun sz => dm_X3_blame l hlt dC dI (fun k => a (k + 1)) (fun k => ac (k + 1)) n (1) (x3) s0.2 hq sz) (cwV 2 hts gi_dm_X3_readEntry_6 rfl rfl rfl (by decide +kernel) ⟨Nat.le_of_ble_eq_true rfl, Nat.le_of_ble_eq_true rfl⟩) hPc hDc hKc hS hA hN (va_recv hKc hPc (ci := 4) (q0 := 0) rfl rfl) rfl hl.1 rfl (Nat.le_of_ble_eq_true rfl) dX3_readEntry_54 (fun H locs hP1 hD1 hk1 hS => ?_)
    obtain ⟨hP, hD⟩ := dn_X3s_1 hP hD hzA hk1 hP1 hD1
    obtain ⟨s35, es35, h⟩ := nd_let_e h
    have hP : va_P (dC, dI) vwCl (dw_X3s a ac s35) H := by rw [es35]; exact hP
    have hD : va_D A (dw_X3s a ac s35) := by rw [es35]; exact hD
    exact (db_X3_readEntry_57 C K) (x1) (x3) (x5) (x6) (y0) s35 _ _ _ h hP hD hS (lv_sub hl [1, 2, 3, 4, 5, 0] rfl)
set_option maxHeartbeats 40000000 in
set_option maxRecDepth 100000 in
theorem db_X3_readEntry_0 {p : Program} {l : Launch} {e : Env} {s : State} {m : MethodId} {args : Array Value} {below : List Frame} {meth : Method} {c : Code} {Q : State → Prop} {A : Nat → Prop} {dC : Nat → ClassId} {dI : Nat → Nat → Nat} {a : Nat → Nat} {ac : Nat → ClassId} {n : Nat} {r : St × (St)} (C : nd_C p l s m args c A (dC, dI) cX3_readEntry 10 RX3 ow_dm_X3_readEntry (dk_X3s ac)) (K : nd_Kv p l e (headSpec ow_dm_X3_readEntry ({ frames := 4, cells := 0, slots := 0, locals := 98 })).room s m args below meth c Q A (dC, dI) cX3_readEntry (St × (St)) (dw_X3s a ac) r) : dj_X3_readEntry_0 p l e s m args below meth c Q A dC dI a ac (df_X3_readEntry_0 n (a 0)) r := by
  obtain ⟨hlt, hx, hb, hml, hown, hts, hN, hA, hK⟩ := id C
  intro v0 s0 H locs ls h hP hD hS hl
  unfold df_X3_readEntry_0 at h
  refine lv_aload_n hx hb dX3_readEntry_0 rfl (lv_at hl 0 rfl) ?_
  refine va_get (D := (dC, dI)) (ci := 4) (v := .int (sI s0.2 2)) (C := RX3) (T := TX3) (N := 11) hx hb hts hi_dm_X3_readEntry_X3 hown hK hP 1 rfl rfl 7 (by decide) (hts (.fieldLink RX3 44 "TimeMachine$Events" "place" "I") (List.mem_of_getElem? (i := 1) rfl)) (fun _ h9 => h9) rfl dX3_readEntry_1 ?_
  refine lv_topi (fun z1 ez1 => ?_)
  have h := nd_at h ez1
  refine lv_istore_n (lv' := [(3, .int z1), (0, .ref (a 1)), (1, .long v0)]) hx hb dX3_readEntry_4 rfl hl (by decide) rfl (fun ls hl => ?_)
  refine lv_aload_n hx hb dX3_readEntry_5 rfl (lv_at hl 1 rfl) ?_
  obtain ⟨q2, s3, hq, h⟩ := nd_b2_e h
  have hPc := hP
  have hDc := hD
  have hKc := hK
  have hFc := nd_rs hD hS hA
  refine nd_cVi (As := []) (rest := []) (q := q2) (w' := dw_X3s a ac s3) ⟨hx, hb, hml, hown, hts⟩ (fun sz => dm_X3_readByte l hlt dC dI a ac n  s0 hq sz) (cwV 0 hts gi_dm_X3_readEntry_0 rfl rfl rfl (by decide +kernel) ⟨Nat.le_of_ble_eq_true rfl, Nat.le_of_ble_eq_true rfl⟩) hPc hDc hKc hS hA hN (va_recv hKc hPc (ci := 4) (q0 := 1) rfl rfl) rfl hl.1 rfl (Nat.le_of_ble_eq_true rfl) dX3_readEntry_6 (fun H locs hP1 hD1 hk1 hS => ?_)
  have hP := hP1
  have hD := hD1.weaken (fun k q _ h => hFc q.1 h)
  refine lv_istore (lv' := [(4, .int q2), (3, .int z1), (0, .ref (a 1)), (1, .long v0)]) hx hb dX3_readEntry_9 hl (by decide) rfl (fun ls hl => ?_)
  refine lv_iload hx hb dX3_readEntry_11 (lv_at hl 0 rfl) ?_
  refine lv_bipush (v := 7) hx hb dX3_readEntry_13 (by decide) ?_
  refine lv_iand hx hb dX3_readEntry_15 ?_
  refine lv_topi (fun z5 ez5 => ?_)
  have h := nd_at h ez5
  refine lv_istore (lv' := [(5, .int z5), (4, .int q2), (3, .int z1), (0, .ref (a 1)), (1, .long v0)]) hx hb dX3_readEntry_16 hl (by decide) rfl (fun ls hl => ?_)
  refine lv_iload hx hb dX3_readEntry_18 (lv_at hl 1 rfl) ?_
  refine lv_iconst (v := 4) hx hb dX3_readEntry_20 (by decide) ?_
  refine lv_ishr hx hb dX3_readEntry_21 ?_
  refine lv_topi (fun z6 ez6 => ?_)
  have h := nd_at h ez6
  refine lv_istore (lv' := [(6, .int z6), (5, .int z5), (4, .int q2), (3, .int z1), (0, .ref (a 1)), (1, .long v0)]) hx hb dX3_readEntry_22 hl (by decide) rfl (fun ls hl => ?_)
  refine lv_iload hx hb dX3_readEntry_24 (lv_at hl 2 rfl) ?_
  refine lv_bipush (v := 8) hx hb dX3_readEntry_26 (by decide) ?_
  refine lv_iand hx hb dX3_readEntry_28 ?_
  refine lv_if_eq (tgt := 36) hx hb dX3_readEntry_29 (by decide) (fun c7 => ?_) (fun c7 => ?_)
  · have h := nd_pos h c7
    refine lv_iconst (v := 0) hx hb dX3_readEntry_36 (by decide) ?_
    exact (db_X3_readEntry_37 C K) (v0) (z1) (z5) (z6) (0) s3 _ _ _ h hP hD hS (lv_sub hl [4, 5, 3, 1, 0] rfl)
  · have h := nd_neg h c7
    refine lv_iconst (v := 1) hx hb dX3_readEntry_32 (by decide) ?_
    refine lv_goto (tgt := 37) hx hb dX3_readEntry_33 (by decide) ?_
    exact (db_X3_readEntry_37 C K) (v0) (z1) (z5) (z6) (1) s3 _ _ _ h hP hD hS (lv_sub hl [4, 5, 3, 1, 0] rfl)
set_option maxHeartbeats 40000000 in
set_option maxRecDepth 100000 in
theorem dm_X3_readEntry (l : Launch) (hlt : l.stackTraces = false) (dC : Nat → ClassId) (dI : Nat → Nat → Nat) (a : Nat → Nat) (ac : Nat → ClassId) (n : Nat) (v0 : Int64) (s0 : St × (St)) {r : St × (St)} (h : df_X3_readEntry n (a 0) v0 s0 = some r) (sz : Nat) : Met l yX3_readEntry ow_dm_X3_readEntry ({ frames := 4, cells := 0, slots := 0, locals := 98 }) (va_Pc [.ref (a 1), .long v0] (fun U => U.heap.size = sz ∧ va_P (dC, dI) vwCl (dw_X3s a ac s0) U.heap ∧ va_K (dC, dI) vwCl (dk_X3s ac) U ∧ va_D (fun _ => True) (dw_X3s a ac s0) ∧ nv_E dI (va_A (dw_X3s a ac s0) sz) U)) (va_Qv (fun _ => True) (fun (_ : Unit) t => va_P (dC, dI) vwCl (dw_X3s a ac r) t.heap ∧ va_K (dC, dI) vwCl (dk_X3s ac) t ∧ va_D (va_A (dw_X3s a ac s0) sz) (dw_X3s a ac r)) (va_A (dw_X3s a ac s0) sz)) 0 0 (va_A (dw_X3s a ac s0) sz) := by
  refine Met.ofW (cc := cX3_readEntry) (maxL := 10) (ret := none) (by decide) rfl ?_
  intro p e s m args below meth c s₁ B hml hv
  obtain ⟨rfl, hsz, hP, hK, hD0, hN⟩ := hv
  have hx := B.exec
  have hb := B.bytes
  have hr := B.returns
  have hts := atoms_spec (ws := ow_dm_X3_readEntry) B.pre
  have hown : s.vm.findClass RX3 = some m.cls := findClass_of_methodNamed B.named
  have hlocks := B.notSynchronized
  subst hsz
  have hD := hD0.self (sz := s.heap.size)
  generalize hAe : va_A (dw_X3s a ac s0) s.heap.size = A at hD hN ⊢
  have hA : ∀ q : Nat, s.heap.size ≤ q → A q := fun q h => by rw [← hAe]; exact Or.inr h
  have hl := lv_entry ([.ref (a 1), .long v0]) (n := 10) (Nat.le_of_ble_eq_true rfl)
  rw [lg_entry_eq]
  generalize (lg_sl ([.ref (a 1), .long v0]) ++ List.replicate (10 - (lg_sl ([.ref (a 1), .long v0])).length) Slot.unset).toArray = ls at hl ⊢
  have hl : lv_has ls 10 [(0, .ref (a 1)), (1, .long v0)] := hl
  exact db_X3_readEntry_0 (dC := dC) (dI := dI) (a := a) (ac := ac) (n := n) (r := r) ⟨hlt, hx, hb, hml, hown, hts, hN, hA, hK⟩ (fun pc τ H locs ls d er hP hD hS => by subst er; exact W.vret hx hb hr (fun t ht hW => ⟨⟨(), rfl, trivial, by rw [ht]; exact hP, va_K.moved hW.alike hK, hD⟩, hS.F ht⟩) hS.2.2 d) v0 s0 _ _ _ h hP hD va_S.rf (lv_sub hl [0, 1] rfl)
def ow_dm_X3_readLog : List Cond := Cond.code yX3_readLog cX3_readLog 6 (some .int) :: ([Cond.fieldLink RX3 23 "TimeMachine$Events" "row" "[B", Cond.methodLink RX3 86 Lib.Math.min.name, Cond.static Lib.Math.min.name, Cond.initialized "java/lang/Math", Cond.code Lib.Math.min.name Lib.Math.min.code 2 (some .int), Cond.fieldLink RX3 92 "TimeMachine$Events" "stop" "I", Cond.fieldLink RX3 44 "TimeMachine$Events" "place" "I", Cond.fieldLink RX3 95 "TimeMachine$Events" "fault" "I", Cond.methodLink RX3 98 yX3_clear, Cond.instanceMethod yX3_clear, Cond.selects RX3 yX3_clear yX3_clear, Cond.initialized RX3, Cond.methodLink RX3 101 yX3_readVarint, Cond.instanceMethod yX3_readVarint, Cond.selects RX3 yX3_readVarint yX3_readVarint, Cond.constantLong RX3 105 (2048), Cond.fieldLink RX3 114 "TimeMachine$Events" "faultPlace" "I", Cond.fieldLink RX3 39 "TimeMachine$Events" "total" "I", Cond.methodLink RX3 107 yX3_blame, Cond.instanceMethod yX3_blame, Cond.selects RX3 yX3_blame yX3_blame, Cond.methodLink RX3 111 yX3_readEntry, Cond.instanceMethod yX3_readEntry, Cond.selects RX3 yX3_readEntry yX3_readEntry] ++ (u_ws RX3 TX3 11 ++ (ow_dm_X3_clear ++ (ow_dm_X3_readVarint ++ (ow_dm_X3_blame ++ (ow_dm_X3_readEntry ++ []))))))
theorem gd_dm_X3_readLog : ∀ w ∈ ow_dm_X3_readLog, (w.onTables && w.keeps) = true ∨ ∃ ty, w = Cond.arrayClass ty := List.forall_mem_cons.mpr ⟨good_of_word rfl, List.forall_mem_append.mpr ⟨fun w h => good_of_word (List.all_eq_true.mp (by decide +kernel) w h), List.forall_mem_append.mpr ⟨gu_X3, List.forall_mem_append.mpr ⟨gd_dm_X3_clear, List.forall_mem_append.mpr ⟨gd_dm_X3_readVarint, List.forall_mem_append.mpr ⟨gd_dm_X3_blame, List.forall_mem_append.mpr ⟨gd_dm_X3_readEntry, fun _ h => nomatch h⟩⟩⟩⟩⟩⟩⟩
theorem hi_dm_X3_readLog_X3 : ∀ w ∈ u_ws RX3 TX3 11, w ∈ ow_dm_X3_readLog := fun w h => List.mem_cons_of_mem _ (List.mem_append_right _ (List.mem_append_left _ h))
theorem gi_dm_X3_readLog_0 : GoodIn ow_dm_X3_readLog (wsV RX3 98 RX3 yX3_clear ow_dm_X3_clear) := goodIn_app (goodIn_of _ (by decide +kernel)) (fun w h => ⟨List.mem_cons_of_mem _ (List.mem_append_right _ (List.mem_append_right _ (List.mem_append_left _ h))), gd_dm_X3_clear w h⟩)
theorem gi_dm_X3_readLog_1 : GoodIn ow_dm_X3_readLog (wsV RX3 101 RX3 yX3_readVarint ow_dm_X3_readVarint) := goodIn_app (goodIn_of _ (by decide +kernel)) (fun w h => ⟨List.mem_cons_of_mem _ (List.mem_append_right _ (List.mem_append_right _ (List.mem_append_right _ (List.mem_append_left _ h)))), gd_dm_X3_readVarint w h⟩)
theorem gi_dm_X3_readLog_2 : GoodIn ow_dm_X3_readLog (wsV RX3 107 RX3 yX3_blame ow_dm_X3_blame) := goodIn_app (goodIn_of _ (by decide +kernel)) (fun w h => ⟨List.mem_cons_of_mem _ (List.mem_append_right _ (List.mem_append_right _ (List.mem_append_right _ (List.mem_append_right _ (List.mem_append_left _ h))))), gd_dm_X3_blame w h⟩)
theorem gi_dm_X3_readLog_3 : GoodIn ow_dm_X3_readLog (wsV RX3 111 RX3 yX3_readEntry ow_dm_X3_readEntry) := goodIn_app (goodIn_of _ (by decide +kernel)) (fun w h => ⟨List.mem_cons_of_mem _ (List.mem_append_right _ (List.mem_append_right _ (List.mem_append_right _ (List.mem_append_right _ (List.mem_append_right _ (List.mem_append_left _ h)))))), gd_dm_X3_readEntry w h⟩)
def dj_X3_readLog_136 (p : Program) (l : Launch) (e : Env) (s : State) (m : MethodId) (args : Array Value) (below : List Frame) (meth : Method) (c : Code) (Q : State → Prop) (A : Nat → Prop) (dC : Nat → ClassId) (dI : Nat → Nat → Nat) (a : Nat → Nat) (ac : Nat → ClassId) (g : Int32 → (St × (St)) → Option (Int32 × (St × (St)))) (r : Int32 × (St × (St))) : Prop := ∀ (y0 : Int32) (s0 : St × (St)) (H : Heap) (locs : List Loc) (ls : Array Slot), g y0 s0 = some r → va_P (dC, dI) vwCl (dw_X3s a ac s0) H → va_D A (dw_X3s a ac s0) → va_S A s.heap H locs → lv_has ls 6 [] → W p l e (headSpec ow_dm_X3_readLog ({ frames := 5, cells := 0, slots := 0, locals := 127 })).room s m args below meth c H locs 0 0 Q (F0 m 136 ls [.int y0])
def dj_X3_readLog_108 (p : Program) (l : Launch) (e : Env) (s : State) (m : MethodId) (args : Array Value) (below : List Frame) (meth : Method) (c : Code) (Q : State → Prop) (A : Nat → Prop) (dC : Nat → ClassId) (dI : Nat → Nat → Nat) (a : Nat → Nat) (ac : Nat → ClassId) (g : (St × (St)) → Option (Int32 × (St × (St)))) (r : Int32 × (St × (St))) : Prop := ∀ (s0 : St × (St)) (H : Heap) (locs : List Loc) (ls : Array Slot), g s0 = some r → va_P (dC, dI) vwCl (dw_X3s a ac s0) H → va_D A (dw_X3s a ac s0) → va_S A s.heap H locs → lv_has ls 6 [(0, .ref (a 1))] → W p l e (headSpec ow_dm_X3_readLog ({ frames := 5, cells := 0, slots := 0, locals := 127 })).room s m args below meth c H locs 0 0 Q (F0 m 108 ls [])
def dj_X3_readLog_87 (p : Program) (l : Launch) (e : Env) (s : State) (m : MethodId) (args : Array Value) (below : List Frame) (meth : Method) (c : Code) (Q : State → Prop) (A : Nat → Prop) (dC : Nat → ClassId) (dI : Nat → Nat → Nat) (a : Nat → Nat) (ac : Nat → ClassId) (g : (St × (St)) → Option (Int32 × (St × (St)))) (r : Int32 × (St × (St))) : Prop := ∀ (s0 : St × (St)) (H : Heap) (locs : List Loc) (ls : Array Slot), g s0 = some r → va_P (dC, dI) vwCl (dw_X3s a ac s0) H → va_D A (dw_X3s a ac s0) → va_S A s.heap H locs → lv_has ls 6 [(0, .ref (a 1))] → W p l e (headSpec ow_dm_X3_readLog ({ frames := 5, cells := 0, slots := 0, locals := 127 })).room s m args below meth c H locs 0 0 Q (F0 m 87 ls [])
def dj_X3_readLog_54 (p : Program) (l : Launch) (e : Env) (s : State) (m : MethodId) (args : Array Value) (below : List Frame) (meth : Method) (c : Code) (Q : State → Prop) (A : Nat → Prop) (dC : Nat → ClassId) (dI : Nat → Nat → Nat) (a : Nat → Nat) (ac : Nat → ClassId) (g : Int64 → Int32 → (St × (St)) → Option (Int32 × (St × (St)))) (r : Int32 × (St × (St))) : Prop := ∀ (x3 : Int64) (x5 : Int32) (s0 : St × (St)) (H : Heap) (locs : List Loc) (ls : Array Slot), g x3 x5 s0 = some r → va_P (dC, dI) vwCl (dw_X3s a ac s0) H → va_D A (dw_X3s a ac s0) → va_S A s.heap H locs → lv_has ls 6 [(0, .ref (a 1)), (3, .long x3), (5, .int x5)] → W p l e (headSpec ow_dm_X3_readLog ({ frames := 5, cells := 0, slots := 0, locals := 127 })).room s m args below meth c H locs 0 0 Q (F0 m 54 ls [])
def dj_X3_readLog_49 (p : Program) (l : Launch) (e : Env) (s : State) (m : MethodId) (args : Array Value) (below : List Frame) (meth : Method) (c : Code) (Q : State → Prop) (A : Nat → Prop) (dC : Nat → ClassId) (dI : Nat → Nat → Nat) (a : Nat → Nat) (ac : Nat → ClassId) (g : Int64 → (St × (St)) → Option (Int32 × (St × (St)))) (r : Int32 × (St × (St))) : Prop := ∀ (x3 : Int64) (s0 : St × (St)) (H : Heap) (locs : List Loc) (ls : Array Slot), g x3 s0 = some r → va_P (dC, dI) vwCl (dw_X3s a ac s0) H → va_D A (dw_X3s a ac s0) → va_S A s.heap H locs → lv_has ls 6 [(0, .ref (a 1)), (3, .long x3)] → W p l e (headSpec ow_dm_X3_readLog ({ frames := 5, cells := 0, slots := 0, locals := 127 })).room s m args below meth c H locs 0 0 Q (F0 m 49 ls [])
def dj_X3_readLog_0 (p : Program) (l : Launch) (e : Env) (s : State) (m : MethodId) (args : Array Value) (below : List Frame) (meth : Method) (c : Code) (Q : State → Prop) (A : Nat → Prop) (dC : Nat → ClassId) (dI : Nat → Nat → Nat) (a : Nat → Nat) (ac : Nat → ClassId) (g : Int32 → (St × (St)) → Option (Int32 × (St × (St)))) (r : Int32 × (St × (St))) : Prop := ∀ (v1 : Int32) (s0 : St × (St)) (H : Heap) (locs : List Loc) (ls : Array Slot), g v1 s0 = some r → va_P (dC, dI) vwCl (dw_X3s a ac s0) H → va_D A (dw_X3s a ac s0) → va_S A s.heap H locs → lv_has ls 6 [(0, .ref (a 1)), (1, .ref (a 0)), (2, .int v1)] → W p l e (headSpec ow_dm_X3_readLog ({ frames := 5, cells := 0, slots := 0, locals := 127 })).room s m args below meth c H locs 0 0 Q (F0 m 0 ls [])
set_option maxHeartbeats 40000000 in
set_option maxRecDepth 100000 in
theorem db_X3_readLog_136 {p : Program} {l : Launch} {e : Env} {s : State} {m : MethodId} {args : Array Value} {below : List Frame} {meth : Method} {c : Code} {Q : State → Prop} {A : Nat → Prop} {dC : Nat → ClassId} {dI : Nat → Nat → Nat} {a : Nat → Nat} {ac : Nat → ClassId} {n : Nat} {r : Int32 × (St × (St))} (C : nd_C p l s m args c A (dC, dI) cX3_readLog 6 RX3 ow_dm_X3_readLog (dk_X3s ac)) (K : nd_Ki p l e (headSpec ow_dm_X3_readLog ({ frames := 5, cells := 0, slots := 0, locals := 127 })).room s m args below meth c Q A (dC, dI) cX3_readLog .int (St × (St)) (dw_X3s a ac) r) : dj_X3_readLog_136 p l e s m args below meth c Q A dC dI a ac (df_X3_readLog_136 n (a 0)) r := by
  obtain ⟨hlt, hx, hb, hml, hown, hts, hN, hA, hK⟩ := id C
  intro y0 s0 H locs ls h hP hD hS hl
  unfold df_X3_readLog_136 at h
  exact K _ _ _ _ _ _ dX3_readLog_136 rfl (Option.some.inj h).symm hP hD hS
set_option maxHeartbeats 40000000 in
set_option maxRecDepth 100000 in
theorem db_X3_readLog_108 {p : Program} {l : Launch} {e : Env} {s : State} {m : MethodId} {args : Array Value} {below : List Frame} {meth : Method} {c : Code} {Q : State → Prop} {A : Nat → Prop} {dC : Nat → ClassId} {dI : Nat → Nat → Nat} {a : Nat → Nat} {ac : Nat → ClassId} {n : Nat} {r : Int32 × (St × (St))} (C : nd_C p l s m args c A (dC, dI) cX3_readLog 6 RX3 ow_dm_X3_readLog (dk_X3s ac)) (K : nd_Ki p l e (headSpec ow_dm_X3_readLog ({ frames := 5, cells := 0, slots := 0, locals := 127 })).room s m args below meth c Q A (dC, dI) cX3_readLog .int (St × (St)) (dw_X3s a ac) r) : dj_X3_readLog_108 p l e s m args below meth c Q A dC dI a ac (df_X3_readLog_108 n (a 0)) r := by
  obtain ⟨hlt, hx, hb, hml, hown, hts, hN, hA, hK⟩ := id C
  intro s0 H locs ls h hP hD hS hl
  unfold df_X3_readLog_108 at h
  refine lv_aload_n hx hb dX3_readLog_108 rfl (lv_at hl 0 rfl) ?_
  refine va_get (D := (dC, dI)) (ci := 4) (v := .int (sI s0.2 4)) (C := RX3) (T := TX3) (N := 11) hx hb hts hi_dm_X3_readLog_X3 hown hK hP 1 rfl rfl 9 (by decide) (hts (.fieldLink RX3 95 "TimeMachine$Events" "fault" "I") (List.mem_of_getElem? (i := 8) rfl)) (fun _ h9 => h9) rfl dX3_readLog_109 ?_
  refine lv_if_ne (tgt := 122) hx hb dX3_readLog_112 (by decide) (fun c15 => ?_) (fun c15 => ?_)
  · have h := nd_neg h c15
    refine lv_iconst (v := (-1)) hx hb dX3_readLog_122 (by decide) ?_
    refine lv_aload_n hx hb dX3_readLog_123 rfl (lv_at hl 0 rfl) ?_
    refine va_get (D := (dC, dI)) (ci := 4) (v := .int (sI s0.2 4)) (C := RX3) (T := TX3) (N := 11) hx hb hts hi_dm_X3_readLog_X3 hown hK hP 1 rfl rfl 9 (by decide) (hts (.fieldLink RX3 95 "TimeMachine$Events" "fault" "I") (List.mem_of_getElem? (i := 8) rfl)) (fun _ h9 => h9) rfl dX3_readLog_124 ?_
    refine lv_bipush (v := 8) hx hb dX3_readLog_127 (by decide) ?_
    refine lv_aload_n hx hb dX3_readLog_129 rfl (lv_at hl 0 rfl) ?_
    refine va_get (D := (dC, dI)) (ci := 4) (v := .int (sI s0.2 5)) (C := RX3) (T := TX3) (N := 11) hx hb hts hi_dm_X3_readLog_X3 hown hK hP 1 rfl rfl 10 (by decide) (hts (.fieldLink RX3 114 "TimeMachine$Events" "faultPlace" "I") (List.mem_of_getElem? (i := 17) rfl)) (fun _ h9 => h9) rfl dX3_readLog_130 ?_
    refine lv_imul hx hb dX3_readLog_133 ?_
    refine lv_iadd hx hb dX3_readLog_134 ?_
    refine lv_isub hx hb dX3_readLog_135 ?_
    exact (db_X3_readLog_136 C K) (((-1) - ((sI s0.2 4) + (8 * (sI s0.2 5))))) s0 _ _ _ h hP hD hS (lv_sub hl [] rfl)
  · have h := nd_pos h c15
    refine lv_aload_n hx hb dX3_readLog_115 rfl (lv_at hl 0 rfl) ?_
    refine va_get (D := (dC, dI)) (ci := 4) (v := .int (sI s0.2 1)) (C := RX3) (T := TX3) (N := 11) hx hb hts hi_dm_X3_readLog_X3 hown hK hP 1 rfl rfl 5 (by decide) (hts (.fieldLink RX3 39 "TimeMachine$Events" "total" "I") (List.mem_of_getElem? (i := 18) rfl)) (fun _ h9 => h9) rfl dX3_readLog_116 ?_
    refine lv_goto (tgt := 136) hx hb dX3_readLog_119 (by decide) ?_
    exact (db_X3_readLog_136 C K) ((sI s0.2 1)) s0 _ _ _ h hP hD hS (lv_sub hl [] rfl)
set_option maxHeartbeats 40000000 in
set_option maxRecDepth 100000 in
theorem db_X3_readLog_87 {p : Program} {l : Launch} {e : Env} {s : State} {m : MethodId} {args : Array Value} {below : List Frame} {meth : Method} {c : Code} {Q : State → Prop} {A : Nat → Prop} {dC : Nat → ClassId} {dI : Nat → Nat → Nat} {a : Nat → Nat} {ac : Nat → ClassId} {n : Nat} {r : Int32 × (St × (St))} (C : nd_C p l s m args c A (dC, dI) cX3_readLog 6 RX3 ow_dm_X3_readLog (dk_X3s ac)) (K : nd_Ki p l e (headSpec ow_dm_X3_readLog ({ frames := 5, cells := 0, slots := 0, locals := 127 })).room s m args below meth c Q A (dC, dI) cX3_readLog .int (St × (St)) (dw_X3s a ac) r) : dj_X3_readLog_87 p l e s m args below meth c Q A dC dI a ac (df_X3_readLog_87 n (a 0)) r := by
  obtain ⟨hlt, hx, hb, hml, hown, hts, hN, hA, hK⟩ := id C
  intro s0 H locs ls h hP hD hS hl
  unfold df_X3_readLog_87 at h
  refine lv_aload_n hx hb dX3_readLog_87 rfl (lv_at hl 0 rfl) ?_
  refine va_get (D := (dC, dI)) (ci := 4) (v := .int (sI s0.2 2)) (C := RX3) (T := TX3) (N := 11) hx hb hts hi_dm_X3_readLog_X3 hown hK hP 1 rfl rfl 7 (by decide) (hts (.fieldLink RX3 44 "TimeMachine$Events" "place" "I") (List.mem_of_getElem? (i := 7) rfl)) (fun _ h9 => h9) rfl dX3_readLog_88 ?_
  refine lv_aload_n hx hb dX3_readLog_91 rfl (lv_at hl 0 rfl) ?_
  refine va_get (D := (dC, dI)) (ci := 4) (v := .int (sI s0.2 3)) (C := RX3) (T := TX3) (N := 11) hx hb hts hi_dm_X3_readLog_X3 hown hK hP 1 rfl rfl 8 (by decide) (hts (.fieldLink RX3 92 "TimeMachine$Events" "stop" "I") (List.mem_of_getElem? (i := 6) rfl)) (fun _ h9 => h9) rfl dX3_readLog_92 ?_
  refine lv_icmp_ge (tgt := 108) hx hb dX3_readLog_95 (by decide) (fun c14 => ?_) (fun c14 => ?_)
  · have h := nd_pos h c14
    exact (db_X3_readLog_108 C K)  s0 _ _ _ h hP hD hS (lv_sub hl [0] rfl)
  · have h := nd_neg h c14
    refine lv_aload_n hx hb dX3_readLog_98 rfl (lv_at hl 0 rfl) ?_
    refine lv_bipush (v := 7) hx hb dX3_readLog_99 (by decide) ?_
    refine lv_aload_n hx hb dX3_readLog_101 rfl (lv_at hl 0 rfl) ?_
    refine va_get (D := (dC, dI)) (ci := 4) (v := .int (sI s0.2 2)) (C := RX3) (T := TX3) (N := 11) hx hb hts hi_dm_X3_readLog_X3 hown hK hP 1 rfl rfl 7 (by decide) (hts (.fieldLink RX3 44 "TimeMachine$Events" "place" "I") (List.mem_of_getElem? (i := 7) rfl)) (fun _ h9 => h9) rfl dX3_readLog_102 ?_
    obtain ⟨s17, hq, h⟩ := nd_b1_e h
    have hPc := dp_X3s_1 hP
    have hDc := dd_X3s_1 hD
    have hKc := dy_X3s_1 hK
    have hFc := nd_rs hDc hS hA
    have hzA : ∀ q : Nat, H.size ≤ q → A q := fun q h => hA q (Nat.le_trans hS.1 h)
    refine nd_cVv (As := [.int 7, .int (sI s0.2 2)]) (rest := []) (w' := dw_X3c (fun k => a (k + 1)) (fun k => ac (k + 1)) s17) ⟨hx, hb, hml, hown, hts⟩ (fun sz => dm_X3_blame l hlt dC dI (fun k => a (k + 1)) (fun k => ac (k + 1)) n (7) ((sI s0.2 2)) s0.2 hq sz) (cwV 2 hts gi_dm_X3_readLog_2 rfl rfl rfl (by decide +kernel) ⟨Nat.le_of_ble_eq_true rfl, Nat.le_of_ble_eq_true rfl⟩) hPc hDc hKc hS hA hN (va_recv hKc hPc (ci := 4) (q0 := 0) rfl rfl) rfl hl.1 rfl (Nat.le_of_ble_eq_true rfl) dX3_readLog_105 (fun H locs hP1 hD1 hk1 hS => ?_)
    obtain ⟨hP, hD⟩ := dn_X3s_1 hP hD hzA hk1 hP1 hD1
    obtain ⟨s19, es19, h⟩ := nd_let_e h
    have hP : va_P (dC, dI) vwCl (dw_X3s a ac s19) H := by rw [es19]; exact hP
    have hD : va_D A (dw_X3s a ac s19) := by rw [es19]; exact hD
    exact (db_X3_readLog_108 C K)  s19 _ _ _ h hP hD hS (lv_sub hl [0] rfl)
set_option maxHeartbeats 40000000 in
set_option maxRecDepth 100000 in
theorem dB_X3_readLog_54 {p : Program} {l : Launch} {e : Env} {s : State} {m : MethodId} {args : Array Value} {below : List Frame} {meth : Method} {c : Code} {Q : State → Prop} {A : Nat → Prop} {dC : Nat → ClassId} {dI : Nat → Nat → Nat} {a : Nat → Nat} {ac : Nat → ClassId} {n : Nat} {r : Int32 × (St × (St))} (C : nd_C p l s m args c A (dC, dI) cX3_readLog 6 RX3 ow_dm_X3_readLog (dk_X3s ac)) (K : nd_Ki p l e (headSpec ow_dm_X3_readLog ({ frames := 5, cells := 0, slots := 0, locals := 127 })).room s m args below meth c Q A (dC, dI) cX3_readLog .int (St × (St)) (dw_X3s a ac) r) {g54 : Int64 → Int32 → (St × (St)) → Option (Int32 × (St × (St)))} (J54 : dj_X3_readLog_54 p l e s m args below meth c Q A dC dI a ac g54 r) : dj_X3_readLog_54 p l e s m args below meth c Q A dC dI a ac (dF_X3_readLog_54 n (a 0) g54) r := by
  obtain ⟨hlt, hx, hb, hml, hown, hts, hN, hA, hK⟩ := id C
  intro x3 x5 s0 H locs ls h hP hD hS hl
  unfold dF_X3_readLog_54 at h
  refine lv_iload hx hb dX3_readLog_54 (lv_at hl 2 rfl) ?_
  refine lv_if_le (tgt := 87) hx hb dX3_readLog_56 (by decide) (fun c13 => ?_) (fun c13 => ?_)
  · have h := nd_pos h c13
    exact (db_X3_readLog_87 C K)  s0 _ _ _ h hP hD hS (lv_sub hl [0] rfl)
  · have h := nd_neg h c13
    refine lv_aload_n hx hb dX3_readLog_59 rfl (lv_at hl 0 rfl) ?_
    refine va_get (D := (dC, dI)) (ci := 4) (v := .int (sI s0.2 4)) (C := RX3) (T := TX3) (N := 11) hx hb hts hi_dm_X3_readLog_X3 hown hK hP 1 rfl rfl 9 (by decide) (hts (.fieldLink RX3 95 "TimeMachine$Events" "fault" "I") (List.mem_of_getElem? (i := 8) rfl)) (fun _ h9 => h9) rfl dX3_readLog_60 ?_
    refine lv_if_ne (tgt := 87) hx hb dX3_readLog_63 (by decide) (fun c20 => ?_) (fun c20 => ?_)
    · have h := nd_neg h c20
      exact (db_X3_readLog_87 C K)  s0 _ _ _ h hP hD hS (lv_sub hl [0] rfl)
    · have h := nd_pos h c20
      refine lv_aload_n hx hb dX3_readLog_66 rfl (lv_at hl 0 rfl) ?_
      refine va_get (D := (dC, dI)) (ci := 4) (v := .int (sI s0.2 1)) (C := RX3) (T := TX3) (N := 11) hx hb hts hi_dm_X3_readLog_X3 hown hK hP 1 rfl rfl 5 (by decide) (hts (.fieldLink RX3 39 "TimeMachine$Events" "total" "I") (List.mem_of_getElem? (i := 18) rfl)) (fun _ h9 => h9) rfl dX3_readLog_67 ?_
      refine lv_i2l hx hb dX3_readLog_70 rfl ?_
      refine lv_lload_n hx hb dX3_readLog_71 rfl (lv_at hl 1 rfl) ?_
      refine W.lcmp hx hb dX3_readLog_72 ?_
      refine lv_if_ge (tgt := 87) hx hb dX3_readLog_73 (by decide) (fun c21 => ?_) (fun c21 => ?_)
      · have h := nd_pos h c21
        exact (db_X3_readLog_87 C K)  s0 _ _ _ h hP hD hS (lv_sub hl [0] rfl)
      · have h := nd_neg h c21
        refine lv_aload_n hx hb dX3_readLog_76 rfl (lv_at hl 0 rfl) ?_
        refine lv_lload_n hx hb dX3_readLog_77 rfl (lv_at hl 1 rfl) ?_
        obtain ⟨s23, hq, h⟩ := nd_b1_e h
        have hPc := hP
        have hDc := hD
        have hKc := hK
        have hFc := nd_rs hD hS hA
        refine nd_cVv (As := [.long x3]) (rest := []) (w' := dw_X3s a ac s23) ⟨hx, hb, hml, hown, hts⟩ (fun sz => dm_X3_readEntry l hlt dC dI a ac n (x3) s0 hq sz) (cwV 1 hts gi_dm_X3_readLog_3 rfl rfl rfl (by decide +kernel) ⟨Nat.le_of_ble_eq_true rfl, Nat.le_of_ble_eq_true rfl⟩) hPc hDc hKc hS hA hN (va_recv hKc hPc (ci := 4) (q0 := 1) rfl rfl) rfl hl.1 rfl (Nat.le_of_ble_eq_true rfl) dX3_readLog_78 (fun H locs hP1 hD1 hk1 hS => ?_)
        have hP := hP1
        have hD := hD1.weaken (fun k q _ h => hFc q.1 h)
        obtain ⟨z25, ez25, h⟩ := nd_let_e h
        refine lv_iinc (v := z25) (lv' := [(5, .int z25), (0, .ref (a 1)), (3, .long x3)]) hx hb dX3_readLog_81 hl (k := 2) rfl (by rw [ez25]) (by decide) rfl (fun ls hl => ?_)
        refine lv_goto (tgt := 54) hx hb dX3_readLog_84 (by decide) ?_
        exact (J54) (x3) (z25) s23 _ _ _ h hP hD hS (lv_sub hl [1, 2, 0] rfl)
set_option maxHeartbeats 40000000 in
set_option maxRecDepth 100000 in
theorem db_X3_readLog_54 {p : Program} {l : Launch} {e : Env} {s : State} {m : MethodId} {args : Array Value} {below : List Frame} {meth : Method} {c : Code} {Q : State → Prop} {A : Nat → Prop} {dC : Nat → ClassId} {dI : Nat → Nat → Nat} {a : Nat → Nat} {ac : Nat → ClassId} {n : Nat} {r : Int32 × (St × (St))} (C : nd_C p l s m args c A (dC, dI) cX3_readLog 6 RX3 ow_dm_X3_readLog (dk_X3s ac)) (K : nd_Ki p l e (headSpec ow_dm_X3_readLog ({ frames := 5, cells := 0, slots := 0, locals := 127 })).room s m args below meth c Q A (dC, dI) cX3_readLog .int (St × (St)) (dw_X3s a ac) r) (k : Nat) : dj_X3_readLog_54 p l e s m args below meth c Q A dC dI a ac (df_X3_readLog_54 n (a 0) k) r := by
  induction k with
  | zero => intro x3 x5 s0 H locs ls h; exact nomatch (show (none : Option (Int32 × (St × (St)))) = some r from h)
  | succ k ih => exact dB_X3_readLog_54 C K ih
set_option maxHeartbeats 40000000 in
set_option maxRecDepth 100000 in
theorem db_X3_readLog_49 {p : Program} {l : Launch} {e : Env} {s : State} {m : MethodId} {args : Array Value} {below : List Frame} {meth : Method} {c : Code} {Q : State → Prop} {A : Nat → Prop} {dC : Nat → ClassId} {dI : Nat → Nat → Nat} {a : Nat → Nat} {ac : Nat → ClassId} {n : Nat} {r : Int32 × (St × (St))} (C : nd_C p l s m args c A (dC, dI) cX3_readLog 6 RX3 ow_dm_X3_readLog (dk_X3s ac)) (K : nd_Ki p l e (headSpec ow_dm_X3_readLog ({ frames := 5, cells := 0, slots := 0, locals := 127 })).room s m args below meth c Q A (dC, dI) cX3_readLog .int (St × (St)) (dw_X3s a ac) r) : dj_X3_readLog_49 p l e s m args below meth c Q A dC dI a ac (df_X3_readLog_49 n (a 0)) r := by
  obtain ⟨hlt, hx, hb, hml, hown, hts, hN, hA, hK⟩ := id C
  intro x3 s0 H locs ls h hP hD hS hl
  unfold df_X3_readLog_49 at h
  refine lv_sipush (v := 2048) hx hb dX3_readLog_49 (by decide) ?_
  refine lv_istore (lv' := [(5, .int 2048), (0, .ref (a 1)), (3, .long x3)]) hx hb dX3_readLog_52 hl (by decide) rfl (fun ls hl => ?_)
  exact (db_X3_readLog_54 C K n) (x3) (2048) s0 _ _ _ h hP hD hS (lv_sub hl [1, 2, 0] rfl)
set_option maxHeartbeats 40000000 in
set_option maxRecDepth 100000 in
theorem db_X3_readLog_0 {p : Program} {l : Launch} {e : Env} {s : State} {m : MethodId} {args : Array Value} {below : List Frame} {meth : Method} {c : Code} {Q : State → Prop} {A : Nat → Prop} {dC : Nat → ClassId} {dI : Nat → Nat → Nat} {a : Nat → Nat} {ac : Nat → ClassId} {n : Nat} {r : Int32 × (St × (St))} (C : nd_C p l s m args c A (dC, dI) cX3_readLog 6 RX3 ow_dm_X3_readLog (dk_X3s ac)) (K : nd_Ki p l e (headSpec ow_dm_X3_readLog ({ frames := 5, cells := 0, slots := 0, locals := 127 })).room s m args below meth c Q A (dC, dI) cX3_readLog .int (St × (St)) (dw_X3s a ac) r) : dj_X3_readLog_0 p l e s m args below meth c Q A dC dI a ac (df_X3_readLog_0 n (a 0)) r := by
  obtain ⟨hlt, hx, hb, hml, hown, hts, hN, hA, hK⟩ := id C
  intro v1 s0 H locs ls h hP hD hS hl
  unfold df_X3_readLog_0 at h
  refine lv_aload_n hx hb dX3_readLog_0 rfl (lv_at hl 0 rfl) ?_
  refine lv_aload_n hx hb dX3_readLog_1 rfl (lv_at hl 1 rfl) ?_
  refine va_put (D := (dC, dI)) (ci := 4) (v := .ref (a 0)) (ty := .array .byte) (C := RX3) (T := TX3) (N := 11) hx hb hts hi_dm_X3_readLog_X3 tyX3 tyX3_ok nmX3 hown hK hP hD hS 1 rfl rfl 6 (by decide) (hts (.fieldLink RX3 23 "TimeMachine$Events" "row" "[B") (List.mem_of_getElem? (i := 1) rfl)) (fun _ h9 => h9) rfl (by decide +kernel) rfl rfl (Nat.le_of_ble_eq_true rfl) dX3_readLog_2 (fun H locs hP hD hS => ?_)
  obtain ⟨s1, es1, h⟩ := nd_let_e h
  have hP : va_P (dC, dI) vwCl (dw_X3s a ac s1) H := by rw [es1]; exact hP
  have hD : va_D A (dw_X3s a ac s1) := by rw [es1]; exact hD
  refine lv_aload_n hx hb dX3_readLog_5 rfl (lv_at hl 0 rfl) ?_
  refine lv_iload_n hx hb dX3_readLog_6 rfl (lv_at hl 2 rfl) ?_
  refine lv_aload_n hx hb dX3_readLog_7 rfl (lv_at hl 1 rfl) ?_
  refine va_alen (v := 32768) hx hb hK hP 0 0 rfl rfl (show Int32.ofNat 32768 = 32768 by decide) dX3_readLog_8 ?_
  refine va_mmin hx hb (by rw [hml]; exact hl.1.symm) hown (hts (.methodLink RX3 86 Lib.Math.min.name) (List.mem_of_getElem? (i := 2) rfl)) (hts (.static Lib.Math.min.name) (List.mem_of_getElem? (i := 3) rfl)) (hts (.initialized "java/lang/Math") (List.mem_of_getElem? (i := 4) rfl)) (hts (.code Lib.Math.min.name Lib.Math.min.code 2 (some .int)) (List.mem_of_getElem? (i := 5) rfl)) (Nat.le_of_ble_eq_true rfl) (Nat.le_of_ble_eq_true rfl) (by decide +kernel) (by decide +kernel) dX3_readLog_9 ?_
  refine va_put (D := (dC, dI)) (ci := 4) (v := .int (if (32768 : Int32) < v1 then 32768 else v1)) (ty := .int) (C := RX3) (T := TX3) (N := 11) hx hb hts hi_dm_X3_readLog_X3 tyX3 tyX3_ok nmX3 hown hK hP hD hS 1 rfl rfl 8 (by decide) (hts (.fieldLink RX3 92 "TimeMachine$Events" "stop" "I") (List.mem_of_getElem? (i := 6) rfl)) (fun _ h9 => h9) rfl (by decide +kernel) rfl rfl (Nat.le_of_ble_eq_true rfl) dX3_readLog_12 (fun H locs hP hD hS => ?_)
  obtain ⟨s2, es2, h⟩ := nd_let_e h
  have hP : va_P (dC, dI) vwCl (dw_X3s a ac s2) H := by rw [es2]; exact hP
  have hD : va_D A (dw_X3s a ac s2) := by rw [es2]; exact hD
  refine lv_aload_n hx hb dX3_readLog_15 rfl (lv_at hl 0 rfl) ?_
  refine lv_iconst (v := 0) hx hb dX3_readLog_16 (by decide) ?_
  refine va_put (D := (dC, dI)) (ci := 4) (v := .int 0) (ty := .int) (C := RX3) (T := TX3) (N := 11) hx hb hts hi_dm_X3_readLog_X3 tyX3 tyX3_ok nmX3 hown hK hP hD hS 1 rfl rfl 7 (by decide) (hts (.fieldLink RX3 44 "TimeMachine$Events" "place" "I") (List.mem_of_getElem? (i := 7) rfl)) (fun _ h9 => h9) rfl (by decide +kernel) rfl rfl (Nat.le_of_ble_eq_true rfl) dX3_readLog_17 (fun H locs hP hD hS => ?_)
  obtain ⟨s3, es3, h⟩ := nd_let_e h
  have hP : va_P (dC, dI) vwCl (dw_X3s a ac s3) H := by rw [es3]; exact hP
  have hD : va_D A (dw_X3s a ac s3) := by rw [es3]; exact hD
  refine lv_aload_n hx hb dX3_readLog_20 rfl (lv_at hl 0 rfl) ?_
  refine lv_iconst (v := 0) hx hb dX3_readLog_21 (by decide) ?_
  refine va_put (D := (dC, dI)) (ci := 4) (v := .int 0) (ty := .int) (C := RX3) (T := TX3) (N := 11) hx hb hts hi_dm_X3_readLog_X3 tyX3 tyX3_ok nmX3 hown hK hP hD hS 1 rfl rfl 9 (by decide) (hts (.fieldLink RX3 95 "TimeMachine$Events" "fault" "I") (List.mem_of_getElem? (i := 8) rfl)) (fun _ h9 => h9) rfl (by decide +kernel) rfl rfl (Nat.le_of_ble_eq_true rfl) dX3_readLog_22 (fun H locs hP hD hS => ?_)
  obtain ⟨s4, es4, h⟩ := nd_let_e h
  have hP : va_P (dC, dI) vwCl (dw_X3s a ac s4) H := by rw [es4]; exact hP
  have hD : va_D A (dw_X3s a ac s4) := by rw [es4]; exact hD
  refine lv_aload_n hx hb dX3_readLog_25 rfl (lv_at hl 0 rfl) ?_
  obtain ⟨s6, hq, h⟩ := nd_b1_e h
  have hPc := dp_X3s_1 hP
  have hDc := dd_X3s_1 hD
  have hKc := dy_X3s_1 hK
  have hFc := nd_rs hDc hS hA
  have hzA : ∀ q : Nat, H.size ≤ q → A q := fun q h => hA q (Nat.le_trans hS.1 h)
  refine nd_cVv (As := []) (rest := []) (w' := dw_X3c (fun k => a (k + 1)) (fun k => ac (k + 1)) s6) ⟨hx, hb, hml, hown, hts⟩ (fun sz => dm_X3_clear l hlt dC dI (fun k => a (k + 1)) (fun k => ac (k + 1)) n  s4.2 hq sz) (cwV 0 hts gi_dm_X3_readLog_0 rfl rfl rfl (by decide +kernel) ⟨Nat.le_of_ble_eq_true rfl, Nat.le_of_ble_eq_true rfl⟩) hPc hDc hKc hS hA hN (va_recv hKc hPc (ci := 4) (q0 := 0) rfl rfl) rfl hl.1 rfl (Nat.le_of_ble_eq_true rfl) dX3_readLog_26 (fun H locs hP1 hD1 hk1 hS => ?_)
  obtain ⟨hP, hD⟩ := dn_X3s_1 hP hD hzA hk1 hP1 hD1
  obtain ⟨s8, es8, h⟩ := nd_let_e h
  have hP : va_P (dC, dI) vwCl (dw_X3s a ac s8) H := by rw [es8]; exact hP
  have hD : va_D A (dw_X3s a ac s8) := by rw [es8]; exact hD
  refine lv_aload_n hx hb dX3_readLog_29 rfl (lv_at hl 0 rfl) ?_
  obtain ⟨q9, s10, hq, h⟩ := nd_b2_e h
  have hPc := hP
  have hDc := hD
  have hKc := hK
  have hFc := nd_rs hD hS hA
  refine nd_cVl (As := []) (rest := []) (q := q9) (w' := dw_X3s a ac s10) ⟨hx, hb, hml, hown, hts⟩ (fun sz => dm_X3_readVarint l hlt dC dI a ac n  s8 hq sz) (cwV 0 hts gi_dm_X3_readLog_1 rfl rfl rfl (by decide +kernel) ⟨Nat.le_of_ble_eq_true rfl, Nat.le_of_ble_eq_true rfl⟩) hPc hDc hKc hS hA hN (va_recv hKc hPc (ci := 4) (q0 := 1) rfl rfl) rfl hl.1 rfl (Nat.le_of_ble_eq_true rfl) dX3_readLog_30 (fun H locs hP1 hD1 hk1 hS => ?_)
  have hP := hP1
  have hD := hD1.weaken (fun k q _ h => hFc q.1 h)
  refine lv_lstore_n (lv' := [(3, .long q9), (0, .ref (a 1)), (1, .ref (a 0)), (2, .int v1)]) hx hb dX3_readLog_33 rfl hl (by decide) rfl (fun ls hl => ?_)
  refine lv_lload_n hx hb dX3_readLog_34 rfl (lv_at hl 0 rfl) ?_
  refine lv_ldc2 hx hb hown (hts (.constantLong RX3 105 (2048)) (List.mem_of_getElem? (i := 16) rfl)) dX3_readLog_35 ?_
  refine W.lcmp hx hb dX3_readLog_38 ?_
  refine lv_if_le (tgt := 49) hx hb dX3_readLog_39 (by decide) (fun c12 => ?_) (fun c12 => ?_)
  · have h := nd_pos h c12
    exact (db_X3_readLog_49 C K) (q9) s10 _ _ _ h hP hD hS (lv_sub hl [1, 0] rfl)
  · have h := nd_neg h c12
    refine lv_aload_n hx hb dX3_readLog_42 rfl (lv_at hl 1 rfl) ?_
    refine lv_bipush (v := 6) hx hb dX3_readLog_43 (by decide) ?_
    refine lv_iconst (v := 0) hx hb dX3_readLog_45 (by decide) ?_
    obtain ⟨s27, hq, h⟩ := nd_b1_e h
    have hPc := dp_X3s_1 hP
    have hDc := dd_X3s_1 hD
    have hKc := dy_X3s_1 hK
    have hFc := nd_rs hDc hS hA
    have hzA : ∀ q : Nat, H.size ≤ q → A q := fun q h => hA q (Nat.le_trans hS.1 h)
    refine nd_cVv (As := [.int 6, .int 0]) (rest := []) (w' := dw_X3c (fun k => a (k + 1)) (fun k => ac (k + 1)) s27) ⟨hx, hb, hml, hown, hts⟩ (fun sz => dm_X3_blame l hlt dC dI (fun k => a (k + 1)) (fun k => ac (k + 1)) n (6) (0) s10.2 hq sz) (cwV 2 hts gi_dm_X3_readLog_2 rfl rfl rfl (by decide +kernel) ⟨Nat.le_of_ble_eq_true rfl, Nat.le_of_ble_eq_true rfl⟩) hPc hDc hKc hS hA hN (va_recv hKc hPc (ci := 4) (q0 := 0) rfl rfl) rfl hl.1 rfl (Nat.le_of_ble_eq_true rfl) dX3_readLog_46 (fun H locs hP1 hD1 hk1 hS => ?_)
    obtain ⟨hP, hD⟩ := dn_X3s_1 hP hD hzA hk1 hP1 hD1
    obtain ⟨s29, es29, h⟩ := nd_let_e h
    have hP : va_P (dC, dI) vwCl (dw_X3s a ac s29) H := by rw [es29]; exact hP
    have hD : va_D A (dw_X3s a ac s29) := by rw [es29]; exact hD
    exact (db_X3_readLog_49 C K) (q9) s29 _ _ _ h hP hD hS (lv_sub hl [1, 0] rfl)
set_option maxHeartbeats 40000000 in
set_option maxRecDepth 100000 in
theorem dm_X3_readLog (l : Launch) (hlt : l.stackTraces = false) (dC : Nat → ClassId) (dI : Nat → Nat → Nat) (a : Nat → Nat) (ac : Nat → ClassId) (n : Nat) (v1 : Int32) (s0 : St × (St)) {r : Int32 × (St × (St))} (h : df_X3_readLog n (a 0) v1 s0 = some r) (sz : Nat) : Met l yX3_readLog ow_dm_X3_readLog ({ frames := 5, cells := 0, slots := 0, locals := 127 }) (va_Pc [.ref (a 1), .ref (a 0), .int v1] (fun U => U.heap.size = sz ∧ va_P (dC, dI) vwCl (dw_X3s a ac s0) U.heap ∧ va_K (dC, dI) vwCl (dk_X3s ac) U ∧ va_D (fun _ => True) (dw_X3s a ac s0) ∧ nv_E dI (va_A (dw_X3s a ac s0) sz) U)) (va_Qi (fun x _ => x = r.1) (fun (_ : Unit) t => va_P (dC, dI) vwCl (dw_X3s a ac r.2) t.heap ∧ va_K (dC, dI) vwCl (dk_X3s ac) t ∧ va_D (va_A (dw_X3s a ac s0) sz) (dw_X3s a ac r.2)) (va_A (dw_X3s a ac s0) sz)) 0 0 (va_A (dw_X3s a ac s0) sz) := by
  refine Met.ofW (cc := cX3_readLog) (maxL := 6) (ret := (some .int)) (by decide) rfl ?_
  intro p e s m args below meth c s₁ B hml hv
  obtain ⟨rfl, hsz, hP, hK, hD0, hN⟩ := hv
  have hx := B.exec
  have hb := B.bytes
  have hr := B.returns
  have hts := atoms_spec (ws := ow_dm_X3_readLog) B.pre
  have hown : s.vm.findClass RX3 = some m.cls := findClass_of_methodNamed B.named
  have hlocks := B.notSynchronized
  subst hsz
  have hD := hD0.self (sz := s.heap.size)
  generalize hAe : va_A (dw_X3s a ac s0) s.heap.size = A at hD hN ⊢
  have hA : ∀ q : Nat, s.heap.size ≤ q → A q := fun q h => by rw [← hAe]; exact Or.inr h
  have hl := lv_entry ([.ref (a 1), .ref (a 0), .int v1]) (n := 6) (Nat.le_of_ble_eq_true rfl)
  rw [lg_entry_eq]
  generalize (lg_sl ([.ref (a 1), .ref (a 0), .int v1]) ++ List.replicate (6 - (lg_sl ([.ref (a 1), .ref (a 0), .int v1])).length) Slot.unset).toArray = ls at hl ⊢
  have hl : lv_has ls 6 [(0, .ref (a 1)), (1, .ref (a 0)), (2, .int v1)] := hl
  exact db_X3_readLog_0 (dC := dC) (dI := dI) (a := a) (ac := ac) (n := n) (r := r) ⟨hlt, hx, hb, hml, hown, hts, hN, hA, hK⟩ (fun pc v τ H locs ls d z er hP hD hS => by subst er; exact W.zret (v := v) hx hb hr z (fun t ht hW => ⟨⟨v, (), rfl, rfl, by rw [ht]; exact hP, va_K.moved hW.alike hK, hD⟩, hS.F ht⟩) hS.2.2 d) v1 s0 _ _ _ h hP hD va_S.rf (lv_sub hl [0, 1, 2] rfl)
def ow_dm_J0_coder_7d493 : List Cond := Cond.code yJ0_coder_7d493 cJ0_coder_7d493 1 (some .byte) :: ([Cond.fieldLink RJ0 38 "java/lang/String" "COMPACT_STRINGS" "Z", Cond.fieldLink RJ0 15 "java/lang/String" "coder" "B"] ++ [])
theorem gd_dm_J0_coder_7d493 : ∀ w ∈ ow_dm_J0_coder_7d493, (w.onTables && w.keeps) = true ∨ ∃ ty, w = Cond.arrayClass ty := List.forall_mem_cons.mpr ⟨good_of_word rfl, List.forall_mem_append.mpr ⟨fun w h => good_of_word (List.all_eq_true.mp (by decide +kernel) w h), fun _ h => nomatch h⟩⟩
def dj_J0_coder_7d493_14 (p : Program) (l : Launch) (e : Env) (s : State) (m : MethodId) (args : Array Value) (below : List Frame) (meth : Method) (c : Code) (Q : State → Prop) (A : Nat → Prop) (dC : Nat → ClassId) (dI : Nat → Nat → Nat) (a : Nat → Nat) (ac : Nat → ClassId) (g : Int32 → (Unit) → Option (Int32 × (Unit))) (r : Int32 × (Unit)) : Prop := ∀ (y0 : Int32) (s0 : Unit) (H : Heap) (locs : List Loc) (ls : Array Slot), g y0 s0 = some r → va_P (dC, dI) vwCl (dw_P a ac s0) H → va_D A (dw_P a ac s0) → va_S A s.heap H locs → lv_has ls 1 [] → W p l e (headSpec ow_dm_J0_coder_7d493 ({ frames := 0, cells := 0, slots := 0, locals := 0 })).room s m args below meth c H locs 0 0 Q (F0 m 14 ls [.int y0])
def dj_J0_coder_7d493_0 (p : Program) (l : Launch) (e : Env) (s : State) (m : MethodId) (args : Array Value) (below : List Frame) (meth : Method) (c : Code) (Q : State → Prop) (A : Nat → Prop) (dC : Nat → ClassId) (dI : Nat → Nat → Nat) (a : Nat → Nat) (ac : Nat → ClassId) (g : Nat → (Unit) → Option (Int32 × (Unit))) (r : Int32 × (Unit)) : Prop := ∀ (vt : Nat) (s0 : Unit) (H : Heap) (locs : List Loc) (ls : Array Slot), g vt s0 = some r → va_P (dC, dI) vwCl (dw_P a ac s0) H → va_D A (dw_P a ac s0) → va_S A s.heap H locs → lv_has ls 1 [(0, .ref (dI 1000 vt))] → W p l e (headSpec ow_dm_J0_coder_7d493 ({ frames := 0, cells := 0, slots := 0, locals := 0 })).room s m args below meth c H locs 0 0 Q (F0 m 0 ls [])
set_option maxHeartbeats 40000000 in
set_option maxRecDepth 100000 in
theorem db_J0_coder_7d493_14 {p : Program} {l : Launch} {e : Env} {s : State} {m : MethodId} {args : Array Value} {below : List Frame} {meth : Method} {c : Code} {Q : State → Prop} {A : Nat → Prop} {dC : Nat → ClassId} {dI : Nat → Nat → Nat} {a : Nat → Nat} {ac : Nat → ClassId} {n : Nat} {r : Int32 × (Unit)} (C : nd_C p l s m args c A (dC, dI) cJ0_coder_7d493 1 RJ0 ow_dm_J0_coder_7d493 (dk_P ac)) (K : nd_Ki p l e (headSpec ow_dm_J0_coder_7d493 ({ frames := 0, cells := 0, slots := 0, locals := 0 })).room s m args below meth c Q A (dC, dI) cJ0_coder_7d493 .byte (Unit) (dw_P a ac) r) : dj_J0_coder_7d493_14 p l e s m args below meth c Q A dC dI a ac (df_J0_coder_7d493_14 n) r := by
  obtain ⟨hlt, hx, hb, hml, hown, hts, hN, hA, hK⟩ := id C
  intro y0 s0 H locs ls h hP hD hS hl
  unfold df_J0_coder_7d493_14 at h
  obtain ⟨n2, h⟩ := nd_z_e ⟨_, rfl⟩ h
  exact K _ _ _ _ _ _ dJ0_coder_7d493_14 n2 (Option.some.inj h).symm hP hD hS
set_option maxHeartbeats 40000000 in
set_option maxRecDepth 100000 in
theorem db_J0_coder_7d493_0 {p : Program} {l : Launch} {e : Env} {s : State} {m : MethodId} {args : Array Value} {below : List Frame} {meth : Method} {c : Code} {Q : State → Prop} {A : Nat → Prop} {dC : Nat → ClassId} {dI : Nat → Nat → Nat} {a : Nat → Nat} {ac : Nat → ClassId} {n : Nat} {r : Int32 × (Unit)} (C : nd_C p l s m args c A (dC, dI) cJ0_coder_7d493 1 RJ0 ow_dm_J0_coder_7d493 (dk_P ac)) (K : nd_Ki p l e (headSpec ow_dm_J0_coder_7d493 ({ frames := 0, cells := 0, slots := 0, locals := 0 })).room s m args below meth c Q A (dC, dI) cJ0_coder_7d493 .byte (Unit) (dw_P a ac) r) : dj_J0_coder_7d493_0 p l e s m args below meth c Q A dC dI a ac (df_J0_coder_7d493_0 n) r := by
  obtain ⟨hlt, hx, hb, hml, hown, hts, hN, hA, hK⟩ := id C
  intro vt s0 H locs ls h hP hD hS hl
  unfold df_J0_coder_7d493_0 at h
  refine va_gets (v := .int 1) hx hb hN.2.2.2.2.1 hS hown (hts (.fieldLink RJ0 38 "java/lang/String" "COMPACT_STRINGS" "Z") (List.mem_of_getElem? (i := 1) rfl)) (fun _ h9 => h9) dJ0_coder_7d493_0 ?_
  refine lv_if_eq (tgt := 13) hx hb dJ0_coder_7d493_3 (by decide) (fun h9 => absurd h9 (by decide)) (fun _ => ?_)
  refine lv_aload_n hx hb dJ0_coder_7d493_6 rfl (lv_at hl 0 rfl) ?_
  obtain ⟨i1, h⟩ := nd_lt_e h
  refine vk_getf hx hb (hN.2.2.2.2.2.2.2.2.2.2.2.1 vt i1).2.1 hS hown (hts (.fieldLink RJ0 15 "java/lang/String" "coder" "B") (List.mem_of_getElem? (i := 2) rfl)) (fun _ h9 => h9) dJ0_coder_7d493_7 ?_
  refine lv_goto (tgt := 14) hx hb dJ0_coder_7d493_10 (by decide) ?_
  exact (db_J0_coder_7d493_14 C K) (0) s0 _ _ _ h hP hD hS (lv_sub hl [] rfl)
set_option maxHeartbeats 40000000 in
set_option maxRecDepth 100000 in
theorem dm_J0_coder_7d493 (l : Launch) (hlt : l.stackTraces = false) (dC : Nat → ClassId) (dI : Nat → Nat → Nat) (a : Nat → Nat) (ac : Nat → ClassId) (n : Nat) (vt : Nat) (s0 : Unit) {r : Int32 × (Unit)} (h : df_J0_coder_7d493 n vt s0 = some r) (sz : Nat) : Met l yJ0_coder_7d493 ow_dm_J0_coder_7d493 ({ frames := 0, cells := 0, slots := 0, locals := 0 }) (va_Pc [.ref (dI 1000 vt)] (fun U => U.heap.size = sz ∧ va_P (dC, dI) vwCl (dw_P a ac s0) U.heap ∧ va_K (dC, dI) vwCl (dk_P ac) U ∧ va_D (fun _ => True) (dw_P a ac s0) ∧ nv_E dI (va_A (dw_P a ac s0) sz) U)) (va_Qi (fun x _ => x = r.1) (fun (_ : Unit) t => va_P (dC, dI) vwCl (dw_P a ac r.2) t.heap ∧ va_K (dC, dI) vwCl (dk_P ac) t ∧ va_D (va_A (dw_P a ac s0) sz) (dw_P a ac r.2)) (va_A (dw_P a ac s0) sz)) 0 0 (va_A (dw_P a ac s0) sz) := by
  refine Met.ofW (cc := cJ0_coder_7d493) (maxL := 1) (ret := (some .byte)) (by decide) rfl ?_
  intro p e s m args below meth c s₁ B hml hv
  obtain ⟨rfl, hsz, hP, hK, hD0, hN⟩ := hv
  have hx := B.exec
  have hb := B.bytes
  have hr := B.returns
  have hts := atoms_spec (ws := ow_dm_J0_coder_7d493) B.pre
  have hown : s.vm.findClass RJ0 = some m.cls := findClass_of_methodNamed B.named
  have hlocks := B.notSynchronized
  subst hsz
  have hD := hD0.self (sz := s.heap.size)
  generalize hAe : va_A (dw_P a ac s0) s.heap.size = A at hD hN ⊢
  have hA : ∀ q : Nat, s.heap.size ≤ q → A q := fun q h => by rw [← hAe]; exact Or.inr h
  have hl := lv_entry ([.ref (dI 1000 vt)]) (n := 1) (Nat.le_of_ble_eq_true rfl)
  rw [lg_entry_eq]
  generalize (lg_sl ([.ref (dI 1000 vt)]) ++ List.replicate (1 - (lg_sl ([.ref (dI 1000 vt)])).length) Slot.unset).toArray = ls at hl ⊢
  have hl : lv_has ls 1 [(0, .ref (dI 1000 vt))] := hl
  exact db_J0_coder_7d493_0 (dC := dC) (dI := dI) (a := a) (ac := ac) (n := n) (r := r) ⟨hlt, hx, hb, hml, hown, hts, hN, hA, hK⟩ (fun pc v τ H locs ls d z er hP hD hS => by subst er; exact W.zret (v := v) hx hb hr z (fun t ht hW => ⟨⟨v, (), rfl, rfl, by rw [ht]; exact hP, va_K.moved hW.alike hK, hD⟩, hS.F ht⟩) hS.2.2 d) vt s0 _ _ _ h hP hD va_S.rf (lv_sub hl [0] rfl)
def ow_dm_J0_length_8abf5 : List Cond := Cond.code yJ0_length_8abf5 cJ0_length_8abf5 1 (some .int) :: ([Cond.fieldLink RJ0 9 "java/lang/String" "value" "[B", Cond.methodLink RJ0 335 yJ0_coder_7d493, Cond.instanceMethod yJ0_coder_7d493, Cond.selects RJ0 yJ0_coder_7d493 yJ0_coder_7d493, Cond.initialized RJ0] ++ (ow_dm_J0_coder_7d493 ++ []))
theorem gd_dm_J0_length_8abf5 : ∀ w ∈ ow_dm_J0_length_8abf5, (w.onTables && w.keeps) = true ∨ ∃ ty, w = Cond.arrayClass ty := List.forall_mem_cons.mpr ⟨good_of_word rfl, List.forall_mem_append.mpr ⟨fun w h => good_of_word (List.all_eq_true.mp (by decide +kernel) w h), List.forall_mem_append.mpr ⟨gd_dm_J0_coder_7d493, fun _ h => nomatch h⟩⟩⟩
theorem gi_dm_J0_length_8abf5_0 : GoodIn ow_dm_J0_length_8abf5 (wsV RJ0 335 RJ0 yJ0_coder_7d493 ow_dm_J0_coder_7d493) := goodIn_app (goodIn_of _ (by decide +kernel)) (fun w h => ⟨List.mem_cons_of_mem _ (List.mem_append_right _ (List.mem_append_left _ h)), gd_dm_J0_coder_7d493 w h⟩)
def dj_J0_length_8abf5_0 (p : Program) (l : Launch) (e : Env) (s : State) (m : MethodId) (args : Array Value) (below : List Frame) (meth : Method) (c : Code) (Q : State → Prop) (A : Nat → Prop) (dC : Nat → ClassId) (dI : Nat → Nat → Nat) (a : Nat → Nat) (ac : Nat → ClassId) (g : Nat → (Unit) → Option (Int32 × (Unit))) (r : Int32 × (Unit)) : Prop := ∀ (vt : Nat) (s0 : Unit) (H : Heap) (locs : List Loc) (ls : Array Slot), g vt s0 = some r → va_P (dC, dI) vwCl (dw_P a ac s0) H → va_D A (dw_P a ac s0) → va_S A s.heap H locs → lv_has ls 1 [(0, .ref (dI 1000 vt))] → W p l e (headSpec ow_dm_J0_length_8abf5 ({ frames := 1, cells := 0, slots := 0, locals := 20 })).room s m args below meth c H locs 0 0 Q (F0 m 0 ls [])
set_option maxHeartbeats 40000000 in
set_option maxRecDepth 100000 in
theorem db_J0_length_8abf5_0 {p : Program} {l : Launch} {e : Env} {s : State} {m : MethodId} {args : Array Value} {below : List Frame} {meth : Method} {c : Code} {Q : State → Prop} {A : Nat → Prop} {dC : Nat → ClassId} {dI : Nat → Nat → Nat} {a : Nat → Nat} {ac : Nat → ClassId} {n : Nat} {r : Int32 × (Unit)} (C : nd_C p l s m args c A (dC, dI) cJ0_length_8abf5 1 RJ0 ow_dm_J0_length_8abf5 (dk_P ac)) (K : nd_Ki p l e (headSpec ow_dm_J0_length_8abf5 ({ frames := 1, cells := 0, slots := 0, locals := 20 })).room s m args below meth c Q A (dC, dI) cJ0_length_8abf5 .int (Unit) (dw_P a ac) r) : dj_J0_length_8abf5_0 p l e s m args below meth c Q A dC dI a ac (df_J0_length_8abf5_0 n) r := by
  obtain ⟨hlt, hx, hb, hml, hown, hts, hN, hA, hK⟩ := id C
  intro vt s0 H locs ls h hP hD hS hl
  unfold df_J0_length_8abf5_0 at h
  refine lv_aload_n hx hb dJ0_length_8abf5_0 rfl (lv_at hl 0 rfl) ?_
  obtain ⟨i1, h⟩ := nd_lt_e h
  refine vk_getf hx hb (hN.2.2.2.2.2.2.2.2.2.2.2.1 vt i1).2.2.1 hS hown (hts (.fieldLink RJ0 9 "java/lang/String" "value" "[B") (List.mem_of_getElem? (i := 1) rfl)) (fun _ h9 => h9) dJ0_length_8abf5_1 ?_
  obtain ⟨i2, h⟩ := nd_lt_e h
  refine va_tlen (v := Int32.ofNat (ks_n vt)) hx hb (hN.2.2.2.2.2.2.2.2.2.2.2.1 vt i2).2.2.2 hS rfl dJ0_length_8abf5_4 ?_
  refine lv_aload_n hx hb dJ0_length_8abf5_5 rfl (lv_at hl 0 rfl) ?_
  obtain ⟨i5, h⟩ := nd_lt_e h
  obtain ⟨q3, s4, hq, h⟩ := nd_b2_e h
  have hPc : va_P (dC, dI) vwCl (dw_P a ac ()) H := nd_p0
  have hDc : va_D A (dw_P a ac ()) := nd_d0
  have hKc : va_K (dC, dI) vwCl (dk_P ac) s := nd_y0 hK
  have hFc : ∀ q, va_A (dw_P a ac ()) H.size q → A q := nd_r0 hS hA
  refine nd_cVi (As := []) (rest := [.int (Int32.ofNat (ks_n vt))]) (q := q3) (w' := dw_P a ac s4) ⟨hx, hb, hml, hown, hts⟩ (fun sz => dm_J0_coder_7d493 l hlt dC dI a ac n (vt) () hq sz) (cwV 0 hts gi_dm_J0_length_8abf5_0 rfl rfl rfl (by decide +kernel) ⟨Nat.le_of_ble_eq_true rfl, Nat.le_of_ble_eq_true rfl⟩) hPc hDc hKc hS hA hN (nv_rcv hN.2.2.2.2.2.2.2.2.2.2.2 i5 hS) rfl hl.1 rfl (Nat.le_of_ble_eq_true rfl) dJ0_length_8abf5_6 (fun H locs hP1 hD1 hk1 hS => ?_)
  have hP := nd_n0 hP hk1
  refine lv_ishr hx hb dJ0_length_8abf5_9 ?_
  exact K _ _ _ _ _ _ dJ0_length_8abf5_10 rfl (Option.some.inj h).symm hP hD hS
set_option maxHeartbeats 40000000 in
set_option maxRecDepth 100000 in
theorem dm_J0_length_8abf5 (l : Launch) (hlt : l.stackTraces = false) (dC : Nat → ClassId) (dI : Nat → Nat → Nat) (a : Nat → Nat) (ac : Nat → ClassId) (n : Nat) (vt : Nat) (s0 : Unit) {r : Int32 × (Unit)} (h : df_J0_length_8abf5 n vt s0 = some r) (sz : Nat) : Met l yJ0_length_8abf5 ow_dm_J0_length_8abf5 ({ frames := 1, cells := 0, slots := 0, locals := 20 }) (va_Pc [.ref (dI 1000 vt)] (fun U => U.heap.size = sz ∧ va_P (dC, dI) vwCl (dw_P a ac s0) U.heap ∧ va_K (dC, dI) vwCl (dk_P ac) U ∧ va_D (fun _ => True) (dw_P a ac s0) ∧ nv_E dI (va_A (dw_P a ac s0) sz) U)) (va_Qi (fun x _ => x = r.1) (fun (_ : Unit) t => va_P (dC, dI) vwCl (dw_P a ac r.2) t.heap ∧ va_K (dC, dI) vwCl (dk_P ac) t ∧ va_D (va_A (dw_P a ac s0) sz) (dw_P a ac r.2)) (va_A (dw_P a ac s0) sz)) 0 0 (va_A (dw_P a ac s0) sz) := by
  refine Met.ofW (cc := cJ0_length_8abf5) (maxL := 1) (ret := (some .int)) (by decide) rfl ?_
  intro p e s m args below meth c s₁ B hml hv
  obtain ⟨rfl, hsz, hP, hK, hD0, hN⟩ := hv
  have hx := B.exec
  have hb := B.bytes
  have hr := B.returns
  have hts := atoms_spec (ws := ow_dm_J0_length_8abf5) B.pre
  have hown : s.vm.findClass RJ0 = some m.cls := findClass_of_methodNamed B.named
  have hlocks := B.notSynchronized
  subst hsz
  have hD := hD0.self (sz := s.heap.size)
  generalize hAe : va_A (dw_P a ac s0) s.heap.size = A at hD hN ⊢
  have hA : ∀ q : Nat, s.heap.size ≤ q → A q := fun q h => by rw [← hAe]; exact Or.inr h
  have hl := lv_entry ([.ref (dI 1000 vt)]) (n := 1) (Nat.le_of_ble_eq_true rfl)
  rw [lg_entry_eq]
  generalize (lg_sl ([.ref (dI 1000 vt)]) ++ List.replicate (1 - (lg_sl ([.ref (dI 1000 vt)])).length) Slot.unset).toArray = ls at hl ⊢
  have hl : lv_has ls 1 [(0, .ref (dI 1000 vt))] := hl
  exact db_J0_length_8abf5_0 (dC := dC) (dI := dI) (a := a) (ac := ac) (n := n) (r := r) ⟨hlt, hx, hb, hml, hown, hts, hN, hA, hK⟩ (fun pc v τ H locs ls d z er hP hD hS => by subst er; exact W.zret (v := v) hx hb hr z (fun t ht hW => ⟨⟨v, (), rfl, rfl, by rw [ht]; exact hP, va_K.moved hW.alike hK, hD⟩, hS.F ht⟩) hS.2.2 d) vt s0 _ _ _ h hP hD va_S.rf (lv_sub hl [0] rfl)
def ow_dm_J0_isLatin1_aae02 : List Cond := Cond.code yJ0_isLatin1_aae02 cJ0_isLatin1_aae02 1 (some .boolean) :: ([Cond.fieldLink RJ0 38 "java/lang/String" "COMPACT_STRINGS" "Z", Cond.fieldLink RJ0 15 "java/lang/String" "coder" "B"] ++ [])
theorem gd_dm_J0_isLatin1_aae02 : ∀ w ∈ ow_dm_J0_isLatin1_aae02, (w.onTables && w.keeps) = true ∨ ∃ ty, w = Cond.arrayClass ty := List.forall_mem_cons.mpr ⟨good_of_word rfl, List.forall_mem_append.mpr ⟨fun w h => good_of_word (List.all_eq_true.mp (by decide +kernel) w h), fun _ h => nomatch h⟩⟩
def dj_J0_isLatin1_aae02_18 (p : Program) (l : Launch) (e : Env) (s : State) (m : MethodId) (args : Array Value) (below : List Frame) (meth : Method) (c : Code) (Q : State → Prop) (A : Nat → Prop) (dC : Nat → ClassId) (dI : Nat → Nat → Nat) (a : Nat → Nat) (ac : Nat → ClassId) (g : Int32 → (Unit) → Option (Int32 × (Unit))) (r : Int32 × (Unit)) : Prop := ∀ (y0 : Int32) (s0 : Unit) (H : Heap) (locs : List Loc) (ls : Array Slot), g y0 s0 = some r → va_P (dC, dI) vwCl (dw_P a ac s0) H → va_D A (dw_P a ac s0) → va_S A s.heap H locs → lv_has ls 1 [] → W p l e (headSpec ow_dm_J0_isLatin1_aae02 ({ frames := 0, cells := 0, slots := 0, locals := 0 })).room s m args below meth c H locs 0 0 Q (F0 m 18 ls [.int y0])
def dj_J0_isLatin1_aae02_0 (p : Program) (l : Launch) (e : Env) (s : State) (m : MethodId) (args : Array Value) (below : List Frame) (meth : Method) (c : Code) (Q : State → Prop) (A : Nat → Prop) (dC : Nat → ClassId) (dI : Nat → Nat → Nat) (a : Nat → Nat) (ac : Nat → ClassId) (g : Nat → (Unit) → Option (Int32 × (Unit))) (r : Int32 × (Unit)) : Prop := ∀ (vt : Nat) (s0 : Unit) (H : Heap) (locs : List Loc) (ls : Array Slot), g vt s0 = some r → va_P (dC, dI) vwCl (dw_P a ac s0) H → va_D A (dw_P a ac s0) → va_S A s.heap H locs → lv_has ls 1 [(0, .ref (dI 1000 vt))] → W p l e (headSpec ow_dm_J0_isLatin1_aae02 ({ frames := 0, cells := 0, slots := 0, locals := 0 })).room s m args below meth c H locs 0 0 Q (F0 m 0 ls [])
set_option maxHeartbeats 40000000 in
set_option maxRecDepth 100000 in
theorem db_J0_isLatin1_aae02_18 {p : Program} {l : Launch} {e : Env} {s : State} {m : MethodId} {args : Array Value} {below : List Frame} {meth : Method} {c : Code} {Q : State → Prop} {A : Nat → Prop} {dC : Nat → ClassId} {dI : Nat → Nat → Nat} {a : Nat → Nat} {ac : Nat → ClassId} {n : Nat} {r : Int32 × (Unit)} (C : nd_C p l s m args c A (dC, dI) cJ0_isLatin1_aae02 1 RJ0 ow_dm_J0_isLatin1_aae02 (dk_P ac)) (K : nd_Ki p l e (headSpec ow_dm_J0_isLatin1_aae02 ({ frames := 0, cells := 0, slots := 0, locals := 0 })).room s m args below meth c Q A (dC, dI) cJ0_isLatin1_aae02 .boolean (Unit) (dw_P a ac) r) : dj_J0_isLatin1_aae02_18 p l e s m args below meth c Q A dC dI a ac (df_J0_isLatin1_aae02_18 n) r := by
  obtain ⟨hlt, hx, hb, hml, hown, hts, hN, hA, hK⟩ := id C
  intro y0 s0 H locs ls h hP hD hS hl
  unfold df_J0_isLatin1_aae02_18 at h
  obtain ⟨n2, h⟩ := nd_z_e ⟨_, rfl⟩ h
  exact K _ _ _ _ _ _ dJ0_isLatin1_aae02_18 n2 (Option.some.inj h).symm hP hD hS
set_option maxHeartbeats 40000000 in
set_option maxRecDepth 100000 in
theorem db_J0_isLatin1_aae02_0 {p : Program} {l : Launch} {e : Env} {s : State} {m : MethodId} {args : Array Value} {below : List Frame} {meth : Method} {c : Code} {Q : State → Prop} {A : Nat → Prop} {dC : Nat → ClassId} {dI : Nat → Nat → Nat} {a : Nat → Nat} {ac : Nat → ClassId} {n : Nat} {r : Int32 × (Unit)} (C : nd_C p l s m args c A (dC, dI) cJ0_isLatin1_aae02 1 RJ0 ow_dm_J0_isLatin1_aae02 (dk_P ac)) (K : nd_Ki p l e (headSpec ow_dm_J0_isLatin1_aae02 ({ frames := 0, cells := 0, slots := 0, locals := 0 })).room s m args below meth c Q A (dC, dI) cJ0_isLatin1_aae02 .boolean (Unit) (dw_P a ac) r) : dj_J0_isLatin1_aae02_0 p l e s m args below meth c Q A dC dI a ac (df_J0_isLatin1_aae02_0 n) r := by
  obtain ⟨hlt, hx, hb, hml, hown, hts, hN, hA, hK⟩ := id C
  intro vt s0 H locs ls h hP hD hS hl
  unfold df_J0_isLatin1_aae02_0 at h
  refine va_gets (v := .int 1) hx hb hN.2.2.2.2.1 hS hown (hts (.fieldLink RJ0 38 "java/lang/String" "COMPACT_STRINGS" "Z") (List.mem_of_getElem? (i := 1) rfl)) (fun _ h9 => h9) dJ0_isLatin1_aae02_0 ?_
  refine lv_if_eq (tgt := 17) hx hb dJ0_isLatin1_aae02_3 (by decide) (fun h9 => absurd h9 (by decide)) (fun _ => ?_)
  refine lv_aload_n hx hb dJ0_isLatin1_aae02_6 rfl (lv_at hl 0 rfl) ?_
  obtain ⟨i1, h⟩ := nd_lt_e h
  refine vk_getf hx hb (hN.2.2.2.2.2.2.2.2.2.2.2.1 vt i1).2.1 hS hown (hts (.fieldLink RJ0 15 "java/lang/String" "coder" "B") (List.mem_of_getElem? (i := 2) rfl)) (fun _ h9 => h9) dJ0_isLatin1_aae02_7 ?_
  refine lv_if_ne (tgt := 17) hx hb dJ0_isLatin1_aae02_10 (by decide) (fun h9 => absurd h9 (by decide)) (fun _ => ?_)
  refine lv_iconst (v := 1) hx hb dJ0_isLatin1_aae02_13 (by decide) ?_
  refine lv_goto (tgt := 18) hx hb dJ0_isLatin1_aae02_14 (by decide) ?_
  exact (db_J0_isLatin1_aae02_18 C K) (1) s0 _ _ _ h hP hD hS (lv_sub hl [] rfl)
set_option maxHeartbeats 40000000 in
set_option maxRecDepth 100000 in
theorem dm_J0_isLatin1_aae02 (l : Launch) (hlt : l.stackTraces = false) (dC : Nat → ClassId) (dI : Nat → Nat → Nat) (a : Nat → Nat) (ac : Nat → ClassId) (n : Nat) (vt : Nat) (s0 : Unit) {r : Int32 × (Unit)} (h : df_J0_isLatin1_aae02 n vt s0 = some r) (sz : Nat) : Met l yJ0_isLatin1_aae02 ow_dm_J0_isLatin1_aae02 ({ frames := 0, cells := 0, slots := 0, locals := 0 }) (va_Pc [.ref (dI 1000 vt)] (fun U => U.heap.size = sz ∧ va_P (dC, dI) vwCl (dw_P a ac s0) U.heap ∧ va_K (dC, dI) vwCl (dk_P ac) U ∧ va_D (fun _ => True) (dw_P a ac s0) ∧ nv_E dI (va_A (dw_P a ac s0) sz) U)) (va_Qi (fun x _ => x = r.1) (fun (_ : Unit) t => va_P (dC, dI) vwCl (dw_P a ac r.2) t.heap ∧ va_K (dC, dI) vwCl (dk_P ac) t ∧ va_D (va_A (dw_P a ac s0) sz) (dw_P a ac r.2)) (va_A (dw_P a ac s0) sz)) 0 0 (va_A (dw_P a ac s0) sz) := by
  refine Met.ofW (cc := cJ0_isLatin1_aae02) (maxL := 1) (ret := (some .boolean)) (by decide) rfl ?_
  intro p e s m args below meth c s₁ B hml hv
  obtain ⟨rfl, hsz, hP, hK, hD0, hN⟩ := hv
  have hx := B.exec
  have hb := B.bytes
  have hr := B.returns
  have hts := atoms_spec (ws := ow_dm_J0_isLatin1_aae02) B.pre
  have hown : s.vm.findClass RJ0 = some m.cls := findClass_of_methodNamed B.named
  have hlocks := B.notSynchronized
  subst hsz
  have hD := hD0.self (sz := s.heap.size)
  generalize hAe : va_A (dw_P a ac s0) s.heap.size = A at hD hN ⊢
  have hA : ∀ q : Nat, s.heap.size ≤ q → A q := fun q h => by rw [← hAe]; exact Or.inr h
  have hl := lv_entry ([.ref (dI 1000 vt)]) (n := 1) (Nat.le_of_ble_eq_true rfl)
  rw [lg_entry_eq]
  generalize (lg_sl ([.ref (dI 1000 vt)]) ++ List.replicate (1 - (lg_sl ([.ref (dI 1000 vt)])).length) Slot.unset).toArray = ls at hl ⊢
  have hl : lv_has ls 1 [(0, .ref (dI 1000 vt))] := hl
  exact db_J0_isLatin1_aae02_0 (dC := dC) (dI := dI) (a := a) (ac := ac) (n := n) (r := r) ⟨hlt, hx, hb, hml, hown, hts, hN, hA, hK⟩ (fun pc v τ H locs ls d z er hP hD hS => by subst er; exact W.zret (v := v) hx hb hr z (fun t ht hW => ⟨⟨v, (), rfl, rfl, by rw [ht]; exact hP, va_K.moved hW.alike hK, hD⟩, hS.F ht⟩) hS.2.2 d) vt s0 _ _ _ h hP hD va_S.rf (lv_sub hl [0] rfl)
def ow_dm_J3_checkIndex_8e157 : List Cond := Cond.code yJ3_checkIndex_8e157 cJ3_checkIndex_8e157 3 (some .int) :: ([] ++ [])
theorem gd_dm_J3_checkIndex_8e157 : ∀ w ∈ ow_dm_J3_checkIndex_8e157, (w.onTables && w.keeps) = true ∨ ∃ ty, w = Cond.arrayClass ty := List.forall_mem_cons.mpr ⟨good_of_word rfl, List.forall_mem_append.mpr ⟨fun w h => good_of_word (List.all_eq_true.mp (by decide +kernel) w h), fun _ h => nomatch h⟩⟩
def dj_J3_checkIndex_8e157_0 (p : Program) (l : Launch) (e : Env) (s : State) (m : MethodId) (args : Array Value) (below : List Frame) (meth : Method) (c : Code) (Q : State → Prop) (A : Nat → Prop) (dC : Nat → ClassId) (dI : Nat → Nat → Nat) (a : Nat → Nat) (ac : Nat → ClassId) (g : Int32 → Int32 → (Unit) → Option (Int32 × (Unit))) (r : Int32 × (Unit)) : Prop := ∀ (v0 : Int32) (v1 : Int32) (s0 : Unit) (H : Heap) (locs : List Loc) (ls : Array Slot), g v0 v1 s0 = some r → va_P (dC, dI) vwCl (dw_P a ac s0) H → va_D A (dw_P a ac s0) → va_S A s.heap H locs → lv_has ls 3 [(0, .int v0), (1, .int v1)] → W p l e (headSpec ow_dm_J3_checkIndex_8e157 ({ frames := 0, cells := 0, slots := 0, locals := 0 })).room s m args below meth c H locs 0 0 Q (F0 m 0 ls [])
set_option maxHeartbeats 40000000 in
set_option maxRecDepth 100000 in
theorem db_J3_checkIndex_8e157_0 {p : Program} {l : Launch} {e : Env} {s : State} {m : MethodId} {args : Array Value} {below : List Frame} {meth : Method} {c : Code} {Q : State → Prop} {A : Nat → Prop} {dC : Nat → ClassId} {dI : Nat → Nat → Nat} {a : Nat → Nat} {ac : Nat → ClassId} {n : Nat} {r : Int32 × (Unit)} (C : nd_C p l s m args c A (dC, dI) cJ3_checkIndex_8e157 3 RJ3 ow_dm_J3_checkIndex_8e157 (dk_P ac)) (K : nd_Ki p l e (headSpec ow_dm_J3_checkIndex_8e157 ({ frames := 0, cells := 0, slots := 0, locals := 0 })).room s m args below meth c Q A (dC, dI) cJ3_checkIndex_8e157 .int (Unit) (dw_P a ac) r) : dj_J3_checkIndex_8e157_0 p l e s m args below meth c Q A dC dI a ac (df_J3_checkIndex_8e157_0 n) r := by
  obtain ⟨hlt, hx, hb, hml, hown, hts, hN, hA, hK⟩ := id C
  intro v0 v1 s0 H locs ls h hP hD hS hl
  unfold df_J3_checkIndex_8e157_0 at h
  refine lv_iload_n hx hb dJ3_checkIndex_8e157_0 rfl (lv_at hl 0 rfl) ?_
  refine lv_if_lt (tgt := 9) hx hb dJ3_checkIndex_8e157_1 (by decide) (fun c1 => ?_) (fun c1 => ?_)
  · have h := nd_pos h c1
    exact nomatch (show (none : Option (Int32 × (Unit))) = some r from h)
  · have h := nd_neg h c1
    refine lv_iload_n hx hb dJ3_checkIndex_8e157_4 rfl (lv_at hl 0 rfl) ?_
    refine lv_iload_n hx hb dJ3_checkIndex_8e157_5 rfl (lv_at hl 1 rfl) ?_
    refine lv_icmp_lt (tgt := 16) hx hb dJ3_checkIndex_8e157_6 (by decide) (fun c2 => ?_) (fun c2 => ?_)
    · have h := nd_pos h c2
      refine lv_iload_n hx hb dJ3_checkIndex_8e157_16 rfl (lv_at hl 0 rfl) ?_
      exact K _ _ _ _ _ _ dJ3_checkIndex_8e157_17 rfl (Option.some.inj h).symm hP hD hS
    · have h := nd_neg h c2
      exact nomatch (show (none : Option (Int32 × (Unit))) = some r from h)
set_option maxHeartbeats 40000000 in
set_option maxRecDepth 100000 in
theorem dm_J3_checkIndex_8e157 (l : Launch) (hlt : l.stackTraces = false) (dC : Nat → ClassId) (dI : Nat → Nat → Nat) (a : Nat → Nat) (ac : Nat → ClassId) (n : Nat) (v0 : Int32) (v1 : Int32) {v2 : Value} (hv2 : v2 = .null ∨ ∃ t : Nat, v2 = .ref t) (s0 : Unit) {r : Int32 × (Unit)} (h : df_J3_checkIndex_8e157 n v0 v1 s0 = some r) (sz : Nat) : Met l yJ3_checkIndex_8e157 ow_dm_J3_checkIndex_8e157 ({ frames := 0, cells := 0, slots := 0, locals := 0 }) (va_Pc [.int v0, .int v1, v2] (fun U => U.heap.size = sz ∧ va_P (dC, dI) vwCl (dw_P a ac s0) U.heap ∧ va_K (dC, dI) vwCl (dk_P ac) U ∧ va_D (fun _ => True) (dw_P a ac s0) ∧ nv_E dI (va_A (dw_P a ac s0) sz) U)) (va_Qi (fun x _ => x = r.1) (fun (_ : Unit) t => va_P (dC, dI) vwCl (dw_P a ac r.2) t.heap ∧ va_K (dC, dI) vwCl (dk_P ac) t ∧ va_D (va_A (dw_P a ac s0) sz) (dw_P a ac r.2)) (va_A (dw_P a ac s0) sz)) 0 0 (va_A (dw_P a ac s0) sz) := by
  rcases hv2 with rfl | ⟨t9, rfl⟩
  · refine Met.ofW (cc := cJ3_checkIndex_8e157) (maxL := 3) (ret := (some .int)) (by decide) rfl ?_
    intro p e s m args below meth c s₁ B hml hv
    obtain ⟨rfl, hsz, hP, hK, hD0, hN⟩ := hv
    have hx := B.exec
    have hb := B.bytes
    have hr := B.returns
    have hts := atoms_spec (ws := ow_dm_J3_checkIndex_8e157) B.pre
    have hown : s.vm.findClass RJ3 = some m.cls := findClass_of_methodNamed B.named
    have hlocks := B.notSynchronized
    subst hsz
    have hD := hD0.self (sz := s.heap.size)
    generalize hAe : va_A (dw_P a ac s0) s.heap.size = A at hD hN ⊢
    have hA : ∀ q : Nat, s.heap.size ≤ q → A q := fun q h => by rw [← hAe]; exact Or.inr h
    have hl := lv_entry ([.int v0, .int v1, .null]) (n := 3) (Nat.le_of_ble_eq_true rfl)
    rw [lg_entry_eq]
    generalize (lg_sl ([.int v0, .int v1, .null]) ++ List.replicate (3 - (lg_sl ([.int v0, .int v1, .null])).length) Slot.unset).toArray = ls at hl ⊢
    have hl : lv_has ls 3 [(0, .int v0), (1, .int v1), (2, .null)] := hl
    exact db_J3_checkIndex_8e157_0 (dC := dC) (dI := dI) (a := a) (ac := ac) (n := n) (r := r) ⟨hlt, hx, hb, hml, hown, hts, hN, hA, hK⟩ (fun pc v τ H locs ls d z er hP hD hS => by subst er; exact W.zret (v := v) hx hb hr z (fun t ht hW => ⟨⟨v, (), rfl, rfl, by rw [ht]; exact hP, va_K.moved hW.alike hK, hD⟩, hS.F ht⟩) hS.2.2 d) v0 v1 s0 _ _ _ h hP hD va_S.rf (lv_sub hl [0, 1] rfl)
  · refine Met.ofW (cc := cJ3_checkIndex_8e157) (maxL := 3) (ret := (some .int)) (by decide) rfl ?_
    intro p e s m args below meth c s₁ B hml hv
    obtain ⟨rfl, hsz, hP, hK, hD0, hN⟩ := hv
    have hx := B.exec
    have hb := B.bytes
    have hr := B.returns
    have hts := atoms_spec (ws := ow_dm_J3_checkIndex_8e157) B.pre
    have hown : s.vm.findClass RJ3 = some m.cls := findClass_of_methodNamed B.named
    have hlocks := B.notSynchronized
    subst hsz
    have hD := hD0.self (sz := s.heap.size)
    generalize hAe : va_A (dw_P a ac s0) s.heap.size = A at hD hN ⊢
    have hA : ∀ q : Nat, s.heap.size ≤ q → A q := fun q h => by rw [← hAe]; exact Or.inr h
    have hl := lv_entry ([.int v0, .int v1, (.ref t9)]) (n := 3) (Nat.le_of_ble_eq_true rfl)
    rw [lg_entry_eq]
    generalize (lg_sl ([.int v0, .int v1, (.ref t9)]) ++ List.replicate (3 - (lg_sl ([.int v0, .int v1, (.ref t9)])).length) Slot.unset).toArray = ls at hl ⊢
    have hl : lv_has ls 3 [(0, .int v0), (1, .int v1), (2, (.ref t9))] := hl
    exact db_J3_checkIndex_8e157_0 (dC := dC) (dI := dI) (a := a) (ac := ac) (n := n) (r := r) ⟨hlt, hx, hb, hml, hown, hts, hN, hA, hK⟩ (fun pc v τ H locs ls d z er hP hD hS => by subst er; exact W.zret (v := v) hx hb hr z (fun t ht hW => ⟨⟨v, (), rfl, rfl, by rw [ht]; exact hP, va_K.moved hW.alike hK, hD⟩, hS.F ht⟩) hS.2.2 d) v0 v1 s0 _ _ _ h hP hD va_S.rf (lv_sub hl [0, 1] rfl)
def ow_dm_J0_checkIndex_df160 : List Cond := Cond.code yJ0_checkIndex_df160 cJ0_checkIndex_df160 2 none :: ([Cond.fieldLink RJ0 1053 "jdk/internal/util/Preconditions" "SIOOBE_FORMATTER" "Ljava/util/function/BiFunction;", Cond.methodLink RJ0 1059 yJ3_checkIndex_8e157, Cond.static yJ3_checkIndex_8e157, Cond.initialized RJ3] ++ (ow_dm_J3_checkIndex_8e157 ++ []))
theorem gd_dm_J0_checkIndex_df160 : ∀ w ∈ ow_dm_J0_checkIndex_df160, (w.onTables && w.keeps) = true ∨ ∃ ty, w = Cond.arrayClass ty := List.forall_mem_cons.mpr ⟨good_of_word rfl, List.forall_mem_append.mpr ⟨fun w h => good_of_word (List.all_eq_true.mp (by decide +kernel) w h), List.forall_mem_append.mpr ⟨gd_dm_J3_checkIndex_8e157, fun _ h => nomatch h⟩⟩⟩
theorem gi_dm_J0_checkIndex_df160_0 : GoodIn ow_dm_J0_checkIndex_df160 (va_wsS RJ0 1059 yJ3_checkIndex_8e157 ow_dm_J3_checkIndex_8e157) := goodIn_app (goodIn_of _ (by decide +kernel)) (fun w h => ⟨List.mem_cons_of_mem _ (List.mem_append_right _ (List.mem_append_left _ h)), gd_dm_J3_checkIndex_8e157 w h⟩)
def dj_J0_checkIndex_df160_0 (p : Program) (l : Launch) (e : Env) (s : State) (m : MethodId) (args : Array Value) (below : List Frame) (meth : Method) (c : Code) (Q : State → Prop) (A : Nat → Prop) (dC : Nat → ClassId) (dI : Nat → Nat → Nat) (a : Nat → Nat) (ac : Nat → ClassId) (g : Int32 → Int32 → (Unit) → Option (Unit)) (r : Unit) : Prop := ∀ (v0 : Int32) (v1 : Int32) (s0 : Unit) (H : Heap) (locs : List Loc) (ls : Array Slot), g v0 v1 s0 = some r → va_P (dC, dI) vwCl (dw_P a ac s0) H → va_D A (dw_P a ac s0) → va_S A s.heap H locs → lv_has ls 2 [(0, .int v0), (1, .int v1)] → W p l e (headSpec ow_dm_J0_checkIndex_df160 ({ frames := 1, cells := 0, slots := 0, locals := 22 })).room s m args below meth c H locs 0 0 Q (F0 m 0 ls [])
set_option maxHeartbeats 40000000 in
set_option maxRecDepth 100000 in
theorem db_J0_checkIndex_df160_0 {p : Program} {l : Launch} {e : Env} {s : State} {m : MethodId} {args : Array Value} {below : List Frame} {meth : Method} {c : Code} {Q : State → Prop} {A : Nat → Prop} {dC : Nat → ClassId} {dI : Nat → Nat → Nat} {a : Nat → Nat} {ac : Nat → ClassId} {n : Nat} {r : Unit} (C : nd_C p l s m args c A (dC, dI) cJ0_checkIndex_df160 2 RJ0 ow_dm_J0_checkIndex_df160 (dk_P ac)) (K : nd_Kv p l e (headSpec ow_dm_J0_checkIndex_df160 ({ frames := 1, cells := 0, slots := 0, locals := 22 })).room s m args below meth c Q A (dC, dI) cJ0_checkIndex_df160 (Unit) (dw_P a ac) r) : dj_J0_checkIndex_df160_0 p l e s m args below meth c Q A dC dI a ac (df_J0_checkIndex_df160_0 n) r := by
  obtain ⟨hlt, hx, hb, hml, hown, hts, hN, hA, hK⟩ := id C
  intro v0 v1 s0 H locs ls h hP hD hS hl
  unfold df_J0_checkIndex_df160_0 at h
  refine lv_iload_n hx hb dJ0_checkIndex_df160_0 rfl (lv_at hl 0 rfl) ?_
  refine lv_iload_n hx hb dJ0_checkIndex_df160_1 rfl (lv_at hl 1 rfl) ?_
  obtain ⟨b1, zb1, yb1⟩ := nv_Zany hN.2.2.2.2.2.2.2.2.2.2.2.2.2.1
  refine va_gets (v := b1) hx hb zb1 hS hown (hts (.fieldLink RJ0 1053 "jdk/internal/util/Preconditions" "SIOOBE_FORMATTER" "Ljava/util/function/BiFunction;") (List.mem_of_getElem? (i := 1) rfl)) (fun _ h9 => h9) dJ0_checkIndex_df160_2 ?_
  obtain ⟨q2, s3, hq, h⟩ := nd_b2_e h
  have hPc : va_P (dC, dI) vwCl (dw_P a ac ()) H := nd_p0
  have hDc : va_D A (dw_P a ac ()) := nd_d0
  have hKc : va_K (dC, dI) vwCl (dk_P ac) s := nd_y0 hK
  have hFc : ∀ q, va_A (dw_P a ac ()) H.size q → A q := nd_r0 hS hA
  refine nd_cSi (As := [.int v0, .int v1, b1]) (rest := []) (q := q2) (w' := dw_P a ac s3) ⟨hx, hb, hml, hown, hts⟩ (fun sz => dm_J3_checkIndex_8e157 l hlt dC dI a ac n (v0) (v1) yb1 () hq sz) (va_cwS 3 hts gi_dm_J0_checkIndex_df160_0 rfl rfl rfl (by decide +kernel) ⟨Nat.le_of_ble_eq_true rfl, Nat.le_of_ble_eq_true rfl⟩) hPc hDc hKc hS hA hN rfl hl.1 rfl (Nat.le_of_ble_eq_true rfl) dJ0_checkIndex_df160_5 (fun H locs hP1 hD1 hk1 hS => ?_)
  have hP := nd_n0 hP hk1
  refine lv_pop hx hb dJ0_checkIndex_df160_8 rfl ?_
  exact K _ _ _ _ _ dJ0_checkIndex_df160_9 (Option.some.inj h).symm hP hD hS
set_option maxHeartbeats 40000000 in
set_option maxRecDepth 100000 in
theorem dm_J0_checkIndex_df160 (l : Launch) (hlt : l.stackTraces = false) (dC : Nat → ClassId) (dI : Nat → Nat → Nat) (a : Nat → Nat) (ac : Nat → ClassId) (n : Nat) (v0 : Int32) (v1 : Int32) (s0 : Unit) {r : Unit} (h : df_J0_checkIndex_df160 n v0 v1 s0 = some r) (sz : Nat) : Met l yJ0_checkIndex_df160 ow_dm_J0_checkIndex_df160 ({ frames := 1, cells := 0, slots := 0, locals := 22 }) (va_Pc [.int v0, .int v1] (fun U => U.heap.size = sz ∧ va_P (dC, dI) vwCl (dw_P a ac s0) U.heap ∧ va_K (dC, dI) vwCl (dk_P ac) U ∧ va_D (fun _ => True) (dw_P a ac s0) ∧ nv_E dI (va_A (dw_P a ac s0) sz) U)) (va_Qv (fun _ => True) (fun (_ : Unit) t => va_P (dC, dI) vwCl (dw_P a ac r) t.heap ∧ va_K (dC, dI) vwCl (dk_P ac) t ∧ va_D (va_A (dw_P a ac s0) sz) (dw_P a ac r)) (va_A (dw_P a ac s0) sz)) 0 0 (va_A (dw_P a ac s0) sz) := by
  refine Met.ofW (cc := cJ0_checkIndex_df160) (maxL := 2) (ret := none) (by decide) rfl ?_
  intro p e s m args below meth c s₁ B hml hv
  obtain ⟨rfl, hsz, hP, hK, hD0, hN⟩ := hv
  have hx := B.exec
  have hb := B.bytes
  have hr := B.returns
  have hts := atoms_spec (ws := ow_dm_J0_checkIndex_df160) B.pre
  have hown : s.vm.findClass RJ0 = some m.cls := findClass_of_methodNamed B.named
  have hlocks := B.notSynchronized
  subst hsz
  have hD := hD0.self (sz := s.heap.size)
  generalize hAe : va_A (dw_P a ac s0) s.heap.size = A at hD hN ⊢
  have hA : ∀ q : Nat, s.heap.size ≤ q → A q := fun q h => by rw [← hAe]; exact Or.inr h
  have hl := lv_entry ([.int v0, .int v1]) (n := 2) (Nat.le_of_ble_eq_true rfl)
  rw [lg_entry_eq]
  generalize (lg_sl ([.int v0, .int v1]) ++ List.replicate (2 - (lg_sl ([.int v0, .int v1])).length) Slot.unset).toArray = ls at hl ⊢
  have hl : lv_has ls 2 [(0, .int v0), (1, .int v1)] := hl
  exact db_J0_checkIndex_df160_0 (dC := dC) (dI := dI) (a := a) (ac := ac) (n := n) (r := r) ⟨hlt, hx, hb, hml, hown, hts, hN, hA, hK⟩ (fun pc τ H locs ls d er hP hD hS => by subst er; exact W.vret hx hb hr (fun t ht hW => ⟨⟨(), rfl, trivial, by rw [ht]; exact hP, va_K.moved hW.alike hK, hD⟩, hS.F ht⟩) hS.2.2 d) v0 v1 s0 _ _ _ h hP hD va_S.rf (lv_sub hl [0, 1] rfl)
def ow_dm_J1_charAt_3b067 : List Cond := Cond.code yJ1_charAt_3b067 cJ1_charAt_3b067 2 (some .char) :: ([Cond.methodLink RJ1 9 yJ0_checkIndex_df160, Cond.static yJ0_checkIndex_df160, Cond.initialized RJ0] ++ (ow_dm_J0_checkIndex_df160 ++ []))
theorem gd_dm_J1_charAt_3b067 : ∀ w ∈ ow_dm_J1_charAt_3b067, (w.onTables && w.keeps) = true ∨ ∃ ty, w = Cond.arrayClass ty := List.forall_mem_cons.mpr ⟨good_of_word rfl, List.forall_mem_append.mpr ⟨fun w h => good_of_word (List.all_eq_true.mp (by decide +kernel) w h), List.forall_mem_append.mpr ⟨gd_dm_J0_checkIndex_df160, fun _ h => nomatch h⟩⟩⟩
theorem gi_dm_J1_charAt_3b067_0 : GoodIn ow_dm_J1_charAt_3b067 (va_wsS RJ1 9 yJ0_checkIndex_df160 ow_dm_J0_checkIndex_df160) := goodIn_app (goodIn_of _ (by decide +kernel)) (fun w h => ⟨List.mem_cons_of_mem _ (List.mem_append_right _ (List.mem_append_left _ h)), gd_dm_J0_checkIndex_df160 w h⟩)
def dj_J1_charAt_3b067_0 (p : Program) (l : Launch) (e : Env) (s : State) (m : MethodId) (args : Array Value) (below : List Frame) (meth : Method) (c : Code) (Q : State → Prop) (A : Nat → Prop) (dC : Nat → ClassId) (dI : Nat → Nat → Nat) (a : Nat → Nat) (ac : Nat → ClassId) (g : Nat → Int32 → (Unit) → Option (Int32 × (Unit))) (r : Int32 × (Unit)) : Prop := ∀ (v0 : Nat) (v1 : Int32) (s0 : Unit) (H : Heap) (locs : List Loc) (ls : Array Slot), g v0 v1 s0 = some r → va_P (dC, dI) vwCl (dw_P a ac s0) H → va_D A (dw_P a ac s0) → va_S A s.heap H locs → lv_has ls 2 [(0, .ref (dI 1001 v0)), (1, .int v1)] → W p l e (headSpec ow_dm_J1_charAt_3b067 ({ frames := 2, cells := 0, slots := 0, locals := 43 })).room s m args below meth c H locs 0 0 Q (F0 m 0 ls [])
set_option maxHeartbeats 40000000 in
set_option maxRecDepth 100000 in
theorem db_J1_charAt_3b067_0 {p : Program} {l : Launch} {e : Env} {s : State} {m : MethodId} {args : Array Value} {below : List Frame} {meth : Method} {c : Code} {Q : State → Prop} {A : Nat → Prop} {dC : Nat → ClassId} {dI : Nat → Nat → Nat} {a : Nat → Nat} {ac : Nat → ClassId} {n : Nat} {r : Int32 × (Unit)} (C : nd_C p l s m args c A (dC, dI) cJ1_charAt_3b067 2 RJ1 ow_dm_J1_charAt_3b067 (dk_P ac)) (K : nd_Ki p l e (headSpec ow_dm_J1_charAt_3b067 ({ frames := 2, cells := 0, slots := 0, locals := 43 })).room s m args below meth c Q A (dC, dI) cJ1_charAt_3b067 .char (Unit) (dw_P a ac) r) : dj_J1_charAt_3b067_0 p l e s m args below meth c Q A dC dI a ac (df_J1_charAt_3b067_0 n) r := by
  obtain ⟨hlt, hx, hb, hml, hown, hts, hN, hA, hK⟩ := id C
  intro v0 v1 s0 H locs ls h hP hD hS hl
  unfold df_J1_charAt_3b067_0 at h
  refine lv_iload_n hx hb dJ1_charAt_3b067_0 rfl (lv_at hl 1 rfl) ?_
  refine lv_aload_n hx hb dJ1_charAt_3b067_1 rfl (lv_at hl 0 rfl) ?_
  obtain ⟨i1, h⟩ := nd_lt_e h
  refine va_tlen (v := Int32.ofNat (ks_n v0)) hx hb (hN.2.2.2.2.2.2.2.2.2.2.2.1 v0 i1).2.2.2 hS rfl dJ1_charAt_3b067_2 ?_
  obtain ⟨s3, hq, h⟩ := nd_b1_e h
  have hPc : va_P (dC, dI) vwCl (dw_P a ac ()) H := nd_p0
  have hDc : va_D A (dw_P a ac ()) := nd_d0
  have hKc : va_K (dC, dI) vwCl (dk_P ac) s := nd_y0 hK
  have hFc : ∀ q, va_A (dw_P a ac ()) H.size q → A q := nd_r0 hS hA
  refine nd_cSv (As := [.int v1, .int (Int32.ofNat (ks_n v0))]) (rest := []) (w' := dw_P a ac s3) ⟨hx, hb, hml, hown, hts⟩ (fun sz => dm_J0_checkIndex_df160 l hlt dC dI a ac n (v1) ((Int32.ofNat (ks_n v0))) () hq sz) (va_cwS 2 hts gi_dm_J1_charAt_3b067_0 rfl rfl rfl (by decide +kernel) ⟨Nat.le_of_ble_eq_true rfl, Nat.le_of_ble_eq_true rfl⟩) hPc hDc hKc hS hA hN rfl hl.1 rfl (Nat.le_of_ble_eq_true rfl) dJ1_charAt_3b067_3 (fun H locs hP1 hD1 hk1 hS => ?_)
  have hP := nd_n0 hP hk1
  refine lv_aload_n hx hb dJ1_charAt_3b067_6 rfl (lv_at hl 0 rfl) ?_
  refine lv_iload_n hx hb dJ1_charAt_3b067_7 rfl (lv_at hl 1 rfl) ?_
  obtain ⟨i5, h⟩ := nd_lt_e h
  obtain ⟨i6, h⟩ := nd_ck_e h
  refine va_tb (i := v1) hx hb (hN.2.2.2.2.2.2.2.2.2.2.2.1 v0 i5).2.2.2 hS i6 rfl dJ1_charAt_3b067_8 ?_
  refine lv_sipush (v := 255) hx hb dJ1_charAt_3b067_9 (by decide) ?_
  refine lv_iand hx hb dJ1_charAt_3b067_12 ?_
  refine lv_i2c hx hb dJ1_charAt_3b067_13 rfl ?_
  obtain ⟨n7, h⟩ := nd_z_e ⟨_, rfl⟩ h
  exact K _ _ _ _ _ _ dJ1_charAt_3b067_14 n7 (Option.some.inj h).symm hP hD hS
set_option maxHeartbeats 40000000 in
set_option maxRecDepth 100000 in
theorem dm_J1_charAt_3b067 (l : Launch) (hlt : l.stackTraces = false) (dC : Nat → ClassId) (dI : Nat → Nat → Nat) (a : Nat → Nat) (ac : Nat → ClassId) (n : Nat) (v0 : Nat) (v1 : Int32) (s0 : Unit) {r : Int32 × (Unit)} (h : df_J1_charAt_3b067 n v0 v1 s0 = some r) (sz : Nat) : Met l yJ1_charAt_3b067 ow_dm_J1_charAt_3b067 ({ frames := 2, cells := 0, slots := 0, locals := 43 }) (va_Pc [.ref (dI 1001 v0), .int v1] (fun U => U.heap.size = sz ∧ va_P (dC, dI) vwCl (dw_P a ac s0) U.heap ∧ va_K (dC, dI) vwCl (dk_P ac) U ∧ va_D (fun _ => True) (dw_P a ac s0) ∧ nv_E dI (va_A (dw_P a ac s0) sz) U)) (va_Qi (fun x _ => x = r.1) (fun (_ : Unit) t => va_P (dC, dI) vwCl (dw_P a ac r.2) t.heap ∧ va_K (dC, dI) vwCl (dk_P ac) t ∧ va_D (va_A (dw_P a ac s0) sz) (dw_P a ac r.2)) (va_A (dw_P a ac s0) sz)) 0 0 (va_A (dw_P a ac s0) sz) := by
  refine Met.ofW (cc := cJ1_charAt_3b067) (maxL := 2) (ret := (some .char)) (by decide) rfl ?_
  intro p e s m args below meth c s₁ B hml hv
  obtain ⟨rfl, hsz, hP, hK, hD0, hN⟩ := hv
  have hx := B.exec
  have hb := B.bytes
  have hr := B.returns
  have hts := atoms_spec (ws := ow_dm_J1_charAt_3b067) B.pre
  have hown : s.vm.findClass RJ1 = some m.cls := findClass_of_methodNamed B.named
  have hlocks := B.notSynchronized
  subst hsz
  have hD := hD0.self (sz := s.heap.size)
  generalize hAe : va_A (dw_P a ac s0) s.heap.size = A at hD hN ⊢
  have hA : ∀ q : Nat, s.heap.size ≤ q → A q := fun q h => by rw [← hAe]; exact Or.inr h
  have hl := lv_entry ([.ref (dI 1001 v0), .int v1]) (n := 2) (Nat.le_of_ble_eq_true rfl)
  rw [lg_entry_eq]
  generalize (lg_sl ([.ref (dI 1001 v0), .int v1]) ++ List.replicate (2 - (lg_sl ([.ref (dI 1001 v0), .int v1])).length) Slot.unset).toArray = ls at hl ⊢
  have hl : lv_has ls 2 [(0, .ref (dI 1001 v0)), (1, .int v1)] := hl
  exact db_J1_charAt_3b067_0 (dC := dC) (dI := dI) (a := a) (ac := ac) (n := n) (r := r) ⟨hlt, hx, hb, hml, hown, hts, hN, hA, hK⟩ (fun pc v τ H locs ls d z er hP hD hS => by subst er; exact W.zret (v := v) hx hb hr z (fun t ht hW => ⟨⟨v, (), rfl, rfl, by rw [ht]; exact hP, va_K.moved hW.alike hK, hD⟩, hS.F ht⟩) hS.2.2 d) v0 v1 s0 _ _ _ h hP hD va_S.rf (lv_sub hl [0, 1] rfl)
def ow_dm_J0_charAt_5068e : List Cond := Cond.code yJ0_charAt_5068e cJ0_charAt_5068e 2 (some .char) :: ([Cond.methodLink RJ0 492 yJ0_isLatin1_aae02, Cond.instanceMethod yJ0_isLatin1_aae02, Cond.selects RJ0 yJ0_isLatin1_aae02 yJ0_isLatin1_aae02, Cond.initialized RJ0, Cond.fieldLink RJ0 9 "java/lang/String" "value" "[B", Cond.methodLink RJ0 495 yJ1_charAt_3b067, Cond.static yJ1_charAt_3b067, Cond.initialized RJ1] ++ (ow_dm_J0_isLatin1_aae02 ++ (ow_dm_J1_charAt_3b067 ++ [])))
theorem gd_dm_J0_charAt_5068e : ∀ w ∈ ow_dm_J0_charAt_5068e, (w.onTables && w.keeps) = true ∨ ∃ ty, w = Cond.arrayClass ty := List.forall_mem_cons.mpr ⟨good_of_word rfl, List.forall_mem_append.mpr ⟨fun w h => good_of_word (List.all_eq_true.mp (by decide +kernel) w h), List.forall_mem_append.mpr ⟨gd_dm_J0_isLatin1_aae02, List.forall_mem_append.mpr ⟨gd_dm_J1_charAt_3b067, fun _ h => nomatch h⟩⟩⟩⟩
theorem gi_dm_J0_charAt_5068e_0 : GoodIn ow_dm_J0_charAt_5068e (wsV RJ0 492 RJ0 yJ0_isLatin1_aae02 ow_dm_J0_isLatin1_aae02) := goodIn_app (goodIn_of _ (by decide +kernel)) (fun w h => ⟨List.mem_cons_of_mem _ (List.mem_append_right _ (List.mem_append_left _ h)), gd_dm_J0_isLatin1_aae02 w h⟩)
theorem gi_dm_J0_charAt_5068e_1 : GoodIn ow_dm_J0_charAt_5068e (va_wsS RJ0 495 yJ1_charAt_3b067 ow_dm_J1_charAt_3b067) := goodIn_app (goodIn_of _ (by decide +kernel)) (fun w h => ⟨List.mem_cons_of_mem _ (List.mem_append_right _ (List.mem_append_right _ (List.mem_append_left _ h))), gd_dm_J1_charAt_3b067 w h⟩)
def dj_J0_charAt_5068e_0 (p : Program) (l : Launch) (e : Env) (s : State) (m : MethodId) (args : Array Value) (below : List Frame) (meth : Method) (c : Code) (Q : State → Prop) (A : Nat → Prop) (dC : Nat → ClassId) (dI : Nat → Nat → Nat) (a : Nat → Nat) (ac : Nat → ClassId) (g : Nat → Int32 → (Unit) → Option (Int32 × (Unit))) (r : Int32 × (Unit)) : Prop := ∀ (vt : Nat) (v0 : Int32) (s0 : Unit) (H : Heap) (locs : List Loc) (ls : Array Slot), g vt v0 s0 = some r → va_P (dC, dI) vwCl (dw_P a ac s0) H → va_D A (dw_P a ac s0) → va_S A s.heap H locs → lv_has ls 2 [(0, .ref (dI 1000 vt)), (1, .int v0)] → W p l e (headSpec ow_dm_J0_charAt_5068e ({ frames := 3, cells := 0, slots := 0, locals := 64 })).room s m args below meth c H locs 0 0 Q (F0 m 0 ls [])
set_option maxHeartbeats 40000000 in
set_option maxRecDepth 100000 in
theorem db_J0_charAt_5068e_0 {p : Program} {l : Launch} {e : Env} {s : State} {m : MethodId} {args : Array Value} {below : List Frame} {meth : Method} {c : Code} {Q : State → Prop} {A : Nat → Prop} {dC : Nat → ClassId} {dI : Nat → Nat → Nat} {a : Nat → Nat} {ac : Nat → ClassId} {n : Nat} {r : Int32 × (Unit)} (C : nd_C p l s m args c A (dC, dI) cJ0_charAt_5068e 2 RJ0 ow_dm_J0_charAt_5068e (dk_P ac)) (K : nd_Ki p l e (headSpec ow_dm_J0_charAt_5068e ({ frames := 3, cells := 0, slots := 0, locals := 64 })).room s m args below meth c Q A (dC, dI) cJ0_charAt_5068e .char (Unit) (dw_P a ac) r) : dj_J0_charAt_5068e_0 p l e s m args below meth c Q A dC dI a ac (df_J0_charAt_5068e_0 n) r := by
  obtain ⟨hlt, hx, hb, hml, hown, hts, hN, hA, hK⟩ := id C
  intro vt v0 s0 H locs ls h hP hD hS hl
  unfold df_J0_charAt_5068e_0 at h
  refine lv_aload_n hx hb dJ0_charAt_5068e_0 rfl (lv_at hl 0 rfl) ?_
  obtain ⟨i3, h⟩ := nd_lt_e h
  obtain ⟨q1, s2, hq, h⟩ := nd_b2_e h
  have hPc : va_P (dC, dI) vwCl (dw_P a ac ()) H := nd_p0
  have hDc : va_D A (dw_P a ac ()) := nd_d0
  have hKc : va_K (dC, dI) vwCl (dk_P ac) s := nd_y0 hK
  have hFc : ∀ q, va_A (dw_P a ac ()) H.size q → A q := nd_r0 hS hA
  refine nd_cVi (As := []) (rest := []) (q := q1) (w' := dw_P a ac s2) ⟨hx, hb, hml, hown, hts⟩ (fun sz => dm_J0_isLatin1_aae02 l hlt dC dI a ac n (vt) () hq sz) (cwV 0 hts gi_dm_J0_charAt_5068e_0 rfl rfl rfl (by decide +kernel) ⟨Nat.le_of_ble_eq_true rfl, Nat.le_of_ble_eq_true rfl⟩) hPc hDc hKc hS hA hN (nv_rcv hN.2.2.2.2.2.2.2.2.2.2.2 i3 hS) rfl hl.1 rfl (Nat.le_of_ble_eq_true rfl) dJ0_charAt_5068e_1 (fun H locs hP1 hD1 hk1 hS => ?_)
  have hP := nd_n0 hP hk1
  refine lv_if_eq (tgt := 16) hx hb dJ0_charAt_5068e_4 (by decide) (fun c5 => ?_) (fun c5 => ?_)
  · have h := nd_pos h c5
    exact nomatch (show (none : Option (Int32 × (Unit))) = some r from h)
  · have h := nd_neg h c5
    refine lv_aload_n hx hb dJ0_charAt_5068e_7 rfl (lv_at hl 0 rfl) ?_
    obtain ⟨i6, h⟩ := nd_lt_e h
    refine vk_getf hx hb (hN.2.2.2.2.2.2.2.2.2.2.2.1 vt i6).2.2.1 hS hown (hts (.fieldLink RJ0 9 "java/lang/String" "value" "[B") (List.mem_of_getElem? (i := 5) rfl)) (fun _ h9 => h9) dJ0_charAt_5068e_8 ?_
    refine lv_iload_n hx hb dJ0_charAt_5068e_11 rfl (lv_at hl 1 rfl) ?_
    obtain ⟨q7, s8, hq, h⟩ := nd_b2_e h
    have hPc : va_P (dC, dI) vwCl (dw_P a ac ()) H := nd_p0
    have hDc : va_D A (dw_P a ac ()) := nd_d0
    have hKc : va_K (dC, dI) vwCl (dk_P ac) s := nd_y0 hK
    have hFc : ∀ q, va_A (dw_P a ac ()) H.size q → A q := nd_r0 hS hA
    refine nd_cSi (As := [.ref (dI 1001 vt), .int v0]) (rest := []) (q := q7) (w' := dw_P a ac s8) ⟨hx, hb, hml, hown, hts⟩ (fun sz => dm_J1_charAt_3b067 l hlt dC dI a ac n (vt) (v0) () hq sz) (va_cwS 2 hts gi_dm_J0_charAt_5068e_1 rfl rfl rfl (by decide +kernel) ⟨Nat.le_of_ble_eq_true rfl, Nat.le_of_ble_eq_true rfl⟩) hPc hDc hKc hS hA hN rfl hl.1 rfl (Nat.le_of_ble_eq_true rfl) dJ0_charAt_5068e_12 (fun H locs hP1 hD1 hk1 hS => ?_)
    have hP := nd_n0 hP hk1
    obtain ⟨n10, h⟩ := nd_z_e ⟨_, rfl⟩ h
    exact K _ _ _ _ _ _ dJ0_charAt_5068e_15 n10 (Option.some.inj h).symm hP hD hS
set_option maxHeartbeats 40000000 in
set_option maxRecDepth 100000 in
theorem dm_J0_charAt_5068e (l : Launch) (hlt : l.stackTraces = false) (dC : Nat → ClassId) (dI : Nat → Nat → Nat) (a : Nat → Nat) (ac : Nat → ClassId) (n : Nat) (vt : Nat) (v0 : Int32) (s0 : Unit) {r : Int32 × (Unit)} (h : df_J0_charAt_5068e n vt v0 s0 = some r) (sz : Nat) : Met l yJ0_charAt_5068e ow_dm_J0_charAt_5068e ({ frames := 3, cells := 0, slots := 0, locals := 64 }) (va_Pc [.ref (dI 1000 vt), .int v0] (fun U => U.heap.size = sz ∧ va_P (dC, dI) vwCl (dw_P a ac s0) U.heap ∧ va_K (dC, dI) vwCl (dk_P ac) U ∧ va_D (fun _ => True) (dw_P a ac s0) ∧ nv_E dI (va_A (dw_P a ac s0) sz) U)) (va_Qi (fun x _ => x = r.1) (fun (_ : Unit) t => va_P (dC, dI) vwCl (dw_P a ac r.2) t.heap ∧ va_K (dC, dI) vwCl (dk_P ac) t ∧ va_D (va_A (dw_P a ac s0) sz) (dw_P a ac r.2)) (va_A (dw_P a ac s0) sz)) 0 0 (va_A (dw_P a ac s0) sz) := by
  refine Met.ofW (cc := cJ0_charAt_5068e) (maxL := 2) (ret := (some .char)) (by decide) rfl ?_
  intro p e s m args below meth c s₁ B hml hv
  obtain ⟨rfl, hsz, hP, hK, hD0, hN⟩ := hv
  have hx := B.exec
  have hb := B.bytes
  have hr := B.returns
  have hts := atoms_spec (ws := ow_dm_J0_charAt_5068e) B.pre
  have hown : s.vm.findClass RJ0 = some m.cls := findClass_of_methodNamed B.named
  have hlocks := B.notSynchronized
  subst hsz
  have hD := hD0.self (sz := s.heap.size)
  generalize hAe : va_A (dw_P a ac s0) s.heap.size = A at hD hN ⊢
  have hA : ∀ q : Nat, s.heap.size ≤ q → A q := fun q h => by rw [← hAe]; exact Or.inr h
  have hl := lv_entry ([.ref (dI 1000 vt), .int v0]) (n := 2) (Nat.le_of_ble_eq_true rfl)
  rw [lg_entry_eq]
  generalize (lg_sl ([.ref (dI 1000 vt), .int v0]) ++ List.replicate (2 - (lg_sl ([.ref (dI 1000 vt), .int v0])).length) Slot.unset).toArray = ls at hl ⊢
  have hl : lv_has ls 2 [(0, .ref (dI 1000 vt)), (1, .int v0)] := hl
  exact db_J0_charAt_5068e_0 (dC := dC) (dI := dI) (a := a) (ac := ac) (n := n) (r := r) ⟨hlt, hx, hb, hml, hown, hts, hN, hA, hK⟩ (fun pc v τ H locs ls d z er hP hD hS => by subst er; exact W.zret (v := v) hx hb hr z (fun t ht hW => ⟨⟨v, (), rfl, rfl, by rw [ht]; exact hP, va_K.moved hW.alike hK, hD⟩, hS.F ht⟩) hS.2.2 d) vt v0 s0 _ _ _ h hP hD va_S.rf (lv_sub hl [0, 1] rfl)
def ow_dm_X7_stands : List Cond := Cond.code yX7_stands cX7_stands 5 (some .boolean) :: ([Cond.methodLink RX7 430 yJ0_length_8abf5, Cond.instanceMethod yJ0_length_8abf5, Cond.selects RJ0 yJ0_length_8abf5 yJ0_length_8abf5, Cond.initialized RJ0, Cond.methodLink RX7 436 yJ0_charAt_5068e, Cond.instanceMethod yJ0_charAt_5068e, Cond.selects RJ0 yJ0_charAt_5068e yJ0_charAt_5068e] ++ (ow_dm_J0_length_8abf5 ++ (ow_dm_J0_charAt_5068e ++ [])))
theorem gd_dm_X7_stands : ∀ w ∈ ow_dm_X7_stands, (w.onTables && w.keeps) = true ∨ ∃ ty, w = Cond.arrayClass ty := List.forall_mem_cons.mpr ⟨good_of_word rfl, List.forall_mem_append.mpr ⟨fun w h => good_of_word (List.all_eq_true.mp (by decide +kernel) w h), List.forall_mem_append.mpr ⟨gd_dm_J0_length_8abf5, List.forall_mem_append.mpr ⟨gd_dm_J0_charAt_5068e, fun _ h => nomatch h⟩⟩⟩⟩
theorem gi_dm_X7_stands_0 : GoodIn ow_dm_X7_stands (wsV RX7 430 RJ0 yJ0_length_8abf5 ow_dm_J0_length_8abf5) := goodIn_app (goodIn_of _ (by decide +kernel)) (fun w h => ⟨List.mem_cons_of_mem _ (List.mem_append_right _ (List.mem_append_left _ h)), gd_dm_J0_length_8abf5 w h⟩)
theorem gi_dm_X7_stands_1 : GoodIn ow_dm_X7_stands (wsV RX7 436 RJ0 yJ0_charAt_5068e ow_dm_J0_charAt_5068e) := goodIn_app (goodIn_of _ (by decide +kernel)) (fun w h => ⟨List.mem_cons_of_mem _ (List.mem_append_right _ (List.mem_append_right _ (List.mem_append_left _ h))), gd_dm_J0_charAt_5068e w h⟩)
def dj_X7_stands_20 (p : Program) (l : Launch) (e : Env) (s : State) (m : MethodId) (args : Array Value) (below : List Frame) (meth : Method) (c : Code) (Q : State → Prop) (A : Nat → Prop) (dC : Nat → ClassId) (dI : Nat → Nat → Nat) (a : Nat → Nat) (ac : Nat → ClassId) (g : (St) → Option (Int32 × (St))) (r : Int32 × (St)) : Prop := ∀ (s0 : St) (H : Heap) (locs : List Loc) (ls : Array Slot), g s0 = some r → va_P (dC, dI) vwCl (dw_BY a ac s0) H → va_D A (dw_BY a ac s0) → va_S A s.heap H locs → lv_has ls 5 [] → W p l e (headSpec ow_dm_X7_stands ({ frames := 4, cells := 0, slots := 0, locals := 85 })).room s m args below meth c H locs 0 0 Q (F0 m 20 ls [])
def dj_X7_stands_25 (p : Program) (l : Launch) (e : Env) (s : State) (m : MethodId) (args : Array Value) (below : List Frame) (meth : Method) (c : Code) (Q : State → Prop) (A : Nat → Prop) (dC : Nat → ClassId) (dI : Nat → Nat → Nat) (a : Nat → Nat) (ac : Nat → ClassId) (g : Nat → Int32 → Int32 → Int32 → (St) → Option (Int32 × (St))) (r : Int32 × (St)) : Prop := ∀ (x0 : Nat) (x2 : Int32) (x3 : Int32) (x4 : Int32) (s0 : St) (H : Heap) (locs : List Loc) (ls : Array Slot), g x0 x2 x3 x4 s0 = some r → va_P (dC, dI) vwCl (dw_BY a ac s0) H → va_D A (dw_BY a ac s0) → va_S A s.heap H locs → lv_has ls 5 [(0, .ref (dI 1000 x0)), (1, .ref (a 0)), (2, .int x2), (3, .int x3), (4, .int x4)] → W p l e (headSpec ow_dm_X7_stands ({ frames := 4, cells := 0, slots := 0, locals := 85 })).room s m args below meth c H locs 0 0 Q (F0 m 25 ls [])
def dj_X7_stands_0 (p : Program) (l : Launch) (e : Env) (s : State) (m : MethodId) (args : Array Value) (below : List Frame) (meth : Method) (c : Code) (Q : State → Prop) (A : Nat → Prop) (dC : Nat → ClassId) (dI : Nat → Nat → Nat) (a : Nat → Nat) (ac : Nat → ClassId) (g : Nat → Int32 → Int32 → (St) → Option (Int32 × (St))) (r : Int32 × (St)) : Prop := ∀ (v0 : Nat) (v2 : Int32) (v3 : Int32) (s0 : St) (H : Heap) (locs : List Loc) (ls : Array Slot), g v0 v2 v3 s0 = some r → va_P (dC, dI) vwCl (dw_BY a ac s0) H → va_D A (dw_BY a ac s0) → va_S A s.heap H locs → lv_has ls 5 [(0, .ref (dI 1000 v0)), (1, .ref (a 0)), (2, .int v2), (3, .int v3)] → W p l e (headSpec ow_dm_X7_stands ({ frames := 4, cells := 0, slots := 0, locals := 85 })).room s m args below meth c H locs 0 0 Q (F0 m 0 ls [])
set_option maxHeartbeats 40000000 in
set_option maxRecDepth 100000 in
theorem db_X7_stands_20 {p : Program} {l : Launch} {e : Env} {s : State} {m : MethodId} {args : Array Value} {below : List Frame} {meth : Method} {c : Code} {Q : State → Prop} {A : Nat → Prop} {dC : Nat → ClassId} {dI : Nat → Nat → Nat} {a : Nat → Nat} {ac : Nat → ClassId} {n : Nat} {r : Int32 × (St)} (C : nd_C p l s m args c A (dC, dI) cX7_stands 5 RX7 ow_dm_X7_stands (dk_BY ac)) (K : nd_Ki p l e (headSpec ow_dm_X7_stands ({ frames := 4, cells := 0, slots := 0, locals := 85 })).room s m args below meth c Q A (dC, dI) cX7_stands .boolean (St) (dw_BY a ac) r) : dj_X7_stands_20 p l e s m args below meth c Q A dC dI a ac (df_X7_stands_20 n) r := by
  obtain ⟨hlt, hx, hb, hml, hown, hts, hN, hA, hK⟩ := id C
  intro s0 H locs ls h hP hD hS hl
  unfold df_X7_stands_20 at h
  refine lv_iconst (v := 0) hx hb dX7_stands_20 (by decide) ?_
  exact K _ _ _ _ _ _ dX7_stands_21 (by first | rfl | decide) (Option.some.inj h).symm hP hD hS
set_option maxHeartbeats 40000000 in
set_option maxRecDepth 100000 in
theorem dB_X7_stands_25 {p : Program} {l : Launch} {e : Env} {s : State} {m : MethodId} {args : Array Value} {below : List Frame} {meth : Method} {c : Code} {Q : State → Prop} {A : Nat → Prop} {dC : Nat → ClassId} {dI : Nat → Nat → Nat} {a : Nat → Nat} {ac : Nat → ClassId} {n : Nat} {r : Int32 × (St)} (C : nd_C p l s m args c A (dC, dI) cX7_stands 5 RX7 ow_dm_X7_stands (dk_BY ac)) (K : nd_Ki p l e (headSpec ow_dm_X7_stands ({ frames := 4, cells := 0, slots := 0, locals := 85 })).room s m args below meth c Q A (dC, dI) cX7_stands .boolean (St) (dw_BY a ac) r) {g25 : Nat → Int32 → Int32 → Int32 → (St) → Option (Int32 × (St))} (J25 : dj_X7_stands_25 p l e s m args below meth c Q A dC dI a ac g25 r) : dj_X7_stands_25 p l e s m args below meth c Q A dC dI a ac (dF_X7_stands_25 n g25) r := by
  obtain ⟨hlt, hx, hb, hml, hown, hts, hN, hA, hK⟩ := id C
  intro x0 x2 x3 x4 s0 H locs ls h hP hD hS hl
  unfold dF_X7_stands_25 at h
  refine lv_iload hx hb dX7_stands_25 (lv_at hl 4 rfl) ?_
  refine lv_iload_n hx hb dX7_stands_27 rfl (lv_at hl 3 rfl) ?_
  refine lv_icmp_ge (tgt := 54) hx hb dX7_stands_28 (by decide) (fun c8 => ?_) (fun c8 => ?_)
  · have h := nd_pos h c8
    refine lv_iconst (v := 1) hx hb dX7_stands_54 (by decide) ?_
    exact K _ _ _ _ _ _ dX7_stands_55 (by first | rfl | decide) (Option.some.inj h).symm hP hD hS
  · have h := nd_neg h c8
    refine lv_aload_n hx hb dX7_stands_31 rfl (lv_at hl 0 rfl) ?_
    refine lv_iload hx hb dX7_stands_32 (lv_at hl 4 rfl) ?_
    obtain ⟨i11, h⟩ := nd_lt_e h
    obtain ⟨q9, s10, hq, h⟩ := nd_b2_e h
    have hPc : va_P (dC, dI) vwCl (dw_P a ac ()) H := nd_p0
    have hDc : va_D A (dw_P a ac ()) := nd_d0
    have hKc : va_K (dC, dI) vwCl (dk_P ac) s := nd_y0 hK
    have hFc : ∀ q, va_A (dw_P a ac ()) H.size q → A q := nd_r0 hS hA
    refine nd_cVi (As := [.int x4]) (rest := []) (q := q9) (w' := dw_P a ac s10) ⟨hx, hb, hml, hown, hts⟩ (fun sz => dm_J0_charAt_5068e l hlt dC dI a ac n (x0) (x4) () hq sz) (cwV 1 hts gi_dm_X7_stands_1 rfl rfl rfl (by decide +kernel) ⟨Nat.le_of_ble_eq_true rfl, Nat.le_of_ble_eq_true rfl⟩) hPc hDc hKc hS hA hN (nv_rcv hN.2.2.2.2.2.2.2.2.2.2.2 i11 hS) rfl hl.1 rfl (Nat.le_of_ble_eq_true rfl) dX7_stands_34 (fun H locs hP1 hD1 hk1 hS => ?_)
    have hP := nd_n0 hP hk1
    refine lv_aload_n hx hb dX7_stands_37 rfl (lv_at hl 1 rfl) ?_
    refine lv_iload_n hx hb dX7_stands_38 rfl (lv_at hl 2 rfl) ?_
    refine lv_iload hx hb dX7_stands_39 (lv_at hl 4 rfl) ?_
    refine lv_iadd hx hb dX7_stands_41 ?_
    obtain ⟨i13, h⟩ := nd_ck_e h
    refine va_bald (i := (x2 + x4)) hx hb hK hP 0 0 rfl rfl i13 dX7_stands_42 ?_
    refine lv_icmp_eq (tgt := 48) hx hb dX7_stands_43 (by decide) (fun c14 => ?_) (fun c14 => ?_)
    · have h := nd_pos h c14
      obtain ⟨z15, ez15, h⟩ := nd_let_e h
      refine lv_iinc (v := z15) (lv' := [(4, .int z15), (0, .ref (dI 1000 x0)), (1, .ref (a 0)), (2, .int x2), (3, .int x3)]) hx hb dX7_stands_48 hl (k := 4) rfl (by rw [ez15]) (by decide) rfl (fun ls hl => ?_)
      refine lv_goto (tgt := 25) hx hb dX7_stands_51 (by decide) ?_
      exact (J25) (x0) (x2) (x3) (z15) s0 _ _ _ h hP hD hS (lv_sub hl [1, 2, 3, 4, 0] rfl)
    · have h := nd_neg h c14
      refine lv_iconst (v := 0) hx hb dX7_stands_46 (by decide) ?_
      exact K _ _ _ _ _ _ dX7_stands_47 (by first | rfl | decide) (Option.some.inj h).symm hP hD hS
set_option maxHeartbeats 40000000 in
set_option maxRecDepth 100000 in
theorem db_X7_stands_25 {p : Program} {l : Launch} {e : Env} {s : State} {m : MethodId} {args : Array Value} {below : List Frame} {meth : Method} {c : Code} {Q : State → Prop} {A : Nat → Prop} {dC : Nat → ClassId} {dI : Nat → Nat → Nat} {a : Nat → Nat} {ac : Nat → ClassId} {n : Nat} {r : Int32 × (St)} (C : nd_C p l s m args c A (dC, dI) cX7_stands 5 RX7 ow_dm_X7_stands (dk_BY ac)) (K : nd_Ki p l e (headSpec ow_dm_X7_stands ({ frames := 4, cells := 0, slots := 0, locals := 85 })).room s m args below meth c Q A (dC, dI) cX7_stands .boolean (St) (dw_BY a ac) r) (k : Nat) : dj_X7_stands_25 p l e s m args below meth c Q A dC dI a ac (df_X7_stands_25 n k) r := by
  induction k with
  | zero => intro x0 x2 x3 x4 s0 H locs ls h; exact nomatch (show (none : Option (Int32 × (St))) = some r from h)
  | succ k ih => exact dB_X7_stands_25 C K ih
set_option maxHeartbeats 40000000 in
set_option maxRecDepth 100000 in
theorem db_X7_stands_0 {p : Program} {l : Launch} {e : Env} {s : State} {m : MethodId} {args : Array Value} {below : List Frame} {meth : Method} {c : Code} {Q : State → Prop} {A : Nat → Prop} {dC : Nat → ClassId} {dI : Nat → Nat → Nat} {a : Nat → Nat} {ac : Nat → ClassId} {n : Nat} {r : Int32 × (St)} (C : nd_C p l s m args c A (dC, dI) cX7_stands 5 RX7 ow_dm_X7_stands (dk_BY ac)) (K : nd_Ki p l e (headSpec ow_dm_X7_stands ({ frames := 4, cells := 0, slots := 0, locals := 85 })).room s m args below meth c Q A (dC, dI) cX7_stands .boolean (St) (dw_BY a ac) r) : dj_X7_stands_0 p l e s m args below meth c Q A dC dI a ac (df_X7_stands_0 n) r := by
  obtain ⟨hlt, hx, hb, hml, hown, hts, hN, hA, hK⟩ := id C
  intro v0 v2 v3 s0 H locs ls h hP hD hS hl
  unfold df_X7_stands_0 at h
  refine lv_aload_n hx hb dX7_stands_0 rfl (lv_at hl 0 rfl) ?_
  obtain ⟨i3, h⟩ := nd_lt_e h
  obtain ⟨q1, s2, hq, h⟩ := nd_b2_e h
  have hPc : va_P (dC, dI) vwCl (dw_P a ac ()) H := nd_p0
  have hDc : va_D A (dw_P a ac ()) := nd_d0
  have hKc : va_K (dC, dI) vwCl (dk_P ac) s := nd_y0 hK
  have hFc : ∀ q, va_A (dw_P a ac ()) H.size q → A q := nd_r0 hS hA
  refine nd_cVi (As := []) (rest := []) (q := q1) (w' := dw_P a ac s2) ⟨hx, hb, hml, hown, hts⟩ (fun sz => dm_J0_length_8abf5 l hlt dC dI a ac n (v0) () hq sz) (cwV 0 hts gi_dm_X7_stands_0 rfl rfl rfl (by decide +kernel) ⟨Nat.le_of_ble_eq_true rfl, Nat.le_of_ble_eq_true rfl⟩) hPc hDc hKc hS hA hN (nv_rcv hN.2.2.2.2.2.2.2.2.2.2.2 i3 hS) rfl hl.1 rfl (Nat.le_of_ble_eq_true rfl) dX7_stands_1 (fun H locs hP1 hD1 hk1 hS => ?_)
  have hP := nd_n0 hP hk1
  refine lv_iload_n hx hb dX7_stands_4 rfl (lv_at hl 3 rfl) ?_
  refine lv_icmp_ne (tgt := 20) hx hb dX7_stands_5 (by decide) (fun c5 => ?_) (fun c5 => ?_)
  · have h := nd_neg h c5
    exact (db_X7_stands_20 C K)  s0 _ _ _ h hP hD hS (lv_sub hl [] rfl)
  · have h := nd_pos h c5
    refine lv_iload_n hx hb dX7_stands_8 rfl (lv_at hl 2 rfl) ?_
    refine lv_if_lt (tgt := 20) hx hb dX7_stands_9 (by decide) (fun c6 => ?_) (fun c6 => ?_)
    · have h := nd_pos h c6
      exact (db_X7_stands_20 C K)  s0 _ _ _ h hP hD hS (lv_sub hl [] rfl)
    · have h := nd_neg h c6
      refine lv_iload_n hx hb dX7_stands_12 rfl (lv_at hl 2 rfl) ?_
      refine lv_iload_n hx hb dX7_stands_13 rfl (lv_at hl 3 rfl) ?_
      refine lv_iadd hx hb dX7_stands_14 ?_
      refine lv_aload_n hx hb dX7_stands_15 rfl (lv_at hl 1 rfl) ?_
      refine va_alen (v := 32768) hx hb hK hP 0 0 rfl rfl (show Int32.ofNat 32768 = 32768 by decide) dX7_stands_16 ?_
      refine lv_icmp_le (tgt := 22) hx hb dX7_stands_17 (by decide) (fun c7 => ?_) (fun c7 => ?_)
      · have h := nd_pos h c7
        refine lv_iconst (v := 0) hx hb dX7_stands_22 (by decide) ?_
        refine lv_istore (lv' := [(4, .int 0), (0, .ref (dI 1000 v0)), (1, .ref (a 0)), (2, .int v2), (3, .int v3)]) hx hb dX7_stands_23 hl (by decide) rfl (fun ls hl => ?_)
        exact (db_X7_stands_25 C K n) (v0) (v2) (v3) (0) s0 _ _ _ h hP hD hS (lv_sub hl [1, 2, 3, 4, 0] rfl)
      · have h := nd_neg h c7
        exact (db_X7_stands_20 C K)  s0 _ _ _ h hP hD hS (lv_sub hl [] rfl)
set_option maxHeartbeats 40000000 in
set_option maxRecDepth 100000 in
theorem dm_X7_stands (l : Launch) (hlt : l.stackTraces = false) (dC : Nat → ClassId) (dI : Nat → Nat → Nat) (a : Nat → Nat) (ac : Nat → ClassId) (n : Nat) (v0 : Nat) (v2 : Int32) (v3 : Int32) (s0 : St) {r : Int32 × (St)} (h : df_X7_stands n v0 v2 v3 s0 = some r) (sz : Nat) : Met l yX7_stands ow_dm_X7_stands ({ frames := 4, cells := 0, slots := 0, locals := 85 }) (va_Pc [.ref (dI 1000 v0), .ref (a 0), .int v2, .int v3] (fun U => U.heap.size = sz ∧ va_P (dC, dI) vwCl (dw_BY a ac s0) U.heap ∧ va_K (dC, dI) vwCl (dk_BY ac) U ∧ va_D (fun _ => True) (dw_BY a ac s0) ∧ nv_E dI (va_A (dw_BY a ac s0) sz) U)) (va_Qi (fun x _ => x = r.1) (fun (_ : Unit) t => va_P (dC, dI) vwCl (dw_BY a ac r.2) t.heap ∧ va_K (dC, dI) vwCl (dk_BY ac) t ∧ va_D (va_A (dw_BY a ac s0) sz) (dw_BY a ac r.2)) (va_A (dw_BY a ac s0) sz)) 0 0 (va_A (dw_BY a ac s0) sz) := by
  refine Met.ofW (cc := cX7_stands) (maxL := 5) (ret := (some .boolean)) (by decide) rfl ?_
  intro p e s m args below meth c s₁ B hml hv
  obtain ⟨rfl, hsz, hP, hK, hD0, hN⟩ := hv
  have hx := B.exec
  have hb := B.bytes
  have hr := B.returns
  have hts := atoms_spec (ws := ow_dm_X7_stands) B.pre
  have hown : s.vm.findClass RX7 = some m.cls := findClass_of_methodNamed B.named
  have hlocks := B.notSynchronized
  subst hsz
  have hD := hD0.self (sz := s.heap.size)
  generalize hAe : va_A (dw_BY a ac s0) s.heap.size = A at hD hN ⊢
  have hA : ∀ q : Nat, s.heap.size ≤ q → A q := fun q h => by rw [← hAe]; exact Or.inr h
  have hl := lv_entry ([.ref (dI 1000 v0), .ref (a 0), .int v2, .int v3]) (n := 5) (Nat.le_of_ble_eq_true rfl)
  rw [lg_entry_eq]
  generalize (lg_sl ([.ref (dI 1000 v0), .ref (a 0), .int v2, .int v3]) ++ List.replicate (5 - (lg_sl ([.ref (dI 1000 v0), .ref (a 0), .int v2, .int v3])).length) Slot.unset).toArray = ls at hl ⊢
  have hl : lv_has ls 5 [(0, .ref (dI 1000 v0)), (1, .ref (a 0)), (2, .int v2), (3, .int v3)] := hl
  exact db_X7_stands_0 (dC := dC) (dI := dI) (a := a) (ac := ac) (n := n) (r := r) ⟨hlt, hx, hb, hml, hown, hts, hN, hA, hK⟩ (fun pc v τ H locs ls d z er hP hD hS => by subst er; exact W.zret (v := v) hx hb hr z (fun t ht hW => ⟨⟨v, (), rfl, rfl, by rw [ht]; exact hP, va_K.moved hW.alike hK, hD⟩, hS.F ht⟩) hS.2.2 d) v0 v2 v3 s0 _ _ _ h hP hD va_S.rf (lv_sub hl [0, 1, 2, 3] rfl)
def ow_dm_X7_named : List Cond := Cond.code yX7_named cX7_named 4 (some (.object "TimeMachine$Op")) :: ([Cond.fieldLink RX7 423 "TimeMachine$Op" "ALL" "[LTimeMachine$Op;", Cond.fieldLink RX7 409 "TimeMachine$Op" "word" "Ljava/lang/String;", Cond.methodLink RX7 426 yX7_stands, Cond.static yX7_stands, Cond.initialized RX7] ++ (ow_dm_X7_stands ++ []))
theorem gd_dm_X7_named : ∀ w ∈ ow_dm_X7_named, (w.onTables && w.keeps) = true ∨ ∃ ty, w = Cond.arrayClass ty := List.forall_mem_cons.mpr ⟨good_of_word rfl, List.forall_mem_append.mpr ⟨fun w h => good_of_word (List.all_eq_true.mp (by decide +kernel) w h), List.forall_mem_append.mpr ⟨gd_dm_X7_stands, fun _ h => nomatch h⟩⟩⟩
theorem gi_dm_X7_named_0 : GoodIn ow_dm_X7_named (wsS RX7 426 yX7_stands ow_dm_X7_stands) := goodIn_app (goodIn_of _ (by decide +kernel)) (fun w h => ⟨List.mem_cons_of_mem _ (List.mem_append_right _ (List.mem_append_left _ h)), gd_dm_X7_stands w h⟩)
def dj_X7_named_2 (p : Program) (l : Launch) (e : Env) (s : State) (m : MethodId) (args : Array Value) (below : List Frame) (meth : Method) (c : Code) (Q : State → Prop) (A : Nat → Prop) (dC : Nat → ClassId) (dI : Nat → Nat → Nat) (a : Nat → Nat) (ac : Nat → ClassId) (g : Int32 → Int32 → Int32 → (St) → Option (Option Nat × (St))) (r : Option Nat × (St)) : Prop := ∀ (x1 : Int32) (x2 : Int32) (x3 : Int32) (s0 : St) (H : Heap) (locs : List Loc) (ls : Array Slot), g x1 x2 x3 s0 = some r → va_P (dC, dI) vwCl (dw_BY a ac s0) H → va_D A (dw_BY a ac s0) → va_S A s.heap H locs → lv_has ls 4 [(0, .ref (a 0)), (1, .int x1), (2, .int x2), (3, .int x3)] → W p l e (headSpec ow_dm_X7_named ({ frames := 5, cells := 0, slots := 0, locals := 109 })).room s m args below meth c H locs 0 0 Q (F0 m 2 ls [])
def dj_X7_named_0 (p : Program) (l : Launch) (e : Env) (s : State) (m : MethodId) (args : Array Value) (below : List Frame) (meth : Method) (c : Code) (Q : State → Prop) (A : Nat → Prop) (dC : Nat → ClassId) (dI : Nat → Nat → Nat) (a : Nat → Nat) (ac : Nat → ClassId) (g : Int32 → Int32 → (St) → Option (Option Nat × (St))) (r : Option Nat × (St)) : Prop := ∀ (v1 : Int32) (v2 : Int32) (s0 : St) (H : Heap) (locs : List Loc) (ls : Array Slot), g v1 v2 s0 = some r → va_P (dC, dI) vwCl (dw_BY a ac s0) H → va_D A (dw_BY a ac s0) → va_S A s.heap H locs → lv_has ls 4 [(0, .ref (a 0)), (1, .int v1), (2, .int v2)] → W p l e (headSpec ow_dm_X7_named ({ frames := 5, cells := 0, slots := 0, locals := 109 })).room s m args below meth c H locs 0 0 Q (F0 m 0 ls [])
set_option maxHeartbeats 40000000 in
set_option maxRecDepth 100000 in
theorem dB_X7_named_2 {p : Program} {l : Launch} {e : Env} {s : State} {m : MethodId} {args : Array Value} {below : List Frame} {meth : Method} {c : Code} {Q : State → Prop} {A : Nat → Prop} {dC : Nat → ClassId} {dI : Nat → Nat → Nat} {a : Nat → Nat} {ac : Nat → ClassId} {n : Nat} {r : Option Nat × (St)} (C : nd_C p l s m args c A (dC, dI) cX7_named 4 RX7 ow_dm_X7_named (dk_BY ac)) (K : nd_Kq p l e (headSpec ow_dm_X7_named ({ frames := 5, cells := 0, slots := 0, locals := 109 })).room s m args below meth c Q A (dC, dI) cX7_named (St) (dw_BY a ac) (fun j => dI 1002 j) r) {g2 : Int32 → Int32 → Int32 → (St) → Option (Option Nat × (St))} (J2 : dj_X7_named_2 p l e s m args below meth c Q A dC dI a ac g2 r) : dj_X7_named_2 p l e s m args below meth c Q A dC dI a ac (dF_X7_named_2 n g2) r := by
  obtain ⟨hlt, hx, hb, hml, hown, hts, hN, hA, hK⟩ := id C
  intro x1 x2 x3 s0 H locs ls h hP hD hS hl
  unfold dF_X7_named_2 at h
  refine lv_iload_n hx hb dX7_named_2 rfl (lv_at hl 3 rfl) ?_
  obtain ⟨b1, zb1, tb1⟩ := hN.2.2.2.2.2.2.2.2.2.2.2.2.2.2.2.2.1
  refine va_gets hx hb zb1 hS hown (hts (.fieldLink RX7 423 "TimeMachine$Op" "ALL" "[LTimeMachine$Op;") (List.mem_of_getElem? (i := 1) rfl)) (fun _ h9 => h9) dX7_named_3 ?_
  refine va_tlen (v := 128) hx hb tb1 hS (show Int32.ofNat 128 = 128 by decide) dX7_named_6 ?_
  refine lv_icmp_ge (tgt := 39) hx hb dX7_named_7 (by decide) (fun c2 => ?_) (fun c2 => ?_)
  · have h := nd_pos h c2
    refine lv_null hx hb dX7_named_39 ?_
    exact K _ none _ _ _ _ dX7_named_40 (Option.some.inj h).symm hP hD hS
  · have h := nd_neg h c2
    obtain ⟨b3, zb3, tb3⟩ := hN.2.2.2.2.2.2.2.2.2.2.2.2.2.2.2.2.1
    refine va_gets hx hb zb3 hS hown (hts (.fieldLink RX7 423 "TimeMachine$Op" "ALL" "[LTimeMachine$Op;") (List.mem_of_getElem? (i := 1) rfl)) (fun _ h9 => h9) dX7_named_10 ?_
    refine lv_iload_n hx hb dX7_named_13 rfl (lv_at hl 3 rfl) ?_
    obtain ⟨i4, h⟩ := nd_ck_e h
    refine vb_tq (i := x3) hx hb tb3 hS i4 rfl dX7_named_14 ?_
    obtain ⟨i5, h⟩ := nd_lt_e h
    refine vk_getf hx hb (hN.2.2.2.2.2.2.2.2.2.2.2.2.2.2.1 (Int32.toNatClampNeg x3) i5).2.2.1 hS hown (hts (.fieldLink RX7 409 "TimeMachine$Op" "word" "Ljava/lang/String;") (List.mem_of_getElem? (i := 2) rfl)) (fun _ h9 => h9) dX7_named_15 ?_
    refine lv_aload_n hx hb dX7_named_18 rfl (lv_at hl 0 rfl) ?_
    refine lv_iload_n hx hb dX7_named_19 rfl (lv_at hl 1 rfl) ?_
    refine lv_iload_n hx hb dX7_named_20 rfl (lv_at hl 2 rfl) ?_
    obtain ⟨q6, s7, hq, h⟩ := nd_b2_e h
    have hPc := hP
    have hDc := hD
    have hKc := hK
    have hFc := nd_rs hD hS hA
    refine nd_cSi (As := [.ref (dI 1000 (ko_w (Int32.toNatClampNeg x3))), .ref (a 0), .int x1, .int x2]) (rest := []) (q := q6) (w' := dw_BY a ac s7) ⟨hx, hb, hml, hown, hts⟩ (fun sz => dm_X7_stands l hlt dC dI a ac n ((ko_w (Int32.toNatClampNeg x3))) (x1) (x2) s0 hq sz) (cwS 4 hts gi_dm_X7_named_0 rfl rfl rfl (by decide +kernel) ⟨Nat.le_of_ble_eq_true rfl, Nat.le_of_ble_eq_true rfl⟩) hPc hDc hKc hS hA hN rfl hl.1 rfl (Nat.le_of_ble_eq_true rfl) dX7_named_21 (fun H locs hP1 hD1 hk1 hS => ?_)
    have hP := hP1
    have hD := hD1.weaken (fun k q _ h => hFc q.1 h)
    refine lv_if_eq (tgt := 33) hx hb dX7_named_24 (by decide) (fun c9 => ?_) (fun c9 => ?_)
    · have h := nd_pos h c9
      obtain ⟨z10, ez10, h⟩ := nd_let_e h
      refine lv_iinc (v := z10) (lv' := [(3, .int z10), (0, .ref (a 0)), (1, .int x1), (2, .int x2)]) hx hb dX7_named_33 hl (k := 3) rfl (by rw [ez10]) (by decide) rfl (fun ls hl => ?_)
      refine lv_goto (tgt := 2) hx hb dX7_named_36 (by decide) ?_
      exact (J2) (x1) (x2) (z10) s7 _ _ _ h hP hD hS (lv_sub hl [1, 2, 3, 0] rfl)
    · have h := nd_neg h c9
      obtain ⟨b11, zb11, tb11⟩ := hN.2.2.2.2.2.2.2.2.2.2.2.2.2.2.2.2.1
      refine va_gets hx hb zb11 hS hown (hts (.fieldLink RX7 423 "TimeMachine$Op" "ALL" "[LTimeMachine$Op;") (List.mem_of_getElem? (i := 1) rfl)) (fun _ h9 => h9) dX7_named_27 ?_
      refine lv_iload_n hx hb dX7_named_30 rfl (lv_at hl 3 rfl) ?_
      obtain ⟨i12, h⟩ := nd_ck_e h
      refine vb_tq (i := x3) hx hb tb11 hS i12 rfl dX7_named_31 ?_
      exact K _ (some (Int32.toNatClampNeg x3)) _ _ _ _ dX7_named_32 (Option.some.inj h).symm hP hD hS
set_option maxHeartbeats 40000000 in
set_option maxRecDepth 100000 in
theorem db_X7_named_2 {p : Program} {l : Launch} {e : Env} {s : State} {m : MethodId} {args : Array Value} {below : List Frame} {meth : Method} {c : Code} {Q : State → Prop} {A : Nat → Prop} {dC : Nat → ClassId} {dI : Nat → Nat → Nat} {a : Nat → Nat} {ac : Nat → ClassId} {n : Nat} {r : Option Nat × (St)} (C : nd_C p l s m args c A (dC, dI) cX7_named 4 RX7 ow_dm_X7_named (dk_BY ac)) (K : nd_Kq p l e (headSpec ow_dm_X7_named ({ frames := 5, cells := 0, slots := 0, locals := 109 })).room s m args below meth c Q A (dC, dI) cX7_named (St) (dw_BY a ac) (fun j => dI 1002 j) r) (k : Nat) : dj_X7_named_2 p l e s m args below meth c Q A dC dI a ac (df_X7_named_2 n k) r := by
  induction k with
  | zero => intro x1 x2 x3 s0 H locs ls h; exact nomatch (show (none : Option (Option Nat × (St))) = some r from h)
  | succ k ih => exact dB_X7_named_2 C K ih
set_option maxHeartbeats 40000000 in
set_option maxRecDepth 100000 in
theorem db_X7_named_0 {p : Program} {l : Launch} {e : Env} {s : State} {m : MethodId} {args : Array Value} {below : List Frame} {meth : Method} {c : Code} {Q : State → Prop} {A : Nat → Prop} {dC : Nat → ClassId} {dI : Nat → Nat → Nat} {a : Nat → Nat} {ac : Nat → ClassId} {n : Nat} {r : Option Nat × (St)} (C : nd_C p l s m args c A (dC, dI) cX7_named 4 RX7 ow_dm_X7_named (dk_BY ac)) (K : nd_Kq p l e (headSpec ow_dm_X7_named ({ frames := 5, cells := 0, slots := 0, locals := 109 })).room s m args below meth c Q A (dC, dI) cX7_named (St) (dw_BY a ac) (fun j => dI 1002 j) r) : dj_X7_named_0 p l e s m args below meth c Q A dC dI a ac (df_X7_named_0 n) r := by
  obtain ⟨hlt, hx, hb, hml, hown, hts, hN, hA, hK⟩ := id C
  intro v1 v2 s0 H locs ls h hP hD hS hl
  unfold df_X7_named_0 at h
  refine lv_iconst (v := 0) hx hb dX7_named_0 (by decide) ?_
  refine lv_istore_n (lv' := [(3, .int 0), (0, .ref (a 0)), (1, .int v1), (2, .int v2)]) hx hb dX7_named_1 rfl hl (by decide) rfl (fun ls hl => ?_)
  exact (db_X7_named_2 C K n) (v1) (v2) (0) s0 _ _ _ h hP hD hS (lv_sub hl [1, 2, 3, 0] rfl)
set_option maxHeartbeats 40000000 in
set_option maxRecDepth 100000 in
theorem dm_X7_named (l : Launch) (hlt : l.stackTraces = false) (dC : Nat → ClassId) (dI : Nat → Nat → Nat) (a : Nat → Nat) (ac : Nat → ClassId) (n : Nat) (v1 : Int32) (v2 : Int32) (s0 : St) {r : Option Nat × (St)} (h : df_X7_named n v1 v2 s0 = some r) (sz : Nat) : Met l yX7_named ow_dm_X7_named ({ frames := 5, cells := 0, slots := 0, locals := 109 }) (va_Pc [.ref (a 0), .int v1, .int v2] (fun U => U.heap.size = sz ∧ va_P (dC, dI) vwCl (dw_BY a ac s0) U.heap ∧ va_K (dC, dI) vwCl (dk_BY ac) U ∧ va_D (fun _ => True) (dw_BY a ac s0) ∧ nv_E dI (va_A (dw_BY a ac s0) sz) U)) (va_Qq (fun x _ => x = Option.map (fun j => dI 1002 j) r.1) (fun (_ : Unit) t => va_P (dC, dI) vwCl (dw_BY a ac r.2) t.heap ∧ va_K (dC, dI) vwCl (dk_BY ac) t ∧ va_D (va_A (dw_BY a ac s0) sz) (dw_BY a ac r.2)) (va_A (dw_BY a ac s0) sz)) 0 0 (va_A (dw_BY a ac s0) sz) := by
  refine Met.ofW (cc := cX7_named) (maxL := 4) (ret := (some (.object "TimeMachine$Op"))) (by decide) rfl ?_
  intro p e s m args below meth c s₁ B hml hv
  obtain ⟨rfl, hsz, hP, hK, hD0, hN⟩ := hv
  have hx := B.exec
  have hb := B.bytes
  have hr := B.returns
  have hts := atoms_spec (ws := ow_dm_X7_named) B.pre
  have hown : s.vm.findClass RX7 = some m.cls := findClass_of_methodNamed B.named
  have hlocks := B.notSynchronized
  subst hsz
  have hD := hD0.self (sz := s.heap.size)
  generalize hAe : va_A (dw_BY a ac s0) s.heap.size = A at hD hN ⊢
  have hA : ∀ q : Nat, s.heap.size ≤ q → A q := fun q h => by rw [← hAe]; exact Or.inr h
  have hl := lv_entry ([.ref (a 0), .int v1, .int v2]) (n := 4) (Nat.le_of_ble_eq_true rfl)
  rw [lg_entry_eq]
  generalize (lg_sl ([.ref (a 0), .int v1, .int v2]) ++ List.replicate (4 - (lg_sl ([.ref (a 0), .int v1, .int v2])).length) Slot.unset).toArray = ls at hl ⊢
  have hl : lv_has ls 4 [(0, .ref (a 0)), (1, .int v1), (2, .int v2)] := hl
  exact db_X7_named_0 (dC := dC) (dI := dI) (a := a) (ac := ac) (n := n) (r := r) ⟨hlt, hx, hb, hml, hown, hts, hN, hA, hK⟩ (fun pc o τ H locs ls d er hP hD hS => by subst er; exact W.aret (v := va_rf (Option.map (fun j => dI 1002 j) o)) hx hb hr (by first | exact Or.inl ⟨_, rfl⟩ | exact Or.inr ⟨_, rfl⟩) (va_rf_or _) (fun t ht hW => ⟨⟨Option.map (fun j => dI 1002 j) o, (), rfl, rfl, by rw [ht]; exact hP, va_K.moved hW.alike hK, hD⟩, hS.F ht⟩) hS.2.2 d) v1 v2 s0 _ _ _ h hP hD va_S.rf (lv_sub hl [0, 1, 2] rfl)
def ow_dm_X7_order : List Cond := Cond.code yX7_order cX7_order 3 (some .int) :: ([Cond.methodLink RX7 426 yX7_stands, Cond.static yX7_stands, Cond.initialized RX7, Cond.constant RX7 448 (33554432), Cond.constant RX7 445 (67108864), Cond.constant RX7 442 (100663296)] ++ (ow_dm_X7_stands ++ []))
theorem gd_dm_X7_order : ∀ w ∈ ow_dm_X7_order, (w.onTables && w.keeps) = true ∨ ∃ ty, w = Cond.arrayClass ty := List.forall_mem_cons.mpr ⟨good_of_word rfl, List.forall_mem_append.mpr ⟨fun w h => good_of_word (List.all_eq_true.mp (by decide +kernel) w h), List.forall_mem_append.mpr ⟨gd_dm_X7_stands, fun _ h => nomatch h⟩⟩⟩
theorem gi_dm_X7_order_0 : GoodIn ow_dm_X7_order (wsS RX7 426 yX7_stands ow_dm_X7_stands) := goodIn_app (goodIn_of _ (by decide +kernel)) (fun w h => ⟨List.mem_cons_of_mem _ (List.mem_append_right _ (List.mem_append_left _ h)), gd_dm_X7_stands w h⟩)
def dj_X7_order_78 (p : Program) (l : Launch) (e : Env) (s : State) (m : MethodId) (args : Array Value) (below : List Frame) (meth : Method) (c : Code) (Q : State → Prop) (A : Nat → Prop) (dC : Nat → ClassId) (dI : Nat → Nat → Nat) (a : Nat → Nat) (ac : Nat → ClassId) (g : Int32 → (St) → Option (Int32 × (St))) (r : Int32 × (St)) : Prop := ∀ (y0 : Int32) (s0 : St) (H : Heap) (locs : List Loc) (ls : Array Slot), g y0 s0 = some r → va_P (dC, dI) vwCl (dw_BY a ac s0) H → va_D A (dw_BY a ac s0) → va_S A s.heap H locs → lv_has ls 3 [] → W p l e (headSpec ow_dm_X7_order ({ frames := 5, cells := 0, slots := 0, locals := 109 })).room s m args below meth c H locs 0 0 Q (F0 m 78 ls [.int y0])
def dj_X7_order_77 (p : Program) (l : Launch) (e : Env) (s : State) (m : MethodId) (args : Array Value) (below : List Frame) (meth : Method) (c : Code) (Q : State → Prop) (A : Nat → Prop) (dC : Nat → ClassId) (dI : Nat → Nat → Nat) (a : Nat → Nat) (ac : Nat → ClassId) (g : (St) → Option (Int32 × (St))) (r : Int32 × (St)) : Prop := ∀ (s0 : St) (H : Heap) (locs : List Loc) (ls : Array Slot), g s0 = some r → va_P (dC, dI) vwCl (dw_BY a ac s0) H → va_D A (dw_BY a ac s0) → va_S A s.heap H locs → lv_has ls 3 [] → W p l e (headSpec ow_dm_X7_order ({ frames := 5, cells := 0, slots := 0, locals := 109 })).room s m args below meth c H locs 0 0 Q (F0 m 77 ls [])
def dj_X7_order_50 (p : Program) (l : Launch) (e : Env) (s : State) (m : MethodId) (args : Array Value) (below : List Frame) (meth : Method) (c : Code) (Q : State → Prop) (A : Nat → Prop) (dC : Nat → ClassId) (dI : Nat → Nat → Nat) (a : Nat → Nat) (ac : Nat → ClassId) (g : Int32 → Int32 → (St) → Option (Int32 × (St))) (r : Int32 × (St)) : Prop := ∀ (x1 : Int32) (x2 : Int32) (s0 : St) (H : Heap) (locs : List Loc) (ls : Array Slot), g x1 x2 s0 = some r → va_P (dC, dI) vwCl (dw_BY a ac s0) H → va_D A (dw_BY a ac s0) → va_S A s.heap H locs → lv_has ls 3 [(0, .ref (a 0)), (1, .int x1), (2, .int x2)] → W p l e (headSpec ow_dm_X7_order ({ frames := 5, cells := 0, slots := 0, locals := 109 })).room s m args below meth c H locs 0 0 Q (F0 m 50 ls [])
def dj_X7_order_25 (p : Program) (l : Launch) (e : Env) (s : State) (m : MethodId) (args : Array Value) (below : List Frame) (meth : Method) (c : Code) (Q : State → Prop) (A : Nat → Prop) (dC : Nat → ClassId) (dI : Nat → Nat → Nat) (a : Nat → Nat) (ac : Nat → ClassId) (g : Int32 → Int32 → (St) → Option (Int32 × (St))) (r : Int32 × (St)) : Prop := ∀ (x1 : Int32) (x2 : Int32) (s0 : St) (H : Heap) (locs : List Loc) (ls : Array Slot), g x1 x2 s0 = some r → va_P (dC, dI) vwCl (dw_BY a ac s0) H → va_D A (dw_BY a ac s0) → va_S A s.heap H locs → lv_has ls 3 [(0, .ref (a 0)), (1, .int x1), (2, .int x2)] → W p l e (headSpec ow_dm_X7_order ({ frames := 5, cells := 0, slots := 0, locals := 109 })).room s m args below meth c H locs 0 0 Q (F0 m 25 ls [])
def dj_X7_order_0 (p : Program) (l : Launch) (e : Env) (s : State) (m : MethodId) (args : Array Value) (below : List Frame) (meth : Method) (c : Code) (Q : State → Prop) (A : Nat → Prop) (dC : Nat → ClassId) (dI : Nat → Nat → Nat) (a : Nat → Nat) (ac : Nat → ClassId) (g : Int32 → Int32 → (St) → Option (Int32 × (St))) (r : Int32 × (St)) : Prop := ∀ (v1 : Int32) (v2 : Int32) (s0 : St) (H : Heap) (locs : List Loc) (ls : Array Slot), g v1 v2 s0 = some r → va_P (dC, dI) vwCl (dw_BY a ac s0) H → va_D A (dw_BY a ac s0) → va_S A s.heap H locs → lv_has ls 3 [(0, .ref (a 0)), (1, .int v1), (2, .int v2)] → W p l e (headSpec ow_dm_X7_order ({ frames := 5, cells := 0, slots := 0, locals := 109 })).room s m args below meth c H locs 0 0 Q (F0 m 0 ls [])
set_option maxHeartbeats 40000000 in
set_option maxRecDepth 100000 in
theorem db_X7_order_78 {p : Program} {l : Launch} {e : Env} {s : State} {m : MethodId} {args : Array Value} {below : List Frame} {meth : Method} {c : Code} {Q : State → Prop} {A : Nat → Prop} {dC : Nat → ClassId} {dI : Nat → Nat → Nat} {a : Nat → Nat} {ac : Nat → ClassId} {n : Nat} {r : Int32 × (St)} (C : nd_C p l s m args c A (dC, dI) cX7_order 3 RX7 ow_dm_X7_order (dk_BY ac)) (K : nd_Ki p l e (headSpec ow_dm_X7_order ({ frames := 5, cells := 0, slots := 0, locals := 109 })).room s m args below meth c Q A (dC, dI) cX7_order .int (St) (dw_BY a ac) r) : dj_X7_order_78 p l e s m args below meth c Q A dC dI a ac (df_X7_order_78 n) r := by
  obtain ⟨hlt, hx, hb, hml, hown, hts, hN, hA, hK⟩ := id C
  intro y0 s0 H locs ls h hP hD hS hl
  unfold df_X7_order_78 at h
  exact K _ _ _ _ _ _ dX7_order_78 rfl (Option.some.inj h).symm hP hD hS
set_option maxHeartbeats 40000000 in
set_option maxRecDepth 100000 in
theorem db_X7_order_77 {p : Program} {l : Launch} {e : Env} {s : State} {m : MethodId} {args : Array Value} {below : List Frame} {meth : Method} {c : Code} {Q : State → Prop} {A : Nat → Prop} {dC : Nat → ClassId} {dI : Nat → Nat → Nat} {a : Nat → Nat} {ac : Nat → ClassId} {n : Nat} {r : Int32 × (St)} (C : nd_C p l s m args c A (dC, dI) cX7_order 3 RX7 ow_dm_X7_order (dk_BY ac)) (K : nd_Ki p l e (headSpec ow_dm_X7_order ({ frames := 5, cells := 0, slots := 0, locals := 109 })).room s m args below meth c Q A (dC, dI) cX7_order .int (St) (dw_BY a ac) r) : dj_X7_order_77 p l e s m args below meth c Q A dC dI a ac (df_X7_order_77 n) r := by
  obtain ⟨hlt, hx, hb, hml, hown, hts, hN, hA, hK⟩ := id C
  intro s0 H locs ls h hP hD hS hl
  unfold df_X7_order_77 at h
  refine lv_iconst (v := 0) hx hb dX7_order_77 (by decide) ?_
  exact (db_X7_order_78 C K) (0) s0 _ _ _ h hP hD hS (lv_sub hl [] rfl)
set_option maxHeartbeats 40000000 in
set_option maxRecDepth 100000 in
theorem db_X7_order_50 {p : Program} {l : Launch} {e : Env} {s : State} {m : MethodId} {args : Array Value} {below : List Frame} {meth : Method} {c : Code} {Q : State → Prop} {A : Nat → Prop} {dC : Nat → ClassId} {dI : Nat → Nat → Nat} {a : Nat → Nat} {ac : Nat → ClassId} {n : Nat} {r : Int32 × (St)} (C : nd_C p l s m args c A (dC, dI) cX7_order 3 RX7 ow_dm_X7_order (dk_BY ac)) (K : nd_Ki p l e (headSpec ow_dm_X7_order ({ frames := 5, cells := 0, slots := 0, locals := 109 })).room s m args below meth c Q A (dC, dI) cX7_order .int (St) (dw_BY a ac) r) : dj_X7_order_50 p l e s m args below meth c Q A dC dI a ac (df_X7_order_50 n) r := by
  obtain ⟨hlt, hx, hb, hml, hown, hts, hN, hA, hK⟩ := id C
  intro x1 x2 s0 H locs ls h hP hD hS hl
  unfold df_X7_order_50 at h
  refine lv_iload_n hx hb dX7_order_50 rfl (lv_at hl 2 rfl) ?_
  refine lv_iconst (v := 3) hx hb dX7_order_51 (by decide) ?_
  refine lv_icmp_le (tgt := 77) hx hb dX7_order_52 (by decide) (fun c3 => ?_) (fun c3 => ?_)
  · have h := nd_pos h c3
    exact (db_X7_order_77 C K)  s0 _ _ _ h hP hD hS (lv_sub hl [] rfl)
  · have h := nd_neg h c3
    have z4 : vk_R RX7 446 ".rl" (dI 1000 5) s := hN.2.2.2.2.2.2.2.2.2.2.2.2.1 5 (by decide)
    refine nv_ldcw hx hb hown z4 dX7_order_55 ?_
    refine lv_aload_n hx hb dX7_order_58 rfl (lv_at hl 0 rfl) ?_
    refine lv_iload_n hx hb dX7_order_59 rfl (lv_at hl 1 rfl) ?_
    refine lv_iload_n hx hb dX7_order_60 rfl (lv_at hl 2 rfl) ?_
    refine lv_iadd hx hb dX7_order_61 ?_
    refine lv_iconst (v := 3) hx hb dX7_order_62 (by decide) ?_
    refine lv_isub hx hb dX7_order_63 ?_
    refine lv_iconst (v := 3) hx hb dX7_order_64 (by decide) ?_
    obtain ⟨q5, s6, hq, h⟩ := nd_b2_e h
    have hPc := hP
    have hDc := hD
    have hKc := hK
    have hFc := nd_rs hD hS hA
    refine nd_cSi (As := [.ref (dI 1000 5), .ref (a 0), .int ((x1 + x2) - 3), .int 3]) (rest := []) (q := q5) (w' := dw_BY a ac s6) ⟨hx, hb, hml, hown, hts⟩ (fun sz => dm_X7_stands l hlt dC dI a ac n (5) (((x1 + x2) - 3)) (3) s0 hq sz) (cwS 4 hts gi_dm_X7_order_0 rfl rfl rfl (by decide +kernel) ⟨Nat.le_of_ble_eq_true rfl, Nat.le_of_ble_eq_true rfl⟩) hPc hDc hKc hS hA hN rfl hl.1 rfl (Nat.le_of_ble_eq_true rfl) dX7_order_65 (fun H locs hP1 hD1 hk1 hS => ?_)
    have hP := hP1
    have hD := hD1.weaken (fun k q _ h => hFc q.1 h)
    refine lv_if_eq (tgt := 77) hx hb dX7_order_68 (by decide) (fun c8 => ?_) (fun c8 => ?_)
    · have h := nd_pos h c8
      exact (db_X7_order_77 C K)  s6 _ _ _ h hP hD hS (lv_sub hl [] rfl)
    · have h := nd_neg h c8
      refine lv_ldcw hx hb hown (hts (.constant RX7 448 (33554432)) (List.mem_of_getElem? (i := 4) rfl)) dX7_order_71 ?_
      refine lv_goto (tgt := 78) hx hb dX7_order_74 (by decide) ?_
      exact (db_X7_order_78 C K) (33554432) s6 _ _ _ h hP hD hS (lv_sub hl [] rfl)
set_option maxHeartbeats 40000000 in
set_option maxRecDepth 100000 in
theorem db_X7_order_25 {p : Program} {l : Launch} {e : Env} {s : State} {m : MethodId} {args : Array Value} {below : List Frame} {meth : Method} {c : Code} {Q : State → Prop} {A : Nat → Prop} {dC : Nat → ClassId} {dI : Nat → Nat → Nat} {a : Nat → Nat} {ac : Nat → ClassId} {n : Nat} {r : Int32 × (St)} (C : nd_C p l s m args c A (dC, dI) cX7_order 3 RX7 ow_dm_X7_order (dk_BY ac)) (K : nd_Ki p l e (headSpec ow_dm_X7_order ({ frames := 5, cells := 0, slots := 0, locals := 109 })).room s m args below meth c Q A (dC, dI) cX7_order .int (St) (dw_BY a ac) r) : dj_X7_order_25 p l e s m args below meth c Q A dC dI a ac (df_X7_order_25 n) r := by
  obtain ⟨hlt, hx, hb, hml, hown, hts, hN, hA, hK⟩ := id C
  intro x1 x2 s0 H locs ls h hP hD hS hl
  unfold df_X7_order_25 at h
  refine lv_iload_n hx hb dX7_order_25 rfl (lv_at hl 2 rfl) ?_
  refine lv_iconst (v := 3) hx hb dX7_order_26 (by decide) ?_
  refine lv_icmp_le (tgt := 50) hx hb dX7_order_27 (by decide) (fun c2 => ?_) (fun c2 => ?_)
  · have h := nd_pos h c2
    exact (db_X7_order_50 C K) (x1) (x2) s0 _ _ _ h hP hD hS (lv_sub hl [0, 1, 2] rfl)
  · have h := nd_neg h c2
    have z9 : vk_R RX7 443 ".aq" (dI 1000 4) s := hN.2.2.2.2.2.2.2.2.2.2.2.2.1 4 (by decide)
    refine nv_ldcw hx hb hown z9 dX7_order_30 ?_
    refine lv_aload_n hx hb dX7_order_33 rfl (lv_at hl 0 rfl) ?_
    refine lv_iload_n hx hb dX7_order_34 rfl (lv_at hl 1 rfl) ?_
    refine lv_iload_n hx hb dX7_order_35 rfl (lv_at hl 2 rfl) ?_
    refine lv_iadd hx hb dX7_order_36 ?_
    refine lv_iconst (v := 3) hx hb dX7_order_37 (by decide) ?_
    refine lv_isub hx hb dX7_order_38 ?_
    refine lv_iconst (v := 3) hx hb dX7_order_39 (by decide) ?_
    obtain ⟨q10, s11, hq, h⟩ := nd_b2_e h
    have hPc := hP
    have hDc := hD
    have hKc := hK
    have hFc := nd_rs hD hS hA
    refine nd_cSi (As := [.ref (dI 1000 4), .ref (a 0), .int ((x1 + x2) - 3), .int 3]) (rest := []) (q := q10) (w' := dw_BY a ac s11) ⟨hx, hb, hml, hown, hts⟩ (fun sz => dm_X7_stands l hlt dC dI a ac n (4) (((x1 + x2) - 3)) (3) s0 hq sz) (cwS 4 hts gi_dm_X7_order_0 rfl rfl rfl (by decide +kernel) ⟨Nat.le_of_ble_eq_true rfl, Nat.le_of_ble_eq_true rfl⟩) hPc hDc hKc hS hA hN rfl hl.1 rfl (Nat.le_of_ble_eq_true rfl) dX7_order_40 (fun H locs hP1 hD1 hk1 hS => ?_)
    have hP := hP1
    have hD := hD1.weaken (fun k q _ h => hFc q.1 h)
    refine lv_if_eq (tgt := 50) hx hb dX7_order_43 (by decide) (fun c13 => ?_) (fun c13 => ?_)
    · have h := nd_pos h c13
      exact (db_X7_order_50 C K) (x1) (x2) s11 _ _ _ h hP hD hS (lv_sub hl [0, 1, 2] rfl)
    · have h := nd_neg h c13
      refine lv_ldcw hx hb hown (hts (.constant RX7 445 (67108864)) (List.mem_of_getElem? (i := 5) rfl)) dX7_order_46 ?_
      exact K _ _ _ _ _ _ dX7_order_49 rfl (Option.some.inj h).symm hP hD hS
set_option maxHeartbeats 40000000 in
set_option maxRecDepth 100000 in
theorem db_X7_order_0 {p : Program} {l : Launch} {e : Env} {s : State} {m : MethodId} {args : Array Value} {below : List Frame} {meth : Method} {c : Code} {Q : State → Prop} {A : Nat → Prop} {dC : Nat → ClassId} {dI : Nat → Nat → Nat} {a : Nat → Nat} {ac : Nat → ClassId} {n : Nat} {r : Int32 × (St)} (C : nd_C p l s m args c A (dC, dI) cX7_order 3 RX7 ow_dm_X7_order (dk_BY ac)) (K : nd_Ki p l e (headSpec ow_dm_X7_order ({ frames := 5, cells := 0, slots := 0, locals := 109 })).room s m args below meth c Q A (dC, dI) cX7_order .int (St) (dw_BY a ac) r) : dj_X7_order_0 p l e s m args below meth c Q A dC dI a ac (df_X7_order_0 n) r := by
  obtain ⟨hlt, hx, hb, hml, hown, hts, hN, hA, hK⟩ := id C
  intro v1 v2 s0 H locs ls h hP hD hS hl
  unfold df_X7_order_0 at h
  refine lv_iload_n hx hb dX7_order_0 rfl (lv_at hl 2 rfl) ?_
  refine lv_iconst (v := 5) hx hb dX7_order_1 (by decide) ?_
  refine lv_icmp_le (tgt := 25) hx hb dX7_order_2 (by decide) (fun c1 => ?_) (fun c1 => ?_)
  · have h := nd_pos h c1
    exact (db_X7_order_25 C K) (v1) (v2) s0 _ _ _ h hP hD hS (lv_sub hl [0, 1, 2] rfl)
  · have h := nd_neg h c1
    have z14 : vk_R RX7 440 ".aqrl" (dI 1000 6) s := hN.2.2.2.2.2.2.2.2.2.2.2.2.1 6 (by decide)
    refine nv_ldcw hx hb hown z14 dX7_order_5 ?_
    refine lv_aload_n hx hb dX7_order_8 rfl (lv_at hl 0 rfl) ?_
    refine lv_iload_n hx hb dX7_order_9 rfl (lv_at hl 1 rfl) ?_
    refine lv_iload_n hx hb dX7_order_10 rfl (lv_at hl 2 rfl) ?_
    refine lv_iadd hx hb dX7_order_11 ?_
    refine lv_iconst (v := 5) hx hb dX7_order_12 (by decide) ?_
    refine lv_isub hx hb dX7_order_13 ?_
    refine lv_iconst (v := 5) hx hb dX7_order_14 (by decide) ?_
    obtain ⟨q15, s16, hq, h⟩ := nd_b2_e h
    have hPc := hP
    have hDc := hD
    have hKc := hK
    have hFc := nd_rs hD hS hA
    refine nd_cSi (As := [.ref (dI 1000 6), .ref (a 0), .int ((v1 + v2) - 5), .int 5]) (rest := []) (q := q15) (w' := dw_BY a ac s16) ⟨hx, hb, hml, hown, hts⟩ (fun sz => dm_X7_stands l hlt dC dI a ac n (6) (((v1 + v2) - 5)) (5) s0 hq sz) (cwS 4 hts gi_dm_X7_order_0 rfl rfl rfl (by decide +kernel) ⟨Nat.le_of_ble_eq_true rfl, Nat.le_of_ble_eq_true rfl⟩) hPc hDc hKc hS hA hN rfl hl.1 rfl (Nat.le_of_ble_eq_true rfl) dX7_order_15 (fun H locs hP1 hD1 hk1 hS => ?_)
    have hP := hP1
    have hD := hD1.weaken (fun k q _ h => hFc q.1 h)
    refine lv_if_eq (tgt := 25) hx hb dX7_order_18 (by decide) (fun c18 => ?_) (fun c18 => ?_)
    · have h := nd_pos h c18
      exact (db_X7_order_25 C K) (v1) (v2) s16 _ _ _ h hP hD hS (lv_sub hl [0, 1, 2] rfl)
    · have h := nd_neg h c18
      refine lv_ldcw hx hb hown (hts (.constant RX7 442 (100663296)) (List.mem_of_getElem? (i := 6) rfl)) dX7_order_21 ?_
      exact K _ _ _ _ _ _ dX7_order_24 rfl (Option.some.inj h).symm hP hD hS
set_option maxHeartbeats 40000000 in
set_option maxRecDepth 100000 in
theorem dm_X7_order (l : Launch) (hlt : l.stackTraces = false) (dC : Nat → ClassId) (dI : Nat → Nat → Nat) (a : Nat → Nat) (ac : Nat → ClassId) (n : Nat) (v1 : Int32) (v2 : Int32) (s0 : St) {r : Int32 × (St)} (h : df_X7_order n v1 v2 s0 = some r) (sz : Nat) : Met l yX7_order ow_dm_X7_order ({ frames := 5, cells := 0, slots := 0, locals := 109 }) (va_Pc [.ref (a 0), .int v1, .int v2] (fun U => U.heap.size = sz ∧ va_P (dC, dI) vwCl (dw_BY a ac s0) U.heap ∧ va_K (dC, dI) vwCl (dk_BY ac) U ∧ va_D (fun _ => True) (dw_BY a ac s0) ∧ nv_E dI (va_A (dw_BY a ac s0) sz) U)) (va_Qi (fun x _ => x = r.1) (fun (_ : Unit) t => va_P (dC, dI) vwCl (dw_BY a ac r.2) t.heap ∧ va_K (dC, dI) vwCl (dk_BY ac) t ∧ va_D (va_A (dw_BY a ac s0) sz) (dw_BY a ac r.2)) (va_A (dw_BY a ac s0) sz)) 0 0 (va_A (dw_BY a ac s0) sz) := by
  refine Met.ofW (cc := cX7_order) (maxL := 3) (ret := (some .int)) (by decide) rfl ?_
  intro p e s m args below meth c s₁ B hml hv
  obtain ⟨rfl, hsz, hP, hK, hD0, hN⟩ := hv
  have hx := B.exec
  have hb := B.bytes
  have hr := B.returns
  have hts := atoms_spec (ws := ow_dm_X7_order) B.pre
  have hown : s.vm.findClass RX7 = some m.cls := findClass_of_methodNamed B.named
  have hlocks := B.notSynchronized
  subst hsz
  have hD := hD0.self (sz := s.heap.size)
  generalize hAe : va_A (dw_BY a ac s0) s.heap.size = A at hD hN ⊢
  have hA : ∀ q : Nat, s.heap.size ≤ q → A q := fun q h => by rw [← hAe]; exact Or.inr h
  have hl := lv_entry ([.ref (a 0), .int v1, .int v2]) (n := 3) (Nat.le_of_ble_eq_true rfl)
  rw [lg_entry_eq]
  generalize (lg_sl ([.ref (a 0), .int v1, .int v2]) ++ List.replicate (3 - (lg_sl ([.ref (a 0), .int v1, .int v2])).length) Slot.unset).toArray = ls at hl ⊢
  have hl : lv_has ls 3 [(0, .ref (a 0)), (1, .int v1), (2, .int v2)] := hl
  exact db_X7_order_0 (dC := dC) (dI := dI) (a := a) (ac := ac) (n := n) (r := r) ⟨hlt, hx, hb, hml, hown, hts, hN, hA, hK⟩ (fun pc v τ H locs ls d z er hP hD hS => by subst er; exact W.zret (v := v) hx hb hr z (fun t ht hW => ⟨⟨v, (), rfl, rfl, by rw [ht]; exact hP, va_K.moved hW.alike hK, hD⟩, hS.F ht⟩) hS.2.2 d) v1 v2 s0 _ _ _ h hP hD va_S.rf (lv_sub hl [0, 1, 2] rfl)
def ow_dm_X7_isNamed : List Cond := Cond.code yX7_isNamed cX7_isNamed 6 (some .boolean) :: ([Cond.methodLink RX7 436 yJ0_charAt_5068e, Cond.instanceMethod yJ0_charAt_5068e, Cond.selects RJ0 yJ0_charAt_5068e yJ0_charAt_5068e, Cond.initialized RJ0] ++ (ow_dm_J0_charAt_5068e ++ []))
theorem gd_dm_X7_isNamed : ∀ w ∈ ow_dm_X7_isNamed, (w.onTables && w.keeps) = true ∨ ∃ ty, w = Cond.arrayClass ty := List.forall_mem_cons.mpr ⟨good_of_word rfl, List.forall_mem_append.mpr ⟨fun w h => good_of_word (List.all_eq_true.mp (by decide +kernel) w h), List.forall_mem_append.mpr ⟨gd_dm_J0_charAt_5068e, fun _ h => nomatch h⟩⟩⟩
theorem gi_dm_X7_isNamed_0 : GoodIn ow_dm_X7_isNamed (wsV RX7 436 RJ0 yJ0_charAt_5068e ow_dm_J0_charAt_5068e) := goodIn_app (goodIn_of _ (by decide +kernel)) (fun w h => ⟨List.mem_cons_of_mem _ (List.mem_append_right _ (List.mem_append_left _ h)), gd_dm_J0_charAt_5068e w h⟩)
def dj_X7_isNamed_44 (p : Program) (l : Launch) (e : Env) (s : State) (m : MethodId) (args : Array Value) (below : List Frame) (meth : Method) (c : Code) (Q : State → Prop) (A : Nat → Prop) (dC : Nat → ClassId) (dI : Nat → Nat → Nat) (a : Nat → Nat) (ac : Nat → ClassId) (g : Int32 → Int32 → Int32 → Int32 → Int32 → Int32 → (St) → Option (Int32 × (St))) (r : Int32 × (St)) : Prop := ∀ (x0 : Int32) (x2 : Int32) (x3 : Int32) (x4 : Int32) (y0 : Int32) (y1 : Int32) (s0 : St) (H : Heap) (locs : List Loc) (ls : Array Slot), g x0 x2 x3 x4 y0 y1 s0 = some r → va_P (dC, dI) vwCl (dw_BY a ac s0) H → va_D A (dw_BY a ac s0) → va_S A s.heap H locs → lv_has ls 6 [(0, .int x0), (1, .ref (a 0)), (2, .int x2), (3, .int x3), (4, .int x4)] → W p l e (headSpec ow_dm_X7_isNamed ({ frames := 4, cells := 0, slots := 0, locals := 85 })).room s m args below meth c H locs 0 0 Q (F0 m 44 ls [.int y1, .int y0])
def dj_X7_isNamed_3 (p : Program) (l : Launch) (e : Env) (s : State) (m : MethodId) (args : Array Value) (below : List Frame) (meth : Method) (c : Code) (Q : State → Prop) (A : Nat → Prop) (dC : Nat → ClassId) (dI : Nat → Nat → Nat) (a : Nat → Nat) (ac : Nat → ClassId) (g : Int32 → Int32 → Int32 → Int32 → (St) → Option (Int32 × (St))) (r : Int32 × (St)) : Prop := ∀ (x0 : Int32) (x2 : Int32) (x3 : Int32) (x4 : Int32) (s0 : St) (H : Heap) (locs : List Loc) (ls : Array Slot), g x0 x2 x3 x4 s0 = some r → va_P (dC, dI) vwCl (dw_BY a ac s0) H → va_D A (dw_BY a ac s0) → va_S A s.heap H locs → lv_has ls 6 [(0, .int x0), (1, .ref (a 0)), (2, .int x2), (3, .int x3), (4, .int x4)] → W p l e (headSpec ow_dm_X7_isNamed ({ frames := 4, cells := 0, slots := 0, locals := 85 })).room s m args below meth c H locs 0 0 Q (F0 m 3 ls [])
def dj_X7_isNamed_0 (p : Program) (l : Launch) (e : Env) (s : State) (m : MethodId) (args : Array Value) (below : List Frame) (meth : Method) (c : Code) (Q : State → Prop) (A : Nat → Prop) (dC : Nat → ClassId) (dI : Nat → Nat → Nat) (a : Nat → Nat) (ac : Nat → ClassId) (g : Int32 → Int32 → Int32 → (St) → Option (Int32 × (St))) (r : Int32 × (St)) : Prop := ∀ (v0 : Int32) (v2 : Int32) (v3 : Int32) (s0 : St) (H : Heap) (locs : List Loc) (ls : Array Slot), g v0 v2 v3 s0 = some r → va_P (dC, dI) vwCl (dw_BY a ac s0) H → va_D A (dw_BY a ac s0) → va_S A s.heap H locs → lv_has ls 6 [(0, .int v0), (1, .ref (a 0)), (2, .int v2), (3, .int v3)] → W p l e (headSpec ow_dm_X7_isNamed ({ frames := 4, cells := 0, slots := 0, locals := 85 })).room s m args below meth c H locs 0 0 Q (F0 m 0 ls [])
set_option maxHeartbeats 40000000 in
set_option maxRecDepth 100000 in
theorem db_X7_isNamed_44 {p : Program} {l : Launch} {e : Env} {s : State} {m : MethodId} {args : Array Value} {below : List Frame} {meth : Method} {c : Code} {Q : State → Prop} {A : Nat → Prop} {dC : Nat → ClassId} {dI : Nat → Nat → Nat} {a : Nat → Nat} {ac : Nat → ClassId} {n : Nat} {r : Int32 × (St)} (C : nd_C p l s m args c A (dC, dI) cX7_isNamed 6 RX7 ow_dm_X7_isNamed (dk_BY ac)) (K : nd_Ki p l e (headSpec ow_dm_X7_isNamed ({ frames := 4, cells := 0, slots := 0, locals := 85 })).room s m args below meth c Q A (dC, dI) cX7_isNamed .boolean (St) (dw_BY a ac) r) {g3 : Int32 → Int32 → Int32 → Int32 → (St) → Option (Int32 × (St))} (J3 : dj_X7_isNamed_3 p l e s m args below meth c Q A dC dI a ac g3 r) : dj_X7_isNamed_44 p l e s m args below meth c Q A dC dI a ac (df_X7_isNamed_44 n g3) r := by
  obtain ⟨hlt, hx, hb, hml, hown, hts, hN, hA, hK⟩ := id C
  intro x0 x2 x3 x4 y0 y1 s0 H locs ls h hP hD hS hl
  unfold df_X7_isNamed_44 at h
  refine lv_icmp_eq (tgt := 49) hx hb dX7_isNamed_44 (by decide) (fun c7 => ?_) (fun c7 => ?_)
  · have h := nd_pos h c7
    obtain ⟨z8, ez8, h⟩ := nd_let_e h
    refine lv_iinc (v := z8) (lv' := [(4, .int z8), (0, .int x0), (1, .ref (a 0)), (2, .int x2), (3, .int x3)]) hx hb dX7_isNamed_49 hl (k := 4) rfl (by rw [ez8]) (by decide) rfl (fun ls hl => ?_)
    refine lv_goto (tgt := 3) hx hb dX7_isNamed_52 (by decide) ?_
    exact (J3) (x0) (x2) (x3) (z8) s0 _ _ _ h hP hD hS (lv_sub hl [1, 2, 3, 4, 0] rfl)
  · have h := nd_neg h c7
    refine lv_iconst (v := 0) hx hb dX7_isNamed_47 (by decide) ?_
    exact K _ _ _ _ _ _ dX7_isNamed_48 (by first | rfl | decide) (Option.some.inj h).symm hP hD hS
set_option maxHeartbeats 40000000 in
set_option maxRecDepth 100000 in
theorem dB_X7_isNamed_3 {p : Program} {l : Launch} {e : Env} {s : State} {m : MethodId} {args : Array Value} {below : List Frame} {meth : Method} {c : Code} {Q : State → Prop} {A : Nat → Prop} {dC : Nat → ClassId} {dI : Nat → Nat → Nat} {a : Nat → Nat} {ac : Nat → ClassId} {n : Nat} {r : Int32 × (St)} (C : nd_C p l s m args c A (dC, dI) cX7_isNamed 6 RX7 ow_dm_X7_isNamed (dk_BY ac)) (K : nd_Ki p l e (headSpec ow_dm_X7_isNamed ({ frames := 4, cells := 0, slots := 0, locals := 85 })).room s m args below meth c Q A (dC, dI) cX7_isNamed .boolean (St) (dw_BY a ac) r) {g3 : Int32 → Int32 → Int32 → Int32 → (St) → Option (Int32 × (St))} (J3 : dj_X7_isNamed_3 p l e s m args below meth c Q A dC dI a ac g3 r) : dj_X7_isNamed_3 p l e s m args below meth c Q A dC dI a ac (dF_X7_isNamed_3 n g3) r := by
  obtain ⟨hlt, hx, hb, hml, hown, hts, hN, hA, hK⟩ := id C
  intro x0 x2 x3 x4 s0 H locs ls h hP hD hS hl
  unfold dF_X7_isNamed_3 at h
  refine lv_iload hx hb dX7_isNamed_3 (lv_at hl 4 rfl) ?_
  refine lv_iconst (v := 3) hx hb dX7_isNamed_5 (by decide) ?_
  refine lv_icmp_ge (tgt := 55) hx hb dX7_isNamed_6 (by decide) (fun c1 => ?_) (fun c1 => ?_)
  · have h := nd_pos h c1
    refine lv_iconst (v := 1) hx hb dX7_isNamed_55 (by decide) ?_
    exact K _ _ _ _ _ _ dX7_isNamed_56 (by first | rfl | decide) (Option.some.inj h).symm hP hD hS
  · have h := nd_neg h c1
    have z2 : vk_R RX7 461 "ra sp gp tp t0 t1 t2 s0 s1 a0 a1 a2 a3 a4 a5 a6 a7 s2 s3 s4 s5 s6 s7 s8 s9 s10s11t3 t4 t5 t6 " (dI 1000 11) s := hN.2.2.2.2.2.2.2.2.2.2.2.2.1 11 (by decide)
    refine nv_ldcw hx hb hown z2 dX7_isNamed_9 ?_
    refine lv_iload_n hx hb dX7_isNamed_12 rfl (lv_at hl 0 rfl) ?_
    refine lv_iconst (v := 1) hx hb dX7_isNamed_13 (by decide) ?_
    refine lv_isub hx hb dX7_isNamed_14 ?_
    refine lv_iconst (v := 3) hx hb dX7_isNamed_15 (by decide) ?_
    refine lv_imul hx hb dX7_isNamed_16 ?_
    refine lv_iload hx hb dX7_isNamed_17 (lv_at hl 4 rfl) ?_
    refine lv_iadd hx hb dX7_isNamed_19 ?_
    obtain ⟨q3, s4, hq, h⟩ := nd_b2_e h
    have hPc : va_P (dC, dI) vwCl (dw_P a ac ()) H := nd_p0
    have hDc : va_D A (dw_P a ac ()) := nd_d0
    have hKc : va_K (dC, dI) vwCl (dk_P ac) s := nd_y0 hK
    have hFc : ∀ q, va_A (dw_P a ac ()) H.size q → A q := nd_r0 hS hA
    refine nd_cVi (As := [.int (((x0 - 1) * 3) + x4)]) (rest := []) (q := q3) (w' := dw_P a ac s4) ⟨hx, hb, hml, hown, hts⟩ (fun sz => dm_J0_charAt_5068e l hlt dC dI a ac n (11) ((((x0 - 1) * 3) + x4)) () hq sz) (cwV 1 hts gi_dm_X7_isNamed_0 rfl rfl rfl (by decide +kernel) ⟨Nat.le_of_ble_eq_true rfl, Nat.le_of_ble_eq_true rfl⟩) hPc hDc hKc hS hA hN (nv_rcv hN.2.2.2.2.2.2.2.2.2.2.2 (by decide) hS) rfl hl.1 rfl (Nat.le_of_ble_eq_true rfl) dX7_isNamed_20 (fun H locs hP1 hD1 hk1 hS => ?_)
    have hP := nd_n0 hP hk1
    refine lv_istore (lv' := [(5, .int q3), (0, .int x0), (1, .ref (a 0)), (2, .int x2), (3, .int x3), (4, .int x4)]) hx hb dX7_isNamed_23 hl (by decide) rfl (fun ls hl => ?_)
    refine lv_iload hx hb dX7_isNamed_25 (lv_at hl 0 rfl) ?_
    refine lv_iload hx hb dX7_isNamed_27 (lv_at hl 5 rfl) ?_
    refine lv_iload_n hx hb dX7_isNamed_29 rfl (lv_at hl 4 rfl) ?_
    refine lv_icmp_ge (tgt := 42) hx hb dX7_isNamed_30 (by decide) (fun c6 => ?_) (fun c6 => ?_)
    · have h := nd_pos h c6
      refine lv_bipush (v := 32) hx hb dX7_isNamed_42 (by decide) ?_
      exact (db_X7_isNamed_44 C K J3) (x0) (x2) (x3) (x4) (q3) (32) s0 _ _ _ h hP hD hS (lv_sub hl [1, 2, 3, 4, 5] rfl)
    · have h := nd_neg h c6
      refine lv_aload_n hx hb dX7_isNamed_33 rfl (lv_at hl 2 rfl) ?_
      refine lv_iload_n hx hb dX7_isNamed_34 rfl (lv_at hl 3 rfl) ?_
      refine lv_iload hx hb dX7_isNamed_35 (lv_at hl 5 rfl) ?_
      refine lv_iadd hx hb dX7_isNamed_37 ?_
      obtain ⟨i9, h⟩ := nd_ck_e h
      refine va_bald (i := (x2 + x4)) hx hb hK hP 0 0 rfl rfl i9 dX7_isNamed_38 ?_
      refine lv_goto (tgt := 44) hx hb dX7_isNamed_39 (by decide) ?_
      exact (db_X7_isNamed_44 C K J3) (x0) (x2) (x3) (x4) (q3) ((sR s0 0 (Int32.toNatClampNeg (x2 + x4)))) s0 _ _ _ h hP hD hS (lv_sub hl [1, 2, 3, 4, 5] rfl)
set_option maxHeartbeats 40000000 in
set_option maxRecDepth 100000 in
theorem db_X7_isNamed_3 {p : Program} {l : Launch} {e : Env} {s : State} {m : MethodId} {args : Array Value} {below : List Frame} {meth : Method} {c : Code} {Q : State → Prop} {A : Nat → Prop} {dC : Nat → ClassId} {dI : Nat → Nat → Nat} {a : Nat → Nat} {ac : Nat → ClassId} {n : Nat} {r : Int32 × (St)} (C : nd_C p l s m args c A (dC, dI) cX7_isNamed 6 RX7 ow_dm_X7_isNamed (dk_BY ac)) (K : nd_Ki p l e (headSpec ow_dm_X7_isNamed ({ frames := 4, cells := 0, slots := 0, locals := 85 })).room s m args below meth c Q A (dC, dI) cX7_isNamed .boolean (St) (dw_BY a ac) r) (k : Nat) : dj_X7_isNamed_3 p l e s m args below meth c Q A dC dI a ac (df_X7_isNamed_3 n k) r := by
  induction k with
  | zero => intro x0 x2 x3 x4 s0 H locs ls h; exact nomatch (show (none : Option (Int32 × (St))) = some r from h)
  | succ k ih => exact dB_X7_isNamed_3 C K ih
set_option maxHeartbeats 40000000 in
set_option maxRecDepth 100000 in
theorem db_X7_isNamed_0 {p : Program} {l : Launch} {e : Env} {s : State} {m : MethodId} {args : Array Value} {below : List Frame} {meth : Method} {c : Code} {Q : State → Prop} {A : Nat → Prop} {dC : Nat → ClassId} {dI : Nat → Nat → Nat} {a : Nat → Nat} {ac : Nat → ClassId} {n : Nat} {r : Int32 × (St)} (C : nd_C p l s m args c A (dC, dI) cX7_isNamed 6 RX7 ow_dm_X7_isNamed (dk_BY ac)) (K : nd_Ki p l e (headSpec ow_dm_X7_isNamed ({ frames := 4, cells := 0, slots := 0, locals := 85 })).room s m args below meth c Q A (dC, dI) cX7_isNamed .boolean (St) (dw_BY a ac) r) : dj_X7_isNamed_0 p l e s m args below meth c Q A dC dI a ac (df_X7_isNamed_0 n) r := by
  obtain ⟨hlt, hx, hb, hml, hown, hts, hN, hA, hK⟩ := id C
  intro v0 v2 v3 s0 H locs ls h hP hD hS hl
  unfold df_X7_isNamed_0 at h
  refine lv_iconst (v := 0) hx hb dX7_isNamed_0 (by decide) ?_
  refine lv_istore (lv' := [(4, .int 0), (0, .int v0), (1, .ref (a 0)), (2, .int v2), (3, .int v3)]) hx hb dX7_isNamed_1 hl (by decide) rfl (fun ls hl => ?_)
  exact (db_X7_isNamed_3 C K n) (v0) (v2) (v3) (0) s0 _ _ _ h hP hD hS (lv_sub hl [1, 2, 3, 4, 0] rfl)
set_option maxHeartbeats 40000000 in
set_option maxRecDepth 100000 in
theorem dm_X7_isNamed (l : Launch) (hlt : l.stackTraces = false) (dC : Nat → ClassId) (dI : Nat → Nat → Nat) (a : Nat → Nat) (ac : Nat → ClassId) (n : Nat) (v0 : Int32) (v2 : Int32) (v3 : Int32) (s0 : St) {r : Int32 × (St)} (h : df_X7_isNamed n v0 v2 v3 s0 = some r) (sz : Nat) : Met l yX7_isNamed ow_dm_X7_isNamed ({ frames := 4, cells := 0, slots := 0, locals := 85 }) (va_Pc [.int v0, .ref (a 0), .int v2, .int v3] (fun U => U.heap.size = sz ∧ va_P (dC, dI) vwCl (dw_BY a ac s0) U.heap ∧ va_K (dC, dI) vwCl (dk_BY ac) U ∧ va_D (fun _ => True) (dw_BY a ac s0) ∧ nv_E dI (va_A (dw_BY a ac s0) sz) U)) (va_Qi (fun x _ => x = r.1) (fun (_ : Unit) t => va_P (dC, dI) vwCl (dw_BY a ac r.2) t.heap ∧ va_K (dC, dI) vwCl (dk_BY ac) t ∧ va_D (va_A (dw_BY a ac s0) sz) (dw_BY a ac r.2)) (va_A (dw_BY a ac s0) sz)) 0 0 (va_A (dw_BY a ac s0) sz) := by
  refine Met.ofW (cc := cX7_isNamed) (maxL := 6) (ret := (some .boolean)) (by decide) rfl ?_
  intro p e s m args below meth c s₁ B hml hv
  obtain ⟨rfl, hsz, hP, hK, hD0, hN⟩ := hv
  have hx := B.exec
  have hb := B.bytes
  have hr := B.returns
  have hts := atoms_spec (ws := ow_dm_X7_isNamed) B.pre
  have hown : s.vm.findClass RX7 = some m.cls := findClass_of_methodNamed B.named
  have hlocks := B.notSynchronized
  subst hsz
  have hD := hD0.self (sz := s.heap.size)
  generalize hAe : va_A (dw_BY a ac s0) s.heap.size = A at hD hN ⊢
  have hA : ∀ q : Nat, s.heap.size ≤ q → A q := fun q h => by rw [← hAe]; exact Or.inr h
  have hl := lv_entry ([.int v0, .ref (a 0), .int v2, .int v3]) (n := 6) (Nat.le_of_ble_eq_true rfl)
  rw [lg_entry_eq]
  generalize (lg_sl ([.int v0, .ref (a 0), .int v2, .int v3]) ++ List.replicate (6 - (lg_sl ([.int v0, .ref (a 0), .int v2, .int v3])).length) Slot.unset).toArray = ls at hl ⊢
  have hl : lv_has ls 6 [(0, .int v0), (1, .ref (a 0)), (2, .int v2), (3, .int v3)] := hl
  exact db_X7_isNamed_0 (dC := dC) (dI := dI) (a := a) (ac := ac) (n := n) (r := r) ⟨hlt, hx, hb, hml, hown, hts, hN, hA, hK⟩ (fun pc v τ H locs ls d z er hP hD hS => by subst er; exact W.zret (v := v) hx hb hr z (fun t ht hW => ⟨⟨v, (), rfl, rfl, by rw [ht]; exact hP, va_K.moved hW.alike hK, hD⟩, hS.F ht⟩) hS.2.2 d) v0 v2 v3 s0 _ _ _ h hP hD va_S.rf (lv_sub hl [0, 1, 2, 3] rfl)
def ow_dm_X7_numbered : List Cond := Cond.code yX7_numbered cX7_numbered 6 (some .int) :: ([] ++ [])
theorem gd_dm_X7_numbered : ∀ w ∈ ow_dm_X7_numbered, (w.onTables && w.keeps) = true ∨ ∃ ty, w = Cond.arrayClass ty := List.forall_mem_cons.mpr ⟨good_of_word rfl, List.forall_mem_append.mpr ⟨fun w h => good_of_word (List.all_eq_true.mp (by decide +kernel) w h), fun _ h => nomatch h⟩⟩
def dj_X7_numbered_72 (p : Program) (l : Launch) (e : Env) (s : State) (m : MethodId) (args : Array Value) (below : List Frame) (meth : Method) (c : Code) (Q : State → Prop) (A : Nat → Prop) (dC : Nat → ClassId) (dI : Nat → Nat → Nat) (a : Nat → Nat) (ac : Nat → ClassId) (g : Int32 → (St) → Option (Int32 × (St))) (r : Int32 × (St)) : Prop := ∀ (y0 : Int32) (s0 : St) (H : Heap) (locs : List Loc) (ls : Array Slot), g y0 s0 = some r → va_P (dC, dI) vwCl (dw_BY a ac s0) H → va_D A (dw_BY a ac s0) → va_S A s.heap H locs → lv_has ls 6 [] → W p l e (headSpec ow_dm_X7_numbered ({ frames := 0, cells := 0, slots := 0, locals := 0 })).room s m args below meth c H locs 0 0 Q (F0 m 72 ls [.int y0])
def dj_X7_numbered_67 (p : Program) (l : Launch) (e : Env) (s : State) (m : MethodId) (args : Array Value) (below : List Frame) (meth : Method) (c : Code) (Q : State → Prop) (A : Nat → Prop) (dC : Nat → ClassId) (dI : Nat → Nat → Nat) (a : Nat → Nat) (ac : Nat → ClassId) (g : (St) → Option (Int32 × (St))) (r : Int32 × (St)) : Prop := ∀ (s0 : St) (H : Heap) (locs : List Loc) (ls : Array Slot), g s0 = some r → va_P (dC, dI) vwCl (dw_BY a ac s0) H → va_D A (dw_BY a ac s0) → va_S A s.heap H locs → lv_has ls 6 [] → W p l e (headSpec ow_dm_X7_numbered ({ frames := 0, cells := 0, slots := 0, locals := 0 })).room s m args below meth c H locs 0 0 Q (F0 m 67 ls [])
def dj_X7_numbered_71 (p : Program) (l : Launch) (e : Env) (s : State) (m : MethodId) (args : Array Value) (below : List Frame) (meth : Method) (c : Code) (Q : State → Prop) (A : Nat → Prop) (dC : Nat → ClassId) (dI : Nat → Nat → Nat) (a : Nat → Nat) (ac : Nat → ClassId) (g : Int32 → (St) → Option (Int32 × (St))) (r : Int32 × (St)) : Prop := ∀ (x3 : Int32) (s0 : St) (H : Heap) (locs : List Loc) (ls : Array Slot), g x3 s0 = some r → va_P (dC, dI) vwCl (dw_BY a ac s0) H → va_D A (dw_BY a ac s0) → va_S A s.heap H locs → lv_has ls 6 [(3, .int x3)] → W p l e (headSpec ow_dm_X7_numbered ({ frames := 0, cells := 0, slots := 0, locals := 0 })).room s m args below meth c H locs 0 0 Q (F0 m 71 ls [])
def dj_X7_numbered_34 (p : Program) (l : Launch) (e : Env) (s : State) (m : MethodId) (args : Array Value) (below : List Frame) (meth : Method) (c : Code) (Q : State → Prop) (A : Nat → Prop) (dC : Nat → ClassId) (dI : Nat → Nat → Nat) (a : Nat → Nat) (ac : Nat → ClassId) (g : (St) → Option (Int32 × (St))) (r : Int32 × (St)) : Prop := ∀ (s0 : St) (H : Heap) (locs : List Loc) (ls : Array Slot), g s0 = some r → va_P (dC, dI) vwCl (dw_BY a ac s0) H → va_D A (dw_BY a ac s0) → va_S A s.heap H locs → lv_has ls 6 [] → W p l e (headSpec ow_dm_X7_numbered ({ frames := 0, cells := 0, slots := 0, locals := 0 })).room s m args below meth c H locs 0 0 Q (F0 m 34 ls [])
def dj_X7_numbered_5 (p : Program) (l : Launch) (e : Env) (s : State) (m : MethodId) (args : Array Value) (below : List Frame) (meth : Method) (c : Code) (Q : State → Prop) (A : Nat → Prop) (dC : Nat → ClassId) (dI : Nat → Nat → Nat) (a : Nat → Nat) (ac : Nat → ClassId) (g : Int32 → Int32 → Int32 → Int32 → (St) → Option (Int32 × (St))) (r : Int32 × (St)) : Prop := ∀ (x1 : Int32) (x2 : Int32) (x3 : Int32) (x4 : Int32) (s0 : St) (H : Heap) (locs : List Loc) (ls : Array Slot), g x1 x2 x3 x4 s0 = some r → va_P (dC, dI) vwCl (dw_BY a ac s0) H → va_D A (dw_BY a ac s0) → va_S A s.heap H locs → lv_has ls 6 [(0, .ref (a 0)), (1, .int x1), (2, .int x2), (3, .int x3), (4, .int x4)] → W p l e (headSpec ow_dm_X7_numbered ({ frames := 0, cells := 0, slots := 0, locals := 0 })).room s m args below meth c H locs 0 0 Q (F0 m 5 ls [])
def dj_X7_numbered_0 (p : Program) (l : Launch) (e : Env) (s : State) (m : MethodId) (args : Array Value) (below : List Frame) (meth : Method) (c : Code) (Q : State → Prop) (A : Nat → Prop) (dC : Nat → ClassId) (dI : Nat → Nat → Nat) (a : Nat → Nat) (ac : Nat → ClassId) (g : Int32 → Int32 → (St) → Option (Int32 × (St))) (r : Int32 × (St)) : Prop := ∀ (v1 : Int32) (v2 : Int32) (s0 : St) (H : Heap) (locs : List Loc) (ls : Array Slot), g v1 v2 s0 = some r → va_P (dC, dI) vwCl (dw_BY a ac s0) H → va_D A (dw_BY a ac s0) → va_S A s.heap H locs → lv_has ls 6 [(0, .ref (a 0)), (1, .int v1), (2, .int v2)] → W p l e (headSpec ow_dm_X7_numbered ({ frames := 0, cells := 0, slots := 0, locals := 0 })).room s m args below meth c H locs 0 0 Q (F0 m 0 ls [])
set_option maxHeartbeats 40000000 in
set_option maxRecDepth 100000 in
theorem db_X7_numbered_72 {p : Program} {l : Launch} {e : Env} {s : State} {m : MethodId} {args : Array Value} {below : List Frame} {meth : Method} {c : Code} {Q : State → Prop} {A : Nat → Prop} {dC : Nat → ClassId} {dI : Nat → Nat → Nat} {a : Nat → Nat} {ac : Nat → ClassId} {n : Nat} {r : Int32 × (St)} (C : nd_C p l s m args c A (dC, dI) cX7_numbered 6 RX7 ow_dm_X7_numbered (dk_BY ac)) (K : nd_Ki p l e (headSpec ow_dm_X7_numbered ({ frames := 0, cells := 0, slots := 0, locals := 0 })).room s m args below meth c Q A (dC, dI) cX7_numbered .int (St) (dw_BY a ac) r) : dj_X7_numbered_72 p l e s m args below meth c Q A dC dI a ac (df_X7_numbered_72 n) r := by
  obtain ⟨hlt, hx, hb, hml, hown, hts, hN, hA, hK⟩ := id C
  intro y0 s0 H locs ls h hP hD hS hl
  unfold df_X7_numbered_72 at h
  exact K _ _ _ _ _ _ dX7_numbered_72 rfl (Option.some.inj h).symm hP hD hS
set_option maxHeartbeats 40000000 in
set_option maxRecDepth 100000 in
theorem db_X7_numbered_67 {p : Program} {l : Launch} {e : Env} {s : State} {m : MethodId} {args : Array Value} {below : List Frame} {meth : Method} {c : Code} {Q : State → Prop} {A : Nat → Prop} {dC : Nat → ClassId} {dI : Nat → Nat → Nat} {a : Nat → Nat} {ac : Nat → ClassId} {n : Nat} {r : Int32 × (St)} (C : nd_C p l s m args c A (dC, dI) cX7_numbered 6 RX7 ow_dm_X7_numbered (dk_BY ac)) (K : nd_Ki p l e (headSpec ow_dm_X7_numbered ({ frames := 0, cells := 0, slots := 0, locals := 0 })).room s m args below meth c Q A (dC, dI) cX7_numbered .int (St) (dw_BY a ac) r) : dj_X7_numbered_67 p l e s m args below meth c Q A dC dI a ac (df_X7_numbered_67 n) r := by
  obtain ⟨hlt, hx, hb, hml, hown, hts, hN, hA, hK⟩ := id C
  intro s0 H locs ls h hP hD hS hl
  unfold df_X7_numbered_67 at h
  refine lv_iconst (v := (-1)) hx hb dX7_numbered_67 (by decide) ?_
  refine lv_goto (tgt := 72) hx hb dX7_numbered_68 (by decide) ?_
  exact (db_X7_numbered_72 C K) ((-1)) s0 _ _ _ h hP hD hS (lv_sub hl [] rfl)
set_option maxHeartbeats 40000000 in
set_option maxRecDepth 100000 in
theorem db_X7_numbered_71 {p : Program} {l : Launch} {e : Env} {s : State} {m : MethodId} {args : Array Value} {below : List Frame} {meth : Method} {c : Code} {Q : State → Prop} {A : Nat → Prop} {dC : Nat → ClassId} {dI : Nat → Nat → Nat} {a : Nat → Nat} {ac : Nat → ClassId} {n : Nat} {r : Int32 × (St)} (C : nd_C p l s m args c A (dC, dI) cX7_numbered 6 RX7 ow_dm_X7_numbered (dk_BY ac)) (K : nd_Ki p l e (headSpec ow_dm_X7_numbered ({ frames := 0, cells := 0, slots := 0, locals := 0 })).room s m args below meth c Q A (dC, dI) cX7_numbered .int (St) (dw_BY a ac) r) : dj_X7_numbered_71 p l e s m args below meth c Q A dC dI a ac (df_X7_numbered_71 n) r := by
  obtain ⟨hlt, hx, hb, hml, hown, hts, hN, hA, hK⟩ := id C
  intro x3 s0 H locs ls h hP hD hS hl
  unfold df_X7_numbered_71 at h
  refine lv_iload_n hx hb dX7_numbered_71 rfl (lv_at hl 0 rfl) ?_
  exact (db_X7_numbered_72 C K) (x3) s0 _ _ _ h hP hD hS (lv_sub hl [] rfl)
set_option maxHeartbeats 40000000 in
set_option maxRecDepth 100000 in
theorem db_X7_numbered_34 {p : Program} {l : Launch} {e : Env} {s : State} {m : MethodId} {args : Array Value} {below : List Frame} {meth : Method} {c : Code} {Q : State → Prop} {A : Nat → Prop} {dC : Nat → ClassId} {dI : Nat → Nat → Nat} {a : Nat → Nat} {ac : Nat → ClassId} {n : Nat} {r : Int32 × (St)} (C : nd_C p l s m args c A (dC, dI) cX7_numbered 6 RX7 ow_dm_X7_numbered (dk_BY ac)) (K : nd_Ki p l e (headSpec ow_dm_X7_numbered ({ frames := 0, cells := 0, slots := 0, locals := 0 })).room s m args below meth c Q A (dC, dI) cX7_numbered .int (St) (dw_BY a ac) r) : dj_X7_numbered_34 p l e s m args below meth c Q A dC dI a ac (df_X7_numbered_34 n) r := by
  obtain ⟨hlt, hx, hb, hml, hown, hts, hN, hA, hK⟩ := id C
  intro s0 H locs ls h hP hD hS hl
  unfold df_X7_numbered_34 at h
  refine lv_iconst (v := (-1)) hx hb dX7_numbered_34 (by decide) ?_
  exact K _ _ _ _ _ _ dX7_numbered_35 rfl (Option.some.inj h).symm hP hD hS
set_option maxHeartbeats 40000000 in
set_option maxRecDepth 100000 in
theorem dB_X7_numbered_5 {p : Program} {l : Launch} {e : Env} {s : State} {m : MethodId} {args : Array Value} {below : List Frame} {meth : Method} {c : Code} {Q : State → Prop} {A : Nat → Prop} {dC : Nat → ClassId} {dI : Nat → Nat → Nat} {a : Nat → Nat} {ac : Nat → ClassId} {n : Nat} {r : Int32 × (St)} (C : nd_C p l s m args c A (dC, dI) cX7_numbered 6 RX7 ow_dm_X7_numbered (dk_BY ac)) (K : nd_Ki p l e (headSpec ow_dm_X7_numbered ({ frames := 0, cells := 0, slots := 0, locals := 0 })).room s m args below meth c Q A (dC, dI) cX7_numbered .int (St) (dw_BY a ac) r) {g5 : Int32 → Int32 → Int32 → Int32 → (St) → Option (Int32 × (St))} (J5 : dj_X7_numbered_5 p l e s m args below meth c Q A dC dI a ac g5 r) : dj_X7_numbered_5 p l e s m args below meth c Q A dC dI a ac (dF_X7_numbered_5 n g5) r := by
  obtain ⟨hlt, hx, hb, hml, hown, hts, hN, hA, hK⟩ := id C
  intro x1 x2 x3 x4 s0 H locs ls h hP hD hS hl
  unfold dF_X7_numbered_5 at h
  refine lv_iload hx hb dX7_numbered_5 (lv_at hl 4 rfl) ?_
  refine lv_iload_n hx hb dX7_numbered_7 rfl (lv_at hl 2 rfl) ?_
  refine lv_icmp_ge (tgt := 50) hx hb dX7_numbered_8 (by decide) (fun c1 => ?_) (fun c1 => ?_)
  · have h := nd_pos h c1
    refine lv_iload_n hx hb dX7_numbered_50 rfl (lv_at hl 3 rfl) ?_
    refine lv_bipush (v := 31) hx hb dX7_numbered_51 (by decide) ?_
    refine lv_icmp_gt (tgt := 67) hx hb dX7_numbered_53 (by decide) (fun c2 => ?_) (fun c2 => ?_)
    · have h := nd_pos h c2
      exact (db_X7_numbered_67 C K)  s0 _ _ _ h hP hD hS (lv_sub hl [] rfl)
    · have h := nd_neg h c2
      refine lv_iload_n hx hb dX7_numbered_56 rfl (lv_at hl 2 rfl) ?_
      refine lv_iconst (v := 2) hx hb dX7_numbered_57 (by decide) ?_
      refine lv_icmp_ne (tgt := 71) hx hb dX7_numbered_58 (by decide) (fun c3 => ?_) (fun c3 => ?_)
      · have h := nd_neg h c3
        exact (db_X7_numbered_71 C K) (x3) s0 _ _ _ h hP hD hS (lv_sub hl [3] rfl)
      · have h := nd_pos h c3
        refine lv_iload_n hx hb dX7_numbered_61 rfl (lv_at hl 3 rfl) ?_
        refine lv_bipush (v := 10) hx hb dX7_numbered_62 (by decide) ?_
        refine lv_icmp_ge (tgt := 71) hx hb dX7_numbered_64 (by decide) (fun c4 => ?_) (fun c4 => ?_)
        · have h := nd_pos h c4
          exact (db_X7_numbered_71 C K) (x3) s0 _ _ _ h hP hD hS (lv_sub hl [3] rfl)
        · have h := nd_neg h c4
          exact (db_X7_numbered_67 C K)  s0 _ _ _ h hP hD hS (lv_sub hl [] rfl)
  · have h := nd_neg h c1
    refine lv_aload_n hx hb dX7_numbered_11 rfl (lv_at hl 0 rfl) ?_
    refine lv_iload_n hx hb dX7_numbered_12 rfl (lv_at hl 1 rfl) ?_
    refine lv_iload hx hb dX7_numbered_13 (lv_at hl 4 rfl) ?_
    refine lv_iadd hx hb dX7_numbered_15 ?_
    obtain ⟨i5, h⟩ := nd_ck_e h
    refine va_bald (i := (x1 + x4)) hx hb hK hP 0 0 rfl rfl i5 dX7_numbered_16 ?_
    refine lv_bipush (v := 48) hx hb dX7_numbered_17 (by decide) ?_
    refine lv_isub hx hb dX7_numbered_19 ?_
    refine lv_topi (fun z6 ez6 => ?_)
    have h := nd_at h ez6
    refine lv_istore (lv' := [(5, .int z6), (0, .ref (a 0)), (1, .int x1), (2, .int x2), (3, .int x3), (4, .int x4)]) hx hb dX7_numbered_20 hl (by decide) rfl (fun ls hl => ?_)
    refine lv_iload hx hb dX7_numbered_22 (lv_at hl 0 rfl) ?_
    refine lv_if_lt (tgt := 34) hx hb dX7_numbered_24 (by decide) (fun c7 => ?_) (fun c7 => ?_)
    · have h := nd_pos h c7
      exact (db_X7_numbered_34 C K)  s0 _ _ _ h hP hD hS (lv_sub hl [] rfl)
    · have h := nd_neg h c7
      refine lv_iload hx hb dX7_numbered_27 (lv_at hl 0 rfl) ?_
      refine lv_bipush (v := 9) hx hb dX7_numbered_29 (by decide) ?_
      refine lv_icmp_le (tgt := 36) hx hb dX7_numbered_31 (by decide) (fun c8 => ?_) (fun c8 => ?_)
      · have h := nd_pos h c8
        refine lv_iload_n hx hb dX7_numbered_36 rfl (lv_at hl 4 rfl) ?_
        refine lv_bipush (v := 10) hx hb dX7_numbered_37 (by decide) ?_
        refine lv_imul hx hb dX7_numbered_39 ?_
        refine lv_iload hx hb dX7_numbered_40 (lv_at hl 0 rfl) ?_
        refine lv_iadd hx hb dX7_numbered_42 ?_
        refine lv_topi (fun z9 ez9 => ?_)
        have h := nd_at h ez9
        refine lv_istore_n (lv' := [(3, .int z9), (5, .int z6), (0, .ref (a 0)), (1, .int x1), (2, .int x2), (4, .int x4)]) hx hb dX7_numbered_43 rfl hl (by decide) rfl (fun ls hl => ?_)
        obtain ⟨z10, ez10, h⟩ := nd_let_e h
        refine lv_iinc (v := z10) (lv' := [(4, .int z10), (3, .int z9), (5, .int z6), (0, .ref (a 0)), (1, .int x1), (2, .int x2)]) hx hb dX7_numbered_44 hl (k := 5) rfl (by rw [ez10]) (by decide) rfl (fun ls hl => ?_)
        refine lv_goto (tgt := 5) hx hb dX7_numbered_47 (by decide) ?_
        exact (J5) (x1) (x2) (z9) (z10) s0 _ _ _ h hP hD hS (lv_sub hl [3, 4, 5, 1, 0] rfl)
      · have h := nd_neg h c8
        exact (db_X7_numbered_34 C K)  s0 _ _ _ h hP hD hS (lv_sub hl [] rfl)
set_option maxHeartbeats 40000000 in
set_option maxRecDepth 100000 in
theorem db_X7_numbered_5 {p : Program} {l : Launch} {e : Env} {s : State} {m : MethodId} {args : Array Value} {below : List Frame} {meth : Method} {c : Code} {Q : State → Prop} {A : Nat → Prop} {dC : Nat → ClassId} {dI : Nat → Nat → Nat} {a : Nat → Nat} {ac : Nat → ClassId} {n : Nat} {r : Int32 × (St)} (C : nd_C p l s m args c A (dC, dI) cX7_numbered 6 RX7 ow_dm_X7_numbered (dk_BY ac)) (K : nd_Ki p l e (headSpec ow_dm_X7_numbered ({ frames := 0, cells := 0, slots := 0, locals := 0 })).room s m args below meth c Q A (dC, dI) cX7_numbered .int (St) (dw_BY a ac) r) (k : Nat) : dj_X7_numbered_5 p l e s m args below meth c Q A dC dI a ac (df_X7_numbered_5 n k) r := by
  induction k with
  | zero => intro x1 x2 x3 x4 s0 H locs ls h; exact nomatch (show (none : Option (Int32 × (St))) = some r from h)
  | succ k ih => exact dB_X7_numbered_5 C K ih
set_option maxHeartbeats 40000000 in
set_option maxRecDepth 100000 in
theorem db_X7_numbered_0 {p : Program} {l : Launch} {e : Env} {s : State} {m : MethodId} {args : Array Value} {below : List Frame} {meth : Method} {c : Code} {Q : State → Prop} {A : Nat → Prop} {dC : Nat → ClassId} {dI : Nat → Nat → Nat} {a : Nat → Nat} {ac : Nat → ClassId} {n : Nat} {r : Int32 × (St)} (C : nd_C p l s m args c A (dC, dI) cX7_numbered 6 RX7 ow_dm_X7_numbered (dk_BY ac)) (K : nd_Ki p l e (headSpec ow_dm_X7_numbered ({ frames := 0, cells := 0, slots := 0, locals := 0 })).room s m args below meth c Q A (dC, dI) cX7_numbered .int (St) (dw_BY a ac) r) : dj_X7_numbered_0 p l e s m args below meth c Q A dC dI a ac (df_X7_numbered_0 n) r := by
  obtain ⟨hlt, hx, hb, hml, hown, hts, hN, hA, hK⟩ := id C
  intro v1 v2 s0 H locs ls h hP hD hS hl
  unfold df_X7_numbered_0 at h
  refine lv_iconst (v := 0) hx hb dX7_numbered_0 (by decide) ?_
  refine lv_istore_n (lv' := [(3, .int 0), (0, .ref (a 0)), (1, .int v1), (2, .int v2)]) hx hb dX7_numbered_1 rfl hl (by decide) rfl (fun ls hl => ?_)
  refine lv_iconst (v := 0) hx hb dX7_numbered_2 (by decide) ?_
  refine lv_istore (lv' := [(4, .int 0), (3, .int 0), (0, .ref (a 0)), (1, .int v1), (2, .int v2)]) hx hb dX7_numbered_3 hl (by decide) rfl (fun ls hl => ?_)
  exact (db_X7_numbered_5 C K n) (v1) (v2) (0) (0) s0 _ _ _ h hP hD hS (lv_sub hl [2, 3, 4, 1, 0] rfl)
set_option maxHeartbeats 40000000 in
set_option maxRecDepth 100000 in
theorem dm_X7_numbered (l : Launch) (hlt : l.stackTraces = false) (dC : Nat → ClassId) (dI : Nat → Nat → Nat) (a : Nat → Nat) (ac : Nat → ClassId) (n : Nat) (v1 : Int32) (v2 : Int32) (s0 : St) {r : Int32 × (St)} (h : df_X7_numbered n v1 v2 s0 = some r) (sz : Nat) : Met l yX7_numbered ow_dm_X7_numbered ({ frames := 0, cells := 0, slots := 0, locals := 0 }) (va_Pc [.ref (a 0), .int v1, .int v2] (fun U => U.heap.size = sz ∧ va_P (dC, dI) vwCl (dw_BY a ac s0) U.heap ∧ va_K (dC, dI) vwCl (dk_BY ac) U ∧ va_D (fun _ => True) (dw_BY a ac s0) ∧ nv_E dI (va_A (dw_BY a ac s0) sz) U)) (va_Qi (fun x _ => x = r.1) (fun (_ : Unit) t => va_P (dC, dI) vwCl (dw_BY a ac r.2) t.heap ∧ va_K (dC, dI) vwCl (dk_BY ac) t ∧ va_D (va_A (dw_BY a ac s0) sz) (dw_BY a ac r.2)) (va_A (dw_BY a ac s0) sz)) 0 0 (va_A (dw_BY a ac s0) sz) := by
  refine Met.ofW (cc := cX7_numbered) (maxL := 6) (ret := (some .int)) (by decide) rfl ?_
  intro p e s m args below meth c s₁ B hml hv
  obtain ⟨rfl, hsz, hP, hK, hD0, hN⟩ := hv
  have hx := B.exec
  have hb := B.bytes
  have hr := B.returns
  have hts := atoms_spec (ws := ow_dm_X7_numbered) B.pre
  have hown : s.vm.findClass RX7 = some m.cls := findClass_of_methodNamed B.named
  have hlocks := B.notSynchronized
  subst hsz
  have hD := hD0.self (sz := s.heap.size)
  generalize hAe : va_A (dw_BY a ac s0) s.heap.size = A at hD hN ⊢
  have hA : ∀ q : Nat, s.heap.size ≤ q → A q := fun q h => by rw [← hAe]; exact Or.inr h
  have hl := lv_entry ([.ref (a 0), .int v1, .int v2]) (n := 6) (Nat.le_of_ble_eq_true rfl)
  rw [lg_entry_eq]
  generalize (lg_sl ([.ref (a 0), .int v1, .int v2]) ++ List.replicate (6 - (lg_sl ([.ref (a 0), .int v1, .int v2])).length) Slot.unset).toArray = ls at hl ⊢
  have hl : lv_has ls 6 [(0, .ref (a 0)), (1, .int v1), (2, .int v2)] := hl
  exact db_X7_numbered_0 (dC := dC) (dI := dI) (a := a) (ac := ac) (n := n) (r := r) ⟨hlt, hx, hb, hml, hown, hts, hN, hA, hK⟩ (fun pc v τ H locs ls d z er hP hD hS => by subst er; exact W.zret (v := v) hx hb hr z (fun t ht hW => ⟨⟨v, (), rfl, rfl, by rw [ht]; exact hP, va_K.moved hW.alike hK, hD⟩, hS.F ht⟩) hS.2.2 d) v1 v2 s0 _ _ _ h hP hD va_S.rf (lv_sub hl [0, 1, 2] rfl)
def ow_dm_X7_registerAt : List Cond := Cond.code yX7_registerAt cX7_registerAt 4 (some .int) :: ([Cond.methodLink RX7 426 yX7_stands, Cond.static yX7_stands, Cond.initialized RX7, Cond.methodLink RX7 457 yX7_isNamed, Cond.static yX7_isNamed, Cond.methodLink RX7 453 yX7_numbered, Cond.static yX7_numbered] ++ (ow_dm_X7_stands ++ (ow_dm_X7_isNamed ++ (ow_dm_X7_numbered ++ []))))
theorem gd_dm_X7_registerAt : ∀ w ∈ ow_dm_X7_registerAt, (w.onTables && w.keeps) = true ∨ ∃ ty, w = Cond.arrayClass ty := List.forall_mem_cons.mpr ⟨good_of_word rfl, List.forall_mem_append.mpr ⟨fun w h => good_of_word (List.all_eq_true.mp (by decide +kernel) w h), List.forall_mem_append.mpr ⟨gd_dm_X7_stands, List.forall_mem_append.mpr ⟨gd_dm_X7_isNamed, List.forall_mem_append.mpr ⟨gd_dm_X7_numbered, fun _ h => nomatch h⟩⟩⟩⟩⟩
theorem gi_dm_X7_registerAt_0 : GoodIn ow_dm_X7_registerAt (wsS RX7 426 yX7_stands ow_dm_X7_stands) := goodIn_app (goodIn_of _ (by decide +kernel)) (fun w h => ⟨List.mem_cons_of_mem _ (List.mem_append_right _ (List.mem_append_left _ h)), gd_dm_X7_stands w h⟩)
theorem gi_dm_X7_registerAt_1 : GoodIn ow_dm_X7_registerAt (wsS RX7 457 yX7_isNamed ow_dm_X7_isNamed) := goodIn_app (goodIn_of _ (by decide +kernel)) (fun w h => ⟨List.mem_cons_of_mem _ (List.mem_append_right _ (List.mem_append_right _ (List.mem_append_left _ h))), gd_dm_X7_isNamed w h⟩)
theorem gi_dm_X7_registerAt_2 : GoodIn ow_dm_X7_registerAt (wsS RX7 453 yX7_numbered ow_dm_X7_numbered) := goodIn_app (goodIn_of _ (by decide +kernel)) (fun w h => ⟨List.mem_cons_of_mem _ (List.mem_append_right _ (List.mem_append_right _ (List.mem_append_right _ (List.mem_append_left _ h)))), gd_dm_X7_numbered w h⟩)
def dj_X7_registerAt_51 (p : Program) (l : Launch) (e : Env) (s : State) (m : MethodId) (args : Array Value) (below : List Frame) (meth : Method) (c : Code) (Q : State → Prop) (A : Nat → Prop) (dC : Nat → ClassId) (dI : Nat → Nat → Nat) (a : Nat → Nat) (ac : Nat → ClassId) (g : (St) → Option (Int32 × (St))) (r : Int32 × (St)) : Prop := ∀ (s0 : St) (H : Heap) (locs : List Loc) (ls : Array Slot), g s0 = some r → va_P (dC, dI) vwCl (dw_BY a ac s0) H → va_D A (dw_BY a ac s0) → va_S A s.heap H locs → lv_has ls 4 [] → W p l e (headSpec ow_dm_X7_registerAt ({ frames := 5, cells := 0, slots := 0, locals := 110 })).room s m args below meth c H locs 0 0 Q (F0 m 51 ls [])
def dj_X7_registerAt_74 (p : Program) (l : Launch) (e : Env) (s : State) (m : MethodId) (args : Array Value) (below : List Frame) (meth : Method) (c : Code) (Q : State → Prop) (A : Nat → Prop) (dC : Nat → ClassId) (dI : Nat → Nat → Nat) (a : Nat → Nat) (ac : Nat → ClassId) (g : Int32 → Int32 → Int32 → (St) → Option (Int32 × (St))) (r : Int32 × (St)) : Prop := ∀ (x1 : Int32) (x2 : Int32) (x3 : Int32) (s0 : St) (H : Heap) (locs : List Loc) (ls : Array Slot), g x1 x2 x3 s0 = some r → va_P (dC, dI) vwCl (dw_BY a ac s0) H → va_D A (dw_BY a ac s0) → va_S A s.heap H locs → lv_has ls 4 [(0, .ref (a 0)), (1, .int x1), (2, .int x2), (3, .int x3)] → W p l e (headSpec ow_dm_X7_registerAt ({ frames := 5, cells := 0, slots := 0, locals := 110 })).room s m args below meth c H locs 0 0 Q (F0 m 74 ls [])
def dj_X7_registerAt_0 (p : Program) (l : Launch) (e : Env) (s : State) (m : MethodId) (args : Array Value) (below : List Frame) (meth : Method) (c : Code) (Q : State → Prop) (A : Nat → Prop) (dC : Nat → ClassId) (dI : Nat → Nat → Nat) (a : Nat → Nat) (ac : Nat → ClassId) (g : Int32 → Int32 → (St) → Option (Int32 × (St))) (r : Int32 × (St)) : Prop := ∀ (v1 : Int32) (v2 : Int32) (s0 : St) (H : Heap) (locs : List Loc) (ls : Array Slot), g v1 v2 s0 = some r → va_P (dC, dI) vwCl (dw_BY a ac s0) H → va_D A (dw_BY a ac s0) → va_S A s.heap H locs → lv_has ls 4 [(0, .ref (a 0)), (1, .int v1), (2, .int v2)] → W p l e (headSpec ow_dm_X7_registerAt ({ frames := 5, cells := 0, slots := 0, locals := 110 })).room s m args below meth c H locs 0 0 Q (F0 m 0 ls [])
set_option maxHeartbeats 40000000 in
set_option maxRecDepth 100000 in
theorem db_X7_registerAt_51 {p : Program} {l : Launch} {e : Env} {s : State} {m : MethodId} {args : Array Value} {below : List Frame} {meth : Method} {c : Code} {Q : State → Prop} {A : Nat → Prop} {dC : Nat → ClassId} {dI : Nat → Nat → Nat} {a : Nat → Nat} {ac : Nat → ClassId} {n : Nat} {r : Int32 × (St)} (C : nd_C p l s m args c A (dC, dI) cX7_registerAt 4 RX7 ow_dm_X7_registerAt (dk_BY ac)) (K : nd_Ki p l e (headSpec ow_dm_X7_registerAt ({ frames := 5, cells := 0, slots := 0, locals := 110 })).room s m args below meth c Q A (dC, dI) cX7_registerAt .int (St) (dw_BY a ac) r) : dj_X7_registerAt_51 p l e s m args below meth c Q A dC dI a ac (df_X7_registerAt_51 n) r := by
  obtain ⟨hlt, hx, hb, hml, hown, hts, hN, hA, hK⟩ := id C
  intro s0 H locs ls h hP hD hS hl
  unfold df_X7_registerAt_51 at h
  refine lv_iconst (v := (-1)) hx hb dX7_registerAt_51 (by decide) ?_
  exact K _ _ _ _ _ _ dX7_registerAt_52 rfl (Option.some.inj h).symm hP hD hS
set_option maxHeartbeats 40000000 in
set_option maxRecDepth 100000 in
theorem dB_X7_registerAt_74 {p : Program} {l : Launch} {e : Env} {s : State} {m : MethodId} {args : Array Value} {below : List Frame} {meth : Method} {c : Code} {Q : State → Prop} {A : Nat → Prop} {dC : Nat → ClassId} {dI : Nat → Nat → Nat} {a : Nat → Nat} {ac : Nat → ClassId} {n : Nat} {r : Int32 × (St)} (C : nd_C p l s m args c A (dC, dI) cX7_registerAt 4 RX7 ow_dm_X7_registerAt (dk_BY ac)) (K : nd_Ki p l e (headSpec ow_dm_X7_registerAt ({ frames := 5, cells := 0, slots := 0, locals := 110 })).room s m args below meth c Q A (dC, dI) cX7_registerAt .int (St) (dw_BY a ac) r) {g74 : Int32 → Int32 → Int32 → (St) → Option (Int32 × (St))} (J74 : dj_X7_registerAt_74 p l e s m args below meth c Q A dC dI a ac g74 r) : dj_X7_registerAt_74 p l e s m args below meth c Q A dC dI a ac (dF_X7_registerAt_74 n g74) r := by
  obtain ⟨hlt, hx, hb, hml, hown, hts, hN, hA, hK⟩ := id C
  intro x1 x2 x3 s0 H locs ls h hP hD hS hl
  unfold dF_X7_registerAt_74 at h
  refine lv_iload_n hx hb dX7_registerAt_74 rfl (lv_at hl 3 rfl) ?_
  refine lv_bipush (v := 32) hx hb dX7_registerAt_75 (by decide) ?_
  refine lv_icmp_ge (tgt := 98) hx hb dX7_registerAt_77 (by decide) (fun c17 => ?_) (fun c17 => ?_)
  · have h := nd_pos h c17
    refine lv_iconst (v := (-1)) hx hb dX7_registerAt_98 (by decide) ?_
    exact K _ _ _ _ _ _ dX7_registerAt_99 rfl (Option.some.inj h).symm hP hD hS
  · have h := nd_neg h c17
    refine lv_iload_n hx hb dX7_registerAt_80 rfl (lv_at hl 3 rfl) ?_
    refine lv_aload_n hx hb dX7_registerAt_81 rfl (lv_at hl 0 rfl) ?_
    refine lv_iload_n hx hb dX7_registerAt_82 rfl (lv_at hl 1 rfl) ?_
    refine lv_iload_n hx hb dX7_registerAt_83 rfl (lv_at hl 2 rfl) ?_
    obtain ⟨q18, s19, hq, h⟩ := nd_b2_e h
    have hPc := hP
    have hDc := hD
    have hKc := hK
    have hFc := nd_rs hD hS hA
    refine nd_cSi (As := [.int x3, .ref (a 0), .int x1, .int x2]) (rest := []) (q := q18) (w' := dw_BY a ac s19) ⟨hx, hb, hml, hown, hts⟩ (fun sz => dm_X7_isNamed l hlt dC dI a ac n (x3) (x1) (x2) s0 hq sz) (cwS 4 hts gi_dm_X7_registerAt_1 rfl rfl rfl (by decide +kernel) ⟨Nat.le_of_ble_eq_true rfl, Nat.le_of_ble_eq_true rfl⟩) hPc hDc hKc hS hA hN rfl hl.1 rfl (Nat.le_of_ble_eq_true rfl) dX7_registerAt_84 (fun H locs hP1 hD1 hk1 hS => ?_)
    have hP := hP1
    have hD := hD1.weaken (fun k q _ h => hFc q.1 h)
    refine lv_if_eq (tgt := 92) hx hb dX7_registerAt_87 (by decide) (fun c21 => ?_) (fun c21 => ?_)
    · have h := nd_pos h c21
      obtain ⟨z22, ez22, h⟩ := nd_let_e h
      refine lv_iinc (v := z22) (lv' := [(3, .int z22), (0, .ref (a 0)), (1, .int x1), (2, .int x2)]) hx hb dX7_registerAt_92 hl (k := 3) rfl (by rw [ez22]) (by decide) rfl (fun ls hl => ?_)
      refine lv_goto (tgt := 74) hx hb dX7_registerAt_95 (by decide) ?_
      exact (J74) (x1) (x2) (z22) s19 _ _ _ h hP hD hS (lv_sub hl [1, 2, 3, 0] rfl)
    · have h := nd_neg h c21
      refine lv_iload_n hx hb dX7_registerAt_90 rfl (lv_at hl 3 rfl) ?_
      exact K _ _ _ _ _ _ dX7_registerAt_91 rfl (Option.some.inj h).symm hP hD hS
set_option maxHeartbeats 40000000 in
set_option maxRecDepth 100000 in
theorem db_X7_registerAt_74 {p : Program} {l : Launch} {e : Env} {s : State} {m : MethodId} {args : Array Value} {below : List Frame} {meth : Method} {c : Code} {Q : State → Prop} {A : Nat → Prop} {dC : Nat → ClassId} {dI : Nat → Nat → Nat} {a : Nat → Nat} {ac : Nat → ClassId} {n : Nat} {r : Int32 × (St)} (C : nd_C p l s m args c A (dC, dI) cX7_registerAt 4 RX7 ow_dm_X7_registerAt (dk_BY ac)) (K : nd_Ki p l e (headSpec ow_dm_X7_registerAt ({ frames := 5, cells := 0, slots := 0, locals := 110 })).room s m args below meth c Q A (dC, dI) cX7_registerAt .int (St) (dw_BY a ac) r) (k : Nat) : dj_X7_registerAt_74 p l e s m args below meth c Q A dC dI a ac (df_X7_registerAt_74 n k) r := by
  induction k with
  | zero => intro x1 x2 x3 s0 H locs ls h; exact nomatch (show (none : Option (Int32 × (St))) = some r from h)
  | succ k ih => exact dB_X7_registerAt_74 C K ih
set_option maxHeartbeats 40000000 in
set_option maxRecDepth 100000 in
theorem db_X7_registerAt_0 {p : Program} {l : Launch} {e : Env} {s : State} {m : MethodId} {args : Array Value} {below : List Frame} {meth : Method} {c : Code} {Q : State → Prop} {A : Nat → Prop} {dC : Nat → ClassId} {dI : Nat → Nat → Nat} {a : Nat → Nat} {ac : Nat → ClassId} {n : Nat} {r : Int32 × (St)} (C : nd_C p l s m args c A (dC, dI) cX7_registerAt 4 RX7 ow_dm_X7_registerAt (dk_BY ac)) (K : nd_Ki p l e (headSpec ow_dm_X7_registerAt ({ frames := 5, cells := 0, slots := 0, locals := 110 })).room s m args below meth c Q A (dC, dI) cX7_registerAt .int (St) (dw_BY a ac) r) : dj_X7_registerAt_0 p l e s m args below meth c Q A dC dI a ac (df_X7_registerAt_0 n) r := by
  obtain ⟨hlt, hx, hb, hml, hown, hts, hN, hA, hK⟩ := id C
  intro v1 v2 s0 H locs ls h hP hD hS hl
  unfold df_X7_registerAt_0 at h
  have z1 : vk_R RX7 449 "zero" (dI 1000 10) s := hN.2.2.2.2.2.2.2.2.2.2.2.2.1 10 (by decide)
  refine nv_ldcw hx hb hown z1 dX7_registerAt_0 ?_
  refine lv_aload_n hx hb dX7_registerAt_3 rfl (lv_at hl 0 rfl) ?_
  refine lv_iload_n hx hb dX7_registerAt_4 rfl (lv_at hl 1 rfl) ?_
  refine lv_iload_n hx hb dX7_registerAt_5 rfl (lv_at hl 2 rfl) ?_
  obtain ⟨q2, s3, hq, h⟩ := nd_b2_e h
  have hPc := hP
  have hDc := hD
  have hKc := hK
  have hFc := nd_rs hD hS hA
  refine nd_cSi (As := [.ref (dI 1000 10), .ref (a 0), .int v1, .int v2]) (rest := []) (q := q2) (w' := dw_BY a ac s3) ⟨hx, hb, hml, hown, hts⟩ (fun sz => dm_X7_stands l hlt dC dI a ac n (10) (v1) (v2) s0 hq sz) (cwS 4 hts gi_dm_X7_registerAt_0 rfl rfl rfl (by decide +kernel) ⟨Nat.le_of_ble_eq_true rfl, Nat.le_of_ble_eq_true rfl⟩) hPc hDc hKc hS hA hN rfl hl.1 rfl (Nat.le_of_ble_eq_true rfl) dX7_registerAt_6 (fun H locs hP1 hD1 hk1 hS => ?_)
  have hP := hP1
  have hD := hD1.weaken (fun k q _ h => hFc q.1 h)
  refine lv_if_eq (tgt := 14) hx hb dX7_registerAt_9 (by decide) (fun c5 => ?_) (fun c5 => ?_)
  · have h := nd_pos h c5
    have z6 : vk_R RX7 451 "fp" (dI 1000 18) s := hN.2.2.2.2.2.2.2.2.2.2.2.2.1 18 (by decide)
    refine nv_ldcw hx hb hown z6 dX7_registerAt_14 ?_
    refine lv_aload_n hx hb dX7_registerAt_17 rfl (lv_at hl 0 rfl) ?_
    refine lv_iload_n hx hb dX7_registerAt_18 rfl (lv_at hl 1 rfl) ?_
    refine lv_iload_n hx hb dX7_registerAt_19 rfl (lv_at hl 2 rfl) ?_
    obtain ⟨q7, s8, hq, h⟩ := nd_b2_e h
    have hPc := hP
    have hDc := hD
    have hKc := hK
    have hFc := nd_rs hD hS hA
    refine nd_cSi (As := [.ref (dI 1000 18), .ref (a 0), .int v1, .int v2]) (rest := []) (q := q7) (w' := dw_BY a ac s8) ⟨hx, hb, hml, hown, hts⟩ (fun sz => dm_X7_stands l hlt dC dI a ac n (18) (v1) (v2) s3 hq sz) (cwS 4 hts gi_dm_X7_registerAt_0 rfl rfl rfl (by decide +kernel) ⟨Nat.le_of_ble_eq_true rfl, Nat.le_of_ble_eq_true rfl⟩) hPc hDc hKc hS hA hN rfl hl.1 rfl (Nat.le_of_ble_eq_true rfl) dX7_registerAt_20 (fun H locs hP1 hD1 hk1 hS => ?_)
    have hP := hP1
    have hD := hD1.weaken (fun k q _ h => hFc q.1 h)
    refine lv_if_eq (tgt := 29) hx hb dX7_registerAt_23 (by decide) (fun c10 => ?_) (fun c10 => ?_)
    · have h := nd_pos h c10
      refine lv_iload_n hx hb dX7_registerAt_29 rfl (lv_at hl 2 rfl) ?_
      refine lv_iconst (v := 2) hx hb dX7_registerAt_30 (by decide) ?_
      refine lv_icmp_lt (tgt := 51) hx hb dX7_registerAt_31 (by decide) (fun c11 => ?_) (fun c11 => ?_)
      · have h := nd_pos h c11
        exact (db_X7_registerAt_51 C K)  s8 _ _ _ h hP hD hS (lv_sub hl [] rfl)
      · have h := nd_neg h c11
        refine lv_iload_n hx hb dX7_registerAt_34 rfl (lv_at hl 2 rfl) ?_
        refine lv_iconst (v := 3) hx hb dX7_registerAt_35 (by decide) ?_
        refine lv_icmp_gt (tgt := 51) hx hb dX7_registerAt_36 (by decide) (fun c12 => ?_) (fun c12 => ?_)
        · have h := nd_pos h c12
          exact (db_X7_registerAt_51 C K)  s8 _ _ _ h hP hD hS (lv_sub hl [] rfl)
        · have h := nd_neg h c12
          refine lv_iload_n hx hb dX7_registerAt_39 rfl (lv_at hl 1 rfl) ?_
          refine lv_if_lt (tgt := 51) hx hb dX7_registerAt_40 (by decide) (fun c13 => ?_) (fun c13 => ?_)
          · have h := nd_pos h c13
            exact (db_X7_registerAt_51 C K)  s8 _ _ _ h hP hD hS (lv_sub hl [] rfl)
          · have h := nd_neg h c13
            refine lv_iload_n hx hb dX7_registerAt_43 rfl (lv_at hl 1 rfl) ?_
            refine lv_iload_n hx hb dX7_registerAt_44 rfl (lv_at hl 2 rfl) ?_
            refine lv_iadd hx hb dX7_registerAt_45 ?_
            refine lv_aload_n hx hb dX7_registerAt_46 rfl (lv_at hl 0 rfl) ?_
            refine va_alen (v := 32768) hx hb hK hP 0 0 rfl rfl (show Int32.ofNat 32768 = 32768 by decide) dX7_registerAt_47 ?_
            refine lv_icmp_le (tgt := 53) hx hb dX7_registerAt_48 (by decide) (fun c14 => ?_) (fun c14 => ?_)
            · have h := nd_pos h c14
              refine lv_aload_n hx hb dX7_registerAt_53 rfl (lv_at hl 0 rfl) ?_
              refine lv_iload_n hx hb dX7_registerAt_54 rfl (lv_at hl 1 rfl) ?_
              obtain ⟨i15, h⟩ := nd_ck_e h
              refine va_bald (i := v1) hx hb hK hP 0 0 rfl rfl i15 dX7_registerAt_55 ?_
              refine lv_bipush (v := 120) hx hb dX7_registerAt_56 (by decide) ?_
              refine lv_icmp_ne (tgt := 72) hx hb dX7_registerAt_58 (by decide) (fun c16 => ?_) (fun c16 => ?_)
              · have h := nd_neg h c16
                refine lv_iconst (v := 1) hx hb dX7_registerAt_72 (by decide) ?_
                refine lv_istore_n (lv' := [(3, .int 1), (0, .ref (a 0)), (1, .int v1), (2, .int v2)]) hx hb dX7_registerAt_73 rfl hl (by decide) rfl (fun ls hl => ?_)
                exact (db_X7_registerAt_74 C K n) (v1) (v2) (1) s8 _ _ _ h hP hD hS (lv_sub hl [1, 2, 3, 0] rfl)
              · have h := nd_pos h c16
                refine lv_aload_n hx hb dX7_registerAt_61 rfl (lv_at hl 0 rfl) ?_
                refine lv_iload_n hx hb dX7_registerAt_62 rfl (lv_at hl 1 rfl) ?_
                refine lv_iconst (v := 1) hx hb dX7_registerAt_63 (by decide) ?_
                refine lv_iadd hx hb dX7_registerAt_64 ?_
                refine lv_iload_n hx hb dX7_registerAt_65 rfl (lv_at hl 2 rfl) ?_
                refine lv_iconst (v := 1) hx hb dX7_registerAt_66 (by decide) ?_
                refine lv_isub hx hb dX7_registerAt_67 ?_
                obtain ⟨q23, s24, hq, h⟩ := nd_b2_e h
                have hPc := hP
                have hDc := hD
                have hKc := hK
                have hFc := nd_rs hD hS hA
                refine nd_cSi (As := [.ref (a 0), .int (v1 + 1), .int (v2 - 1)]) (rest := []) (q := q23) (w' := dw_BY a ac s24) ⟨hx, hb, hml, hown, hts⟩ (fun sz => dm_X7_numbered l hlt dC dI a ac n ((v1 + 1)) ((v2 - 1)) s8 hq sz) (cwS 3 hts gi_dm_X7_registerAt_2 rfl rfl rfl (by decide +kernel) ⟨Nat.le_of_ble_eq_true rfl, Nat.le_of_ble_eq_true rfl⟩) hPc hDc hKc hS hA hN rfl hl.1 rfl (Nat.le_of_ble_eq_true rfl) dX7_registerAt_68 (fun H locs hP1 hD1 hk1 hS => ?_)
                have hP := hP1
                have hD := hD1.weaken (fun k q _ h => hFc q.1 h)
                exact K _ _ _ _ _ _ dX7_registerAt_71 rfl (Option.some.inj h).symm hP hD hS
            · have h := nd_neg h c14
              exact (db_X7_registerAt_51 C K)  s8 _ _ _ h hP hD hS (lv_sub hl [] rfl)
    · have h := nd_neg h c10
      refine lv_bipush (v := 8) hx hb dX7_registerAt_26 (by decide) ?_
      exact K _ _ _ _ _ _ dX7_registerAt_28 rfl (Option.some.inj h).symm hP hD hS
  · have h := nd_neg h c5
    refine lv_iconst (v := 0) hx hb dX7_registerAt_12 (by decide) ?_
    exact K _ _ _ _ _ _ dX7_registerAt_13 rfl (Option.some.inj h).symm hP hD hS
set_option maxHeartbeats 40000000 in
set_option maxRecDepth 100000 in
theorem dm_X7_registerAt (l : Launch) (hlt : l.stackTraces = false) (dC : Nat → ClassId) (dI : Nat → Nat → Nat) (a : Nat → Nat) (ac : Nat → ClassId) (n : Nat) (v1 : Int32) (v2 : Int32) (s0 : St) {r : Int32 × (St)} (h : df_X7_registerAt n v1 v2 s0 = some r) (sz : Nat) : Met l yX7_registerAt ow_dm_X7_registerAt ({ frames := 5, cells := 0, slots := 0, locals := 110 }) (va_Pc [.ref (a 0), .int v1, .int v2] (fun U => U.heap.size = sz ∧ va_P (dC, dI) vwCl (dw_BY a ac s0) U.heap ∧ va_K (dC, dI) vwCl (dk_BY ac) U ∧ va_D (fun _ => True) (dw_BY a ac s0) ∧ nv_E dI (va_A (dw_BY a ac s0) sz) U)) (va_Qi (fun x _ => x = r.1) (fun (_ : Unit) t => va_P (dC, dI) vwCl (dw_BY a ac r.2) t.heap ∧ va_K (dC, dI) vwCl (dk_BY ac) t ∧ va_D (va_A (dw_BY a ac s0) sz) (dw_BY a ac r.2)) (va_A (dw_BY a ac s0) sz)) 0 0 (va_A (dw_BY a ac s0) sz) := by
  refine Met.ofW (cc := cX7_registerAt) (maxL := 4) (ret := (some .int)) (by decide) rfl ?_
  intro p e s m args below meth c s₁ B hml hv
  obtain ⟨rfl, hsz, hP, hK, hD0, hN⟩ := hv
  have hx := B.exec
  have hb := B.bytes
  have hr := B.returns
  have hts := atoms_spec (ws := ow_dm_X7_registerAt) B.pre
  have hown : s.vm.findClass RX7 = some m.cls := findClass_of_methodNamed B.named
  have hlocks := B.notSynchronized
  subst hsz
  have hD := hD0.self (sz := s.heap.size)
  generalize hAe : va_A (dw_BY a ac s0) s.heap.size = A at hD hN ⊢
  have hA : ∀ q : Nat, s.heap.size ≤ q → A q := fun q h => by rw [← hAe]; exact Or.inr h
  have hl := lv_entry ([.ref (a 0), .int v1, .int v2]) (n := 4) (Nat.le_of_ble_eq_true rfl)
  rw [lg_entry_eq]
  generalize (lg_sl ([.ref (a 0), .int v1, .int v2]) ++ List.replicate (4 - (lg_sl ([.ref (a 0), .int v1, .int v2])).length) Slot.unset).toArray = ls at hl ⊢
  have hl : lv_has ls 4 [(0, .ref (a 0)), (1, .int v1), (2, .int v2)] := hl
  exact db_X7_registerAt_0 (dC := dC) (dI := dI) (a := a) (ac := ac) (n := n) (r := r) ⟨hlt, hx, hb, hml, hown, hts, hN, hA, hK⟩ (fun pc v τ H locs ls d z er hP hD hS => by subst er; exact W.zret (v := v) hx hb hr z (fun t ht hW => ⟨⟨v, (), rfl, rfl, by rw [ht]; exact hP, va_K.moved hW.alike hK, hD⟩, hS.F ht⟩) hS.2.2 d) v1 v2 s0 _ _ _ h hP hD va_S.rf (lv_sub hl [0, 1, 2] rfl)
def ow_dm_X7_isTarget : List Cond := Cond.code yX7_isTarget cX7_isTarget 1 (some .boolean) :: ([] ++ [])
theorem gd_dm_X7_isTarget : ∀ w ∈ ow_dm_X7_isTarget, (w.onTables && w.keeps) = true ∨ ∃ ty, w = Cond.arrayClass ty := List.forall_mem_cons.mpr ⟨good_of_word rfl, List.forall_mem_append.mpr ⟨fun w h => good_of_word (List.all_eq_true.mp (by decide +kernel) w h), fun _ h => nomatch h⟩⟩
def dj_X7_isTarget_29 (p : Program) (l : Launch) (e : Env) (s : State) (m : MethodId) (args : Array Value) (below : List Frame) (meth : Method) (c : Code) (Q : State → Prop) (A : Nat → Prop) (dC : Nat → ClassId) (dI : Nat → Nat → Nat) (a : Nat → Nat) (ac : Nat → ClassId) (g : Int32 → (Unit) → Option (Int32 × (Unit))) (r : Int32 × (Unit)) : Prop := ∀ (y0 : Int32) (s0 : Unit) (H : Heap) (locs : List Loc) (ls : Array Slot), g y0 s0 = some r → va_P (dC, dI) vwCl (dw_P a ac s0) H → va_D A (dw_P a ac s0) → va_S A s.heap H locs → lv_has ls 1 [] → W p l e (headSpec ow_dm_X7_isTarget ({ frames := 0, cells := 0, slots := 0, locals := 0 })).room s m args below meth c H locs 0 0 Q (F0 m 29 ls [.int y0])
def dj_X7_isTarget_24 (p : Program) (l : Launch) (e : Env) (s : State) (m : MethodId) (args : Array Value) (below : List Frame) (meth : Method) (c : Code) (Q : State → Prop) (A : Nat → Prop) (dC : Nat → ClassId) (dI : Nat → Nat → Nat) (a : Nat → Nat) (ac : Nat → ClassId) (g : (Unit) → Option (Int32 × (Unit))) (r : Int32 × (Unit)) : Prop := ∀ (s0 : Unit) (H : Heap) (locs : List Loc) (ls : Array Slot), g s0 = some r → va_P (dC, dI) vwCl (dw_P a ac s0) H → va_D A (dw_P a ac s0) → va_S A s.heap H locs → lv_has ls 1 [] → W p l e (headSpec ow_dm_X7_isTarget ({ frames := 0, cells := 0, slots := 0, locals := 0 })).room s m args below meth c H locs 0 0 Q (F0 m 24 ls [])
def dj_X7_isTarget_0 (p : Program) (l : Launch) (e : Env) (s : State) (m : MethodId) (args : Array Value) (below : List Frame) (meth : Method) (c : Code) (Q : State → Prop) (A : Nat → Prop) (dC : Nat → ClassId) (dI : Nat → Nat → Nat) (a : Nat → Nat) (ac : Nat → ClassId) (g : Int32 → (Unit) → Option (Int32 × (Unit))) (r : Int32 × (Unit)) : Prop := ∀ (v0 : Int32) (s0 : Unit) (H : Heap) (locs : List Loc) (ls : Array Slot), g v0 s0 = some r → va_P (dC, dI) vwCl (dw_P a ac s0) H → va_D A (dw_P a ac s0) → va_S A s.heap H locs → lv_has ls 1 [(0, .int v0)] → W p l e (headSpec ow_dm_X7_isTarget ({ frames := 0, cells := 0, slots := 0, locals := 0 })).room s m args below meth c H locs 0 0 Q (F0 m 0 ls [])
set_option maxHeartbeats 40000000 in
set_option maxRecDepth 100000 in
theorem db_X7_isTarget_29 {p : Program} {l : Launch} {e : Env} {s : State} {m : MethodId} {args : Array Value} {below : List Frame} {meth : Method} {c : Code} {Q : State → Prop} {A : Nat → Prop} {dC : Nat → ClassId} {dI : Nat → Nat → Nat} {a : Nat → Nat} {ac : Nat → ClassId} {n : Nat} {r : Int32 × (Unit)} (C : nd_C p l s m args c A (dC, dI) cX7_isTarget 1 RX7 ow_dm_X7_isTarget (dk_P ac)) (K : nd_Ki p l e (headSpec ow_dm_X7_isTarget ({ frames := 0, cells := 0, slots := 0, locals := 0 })).room s m args below meth c Q A (dC, dI) cX7_isTarget .boolean (Unit) (dw_P a ac) r) : dj_X7_isTarget_29 p l e s m args below meth c Q A dC dI a ac (df_X7_isTarget_29 n) r := by
  obtain ⟨hlt, hx, hb, hml, hown, hts, hN, hA, hK⟩ := id C
  intro y0 s0 H locs ls h hP hD hS hl
  unfold df_X7_isTarget_29 at h
  obtain ⟨n2, h⟩ := nd_z_e ⟨_, rfl⟩ h
  exact K _ _ _ _ _ _ dX7_isTarget_29 n2 (Option.some.inj h).symm hP hD hS
set_option maxHeartbeats 40000000 in
set_option maxRecDepth 100000 in
theorem db_X7_isTarget_24 {p : Program} {l : Launch} {e : Env} {s : State} {m : MethodId} {args : Array Value} {below : List Frame} {meth : Method} {c : Code} {Q : State → Prop} {A : Nat → Prop} {dC : Nat → ClassId} {dI : Nat → Nat → Nat} {a : Nat → Nat} {ac : Nat → ClassId} {n : Nat} {r : Int32 × (Unit)} (C : nd_C p l s m args c A (dC, dI) cX7_isTarget 1 RX7 ow_dm_X7_isTarget (dk_P ac)) (K : nd_Ki p l e (headSpec ow_dm_X7_isTarget ({ frames := 0, cells := 0, slots := 0, locals := 0 })).room s m args below meth c Q A (dC, dI) cX7_isTarget .boolean (Unit) (dw_P a ac) r) : dj_X7_isTarget_24 p l e s m args below meth c Q A dC dI a ac (df_X7_isTarget_24 n) r := by
  obtain ⟨hlt, hx, hb, hml, hown, hts, hN, hA, hK⟩ := id C
  intro s0 H locs ls h hP hD hS hl
  unfold df_X7_isTarget_24 at h
  refine lv_iconst (v := 1) hx hb dX7_isTarget_24 (by decide) ?_
  refine lv_goto (tgt := 29) hx hb dX7_isTarget_25 (by decide) ?_
  exact (db_X7_isTarget_29 C K) (1) s0 _ _ _ h hP hD hS (lv_sub hl [] rfl)
set_option maxHeartbeats 40000000 in
set_option maxRecDepth 100000 in
theorem db_X7_isTarget_0 {p : Program} {l : Launch} {e : Env} {s : State} {m : MethodId} {args : Array Value} {below : List Frame} {meth : Method} {c : Code} {Q : State → Prop} {A : Nat → Prop} {dC : Nat → ClassId} {dI : Nat → Nat → Nat} {a : Nat → Nat} {ac : Nat → ClassId} {n : Nat} {r : Int32 × (Unit)} (C : nd_C p l s m args c A (dC, dI) cX7_isTarget 1 RX7 ow_dm_X7_isTarget (dk_P ac)) (K : nd_Ki p l e (headSpec ow_dm_X7_isTarget ({ frames := 0, cells := 0, slots := 0, locals := 0 })).room s m args below meth c Q A (dC, dI) cX7_isTarget .boolean (Unit) (dw_P a ac) r) : dj_X7_isTarget_0 p l e s m args below meth c Q A dC dI a ac (df_X7_isTarget_0 n) r := by
  obtain ⟨hlt, hx, hb, hml, hown, hts, hN, hA, hK⟩ := id C
  intro v0 s0 H locs ls h hP hD hS hl
  unfold df_X7_isTarget_0 at h
  refine lv_iload_n hx hb dX7_isTarget_0 rfl (lv_at hl 0 rfl) ?_
  refine lv_bipush (v := 84) hx hb dX7_isTarget_1 (by decide) ?_
  refine lv_icmp_eq (tgt := 24) hx hb dX7_isTarget_3 (by decide) (fun c1 => ?_) (fun c1 => ?_)
  · have h := nd_pos h c1
    exact (db_X7_isTarget_24 C K)  s0 _ _ _ h hP hD hS (lv_sub hl [] rfl)
  · have h := nd_neg h c1
    refine lv_iload_n hx hb dX7_isTarget_6 rfl (lv_at hl 0 rfl) ?_
    refine lv_bipush (v := 74) hx hb dX7_isTarget_7 (by decide) ?_
    refine lv_icmp_eq (tgt := 24) hx hb dX7_isTarget_9 (by decide) (fun c3 => ?_) (fun c3 => ?_)
    · have h := nd_pos h c3
      exact (db_X7_isTarget_24 C K)  s0 _ _ _ h hP hD hS (lv_sub hl [] rfl)
    · have h := nd_neg h c3
      refine lv_iload_n hx hb dX7_isTarget_12 rfl (lv_at hl 0 rfl) ?_
      refine lv_bipush (v := 75) hx hb dX7_isTarget_13 (by decide) ?_
      refine lv_icmp_eq (tgt := 24) hx hb dX7_isTarget_15 (by decide) (fun c4 => ?_) (fun c4 => ?_)
      · have h := nd_pos h c4
        exact (db_X7_isTarget_24 C K)  s0 _ _ _ h hP hD hS (lv_sub hl [] rfl)
      · have h := nd_neg h c4
        refine lv_iload_n hx hb dX7_isTarget_18 rfl (lv_at hl 0 rfl) ?_
        refine lv_bipush (v := 76) hx hb dX7_isTarget_19 (by decide) ?_
        refine lv_icmp_ne (tgt := 28) hx hb dX7_isTarget_21 (by decide) (fun c5 => ?_) (fun c5 => ?_)
        · have h := nd_neg h c5
          refine lv_iconst (v := 0) hx hb dX7_isTarget_28 (by decide) ?_
          exact (db_X7_isTarget_29 C K) (0) s0 _ _ _ h hP hD hS (lv_sub hl [] rfl)
        · have h := nd_pos h c5
          exact (db_X7_isTarget_24 C K)  s0 _ _ _ h hP hD hS (lv_sub hl [] rfl)
set_option maxHeartbeats 40000000 in
set_option maxRecDepth 100000 in
theorem dm_X7_isTarget (l : Launch) (hlt : l.stackTraces = false) (dC : Nat → ClassId) (dI : Nat → Nat → Nat) (a : Nat → Nat) (ac : Nat → ClassId) (n : Nat) (v0 : Int32) (s0 : Unit) {r : Int32 × (Unit)} (h : df_X7_isTarget n v0 s0 = some r) (sz : Nat) : Met l yX7_isTarget ow_dm_X7_isTarget ({ frames := 0, cells := 0, slots := 0, locals := 0 }) (va_Pc [.int v0] (fun U => U.heap.size = sz ∧ va_P (dC, dI) vwCl (dw_P a ac s0) U.heap ∧ va_K (dC, dI) vwCl (dk_P ac) U ∧ va_D (fun _ => True) (dw_P a ac s0) ∧ nv_E dI (va_A (dw_P a ac s0) sz) U)) (va_Qi (fun x _ => x = r.1) (fun (_ : Unit) t => va_P (dC, dI) vwCl (dw_P a ac r.2) t.heap ∧ va_K (dC, dI) vwCl (dk_P ac) t ∧ va_D (va_A (dw_P a ac s0) sz) (dw_P a ac r.2)) (va_A (dw_P a ac s0) sz)) 0 0 (va_A (dw_P a ac s0) sz) := by
  refine Met.ofW (cc := cX7_isTarget) (maxL := 1) (ret := (some .boolean)) (by decide) rfl ?_
  intro p e s m args below meth c s₁ B hml hv
  obtain ⟨rfl, hsz, hP, hK, hD0, hN⟩ := hv
  have hx := B.exec
  have hb := B.bytes
  have hr := B.returns
  have hts := atoms_spec (ws := ow_dm_X7_isTarget) B.pre
  have hown : s.vm.findClass RX7 = some m.cls := findClass_of_methodNamed B.named
  have hlocks := B.notSynchronized
  subst hsz
  have hD := hD0.self (sz := s.heap.size)
  generalize hAe : va_A (dw_P a ac s0) s.heap.size = A at hD hN ⊢
  have hA : ∀ q : Nat, s.heap.size ≤ q → A q := fun q h => by rw [← hAe]; exact Or.inr h
  have hl := lv_entry ([.int v0]) (n := 1) (Nat.le_of_ble_eq_true rfl)
  rw [lg_entry_eq]
  generalize (lg_sl ([.int v0]) ++ List.replicate (1 - (lg_sl ([.int v0])).length) Slot.unset).toArray = ls at hl ⊢
  have hl : lv_has ls 1 [(0, .int v0)] := hl
  exact db_X7_isTarget_0 (dC := dC) (dI := dI) (a := a) (ac := ac) (n := n) (r := r) ⟨hlt, hx, hb, hml, hown, hts, hN, hA, hK⟩ (fun pc v τ H locs ls d z er hP hD hS => by subst er; exact W.zret (v := v) hx hb hr z (fun t ht hW => ⟨⟨v, (), rfl, rfl, by rw [ht]; exact hP, va_K.moved hW.alike hK, hD⟩, hS.F ht⟩) hS.2.2 d) v0 s0 _ _ _ h hP hD va_S.rf (lv_sub hl [0] rfl)
def ow_dm_X7_fits : List Cond := Cond.code yX7_fits cX7_fits 2 (some .boolean) :: ([Cond.constant RX7 464 (-1048576), Cond.constant RX7 465 (1048574), Cond.constant RX7 463 (1048575)] ++ [])
theorem gd_dm_X7_fits : ∀ w ∈ ow_dm_X7_fits, (w.onTables && w.keeps) = true ∨ ∃ ty, w = Cond.arrayClass ty := List.forall_mem_cons.mpr ⟨good_of_word rfl, List.forall_mem_append.mpr ⟨fun w h => good_of_word (List.all_eq_true.mp (by decide +kernel) w h), fun _ h => nomatch h⟩⟩
def dj_X7_fits_294 (p : Program) (l : Launch) (e : Env) (s : State) (m : MethodId) (args : Array Value) (below : List Frame) (meth : Method) (c : Code) (Q : State → Prop) (A : Nat → Prop) (dC : Nat → ClassId) (dI : Nat → Nat → Nat) (a : Nat → Nat) (ac : Nat → ClassId) (g : Int32 → (Unit) → Option (Int32 × (Unit))) (r : Int32 × (Unit)) : Prop := ∀ (y0 : Int32) (s0 : Unit) (H : Heap) (locs : List Loc) (ls : Array Slot), g y0 s0 = some r → va_P (dC, dI) vwCl (dw_P a ac s0) H → va_D A (dw_P a ac s0) → va_S A s.heap H locs → lv_has ls 2 [] → W p l e (headSpec ow_dm_X7_fits ({ frames := 0, cells := 0, slots := 0, locals := 0 })).room s m args below meth c H locs 0 0 Q (F0 m 294 ls [.int y0])
def dj_X7_fits_293 (p : Program) (l : Launch) (e : Env) (s : State) (m : MethodId) (args : Array Value) (below : List Frame) (meth : Method) (c : Code) (Q : State → Prop) (A : Nat → Prop) (dC : Nat → ClassId) (dI : Nat → Nat → Nat) (a : Nat → Nat) (ac : Nat → ClassId) (g : (Unit) → Option (Int32 × (Unit))) (r : Int32 × (Unit)) : Prop := ∀ (s0 : Unit) (H : Heap) (locs : List Loc) (ls : Array Slot), g s0 = some r → va_P (dC, dI) vwCl (dw_P a ac s0) H → va_D A (dw_P a ac s0) → va_S A s.heap H locs → lv_has ls 2 [] → W p l e (headSpec ow_dm_X7_fits ({ frames := 0, cells := 0, slots := 0, locals := 0 })).room s m args below meth c H locs 0 0 Q (F0 m 293 ls [])
def dj_X7_fits_279 (p : Program) (l : Launch) (e : Env) (s : State) (m : MethodId) (args : Array Value) (below : List Frame) (meth : Method) (c : Code) (Q : State → Prop) (A : Nat → Prop) (dC : Nat → ClassId) (dI : Nat → Nat → Nat) (a : Nat → Nat) (ac : Nat → ClassId) (g : Int32 → (Unit) → Option (Int32 × (Unit))) (r : Int32 × (Unit)) : Prop := ∀ (x1 : Int32) (s0 : Unit) (H : Heap) (locs : List Loc) (ls : Array Slot), g x1 s0 = some r → va_P (dC, dI) vwCl (dw_P a ac s0) H → va_D A (dw_P a ac s0) → va_S A s.heap H locs → lv_has ls 2 [(1, .int x1)] → W p l e (headSpec ow_dm_X7_fits ({ frames := 0, cells := 0, slots := 0, locals := 0 })).room s m args below meth c H locs 0 0 Q (F0 m 279 ls [])
def dj_X7_fits_278 (p : Program) (l : Launch) (e : Env) (s : State) (m : MethodId) (args : Array Value) (below : List Frame) (meth : Method) (c : Code) (Q : State → Prop) (A : Nat → Prop) (dC : Nat → ClassId) (dI : Nat → Nat → Nat) (a : Nat → Nat) (ac : Nat → ClassId) (g : Int32 → (Unit) → Option (Int32 × (Unit))) (r : Int32 × (Unit)) : Prop := ∀ (y0 : Int32) (s0 : Unit) (H : Heap) (locs : List Loc) (ls : Array Slot), g y0 s0 = some r → va_P (dC, dI) vwCl (dw_P a ac s0) H → va_D A (dw_P a ac s0) → va_S A s.heap H locs → lv_has ls 2 [] → W p l e (headSpec ow_dm_X7_fits ({ frames := 0, cells := 0, slots := 0, locals := 0 })).room s m args below meth c H locs 0 0 Q (F0 m 278 ls [.int y0])
def dj_X7_fits_277 (p : Program) (l : Launch) (e : Env) (s : State) (m : MethodId) (args : Array Value) (below : List Frame) (meth : Method) (c : Code) (Q : State → Prop) (A : Nat → Prop) (dC : Nat → ClassId) (dI : Nat → Nat → Nat) (a : Nat → Nat) (ac : Nat → ClassId) (g : (Unit) → Option (Int32 × (Unit))) (r : Int32 × (Unit)) : Prop := ∀ (s0 : Unit) (H : Heap) (locs : List Loc) (ls : Array Slot), g s0 = some r → va_P (dC, dI) vwCl (dw_P a ac s0) H → va_D A (dw_P a ac s0) → va_S A s.heap H locs → lv_has ls 2 [] → W p l e (headSpec ow_dm_X7_fits ({ frames := 0, cells := 0, slots := 0, locals := 0 })).room s m args below meth c H locs 0 0 Q (F0 m 277 ls [])
def dj_X7_fits_259 (p : Program) (l : Launch) (e : Env) (s : State) (m : MethodId) (args : Array Value) (below : List Frame) (meth : Method) (c : Code) (Q : State → Prop) (A : Nat → Prop) (dC : Nat → ClassId) (dI : Nat → Nat → Nat) (a : Nat → Nat) (ac : Nat → ClassId) (g : Int32 → (Unit) → Option (Int32 × (Unit))) (r : Int32 × (Unit)) : Prop := ∀ (x1 : Int32) (s0 : Unit) (H : Heap) (locs : List Loc) (ls : Array Slot), g x1 s0 = some r → va_P (dC, dI) vwCl (dw_P a ac s0) H → va_D A (dw_P a ac s0) → va_S A s.heap H locs → lv_has ls 2 [(1, .int x1)] → W p l e (headSpec ow_dm_X7_fits ({ frames := 0, cells := 0, slots := 0, locals := 0 })).room s m args below meth c H locs 0 0 Q (F0 m 259 ls [])
def dj_X7_fits_363 (p : Program) (l : Launch) (e : Env) (s : State) (m : MethodId) (args : Array Value) (below : List Frame) (meth : Method) (c : Code) (Q : State → Prop) (A : Nat → Prop) (dC : Nat → ClassId) (dI : Nat → Nat → Nat) (a : Nat → Nat) (ac : Nat → ClassId) (g : Int32 → (Unit) → Option (Int32 × (Unit))) (r : Int32 × (Unit)) : Prop := ∀ (y0 : Int32) (s0 : Unit) (H : Heap) (locs : List Loc) (ls : Array Slot), g y0 s0 = some r → va_P (dC, dI) vwCl (dw_P a ac s0) H → va_D A (dw_P a ac s0) → va_S A s.heap H locs → lv_has ls 2 [] → W p l e (headSpec ow_dm_X7_fits ({ frames := 0, cells := 0, slots := 0, locals := 0 })).room s m args below meth c H locs 0 0 Q (F0 m 363 ls [.int y0])
def dj_X7_fits_362 (p : Program) (l : Launch) (e : Env) (s : State) (m : MethodId) (args : Array Value) (below : List Frame) (meth : Method) (c : Code) (Q : State → Prop) (A : Nat → Prop) (dC : Nat → ClassId) (dI : Nat → Nat → Nat) (a : Nat → Nat) (ac : Nat → ClassId) (g : (Unit) → Option (Int32 × (Unit))) (r : Int32 × (Unit)) : Prop := ∀ (s0 : Unit) (H : Heap) (locs : List Loc) (ls : Array Slot), g s0 = some r → va_P (dC, dI) vwCl (dw_P a ac s0) H → va_D A (dw_P a ac s0) → va_S A s.heap H locs → lv_has ls 2 [] → W p l e (headSpec ow_dm_X7_fits ({ frames := 0, cells := 0, slots := 0, locals := 0 })).room s m args below meth c H locs 0 0 Q (F0 m 362 ls [])
def dj_X7_fits_389 (p : Program) (l : Launch) (e : Env) (s : State) (m : MethodId) (args : Array Value) (below : List Frame) (meth : Method) (c : Code) (Q : State → Prop) (A : Nat → Prop) (dC : Nat → ClassId) (dI : Nat → Nat → Nat) (a : Nat → Nat) (ac : Nat → ClassId) (g : Int32 → (Unit) → Option (Int32 × (Unit))) (r : Int32 × (Unit)) : Prop := ∀ (y0 : Int32) (s0 : Unit) (H : Heap) (locs : List Loc) (ls : Array Slot), g y0 s0 = some r → va_P (dC, dI) vwCl (dw_P a ac s0) H → va_D A (dw_P a ac s0) → va_S A s.heap H locs → lv_has ls 2 [] → W p l e (headSpec ow_dm_X7_fits ({ frames := 0, cells := 0, slots := 0, locals := 0 })).room s m args below meth c H locs 0 0 Q (F0 m 389 ls [.int y0])
def dj_X7_fits_388 (p : Program) (l : Launch) (e : Env) (s : State) (m : MethodId) (args : Array Value) (below : List Frame) (meth : Method) (c : Code) (Q : State → Prop) (A : Nat → Prop) (dC : Nat → ClassId) (dI : Nat → Nat → Nat) (a : Nat → Nat) (ac : Nat → ClassId) (g : (Unit) → Option (Int32 × (Unit))) (r : Int32 × (Unit)) : Prop := ∀ (s0 : Unit) (H : Heap) (locs : List Loc) (ls : Array Slot), g s0 = some r → va_P (dC, dI) vwCl (dw_P a ac s0) H → va_D A (dw_P a ac s0) → va_S A s.heap H locs → lv_has ls 2 [] → W p l e (headSpec ow_dm_X7_fits ({ frames := 0, cells := 0, slots := 0, locals := 0 })).room s m args below meth c H locs 0 0 Q (F0 m 388 ls [])
def dj_X7_fits_415 (p : Program) (l : Launch) (e : Env) (s : State) (m : MethodId) (args : Array Value) (below : List Frame) (meth : Method) (c : Code) (Q : State → Prop) (A : Nat → Prop) (dC : Nat → ClassId) (dI : Nat → Nat → Nat) (a : Nat → Nat) (ac : Nat → ClassId) (g : Int32 → (Unit) → Option (Int32 × (Unit))) (r : Int32 × (Unit)) : Prop := ∀ (y0 : Int32) (s0 : Unit) (H : Heap) (locs : List Loc) (ls : Array Slot), g y0 s0 = some r → va_P (dC, dI) vwCl (dw_P a ac s0) H → va_D A (dw_P a ac s0) → va_S A s.heap H locs → lv_has ls 2 [] → W p l e (headSpec ow_dm_X7_fits ({ frames := 0, cells := 0, slots := 0, locals := 0 })).room s m args below meth c H locs 0 0 Q (F0 m 415 ls [.int y0])
def dj_X7_fits_414 (p : Program) (l : Launch) (e : Env) (s : State) (m : MethodId) (args : Array Value) (below : List Frame) (meth : Method) (c : Code) (Q : State → Prop) (A : Nat → Prop) (dC : Nat → ClassId) (dI : Nat → Nat → Nat) (a : Nat → Nat) (ac : Nat → ClassId) (g : (Unit) → Option (Int32 × (Unit))) (r : Int32 × (Unit)) : Prop := ∀ (s0 : Unit) (H : Heap) (locs : List Loc) (ls : Array Slot), g s0 = some r → va_P (dC, dI) vwCl (dw_P a ac s0) H → va_D A (dw_P a ac s0) → va_S A s.heap H locs → lv_has ls 2 [] → W p l e (headSpec ow_dm_X7_fits ({ frames := 0, cells := 0, slots := 0, locals := 0 })).room s m args below meth c H locs 0 0 Q (F0 m 414 ls [])
def dj_X7_fits_455 (p : Program) (l : Launch) (e : Env) (s : State) (m : MethodId) (args : Array Value) (below : List Frame) (meth : Method) (c : Code) (Q : State → Prop) (A : Nat → Prop) (dC : Nat → ClassId) (dI : Nat → Nat → Nat) (a : Nat → Nat) (ac : Nat → ClassId) (g : Int32 → (Unit) → Option (Int32 × (Unit))) (r : Int32 × (Unit)) : Prop := ∀ (y0 : Int32) (s0 : Unit) (H : Heap) (locs : List Loc) (ls : Array Slot), g y0 s0 = some r → va_P (dC, dI) vwCl (dw_P a ac s0) H → va_D A (dw_P a ac s0) → va_S A s.heap H locs → lv_has ls 2 [] → W p l e (headSpec ow_dm_X7_fits ({ frames := 0, cells := 0, slots := 0, locals := 0 })).room s m args below meth c H locs 0 0 Q (F0 m 455 ls [.int y0])
def dj_X7_fits_454 (p : Program) (l : Launch) (e : Env) (s : State) (m : MethodId) (args : Array Value) (below : List Frame) (meth : Method) (c : Code) (Q : State → Prop) (A : Nat → Prop) (dC : Nat → ClassId) (dI : Nat → Nat → Nat) (a : Nat → Nat) (ac : Nat → ClassId) (g : (Unit) → Option (Int32 × (Unit))) (r : Int32 × (Unit)) : Prop := ∀ (s0 : Unit) (H : Heap) (locs : List Loc) (ls : Array Slot), g s0 = some r → va_P (dC, dI) vwCl (dw_P a ac s0) H → va_D A (dw_P a ac s0) → va_S A s.heap H locs → lv_has ls 2 [] → W p l e (headSpec ow_dm_X7_fits ({ frames := 0, cells := 0, slots := 0, locals := 0 })).room s m args below meth c H locs 0 0 Q (F0 m 454 ls [])
def dj_X7_fits_433 (p : Program) (l : Launch) (e : Env) (s : State) (m : MethodId) (args : Array Value) (below : List Frame) (meth : Method) (c : Code) (Q : State → Prop) (A : Nat → Prop) (dC : Nat → ClassId) (dI : Nat → Nat → Nat) (a : Nat → Nat) (ac : Nat → ClassId) (g : Int32 → (Unit) → Option (Int32 × (Unit))) (r : Int32 × (Unit)) : Prop := ∀ (y0 : Int32) (s0 : Unit) (H : Heap) (locs : List Loc) (ls : Array Slot), g y0 s0 = some r → va_P (dC, dI) vwCl (dw_P a ac s0) H → va_D A (dw_P a ac s0) → va_S A s.heap H locs → lv_has ls 2 [] → W p l e (headSpec ow_dm_X7_fits ({ frames := 0, cells := 0, slots := 0, locals := 0 })).room s m args below meth c H locs 0 0 Q (F0 m 433 ls [.int y0])
def dj_X7_fits_432 (p : Program) (l : Launch) (e : Env) (s : State) (m : MethodId) (args : Array Value) (below : List Frame) (meth : Method) (c : Code) (Q : State → Prop) (A : Nat → Prop) (dC : Nat → ClassId) (dI : Nat → Nat → Nat) (a : Nat → Nat) (ac : Nat → ClassId) (g : (Unit) → Option (Int32 × (Unit))) (r : Int32 × (Unit)) : Prop := ∀ (s0 : Unit) (H : Heap) (locs : List Loc) (ls : Array Slot), g s0 = some r → va_P (dC, dI) vwCl (dw_P a ac s0) H → va_D A (dw_P a ac s0) → va_S A s.heap H locs → lv_has ls 2 [] → W p l e (headSpec ow_dm_X7_fits ({ frames := 0, cells := 0, slots := 0, locals := 0 })).room s m args below meth c H locs 0 0 Q (F0 m 432 ls [])
def dj_X7_fits_556 (p : Program) (l : Launch) (e : Env) (s : State) (m : MethodId) (args : Array Value) (below : List Frame) (meth : Method) (c : Code) (Q : State → Prop) (A : Nat → Prop) (dC : Nat → ClassId) (dI : Nat → Nat → Nat) (a : Nat → Nat) (ac : Nat → ClassId) (g : (Unit) → Option (Int32 × (Unit))) (r : Int32 × (Unit)) : Prop := ∀ (s0 : Unit) (H : Heap) (locs : List Loc) (ls : Array Slot), g s0 = some r → va_P (dC, dI) vwCl (dw_P a ac s0) H → va_D A (dw_P a ac s0) → va_S A s.heap H locs → lv_has ls 2 [] → W p l e (headSpec ow_dm_X7_fits ({ frames := 0, cells := 0, slots := 0, locals := 0 })).room s m args below meth c H locs 0 0 Q (F0 m 556 ls [])
def dj_X7_fits_555 (p : Program) (l : Launch) (e : Env) (s : State) (m : MethodId) (args : Array Value) (below : List Frame) (meth : Method) (c : Code) (Q : State → Prop) (A : Nat → Prop) (dC : Nat → ClassId) (dI : Nat → Nat → Nat) (a : Nat → Nat) (ac : Nat → ClassId) (g : Int32 → (Unit) → Option (Int32 × (Unit))) (r : Int32 × (Unit)) : Prop := ∀ (y0 : Int32) (s0 : Unit) (H : Heap) (locs : List Loc) (ls : Array Slot), g y0 s0 = some r → va_P (dC, dI) vwCl (dw_P a ac s0) H → va_D A (dw_P a ac s0) → va_S A s.heap H locs → lv_has ls 2 [] → W p l e (headSpec ow_dm_X7_fits ({ frames := 0, cells := 0, slots := 0, locals := 0 })).room s m args below meth c H locs 0 0 Q (F0 m 555 ls [.int y0])
def dj_X7_fits_554 (p : Program) (l : Launch) (e : Env) (s : State) (m : MethodId) (args : Array Value) (below : List Frame) (meth : Method) (c : Code) (Q : State → Prop) (A : Nat → Prop) (dC : Nat → ClassId) (dI : Nat → Nat → Nat) (a : Nat → Nat) (ac : Nat → ClassId) (g : (Unit) → Option (Int32 × (Unit))) (r : Int32 × (Unit)) : Prop := ∀ (s0 : Unit) (H : Heap) (locs : List Loc) (ls : Array Slot), g s0 = some r → va_P (dC, dI) vwCl (dw_P a ac s0) H → va_D A (dw_P a ac s0) → va_S A s.heap H locs → lv_has ls 2 [] → W p l e (headSpec ow_dm_X7_fits ({ frames := 0, cells := 0, slots := 0, locals := 0 })).room s m args below meth c H locs 0 0 Q (F0 m 554 ls [])
def dj_X7_fits_533 (p : Program) (l : Launch) (e : Env) (s : State) (m : MethodId) (args : Array Value) (below : List Frame) (meth : Method) (c : Code) (Q : State → Prop) (A : Nat → Prop) (dC : Nat → ClassId) (dI : Nat → Nat → Nat) (a : Nat → Nat) (ac : Nat → ClassId) (g : Int32 → (Unit) → Option (Int32 × (Unit))) (r : Int32 × (Unit)) : Prop := ∀ (x1 : Int32) (s0 : Unit) (H : Heap) (locs : List Loc) (ls : Array Slot), g x1 s0 = some r → va_P (dC, dI) vwCl (dw_P a ac s0) H → va_D A (dw_P a ac s0) → va_S A s.heap H locs → lv_has ls 2 [(1, .int x1)] → W p l e (headSpec ow_dm_X7_fits ({ frames := 0, cells := 0, slots := 0, locals := 0 })).room s m args below meth c H locs 0 0 Q (F0 m 533 ls [])
def dj_X7_fits_337 (p : Program) (l : Launch) (e : Env) (s : State) (m : MethodId) (args : Array Value) (below : List Frame) (meth : Method) (c : Code) (Q : State → Prop) (A : Nat → Prop) (dC : Nat → ClassId) (dI : Nat → Nat → Nat) (a : Nat → Nat) (ac : Nat → ClassId) (g : Int32 → (Unit) → Option (Int32 × (Unit))) (r : Int32 × (Unit)) : Prop := ∀ (y0 : Int32) (s0 : Unit) (H : Heap) (locs : List Loc) (ls : Array Slot), g y0 s0 = some r → va_P (dC, dI) vwCl (dw_P a ac s0) H → va_D A (dw_P a ac s0) → va_S A s.heap H locs → lv_has ls 2 [] → W p l e (headSpec ow_dm_X7_fits ({ frames := 0, cells := 0, slots := 0, locals := 0 })).room s m args below meth c H locs 0 0 Q (F0 m 337 ls [.int y0])
def dj_X7_fits_336 (p : Program) (l : Launch) (e : Env) (s : State) (m : MethodId) (args : Array Value) (below : List Frame) (meth : Method) (c : Code) (Q : State → Prop) (A : Nat → Prop) (dC : Nat → ClassId) (dI : Nat → Nat → Nat) (a : Nat → Nat) (ac : Nat → ClassId) (g : (Unit) → Option (Int32 × (Unit))) (r : Int32 × (Unit)) : Prop := ∀ (s0 : Unit) (H : Heap) (locs : List Loc) (ls : Array Slot), g s0 = some r → va_P (dC, dI) vwCl (dw_P a ac s0) H → va_D A (dw_P a ac s0) → va_S A s.heap H locs → lv_has ls 2 [] → W p l e (headSpec ow_dm_X7_fits ({ frames := 0, cells := 0, slots := 0, locals := 0 })).room s m args below meth c H locs 0 0 Q (F0 m 336 ls [])
def dj_X7_fits_311 (p : Program) (l : Launch) (e : Env) (s : State) (m : MethodId) (args : Array Value) (below : List Frame) (meth : Method) (c : Code) (Q : State → Prop) (A : Nat → Prop) (dC : Nat → ClassId) (dI : Nat → Nat → Nat) (a : Nat → Nat) (ac : Nat → ClassId) (g : Int32 → (Unit) → Option (Int32 × (Unit))) (r : Int32 × (Unit)) : Prop := ∀ (y0 : Int32) (s0 : Unit) (H : Heap) (locs : List Loc) (ls : Array Slot), g y0 s0 = some r → va_P (dC, dI) vwCl (dw_P a ac s0) H → va_D A (dw_P a ac s0) → va_S A s.heap H locs → lv_has ls 2 [] → W p l e (headSpec ow_dm_X7_fits ({ frames := 0, cells := 0, slots := 0, locals := 0 })).room s m args below meth c H locs 0 0 Q (F0 m 311 ls [.int y0])
def dj_X7_fits_310 (p : Program) (l : Launch) (e : Env) (s : State) (m : MethodId) (args : Array Value) (below : List Frame) (meth : Method) (c : Code) (Q : State → Prop) (A : Nat → Prop) (dC : Nat → ClassId) (dI : Nat → Nat → Nat) (a : Nat → Nat) (ac : Nat → ClassId) (g : (Unit) → Option (Int32 × (Unit))) (r : Int32 × (Unit)) : Prop := ∀ (s0 : Unit) (H : Heap) (locs : List Loc) (ls : Array Slot), g s0 = some r → va_P (dC, dI) vwCl (dw_P a ac s0) H → va_D A (dw_P a ac s0) → va_S A s.heap H locs → lv_has ls 2 [] → W p l e (headSpec ow_dm_X7_fits ({ frames := 0, cells := 0, slots := 0, locals := 0 })).room s m args below meth c H locs 0 0 Q (F0 m 310 ls [])
def dj_X7_fits_501 (p : Program) (l : Launch) (e : Env) (s : State) (m : MethodId) (args : Array Value) (below : List Frame) (meth : Method) (c : Code) (Q : State → Prop) (A : Nat → Prop) (dC : Nat → ClassId) (dI : Nat → Nat → Nat) (a : Nat → Nat) (ac : Nat → ClassId) (g : Int32 → (Unit) → Option (Int32 × (Unit))) (r : Int32 × (Unit)) : Prop := ∀ (y0 : Int32) (s0 : Unit) (H : Heap) (locs : List Loc) (ls : Array Slot), g y0 s0 = some r → va_P (dC, dI) vwCl (dw_P a ac s0) H → va_D A (dw_P a ac s0) → va_S A s.heap H locs → lv_has ls 2 [] → W p l e (headSpec ow_dm_X7_fits ({ frames := 0, cells := 0, slots := 0, locals := 0 })).room s m args below meth c H locs 0 0 Q (F0 m 501 ls [.int y0])
def dj_X7_fits_500 (p : Program) (l : Launch) (e : Env) (s : State) (m : MethodId) (args : Array Value) (below : List Frame) (meth : Method) (c : Code) (Q : State → Prop) (A : Nat → Prop) (dC : Nat → ClassId) (dI : Nat → Nat → Nat) (a : Nat → Nat) (ac : Nat → ClassId) (g : (Unit) → Option (Int32 × (Unit))) (r : Int32 × (Unit)) : Prop := ∀ (s0 : Unit) (H : Heap) (locs : List Loc) (ls : Array Slot), g s0 = some r → va_P (dC, dI) vwCl (dw_P a ac s0) H → va_D A (dw_P a ac s0) → va_S A s.heap H locs → lv_has ls 2 [] → W p l e (headSpec ow_dm_X7_fits ({ frames := 0, cells := 0, slots := 0, locals := 0 })).room s m args below meth c H locs 0 0 Q (F0 m 500 ls [])
def dj_X7_fits_479 (p : Program) (l : Launch) (e : Env) (s : State) (m : MethodId) (args : Array Value) (below : List Frame) (meth : Method) (c : Code) (Q : State → Prop) (A : Nat → Prop) (dC : Nat → ClassId) (dI : Nat → Nat → Nat) (a : Nat → Nat) (ac : Nat → ClassId) (g : Int32 → (Unit) → Option (Int32 × (Unit))) (r : Int32 × (Unit)) : Prop := ∀ (y0 : Int32) (s0 : Unit) (H : Heap) (locs : List Loc) (ls : Array Slot), g y0 s0 = some r → va_P (dC, dI) vwCl (dw_P a ac s0) H → va_D A (dw_P a ac s0) → va_S A s.heap H locs → lv_has ls 2 [] → W p l e (headSpec ow_dm_X7_fits ({ frames := 0, cells := 0, slots := 0, locals := 0 })).room s m args below meth c H locs 0 0 Q (F0 m 479 ls [.int y0])
def dj_X7_fits_478 (p : Program) (l : Launch) (e : Env) (s : State) (m : MethodId) (args : Array Value) (below : List Frame) (meth : Method) (c : Code) (Q : State → Prop) (A : Nat → Prop) (dC : Nat → ClassId) (dI : Nat → Nat → Nat) (a : Nat → Nat) (ac : Nat → ClassId) (g : (Unit) → Option (Int32 × (Unit))) (r : Int32 × (Unit)) : Prop := ∀ (s0 : Unit) (H : Heap) (locs : List Loc) (ls : Array Slot), g s0 = some r → va_P (dC, dI) vwCl (dw_P a ac s0) H → va_D A (dw_P a ac s0) → va_S A s.heap H locs → lv_has ls 2 [] → W p l e (headSpec ow_dm_X7_fits ({ frames := 0, cells := 0, slots := 0, locals := 0 })).room s m args below meth c H locs 0 0 Q (F0 m 478 ls [])
def dj_X7_fits_532 (p : Program) (l : Launch) (e : Env) (s : State) (m : MethodId) (args : Array Value) (below : List Frame) (meth : Method) (c : Code) (Q : State → Prop) (A : Nat → Prop) (dC : Nat → ClassId) (dI : Nat → Nat → Nat) (a : Nat → Nat) (ac : Nat → ClassId) (g : Int32 → (Unit) → Option (Int32 × (Unit))) (r : Int32 × (Unit)) : Prop := ∀ (y0 : Int32) (s0 : Unit) (H : Heap) (locs : List Loc) (ls : Array Slot), g y0 s0 = some r → va_P (dC, dI) vwCl (dw_P a ac s0) H → va_D A (dw_P a ac s0) → va_S A s.heap H locs → lv_has ls 2 [] → W p l e (headSpec ow_dm_X7_fits ({ frames := 0, cells := 0, slots := 0, locals := 0 })).room s m args below meth c H locs 0 0 Q (F0 m 532 ls [.int y0])
def dj_X7_fits_531 (p : Program) (l : Launch) (e : Env) (s : State) (m : MethodId) (args : Array Value) (below : List Frame) (meth : Method) (c : Code) (Q : State → Prop) (A : Nat → Prop) (dC : Nat → ClassId) (dI : Nat → Nat → Nat) (a : Nat → Nat) (ac : Nat → ClassId) (g : (Unit) → Option (Int32 × (Unit))) (r : Int32 × (Unit)) : Prop := ∀ (s0 : Unit) (H : Heap) (locs : List Loc) (ls : Array Slot), g s0 = some r → va_P (dC, dI) vwCl (dw_P a ac s0) H → va_D A (dw_P a ac s0) → va_S A s.heap H locs → lv_has ls 2 [] → W p l e (headSpec ow_dm_X7_fits ({ frames := 0, cells := 0, slots := 0, locals := 0 })).room s m args below meth c H locs 0 0 Q (F0 m 531 ls [])
def dj_X7_fits_240 (p : Program) (l : Launch) (e : Env) (s : State) (m : MethodId) (args : Array Value) (below : List Frame) (meth : Method) (c : Code) (Q : State → Prop) (A : Nat → Prop) (dC : Nat → ClassId) (dI : Nat → Nat → Nat) (a : Nat → Nat) (ac : Nat → ClassId) (g : Int32 → (Unit) → Option (Int32 × (Unit))) (r : Int32 × (Unit)) : Prop := ∀ (y0 : Int32) (s0 : Unit) (H : Heap) (locs : List Loc) (ls : Array Slot), g y0 s0 = some r → va_P (dC, dI) vwCl (dw_P a ac s0) H → va_D A (dw_P a ac s0) → va_S A s.heap H locs → lv_has ls 2 [] → W p l e (headSpec ow_dm_X7_fits ({ frames := 0, cells := 0, slots := 0, locals := 0 })).room s m args below meth c H locs 0 0 Q (F0 m 240 ls [.int y0])
def dj_X7_fits_229 (p : Program) (l : Launch) (e : Env) (s : State) (m : MethodId) (args : Array Value) (below : List Frame) (meth : Method) (c : Code) (Q : State → Prop) (A : Nat → Prop) (dC : Nat → ClassId) (dI : Nat → Nat → Nat) (a : Nat → Nat) (ac : Nat → ClassId) (g : Int32 → (Unit) → Option (Int32 × (Unit))) (r : Int32 × (Unit)) : Prop := ∀ (y0 : Int32) (s0 : Unit) (H : Heap) (locs : List Loc) (ls : Array Slot), g y0 s0 = some r → va_P (dC, dI) vwCl (dw_P a ac s0) H → va_D A (dw_P a ac s0) → va_S A s.heap H locs → lv_has ls 2 [] → W p l e (headSpec ow_dm_X7_fits ({ frames := 0, cells := 0, slots := 0, locals := 0 })).room s m args below meth c H locs 0 0 Q (F0 m 229 ls [.int y0])
def dj_X7_fits_220 (p : Program) (l : Launch) (e : Env) (s : State) (m : MethodId) (args : Array Value) (below : List Frame) (meth : Method) (c : Code) (Q : State → Prop) (A : Nat → Prop) (dC : Nat → ClassId) (dI : Nat → Nat → Nat) (a : Nat → Nat) (ac : Nat → ClassId) (g : Int32 → (Unit) → Option (Int32 × (Unit))) (r : Int32 × (Unit)) : Prop := ∀ (x1 : Int32) (s0 : Unit) (H : Heap) (locs : List Loc) (ls : Array Slot), g x1 s0 = some r → va_P (dC, dI) vwCl (dw_P a ac s0) H → va_D A (dw_P a ac s0) → va_S A s.heap H locs → lv_has ls 2 [(1, .int x1)] → W p l e (headSpec ow_dm_X7_fits ({ frames := 0, cells := 0, slots := 0, locals := 0 })).room s m args below meth c H locs 0 0 Q (F0 m 220 ls [])
def dj_X7_fits_258 (p : Program) (l : Launch) (e : Env) (s : State) (m : MethodId) (args : Array Value) (below : List Frame) (meth : Method) (c : Code) (Q : State → Prop) (A : Nat → Prop) (dC : Nat → ClassId) (dI : Nat → Nat → Nat) (a : Nat → Nat) (ac : Nat → ClassId) (g : Int32 → (Unit) → Option (Int32 × (Unit))) (r : Int32 × (Unit)) : Prop := ∀ (y0 : Int32) (s0 : Unit) (H : Heap) (locs : List Loc) (ls : Array Slot), g y0 s0 = some r → va_P (dC, dI) vwCl (dw_P a ac s0) H → va_D A (dw_P a ac s0) → va_S A s.heap H locs → lv_has ls 2 [] → W p l e (headSpec ow_dm_X7_fits ({ frames := 0, cells := 0, slots := 0, locals := 0 })).room s m args below meth c H locs 0 0 Q (F0 m 258 ls [.int y0])
def dj_X7_fits_257 (p : Program) (l : Launch) (e : Env) (s : State) (m : MethodId) (args : Array Value) (below : List Frame) (meth : Method) (c : Code) (Q : State → Prop) (A : Nat → Prop) (dC : Nat → ClassId) (dI : Nat → Nat → Nat) (a : Nat → Nat) (ac : Nat → ClassId) (g : (Unit) → Option (Int32 × (Unit))) (r : Int32 × (Unit)) : Prop := ∀ (s0 : Unit) (H : Heap) (locs : List Loc) (ls : Array Slot), g s0 = some r → va_P (dC, dI) vwCl (dw_P a ac s0) H → va_D A (dw_P a ac s0) → va_S A s.heap H locs → lv_has ls 2 [] → W p l e (headSpec ow_dm_X7_fits ({ frames := 0, cells := 0, slots := 0, locals := 0 })).room s m args below meth c H locs 0 0 Q (F0 m 257 ls [])
def dj_X7_fits_241 (p : Program) (l : Launch) (e : Env) (s : State) (m : MethodId) (args : Array Value) (below : List Frame) (meth : Method) (c : Code) (Q : State → Prop) (A : Nat → Prop) (dC : Nat → ClassId) (dI : Nat → Nat → Nat) (a : Nat → Nat) (ac : Nat → ClassId) (g : Int32 → (Unit) → Option (Int32 × (Unit))) (r : Int32 × (Unit)) : Prop := ∀ (x1 : Int32) (s0 : Unit) (H : Heap) (locs : List Loc) (ls : Array Slot), g x1 s0 = some r → va_P (dC, dI) vwCl (dw_P a ac s0) H → va_D A (dw_P a ac s0) → va_S A s.heap H locs → lv_has ls 2 [(1, .int x1)] → W p l e (headSpec ow_dm_X7_fits ({ frames := 0, cells := 0, slots := 0, locals := 0 })).room s m args below meth c H locs 0 0 Q (F0 m 241 ls [])
def dj_X7_fits_0 (p : Program) (l : Launch) (e : Env) (s : State) (m : MethodId) (args : Array Value) (below : List Frame) (meth : Method) (c : Code) (Q : State → Prop) (A : Nat → Prop) (dC : Nat → ClassId) (dI : Nat → Nat → Nat) (a : Nat → Nat) (ac : Nat → ClassId) (g : Int32 → Int32 → (Unit) → Option (Int32 × (Unit))) (r : Int32 × (Unit)) : Prop := ∀ (v0 : Int32) (v1 : Int32) (s0 : Unit) (H : Heap) (locs : List Loc) (ls : Array Slot), g v0 v1 s0 = some r → va_P (dC, dI) vwCl (dw_P a ac s0) H → va_D A (dw_P a ac s0) → va_S A s.heap H locs → lv_has ls 2 [(0, .int v0), (1, .int v1)] → W p l e (headSpec ow_dm_X7_fits ({ frames := 0, cells := 0, slots := 0, locals := 0 })).room s m args below meth c H locs 0 0 Q (F0 m 0 ls [])
set_option maxHeartbeats 40000000 in
set_option maxRecDepth 100000 in
theorem db_X7_fits_294 {p : Program} {l : Launch} {e : Env} {s : State} {m : MethodId} {args : Array Value} {below : List Frame} {meth : Method} {c : Code} {Q : State → Prop} {A : Nat → Prop} {dC : Nat → ClassId} {dI : Nat → Nat → Nat} {a : Nat → Nat} {ac : Nat → ClassId} {n : Nat} {r : Int32 × (Unit)} (C : nd_C p l s m args c A (dC, dI) cX7_fits 2 RX7 ow_dm_X7_fits (dk_P ac)) (K : nd_Ki p l e (headSpec ow_dm_X7_fits ({ frames := 0, cells := 0, slots := 0, locals := 0 })).room s m args below meth c Q A (dC, dI) cX7_fits .boolean (Unit) (dw_P a ac) r) : dj_X7_fits_294 p l e s m args below meth c Q A dC dI a ac (df_X7_fits_294 n) r := by
  obtain ⟨hlt, hx, hb, hml, hown, hts, hN, hA, hK⟩ := id C
  intro y0 s0 H locs ls h hP hD hS hl
  unfold df_X7_fits_294 at h
  obtain ⟨n3, h⟩ := nd_z_e ⟨_, rfl⟩ h
  exact K _ _ _ _ _ _ dX7_fits_294 n3 (Option.some.inj h).symm hP hD hS
set_option maxHeartbeats 40000000 in
set_option maxRecDepth 100000 in
theorem db_X7_fits_293 {p : Program} {l : Launch} {e : Env} {s : State} {m : MethodId} {args : Array Value} {below : List Frame} {meth : Method} {c : Code} {Q : State → Prop} {A : Nat → Prop} {dC : Nat → ClassId} {dI : Nat → Nat → Nat} {a : Nat → Nat} {ac : Nat → ClassId} {n : Nat} {r : Int32 × (Unit)} (C : nd_C p l s m args c A (dC, dI) cX7_fits 2 RX7 ow_dm_X7_fits (dk_P ac)) (K : nd_Ki p l e (headSpec ow_dm_X7_fits ({ frames := 0, cells := 0, slots := 0, locals := 0 })).room s m args below meth c Q A (dC, dI) cX7_fits .boolean (Unit) (dw_P a ac) r) : dj_X7_fits_293 p l e s m args below meth c Q A dC dI a ac (df_X7_fits_293 n) r := by
  obtain ⟨hlt, hx, hb, hml, hown, hts, hN, hA, hK⟩ := id C
  intro s0 H locs ls h hP hD hS hl
  unfold df_X7_fits_293 at h
  refine lv_iconst (v := 0) hx hb dX7_fits_293 (by decide) ?_
  exact (db_X7_fits_294 C K) (0) s0 _ _ _ h hP hD hS (lv_sub hl [] rfl)
set_option maxHeartbeats 40000000 in
set_option maxRecDepth 100000 in
theorem db_X7_fits_279 {p : Program} {l : Launch} {e : Env} {s : State} {m : MethodId} {args : Array Value} {below : List Frame} {meth : Method} {c : Code} {Q : State → Prop} {A : Nat → Prop} {dC : Nat → ClassId} {dI : Nat → Nat → Nat} {a : Nat → Nat} {ac : Nat → ClassId} {n : Nat} {r : Int32 × (Unit)} (C : nd_C p l s m args c A (dC, dI) cX7_fits 2 RX7 ow_dm_X7_fits (dk_P ac)) (K : nd_Ki p l e (headSpec ow_dm_X7_fits ({ frames := 0, cells := 0, slots := 0, locals := 0 })).room s m args below meth c Q A (dC, dI) cX7_fits .boolean (Unit) (dw_P a ac) r) : dj_X7_fits_279 p l e s m args below meth c Q A dC dI a ac (df_X7_fits_279 n) r := by
  obtain ⟨hlt, hx, hb, hml, hown, hts, hN, hA, hK⟩ := id C
  intro x1 s0 H locs ls h hP hD hS hl
  unfold df_X7_fits_279 at h
  refine lv_iload_n hx hb dX7_fits_279 rfl (lv_at hl 0 rfl) ?_
  refine lv_if_lt (tgt := 293) hx hb dX7_fits_280 (by decide) (fun c2 => ?_) (fun c2 => ?_)
  · have h := nd_pos h c2
    exact (db_X7_fits_293 C K)  s0 _ _ _ h hP hD hS (lv_sub hl [] rfl)
  · have h := nd_neg h c2
    refine lv_iload_n hx hb dX7_fits_283 rfl (lv_at hl 0 rfl) ?_
    refine lv_bipush (v := 31) hx hb dX7_fits_284 (by decide) ?_
    refine lv_icmp_gt (tgt := 293) hx hb dX7_fits_286 (by decide) (fun c4 => ?_) (fun c4 => ?_)
    · have h := nd_pos h c4
      exact (db_X7_fits_293 C K)  s0 _ _ _ h hP hD hS (lv_sub hl [] rfl)
    · have h := nd_neg h c4
      refine lv_iconst (v := 1) hx hb dX7_fits_289 (by decide) ?_
      refine lv_goto (tgt := 294) hx hb dX7_fits_290 (by decide) ?_
      exact (db_X7_fits_294 C K) (1) s0 _ _ _ h hP hD hS (lv_sub hl [] rfl)
set_option maxHeartbeats 40000000 in
set_option maxRecDepth 100000 in
theorem db_X7_fits_278 {p : Program} {l : Launch} {e : Env} {s : State} {m : MethodId} {args : Array Value} {below : List Frame} {meth : Method} {c : Code} {Q : State → Prop} {A : Nat → Prop} {dC : Nat → ClassId} {dI : Nat → Nat → Nat} {a : Nat → Nat} {ac : Nat → ClassId} {n : Nat} {r : Int32 × (Unit)} (C : nd_C p l s m args c A (dC, dI) cX7_fits 2 RX7 ow_dm_X7_fits (dk_P ac)) (K : nd_Ki p l e (headSpec ow_dm_X7_fits ({ frames := 0, cells := 0, slots := 0, locals := 0 })).room s m args below meth c Q A (dC, dI) cX7_fits .boolean (Unit) (dw_P a ac) r) : dj_X7_fits_278 p l e s m args below meth c Q A dC dI a ac (df_X7_fits_278 n) r := by
  obtain ⟨hlt, hx, hb, hml, hown, hts, hN, hA, hK⟩ := id C
  intro y0 s0 H locs ls h hP hD hS hl
  unfold df_X7_fits_278 at h
  obtain ⟨n7, h⟩ := nd_z_e ⟨_, rfl⟩ h
  exact K _ _ _ _ _ _ dX7_fits_278 n7 (Option.some.inj h).symm hP hD hS
set_option maxHeartbeats 40000000 in
set_option maxRecDepth 100000 in
theorem db_X7_fits_277 {p : Program} {l : Launch} {e : Env} {s : State} {m : MethodId} {args : Array Value} {below : List Frame} {meth : Method} {c : Code} {Q : State → Prop} {A : Nat → Prop} {dC : Nat → ClassId} {dI : Nat → Nat → Nat} {a : Nat → Nat} {ac : Nat → ClassId} {n : Nat} {r : Int32 × (Unit)} (C : nd_C p l s m args c A (dC, dI) cX7_fits 2 RX7 ow_dm_X7_fits (dk_P ac)) (K : nd_Ki p l e (headSpec ow_dm_X7_fits ({ frames := 0, cells := 0, slots := 0, locals := 0 })).room s m args below meth c Q A (dC, dI) cX7_fits .boolean (Unit) (dw_P a ac) r) : dj_X7_fits_277 p l e s m args below meth c Q A dC dI a ac (df_X7_fits_277 n) r := by
  obtain ⟨hlt, hx, hb, hml, hown, hts, hN, hA, hK⟩ := id C
  intro s0 H locs ls h hP hD hS hl
  unfold df_X7_fits_277 at h
  refine lv_iconst (v := 0) hx hb dX7_fits_277 (by decide) ?_
  exact (db_X7_fits_278 C K) (0) s0 _ _ _ h hP hD hS (lv_sub hl [] rfl)
set_option maxHeartbeats 40000000 in
set_option maxRecDepth 100000 in
theorem db_X7_fits_259 {p : Program} {l : Launch} {e : Env} {s : State} {m : MethodId} {args : Array Value} {below : List Frame} {meth : Method} {c : Code} {Q : State → Prop} {A : Nat → Prop} {dC : Nat → ClassId} {dI : Nat → Nat → Nat} {a : Nat → Nat} {ac : Nat → ClassId} {n : Nat} {r : Int32 × (Unit)} (C : nd_C p l s m args c A (dC, dI) cX7_fits 2 RX7 ow_dm_X7_fits (dk_P ac)) (K : nd_Ki p l e (headSpec ow_dm_X7_fits ({ frames := 0, cells := 0, slots := 0, locals := 0 })).room s m args below meth c Q A (dC, dI) cX7_fits .boolean (Unit) (dw_P a ac) r) : dj_X7_fits_259 p l e s m args below meth c Q A dC dI a ac (df_X7_fits_259 n) r := by
  obtain ⟨hlt, hx, hb, hml, hown, hts, hN, hA, hK⟩ := id C
  intro x1 s0 H locs ls h hP hD hS hl
  unfold df_X7_fits_259 at h
  refine lv_iload_n hx hb dX7_fits_259 rfl (lv_at hl 0 rfl) ?_
  refine lv_sipush (v := (-2048)) hx hb dX7_fits_260 (by decide) ?_
  refine lv_icmp_lt (tgt := 277) hx hb dX7_fits_263 (by decide) (fun c6 => ?_) (fun c6 => ?_)
  · have h := nd_pos h c6
    exact (db_X7_fits_277 C K)  s0 _ _ _ h hP hD hS (lv_sub hl [] rfl)
  · have h := nd_neg h c6
    refine lv_iload_n hx hb dX7_fits_266 rfl (lv_at hl 0 rfl) ?_
    refine lv_sipush (v := 2047) hx hb dX7_fits_267 (by decide) ?_
    refine lv_icmp_gt (tgt := 277) hx hb dX7_fits_270 (by decide) (fun c8 => ?_) (fun c8 => ?_)
    · have h := nd_pos h c8
      exact (db_X7_fits_277 C K)  s0 _ _ _ h hP hD hS (lv_sub hl [] rfl)
    · have h := nd_neg h c8
      refine lv_iconst (v := 1) hx hb dX7_fits_273 (by decide) ?_
      refine lv_goto (tgt := 278) hx hb dX7_fits_274 (by decide) ?_
      exact (db_X7_fits_278 C K) (1) s0 _ _ _ h hP hD hS (lv_sub hl [] rfl)
set_option maxHeartbeats 40000000 in
set_option maxRecDepth 100000 in
theorem db_X7_fits_363 {p : Program} {l : Launch} {e : Env} {s : State} {m : MethodId} {args : Array Value} {below : List Frame} {meth : Method} {c : Code} {Q : State → Prop} {A : Nat → Prop} {dC : Nat → ClassId} {dI : Nat → Nat → Nat} {a : Nat → Nat} {ac : Nat → ClassId} {n : Nat} {r : Int32 × (Unit)} (C : nd_C p l s m args c A (dC, dI) cX7_fits 2 RX7 ow_dm_X7_fits (dk_P ac)) (K : nd_Ki p l e (headSpec ow_dm_X7_fits ({ frames := 0, cells := 0, slots := 0, locals := 0 })).room s m args below meth c Q A (dC, dI) cX7_fits .boolean (Unit) (dw_P a ac) r) : dj_X7_fits_363 p l e s m args below meth c Q A dC dI a ac (df_X7_fits_363 n) r := by
  obtain ⟨hlt, hx, hb, hml, hown, hts, hN, hA, hK⟩ := id C
  intro y0 s0 H locs ls h hP hD hS hl
  unfold df_X7_fits_363 at h
  obtain ⟨n11, h⟩ := nd_z_e ⟨_, rfl⟩ h
  exact K _ _ _ _ _ _ dX7_fits_363 n11 (Option.some.inj h).symm hP hD hS
set_option maxHeartbeats 40000000 in
set_option maxRecDepth 100000 in
theorem db_X7_fits_362 {p : Program} {l : Launch} {e : Env} {s : State} {m : MethodId} {args : Array Value} {below : List Frame} {meth : Method} {c : Code} {Q : State → Prop} {A : Nat → Prop} {dC : Nat → ClassId} {dI : Nat → Nat → Nat} {a : Nat → Nat} {ac : Nat → ClassId} {n : Nat} {r : Int32 × (Unit)} (C : nd_C p l s m args c A (dC, dI) cX7_fits 2 RX7 ow_dm_X7_fits (dk_P ac)) (K : nd_Ki p l e (headSpec ow_dm_X7_fits ({ frames := 0, cells := 0, slots := 0, locals := 0 })).room s m args below meth c Q A (dC, dI) cX7_fits .boolean (Unit) (dw_P a ac) r) : dj_X7_fits_362 p l e s m args below meth c Q A dC dI a ac (df_X7_fits_362 n) r := by
  obtain ⟨hlt, hx, hb, hml, hown, hts, hN, hA, hK⟩ := id C
  intro s0 H locs ls h hP hD hS hl
  unfold df_X7_fits_362 at h
  refine lv_iconst (v := 0) hx hb dX7_fits_362 (by decide) ?_
  exact (db_X7_fits_363 C K) (0) s0 _ _ _ h hP hD hS (lv_sub hl [] rfl)
set_option maxHeartbeats 40000000 in
set_option maxRecDepth 100000 in
theorem db_X7_fits_389 {p : Program} {l : Launch} {e : Env} {s : State} {m : MethodId} {args : Array Value} {below : List Frame} {meth : Method} {c : Code} {Q : State → Prop} {A : Nat → Prop} {dC : Nat → ClassId} {dI : Nat → Nat → Nat} {a : Nat → Nat} {ac : Nat → ClassId} {n : Nat} {r : Int32 × (Unit)} (C : nd_C p l s m args c A (dC, dI) cX7_fits 2 RX7 ow_dm_X7_fits (dk_P ac)) (K : nd_Ki p l e (headSpec ow_dm_X7_fits ({ frames := 0, cells := 0, slots := 0, locals := 0 })).room s m args below meth c Q A (dC, dI) cX7_fits .boolean (Unit) (dw_P a ac) r) : dj_X7_fits_389 p l e s m args below meth c Q A dC dI a ac (df_X7_fits_389 n) r := by
  obtain ⟨hlt, hx, hb, hml, hown, hts, hN, hA, hK⟩ := id C
  intro y0 s0 H locs ls h hP hD hS hl
  unfold df_X7_fits_389 at h
  obtain ⟨n16, h⟩ := nd_z_e ⟨_, rfl⟩ h
  exact K _ _ _ _ _ _ dX7_fits_389 n16 (Option.some.inj h).symm hP hD hS
set_option maxHeartbeats 40000000 in
set_option maxRecDepth 100000 in
theorem db_X7_fits_388 {p : Program} {l : Launch} {e : Env} {s : State} {m : MethodId} {args : Array Value} {below : List Frame} {meth : Method} {c : Code} {Q : State → Prop} {A : Nat → Prop} {dC : Nat → ClassId} {dI : Nat → Nat → Nat} {a : Nat → Nat} {ac : Nat → ClassId} {n : Nat} {r : Int32 × (Unit)} (C : nd_C p l s m args c A (dC, dI) cX7_fits 2 RX7 ow_dm_X7_fits (dk_P ac)) (K : nd_Ki p l e (headSpec ow_dm_X7_fits ({ frames := 0, cells := 0, slots := 0, locals := 0 })).room s m args below meth c Q A (dC, dI) cX7_fits .boolean (Unit) (dw_P a ac) r) : dj_X7_fits_388 p l e s m args below meth c Q A dC dI a ac (df_X7_fits_388 n) r := by
  obtain ⟨hlt, hx, hb, hml, hown, hts, hN, hA, hK⟩ := id C
  intro s0 H locs ls h hP hD hS hl
  unfold df_X7_fits_388 at h
  refine lv_iconst (v := 0) hx hb dX7_fits_388 (by decide) ?_
  exact (db_X7_fits_389 C K) (0) s0 _ _ _ h hP hD hS (lv_sub hl [] rfl)
set_option maxHeartbeats 40000000 in
set_option maxRecDepth 100000 in
theorem db_X7_fits_415 {p : Program} {l : Launch} {e : Env} {s : State} {m : MethodId} {args : Array Value} {below : List Frame} {meth : Method} {c : Code} {Q : State → Prop} {A : Nat → Prop} {dC : Nat → ClassId} {dI : Nat → Nat → Nat} {a : Nat → Nat} {ac : Nat → ClassId} {n : Nat} {r : Int32 × (Unit)} (C : nd_C p l s m args c A (dC, dI) cX7_fits 2 RX7 ow_dm_X7_fits (dk_P ac)) (K : nd_Ki p l e (headSpec ow_dm_X7_fits ({ frames := 0, cells := 0, slots := 0, locals := 0 })).room s m args below meth c Q A (dC, dI) cX7_fits .boolean (Unit) (dw_P a ac) r) : dj_X7_fits_415 p l e s m args below meth c Q A dC dI a ac (df_X7_fits_415 n) r := by
  obtain ⟨hlt, hx, hb, hml, hown, hts, hN, hA, hK⟩ := id C
  intro y0 s0 H locs ls h hP hD hS hl
  unfold df_X7_fits_415 at h
  obtain ⟨n21, h⟩ := nd_z_e ⟨_, rfl⟩ h
  exact K _ _ _ _ _ _ dX7_fits_415 n21 (Option.some.inj h).symm hP hD hS
set_option maxHeartbeats 40000000 in
set_option maxRecDepth 100000 in
theorem db_X7_fits_414 {p : Program} {l : Launch} {e : Env} {s : State} {m : MethodId} {args : Array Value} {below : List Frame} {meth : Method} {c : Code} {Q : State → Prop} {A : Nat → Prop} {dC : Nat → ClassId} {dI : Nat → Nat → Nat} {a : Nat → Nat} {ac : Nat → ClassId} {n : Nat} {r : Int32 × (Unit)} (C : nd_C p l s m args c A (dC, dI) cX7_fits 2 RX7 ow_dm_X7_fits (dk_P ac)) (K : nd_Ki p l e (headSpec ow_dm_X7_fits ({ frames := 0, cells := 0, slots := 0, locals := 0 })).room s m args below meth c Q A (dC, dI) cX7_fits .boolean (Unit) (dw_P a ac) r) : dj_X7_fits_414 p l e s m args below meth c Q A dC dI a ac (df_X7_fits_414 n) r := by
  obtain ⟨hlt, hx, hb, hml, hown, hts, hN, hA, hK⟩ := id C
  intro s0 H locs ls h hP hD hS hl
  unfold df_X7_fits_414 at h
  refine lv_iconst (v := 0) hx hb dX7_fits_414 (by decide) ?_
  exact (db_X7_fits_415 C K) (0) s0 _ _ _ h hP hD hS (lv_sub hl [] rfl)
set_option maxHeartbeats 40000000 in
set_option maxRecDepth 100000 in
theorem db_X7_fits_455 {p : Program} {l : Launch} {e : Env} {s : State} {m : MethodId} {args : Array Value} {below : List Frame} {meth : Method} {c : Code} {Q : State → Prop} {A : Nat → Prop} {dC : Nat → ClassId} {dI : Nat → Nat → Nat} {a : Nat → Nat} {ac : Nat → ClassId} {n : Nat} {r : Int32 × (Unit)} (C : nd_C p l s m args c A (dC, dI) cX7_fits 2 RX7 ow_dm_X7_fits (dk_P ac)) (K : nd_Ki p l e (headSpec ow_dm_X7_fits ({ frames := 0, cells := 0, slots := 0, locals := 0 })).room s m args below meth c Q A (dC, dI) cX7_fits .boolean (Unit) (dw_P a ac) r) : dj_X7_fits_455 p l e s m args below meth c Q A dC dI a ac (df_X7_fits_455 n) r := by
  obtain ⟨hlt, hx, hb, hml, hown, hts, hN, hA, hK⟩ := id C
  intro y0 s0 H locs ls h hP hD hS hl
  unfold df_X7_fits_455 at h
  obtain ⟨n26, h⟩ := nd_z_e ⟨_, rfl⟩ h
  exact K _ _ _ _ _ _ dX7_fits_455 n26 (Option.some.inj h).symm hP hD hS
set_option maxHeartbeats 40000000 in
set_option maxRecDepth 100000 in
theorem db_X7_fits_454 {p : Program} {l : Launch} {e : Env} {s : State} {m : MethodId} {args : Array Value} {below : List Frame} {meth : Method} {c : Code} {Q : State → Prop} {A : Nat → Prop} {dC : Nat → ClassId} {dI : Nat → Nat → Nat} {a : Nat → Nat} {ac : Nat → ClassId} {n : Nat} {r : Int32 × (Unit)} (C : nd_C p l s m args c A (dC, dI) cX7_fits 2 RX7 ow_dm_X7_fits (dk_P ac)) (K : nd_Ki p l e (headSpec ow_dm_X7_fits ({ frames := 0, cells := 0, slots := 0, locals := 0 })).room s m args below meth c Q A (dC, dI) cX7_fits .boolean (Unit) (dw_P a ac) r) : dj_X7_fits_454 p l e s m args below meth c Q A dC dI a ac (df_X7_fits_454 n) r := by
  obtain ⟨hlt, hx, hb, hml, hown, hts, hN, hA, hK⟩ := id C
  intro s0 H locs ls h hP hD hS hl
  unfold df_X7_fits_454 at h
  refine lv_iconst (v := 0) hx hb dX7_fits_454 (by decide) ?_
  exact (db_X7_fits_455 C K) (0) s0 _ _ _ h hP hD hS (lv_sub hl [] rfl)
set_option maxHeartbeats 40000000 in
set_option maxRecDepth 100000 in
theorem db_X7_fits_433 {p : Program} {l : Launch} {e : Env} {s : State} {m : MethodId} {args : Array Value} {below : List Frame} {meth : Method} {c : Code} {Q : State → Prop} {A : Nat → Prop} {dC : Nat → ClassId} {dI : Nat → Nat → Nat} {a : Nat → Nat} {ac : Nat → ClassId} {n : Nat} {r : Int32 × (Unit)} (C : nd_C p l s m args c A (dC, dI) cX7_fits 2 RX7 ow_dm_X7_fits (dk_P ac)) (K : nd_Ki p l e (headSpec ow_dm_X7_fits ({ frames := 0, cells := 0, slots := 0, locals := 0 })).room s m args below meth c Q A (dC, dI) cX7_fits .boolean (Unit) (dw_P a ac) r) : dj_X7_fits_433 p l e s m args below meth c Q A dC dI a ac (df_X7_fits_433 n) r := by
  obtain ⟨hlt, hx, hb, hml, hown, hts, hN, hA, hK⟩ := id C
  intro y0 s0 H locs ls h hP hD hS hl
  unfold df_X7_fits_433 at h
  obtain ⟨n31, h⟩ := nd_z_e ⟨_, rfl⟩ h
  exact K _ _ _ _ _ _ dX7_fits_433 n31 (Option.some.inj h).symm hP hD hS
set_option maxHeartbeats 40000000 in
set_option maxRecDepth 100000 in
theorem db_X7_fits_432 {p : Program} {l : Launch} {e : Env} {s : State} {m : MethodId} {args : Array Value} {below : List Frame} {meth : Method} {c : Code} {Q : State → Prop} {A : Nat → Prop} {dC : Nat → ClassId} {dI : Nat → Nat → Nat} {a : Nat → Nat} {ac : Nat → ClassId} {n : Nat} {r : Int32 × (Unit)} (C : nd_C p l s m args c A (dC, dI) cX7_fits 2 RX7 ow_dm_X7_fits (dk_P ac)) (K : nd_Ki p l e (headSpec ow_dm_X7_fits ({ frames := 0, cells := 0, slots := 0, locals := 0 })).room s m args below meth c Q A (dC, dI) cX7_fits .boolean (Unit) (dw_P a ac) r) : dj_X7_fits_432 p l e s m args below meth c Q A dC dI a ac (df_X7_fits_432 n) r := by
  obtain ⟨hlt, hx, hb, hml, hown, hts, hN, hA, hK⟩ := id C
  intro s0 H locs ls h hP hD hS hl
  unfold df_X7_fits_432 at h
  refine lv_iconst (v := 0) hx hb dX7_fits_432 (by decide) ?_
  exact (db_X7_fits_433 C K) (0) s0 _ _ _ h hP hD hS (lv_sub hl [] rfl)
set_option maxHeartbeats 40000000 in
set_option maxRecDepth 100000 in
theorem db_X7_fits_556 {p : Program} {l : Launch} {e : Env} {s : State} {m : MethodId} {args : Array Value} {below : List Frame} {meth : Method} {c : Code} {Q : State → Prop} {A : Nat → Prop} {dC : Nat → ClassId} {dI : Nat → Nat → Nat} {a : Nat → Nat} {ac : Nat → ClassId} {n : Nat} {r : Int32 × (Unit)} (C : nd_C p l s m args c A (dC, dI) cX7_fits 2 RX7 ow_dm_X7_fits (dk_P ac)) (K : nd_Ki p l e (headSpec ow_dm_X7_fits ({ frames := 0, cells := 0, slots := 0, locals := 0 })).room s m args below meth c Q A (dC, dI) cX7_fits .boolean (Unit) (dw_P a ac) r) : dj_X7_fits_556 p l e s m args below meth c Q A dC dI a ac (df_X7_fits_556 n) r := by
  obtain ⟨hlt, hx, hb, hml, hown, hts, hN, hA, hK⟩ := id C
  intro s0 H locs ls h hP hD hS hl
  unfold df_X7_fits_556 at h
  refine lv_iconst (v := 1) hx hb dX7_fits_556 (by decide) ?_
  exact K _ _ _ _ _ _ dX7_fits_557 (by first | rfl | decide) (Option.some.inj h).symm hP hD hS
set_option maxHeartbeats 40000000 in
set_option maxRecDepth 100000 in
theorem db_X7_fits_555 {p : Program} {l : Launch} {e : Env} {s : State} {m : MethodId} {args : Array Value} {below : List Frame} {meth : Method} {c : Code} {Q : State → Prop} {A : Nat → Prop} {dC : Nat → ClassId} {dI : Nat → Nat → Nat} {a : Nat → Nat} {ac : Nat → ClassId} {n : Nat} {r : Int32 × (Unit)} (C : nd_C p l s m args c A (dC, dI) cX7_fits 2 RX7 ow_dm_X7_fits (dk_P ac)) (K : nd_Ki p l e (headSpec ow_dm_X7_fits ({ frames := 0, cells := 0, slots := 0, locals := 0 })).room s m args below meth c Q A (dC, dI) cX7_fits .boolean (Unit) (dw_P a ac) r) : dj_X7_fits_555 p l e s m args below meth c Q A dC dI a ac (df_X7_fits_555 n) r := by
  obtain ⟨hlt, hx, hb, hml, hown, hts, hN, hA, hK⟩ := id C
  intro y0 s0 H locs ls h hP hD hS hl
  unfold df_X7_fits_555 at h
  obtain ⟨n36, h⟩ := nd_z_e ⟨_, rfl⟩ h
  exact K _ _ _ _ _ _ dX7_fits_555 n36 (Option.some.inj h).symm hP hD hS
set_option maxHeartbeats 40000000 in
set_option maxRecDepth 100000 in
theorem db_X7_fits_554 {p : Program} {l : Launch} {e : Env} {s : State} {m : MethodId} {args : Array Value} {below : List Frame} {meth : Method} {c : Code} {Q : State → Prop} {A : Nat → Prop} {dC : Nat → ClassId} {dI : Nat → Nat → Nat} {a : Nat → Nat} {ac : Nat → ClassId} {n : Nat} {r : Int32 × (Unit)} (C : nd_C p l s m args c A (dC, dI) cX7_fits 2 RX7 ow_dm_X7_fits (dk_P ac)) (K : nd_Ki p l e (headSpec ow_dm_X7_fits ({ frames := 0, cells := 0, slots := 0, locals := 0 })).room s m args below meth c Q A (dC, dI) cX7_fits .boolean (Unit) (dw_P a ac) r) : dj_X7_fits_554 p l e s m args below meth c Q A dC dI a ac (df_X7_fits_554 n) r := by
  obtain ⟨hlt, hx, hb, hml, hown, hts, hN, hA, hK⟩ := id C
  intro s0 H locs ls h hP hD hS hl
  unfold df_X7_fits_554 at h
  refine lv_iconst (v := 0) hx hb dX7_fits_554 (by decide) ?_
  exact (db_X7_fits_555 C K) (0) s0 _ _ _ h hP hD hS (lv_sub hl [] rfl)
set_option maxHeartbeats 40000000 in
set_option maxRecDepth 100000 in
theorem db_X7_fits_533 {p : Program} {l : Launch} {e : Env} {s : State} {m : MethodId} {args : Array Value} {below : List Frame} {meth : Method} {c : Code} {Q : State → Prop} {A : Nat → Prop} {dC : Nat → ClassId} {dI : Nat → Nat → Nat} {a : Nat → Nat} {ac : Nat → ClassId} {n : Nat} {r : Int32 × (Unit)} (C : nd_C p l s m args c A (dC, dI) cX7_fits 2 RX7 ow_dm_X7_fits (dk_P ac)) (K : nd_Ki p l e (headSpec ow_dm_X7_fits ({ frames := 0, cells := 0, slots := 0, locals := 0 })).room s m args below meth c Q A (dC, dI) cX7_fits .boolean (Unit) (dw_P a ac) r) : dj_X7_fits_533 p l e s m args below meth c Q A dC dI a ac (df_X7_fits_533 n) r := by
  obtain ⟨hlt, hx, hb, hml, hown, hts, hN, hA, hK⟩ := id C
  intro x1 s0 H locs ls h hP hD hS hl
  unfold df_X7_fits_533 at h
  refine lv_iload_n hx hb dX7_fits_533 rfl (lv_at hl 0 rfl) ?_
  refine lv_if_lt (tgt := 554) hx hb dX7_fits_534 (by decide) (fun c35 => ?_) (fun c35 => ?_)
  · have h := nd_pos h c35
    exact (db_X7_fits_554 C K)  s0 _ _ _ h hP hD hS (lv_sub hl [] rfl)
  · have h := nd_neg h c35
    refine lv_iload_n hx hb dX7_fits_537 rfl (lv_at hl 0 rfl) ?_
    refine lv_sipush (v := 252) hx hb dX7_fits_538 (by decide) ?_
    refine lv_icmp_gt (tgt := 554) hx hb dX7_fits_541 (by decide) (fun c37 => ?_) (fun c37 => ?_)
    · have h := nd_pos h c37
      exact (db_X7_fits_554 C K)  s0 _ _ _ h hP hD hS (lv_sub hl [] rfl)
    · have h := nd_neg h c37
      refine lv_iload_n hx hb dX7_fits_544 rfl (lv_at hl 0 rfl) ?_
      refine lv_iconst (v := 3) hx hb dX7_fits_545 (by decide) ?_
      refine lv_iand hx hb dX7_fits_546 ?_
      refine lv_if_ne (tgt := 554) hx hb dX7_fits_547 (by decide) (fun c38 => ?_) (fun c38 => ?_)
      · have h := nd_neg h c38
        exact (db_X7_fits_554 C K)  s0 _ _ _ h hP hD hS (lv_sub hl [] rfl)
      · have h := nd_pos h c38
        refine lv_iconst (v := 1) hx hb dX7_fits_550 (by decide) ?_
        refine lv_goto (tgt := 555) hx hb dX7_fits_551 (by decide) ?_
        exact (db_X7_fits_555 C K) (1) s0 _ _ _ h hP hD hS (lv_sub hl [] rfl)
set_option maxHeartbeats 40000000 in
set_option maxRecDepth 100000 in
theorem db_X7_fits_337 {p : Program} {l : Launch} {e : Env} {s : State} {m : MethodId} {args : Array Value} {below : List Frame} {meth : Method} {c : Code} {Q : State → Prop} {A : Nat → Prop} {dC : Nat → ClassId} {dI : Nat → Nat → Nat} {a : Nat → Nat} {ac : Nat → ClassId} {n : Nat} {r : Int32 × (Unit)} (C : nd_C p l s m args c A (dC, dI) cX7_fits 2 RX7 ow_dm_X7_fits (dk_P ac)) (K : nd_Ki p l e (headSpec ow_dm_X7_fits ({ frames := 0, cells := 0, slots := 0, locals := 0 })).room s m args below meth c Q A (dC, dI) cX7_fits .boolean (Unit) (dw_P a ac) r) : dj_X7_fits_337 p l e s m args below meth c Q A dC dI a ac (df_X7_fits_337 n) r := by
  obtain ⟨hlt, hx, hb, hml, hown, hts, hN, hA, hK⟩ := id C
  intro y0 s0 H locs ls h hP hD hS hl
  unfold df_X7_fits_337 at h
  obtain ⟨n44, h⟩ := nd_z_e ⟨_, rfl⟩ h
  exact K _ _ _ _ _ _ dX7_fits_337 n44 (Option.some.inj h).symm hP hD hS
set_option maxHeartbeats 40000000 in
set_option maxRecDepth 100000 in
theorem db_X7_fits_336 {p : Program} {l : Launch} {e : Env} {s : State} {m : MethodId} {args : Array Value} {below : List Frame} {meth : Method} {c : Code} {Q : State → Prop} {A : Nat → Prop} {dC : Nat → ClassId} {dI : Nat → Nat → Nat} {a : Nat → Nat} {ac : Nat → ClassId} {n : Nat} {r : Int32 × (Unit)} (C : nd_C p l s m args c A (dC, dI) cX7_fits 2 RX7 ow_dm_X7_fits (dk_P ac)) (K : nd_Ki p l e (headSpec ow_dm_X7_fits ({ frames := 0, cells := 0, slots := 0, locals := 0 })).room s m args below meth c Q A (dC, dI) cX7_fits .boolean (Unit) (dw_P a ac) r) : dj_X7_fits_336 p l e s m args below meth c Q A dC dI a ac (df_X7_fits_336 n) r := by
  obtain ⟨hlt, hx, hb, hml, hown, hts, hN, hA, hK⟩ := id C
  intro s0 H locs ls h hP hD hS hl
  unfold df_X7_fits_336 at h
  refine lv_iconst (v := 0) hx hb dX7_fits_336 (by decide) ?_
  exact (db_X7_fits_337 C K) (0) s0 _ _ _ h hP hD hS (lv_sub hl [] rfl)
set_option maxHeartbeats 40000000 in
set_option maxRecDepth 100000 in
theorem db_X7_fits_311 {p : Program} {l : Launch} {e : Env} {s : State} {m : MethodId} {args : Array Value} {below : List Frame} {meth : Method} {c : Code} {Q : State → Prop} {A : Nat → Prop} {dC : Nat → ClassId} {dI : Nat → Nat → Nat} {a : Nat → Nat} {ac : Nat → ClassId} {n : Nat} {r : Int32 × (Unit)} (C : nd_C p l s m args c A (dC, dI) cX7_fits 2 RX7 ow_dm_X7_fits (dk_P ac)) (K : nd_Ki p l e (headSpec ow_dm_X7_fits ({ frames := 0, cells := 0, slots := 0, locals := 0 })).room s m args below meth c Q A (dC, dI) cX7_fits .boolean (Unit) (dw_P a ac) r) : dj_X7_fits_311 p l e s m args below meth c Q A dC dI a ac (df_X7_fits_311 n) r := by
  obtain ⟨hlt, hx, hb, hml, hown, hts, hN, hA, hK⟩ := id C
  intro y0 s0 H locs ls h hP hD hS hl
  unfold df_X7_fits_311 at h
  obtain ⟨n49, h⟩ := nd_z_e ⟨_, rfl⟩ h
  exact K _ _ _ _ _ _ dX7_fits_311 n49 (Option.some.inj h).symm hP hD hS
set_option maxHeartbeats 40000000 in
set_option maxRecDepth 100000 in
theorem db_X7_fits_310 {p : Program} {l : Launch} {e : Env} {s : State} {m : MethodId} {args : Array Value} {below : List Frame} {meth : Method} {c : Code} {Q : State → Prop} {A : Nat → Prop} {dC : Nat → ClassId} {dI : Nat → Nat → Nat} {a : Nat → Nat} {ac : Nat → ClassId} {n : Nat} {r : Int32 × (Unit)} (C : nd_C p l s m args c A (dC, dI) cX7_fits 2 RX7 ow_dm_X7_fits (dk_P ac)) (K : nd_Ki p l e (headSpec ow_dm_X7_fits ({ frames := 0, cells := 0, slots := 0, locals := 0 })).room s m args below meth c Q A (dC, dI) cX7_fits .boolean (Unit) (dw_P a ac) r) : dj_X7_fits_310 p l e s m args below meth c Q A dC dI a ac (df_X7_fits_310 n) r := by
  obtain ⟨hlt, hx, hb, hml, hown, hts, hN, hA, hK⟩ := id C
  intro s0 H locs ls h hP hD hS hl
  unfold df_X7_fits_310 at h
  refine lv_iconst (v := 0) hx hb dX7_fits_310 (by decide) ?_
  exact (db_X7_fits_311 C K) (0) s0 _ _ _ h hP hD hS (lv_sub hl [] rfl)
set_option maxHeartbeats 40000000 in
set_option maxRecDepth 100000 in
theorem db_X7_fits_501 {p : Program} {l : Launch} {e : Env} {s : State} {m : MethodId} {args : Array Value} {below : List Frame} {meth : Method} {c : Code} {Q : State → Prop} {A : Nat → Prop} {dC : Nat → ClassId} {dI : Nat → Nat → Nat} {a : Nat → Nat} {ac : Nat → ClassId} {n : Nat} {r : Int32 × (Unit)} (C : nd_C p l s m args c A (dC, dI) cX7_fits 2 RX7 ow_dm_X7_fits (dk_P ac)) (K : nd_Ki p l e (headSpec ow_dm_X7_fits ({ frames := 0, cells := 0, slots := 0, locals := 0 })).room s m args below meth c Q A (dC, dI) cX7_fits .boolean (Unit) (dw_P a ac) r) : dj_X7_fits_501 p l e s m args below meth c Q A dC dI a ac (df_X7_fits_501 n) r := by
  obtain ⟨hlt, hx, hb, hml, hown, hts, hN, hA, hK⟩ := id C
  intro y0 s0 H locs ls h hP hD hS hl
  unfold df_X7_fits_501 at h
  obtain ⟨n54, h⟩ := nd_z_e ⟨_, rfl⟩ h
  exact K _ _ _ _ _ _ dX7_fits_501 n54 (Option.some.inj h).symm hP hD hS
set_option maxHeartbeats 40000000 in
set_option maxRecDepth 100000 in
theorem db_X7_fits_500 {p : Program} {l : Launch} {e : Env} {s : State} {m : MethodId} {args : Array Value} {below : List Frame} {meth : Method} {c : Code} {Q : State → Prop} {A : Nat → Prop} {dC : Nat → ClassId} {dI : Nat → Nat → Nat} {a : Nat → Nat} {ac : Nat → ClassId} {n : Nat} {r : Int32 × (Unit)} (C : nd_C p l s m args c A (dC, dI) cX7_fits 2 RX7 ow_dm_X7_fits (dk_P ac)) (K : nd_Ki p l e (headSpec ow_dm_X7_fits ({ frames := 0, cells := 0, slots := 0, locals := 0 })).room s m args below meth c Q A (dC, dI) cX7_fits .boolean (Unit) (dw_P a ac) r) : dj_X7_fits_500 p l e s m args below meth c Q A dC dI a ac (df_X7_fits_500 n) r := by
  obtain ⟨hlt, hx, hb, hml, hown, hts, hN, hA, hK⟩ := id C
  intro s0 H locs ls h hP hD hS hl
  unfold df_X7_fits_500 at h
  refine lv_iconst (v := 0) hx hb dX7_fits_500 (by decide) ?_
  exact (db_X7_fits_501 C K) (0) s0 _ _ _ h hP hD hS (lv_sub hl [] rfl)
set_option maxHeartbeats 40000000 in
set_option maxRecDepth 100000 in
theorem db_X7_fits_479 {p : Program} {l : Launch} {e : Env} {s : State} {m : MethodId} {args : Array Value} {below : List Frame} {meth : Method} {c : Code} {Q : State → Prop} {A : Nat → Prop} {dC : Nat → ClassId} {dI : Nat → Nat → Nat} {a : Nat → Nat} {ac : Nat → ClassId} {n : Nat} {r : Int32 × (Unit)} (C : nd_C p l s m args c A (dC, dI) cX7_fits 2 RX7 ow_dm_X7_fits (dk_P ac)) (K : nd_Ki p l e (headSpec ow_dm_X7_fits ({ frames := 0, cells := 0, slots := 0, locals := 0 })).room s m args below meth c Q A (dC, dI) cX7_fits .boolean (Unit) (dw_P a ac) r) : dj_X7_fits_479 p l e s m args below meth c Q A dC dI a ac (df_X7_fits_479 n) r := by
  obtain ⟨hlt, hx, hb, hml, hown, hts, hN, hA, hK⟩ := id C
  intro y0 s0 H locs ls h hP hD hS hl
  unfold df_X7_fits_479 at h
  obtain ⟨n59, h⟩ := nd_z_e ⟨_, rfl⟩ h
  exact K _ _ _ _ _ _ dX7_fits_479 n59 (Option.some.inj h).symm hP hD hS
set_option maxHeartbeats 40000000 in
set_option maxRecDepth 100000 in
theorem db_X7_fits_478 {p : Program} {l : Launch} {e : Env} {s : State} {m : MethodId} {args : Array Value} {below : List Frame} {meth : Method} {c : Code} {Q : State → Prop} {A : Nat → Prop} {dC : Nat → ClassId} {dI : Nat → Nat → Nat} {a : Nat → Nat} {ac : Nat → ClassId} {n : Nat} {r : Int32 × (Unit)} (C : nd_C p l s m args c A (dC, dI) cX7_fits 2 RX7 ow_dm_X7_fits (dk_P ac)) (K : nd_Ki p l e (headSpec ow_dm_X7_fits ({ frames := 0, cells := 0, slots := 0, locals := 0 })).room s m args below meth c Q A (dC, dI) cX7_fits .boolean (Unit) (dw_P a ac) r) : dj_X7_fits_478 p l e s m args below meth c Q A dC dI a ac (df_X7_fits_478 n) r := by
  obtain ⟨hlt, hx, hb, hml, hown, hts, hN, hA, hK⟩ := id C
  intro s0 H locs ls h hP hD hS hl
  unfold df_X7_fits_478 at h
  refine lv_iconst (v := 0) hx hb dX7_fits_478 (by decide) ?_
  exact (db_X7_fits_479 C K) (0) s0 _ _ _ h hP hD hS (lv_sub hl [] rfl)
set_option maxHeartbeats 40000000 in
set_option maxRecDepth 100000 in
theorem db_X7_fits_532 {p : Program} {l : Launch} {e : Env} {s : State} {m : MethodId} {args : Array Value} {below : List Frame} {meth : Method} {c : Code} {Q : State → Prop} {A : Nat → Prop} {dC : Nat → ClassId} {dI : Nat → Nat → Nat} {a : Nat → Nat} {ac : Nat → ClassId} {n : Nat} {r : Int32 × (Unit)} (C : nd_C p l s m args c A (dC, dI) cX7_fits 2 RX7 ow_dm_X7_fits (dk_P ac)) (K : nd_Ki p l e (headSpec ow_dm_X7_fits ({ frames := 0, cells := 0, slots := 0, locals := 0 })).room s m args below meth c Q A (dC, dI) cX7_fits .boolean (Unit) (dw_P a ac) r) : dj_X7_fits_532 p l e s m args below meth c Q A dC dI a ac (df_X7_fits_532 n) r := by
  obtain ⟨hlt, hx, hb, hml, hown, hts, hN, hA, hK⟩ := id C
  intro y0 s0 H locs ls h hP hD hS hl
  unfold df_X7_fits_532 at h
  obtain ⟨n64, h⟩ := nd_z_e ⟨_, rfl⟩ h
  exact K _ _ _ _ _ _ dX7_fits_532 n64 (Option.some.inj h).symm hP hD hS
set_option maxHeartbeats 40000000 in
set_option maxRecDepth 100000 in
theorem db_X7_fits_531 {p : Program} {l : Launch} {e : Env} {s : State} {m : MethodId} {args : Array Value} {below : List Frame} {meth : Method} {c : Code} {Q : State → Prop} {A : Nat → Prop} {dC : Nat → ClassId} {dI : Nat → Nat → Nat} {a : Nat → Nat} {ac : Nat → ClassId} {n : Nat} {r : Int32 × (Unit)} (C : nd_C p l s m args c A (dC, dI) cX7_fits 2 RX7 ow_dm_X7_fits (dk_P ac)) (K : nd_Ki p l e (headSpec ow_dm_X7_fits ({ frames := 0, cells := 0, slots := 0, locals := 0 })).room s m args below meth c Q A (dC, dI) cX7_fits .boolean (Unit) (dw_P a ac) r) : dj_X7_fits_531 p l e s m args below meth c Q A dC dI a ac (df_X7_fits_531 n) r := by
  obtain ⟨hlt, hx, hb, hml, hown, hts, hN, hA, hK⟩ := id C
  intro s0 H locs ls h hP hD hS hl
  unfold df_X7_fits_531 at h
  refine lv_iconst (v := 0) hx hb dX7_fits_531 (by decide) ?_
  exact (db_X7_fits_532 C K) (0) s0 _ _ _ h hP hD hS (lv_sub hl [] rfl)
set_option maxHeartbeats 40000000 in
set_option maxRecDepth 100000 in
theorem db_X7_fits_240 {p : Program} {l : Launch} {e : Env} {s : State} {m : MethodId} {args : Array Value} {below : List Frame} {meth : Method} {c : Code} {Q : State → Prop} {A : Nat → Prop} {dC : Nat → ClassId} {dI : Nat → Nat → Nat} {a : Nat → Nat} {ac : Nat → ClassId} {n : Nat} {r : Int32 × (Unit)} (C : nd_C p l s m args c A (dC, dI) cX7_fits 2 RX7 ow_dm_X7_fits (dk_P ac)) (K : nd_Ki p l e (headSpec ow_dm_X7_fits ({ frames := 0, cells := 0, slots := 0, locals := 0 })).room s m args below meth c Q A (dC, dI) cX7_fits .boolean (Unit) (dw_P a ac) r) : dj_X7_fits_240 p l e s m args below meth c Q A dC dI a ac (df_X7_fits_240 n) r := by
  obtain ⟨hlt, hx, hb, hml, hown, hts, hN, hA, hK⟩ := id C
  intro y0 s0 H locs ls h hP hD hS hl
  unfold df_X7_fits_240 at h
  obtain ⟨n89, h⟩ := nd_z_e ⟨_, rfl⟩ h
  exact K _ _ _ _ _ _ dX7_fits_240 n89 (Option.some.inj h).symm hP hD hS
set_option maxHeartbeats 40000000 in
set_option maxRecDepth 100000 in
theorem db_X7_fits_229 {p : Program} {l : Launch} {e : Env} {s : State} {m : MethodId} {args : Array Value} {below : List Frame} {meth : Method} {c : Code} {Q : State → Prop} {A : Nat → Prop} {dC : Nat → ClassId} {dI : Nat → Nat → Nat} {a : Nat → Nat} {ac : Nat → ClassId} {n : Nat} {r : Int32 × (Unit)} (C : nd_C p l s m args c A (dC, dI) cX7_fits 2 RX7 ow_dm_X7_fits (dk_P ac)) (K : nd_Ki p l e (headSpec ow_dm_X7_fits ({ frames := 0, cells := 0, slots := 0, locals := 0 })).room s m args below meth c Q A (dC, dI) cX7_fits .boolean (Unit) (dw_P a ac) r) : dj_X7_fits_229 p l e s m args below meth c Q A dC dI a ac (df_X7_fits_229 n) r := by
  obtain ⟨hlt, hx, hb, hml, hown, hts, hN, hA, hK⟩ := id C
  intro y0 s0 H locs ls h hP hD hS hl
  unfold df_X7_fits_229 at h
  obtain ⟨n92, h⟩ := nd_z_e ⟨_, rfl⟩ h
  exact K _ _ _ _ _ _ dX7_fits_229 n92 (Option.some.inj h).symm hP hD hS
set_option maxHeartbeats 40000000 in
set_option maxRecDepth 100000 in
theorem db_X7_fits_220 {p : Program} {l : Launch} {e : Env} {s : State} {m : MethodId} {args : Array Value} {below : List Frame} {meth : Method} {c : Code} {Q : State → Prop} {A : Nat → Prop} {dC : Nat → ClassId} {dI : Nat → Nat → Nat} {a : Nat → Nat} {ac : Nat → ClassId} {n : Nat} {r : Int32 × (Unit)} (C : nd_C p l s m args c A (dC, dI) cX7_fits 2 RX7 ow_dm_X7_fits (dk_P ac)) (K : nd_Ki p l e (headSpec ow_dm_X7_fits ({ frames := 0, cells := 0, slots := 0, locals := 0 })).room s m args below meth c Q A (dC, dI) cX7_fits .boolean (Unit) (dw_P a ac) r) : dj_X7_fits_220 p l e s m args below meth c Q A dC dI a ac (df_X7_fits_220 n) r := by
  obtain ⟨hlt, hx, hb, hml, hown, hts, hN, hA, hK⟩ := id C
  intro x1 s0 H locs ls h hP hD hS hl
  unfold df_X7_fits_220 at h
  refine lv_iload_n hx hb dX7_fits_220 rfl (lv_at hl 0 rfl) ?_
  refine lv_if_eq (tgt := 228) hx hb dX7_fits_221 (by decide) (fun c91 => ?_) (fun c91 => ?_)
  · have h := nd_pos h c91
    refine lv_iconst (v := 0) hx hb dX7_fits_228 (by decide) ?_
    exact (db_X7_fits_229 C K) (0) s0 _ _ _ h hP hD hS (lv_sub hl [] rfl)
  · have h := nd_neg h c91
    refine lv_iconst (v := 1) hx hb dX7_fits_224 (by decide) ?_
    refine lv_goto (tgt := 229) hx hb dX7_fits_225 (by decide) ?_
    exact (db_X7_fits_229 C K) (1) s0 _ _ _ h hP hD hS (lv_sub hl [] rfl)
set_option maxHeartbeats 40000000 in
set_option maxRecDepth 100000 in
theorem db_X7_fits_258 {p : Program} {l : Launch} {e : Env} {s : State} {m : MethodId} {args : Array Value} {below : List Frame} {meth : Method} {c : Code} {Q : State → Prop} {A : Nat → Prop} {dC : Nat → ClassId} {dI : Nat → Nat → Nat} {a : Nat → Nat} {ac : Nat → ClassId} {n : Nat} {r : Int32 × (Unit)} (C : nd_C p l s m args c A (dC, dI) cX7_fits 2 RX7 ow_dm_X7_fits (dk_P ac)) (K : nd_Ki p l e (headSpec ow_dm_X7_fits ({ frames := 0, cells := 0, slots := 0, locals := 0 })).room s m args below meth c Q A (dC, dI) cX7_fits .boolean (Unit) (dw_P a ac) r) : dj_X7_fits_258 p l e s m args below meth c Q A dC dI a ac (df_X7_fits_258 n) r := by
  obtain ⟨hlt, hx, hb, hml, hown, hts, hN, hA, hK⟩ := id C
  intro y0 s0 H locs ls h hP hD hS hl
  unfold df_X7_fits_258 at h
  obtain ⟨n96, h⟩ := nd_z_e ⟨_, rfl⟩ h
  exact K _ _ _ _ _ _ dX7_fits_258 n96 (Option.some.inj h).symm hP hD hS
set_option maxHeartbeats 40000000 in
set_option maxRecDepth 100000 in
theorem db_X7_fits_257 {p : Program} {l : Launch} {e : Env} {s : State} {m : MethodId} {args : Array Value} {below : List Frame} {meth : Method} {c : Code} {Q : State → Prop} {A : Nat → Prop} {dC : Nat → ClassId} {dI : Nat → Nat → Nat} {a : Nat → Nat} {ac : Nat → ClassId} {n : Nat} {r : Int32 × (Unit)} (C : nd_C p l s m args c A (dC, dI) cX7_fits 2 RX7 ow_dm_X7_fits (dk_P ac)) (K : nd_Ki p l e (headSpec ow_dm_X7_fits ({ frames := 0, cells := 0, slots := 0, locals := 0 })).room s m args below meth c Q A (dC, dI) cX7_fits .boolean (Unit) (dw_P a ac) r) : dj_X7_fits_257 p l e s m args below meth c Q A dC dI a ac (df_X7_fits_257 n) r := by
  obtain ⟨hlt, hx, hb, hml, hown, hts, hN, hA, hK⟩ := id C
  intro s0 H locs ls h hP hD hS hl
  unfold df_X7_fits_257 at h
  refine lv_iconst (v := 0) hx hb dX7_fits_257 (by decide) ?_
  exact (db_X7_fits_258 C K) (0) s0 _ _ _ h hP hD hS (lv_sub hl [] rfl)
set_option maxHeartbeats 40000000 in
set_option maxRecDepth 100000 in
theorem db_X7_fits_241 {p : Program} {l : Launch} {e : Env} {s : State} {m : MethodId} {args : Array Value} {below : List Frame} {meth : Method} {c : Code} {Q : State → Prop} {A : Nat → Prop} {dC : Nat → ClassId} {dI : Nat → Nat → Nat} {a : Nat → Nat} {ac : Nat → ClassId} {n : Nat} {r : Int32 × (Unit)} (C : nd_C p l s m args c A (dC, dI) cX7_fits 2 RX7 ow_dm_X7_fits (dk_P ac)) (K : nd_Ki p l e (headSpec ow_dm_X7_fits ({ frames := 0, cells := 0, slots := 0, locals := 0 })).room s m args below meth c Q A (dC, dI) cX7_fits .boolean (Unit) (dw_P a ac) r) : dj_X7_fits_241 p l e s m args below meth c Q A dC dI a ac (df_X7_fits_241 n) r := by
  obtain ⟨hlt, hx, hb, hml, hown, hts, hN, hA, hK⟩ := id C
  intro x1 s0 H locs ls h hP hD hS hl
  unfold df_X7_fits_241 at h
  refine lv_iload_n hx hb dX7_fits_241 rfl (lv_at hl 0 rfl) ?_
  refine lv_bipush (v := 8) hx hb dX7_fits_242 (by decide) ?_
  refine lv_icmp_lt (tgt := 257) hx hb dX7_fits_244 (by decide) (fun c95 => ?_) (fun c95 => ?_)
  · have h := nd_pos h c95
    exact (db_X7_fits_257 C K)  s0 _ _ _ h hP hD hS (lv_sub hl [] rfl)
  · have h := nd_neg h c95
    refine lv_iload_n hx hb dX7_fits_247 rfl (lv_at hl 0 rfl) ?_
    refine lv_bipush (v := 15) hx hb dX7_fits_248 (by decide) ?_
    refine lv_icmp_gt (tgt := 257) hx hb dX7_fits_250 (by decide) (fun c97 => ?_) (fun c97 => ?_)
    · have h := nd_pos h c97
      exact (db_X7_fits_257 C K)  s0 _ _ _ h hP hD hS (lv_sub hl [] rfl)
    · have h := nd_neg h c97
      refine lv_iconst (v := 1) hx hb dX7_fits_253 (by decide) ?_
      refine lv_goto (tgt := 258) hx hb dX7_fits_254 (by decide) ?_
      exact (db_X7_fits_258 C K) (1) s0 _ _ _ h hP hD hS (lv_sub hl [] rfl)

