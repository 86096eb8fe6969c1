set_option maxHeartbeats 40000000 in
set_option maxRecDepth 100000 in
theorem db_X10_openingsFree_22 {p : Program} {l : Launch} {e : Env} {s : State} {m : MethodId} {args : Array Value} {below : List Frame} {meth : Method} {c : Code} {Q : State → Prop} {A : Nat → Prop} {dC : Nat → ClassId} {dI : Nat → Nat → Nat} {a : Nat → Nat} {ac : Nat → ClassId} {n : Nat} {r : Int32 × (St)} (C : nd_C p l s m args c A (dC, dI) cX10_openingsFree 3 RX10 ow_dm_X10_openingsFree (dk_X10 ac)) (K : nd_Ki p l e (headSpec ow_dm_X10_openingsFree ({ frames := 1, cells := 0, slots := 0, locals := 22 })).room s m args below meth c Q A (dC, dI) cX10_openingsFree .int (St) (dw_X10 a ac) r) {g4 : Int32 → Int32 → (St) → Option (Int32 × (St))} (J4 : dj_X10_openingsFree_4 p l e s m args below meth c Q A dC dI a ac g4 r) : dj_X10_openingsFree_22 p l e s m args below meth c Q A dC dI a ac (df_X10_openingsFree_22 n g4) r := by
  obtain ⟨hlt, hx, hb, hml, hown, hts, hN, hA, hK⟩ := id C
  intro x1 x2 s0 H locs ls h hP hD hS hl
  unfold df_X10_openingsFree_22 at h
  obtain ⟨z6, ez6, h⟩ := nd_let_e h
  refine lv_iinc (v := z6) (lv' := [(2, .int z6), (0, .ref (a 0)), (1, .int x1)]) hx hb dX10_openingsFree_22 hl (k := 2) rfl (by rw [ez6]) (by decide) rfl (fun ls hl => ?_)
  refine lv_goto (tgt := 4) hx hb dX10_openingsFree_25 (by decide) ?_
  exact (J4) (x1) (z6) s0 _ _ _ h hP hD hS (lv_sub hl [1, 2, 0] rfl)
set_option maxHeartbeats 40000000 in
set_option maxRecDepth 100000 in
theorem dB_X10_openingsFree_4 {p : Program} {l : Launch} {e : Env} {s : State} {m : MethodId} {args : Array Value} {below : List Frame} {meth : Method} {c : Code} {Q : State → Prop} {A : Nat → Prop} {dC : Nat → ClassId} {dI : Nat → Nat → Nat} {a : Nat → Nat} {ac : Nat → ClassId} {n : Nat} {r : Int32 × (St)} (C : nd_C p l s m args c A (dC, dI) cX10_openingsFree 3 RX10 ow_dm_X10_openingsFree (dk_X10 ac)) (K : nd_Ki p l e (headSpec ow_dm_X10_openingsFree ({ frames := 1, cells := 0, slots := 0, locals := 22 })).room s m args below meth c Q A (dC, dI) cX10_openingsFree .int (St) (dw_X10 a ac) r) {g4 : Int32 → Int32 → (St) → Option (Int32 × (St))} (J4 : dj_X10_openingsFree_4 p l e s m args below meth c Q A dC dI a ac g4 r) : dj_X10_openingsFree_4 p l e s m args below meth c Q A dC dI a ac (dF_X10_openingsFree_4 n g4) r := by
  obtain ⟨hlt, hx, hb, hml, hown, hts, hN, hA, hK⟩ := id C
  intro x1 x2 s0 H locs ls h hP hD hS hl
  unfold dF_X10_openingsFree_4 at h
  refine lv_iload_n hx hb dX10_openingsFree_4 rfl (lv_at hl 2 rfl) ?_
  refine lv_bipush (v := 48) hx hb dX10_openingsFree_5 (by decide) ?_
  refine lv_icmp_ge (tgt := 28) hx hb dX10_openingsFree_7 (by decide) (fun c1 => ?_) (fun c1 => ?_)
  · have h := nd_pos h c1
    refine lv_iload_n hx hb dX10_openingsFree_28 rfl (lv_at hl 1 rfl) ?_
    exact K _ _ _ _ _ _ dX10_openingsFree_29 rfl (Option.some.inj h).symm hP hD hS
  · have h := nd_neg h c1
    refine lv_aload_n hx hb dX10_openingsFree_10 rfl (lv_at hl 0 rfl) ?_
    refine lv_iload_n hx hb dX10_openingsFree_11 rfl (lv_at hl 2 rfl) ?_
    refine lv_iconst (v := 0) hx hb dX10_openingsFree_12 (by decide) ?_
    obtain ⟨q2, s3, hq, h⟩ := nd_b2_e h
    have hPc := hP
    have hDc := hD
    have hKc := hK
    have hFc := nd_rs hD hS hA
    refine nd_cVi (As := [.int x2, .int 0]) (rest := []) (q := q2) (w' := dw_X10 a ac s3) ⟨hx, hb, hml, hown, hts⟩ (fun sz => dm_X10_of l hlt dC dI a ac n (x2) (0) s0 hq sz) (cwV 2 hts gi_dm_X10_openingsFree_0 rfl rfl rfl (by decide +kernel) ⟨Nat.le_of_ble_eq_true rfl, Nat.le_of_ble_eq_true rfl⟩) hPc hDc hKc hS hA hN (va_recv hKc hPc (ci := 11) (q0 := 0) rfl rfl) rfl hl.1 rfl (Nat.le_of_ble_eq_true rfl) dX10_openingsFree_13 (fun H locs hP1 hD1 hk1 hS => ?_)
    have hP := hP1
    have hD := hD1.weaken (fun k q _ h => hFc q.1 h)
    refine lv_if_ne (tgt := 22) hx hb dX10_openingsFree_16 (by decide) (fun c5 => ?_) (fun c5 => ?_)
    · have h := nd_neg h c5
      exact (db_X10_openingsFree_22 C K J4) (x1) (x2) s3 _ _ _ h hP hD hS (lv_sub hl [0, 1, 2] rfl)
    · have h := nd_pos h c5
      obtain ⟨z7, ez7, h⟩ := nd_let_e h
      refine lv_iinc (v := z7) (lv' := [(1, .int z7), (0, .ref (a 0)), (2, .int x2)]) hx hb dX10_openingsFree_19 hl (k := 1) rfl (by rw [ez7]) (by decide) rfl (fun ls hl => ?_)
      exact (db_X10_openingsFree_22 C K J4) (z7) (x2) s3 _ _ _ h hP hD hS (lv_sub hl [1, 0, 2] rfl)
set_option maxHeartbeats 40000000 in
set_option maxRecDepth 100000 in
theorem db_X10_openingsFree_4 {p : Program} {l : Launch} {e : Env} {s : State} {m : MethodId} {args : Array Value} {below : List Frame} {meth : Method} {c : Code} {Q : State → Prop} {A : Nat → Prop} {dC : Nat → ClassId} {dI : Nat → Nat → Nat} {a : Nat → Nat} {ac : Nat → ClassId} {n : Nat} {r : Int32 × (St)} (C : nd_C p l s m args c A (dC, dI) cX10_openingsFree 3 RX10 ow_dm_X10_openingsFree (dk_X10 ac)) (K : nd_Ki p l e (headSpec ow_dm_X10_openingsFree ({ frames := 1, cells := 0, slots := 0, locals := 22 })).room s m args below meth c Q A (dC, dI) cX10_openingsFree .int (St) (dw_X10 a ac) r) (k : Nat) : dj_X10_openingsFree_4 p l e s m args below meth c Q A dC dI a ac (df_X10_openingsFree_4 n k) r := by
  induction k with
  | zero => intro x1 x2 s0 H locs ls h; exact nomatch (show (none : Option (Int32 × (St))) = some r from h)
  | succ k ih => exact dB_X10_openingsFree_4 C K ih
set_option maxHeartbeats 40000000 in
set_option maxRecDepth 100000 in
theorem db_X10_openingsFree_0 {p : Program} {l : Launch} {e : Env} {s : State} {m : MethodId} {args : Array Value} {below : List Frame} {meth : Method} {c : Code} {Q : State → Prop} {A : Nat → Prop} {dC : Nat → ClassId} {dI : Nat → Nat → Nat} {a : Nat → Nat} {ac : Nat → ClassId} {n : Nat} {r : Int32 × (St)} (C : nd_C p l s m args c A (dC, dI) cX10_openingsFree 3 RX10 ow_dm_X10_openingsFree (dk_X10 ac)) (K : nd_Ki p l e (headSpec ow_dm_X10_openingsFree ({ frames := 1, cells := 0, slots := 0, locals := 22 })).room s m args below meth c Q A (dC, dI) cX10_openingsFree .int (St) (dw_X10 a ac) r) : dj_X10_openingsFree_0 p l e s m args below meth c Q A dC dI a ac (df_X10_openingsFree_0 n) r := by
  obtain ⟨hlt, hx, hb, hml, hown, hts, hN, hA, hK⟩ := id C
  intro s0 H locs ls h hP hD hS hl
  unfold df_X10_openingsFree_0 at h
  refine lv_iconst (v := 0) hx hb dX10_openingsFree_0 (by decide) ?_
  refine lv_istore_n (lv' := [(1, .int 0), (0, .ref (a 0))]) hx hb dX10_openingsFree_1 rfl hl (by decide) rfl (fun ls hl => ?_)
  refine lv_iconst (v := 0) hx hb dX10_openingsFree_2 (by decide) ?_
  refine lv_istore_n (lv' := [(2, .int 0), (1, .int 0), (0, .ref (a 0))]) hx hb dX10_openingsFree_3 rfl hl (by decide) rfl (fun ls hl => ?_)
  exact (db_X10_openingsFree_4 C K n) (0) (0) s0 _ _ _ h hP hD hS (lv_sub hl [2, 1, 0] rfl)
set_option maxHeartbeats 40000000 in
set_option maxRecDepth 100000 in
theorem dm_X10_openingsFree (l : Launch) (hlt : l.stackTraces = false) (dC : Nat → ClassId) (dI : Nat → Nat → Nat) (a : Nat → Nat) (ac : Nat → ClassId) (n : Nat) (s0 : St) {r : Int32 × (St)} (h : df_X10_openingsFree n s0 = some r) (sz : Nat) : Met l yX10_openingsFree ow_dm_X10_openingsFree ({ frames := 1, cells := 0, slots := 0, locals := 22 }) (va_Pc [.ref (a 0)] (fun U => U.heap.size = sz ∧ va_P (dC, dI) vwCl (dw_X10 a ac s0) U.heap ∧ va_K (dC, dI) vwCl (dk_X10 ac) U ∧ va_D (fun _ => True) (dw_X10 a ac s0) ∧ nv_E dI (va_A (dw_X10 a ac s0) sz) U)) (va_Qi (fun x _ => x = r.1) (fun (_ : Unit) t => va_P (dC, dI) vwCl (dw_X10 a ac r.2) t.heap ∧ va_K (dC, dI) vwCl (dk_X10 ac) t ∧ va_D (va_A (dw_X10 a ac s0) sz) (dw_X10 a ac r.2)) (va_A (dw_X10 a ac s0) sz)) 0 0 (va_A (dw_X10 a ac s0) sz) := by
  refine Met.ofW (cc := cX10_openingsFree) (maxL := 3) (ret := (some .int)) (by decide) rfl ?_
  intro p e s m args below meth c s₁ B hml hv
  obtain ⟨rfl, hsz, hP, hK, hD0, hN⟩ := hv
  have hx := B.exec
  have hb := B.bytes
  have hr := B.returns
  have hts := atoms_spec (ws := ow_dm_X10_openingsFree) B.pre
  have hown : s.vm.findClass RX10 = some m.cls := findClass_of_methodNamed B.named
  have hlocks := B.notSynchronized
  subst hsz
  have hD := hD0.self (sz := s.heap.size)
  generalize hAe : va_A (dw_X10 a ac s0) s.heap.size = A at hD hN ⊢
  have hA : ∀ q : Nat, s.heap.size ≤ q → A q := fun q h => by rw [← hAe]; exact Or.inr h
  have hl := lv_entry ([.ref (a 0)]) (n := 3) (Nat.le_of_ble_eq_true rfl)
  rw [lg_entry_eq]
  generalize (lg_sl ([.ref (a 0)]) ++ List.replicate (3 - (lg_sl ([.ref (a 0)])).length) Slot.unset).toArray = ls at hl ⊢
  have hl : lv_has ls 3 [(0, .ref (a 0))] := hl
  exact db_X10_openingsFree_0 (dC := dC) (dI := dI) (a := a) (ac := ac) (n := n) (r := r) ⟨hlt, hx, hb, hml, hown, hts, hN, hA, hK⟩ (fun pc v τ H locs ls d z er hP hD hS => by subst er; exact W.zret (v := v) hx hb hr z (fun t ht hW => ⟨⟨v, (), rfl, rfl, by rw [ht]; exact hP, va_K.moved hW.alike hK, hD⟩, hS.F ht⟩) hS.2.2 d) s0 _ _ _ h hP hD va_S.rf (lv_sub hl [0] rfl)
def ow_dm_X10_close : List Cond := Cond.code yX10_close cX10_close 4 none :: ([Cond.methodLink RX10 80 yX10_openingOf, Cond.instanceMethod yX10_openingOf, Cond.selects RX10 yX10_openingOf yX10_openingOf, Cond.initialized RX10, Cond.fieldLink RX10 11 "TimeMachine$Things" "link" "[I", Cond.fieldLink RX10 15 "TimeMachine$Things" "opening" "[I", Cond.methodLink RX10 74 yX10_of, Cond.instanceMethod yX10_of, Cond.selects RX10 yX10_of yX10_of, Cond.methodLink RX10 77 yX10_hold, Cond.instanceMethod yX10_hold, Cond.selects RX10 yX10_hold yX10_hold] ++ (u_ws RX10 TX10 11 ++ (ow_dm_X10_openingOf ++ (ow_dm_X10_of ++ (ow_dm_X10_hold ++ [])))))
theorem gd_dm_X10_close : ∀ w ∈ ow_dm_X10_close, (w.onTables && w.keeps) = true ∨ ∃ ty, w = Cond.arrayClass ty := List.forall_mem_cons.mpr ⟨good_of_word rfl, List.forall_mem_append.mpr ⟨fun w h => good_of_word (List.all_eq_true.mp (by decide +kernel) w h), List.forall_mem_append.mpr ⟨gu_X10, List.forall_mem_append.mpr ⟨gd_dm_X10_openingOf, List.forall_mem_append.mpr ⟨gd_dm_X10_of, List.forall_mem_append.mpr ⟨gd_dm_X10_hold, fun _ h => nomatch h⟩⟩⟩⟩⟩⟩
theorem hi_dm_X10_close_X10 : ∀ w ∈ u_ws RX10 TX10 11, w ∈ ow_dm_X10_close := fun w h => List.mem_cons_of_mem _ (List.mem_append_right _ (List.mem_append_left _ h))
theorem gi_dm_X10_close_0 : GoodIn ow_dm_X10_close (wsV RX10 80 RX10 yX10_openingOf ow_dm_X10_openingOf) := goodIn_app (goodIn_of _ (by decide +kernel)) (fun w h => ⟨List.mem_cons_of_mem _ (List.mem_append_right _ (List.mem_append_right _ (List.mem_append_left _ h))), gd_dm_X10_openingOf w h⟩)
theorem gi_dm_X10_close_1 : GoodIn ow_dm_X10_close (wsV RX10 74 RX10 yX10_of ow_dm_X10_of) := goodIn_app (goodIn_of _ (by decide +kernel)) (fun w h => ⟨List.mem_cons_of_mem _ (List.mem_append_right _ (List.mem_append_right _ (List.mem_append_right _ (List.mem_append_left _ h)))), gd_dm_X10_of w h⟩)
theorem gi_dm_X10_close_2 : GoodIn ow_dm_X10_close (wsV RX10 77 RX10 yX10_hold ow_dm_X10_hold) := goodIn_app (goodIn_of _ (by decide +kernel)) (fun w h => ⟨List.mem_cons_of_mem _ (List.mem_append_right _ (List.mem_append_right _ (List.mem_append_right _ (List.mem_append_right _ (List.mem_append_left _ h))))), gd_dm_X10_hold w h⟩)
def dj_X10_close_74 (p : Program) (l : Launch) (e : Env) (s : State) (m : MethodId) (args : Array Value) (below : List Frame) (meth : Method) (c : Code) (Q : State → Prop) (A : Nat → Prop) (dC : Nat → ClassId) (dI : Nat → Nat → Nat) (a : Nat → Nat) (ac : Nat → ClassId) (g : (St) → Option (St)) (r : St) : Prop := ∀ (s0 : St) (H : Heap) (locs : List Loc) (ls : Array Slot), g s0 = some r → va_P (dC, dI) vwCl (dw_X10 a ac s0) H → va_D A (dw_X10 a ac s0) → va_S A s.heap H locs → lv_has ls 4 [] → W p l e (headSpec ow_dm_X10_close ({ frames := 1, cells := 0, slots := 0, locals := 23 })).room s m args below meth c H locs 0 0 Q (F0 m 74 ls [])
def dj_X10_close_0 (p : Program) (l : Launch) (e : Env) (s : State) (m : MethodId) (args : Array Value) (below : List Frame) (meth : Method) (c : Code) (Q : State → Prop) (A : Nat → Prop) (dC : Nat → ClassId) (dI : Nat → Nat → Nat) (a : Nat → Nat) (ac : Nat → ClassId) (g : Int32 → Int32 → (St) → Option (St)) (r : St) : Prop := ∀ (v0 : Int32) (v1 : Int32) (s0 : St) (H : Heap) (locs : List Loc) (ls : Array Slot), g v0 v1 s0 = some r → va_P (dC, dI) vwCl (dw_X10 a ac s0) H → va_D A (dw_X10 a ac s0) → va_S A s.heap H locs → lv_has ls 4 [(0, .ref (a 0)), (1, .int v0), (2, .int v1)] → W p l e (headSpec ow_dm_X10_close ({ frames := 1, cells := 0, slots := 0, locals := 23 })).room s m args below meth c H locs 0 0 Q (F0 m 0 ls [])
set_option maxHeartbeats 40000000 in
set_option maxRecDepth 100000 in
theorem db_X10_close_74 {p : Program} {l : Launch} {e : Env} {s : State} {m : MethodId} {args : Array Value} {below : List Frame} {meth : Method} {c : Code} {Q : State → Prop} {A : Nat → Prop} {dC : Nat → ClassId} {dI : Nat → Nat → Nat} {a : Nat → Nat} {ac : Nat → ClassId} {n : Nat} {r : St} (C : nd_C p l s m args c A (dC, dI) cX10_close 4 RX10 ow_dm_X10_close (dk_X10 ac)) (K : nd_Kv p l e (headSpec ow_dm_X10_close ({ frames := 1, cells := 0, slots := 0, locals := 23 })).room s m args below meth c Q A (dC, dI) cX10_close (St) (dw_X10 a ac) r) : dj_X10_close_74 p l e s m args below meth c Q A dC dI a ac (df_X10_close_74 n) r := by
  obtain ⟨hlt, hx, hb, hml, hown, hts, hN, hA, hK⟩ := id C
  intro s0 H locs ls h hP hD hS hl
  unfold df_X10_close_74 at h
  exact K _ _ _ _ _ dX10_close_74 (Option.some.inj h).symm hP hD hS
set_option maxHeartbeats 40000000 in
set_option maxRecDepth 100000 in
theorem db_X10_close_0 {p : Program} {l : Launch} {e : Env} {s : State} {m : MethodId} {args : Array Value} {below : List Frame} {meth : Method} {c : Code} {Q : State → Prop} {A : Nat → Prop} {dC : Nat → ClassId} {dI : Nat → Nat → Nat} {a : Nat → Nat} {ac : Nat → ClassId} {n : Nat} {r : St} (C : nd_C p l s m args c A (dC, dI) cX10_close 4 RX10 ow_dm_X10_close (dk_X10 ac)) (K : nd_Kv p l e (headSpec ow_dm_X10_close ({ frames := 1, cells := 0, slots := 0, locals := 23 })).room s m args below meth c Q A (dC, dI) cX10_close (St) (dw_X10 a ac) r) : dj_X10_close_0 p l e s m args below meth c Q A dC dI a ac (df_X10_close_0 n) r := by
  obtain ⟨hlt, hx, hb, hml, hown, hts, hN, hA, hK⟩ := id C
  intro v0 v1 s0 H locs ls h hP hD hS hl
  unfold df_X10_close_0 at h
  refine lv_aload_n hx hb dX10_close_0 rfl (lv_at hl 0 rfl) ?_
  refine lv_iload_n hx hb dX10_close_1 rfl (lv_at hl 1 rfl) ?_
  refine lv_iload_n hx hb dX10_close_2 rfl (lv_at hl 2 rfl) ?_
  obtain ⟨q1, s2, hq, h⟩ := nd_b2_e h
  have hPc := hP
  have hDc := hD
  have hKc := hK
  have hFc := nd_rs hD hS hA
  refine nd_cVi (As := [.int v0, .int v1]) (rest := []) (q := q1) (w' := dw_X10 a ac s2) ⟨hx, hb, hml, hown, hts⟩ (fun sz => dm_X10_openingOf l hlt dC dI a ac n (v0) (v1) s0 hq sz) (cwV 2 hts gi_dm_X10_close_0 rfl rfl rfl (by decide +kernel) ⟨Nat.le_of_ble_eq_true rfl, Nat.le_of_ble_eq_true rfl⟩) hPc hDc hKc hS hA hN (va_recv hKc hPc (ci := 11) (q0 := 0) rfl rfl) rfl hl.1 rfl (Nat.le_of_ble_eq_true rfl) dX10_close_3 (fun H locs hP1 hD1 hk1 hS => ?_)
  have hP := hP1
  have hD := hD1.weaken (fun k q _ h => hFc q.1 h)
  refine lv_istore_n (lv' := [(3, .int q1), (0, .ref (a 0)), (1, .int v0), (2, .int v1)]) hx hb dX10_close_6 rfl hl (by decide) rfl (fun ls hl => ?_)
  refine lv_iload_n hx hb dX10_close_7 rfl (lv_at hl 0 rfl) ?_
  refine lv_if_lt (tgt := 74) hx hb dX10_close_8 (by decide) (fun c4 => ?_) (fun c4 => ?_)
  · have h := nd_pos h c4
    exact (db_X10_close_74 C K)  s2 _ _ _ h hP hD hS (lv_sub hl [] rfl)
  · have h := nd_neg h c4
    refine lv_aload_n hx hb dX10_close_11 rfl (lv_at hl 1 rfl) ?_
    refine va_get (D := (dC, dI)) (ci := 11) (v := .ref (a 1)) (C := RX10) (T := TX10) (N := 11) hx hb hts hi_dm_X10_close_X10 hown hK hP 0 rfl rfl 0 (by decide) (hts (.fieldLink RX10 11 "TimeMachine$Things" "link" "[I") (List.mem_of_getElem? (i := 5) rfl)) (fun _ h9 => h9) rfl dX10_close_12 ?_
    refine lv_iload_n hx hb dX10_close_15 rfl (lv_at hl 2 rfl) ?_
    refine lv_bipush (v := 16) hx hb dX10_close_16 (by decide) ?_
    refine lv_imul hx hb dX10_close_18 ?_
    refine lv_iload_n hx hb dX10_close_19 rfl (lv_at hl 3 rfl) ?_
    refine lv_iadd hx hb dX10_close_20 ?_
    refine lv_iconst (v := 0) hx hb dX10_close_21 (by decide) ?_
    obtain ⟨i5, h⟩ := nd_ck_e h
    refine va_iast (i := ((v0 * 16) + v1)) (x := 0) hx hb hK hP hD hS 1 0 rfl rfl i5 dX10_close_22 (fun H locs hP hD hS => ?_)
    obtain ⟨s6, es6, h⟩ := nd_let_e h
    have hP : va_P (dC, dI) vwCl (dw_X10 a ac s6) H := by rw [es6]; exact hP
    have hD : va_D A (dw_X10 a ac s6) := by rw [es6]; exact hD
    refine lv_aload_n hx hb dX10_close_23 rfl (lv_at hl 1 rfl) ?_
    refine va_get (D := (dC, dI)) (ci := 11) (v := .ref (a 2)) (C := RX10) (T := TX10) (N := 11) hx hb hts hi_dm_X10_close_X10 hown hK hP 0 rfl rfl 1 (by decide) (hts (.fieldLink RX10 15 "TimeMachine$Things" "opening" "[I") (List.mem_of_getElem? (i := 6) rfl)) (fun _ h9 => h9) rfl dX10_close_24 ?_
    refine lv_iload_n hx hb dX10_close_27 rfl (lv_at hl 0 rfl) ?_
    refine lv_iconst (v := 5) hx hb dX10_close_28 (by decide) ?_
    refine lv_imul hx hb dX10_close_29 ?_
    refine lv_iconst (v := 1) hx hb dX10_close_30 (by decide) ?_
    refine lv_iadd hx hb dX10_close_31 ?_
    refine lv_dup2_11 hx hb dX10_close_32 rfl rfl ?_
    obtain ⟨i7, h⟩ := nd_ck_e h
    refine va_iald (i := ((q1 * 5) + 1)) hx hb hK hP 2 1 rfl rfl i7 dX10_close_33 ?_
    refine lv_iconst (v := 1) hx hb dX10_close_34 (by decide) ?_
    refine lv_isub hx hb dX10_close_35 ?_
    obtain ⟨i8, h⟩ := nd_ck_e h
    refine va_iast (i := ((q1 * 5) + 1)) (x := ((sR s6 1 (Int32.toNatClampNeg ((q1 * 5) + 1))) - 1)) hx hb hK hP hD hS 2 1 rfl rfl i8 dX10_close_36 (fun H locs hP hD hS => ?_)
    obtain ⟨s9, es9, h⟩ := nd_let_e h
    have hP : va_P (dC, dI) vwCl (dw_X10 a ac s9) H := by rw [es9]; exact hP
    have hD : va_D A (dw_X10 a ac s9) := by rw [es9]; exact hD
    refine lv_aload_n hx hb dX10_close_37 rfl (lv_at hl 1 rfl) ?_
    refine lv_iload_n hx hb dX10_close_38 rfl (lv_at hl 0 rfl) ?_
    refine lv_iconst (v := 1) hx hb dX10_close_39 (by decide) ?_
    obtain ⟨q10, s11, hq, h⟩ := nd_b2_e h
    have hPc := hP
    have hDc := hD
    have hKc := hK
    have hFc := nd_rs hD hS hA
    refine nd_cVi (As := [.int q1, .int 1]) (rest := []) (q := q10) (w' := dw_X10 a ac s11) ⟨hx, hb, hml, hown, hts⟩ (fun sz => dm_X10_of l hlt dC dI a ac n (q1) (1) s9 hq sz) (cwV 2 hts gi_dm_X10_close_1 rfl rfl rfl (by decide +kernel) ⟨Nat.le_of_ble_eq_true rfl, Nat.le_of_ble_eq_true rfl⟩) hPc hDc hKc hS hA hN (va_recv hKc hPc (ci := 11) (q0 := 0) rfl rfl) rfl hl.1 rfl (Nat.le_of_ble_eq_true rfl) dX10_close_40 (fun H locs hP1 hD1 hk1 hS => ?_)
    have hP := hP1
    have hD := hD1.weaken (fun k q _ h => hFc q.1 h)
    refine lv_if_ne (tgt := 74) hx hb dX10_close_43 (by decide) (fun c13 => ?_) (fun c13 => ?_)
    · have h := nd_neg h c13
      exact (db_X10_close_74 C K)  s11 _ _ _ h hP hD hS (lv_sub hl [] rfl)
    · have h := nd_pos h c13
      refine lv_aload_n hx hb dX10_close_46 rfl (lv_at hl 1 rfl) ?_
      refine lv_aload_n hx hb dX10_close_47 rfl (lv_at hl 1 rfl) ?_
      refine lv_iload_n hx hb dX10_close_48 rfl (lv_at hl 0 rfl) ?_
      refine lv_iconst (v := 0) hx hb dX10_close_49 (by decide) ?_
      obtain ⟨q14, s15, hq, h⟩ := nd_b2_e h
      have hPc := hP
      have hDc := hD
      have hKc := hK
      have hFc := nd_rs hD hS hA
      refine nd_cVi (As := [.int q1, .int 0]) (rest := [.ref (a 0)]) (q := q14) (w' := dw_X10 a ac s15) ⟨hx, hb, hml, hown, hts⟩ (fun sz => dm_X10_of l hlt dC dI a ac n (q1) (0) s11 hq sz) (cwV 2 hts gi_dm_X10_close_1 rfl rfl rfl (by decide +kernel) ⟨Nat.le_of_ble_eq_true rfl, Nat.le_of_ble_eq_true rfl⟩) hPc hDc hKc hS hA hN (va_recv hKc hPc (ci := 11) (q0 := 0) rfl rfl) rfl hl.1 rfl (Nat.le_of_ble_eq_true rfl) dX10_close_50 (fun H locs hP1 hD1 hk1 hS => ?_)
      have hP := hP1
      have hD := hD1.weaken (fun k q _ h => hFc q.1 h)
      refine lv_aload_n hx hb dX10_close_53 rfl (lv_at hl 1 rfl) ?_
      refine lv_iload_n hx hb dX10_close_54 rfl (lv_at hl 0 rfl) ?_
      refine lv_iconst (v := 2) hx hb dX10_close_55 (by decide) ?_
      obtain ⟨q17, s18, hq, h⟩ := nd_b2_e h
      have hPc := hP
      have hDc := hD
      have hKc := hK
      have hFc := nd_rs hD hS hA
      refine nd_cVi (As := [.int q1, .int 2]) (rest := [.int q14, .ref (a 0)]) (q := q17) (w' := dw_X10 a ac s18) ⟨hx, hb, hml, hown, hts⟩ (fun sz => dm_X10_of l hlt dC dI a ac n (q1) (2) s15 hq sz) (cwV 2 hts gi_dm_X10_close_1 rfl rfl rfl (by decide +kernel) ⟨Nat.le_of_ble_eq_true rfl, Nat.le_of_ble_eq_true rfl⟩) hPc hDc hKc hS hA hN (va_recv hKc hPc (ci := 11) (q0 := 0) rfl rfl) rfl hl.1 rfl (Nat.le_of_ble_eq_true rfl) dX10_close_56 (fun H locs hP1 hD1 hk1 hS => ?_)
      have hP := hP1
      have hD := hD1.weaken (fun k q _ h => hFc q.1 h)
      refine lv_iconst (v := (-1)) hx hb dX10_close_59 (by decide) ?_
      obtain ⟨s21, hq, h⟩ := nd_b1_e h
      have hPc := hP
      have hDc := hD
      have hKc := hK
      have hFc := nd_rs hD hS hA
      refine nd_cVv (As := [.int q14, .int q17, .int (-1)]) (rest := []) (w' := dw_X10 a ac s21) ⟨hx, hb, hml, hown, hts⟩ (fun sz => dm_X10_hold l hlt dC dI a ac n (q14) (q17) ((-1)) s18 hq sz) (cwV 3 hts gi_dm_X10_close_2 rfl rfl rfl (by decide +kernel) ⟨Nat.le_of_ble_eq_true rfl, Nat.le_of_ble_eq_true rfl⟩) hPc hDc hKc hS hA hN (va_recv hKc hPc (ci := 11) (q0 := 0) rfl rfl) rfl hl.1 rfl (Nat.le_of_ble_eq_true rfl) dX10_close_60 (fun H locs hP1 hD1 hk1 hS => ?_)
      have hP := hP1
      have hD := hD1.weaken (fun k q _ h => hFc q.1 h)
      refine lv_aload_n hx hb dX10_close_63 rfl (lv_at hl 1 rfl) ?_
      refine va_get (D := (dC, dI)) (ci := 11) (v := .ref (a 2)) (C := RX10) (T := TX10) (N := 11) hx hb hts hi_dm_X10_close_X10 hown hK hP 0 rfl rfl 1 (by decide) (hts (.fieldLink RX10 15 "TimeMachine$Things" "opening" "[I") (List.mem_of_getElem? (i := 6) rfl)) (fun _ h9 => h9) rfl dX10_close_64 ?_
      refine lv_iload_n hx hb dX10_close_67 rfl (lv_at hl 0 rfl) ?_
      refine lv_iconst (v := 5) hx hb dX10_close_68 (by decide) ?_
      refine lv_imul hx hb dX10_close_69 ?_
      refine lv_iconst (v := 0) hx hb dX10_close_70 (by decide) ?_
      refine lv_iadd hx hb dX10_close_71 ?_
      refine lv_iconst (v := 0) hx hb dX10_close_72 (by decide) ?_
      obtain ⟨i23, h⟩ := nd_ck_e h
      refine va_iast (i := ((q1 * 5) + 0)) (x := 0) hx hb hK hP hD hS 2 1 rfl rfl i23 dX10_close_73 (fun H locs hP hD hS => ?_)
      obtain ⟨s24, es24, h⟩ := nd_let_e h
      have hP : va_P (dC, dI) vwCl (dw_X10 a ac s24) H := by rw [es24]; exact hP
      have hD : va_D A (dw_X10 a ac s24) := by rw [es24]; exact hD
      exact (db_X10_close_74 C K)  s24 _ _ _ h hP hD hS (lv_sub hl [] rfl)
set_option maxHeartbeats 40000000 in
set_option maxRecDepth 100000 in
theorem dm_X10_close (l : Launch) (hlt : l.stackTraces = false) (dC : Nat → ClassId) (dI : Nat → Nat → Nat) (a : Nat → Nat) (ac : Nat → ClassId) (n : Nat) (v0 : Int32) (v1 : Int32) (s0 : St) {r : St} (h : df_X10_close n v0 v1 s0 = some r) (sz : Nat) : Met l yX10_close ow_dm_X10_close ({ frames := 1, cells := 0, slots := 0, locals := 23 }) (va_Pc [.ref (a 0), .int v0, .int v1] (fun U => U.heap.size = sz ∧ va_P (dC, dI) vwCl (dw_X10 a ac s0) U.heap ∧ va_K (dC, dI) vwCl (dk_X10 ac) U ∧ va_D (fun _ => True) (dw_X10 a ac s0) ∧ nv_E dI (va_A (dw_X10 a ac s0) sz) U)) (va_Qv (fun _ => True) (fun (_ : Unit) t => va_P (dC, dI) vwCl (dw_X10 a ac r) t.heap ∧ va_K (dC, dI) vwCl (dk_X10 ac) t ∧ va_D (va_A (dw_X10 a ac s0) sz) (dw_X10 a ac r)) (va_A (dw_X10 a ac s0) sz)) 0 0 (va_A (dw_X10 a ac s0) sz) := by
  refine Met.ofW (cc := cX10_close) (maxL := 4) (ret := none) (by decide) rfl ?_
  intro p e s m args below meth c s₁ B hml hv
  obtain ⟨rfl, hsz, hP, hK, hD0, hN⟩ := hv
  have hx := B.exec
  have hb := B.bytes
  have hr := B.returns
  have hts := atoms_spec (ws := ow_dm_X10_close) B.pre
  have hown : s.vm.findClass RX10 = some m.cls := findClass_of_methodNamed B.named
  have hlocks := B.notSynchronized
  subst hsz
  have hD := hD0.self (sz := s.heap.size)
  generalize hAe : va_A (dw_X10 a ac s0) s.heap.size = A at hD hN ⊢
  have hA : ∀ q : Nat, s.heap.size ≤ q → A q := fun q h => by rw [← hAe]; exact Or.inr h
  have hl := lv_entry ([.ref (a 0), .int v0, .int v1]) (n := 4) (Nat.le_of_ble_eq_true rfl)
  rw [lg_entry_eq]
  generalize (lg_sl ([.ref (a 0), .int v0, .int v1]) ++ List.replicate (4 - (lg_sl ([.ref (a 0), .int v0, .int v1])).length) Slot.unset).toArray = ls at hl ⊢
  have hl : lv_has ls 4 [(0, .ref (a 0)), (1, .int v0), (2, .int v1)] := hl
  exact db_X10_close_0 (dC := dC) (dI := dI) (a := a) (ac := ac) (n := n) (r := r) ⟨hlt, hx, hb, hml, hown, hts, hN, hA, hK⟩ (fun pc τ H locs ls d er hP hD hS => by subst er; exact W.vret hx hb hr (fun t ht hW => ⟨⟨(), rfl, trivial, by rw [ht]; exact hP, va_K.moved hW.alike hK, hD⟩, hS.F ht⟩) hS.2.2 d) v0 v1 s0 _ _ _ h hP hD va_S.rf (lv_sub hl [0, 1, 2] rfl)
def ow_dm_X10_share : List Cond := Cond.code yX10_share cX10_share 5 none :: ([Cond.methodLink RX10 80 yX10_openingOf, Cond.instanceMethod yX10_openingOf, Cond.selects RX10 yX10_openingOf yX10_openingOf, Cond.initialized RX10, Cond.methodLink RX10 58 yX10_linkTo, Cond.instanceMethod yX10_linkTo, Cond.selects RX10 yX10_linkTo yX10_linkTo] ++ (ow_dm_X10_openingOf ++ (ow_dm_X10_linkTo ++ [])))
theorem gd_dm_X10_share : ∀ w ∈ ow_dm_X10_share, (w.onTables && w.keeps) = true ∨ ∃ ty, w = Cond.arrayClass ty := List.forall_mem_cons.mpr ⟨good_of_word rfl, List.forall_mem_append.mpr ⟨fun w h => good_of_word (List.all_eq_true.mp (by decide +kernel) w h), List.forall_mem_append.mpr ⟨gd_dm_X10_openingOf, List.forall_mem_append.mpr ⟨gd_dm_X10_linkTo, fun _ h => nomatch h⟩⟩⟩⟩
theorem gi_dm_X10_share_0 : GoodIn ow_dm_X10_share (wsV RX10 80 RX10 yX10_openingOf ow_dm_X10_openingOf) := goodIn_app (goodIn_of _ (by decide +kernel)) (fun w h => ⟨List.mem_cons_of_mem _ (List.mem_append_right _ (List.mem_append_left _ h)), gd_dm_X10_openingOf w h⟩)
theorem gi_dm_X10_share_1 : GoodIn ow_dm_X10_share (wsV RX10 58 RX10 yX10_linkTo ow_dm_X10_linkTo) := goodIn_app (goodIn_of _ (by decide +kernel)) (fun w h => ⟨List.mem_cons_of_mem _ (List.mem_append_right _ (List.mem_append_right _ (List.mem_append_left _ h))), gd_dm_X10_linkTo w h⟩)
def dj_X10_share_29 (p : Program) (l : Launch) (e : Env) (s : State) (m : MethodId) (args : Array Value) (below : List Frame) (meth : Method) (c : Code) (Q : State → Prop) (A : Nat → Prop) (dC : Nat → ClassId) (dI : Nat → Nat → Nat) (a : Nat → Nat) (ac : Nat → ClassId) (g : Int32 → Int32 → Int32 → (St) → Option (St)) (r : St) : Prop := ∀ (x1 : Int32) (x2 : Int32) (x3 : Int32) (s0 : St) (H : Heap) (locs : List Loc) (ls : Array Slot), g x1 x2 x3 s0 = some r → va_P (dC, dI) vwCl (dw_X10 a ac s0) H → va_D A (dw_X10 a ac s0) → va_S A s.heap H locs → lv_has ls 5 [(0, .ref (a 0)), (1, .int x1), (2, .int x2), (3, .int x3)] → W p l e (headSpec ow_dm_X10_share ({ frames := 1, cells := 0, slots := 0, locals := 23 })).room s m args below meth c H locs 0 0 Q (F0 m 29 ls [])
def dj_X10_share_2 (p : Program) (l : Launch) (e : Env) (s : State) (m : MethodId) (args : Array Value) (below : List Frame) (meth : Method) (c : Code) (Q : State → Prop) (A : Nat → Prop) (dC : Nat → ClassId) (dI : Nat → Nat → Nat) (a : Nat → Nat) (ac : Nat → ClassId) (g : Int32 → Int32 → Int32 → (St) → Option (St)) (r : St) : Prop := ∀ (x1 : Int32) (x2 : Int32) (x3 : Int32) (s0 : St) (H : Heap) (locs : List Loc) (ls : Array Slot), g x1 x2 x3 s0 = some r → va_P (dC, dI) vwCl (dw_X10 a ac s0) H → va_D A (dw_X10 a ac s0) → va_S A s.heap H locs → lv_has ls 5 [(0, .ref (a 0)), (1, .int x1), (2, .int x2), (3, .int x3)] → W p l e (headSpec ow_dm_X10_share ({ frames := 1, cells := 0, slots := 0, locals := 23 })).room s m args below meth c H locs 0 0 Q (F0 m 2 ls [])
def dj_X10_share_0 (p : Program) (l : Launch) (e : Env) (s : State) (m : MethodId) (args : Array Value) (below : List Frame) (meth : Method) (c : Code) (Q : State → Prop) (A : Nat → Prop) (dC : Nat → ClassId) (dI : Nat → Nat → Nat) (a : Nat → Nat) (ac : Nat → ClassId) (g : Int32 → Int32 → (St) → Option (St)) (r : St) : Prop := ∀ (v0 : Int32) (v1 : Int32) (s0 : St) (H : Heap) (locs : List Loc) (ls : Array Slot), g v0 v1 s0 = some r → va_P (dC, dI) vwCl (dw_X10 a ac s0) H → va_D A (dw_X10 a ac s0) → va_S A s.heap H locs → lv_has ls 5 [(0, .ref (a 0)), (1, .int v0), (2, .int v1)] → W p l e (headSpec ow_dm_X10_share ({ frames := 1, cells := 0, slots := 0, locals := 23 })).room s m args below meth c H locs 0 0 Q (F0 m 0 ls [])
set_option maxHeartbeats 40000000 in
set_option maxRecDepth 100000 in
theorem db_X10_share_29 {p : Program} {l : Launch} {e : Env} {s : State} {m : MethodId} {args : Array Value} {below : List Frame} {meth : Method} {c : Code} {Q : State → Prop} {A : Nat → Prop} {dC : Nat → ClassId} {dI : Nat → Nat → Nat} {a : Nat → Nat} {ac : Nat → ClassId} {n : Nat} {r : St} (C : nd_C p l s m args c A (dC, dI) cX10_share 5 RX10 ow_dm_X10_share (dk_X10 ac)) (K : nd_Kv p l e (headSpec ow_dm_X10_share ({ frames := 1, cells := 0, slots := 0, locals := 23 })).room s m args below meth c Q A (dC, dI) cX10_share (St) (dw_X10 a ac) r) {g2 : Int32 → Int32 → Int32 → (St) → Option (St)} (J2 : dj_X10_share_2 p l e s m args below meth c Q A dC dI a ac g2 r) : dj_X10_share_29 p l e s m args below meth c Q A dC dI a ac (df_X10_share_29 n g2) r := by
  obtain ⟨hlt, hx, hb, hml, hown, hts, hN, hA, hK⟩ := id C
  intro x1 x2 x3 s0 H locs ls h hP hD hS hl
  unfold df_X10_share_29 at h
  obtain ⟨z6, ez6, h⟩ := nd_let_e h
  refine lv_iinc (v := z6) (lv' := [(3, .int z6), (0, .ref (a 0)), (1, .int x1), (2, .int x2)]) hx hb dX10_share_29 hl (k := 3) rfl (by rw [ez6]) (by decide) rfl (fun ls hl => ?_)
  refine lv_goto (tgt := 2) hx hb dX10_share_32 (by decide) ?_
  exact (J2) (x1) (x2) (z6) s0 _ _ _ h hP hD hS (lv_sub hl [1, 2, 3, 0] rfl)
set_option maxHeartbeats 40000000 in
set_option maxRecDepth 100000 in
theorem dB_X10_share_2 {p : Program} {l : Launch} {e : Env} {s : State} {m : MethodId} {args : Array Value} {below : List Frame} {meth : Method} {c : Code} {Q : State → Prop} {A : Nat → Prop} {dC : Nat → ClassId} {dI : Nat → Nat → Nat} {a : Nat → Nat} {ac : Nat → ClassId} {n : Nat} {r : St} (C : nd_C p l s m args c A (dC, dI) cX10_share 5 RX10 ow_dm_X10_share (dk_X10 ac)) (K : nd_Kv p l e (headSpec ow_dm_X10_share ({ frames := 1, cells := 0, slots := 0, locals := 23 })).room s m args below meth c Q A (dC, dI) cX10_share (St) (dw_X10 a ac) r) {g2 : Int32 → Int32 → Int32 → (St) → Option (St)} (J2 : dj_X10_share_2 p l e s m args below meth c Q A dC dI a ac g2 r) : dj_X10_share_2 p l e s m args below meth c Q A dC dI a ac (dF_X10_share_2 n g2) r := by
  obtain ⟨hlt, hx, hb, hml, hown, hts, hN, hA, hK⟩ := id C
  intro x1 x2 x3 s0 H locs ls h hP hD hS hl
  unfold dF_X10_share_2 at h
  refine lv_iload_n hx hb dX10_share_2 rfl (lv_at hl 3 rfl) ?_
  refine lv_bipush (v := 16) hx hb dX10_share_3 (by decide) ?_
  refine lv_icmp_ge (tgt := 35) hx hb dX10_share_5 (by decide) (fun c1 => ?_) (fun c1 => ?_)
  · have h := nd_pos h c1
    exact K _ _ _ _ _ dX10_share_35 (Option.some.inj h).symm hP hD hS
  · have h := nd_neg h c1
    refine lv_aload_n hx hb dX10_share_8 rfl (lv_at hl 0 rfl) ?_
    refine lv_iload_n hx hb dX10_share_9 rfl (lv_at hl 1 rfl) ?_
    refine lv_iload_n hx hb dX10_share_10 rfl (lv_at hl 3 rfl) ?_
    obtain ⟨q2, s3, hq, h⟩ := nd_b2_e h
    have hPc := hP
    have hDc := hD
    have hKc := hK
    have hFc := nd_rs hD hS hA
    refine nd_cVi (As := [.int x1, .int x3]) (rest := []) (q := q2) (w' := dw_X10 a ac s3) ⟨hx, hb, hml, hown, hts⟩ (fun sz => dm_X10_openingOf l hlt dC dI a ac n (x1) (x3) s0 hq sz) (cwV 2 hts gi_dm_X10_share_0 rfl rfl rfl (by decide +kernel) ⟨Nat.le_of_ble_eq_true rfl, Nat.le_of_ble_eq_true rfl⟩) hPc hDc hKc hS hA hN (va_recv hKc hPc (ci := 11) (q0 := 0) rfl rfl) rfl hl.1 rfl (Nat.le_of_ble_eq_true rfl) dX10_share_11 (fun H locs hP1 hD1 hk1 hS => ?_)
    have hP := hP1
    have hD := hD1.weaken (fun k q _ h => hFc q.1 h)
    refine lv_istore (lv' := [(4, .int q2), (0, .ref (a 0)), (1, .int x1), (2, .int x2), (3, .int x3)]) hx hb dX10_share_14 hl (by decide) rfl (fun ls hl => ?_)
    refine lv_iload hx hb dX10_share_16 (lv_at hl 0 rfl) ?_
    refine lv_if_lt (tgt := 29) hx hb dX10_share_18 (by decide) (fun c5 => ?_) (fun c5 => ?_)
    · have h := nd_pos h c5
      exact (db_X10_share_29 C K J2) (x1) (x2) (x3) s3 _ _ _ h hP hD hS (lv_sub hl [1, 2, 3, 4] rfl)
    · have h := nd_neg h c5
      refine lv_aload_n hx hb dX10_share_21 rfl (lv_at hl 1 rfl) ?_
      refine lv_iload_n hx hb dX10_share_22 rfl (lv_at hl 3 rfl) ?_
      refine lv_iload_n hx hb dX10_share_23 rfl (lv_at hl 4 rfl) ?_
      refine lv_iload hx hb dX10_share_24 (lv_at hl 0 rfl) ?_
      obtain ⟨s8, hq, h⟩ := nd_b1_e h
      have hPc := hP
      have hDc := hD
      have hKc := hK
      have hFc := nd_rs hD hS hA
      refine nd_cVv (As := [.int x2, .int x3, .int q2]) (rest := []) (w' := dw_X10 a ac s8) ⟨hx, hb, hml, hown, hts⟩ (fun sz => dm_X10_linkTo l hlt dC dI a ac n (x2) (x3) (q2) s3 hq sz) (cwV 3 hts gi_dm_X10_share_1 rfl rfl rfl (by decide +kernel) ⟨Nat.le_of_ble_eq_true rfl, Nat.le_of_ble_eq_true rfl⟩) hPc hDc hKc hS hA hN (va_recv hKc hPc (ci := 11) (q0 := 0) rfl rfl) rfl hl.1 rfl (Nat.le_of_ble_eq_true rfl) dX10_share_26 (fun H locs hP1 hD1 hk1 hS => ?_)
      have hP := hP1
      have hD := hD1.weaken (fun k q _ h => hFc q.1 h)
      exact (db_X10_share_29 C K J2) (x1) (x2) (x3) s8 _ _ _ h hP hD hS (lv_sub hl [1, 2, 3, 4] rfl)
set_option maxHeartbeats 40000000 in
set_option maxRecDepth 100000 in
theorem db_X10_share_2 {p : Program} {l : Launch} {e : Env} {s : State} {m : MethodId} {args : Array Value} {below : List Frame} {meth : Method} {c : Code} {Q : State → Prop} {A : Nat → Prop} {dC : Nat → ClassId} {dI : Nat → Nat → Nat} {a : Nat → Nat} {ac : Nat → ClassId} {n : Nat} {r : St} (C : nd_C p l s m args c A (dC, dI) cX10_share 5 RX10 ow_dm_X10_share (dk_X10 ac)) (K : nd_Kv p l e (headSpec ow_dm_X10_share ({ frames := 1, cells := 0, slots := 0, locals := 23 })).room s m args below meth c Q A (dC, dI) cX10_share (St) (dw_X10 a ac) r) (k : Nat) : dj_X10_share_2 p l e s m args below meth c Q A dC dI a ac (df_X10_share_2 n k) r := by
  induction k with
  | zero => intro x1 x2 x3 s0 H locs ls h; exact nomatch (show (none : Option (St)) = some r from h)
  | succ k ih => exact dB_X10_share_2 C K ih
set_option maxHeartbeats 40000000 in
set_option maxRecDepth 100000 in
theorem db_X10_share_0 {p : Program} {l : Launch} {e : Env} {s : State} {m : MethodId} {args : Array Value} {below : List Frame} {meth : Method} {c : Code} {Q : State → Prop} {A : Nat → Prop} {dC : Nat → ClassId} {dI : Nat → Nat → Nat} {a : Nat → Nat} {ac : Nat → ClassId} {n : Nat} {r : St} (C : nd_C p l s m args c A (dC, dI) cX10_share 5 RX10 ow_dm_X10_share (dk_X10 ac)) (K : nd_Kv p l e (headSpec ow_dm_X10_share ({ frames := 1, cells := 0, slots := 0, locals := 23 })).room s m args below meth c Q A (dC, dI) cX10_share (St) (dw_X10 a ac) r) : dj_X10_share_0 p l e s m args below meth c Q A dC dI a ac (df_X10_share_0 n) r := by
  obtain ⟨hlt, hx, hb, hml, hown, hts, hN, hA, hK⟩ := id C
  intro v0 v1 s0 H locs ls h hP hD hS hl
  unfold df_X10_share_0 at h
  refine lv_iconst (v := 0) hx hb dX10_share_0 (by decide) ?_
  refine lv_istore_n (lv' := [(3, .int 0), (0, .ref (a 0)), (1, .int v0), (2, .int v1)]) hx hb dX10_share_1 rfl hl (by decide) rfl (fun ls hl => ?_)
  exact (db_X10_share_2 C K n) (v0) (v1) (0) s0 _ _ _ h hP hD hS (lv_sub hl [1, 2, 3, 0] rfl)
set_option maxHeartbeats 40000000 in
set_option maxRecDepth 100000 in
theorem dm_X10_share (l : Launch) (hlt : l.stackTraces = false) (dC : Nat → ClassId) (dI : Nat → Nat → Nat) (a : Nat → Nat) (ac : Nat → ClassId) (n : Nat) (v0 : Int32) (v1 : Int32) (s0 : St) {r : St} (h : df_X10_share n v0 v1 s0 = some r) (sz : Nat) : Met l yX10_share ow_dm_X10_share ({ frames := 1, cells := 0, slots := 0, locals := 23 }) (va_Pc [.ref (a 0), .int v0, .int v1] (fun U => U.heap.size = sz ∧ va_P (dC, dI) vwCl (dw_X10 a ac s0) U.heap ∧ va_K (dC, dI) vwCl (dk_X10 ac) U ∧ va_D (fun _ => True) (dw_X10 a ac s0) ∧ nv_E dI (va_A (dw_X10 a ac s0) sz) U)) (va_Qv (fun _ => True) (fun (_ : Unit) t => va_P (dC, dI) vwCl (dw_X10 a ac r) t.heap ∧ va_K (dC, dI) vwCl (dk_X10 ac) t ∧ va_D (va_A (dw_X10 a ac s0) sz) (dw_X10 a ac r)) (va_A (dw_X10 a ac s0) sz)) 0 0 (va_A (dw_X10 a ac s0) sz) := by
  refine Met.ofW (cc := cX10_share) (maxL := 5) (ret := none) (by decide) rfl ?_
  intro p e s m args below meth c s₁ B hml hv
  obtain ⟨rfl, hsz, hP, hK, hD0, hN⟩ := hv
  have hx := B.exec
  have hb := B.bytes
  have hr := B.returns
  have hts := atoms_spec (ws := ow_dm_X10_share) B.pre
  have hown : s.vm.findClass RX10 = some m.cls := findClass_of_methodNamed B.named
  have hlocks := B.notSynchronized
  subst hsz
  have hD := hD0.self (sz := s.heap.size)
  generalize hAe : va_A (dw_X10 a ac s0) s.heap.size = A at hD hN ⊢
  have hA : ∀ q : Nat, s.heap.size ≤ q → A q := fun q h => by rw [← hAe]; exact Or.inr h
  have hl := lv_entry ([.ref (a 0), .int v0, .int v1]) (n := 5) (Nat.le_of_ble_eq_true rfl)
  rw [lg_entry_eq]
  generalize (lg_sl ([.ref (a 0), .int v0, .int v1]) ++ List.replicate (5 - (lg_sl ([.ref (a 0), .int v0, .int v1])).length) Slot.unset).toArray = ls at hl ⊢
  have hl : lv_has ls 5 [(0, .ref (a 0)), (1, .int v0), (2, .int v1)] := hl
  exact db_X10_share_0 (dC := dC) (dI := dI) (a := a) (ac := ac) (n := n) (r := r) ⟨hlt, hx, hb, hml, hown, hts, hN, hA, hK⟩ (fun pc τ H locs ls d er hP hD hS => by subst er; exact W.vret hx hb hr (fun t ht hW => ⟨⟨(), rfl, trivial, by rw [ht]; exact hP, va_K.moved hW.alike hK, hD⟩, hS.F ht⟩) hS.2.2 d) v0 v1 s0 _ _ _ h hP hD va_S.rf (lv_sub hl [0, 1, 2] rfl)
def ow_dm_X10_freePipe : List Cond := Cond.code yX10_freePipe cX10_freePipe 2 (some .int) :: ([Cond.fieldLink RX10 18 "TimeMachine$Things" "pipe" "[I"] ++ (u_ws RX10 TX10 11 ++ []))
theorem gd_dm_X10_freePipe : ∀ w ∈ ow_dm_X10_freePipe, (w.onTables && w.keeps) = true ∨ ∃ ty, w = Cond.arrayClass ty := List.forall_mem_cons.mpr ⟨good_of_word rfl, List.forall_mem_append.mpr ⟨fun w h => good_of_word (List.all_eq_true.mp (by decide +kernel) w h), List.forall_mem_append.mpr ⟨gu_X10, fun _ h => nomatch h⟩⟩⟩
theorem hi_dm_X10_freePipe_X10 : ∀ w ∈ u_ws RX10 TX10 11, w ∈ ow_dm_X10_freePipe := fun w h => List.mem_cons_of_mem _ (List.mem_append_right _ (List.mem_append_left _ h))
def dj_X10_freePipe_2 (p : Program) (l : Launch) (e : Env) (s : State) (m : MethodId) (args : Array Value) (below : List Frame) (meth : Method) (c : Code) (Q : State → Prop) (A : Nat → Prop) (dC : Nat → ClassId) (dI : Nat → Nat → Nat) (a : Nat → Nat) (ac : Nat → ClassId) (g : Int32 → (St) → Option (Int32 × (St))) (r : Int32 × (St)) : Prop := ∀ (x1 : Int32) (s0 : St) (H : Heap) (locs : List Loc) (ls : Array Slot), g x1 s0 = some r → va_P (dC, dI) vwCl (dw_X10 a ac s0) H → va_D A (dw_X10 a ac s0) → va_S A s.heap H locs → lv_has ls 2 [(0, .ref (a 0)), (1, .int x1)] → W p l e (headSpec ow_dm_X10_freePipe ({ frames := 0, cells := 0, slots := 0, locals := 0 })).room s m args below meth c H locs 0 0 Q (F0 m 2 ls [])
def dj_X10_freePipe_0 (p : Program) (l : Launch) (e : Env) (s : State) (m : MethodId) (args : Array Value) (below : List Frame) (meth : Method) (c : Code) (Q : State → Prop) (A : Nat → Prop) (dC : Nat → ClassId) (dI : Nat → Nat → Nat) (a : Nat → Nat) (ac : Nat → ClassId) (g : (St) → Option (Int32 × (St))) (r : Int32 × (St)) : Prop := ∀ (s0 : St) (H : Heap) (locs : List Loc) (ls : Array Slot), g s0 = some r → va_P (dC, dI) vwCl (dw_X10 a ac s0) H → va_D A (dw_X10 a ac s0) → va_S A s.heap H locs → lv_has ls 2 [(0, .ref (a 0))] → W p l e (headSpec ow_dm_X10_freePipe ({ frames := 0, cells := 0, slots := 0, locals := 0 })).room s m args below meth c H locs 0 0 Q (F0 m 0 ls [])
set_option maxHeartbeats 40000000 in
set_option maxRecDepth 100000 in
theorem dB_X10_freePipe_2 {p : Program} {l : Launch} {e : Env} {s : State} {m : MethodId} {args : Array Value} {below : List Frame} {meth : Method} {c : Code} {Q : State → Prop} {A : Nat → Prop} {dC : Nat → ClassId} {dI : Nat → Nat → Nat} {a : Nat → Nat} {ac : Nat → ClassId} {n : Nat} {r : Int32 × (St)} (C : nd_C p l s m args c A (dC, dI) cX10_freePipe 2 RX10 ow_dm_X10_freePipe (dk_X10 ac)) (K : nd_Ki p l e (headSpec ow_dm_X10_freePipe ({ frames := 0, cells := 0, slots := 0, locals := 0 })).room s m args below meth c Q A (dC, dI) cX10_freePipe .int (St) (dw_X10 a ac) r) {g2 : Int32 → (St) → Option (Int32 × (St))} (J2 : dj_X10_freePipe_2 p l e s m args below meth c Q A dC dI a ac g2 r) : dj_X10_freePipe_2 p l e s m args below meth c Q A dC dI a ac (dF_X10_freePipe_2 n g2) r := by
  obtain ⟨hlt, hx, hb, hml, hown, hts, hN, hA, hK⟩ := id C
  intro x1 s0 H locs ls h hP hD hS hl
  unfold dF_X10_freePipe_2 at h
  refine lv_iload_n hx hb dX10_freePipe_2 rfl (lv_at hl 1 rfl) ?_
  refine lv_bipush (v := 8) hx hb dX10_freePipe_3 (by decide) ?_
  refine lv_icmp_ge (tgt := 40) hx hb dX10_freePipe_5 (by decide) (fun c1 => ?_) (fun c1 => ?_)
  · have h := nd_pos h c1
    refine lv_iconst (v := (-1)) hx hb dX10_freePipe_40 (by decide) ?_
    exact K _ _ _ _ _ _ dX10_freePipe_41 rfl (Option.some.inj h).symm hP hD hS
  · have h := nd_neg h c1
    refine lv_aload_n hx hb dX10_freePipe_8 rfl (lv_at hl 0 rfl) ?_
    refine va_get (D := (dC, dI)) (ci := 11) (v := .ref (a 3)) (C := RX10) (T := TX10) (N := 11) hx hb hts hi_dm_X10_freePipe_X10 hown hK hP 0 rfl rfl 2 (by decide) (hts (.fieldLink RX10 18 "TimeMachine$Things" "pipe" "[I") (List.mem_of_getElem? (i := 1) rfl)) (fun _ h9 => h9) rfl dX10_freePipe_9 ?_
    refine lv_iload_n hx hb dX10_freePipe_12 rfl (lv_at hl 1 rfl) ?_
    refine lv_iconst (v := 4) hx hb dX10_freePipe_13 (by decide) ?_
    refine lv_imul hx hb dX10_freePipe_14 ?_
    refine lv_iconst (v := 1) hx hb dX10_freePipe_15 (by decide) ?_
    refine lv_iadd hx hb dX10_freePipe_16 ?_
    obtain ⟨i2, h⟩ := nd_ck_e h
    refine va_iald (i := ((x1 * 4) + 1)) hx hb hK hP 3 2 rfl rfl i2 dX10_freePipe_17 ?_
    refine lv_aload_n hx hb dX10_freePipe_18 rfl (lv_at hl 0 rfl) ?_
    refine va_get (D := (dC, dI)) (ci := 11) (v := .ref (a 3)) (C := RX10) (T := TX10) (N := 11) hx hb hts hi_dm_X10_freePipe_X10 hown hK hP 0 rfl rfl 2 (by decide) (hts (.fieldLink RX10 18 "TimeMachine$Things" "pipe" "[I") (List.mem_of_getElem? (i := 1) rfl)) (fun _ h9 => h9) rfl dX10_freePipe_19 ?_
    refine lv_iload_n hx hb dX10_freePipe_22 rfl (lv_at hl 1 rfl) ?_
    refine lv_iconst (v := 4) hx hb dX10_freePipe_23 (by decide) ?_
    refine lv_imul hx hb dX10_freePipe_24 ?_
    refine lv_iconst (v := 2) hx hb dX10_freePipe_25 (by decide) ?_
    refine lv_iadd hx hb dX10_freePipe_26 ?_
    obtain ⟨i3, h⟩ := nd_ck_e h
    refine va_iald (i := ((x1 * 4) + 2)) hx hb hK hP 3 2 rfl rfl i3 dX10_freePipe_27 ?_
    refine lv_iadd hx hb dX10_freePipe_28 ?_
    refine lv_if_ne (tgt := 34) hx hb dX10_freePipe_29 (by decide) (fun c4 => ?_) (fun c4 => ?_)
    · have h := nd_neg h c4
      obtain ⟨z5, ez5, h⟩ := nd_let_e h
      refine lv_iinc (v := z5) (lv' := [(1, .int z5), (0, .ref (a 0))]) hx hb dX10_freePipe_34 hl (k := 1) rfl (by rw [ez5]) (by decide) rfl (fun ls hl => ?_)
      refine lv_goto (tgt := 2) hx hb dX10_freePipe_37 (by decide) ?_
      exact (J2) (z5) s0 _ _ _ h hP hD hS (lv_sub hl [1, 0] rfl)
    · have h := nd_pos h c4
      refine lv_iload_n hx hb dX10_freePipe_32 rfl (lv_at hl 1 rfl) ?_
      exact K _ _ _ _ _ _ dX10_freePipe_33 rfl (Option.some.inj h).symm hP hD hS
set_option maxHeartbeats 40000000 in
set_option maxRecDepth 100000 in
theorem db_X10_freePipe_2 {p : Program} {l : Launch} {e : Env} {s : State} {m : MethodId} {args : Array Value} {below : List Frame} {meth : Method} {c : Code} {Q : State → Prop} {A : Nat → Prop} {dC : Nat → ClassId} {dI : Nat → Nat → Nat} {a : Nat → Nat} {ac : Nat → ClassId} {n : Nat} {r : Int32 × (St)} (C : nd_C p l s m args c A (dC, dI) cX10_freePipe 2 RX10 ow_dm_X10_freePipe (dk_X10 ac)) (K : nd_Ki p l e (headSpec ow_dm_X10_freePipe ({ frames := 0, cells := 0, slots := 0, locals := 0 })).room s m args below meth c Q A (dC, dI) cX10_freePipe .int (St) (dw_X10 a ac) r) (k : Nat) : dj_X10_freePipe_2 p l e s m args below meth c Q A dC dI a ac (df_X10_freePipe_2 n k) r := by
  induction k with
  | zero => intro x1 s0 H locs ls h; exact nomatch (show (none : Option (Int32 × (St))) = some r from h)
  | succ k ih => exact dB_X10_freePipe_2 C K ih
set_option maxHeartbeats 40000000 in
set_option maxRecDepth 100000 in
theorem db_X10_freePipe_0 {p : Program} {l : Launch} {e : Env} {s : State} {m : MethodId} {args : Array Value} {below : List Frame} {meth : Method} {c : Code} {Q : State → Prop} {A : Nat → Prop} {dC : Nat → ClassId} {dI : Nat → Nat → Nat} {a : Nat → Nat} {ac : Nat → ClassId} {n : Nat} {r : Int32 × (St)} (C : nd_C p l s m args c A (dC, dI) cX10_freePipe 2 RX10 ow_dm_X10_freePipe (dk_X10 ac)) (K : nd_Ki p l e (headSpec ow_dm_X10_freePipe ({ frames := 0, cells := 0, slots := 0, locals := 0 })).room s m args below meth c Q A (dC, dI) cX10_freePipe .int (St) (dw_X10 a ac) r) : dj_X10_freePipe_0 p l e s m args below meth c Q A dC dI a ac (df_X10_freePipe_0 n) r := by
  obtain ⟨hlt, hx, hb, hml, hown, hts, hN, hA, hK⟩ := id C
  intro s0 H locs ls h hP hD hS hl
  unfold df_X10_freePipe_0 at h
  refine lv_iconst (v := 0) hx hb dX10_freePipe_0 (by decide) ?_
  refine lv_istore_n (lv' := [(1, .int 0), (0, .ref (a 0))]) hx hb dX10_freePipe_1 rfl hl (by decide) rfl (fun ls hl => ?_)
  exact (db_X10_freePipe_2 C K n) (0) s0 _ _ _ h hP hD hS (lv_sub hl [1, 0] rfl)
set_option maxHeartbeats 40000000 in
set_option maxRecDepth 100000 in
theorem dm_X10_freePipe (l : Launch) (hlt : l.stackTraces = false) (dC : Nat → ClassId) (dI : Nat → Nat → Nat) (a : Nat → Nat) (ac : Nat → ClassId) (n : Nat) (s0 : St) {r : Int32 × (St)} (h : df_X10_freePipe n s0 = some r) (sz : Nat) : Met l yX10_freePipe ow_dm_X10_freePipe ({ frames := 0, cells := 0, slots := 0, locals := 0 }) (va_Pc [.ref (a 0)] (fun U => U.heap.size = sz ∧ va_P (dC, dI) vwCl (dw_X10 a ac s0) U.heap ∧ va_K (dC, dI) vwCl (dk_X10 ac) U ∧ va_D (fun _ => True) (dw_X10 a ac s0) ∧ nv_E dI (va_A (dw_X10 a ac s0) sz) U)) (va_Qi (fun x _ => x = r.1) (fun (_ : Unit) t => va_P (dC, dI) vwCl (dw_X10 a ac r.2) t.heap ∧ va_K (dC, dI) vwCl (dk_X10 ac) t ∧ va_D (va_A (dw_X10 a ac s0) sz) (dw_X10 a ac r.2)) (va_A (dw_X10 a ac s0) sz)) 0 0 (va_A (dw_X10 a ac s0) sz) := by
  refine Met.ofW (cc := cX10_freePipe) (maxL := 2) (ret := (some .int)) (by decide) rfl ?_
  intro p e s m args below meth c s₁ B hml hv
  obtain ⟨rfl, hsz, hP, hK, hD0, hN⟩ := hv
  have hx := B.exec
  have hb := B.bytes
  have hr := B.returns
  have hts := atoms_spec (ws := ow_dm_X10_freePipe) B.pre
  have hown : s.vm.findClass RX10 = some m.cls := findClass_of_methodNamed B.named
  have hlocks := B.notSynchronized
  subst hsz
  have hD := hD0.self (sz := s.heap.size)
  generalize hAe : va_A (dw_X10 a ac s0) s.heap.size = A at hD hN ⊢
  have hA : ∀ q : Nat, s.heap.size ≤ q → A q := fun q h => by rw [← hAe]; exact Or.inr h
  have hl := lv_entry ([.ref (a 0)]) (n := 2) (Nat.le_of_ble_eq_true rfl)
  rw [lg_entry_eq]
  generalize (lg_sl ([.ref (a 0)]) ++ List.replicate (2 - (lg_sl ([.ref (a 0)])).length) Slot.unset).toArray = ls at hl ⊢
  have hl : lv_has ls 2 [(0, .ref (a 0))] := hl
  exact db_X10_freePipe_0 (dC := dC) (dI := dI) (a := a) (ac := ac) (n := n) (r := r) ⟨hlt, hx, hb, hml, hown, hts, hN, hA, hK⟩ (fun pc v τ H locs ls d z er hP hD hS => by subst er; exact W.zret (v := v) hx hb hr z (fun t ht hW => ⟨⟨v, (), rfl, rfl, by rw [ht]; exact hP, va_K.moved hW.alike hK, hD⟩, hS.F ht⟩) hS.2.2 d) s0 _ _ _ h hP hD va_S.rf (lv_sub hl [0] rfl)
def ow_dm_X10_emptyPipe : List Cond := Cond.code yX10_emptyPipe cX10_emptyPipe 2 none :: ([Cond.fieldLink RX10 18 "TimeMachine$Things" "pipe" "[I"] ++ (u_ws RX10 TX10 11 ++ []))
theorem gd_dm_X10_emptyPipe : ∀ w ∈ ow_dm_X10_emptyPipe, (w.onTables && w.keeps) = true ∨ ∃ ty, w = Cond.arrayClass ty := List.forall_mem_cons.mpr ⟨good_of_word rfl, List.forall_mem_append.mpr ⟨fun w h => good_of_word (List.all_eq_true.mp (by decide +kernel) w h), List.forall_mem_append.mpr ⟨gu_X10, fun _ h => nomatch h⟩⟩⟩
theorem hi_dm_X10_emptyPipe_X10 : ∀ w ∈ u_ws RX10 TX10 11, w ∈ ow_dm_X10_emptyPipe := fun w h => List.mem_cons_of_mem _ (List.mem_append_right _ (List.mem_append_left _ h))
def dj_X10_emptyPipe_0 (p : Program) (l : Launch) (e : Env) (s : State) (m : MethodId) (args : Array Value) (below : List Frame) (meth : Method) (c : Code) (Q : State → Prop) (A : Nat → Prop) (dC : Nat → ClassId) (dI : Nat → Nat → Nat) (a : Nat → Nat) (ac : Nat → ClassId) (g : Int32 → (St) → Option (St)) (r : St) : Prop := ∀ (v0 : Int32) (s0 : St) (H : Heap) (locs : List Loc) (ls : Array Slot), g v0 s0 = some r → va_P (dC, dI) vwCl (dw_X10 a ac s0) H → va_D A (dw_X10 a ac s0) → va_S A s.heap H locs → lv_has ls 2 [(0, .ref (a 0)), (1, .int v0)] → W p l e (headSpec ow_dm_X10_emptyPipe ({ frames := 0, cells := 0, slots := 0, locals := 0 })).room s m args below meth c H locs 0 0 Q (F0 m 0 ls [])
set_option maxHeartbeats 40000000 in
set_option maxRecDepth 100000 in
theorem db_X10_emptyPipe_0 {p : Program} {l : Launch} {e : Env} {s : State} {m : MethodId} {args : Array Value} {below : List Frame} {meth : Method} {c : Code} {Q : State → Prop} {A : Nat → Prop} {dC : Nat → ClassId} {dI : Nat → Nat → Nat} {a : Nat → Nat} {ac : Nat → ClassId} {n : Nat} {r : St} (C : nd_C p l s m args c A (dC, dI) cX10_emptyPipe 2 RX10 ow_dm_X10_emptyPipe (dk_X10 ac)) (K : nd_Kv p l e (headSpec ow_dm_X10_emptyPipe ({ frames := 0, cells := 0, slots := 0, locals := 0 })).room s m args below meth c Q A (dC, dI) cX10_emptyPipe (St) (dw_X10 a ac) r) : dj_X10_emptyPipe_0 p l e s m args below meth c Q A dC dI a ac (df_X10_emptyPipe_0 n) r := by
  obtain ⟨hlt, hx, hb, hml, hown, hts, hN, hA, hK⟩ := id C
  intro v0 s0 H locs ls h hP hD hS hl
  unfold df_X10_emptyPipe_0 at h
  refine lv_aload_n hx hb dX10_emptyPipe_0 rfl (lv_at hl 0 rfl) ?_
  refine va_get (D := (dC, dI)) (ci := 11) (v := .ref (a 3)) (C := RX10) (T := TX10) (N := 11) hx hb hts hi_dm_X10_emptyPipe_X10 hown hK hP 0 rfl rfl 2 (by decide) (hts (.fieldLink RX10 18 "TimeMachine$Things" "pipe" "[I") (List.mem_of_getElem? (i := 1) rfl)) (fun _ h9 => h9) rfl dX10_emptyPipe_1 ?_
  refine lv_iload_n hx hb dX10_emptyPipe_4 rfl (lv_at hl 1 rfl) ?_
  refine lv_iconst (v := 4) hx hb dX10_emptyPipe_5 (by decide) ?_
  refine lv_imul hx hb dX10_emptyPipe_6 ?_
  refine lv_iconst (v := 0) hx hb dX10_emptyPipe_7 (by decide) ?_
  refine lv_iadd hx hb dX10_emptyPipe_8 ?_
  refine lv_iconst (v := 0) hx hb dX10_emptyPipe_9 (by decide) ?_
  obtain ⟨i1, h⟩ := nd_ck_e h
  refine va_iast (i := ((v0 * 4) + 0)) (x := 0) hx hb hK hP hD hS 3 2 rfl rfl i1 dX10_emptyPipe_10 (fun H locs hP hD hS => ?_)
  obtain ⟨s2, es2, h⟩ := nd_let_e h
  have hP : va_P (dC, dI) vwCl (dw_X10 a ac s2) H := by rw [es2]; exact hP
  have hD : va_D A (dw_X10 a ac s2) := by rw [es2]; exact hD
  refine lv_aload_n hx hb dX10_emptyPipe_11 rfl (lv_at hl 0 rfl) ?_
  refine va_get (D := (dC, dI)) (ci := 11) (v := .ref (a 3)) (C := RX10) (T := TX10) (N := 11) hx hb hts hi_dm_X10_emptyPipe_X10 hown hK hP 0 rfl rfl 2 (by decide) (hts (.fieldLink RX10 18 "TimeMachine$Things" "pipe" "[I") (List.mem_of_getElem? (i := 1) rfl)) (fun _ h9 => h9) rfl dX10_emptyPipe_12 ?_
  refine lv_iload_n hx hb dX10_emptyPipe_15 rfl (lv_at hl 1 rfl) ?_
  refine lv_iconst (v := 4) hx hb dX10_emptyPipe_16 (by decide) ?_
  refine lv_imul hx hb dX10_emptyPipe_17 ?_
  refine lv_iconst (v := 3) hx hb dX10_emptyPipe_18 (by decide) ?_
  refine lv_iadd hx hb dX10_emptyPipe_19 ?_
  refine lv_iconst (v := 0) hx hb dX10_emptyPipe_20 (by decide) ?_
  obtain ⟨i3, h⟩ := nd_ck_e h
  refine va_iast (i := ((v0 * 4) + 3)) (x := 0) hx hb hK hP hD hS 3 2 rfl rfl i3 dX10_emptyPipe_21 (fun H locs hP hD hS => ?_)
  obtain ⟨s4, es4, h⟩ := nd_let_e h
  have hP : va_P (dC, dI) vwCl (dw_X10 a ac s4) H := by rw [es4]; exact hP
  have hD : va_D A (dw_X10 a ac s4) := by rw [es4]; exact hD
  exact K _ _ _ _ _ dX10_emptyPipe_22 (Option.some.inj h).symm hP hD hS
set_option maxHeartbeats 40000000 in
set_option maxRecDepth 100000 in
theorem dm_X10_emptyPipe (l : Launch) (hlt : l.stackTraces = false) (dC : Nat → ClassId) (dI : Nat → Nat → Nat) (a : Nat → Nat) (ac : Nat → ClassId) (n : Nat) (v0 : Int32) (s0 : St) {r : St} (h : df_X10_emptyPipe n v0 s0 = some r) (sz : Nat) : Met l yX10_emptyPipe ow_dm_X10_emptyPipe ({ frames := 0, cells := 0, slots := 0, locals := 0 }) (va_Pc [.ref (a 0), .int v0] (fun U => U.heap.size = sz ∧ va_P (dC, dI) vwCl (dw_X10 a ac s0) U.heap ∧ va_K (dC, dI) vwCl (dk_X10 ac) U ∧ va_D (fun _ => True) (dw_X10 a ac s0) ∧ nv_E dI (va_A (dw_X10 a ac s0) sz) U)) (va_Qv (fun _ => True) (fun (_ : Unit) t => va_P (dC, dI) vwCl (dw_X10 a ac r) t.heap ∧ va_K (dC, dI) vwCl (dk_X10 ac) t ∧ va_D (va_A (dw_X10 a ac s0) sz) (dw_X10 a ac r)) (va_A (dw_X10 a ac s0) sz)) 0 0 (va_A (dw_X10 a ac s0) sz) := by
  refine Met.ofW (cc := cX10_emptyPipe) (maxL := 2) (ret := none) (by decide) rfl ?_
  intro p e s m args below meth c s₁ B hml hv
  obtain ⟨rfl, hsz, hP, hK, hD0, hN⟩ := hv
  have hx := B.exec
  have hb := B.bytes
  have hr := B.returns
  have hts := atoms_spec (ws := ow_dm_X10_emptyPipe) B.pre
  have hown : s.vm.findClass RX10 = some m.cls := findClass_of_methodNamed B.named
  have hlocks := B.notSynchronized
  subst hsz
  have hD := hD0.self (sz := s.heap.size)
  generalize hAe : va_A (dw_X10 a ac s0) s.heap.size = A at hD hN ⊢
  have hA : ∀ q : Nat, s.heap.size ≤ q → A q := fun q h => by rw [← hAe]; exact Or.inr h
  have hl := lv_entry ([.ref (a 0), .int v0]) (n := 2) (Nat.le_of_ble_eq_true rfl)
  rw [lg_entry_eq]
  generalize (lg_sl ([.ref (a 0), .int v0]) ++ List.replicate (2 - (lg_sl ([.ref (a 0), .int v0])).length) Slot.unset).toArray = ls at hl ⊢
  have hl : lv_has ls 2 [(0, .ref (a 0)), (1, .int v0)] := hl
  exact db_X10_emptyPipe_0 (dC := dC) (dI := dI) (a := a) (ac := ac) (n := n) (r := r) ⟨hlt, hx, hb, hml, hown, hts, hN, hA, hK⟩ (fun pc τ H locs ls d er hP hD hS => by subst er; exact W.vret hx hb hr (fun t ht hW => ⟨⟨(), rfl, trivial, by rw [ht]; exact hP, va_K.moved hW.alike hK, hD⟩, hS.F ht⟩) hS.2.2 d) v0 s0 _ _ _ h hP hD va_S.rf (lv_sub hl [0, 1] rfl)
def ow_dm_X10_isBroken : List Cond := Cond.code yX10_isBroken cX10_isBroken 2 (some .boolean) :: ([Cond.methodLink RX10 74 yX10_of, Cond.instanceMethod yX10_of, Cond.selects RX10 yX10_of yX10_of, Cond.initialized RX10, Cond.fieldLink RX10 18 "TimeMachine$Things" "pipe" "[I"] ++ (u_ws RX10 TX10 11 ++ (ow_dm_X10_of ++ [])))
theorem gd_dm_X10_isBroken : ∀ w ∈ ow_dm_X10_isBroken, (w.onTables && w.keeps) = true ∨ ∃ ty, w = Cond.arrayClass ty := List.forall_mem_cons.mpr ⟨good_of_word rfl, List.forall_mem_append.mpr ⟨fun w h => good_of_word (List.all_eq_true.mp (by decide +kernel) w h), List.forall_mem_append.mpr ⟨gu_X10, List.forall_mem_append.mpr ⟨gd_dm_X10_of, fun _ h => nomatch h⟩⟩⟩⟩
theorem hi_dm_X10_isBroken_X10 : ∀ w ∈ u_ws RX10 TX10 11, w ∈ ow_dm_X10_isBroken := fun w h => List.mem_cons_of_mem _ (List.mem_append_right _ (List.mem_append_left _ h))
theorem gi_dm_X10_isBroken_0 : GoodIn ow_dm_X10_isBroken (wsV RX10 74 RX10 yX10_of ow_dm_X10_of) := goodIn_app (goodIn_of _ (by decide +kernel)) (fun w h => ⟨List.mem_cons_of_mem _ (List.mem_append_right _ (List.mem_append_right _ (List.mem_append_left _ h))), gd_dm_X10_of w h⟩)
def dj_X10_isBroken_33 (p : Program) (l : Launch) (e : Env) (s : State) (m : MethodId) (args : Array Value) (below : List Frame) (meth : Method) (c : Code) (Q : State → Prop) (A : Nat → Prop) (dC : Nat → ClassId) (dI : Nat → Nat → Nat) (a : Nat → Nat) (ac : Nat → ClassId) (g : Int32 → (St) → Option (Int32 × (St))) (r : Int32 × (St)) : Prop := ∀ (y0 : Int32) (s0 : St) (H : Heap) (locs : List Loc) (ls : Array Slot), g y0 s0 = some r → va_P (dC, dI) vwCl (dw_X10 a ac s0) H → va_D A (dw_X10 a ac s0) → va_S A s.heap H locs → lv_has ls 2 [] → W p l e (headSpec ow_dm_X10_isBroken ({ frames := 1, cells := 0, slots := 0, locals := 22 })).room s m args below meth c H locs 0 0 Q (F0 m 33 ls [.int y0])
def dj_X10_isBroken_32 (p : Program) (l : Launch) (e : Env) (s : State) (m : MethodId) (args : Array Value) (below : List Frame) (meth : Method) (c : Code) (Q : State → Prop) (A : Nat → Prop) (dC : Nat → ClassId) (dI : Nat → Nat → Nat) (a : Nat → Nat) (ac : Nat → ClassId) (g : (St) → Option (Int32 × (St))) (r : Int32 × (St)) : Prop := ∀ (s0 : St) (H : Heap) (locs : List Loc) (ls : Array Slot), g s0 = some r → va_P (dC, dI) vwCl (dw_X10 a ac s0) H → va_D A (dw_X10 a ac s0) → va_S A s.heap H locs → lv_has ls 2 [] → W p l e (headSpec ow_dm_X10_isBroken ({ frames := 1, cells := 0, slots := 0, locals := 22 })).room s m args below meth c H locs 0 0 Q (F0 m 32 ls [])
def dj_X10_isBroken_0 (p : Program) (l : Launch) (e : Env) (s : State) (m : MethodId) (args : Array Value) (below : List Frame) (meth : Method) (c : Code) (Q : State → Prop) (A : Nat → Prop) (dC : Nat → ClassId) (dI : Nat → Nat → Nat) (a : Nat → Nat) (ac : Nat → ClassId) (g : Int32 → (St) → Option (Int32 × (St))) (r : Int32 × (St)) : Prop := ∀ (v0 : Int32) (s0 : St) (H : Heap) (locs : List Loc) (ls : Array Slot), g v0 s0 = some r → va_P (dC, dI) vwCl (dw_X10 a ac s0) H → va_D A (dw_X10 a ac s0) → va_S A s.heap H locs → lv_has ls 2 [(0, .ref (a 0)), (1, .int v0)] → W p l e (headSpec ow_dm_X10_isBroken ({ frames := 1, cells := 0, slots := 0, locals := 22 })).room s m args below meth c H locs 0 0 Q (F0 m 0 ls [])
set_option maxHeartbeats 40000000 in
set_option maxRecDepth 100000 in
theorem db_X10_isBroken_33 {p : Program} {l : Launch} {e : Env} {s : State} {m : MethodId} {args : Array Value} {below : List Frame} {meth : Method} {c : Code} {Q : State → Prop} {A : Nat → Prop} {dC : Nat → ClassId} {dI : Nat → Nat → Nat} {a : Nat → Nat} {ac : Nat → ClassId} {n : Nat} {r : Int32 × (St)} (C : nd_C p l s m args c A (dC, dI) cX10_isBroken 2 RX10 ow_dm_X10_isBroken (dk_X10 ac)) (K : nd_Ki p l e (headSpec ow_dm_X10_isBroken ({ frames := 1, cells := 0, slots := 0, locals := 22 })).room s m args below meth c Q A (dC, dI) cX10_isBroken .boolean (St) (dw_X10 a ac) r) : dj_X10_isBroken_33 p l e s m args below meth c Q A dC dI a ac (df_X10_isBroken_33 n) r := by
  obtain ⟨hlt, hx, hb, hml, hown, hts, hN, hA, hK⟩ := id C
  intro y0 s0 H locs ls h hP hD hS hl
  unfold df_X10_isBroken_33 at h
  obtain ⟨n5, h⟩ := nd_z_e ⟨_, rfl⟩ h
  exact K _ _ _ _ _ _ dX10_isBroken_33 n5 (Option.some.inj h).symm hP hD hS
set_option maxHeartbeats 40000000 in
set_option maxRecDepth 100000 in
theorem db_X10_isBroken_32 {p : Program} {l : Launch} {e : Env} {s : State} {m : MethodId} {args : Array Value} {below : List Frame} {meth : Method} {c : Code} {Q : State → Prop} {A : Nat → Prop} {dC : Nat → ClassId} {dI : Nat → Nat → Nat} {a : Nat → Nat} {ac : Nat → ClassId} {n : Nat} {r : Int32 × (St)} (C : nd_C p l s m args c A (dC, dI) cX10_isBroken 2 RX10 ow_dm_X10_isBroken (dk_X10 ac)) (K : nd_Ki p l e (headSpec ow_dm_X10_isBroken ({ frames := 1, cells := 0, slots := 0, locals := 22 })).room s m args below meth c Q A (dC, dI) cX10_isBroken .boolean (St) (dw_X10 a ac) r) : dj_X10_isBroken_32 p l e s m args below meth c Q A dC dI a ac (df_X10_isBroken_32 n) r := by
  obtain ⟨hlt, hx, hb, hml, hown, hts, hN, hA, hK⟩ := id C
  intro s0 H locs ls h hP hD hS hl
  unfold df_X10_isBroken_32 at h
  refine lv_iconst (v := 0) hx hb dX10_isBroken_32 (by decide) ?_
  exact (db_X10_isBroken_33 C K) (0) s0 _ _ _ h hP hD hS (lv_sub hl [] rfl)
set_option maxHeartbeats 40000000 in
set_option maxRecDepth 100000 in
theorem db_X10_isBroken_0 {p : Program} {l : Launch} {e : Env} {s : State} {m : MethodId} {args : Array Value} {below : List Frame} {meth : Method} {c : Code} {Q : State → Prop} {A : Nat → Prop} {dC : Nat → ClassId} {dI : Nat → Nat → Nat} {a : Nat → Nat} {ac : Nat → ClassId} {n : Nat} {r : Int32 × (St)} (C : nd_C p l s m args c A (dC, dI) cX10_isBroken 2 RX10 ow_dm_X10_isBroken (dk_X10 ac)) (K : nd_Ki p l e (headSpec ow_dm_X10_isBroken ({ frames := 1, cells := 0, slots := 0, locals := 22 })).room s m args below meth c Q A (dC, dI) cX10_isBroken .boolean (St) (dw_X10 a ac) r) : dj_X10_isBroken_0 p l e s m args below meth c Q A dC dI a ac (df_X10_isBroken_0 n) r := by
  obtain ⟨hlt, hx, hb, hml, hown, hts, hN, hA, hK⟩ := id C
  intro v0 s0 H locs ls h hP hD hS hl
  unfold df_X10_isBroken_0 at h
  refine lv_aload_n hx hb dX10_isBroken_0 rfl (lv_at hl 0 rfl) ?_
  refine lv_iload_n hx hb dX10_isBroken_1 rfl (lv_at hl 1 rfl) ?_
  refine lv_iconst (v := 0) hx hb dX10_isBroken_2 (by decide) ?_
  obtain ⟨q1, s2, hq, h⟩ := nd_b2_e h
  have hPc := hP
  have hDc := hD
  have hKc := hK
  have hFc := nd_rs hD hS hA
  refine nd_cVi (As := [.int v0, .int 0]) (rest := []) (q := q1) (w' := dw_X10 a ac s2) ⟨hx, hb, hml, hown, hts⟩ (fun sz => dm_X10_of l hlt dC dI a ac n (v0) (0) s0 hq sz) (cwV 2 hts gi_dm_X10_isBroken_0 rfl rfl rfl (by decide +kernel) ⟨Nat.le_of_ble_eq_true rfl, Nat.le_of_ble_eq_true rfl⟩) hPc hDc hKc hS hA hN (va_recv hKc hPc (ci := 11) (q0 := 0) rfl rfl) rfl hl.1 rfl (Nat.le_of_ble_eq_true rfl) dX10_isBroken_3 (fun H locs hP1 hD1 hk1 hS => ?_)
  have hP := hP1
  have hD := hD1.weaken (fun k q _ h => hFc q.1 h)
  refine lv_iconst (v := 2) hx hb dX10_isBroken_6 (by decide) ?_
  refine lv_icmp_ne (tgt := 32) hx hb dX10_isBroken_7 (by decide) (fun c4 => ?_) (fun c4 => ?_)
  · have h := nd_neg h c4
    exact (db_X10_isBroken_32 C K)  s2 _ _ _ h hP hD hS (lv_sub hl [] rfl)
  · have h := nd_pos h c4
    refine lv_aload_n hx hb dX10_isBroken_10 rfl (lv_at hl 0 rfl) ?_
    refine va_get (D := (dC, dI)) (ci := 11) (v := .ref (a 3)) (C := RX10) (T := TX10) (N := 11) hx hb hts hi_dm_X10_isBroken_X10 hown hK hP 0 rfl rfl 2 (by decide) (hts (.fieldLink RX10 18 "TimeMachine$Things" "pipe" "[I") (List.mem_of_getElem? (i := 5) rfl)) (fun _ h9 => h9) rfl dX10_isBroken_11 ?_
    refine lv_aload_n hx hb dX10_isBroken_14 rfl (lv_at hl 0 rfl) ?_
    refine lv_iload_n hx hb dX10_isBroken_15 rfl (lv_at hl 1 rfl) ?_
    refine lv_iconst (v := 2) hx hb dX10_isBroken_16 (by decide) ?_
    obtain ⟨q6, s7, hq, h⟩ := nd_b2_e h
    have hPc := hP
    have hDc := hD
    have hKc := hK
    have hFc := nd_rs hD hS hA
    refine nd_cVi (As := [.int v0, .int 2]) (rest := [.ref (a 3)]) (q := q6) (w' := dw_X10 a ac s7) ⟨hx, hb, hml, hown, hts⟩ (fun sz => dm_X10_of l hlt dC dI a ac n (v0) (2) s2 hq sz) (cwV 2 hts gi_dm_X10_isBroken_0 rfl rfl rfl (by decide +kernel) ⟨Nat.le_of_ble_eq_true rfl, Nat.le_of_ble_eq_true rfl⟩) hPc hDc hKc hS hA hN (va_recv hKc hPc (ci := 11) (q0 := 0) rfl rfl) rfl hl.1 rfl (Nat.le_of_ble_eq_true rfl) dX10_isBroken_17 (fun H locs hP1 hD1 hk1 hS => ?_)
    have hP := hP1
    have hD := hD1.weaken (fun k q _ h => hFc q.1 h)
    refine lv_iconst (v := 4) hx hb dX10_isBroken_20 (by decide) ?_
    refine lv_imul hx hb dX10_isBroken_21 ?_
    refine lv_iconst (v := 1) hx hb dX10_isBroken_22 (by decide) ?_
    refine lv_iadd hx hb dX10_isBroken_23 ?_
    obtain ⟨i9, h⟩ := nd_ck_e h
    refine va_iald (i := ((q6 * 4) + 1)) hx hb hK hP 3 2 rfl rfl i9 dX10_isBroken_24 ?_
    refine lv_if_ne (tgt := 32) hx hb dX10_isBroken_25 (by decide) (fun c10 => ?_) (fun c10 => ?_)
    · have h := nd_neg h c10
      exact (db_X10_isBroken_32 C K)  s7 _ _ _ h hP hD hS (lv_sub hl [] rfl)
    · have h := nd_pos h c10
      refine lv_iconst (v := 1) hx hb dX10_isBroken_28 (by decide) ?_
      refine lv_goto (tgt := 33) hx hb dX10_isBroken_29 (by decide) ?_
      exact (db_X10_isBroken_33 C K) (1) s7 _ _ _ h hP hD hS (lv_sub hl [] rfl)
set_option maxHeartbeats 40000000 in
set_option maxRecDepth 100000 in
theorem dm_X10_isBroken (l : Launch) (hlt : l.stackTraces = false) (dC : Nat → ClassId) (dI : Nat → Nat → Nat) (a : Nat → Nat) (ac : Nat → ClassId) (n : Nat) (v0 : Int32) (s0 : St) {r : Int32 × (St)} (h : df_X10_isBroken n v0 s0 = some r) (sz : Nat) : Met l yX10_isBroken ow_dm_X10_isBroken ({ frames := 1, cells := 0, slots := 0, locals := 22 }) (va_Pc [.ref (a 0), .int v0] (fun U => U.heap.size = sz ∧ va_P (dC, dI) vwCl (dw_X10 a ac s0) U.heap ∧ va_K (dC, dI) vwCl (dk_X10 ac) U ∧ va_D (fun _ => True) (dw_X10 a ac s0) ∧ nv_E dI (va_A (dw_X10 a ac s0) sz) U)) (va_Qi (fun x _ => x = r.1) (fun (_ : Unit) t => va_P (dC, dI) vwCl (dw_X10 a ac r.2) t.heap ∧ va_K (dC, dI) vwCl (dk_X10 ac) t ∧ va_D (va_A (dw_X10 a ac s0) sz) (dw_X10 a ac r.2)) (va_A (dw_X10 a ac s0) sz)) 0 0 (va_A (dw_X10 a ac s0) sz) := by
  refine Met.ofW (cc := cX10_isBroken) (maxL := 2) (ret := (some .boolean)) (by decide) rfl ?_
  intro p e s m args below meth c s₁ B hml hv
  obtain ⟨rfl, hsz, hP, hK, hD0, hN⟩ := hv
  have hx := B.exec
  have hb := B.bytes
  have hr := B.returns
  have hts := atoms_spec (ws := ow_dm_X10_isBroken) B.pre
  have hown : s.vm.findClass RX10 = some m.cls := findClass_of_methodNamed B.named
  have hlocks := B.notSynchronized
  subst hsz
  have hD := hD0.self (sz := s.heap.size)
  generalize hAe : va_A (dw_X10 a ac s0) s.heap.size = A at hD hN ⊢
  have hA : ∀ q : Nat, s.heap.size ≤ q → A q := fun q h => by rw [← hAe]; exact Or.inr h
  have hl := lv_entry ([.ref (a 0), .int v0]) (n := 2) (Nat.le_of_ble_eq_true rfl)
  rw [lg_entry_eq]
  generalize (lg_sl ([.ref (a 0), .int v0]) ++ List.replicate (2 - (lg_sl ([.ref (a 0), .int v0])).length) Slot.unset).toArray = ls at hl ⊢
  have hl : lv_has ls 2 [(0, .ref (a 0)), (1, .int v0)] := hl
  exact db_X10_isBroken_0 (dC := dC) (dI := dI) (a := a) (ac := ac) (n := n) (r := r) ⟨hlt, hx, hb, hml, hown, hts, hN, hA, hK⟩ (fun pc v τ H locs ls d z er hP hD hS => by subst er; exact W.zret (v := v) hx hb hr z (fun t ht hW => ⟨⟨v, (), rfl, rfl, by rw [ht]; exact hP, va_K.moved hW.alike hK, hD⟩, hS.F ht⟩) hS.2.2 d) v0 s0 _ _ _ h hP hD va_S.rf (lv_sub hl [0, 1] rfl)
def ow_dm_X10_fileNamed : List Cond := Cond.code yX10_fileNamed cX10_fileNamed 5 (some .int) :: ([Cond.fieldLink RX10 25 "TimeMachine$Things" "file" "[I", Cond.fieldLink RX10 31 "TimeMachine$Things" "names" "[B"] ++ (u_ws RX10 TX10 11 ++ []))
theorem gd_dm_X10_fileNamed : ∀ w ∈ ow_dm_X10_fileNamed, (w.onTables && w.keeps) = true ∨ ∃ ty, w = Cond.arrayClass ty := List.forall_mem_cons.mpr ⟨good_of_word rfl, List.forall_mem_append.mpr ⟨fun w h => good_of_word (List.all_eq_true.mp (by decide +kernel) w h), List.forall_mem_append.mpr ⟨gu_X10, fun _ h => nomatch h⟩⟩⟩
theorem hi_dm_X10_fileNamed_X10 : ∀ w ∈ u_ws RX10 TX10 11, w ∈ ow_dm_X10_fileNamed := fun w h => List.mem_cons_of_mem _ (List.mem_append_right _ (List.mem_append_left _ h))
def dj_X10_fileNamed_72 (p : Program) (l : Launch) (e : Env) (s : State) (m : MethodId) (args : Array Value) (below : List Frame) (meth : Method) (c : Code) (Q : State → Prop) (A : Nat → Prop) (dC : Nat → ClassId) (dI : Nat → Nat → Nat) (a : Nat → Nat) (ac : Nat → ClassId) (g : Int32 → Int32 → (St × (St)) → Option (Int32 × (St × (St)))) (r : Int32 × (St × (St))) : Prop := ∀ (x2 : Int32) (x3 : Int32) (s0 : St × (St)) (H : Heap) (locs : List Loc) (ls : Array Slot), g x2 x3 s0 = some r → va_P (dC, dI) vwCl (dw_X10n a ac s0) H → va_D A (dw_X10n a ac s0) → va_S A s.heap H locs → lv_has ls 5 [(0, .ref (a 1)), (1, .ref (a 0)), (2, .int x2), (3, .int x3)] → W p l e (headSpec ow_dm_X10_fileNamed ({ frames := 0, cells := 0, slots := 0, locals := 0 })).room s m args below meth c H locs 0 0 Q (F0 m 72 ls [])
def dj_X10_fileNamed_65 (p : Program) (l : Launch) (e : Env) (s : State) (m : MethodId) (args : Array Value) (below : List Frame) (meth : Method) (c : Code) (Q : State → Prop) (A : Nat → Prop) (dC : Nat → ClassId) (dI : Nat → Nat → Nat) (a : Nat → Nat) (ac : Nat → ClassId) (g : Int32 → Int32 → Int32 → (St × (St)) → Option (Int32 × (St × (St)))) (r : Int32 × (St × (St))) : Prop := ∀ (x2 : Int32) (x4 : Int32) (y0 : Int32) (s0 : St × (St)) (H : Heap) (locs : List Loc) (ls : Array Slot), g x2 x4 y0 s0 = some r → va_P (dC, dI) vwCl (dw_X10n a ac s0) H → va_D A (dw_X10n a ac s0) → va_S A s.heap H locs → lv_has ls 5 [(0, .ref (a 1)), (1, .ref (a 0)), (2, .int x2), (4, .int x4)] → W p l e (headSpec ow_dm_X10_fileNamed ({ frames := 0, cells := 0, slots := 0, locals := 0 })).room s m args below meth c H locs 0 0 Q (F0 m 65 ls [.int y0])
def dj_X10_fileNamed_30 (p : Program) (l : Launch) (e : Env) (s : State) (m : MethodId) (args : Array Value) (below : List Frame) (meth : Method) (c : Code) (Q : State → Prop) (A : Nat → Prop) (dC : Nat → ClassId) (dI : Nat → Nat → Nat) (a : Nat → Nat) (ac : Nat → ClassId) (g : Int32 → Int32 → Int32 → (St × (St)) → Option (Int32 × (St × (St)))) (r : Int32 × (St × (St))) : Prop := ∀ (x2 : Int32) (x3 : Int32) (x4 : Int32) (s0 : St × (St)) (H : Heap) (locs : List Loc) (ls : Array Slot), g x2 x3 x4 s0 = some r → va_P (dC, dI) vwCl (dw_X10n a ac s0) H → va_D A (dw_X10n a ac s0) → va_S A s.heap H locs → lv_has ls 5 [(0, .ref (a 1)), (1, .ref (a 0)), (2, .int x2), (3, .int x3), (4, .int x4)] → W p l e (headSpec ow_dm_X10_fileNamed ({ frames := 0, cells := 0, slots := 0, locals := 0 })).room s m args below meth c H locs 0 0 Q (F0 m 30 ls [])
def dj_X10_fileNamed_26 (p : Program) (l : Launch) (e : Env) (s : State) (m : MethodId) (args : Array Value) (below : List Frame) (meth : Method) (c : Code) (Q : State → Prop) (A : Nat → Prop) (dC : Nat → ClassId) (dI : Nat → Nat → Nat) (a : Nat → Nat) (ac : Nat → ClassId) (g : Int32 → Int32 → (St × (St)) → Option (Int32 × (St × (St)))) (r : Int32 × (St × (St))) : Prop := ∀ (x2 : Int32) (y0 : Int32) (s0 : St × (St)) (H : Heap) (locs : List Loc) (ls : Array Slot), g x2 y0 s0 = some r → va_P (dC, dI) vwCl (dw_X10n a ac s0) H → va_D A (dw_X10n a ac s0) → va_S A s.heap H locs → lv_has ls 5 [(0, .ref (a 1)), (1, .ref (a 0)), (2, .int x2)] → W p l e (headSpec ow_dm_X10_fileNamed ({ frames := 0, cells := 0, slots := 0, locals := 0 })).room s m args below meth c H locs 0 0 Q (F0 m 26 ls [.int y0])
def dj_X10_fileNamed_2 (p : Program) (l : Launch) (e : Env) (s : State) (m : MethodId) (args : Array Value) (below : List Frame) (meth : Method) (c : Code) (Q : State → Prop) (A : Nat → Prop) (dC : Nat → ClassId) (dI : Nat → Nat → Nat) (a : Nat → Nat) (ac : Nat → ClassId) (g : Int32 → (St × (St)) → Option (Int32 × (St × (St)))) (r : Int32 × (St × (St))) : Prop := ∀ (x2 : Int32) (s0 : St × (St)) (H : Heap) (locs : List Loc) (ls : Array Slot), g x2 s0 = some r → va_P (dC, dI) vwCl (dw_X10n a ac s0) H → va_D A (dw_X10n a ac s0) → va_S A s.heap H locs → lv_has ls 5 [(0, .ref (a 1)), (1, .ref (a 0)), (2, .int x2)] → W p l e (headSpec ow_dm_X10_fileNamed ({ frames := 0, cells := 0, slots := 0, locals := 0 })).room s m args below meth c H locs 0 0 Q (F0 m 2 ls [])
def dj_X10_fileNamed_0 (p : Program) (l : Launch) (e : Env) (s : State) (m : MethodId) (args : Array Value) (below : List Frame) (meth : Method) (c : Code) (Q : State → Prop) (A : Nat → Prop) (dC : Nat → ClassId) (dI : Nat → Nat → Nat) (a : Nat → Nat) (ac : Nat → ClassId) (g : (St × (St)) → Option (Int32 × (St × (St)))) (r : Int32 × (St × (St))) : Prop := ∀ (s0 : St × (St)) (H : Heap) (locs : List Loc) (ls : Array Slot), g s0 = some r → va_P (dC, dI) vwCl (dw_X10n a ac s0) H → va_D A (dw_X10n a ac s0) → va_S A s.heap H locs → lv_has ls 5 [(0, .ref (a 1)), (1, .ref (a 0))] → W p l e (headSpec ow_dm_X10_fileNamed ({ frames := 0, cells := 0, slots := 0, locals := 0 })).room s m args below meth c H locs 0 0 Q (F0 m 0 ls [])
set_option maxHeartbeats 40000000 in
set_option maxRecDepth 100000 in
theorem db_X10_fileNamed_72 {p : Program} {l : Launch} {e : Env} {s : State} {m : MethodId} {args : Array Value} {below : List Frame} {meth : Method} {c : Code} {Q : State → Prop} {A : Nat → Prop} {dC : Nat → ClassId} {dI : Nat → Nat → Nat} {a : Nat → Nat} {ac : Nat → ClassId} {n : Nat} {r : Int32 × (St × (St))} (C : nd_C p l s m args c A (dC, dI) cX10_fileNamed 5 RX10 ow_dm_X10_fileNamed (dk_X10n ac)) (K : nd_Ki p l e (headSpec ow_dm_X10_fileNamed ({ frames := 0, cells := 0, slots := 0, locals := 0 })).room s m args below meth c Q A (dC, dI) cX10_fileNamed .int (St × (St)) (dw_X10n a ac) r) {g2 : Int32 → (St × (St)) → Option (Int32 × (St × (St)))} (J2 : dj_X10_fileNamed_2 p l e s m args below meth c Q A dC dI a ac g2 r) : dj_X10_fileNamed_72 p l e s m args below meth c Q A dC dI a ac (df_X10_fileNamed_72 n g2) r := by
  obtain ⟨hlt, hx, hb, hml, hown, hts, hN, hA, hK⟩ := id C
  intro x2 x3 s0 H locs ls h hP hD hS hl
  unfold df_X10_fileNamed_72 at h
  refine lv_iload_n hx hb dX10_fileNamed_72 rfl (lv_at hl 3 rfl) ?_
  refine lv_if_eq (tgt := 78) hx hb dX10_fileNamed_73 (by decide) (fun c5 => ?_) (fun c5 => ?_)
  · have h := nd_pos h c5
    obtain ⟨z6, ez6, h⟩ := nd_let_e h
    refine lv_iinc (v := z6) (lv' := [(2, .int z6), (0, .ref (a 1)), (1, .ref (a 0)), (3, .int x3)]) hx hb dX10_fileNamed_78 hl (k := 2) rfl (by rw [ez6]) (by decide) rfl (fun ls hl => ?_)
    refine lv_goto (tgt := 2) hx hb dX10_fileNamed_81 (by decide) ?_
    exact (J2) (z6) s0 _ _ _ h hP hD hS (lv_sub hl [1, 2, 0] rfl)
  · have h := nd_neg h c5
    refine lv_iload_n hx hb dX10_fileNamed_76 rfl (lv_at hl 2 rfl) ?_
    exact K _ _ _ _ _ _ dX10_fileNamed_77 rfl (Option.some.inj h).symm hP hD hS
set_option maxHeartbeats 40000000 in
set_option maxRecDepth 100000 in
theorem db_X10_fileNamed_65 {p : Program} {l : Launch} {e : Env} {s : State} {m : MethodId} {args : Array Value} {below : List Frame} {meth : Method} {c : Code} {Q : State → Prop} {A : Nat → Prop} {dC : Nat → ClassId} {dI : Nat → Nat → Nat} {a : Nat → Nat} {ac : Nat → ClassId} {n : Nat} {r : Int32 × (St × (St))} (C : nd_C p l s m args c A (dC, dI) cX10_fileNamed 5 RX10 ow_dm_X10_fileNamed (dk_X10n ac)) (K : nd_Ki p l e (headSpec ow_dm_X10_fileNamed ({ frames := 0, cells := 0, slots := 0, locals := 0 })).room s m args below meth c Q A (dC, dI) cX10_fileNamed .int (St × (St)) (dw_X10n a ac) r) {g2 : Int32 → (St × (St)) → Option (Int32 × (St × (St)))} {g30 : Int32 → Int32 → Int32 → (St × (St)) → Option (Int32 × (St × (St)))} (J2 : dj_X10_fileNamed_2 p l e s m args below meth c Q A dC dI a ac g2 r) (J30 : dj_X10_fileNamed_30 p l e s m args below meth c Q A dC dI a ac g30 r) : dj_X10_fileNamed_65 p l e s m args below meth c Q A dC dI a ac (df_X10_fileNamed_65 n g2 g30) r := by
  obtain ⟨hlt, hx, hb, hml, hown, hts, hN, hA, hK⟩ := id C
  intro x2 x4 y0 s0 H locs ls h hP hD hS hl
  unfold df_X10_fileNamed_65 at h
  refine lv_istore_n (lv' := [(3, .int y0), (0, .ref (a 1)), (1, .ref (a 0)), (2, .int x2), (4, .int x4)]) hx hb dX10_fileNamed_65 rfl hl (by decide) rfl (fun ls hl => ?_)
  obtain ⟨z11, ez11, h⟩ := nd_let_e h
  refine lv_iinc (v := z11) (lv' := [(4, .int z11), (3, .int y0), (0, .ref (a 1)), (1, .ref (a 0)), (2, .int x2)]) hx hb dX10_fileNamed_66 hl (k := 4) rfl (by rw [ez11]) (by decide) rfl (fun ls hl => ?_)
  refine lv_goto (tgt := 30) hx hb dX10_fileNamed_69 (by decide) ?_
  exact (J30) (x2) (y0) (z11) s0 _ _ _ h hP hD hS (lv_sub hl [2, 3, 4, 1, 0] rfl)
set_option maxHeartbeats 40000000 in
set_option maxRecDepth 100000 in
theorem dB_X10_fileNamed_30 {p : Program} {l : Launch} {e : Env} {s : State} {m : MethodId} {args : Array Value} {below : List Frame} {meth : Method} {c : Code} {Q : State → Prop} {A : Nat → Prop} {dC : Nat → ClassId} {dI : Nat → Nat → Nat} {a : Nat → Nat} {ac : Nat → ClassId} {n : Nat} {r : Int32 × (St × (St))} (C : nd_C p l s m args c A (dC, dI) cX10_fileNamed 5 RX10 ow_dm_X10_fileNamed (dk_X10n ac)) (K : nd_Ki p l e (headSpec ow_dm_X10_fileNamed ({ frames := 0, cells := 0, slots := 0, locals := 0 })).room s m args below meth c Q A (dC, dI) cX10_fileNamed .int (St × (St)) (dw_X10n a ac) r) {g2 : Int32 → (St × (St)) → Option (Int32 × (St × (St)))} (J2 : dj_X10_fileNamed_2 p l e s m args below meth c Q A dC dI a ac g2 r) {g30 : Int32 → Int32 → Int32 → (St × (St)) → Option (Int32 × (St × (St)))} (J30 : dj_X10_fileNamed_30 p l e s m args below meth c Q A dC dI a ac g30 r) : dj_X10_fileNamed_30 p l e s m args below meth c Q A dC dI a ac (dF_X10_fileNamed_30 n g2 g30) r := by
  obtain ⟨hlt, hx, hb, hml, hown, hts, hN, hA, hK⟩ := id C
  intro x2 x3 x4 s0 H locs ls h hP hD hS hl
  unfold dF_X10_fileNamed_30 at h
  refine lv_iload_n hx hb dX10_fileNamed_30 rfl (lv_at hl 3 rfl) ?_
  refine lv_if_eq (tgt := 72) hx hb dX10_fileNamed_31 (by decide) (fun c4 => ?_) (fun c4 => ?_)
  · have h := nd_pos h c4
    exact (db_X10_fileNamed_72 C K J2) (x2) (x3) s0 _ _ _ h hP hD hS (lv_sub hl [0, 1, 2, 3] rfl)
  · have h := nd_neg h c4
    refine lv_iload hx hb dX10_fileNamed_34 (lv_at hl 4 rfl) ?_
    refine lv_bipush (v := 16) hx hb dX10_fileNamed_36 (by decide) ?_
    refine lv_icmp_ge (tgt := 72) hx hb dX10_fileNamed_38 (by decide) (fun c7 => ?_) (fun c7 => ?_)
    · have h := nd_pos h c7
      exact (db_X10_fileNamed_72 C K J2) (x2) (x3) s0 _ _ _ h hP hD hS (lv_sub hl [0, 1, 2, 3] rfl)
    · have h := nd_neg h c7
      refine lv_aload_n hx hb dX10_fileNamed_41 rfl (lv_at hl 0 rfl) ?_
      refine va_get (D := (dC, dI)) (ci := 11) (v := .ref (a 8)) (C := RX10) (T := TX10) (N := 11) hx hb hts hi_dm_X10_fileNamed_X10 hown hK hP 1 rfl rfl 6 (by decide) (hts (.fieldLink RX10 31 "TimeMachine$Things" "names" "[B") (List.mem_of_getElem? (i := 2) rfl)) (fun _ h9 => h9) rfl dX10_fileNamed_42 ?_
      refine lv_iload_n hx hb dX10_fileNamed_45 rfl (lv_at hl 2 rfl) ?_
      refine lv_bipush (v := 16) hx hb dX10_fileNamed_46 (by decide) ?_
      refine lv_imul hx hb dX10_fileNamed_48 ?_
      refine lv_iload hx hb dX10_fileNamed_49 (lv_at hl 4 rfl) ?_
      refine lv_iadd hx hb dX10_fileNamed_51 ?_
      obtain ⟨i8, h⟩ := nd_ck_e h
      refine va_bald (i := ((x2 * 16) + x4)) hx hb hK hP 8 7 rfl rfl i8 dX10_fileNamed_52 ?_
      refine lv_aload_n hx hb dX10_fileNamed_53 rfl (lv_at hl 1 rfl) ?_
      refine lv_iload hx hb dX10_fileNamed_54 (lv_at hl 4 rfl) ?_
      obtain ⟨i9, h⟩ := nd_ck_e h
      refine va_bald (i := x4) hx hb hK hP 0 0 rfl rfl i9 dX10_fileNamed_56 ?_
      refine lv_icmp_ne (tgt := 64) hx hb dX10_fileNamed_57 (by decide) (fun c10 => ?_) (fun c10 => ?_)
      · have h := nd_neg h c10
        refine lv_iconst (v := 0) hx hb dX10_fileNamed_64 (by decide) ?_
        exact (db_X10_fileNamed_65 C K J2 J30) (x2) (x4) (0) s0 _ _ _ h hP hD hS (lv_sub hl [0, 1, 2, 4] rfl)
      · have h := nd_pos h c10
        refine lv_iconst (v := 1) hx hb dX10_fileNamed_60 (by decide) ?_
        refine lv_goto (tgt := 65) hx hb dX10_fileNamed_61 (by decide) ?_
        exact (db_X10_fileNamed_65 C K J2 J30) (x2) (x4) (1) s0 _ _ _ h hP hD hS (lv_sub hl [0, 1, 2, 4] rfl)
set_option maxHeartbeats 40000000 in
set_option maxRecDepth 100000 in
theorem db_X10_fileNamed_30 {p : Program} {l : Launch} {e : Env} {s : State} {m : MethodId} {args : Array Value} {below : List Frame} {meth : Method} {c : Code} {Q : State → Prop} {A : Nat → Prop} {dC : Nat → ClassId} {dI : Nat → Nat → Nat} {a : Nat → Nat} {ac : Nat → ClassId} {n : Nat} {r : Int32 × (St × (St))} (C : nd_C p l s m args c A (dC, dI) cX10_fileNamed 5 RX10 ow_dm_X10_fileNamed (dk_X10n ac)) (K : nd_Ki p l e (headSpec ow_dm_X10_fileNamed ({ frames := 0, cells := 0, slots := 0, locals := 0 })).room s m args below meth c Q A (dC, dI) cX10_fileNamed .int (St × (St)) (dw_X10n a ac) r) {g2 : Int32 → (St × (St)) → Option (Int32 × (St × (St)))} (J2 : dj_X10_fileNamed_2 p l e s m args below meth c Q A dC dI a ac g2 r) (k : Nat) : dj_X10_fileNamed_30 p l e s m args below meth c Q A dC dI a ac (df_X10_fileNamed_30 n g2 k) r := by
  induction k with
  | zero => intro x2 x3 x4 s0 H locs ls h; exact nomatch (show (none : Option (Int32 × (St × (St)))) = some r from h)
  | succ k ih => exact dB_X10_fileNamed_30 C K J2 ih
set_option maxHeartbeats 40000000 in
set_option maxRecDepth 100000 in
theorem db_X10_fileNamed_26 {p : Program} {l : Launch} {e : Env} {s : State} {m : MethodId} {args : Array Value} {below : List Frame} {meth : Method} {c : Code} {Q : State → Prop} {A : Nat → Prop} {dC : Nat → ClassId} {dI : Nat → Nat → Nat} {a : Nat → Nat} {ac : Nat → ClassId} {n : Nat} {r : Int32 × (St × (St))} (C : nd_C p l s m args c A (dC, dI) cX10_fileNamed 5 RX10 ow_dm_X10_fileNamed (dk_X10n ac)) (K : nd_Ki p l e (headSpec ow_dm_X10_fileNamed ({ frames := 0, cells := 0, slots := 0, locals := 0 })).room s m args below meth c Q A (dC, dI) cX10_fileNamed .int (St × (St)) (dw_X10n a ac) r) {g2 : Int32 → (St × (St)) → Option (Int32 × (St × (St)))} (J2 : dj_X10_fileNamed_2 p l e s m args below meth c Q A dC dI a ac g2 r) : dj_X10_fileNamed_26 p l e s m args below meth c Q A dC dI a ac (df_X10_fileNamed_26 n g2) r := by
  obtain ⟨hlt, hx, hb, hml, hown, hts, hN, hA, hK⟩ := id C
  intro x2 y0 s0 H locs ls h hP hD hS hl
  unfold df_X10_fileNamed_26 at h
  refine lv_istore_n (lv' := [(3, .int y0), (0, .ref (a 1)), (1, .ref (a 0)), (2, .int x2)]) hx hb dX10_fileNamed_26 rfl hl (by decide) rfl (fun ls hl => ?_)
  refine lv_iconst (v := 0) hx hb dX10_fileNamed_27 (by decide) ?_
  refine lv_istore (lv' := [(4, .int 0), (3, .int y0), (0, .ref (a 1)), (1, .ref (a 0)), (2, .int x2)]) hx hb dX10_fileNamed_28 hl (by decide) rfl (fun ls hl => ?_)
  exact (db_X10_fileNamed_30 C K J2 n) (x2) (y0) (0) s0 _ _ _ h hP hD hS (lv_sub hl [2, 3, 4, 1, 0] rfl)
set_option maxHeartbeats 40000000 in
set_option maxRecDepth 100000 in
theorem dB_X10_fileNamed_2 {p : Program} {l : Launch} {e : Env} {s : State} {m : MethodId} {args : Array Value} {below : List Frame} {meth : Method} {c : Code} {Q : State → Prop} {A : Nat → Prop} {dC : Nat → ClassId} {dI : Nat → Nat → Nat} {a : Nat → Nat} {ac : Nat → ClassId} {n : Nat} {r : Int32 × (St × (St))} (C : nd_C p l s m args c A (dC, dI) cX10_fileNamed 5 RX10 ow_dm_X10_fileNamed (dk_X10n ac)) (K : nd_Ki p l e (headSpec ow_dm_X10_fileNamed ({ frames := 0, cells := 0, slots := 0, locals := 0 })).room s m args below meth c Q A (dC, dI) cX10_fileNamed .int (St × (St)) (dw_X10n a ac) r) {g2 : Int32 → (St × (St)) → Option (Int32 × (St × (St)))} (J2 : dj_X10_fileNamed_2 p l e s m args below meth c Q A dC dI a ac g2 r) : dj_X10_fileNamed_2 p l e s m args below meth c Q A dC dI a ac (dF_X10_fileNamed_2 n g2) r := by
  obtain ⟨hlt, hx, hb, hml, hown, hts, hN, hA, hK⟩ := id C
  intro x2 s0 H locs ls h hP hD hS hl
  unfold dF_X10_fileNamed_2 at h
  refine lv_iload_n hx hb dX10_fileNamed_2 rfl (lv_at hl 2 rfl) ?_
  refine lv_bipush (v := 16) hx hb dX10_fileNamed_3 (by decide) ?_
  refine lv_icmp_ge (tgt := 84) hx hb dX10_fileNamed_5 (by decide) (fun c1 => ?_) (fun c1 => ?_)
  · have h := nd_pos h c1
    refine lv_iconst (v := (-1)) hx hb dX10_fileNamed_84 (by decide) ?_
    exact K _ _ _ _ _ _ dX10_fileNamed_85 rfl (Option.some.inj h).symm hP hD hS
  · have h := nd_neg h c1
    refine lv_aload_n hx hb dX10_fileNamed_8 rfl (lv_at hl 0 rfl) ?_
    refine va_get (D := (dC, dI)) (ci := 11) (v := .ref (a 6)) (C := RX10) (T := TX10) (N := 11) hx hb hts hi_dm_X10_fileNamed_X10 hown hK hP 1 rfl rfl 4 (by decide) (hts (.fieldLink RX10 25 "TimeMachine$Things" "file" "[I") (List.mem_of_getElem? (i := 1) rfl)) (fun _ h9 => h9) rfl dX10_fileNamed_9 ?_
    refine lv_iload_n hx hb dX10_fileNamed_12 rfl (lv_at hl 2 rfl) ?_
    refine lv_iconst (v := 3) hx hb dX10_fileNamed_13 (by decide) ?_
    refine lv_imul hx hb dX10_fileNamed_14 ?_
    refine lv_iconst (v := 2) hx hb dX10_fileNamed_15 (by decide) ?_
    refine lv_iadd hx hb dX10_fileNamed_16 ?_
    obtain ⟨i2, h⟩ := nd_ck_e h
    refine va_iald (i := ((x2 * 3) + 2)) hx hb hK hP 6 5 rfl rfl i2 dX10_fileNamed_17 ?_
    refine lv_if_eq (tgt := 25) hx hb dX10_fileNamed_18 (by decide) (fun c3 => ?_) (fun c3 => ?_)
    · have h := nd_pos h c3
      refine lv_iconst (v := 0) hx hb dX10_fileNamed_25 (by decide) ?_
      exact (db_X10_fileNamed_26 C K J2) (x2) (0) s0 _ _ _ h hP hD hS (lv_sub hl [0, 1, 2] rfl)
    · have h := nd_neg h c3
      refine lv_iconst (v := 1) hx hb dX10_fileNamed_21 (by decide) ?_
      refine lv_goto (tgt := 26) hx hb dX10_fileNamed_22 (by decide) ?_
      exact (db_X10_fileNamed_26 C K J2) (x2) (1) s0 _ _ _ h hP hD hS (lv_sub hl [0, 1, 2] rfl)
set_option maxHeartbeats 40000000 in
set_option maxRecDepth 100000 in
theorem db_X10_fileNamed_2 {p : Program} {l : Launch} {e : Env} {s : State} {m : MethodId} {args : Array Value} {below : List Frame} {meth : Method} {c : Code} {Q : State → Prop} {A : Nat → Prop} {dC : Nat → ClassId} {dI : Nat → Nat → Nat} {a : Nat → Nat} {ac : Nat → ClassId} {n : Nat} {r : Int32 × (St × (St))} (C : nd_C p l s m args c A (dC, dI) cX10_fileNamed 5 RX10 ow_dm_X10_fileNamed (dk_X10n ac)) (K : nd_Ki p l e (headSpec ow_dm_X10_fileNamed ({ frames := 0, cells := 0, slots := 0, locals := 0 })).room s m args below meth c Q A (dC, dI) cX10_fileNamed .int (St × (St)) (dw_X10n a ac) r) (k : Nat) : dj_X10_fileNamed_2 p l e s m args below meth c Q A dC dI a ac (df_X10_fileNamed_2 n k) r := by
  induction k with
  | zero => intro x2 s0 H locs ls h; exact nomatch (show (none : Option (Int32 × (St × (St)))) = some r from h)
  | succ k ih => exact dB_X10_fileNamed_2 C K ih
set_option maxHeartbeats 40000000 in
set_option maxRecDepth 100000 in
theorem db_X10_fileNamed_0 {p : Program} {l : Launch} {e : Env} {s : State} {m : MethodId} {args : Array Value} {below : List Frame} {meth : Method} {c : Code} {Q : State → Prop} {A : Nat → Prop} {dC : Nat → ClassId} {dI : Nat → Nat → Nat} {a : Nat → Nat} {ac : Nat → ClassId} {n : Nat} {r : Int32 × (St × (St))} (C : nd_C p l s m args c A (dC, dI) cX10_fileNamed 5 RX10 ow_dm_X10_fileNamed (dk_X10n ac)) (K : nd_Ki p l e (headSpec ow_dm_X10_fileNamed ({ frames := 0, cells := 0, slots := 0, locals := 0 })).room s m args below meth c Q A (dC, dI) cX10_fileNamed .int (St × (St)) (dw_X10n a ac) r) : dj_X10_fileNamed_0 p l e s m args below meth c Q A dC dI a ac (df_X10_fileNamed_0 n) r := by
  obtain ⟨hlt, hx, hb, hml, hown, hts, hN, hA, hK⟩ := id C
  intro s0 H locs ls h hP hD hS hl
  unfold df_X10_fileNamed_0 at h
  refine lv_iconst (v := 0) hx hb dX10_fileNamed_0 (by decide) ?_
  refine lv_istore_n (lv' := [(2, .int 0), (0, .ref (a 1)), (1, .ref (a 0))]) hx hb dX10_fileNamed_1 rfl hl (by decide) rfl (fun ls hl => ?_)
  exact (db_X10_fileNamed_2 C K n) (0) s0 _ _ _ h hP hD hS (lv_sub hl [1, 2, 0] rfl)
set_option maxHeartbeats 40000000 in
set_option maxRecDepth 100000 in
theorem dm_X10_fileNamed (l : Launch) (hlt : l.stackTraces = false) (dC : Nat → ClassId) (dI : Nat → Nat → Nat) (a : Nat → Nat) (ac : Nat → ClassId) (n : Nat) (s0 : St × (St)) {r : Int32 × (St × (St))} (h : df_X10_fileNamed n s0 = some r) (sz : Nat) : Met l yX10_fileNamed ow_dm_X10_fileNamed ({ frames := 0, cells := 0, slots := 0, locals := 0 }) (va_Pc [.ref (a 1), .ref (a 0)] (fun U => U.heap.size = sz ∧ va_P (dC, dI) vwCl (dw_X10n a ac s0) U.heap ∧ va_K (dC, dI) vwCl (dk_X10n ac) U ∧ va_D (fun _ => True) (dw_X10n a ac s0) ∧ nv_E dI (va_A (dw_X10n a ac s0) sz) U)) (va_Qi (fun x _ => x = r.1) (fun (_ : Unit) t => va_P (dC, dI) vwCl (dw_X10n a ac r.2) t.heap ∧ va_K (dC, dI) vwCl (dk_X10n ac) t ∧ va_D (va_A (dw_X10n a ac s0) sz) (dw_X10n a ac r.2)) (va_A (dw_X10n a ac s0) sz)) 0 0 (va_A (dw_X10n a ac s0) sz) := by
  refine Met.ofW (cc := cX10_fileNamed) (maxL := 5) (ret := (some .int)) (by decide) rfl ?_
  intro p e s m args below meth c s₁ B hml hv
  obtain ⟨rfl, hsz, hP, hK, hD0, hN⟩ := hv
  have hx := B.exec
  have hb := B.bytes
  have hr := B.returns
  have hts := atoms_spec (ws := ow_dm_X10_fileNamed) B.pre
  have hown : s.vm.findClass RX10 = some m.cls := findClass_of_methodNamed B.named
  have hlocks := B.notSynchronized
  subst hsz
  have hD := hD0.self (sz := s.heap.size)
  generalize hAe : va_A (dw_X10n a ac s0) s.heap.size = A at hD hN ⊢
  have hA : ∀ q : Nat, s.heap.size ≤ q → A q := fun q h => by rw [← hAe]; exact Or.inr h
  have hl := lv_entry ([.ref (a 1), .ref (a 0)]) (n := 5) (Nat.le_of_ble_eq_true rfl)
  rw [lg_entry_eq]
  generalize (lg_sl ([.ref (a 1), .ref (a 0)]) ++ List.replicate (5 - (lg_sl ([.ref (a 1), .ref (a 0)])).length) Slot.unset).toArray = ls at hl ⊢
  have hl : lv_has ls 5 [(0, .ref (a 1)), (1, .ref (a 0))] := hl
  exact db_X10_fileNamed_0 (dC := dC) (dI := dI) (a := a) (ac := ac) (n := n) (r := r) ⟨hlt, hx, hb, hml, hown, hts, hN, hA, hK⟩ (fun pc v τ H locs ls d z er hP hD hS => by subst er; exact W.zret (v := v) hx hb hr z (fun t ht hW => ⟨⟨v, (), rfl, rfl, by rw [ht]; exact hP, va_K.moved hW.alike hK, hD⟩, hS.F ht⟩) hS.2.2 d) s0 _ _ _ h hP hD va_S.rf (lv_sub hl [0, 1] rfl)
def ow_dm_X10_freeFile : List Cond := Cond.code yX10_freeFile cX10_freeFile 2 (some .int) :: ([Cond.fieldLink RX10 25 "TimeMachine$Things" "file" "[I"] ++ (u_ws RX10 TX10 11 ++ []))
theorem gd_dm_X10_freeFile : ∀ w ∈ ow_dm_X10_freeFile, (w.onTables && w.keeps) = true ∨ ∃ ty, w = Cond.arrayClass ty := List.forall_mem_cons.mpr ⟨good_of_word rfl, List.forall_mem_append.mpr ⟨fun w h => good_of_word (List.all_eq_true.mp (by decide +kernel) w h), List.forall_mem_append.mpr ⟨gu_X10, fun _ h => nomatch h⟩⟩⟩
theorem hi_dm_X10_freeFile_X10 : ∀ w ∈ u_ws RX10 TX10 11, w ∈ ow_dm_X10_freeFile := fun w h => List.mem_cons_of_mem _ (List.mem_append_right _ (List.mem_append_left _ h))
def dj_X10_freeFile_36 (p : Program) (l : Launch) (e : Env) (s : State) (m : MethodId) (args : Array Value) (below : List Frame) (meth : Method) (c : Code) (Q : State → Prop) (A : Nat → Prop) (dC : Nat → ClassId) (dI : Nat → Nat → Nat) (a : Nat → Nat) (ac : Nat → ClassId) (g : Int32 → (St) → Option (Int32 × (St))) (r : Int32 × (St)) : Prop := ∀ (x1 : Int32) (s0 : St) (H : Heap) (locs : List Loc) (ls : Array Slot), g x1 s0 = some r → va_P (dC, dI) vwCl (dw_X10 a ac s0) H → va_D A (dw_X10 a ac s0) → va_S A s.heap H locs → lv_has ls 2 [(0, .ref (a 0)), (1, .int x1)] → W p l e (headSpec ow_dm_X10_freeFile ({ frames := 0, cells := 0, slots := 0, locals := 0 })).room s m args below meth c H locs 0 0 Q (F0 m 36 ls [])
def dj_X10_freeFile_2 (p : Program) (l : Launch) (e : Env) (s : State) (m : MethodId) (args : Array Value) (below : List Frame) (meth : Method) (c : Code) (Q : State → Prop) (A : Nat → Prop) (dC : Nat → ClassId) (dI : Nat → Nat → Nat) (a : Nat → Nat) (ac : Nat → ClassId) (g : Int32 → (St) → Option (Int32 × (St))) (r : Int32 × (St)) : Prop := ∀ (x1 : Int32) (s0 : St) (H : Heap) (locs : List Loc) (ls : Array Slot), g x1 s0 = some r → va_P (dC, dI) vwCl (dw_X10 a ac s0) H → va_D A (dw_X10 a ac s0) → va_S A s.heap H locs → lv_has ls 2 [(0, .ref (a 0)), (1, .int x1)] → W p l e (headSpec ow_dm_X10_freeFile ({ frames := 0, cells := 0, slots := 0, locals := 0 })).room s m args below meth c H locs 0 0 Q (F0 m 2 ls [])
def dj_X10_freeFile_0 (p : Program) (l : Launch) (e : Env) (s : State) (m : MethodId) (args : Array Value) (below : List Frame) (meth : Method) (c : Code) (Q : State → Prop) (A : Nat → Prop) (dC : Nat → ClassId) (dI : Nat → Nat → Nat) (a : Nat → Nat) (ac : Nat → ClassId) (g : (St) → Option (Int32 × (St))) (r : Int32 × (St)) : Prop := ∀ (s0 : St) (H : Heap) (locs : List Loc) (ls : Array Slot), g s0 = some r → va_P (dC, dI) vwCl (dw_X10 a ac s0) H → va_D A (dw_X10 a ac s0) → va_S A s.heap H locs → lv_has ls 2 [(0, .ref (a 0))] → W p l e (headSpec ow_dm_X10_freeFile ({ frames := 0, cells := 0, slots := 0, locals := 0 })).room s m args below meth c H locs 0 0 Q (F0 m 0 ls [])
set_option maxHeartbeats 40000000 in
set_option maxRecDepth 100000 in
theorem db_X10_freeFile_36 {p : Program} {l : Launch} {e : Env} {s : State} {m : MethodId} {args : Array Value} {below : List Frame} {meth : Method} {c : Code} {Q : State → Prop} {A : Nat → Prop} {dC : Nat → ClassId} {dI : Nat → Nat → Nat} {a : Nat → Nat} {ac : Nat → ClassId} {n : Nat} {r : Int32 × (St)} (C : nd_C p l s m args c A (dC, dI) cX10_freeFile 2 RX10 ow_dm_X10_freeFile (dk_X10 ac)) (K : nd_Ki p l e (headSpec ow_dm_X10_freeFile ({ frames := 0, cells := 0, slots := 0, locals := 0 })).room s m args below meth c Q A (dC, dI) cX10_freeFile .int (St) (dw_X10 a ac) r) {g2 : Int32 → (St) → Option (Int32 × (St))} (J2 : dj_X10_freeFile_2 p l e s m args below meth c Q A dC dI a ac g2 r) : dj_X10_freeFile_36 p l e s m args below meth c Q A dC dI a ac (df_X10_freeFile_36 n g2) r := by
  obtain ⟨hlt, hx, hb, hml, hown, hts, hN, hA, hK⟩ := id C
  intro x1 s0 H locs ls h hP hD hS hl
  unfold df_X10_freeFile_36 at h
  obtain ⟨z4, ez4, h⟩ := nd_let_e h
  refine lv_iinc (v := z4) (lv' := [(1, .int z4), (0, .ref (a 0))]) hx hb dX10_freeFile_36 hl (k := 1) rfl (by rw [ez4]) (by decide) rfl (fun ls hl => ?_)
  refine lv_goto (tgt := 2) hx hb dX10_freeFile_39 (by decide) ?_
  exact (J2) (z4) s0 _ _ _ h hP hD hS (lv_sub hl [1, 0] rfl)
set_option maxHeartbeats 40000000 in
set_option maxRecDepth 100000 in
theorem dB_X10_freeFile_2 {p : Program} {l : Launch} {e : Env} {s : State} {m : MethodId} {args : Array Value} {below : List Frame} {meth : Method} {c : Code} {Q : State → Prop} {A : Nat → Prop} {dC : Nat → ClassId} {dI : Nat → Nat → Nat} {a : Nat → Nat} {ac : Nat → ClassId} {n : Nat} {r : Int32 × (St)} (C : nd_C p l s m args c A (dC, dI) cX10_freeFile 2 RX10 ow_dm_X10_freeFile (dk_X10 ac)) (K : nd_Ki p l e (headSpec ow_dm_X10_freeFile ({ frames := 0, cells := 0, slots := 0, locals := 0 })).room s m args below meth c Q A (dC, dI) cX10_freeFile .int (St) (dw_X10 a ac) r) {g2 : Int32 → (St) → Option (Int32 × (St))} (J2 : dj_X10_freeFile_2 p l e s m args below meth c Q A dC dI a ac g2 r) : dj_X10_freeFile_2 p l e s m args below meth c Q A dC dI a ac (dF_X10_freeFile_2 n g2) r := by
  obtain ⟨hlt, hx, hb, hml, hown, hts, hN, hA, hK⟩ := id C
  intro x1 s0 H locs ls h hP hD hS hl
  unfold dF_X10_freeFile_2 at h
  refine lv_iload_n hx hb dX10_freeFile_2 rfl (lv_at hl 1 rfl) ?_
  refine lv_bipush (v := 16) hx hb dX10_freeFile_3 (by decide) ?_
  refine lv_icmp_ge (tgt := 42) hx hb dX10_freeFile_5 (by decide) (fun c1 => ?_) (fun c1 => ?_)
  · have h := nd_pos h c1
    refine lv_iconst (v := (-1)) hx hb dX10_freeFile_42 (by decide) ?_
    exact K _ _ _ _ _ _ dX10_freeFile_43 rfl (Option.some.inj h).symm hP hD hS
  · have h := nd_neg h c1
    refine lv_aload_n hx hb dX10_freeFile_8 rfl (lv_at hl 0 rfl) ?_
    refine va_get (D := (dC, dI)) (ci := 11) (v := .ref (a 5)) (C := RX10) (T := TX10) (N := 11) hx hb hts hi_dm_X10_freeFile_X10 hown hK hP 0 rfl rfl 4 (by decide) (hts (.fieldLink RX10 25 "TimeMachine$Things" "file" "[I") (List.mem_of_getElem? (i := 1) rfl)) (fun _ h9 => h9) rfl dX10_freeFile_9 ?_
    refine lv_iload_n hx hb dX10_freeFile_12 rfl (lv_at hl 1 rfl) ?_
    refine lv_iconst (v := 3) hx hb dX10_freeFile_13 (by decide) ?_
    refine lv_imul hx hb dX10_freeFile_14 ?_
    refine lv_iconst (v := 2) hx hb dX10_freeFile_15 (by decide) ?_
    refine lv_iadd hx hb dX10_freeFile_16 ?_
    obtain ⟨i2, h⟩ := nd_ck_e h
    refine va_iald (i := ((x1 * 3) + 2)) hx hb hK hP 5 4 rfl rfl i2 dX10_freeFile_17 ?_
    refine lv_if_ne (tgt := 36) hx hb dX10_freeFile_18 (by decide) (fun c3 => ?_) (fun c3 => ?_)
    · have h := nd_neg h c3
      exact (db_X10_freeFile_36 C K J2) (x1) s0 _ _ _ h hP hD hS (lv_sub hl [0, 1] rfl)
    · have h := nd_pos h c3
      refine lv_aload_n hx hb dX10_freeFile_21 rfl (lv_at hl 0 rfl) ?_
      refine va_get (D := (dC, dI)) (ci := 11) (v := .ref (a 5)) (C := RX10) (T := TX10) (N := 11) hx hb hts hi_dm_X10_freeFile_X10 hown hK hP 0 rfl rfl 4 (by decide) (hts (.fieldLink RX10 25 "TimeMachine$Things" "file" "[I") (List.mem_of_getElem? (i := 1) rfl)) (fun _ h9 => h9) rfl dX10_freeFile_22 ?_
      refine lv_iload_n hx hb dX10_freeFile_25 rfl (lv_at hl 1 rfl) ?_
      refine lv_iconst (v := 3) hx hb dX10_freeFile_26 (by decide) ?_
      refine lv_imul hx hb dX10_freeFile_27 ?_
      refine lv_iconst (v := 1) hx hb dX10_freeFile_28 (by decide) ?_
      refine lv_iadd hx hb dX10_freeFile_29 ?_
      obtain ⟨i5, h⟩ := nd_ck_e h
      refine va_iald (i := ((x1 * 3) + 1)) hx hb hK hP 5 4 rfl rfl i5 dX10_freeFile_30 ?_
      refine lv_if_ne (tgt := 36) hx hb dX10_freeFile_31 (by decide) (fun c6 => ?_) (fun c6 => ?_)
      · have h := nd_neg h c6
        exact (db_X10_freeFile_36 C K J2) (x1) s0 _ _ _ h hP hD hS (lv_sub hl [0, 1] rfl)
      · have h := nd_pos h c6
        refine lv_iload_n hx hb dX10_freeFile_34 rfl (lv_at hl 1 rfl) ?_
        exact K _ _ _ _ _ _ dX10_freeFile_35 rfl (Option.some.inj h).symm hP hD hS
set_option maxHeartbeats 40000000 in
set_option maxRecDepth 100000 in
theorem db_X10_freeFile_2 {p : Program} {l : Launch} {e : Env} {s : State} {m : MethodId} {args : Array Value} {below : List Frame} {meth : Method} {c : Code} {Q : State → Prop} {A : Nat → Prop} {dC : Nat → ClassId} {dI : Nat → Nat → Nat} {a : Nat → Nat} {ac : Nat → ClassId} {n : Nat} {r : Int32 × (St)} (C : nd_C p l s m args c A (dC, dI) cX10_freeFile 2 RX10 ow_dm_X10_freeFile (dk_X10 ac)) (K : nd_Ki p l e (headSpec ow_dm_X10_freeFile ({ frames := 0, cells := 0, slots := 0, locals := 0 })).room s m args below meth c Q A (dC, dI) cX10_freeFile .int (St) (dw_X10 a ac) r) (k : Nat) : dj_X10_freeFile_2 p l e s m args below meth c Q A dC dI a ac (df_X10_freeFile_2 n k) r := by
  induction k with
  | zero => intro x1 s0 H locs ls h; exact nomatch (show (none : Option (Int32 × (St))) = some r from h)
  | succ k ih => exact dB_X10_freeFile_2 C K ih
set_option maxHeartbeats 40000000 in
set_option maxRecDepth 100000 in
theorem db_X10_freeFile_0 {p : Program} {l : Launch} {e : Env} {s : State} {m : MethodId} {args : Array Value} {below : List Frame} {meth : Method} {c : Code} {Q : State → Prop} {A : Nat → Prop} {dC : Nat → ClassId} {dI : Nat → Nat → Nat} {a : Nat → Nat} {ac : Nat → ClassId} {n : Nat} {r : Int32 × (St)} (C : nd_C p l s m args c A (dC, dI) cX10_freeFile 2 RX10 ow_dm_X10_freeFile (dk_X10 ac)) (K : nd_Ki p l e (headSpec ow_dm_X10_freeFile ({ frames := 0, cells := 0, slots := 0, locals := 0 })).room s m args below meth c Q A (dC, dI) cX10_freeFile .int (St) (dw_X10 a ac) r) : dj_X10_freeFile_0 p l e s m args below meth c Q A dC dI a ac (df_X10_freeFile_0 n) r := by
  obtain ⟨hlt, hx, hb, hml, hown, hts, hN, hA, hK⟩ := id C
  intro s0 H locs ls h hP hD hS hl
  unfold df_X10_freeFile_0 at h
  refine lv_iconst (v := 0) hx hb dX10_freeFile_0 (by decide) ?_
  refine lv_istore_n (lv' := [(1, .int 0), (0, .ref (a 0))]) hx hb dX10_freeFile_1 rfl hl (by decide) rfl (fun ls hl => ?_)
  exact (db_X10_freeFile_2 C K n) (0) s0 _ _ _ h hP hD hS (lv_sub hl [1, 0] rfl)
set_option maxHeartbeats 40000000 in
set_option maxRecDepth 100000 in
theorem dm_X10_freeFile (l : Launch) (hlt : l.stackTraces = false) (dC : Nat → ClassId) (dI : Nat → Nat → Nat) (a : Nat → Nat) (ac : Nat → ClassId) (n : Nat) (s0 : St) {r : Int32 × (St)} (h : df_X10_freeFile n s0 = some r) (sz : Nat) : Met l yX10_freeFile ow_dm_X10_freeFile ({ frames := 0, cells := 0, slots := 0, locals := 0 }) (va_Pc [.ref (a 0)] (fun U => U.heap.size = sz ∧ va_P (dC, dI) vwCl (dw_X10 a ac s0) U.heap ∧ va_K (dC, dI) vwCl (dk_X10 ac) U ∧ va_D (fun _ => True) (dw_X10 a ac s0) ∧ nv_E dI (va_A (dw_X10 a ac s0) sz) U)) (va_Qi (fun x _ => x = r.1) (fun (_ : Unit) t => va_P (dC, dI) vwCl (dw_X10 a ac r.2) t.heap ∧ va_K (dC, dI) vwCl (dk_X10 ac) t ∧ va_D (va_A (dw_X10 a ac s0) sz) (dw_X10 a ac r.2)) (va_A (dw_X10 a ac s0) sz)) 0 0 (va_A (dw_X10 a ac s0) sz) := by
  refine Met.ofW (cc := cX10_freeFile) (maxL := 2) (ret := (some .int)) (by decide) rfl ?_
  intro p e s m args below meth c s₁ B hml hv
  obtain ⟨rfl, hsz, hP, hK, hD0, hN⟩ := hv
  have hx := B.exec
  have hb := B.bytes
  have hr := B.returns
  have hts := atoms_spec (ws := ow_dm_X10_freeFile) B.pre
  have hown : s.vm.findClass RX10 = some m.cls := findClass_of_methodNamed B.named
  have hlocks := B.notSynchronized
  subst hsz
  have hD := hD0.self (sz := s.heap.size)
  generalize hAe : va_A (dw_X10 a ac s0) s.heap.size = A at hD hN ⊢
  have hA : ∀ q : Nat, s.heap.size ≤ q → A q := fun q h => by rw [← hAe]; exact Or.inr h
  have hl := lv_entry ([.ref (a 0)]) (n := 2) (Nat.le_of_ble_eq_true rfl)
  rw [lg_entry_eq]
  generalize (lg_sl ([.ref (a 0)]) ++ List.replicate (2 - (lg_sl ([.ref (a 0)])).length) Slot.unset).toArray = ls at hl ⊢
  have hl : lv_has ls 2 [(0, .ref (a 0))] := hl
  exact db_X10_freeFile_0 (dC := dC) (dI := dI) (a := a) (ac := ac) (n := n) (r := r) ⟨hlt, hx, hb, hml, hown, hts, hN, hA, hK⟩ (fun pc v τ H locs ls d z er hP hD hS => by subst er; exact W.zret (v := v) hx hb hr z (fun t ht hW => ⟨⟨v, (), rfl, rfl, by rw [ht]; exact hP, va_K.moved hW.alike hK, hD⟩, hS.F ht⟩) hS.2.2 d) s0 _ _ _ h hP hD va_S.rf (lv_sub hl [0] rfl)
def ow_dm_X10_giveName : List Cond := Cond.code yX10_giveName cX10_giveName 3 none :: ([Cond.fieldLink RX10 25 "TimeMachine$Things" "file" "[I", Cond.fieldLink RX10 31 "TimeMachine$Things" "names" "[B", Cond.methodLink RX10 62 arraycopyName, .native arraycopyName, Cond.static arraycopyName, Cond.initialized "java/lang/System"] ++ (u_ws RX10 TX10 11 ++ []))
theorem gd_dm_X10_giveName : ∀ w ∈ ow_dm_X10_giveName, (w.onTables && w.keeps) = true ∨ ∃ ty, w = Cond.arrayClass ty := List.forall_mem_cons.mpr ⟨good_of_word rfl, List.forall_mem_append.mpr ⟨fun w h => good_of_word (List.all_eq_true.mp (by decide +kernel) w h), List.forall_mem_append.mpr ⟨gu_X10, fun _ h => nomatch h⟩⟩⟩
theorem hi_dm_X10_giveName_X10 : ∀ w ∈ u_ws RX10 TX10 11, w ∈ ow_dm_X10_giveName := fun w h => List.mem_cons_of_mem _ (List.mem_append_right _ (List.mem_append_left _ h))
def dj_X10_giveName_0 (p : Program) (l : Launch) (e : Env) (s : State) (m : MethodId) (args : Array Value) (below : List Frame) (meth : Method) (c : Code) (Q : State → Prop) (A : Nat → Prop) (dC : Nat → ClassId) (dI : Nat → Nat → Nat) (a : Nat → Nat) (ac : Nat → ClassId) (g : Int32 → (St × (St)) → Option (St × (St))) (r : St × (St)) : Prop := ∀ (v0 : Int32) (s0 : St × (St)) (H : Heap) (locs : List Loc) (ls : Array Slot), g v0 s0 = some r → va_P (dC, dI) vwCl (dw_X10n a ac s0) H → va_D A (dw_X10n a ac s0) → va_S A s.heap H locs → lv_has ls 3 [(0, .ref (a 1)), (1, .int v0), (2, .ref (a 0))] → W p l e (headSpec ow_dm_X10_giveName ({ frames := 1, cells := 0, slots := 0, locals := 40 })).room s m args below meth c H locs 0 0 Q (F0 m 0 ls [])
set_option maxHeartbeats 40000000 in
set_option maxRecDepth 100000 in
theorem db_X10_giveName_0 {p : Program} {l : Launch} {e : Env} {s : State} {m : MethodId} {args : Array Value} {below : List Frame} {meth : Method} {c : Code} {Q : State → Prop} {A : Nat → Prop} {dC : Nat → ClassId} {dI : Nat → Nat → Nat} {a : Nat → Nat} {ac : Nat → ClassId} {n : Nat} {r : St × (St)} (C : nd_C p l s m args c A (dC, dI) cX10_giveName 3 RX10 ow_dm_X10_giveName (dk_X10n ac)) (K : nd_Kv p l e (headSpec ow_dm_X10_giveName ({ frames := 1, cells := 0, slots := 0, locals := 40 })).room s m args below meth c Q A (dC, dI) cX10_giveName (St × (St)) (dw_X10n a ac) r) : dj_X10_giveName_0 p l e s m args below meth c Q A dC dI a ac (df_X10_giveName_0 n) r := by
  obtain ⟨hlt, hx, hb, hml, hown, hts, hN, hA, hK⟩ := id C
  intro v0 s0 H locs ls h hP hD hS hl
  unfold df_X10_giveName_0 at h
  refine lv_aload_n hx hb dX10_giveName_0 rfl (lv_at hl 0 rfl) ?_
  refine va_get (D := (dC, dI)) (ci := 11) (v := .ref (a 6)) (C := RX10) (T := TX10) (N := 11) hx hb hts hi_dm_X10_giveName_X10 hown hK hP 1 rfl rfl 4 (by decide) (hts (.fieldLink RX10 25 "TimeMachine$Things" "file" "[I") (List.mem_of_getElem? (i := 1) rfl)) (fun _ h9 => h9) rfl dX10_giveName_1 ?_
  refine lv_iload_n hx hb dX10_giveName_4 rfl (lv_at hl 1 rfl) ?_
  refine lv_iconst (v := 3) hx hb dX10_giveName_5 (by decide) ?_
  refine lv_imul hx hb dX10_giveName_6 ?_
  refine lv_iconst (v := 2) hx hb dX10_giveName_7 (by decide) ?_
  refine lv_iadd hx hb dX10_giveName_8 ?_
  refine lv_iconst (v := 1) hx hb dX10_giveName_9 (by decide) ?_
  obtain ⟨i1, h⟩ := nd_ck_e h
  refine va_iast (i := ((v0 * 3) + 2)) (x := 1) hx hb hK hP hD hS 6 5 rfl rfl i1 dX10_giveName_10 (fun H locs hP hD hS => ?_)
  obtain ⟨s2, es2, h⟩ := nd_let_e h
  have hP : va_P (dC, dI) vwCl (dw_X10n a ac s2) H := by rw [es2]; exact hP
  have hD : va_D A (dw_X10n a ac s2) := by rw [es2]; exact hD
  refine lv_aload_n hx hb dX10_giveName_11 rfl (lv_at hl 2 rfl) ?_
  refine lv_iconst (v := 0) hx hb dX10_giveName_12 (by decide) ?_
  refine lv_aload_n hx hb dX10_giveName_13 rfl (lv_at hl 0 rfl) ?_
  refine va_get (D := (dC, dI)) (ci := 11) (v := .ref (a 8)) (C := RX10) (T := TX10) (N := 11) hx hb hts hi_dm_X10_giveName_X10 hown hK hP 1 rfl rfl 6 (by decide) (hts (.fieldLink RX10 31 "TimeMachine$Things" "names" "[B") (List.mem_of_getElem? (i := 2) rfl)) (fun _ h9 => h9) rfl dX10_giveName_14 ?_
  refine lv_iload_n hx hb dX10_giveName_17 rfl (lv_at hl 1 rfl) ?_
  refine lv_bipush (v := 16) hx hb dX10_giveName_18 (by decide) ?_
  refine lv_imul hx hb dX10_giveName_20 ?_
  refine lv_bipush (v := 16) hx hb dX10_giveName_21 (by decide) ?_
  obtain ⟨k3, h⟩ := nd_cp_e h
  obtain ⟨k4, h⟩ := nd_fa_e h
  refine va_copyi (sp := 0) (dp := (v0 * 16)) (n := 16) hx hb (by rw [hml]; exact hl.1.symm) hown (hts (.methodLink RX10 62 arraycopyName) (List.mem_of_getElem? (i := 3) rfl)) (hts (.native arraycopyName) (List.mem_of_getElem? (i := 4) rfl)) (hts (.static arraycopyName) (List.mem_of_getElem? (i := 5) rfl)) (hts (.initialized "java/lang/System") (List.mem_of_getElem? (i := 6) rfl)) hK hP hD hS 0 8 0 7 rfl rfl rfl rfl rfl k3.1 k3.2.1 k3.2.2.1 k3.2.2.2.1 k3.2.2.2.2 k4 (Nat.le_of_ble_eq_true rfl) (by decide +kernel) dX10_giveName_23 (fun H locs hP hD hS => ?_)
  obtain ⟨s5, es5, h⟩ := nd_let_e h
  have hP : va_P (dC, dI) vwCl (dw_X10n a ac s5) H := by rw [es5]; exact hP
  have hD : va_D A (dw_X10n a ac s5) := by rw [es5]; exact hD
  exact K _ _ _ _ _ dX10_giveName_26 (Option.some.inj h).symm hP hD hS
set_option maxHeartbeats 40000000 in
set_option maxRecDepth 100000 in
theorem dm_X10_giveName (l : Launch) (hlt : l.stackTraces = false) (dC : Nat → ClassId) (dI : Nat → Nat → Nat) (a : Nat → Nat) (ac : Nat → ClassId) (n : Nat) (v0 : Int32) (s0 : St × (St)) {r : St × (St)} (h : df_X10_giveName n v0 s0 = some r) (sz : Nat) : Met l yX10_giveName ow_dm_X10_giveName ({ frames := 1, cells := 0, slots := 0, locals := 40 }) (va_Pc [.ref (a 1), .int v0, .ref (a 0)] (fun U => U.heap.size = sz ∧ va_P (dC, dI) vwCl (dw_X10n a ac s0) U.heap ∧ va_K (dC, dI) vwCl (dk_X10n ac) U ∧ va_D (fun _ => True) (dw_X10n a ac s0) ∧ nv_E dI (va_A (dw_X10n a ac s0) sz) U)) (va_Qv (fun _ => True) (fun (_ : Unit) t => va_P (dC, dI) vwCl (dw_X10n a ac r) t.heap ∧ va_K (dC, dI) vwCl (dk_X10n ac) t ∧ va_D (va_A (dw_X10n a ac s0) sz) (dw_X10n a ac r)) (va_A (dw_X10n a ac s0) sz)) 0 0 (va_A (dw_X10n a ac s0) sz) := by
  refine Met.ofW (cc := cX10_giveName) (maxL := 3) (ret := none) (by decide) rfl ?_
  intro p e s m args below meth c s₁ B hml hv
  obtain ⟨rfl, hsz, hP, hK, hD0, hN⟩ := hv
  have hx := B.exec
  have hb := B.bytes
  have hr := B.returns
  have hts := atoms_spec (ws := ow_dm_X10_giveName) B.pre
  have hown : s.vm.findClass RX10 = some m.cls := findClass_of_methodNamed B.named
  have hlocks := B.notSynchronized
  subst hsz
  have hD := hD0.self (sz := s.heap.size)
  generalize hAe : va_A (dw_X10n a ac s0) s.heap.size = A at hD hN ⊢
  have hA : ∀ q : Nat, s.heap.size ≤ q → A q := fun q h => by rw [← hAe]; exact Or.inr h
  have hl := lv_entry ([.ref (a 1), .int v0, .ref (a 0)]) (n := 3) (Nat.le_of_ble_eq_true rfl)
  rw [lg_entry_eq]
  generalize (lg_sl ([.ref (a 1), .int v0, .ref (a 0)]) ++ List.replicate (3 - (lg_sl ([.ref (a 1), .int v0, .ref (a 0)])).length) Slot.unset).toArray = ls at hl ⊢
  have hl : lv_has ls 3 [(0, .ref (a 1)), (1, .int v0), (2, .ref (a 0))] := hl
  exact db_X10_giveName_0 (dC := dC) (dI := dI) (a := a) (ac := ac) (n := n) (r := r) ⟨hlt, hx, hb, hml, hown, hts, hN, hA, hK⟩ (fun pc τ H locs ls d er hP hD hS => by subst er; exact W.vret hx hb hr (fun t ht hW => ⟨⟨(), rfl, trivial, by rw [ht]; exact hP, va_K.moved hW.alike hK, hD⟩, hS.F ht⟩) hS.2.2 d) v0 s0 _ _ _ h hP hD va_S.rf (lv_sub hl [0, 1, 2] rfl)
def ow_dm_X10_loseName : List Cond := Cond.code yX10_loseName cX10_loseName 2 none :: ([Cond.fieldLink RX10 25 "TimeMachine$Things" "file" "[I"] ++ (u_ws RX10 TX10 11 ++ []))
theorem gd_dm_X10_loseName : ∀ w ∈ ow_dm_X10_loseName, (w.onTables && w.keeps) = true ∨ ∃ ty, w = Cond.arrayClass ty := List.forall_mem_cons.mpr ⟨good_of_word rfl, List.forall_mem_append.mpr ⟨fun w h => good_of_word (List.all_eq_true.mp (by decide +kernel) w h), List.forall_mem_append.mpr ⟨gu_X10, fun _ h => nomatch h⟩⟩⟩
theorem hi_dm_X10_loseName_X10 : ∀ w ∈ u_ws RX10 TX10 11, w ∈ ow_dm_X10_loseName := fun w h => List.mem_cons_of_mem _ (List.mem_append_right _ (List.mem_append_left _ h))
def dj_X10_loseName_0 (p : Program) (l : Launch) (e : Env) (s : State) (m : MethodId) (args : Array Value) (below : List Frame) (meth : Method) (c : Code) (Q : State → Prop) (A : Nat → Prop) (dC : Nat → ClassId) (dI : Nat → Nat → Nat) (a : Nat → Nat) (ac : Nat → ClassId) (g : Int32 → (St) → Option (St)) (r : St) : Prop := ∀ (v0 : Int32) (s0 : St) (H : Heap) (locs : List Loc) (ls : Array Slot), g v0 s0 = some r → va_P (dC, dI) vwCl (dw_X10 a ac s0) H → va_D A (dw_X10 a ac s0) → va_S A s.heap H locs → lv_has ls 2 [(0, .ref (a 0)), (1, .int v0)] → W p l e (headSpec ow_dm_X10_loseName ({ frames := 0, cells := 0, slots := 0, locals := 0 })).room s m args below meth c H locs 0 0 Q (F0 m 0 ls [])
set_option maxHeartbeats 40000000 in
set_option maxRecDepth 100000 in
theorem db_X10_loseName_0 {p : Program} {l : Launch} {e : Env} {s : State} {m : MethodId} {args : Array Value} {below : List Frame} {meth : Method} {c : Code} {Q : State → Prop} {A : Nat → Prop} {dC : Nat → ClassId} {dI : Nat → Nat → Nat} {a : Nat → Nat} {ac : Nat → ClassId} {n : Nat} {r : St} (C : nd_C p l s m args c A (dC, dI) cX10_loseName 2 RX10 ow_dm_X10_loseName (dk_X10 ac)) (K : nd_Kv p l e (headSpec ow_dm_X10_loseName ({ frames := 0, cells := 0, slots := 0, locals := 0 })).room s m args below meth c Q A (dC, dI) cX10_loseName (St) (dw_X10 a ac) r) : dj_X10_loseName_0 p l e s m args below meth c Q A dC dI a ac (df_X10_loseName_0 n) r := by
  obtain ⟨hlt, hx, hb, hml, hown, hts, hN, hA, hK⟩ := id C
  intro v0 s0 H locs ls h hP hD hS hl
  unfold df_X10_loseName_0 at h
  refine lv_aload_n hx hb dX10_loseName_0 rfl (lv_at hl 0 rfl) ?_
  refine va_get (D := (dC, dI)) (ci := 11) (v := .ref (a 5)) (C := RX10) (T := TX10) (N := 11) hx hb hts hi_dm_X10_loseName_X10 hown hK hP 0 rfl rfl 4 (by decide) (hts (.fieldLink RX10 25 "TimeMachine$Things" "file" "[I") (List.mem_of_getElem? (i := 1) rfl)) (fun _ h9 => h9) rfl dX10_loseName_1 ?_
  refine lv_iload_n hx hb dX10_loseName_4 rfl (lv_at hl 1 rfl) ?_
  refine lv_iconst (v := 3) hx hb dX10_loseName_5 (by decide) ?_
  refine lv_imul hx hb dX10_loseName_6 ?_
  refine lv_iconst (v := 2) hx hb dX10_loseName_7 (by decide) ?_
  refine lv_iadd hx hb dX10_loseName_8 ?_
  refine lv_iconst (v := 0) hx hb dX10_loseName_9 (by decide) ?_
  obtain ⟨i1, h⟩ := nd_ck_e h
  refine va_iast (i := ((v0 * 3) + 2)) (x := 0) hx hb hK hP hD hS 5 4 rfl rfl i1 dX10_loseName_10 (fun H locs hP hD hS => ?_)
  obtain ⟨s2, es2, h⟩ := nd_let_e h
  have hP : va_P (dC, dI) vwCl (dw_X10 a ac s2) H := by rw [es2]; exact hP
  have hD : va_D A (dw_X10 a ac s2) := by rw [es2]; exact hD
  exact K _ _ _ _ _ dX10_loseName_11 (Option.some.inj h).symm hP hD hS
set_option maxHeartbeats 40000000 in
set_option maxRecDepth 100000 in
theorem dm_X10_loseName (l : Launch) (hlt : l.stackTraces = false) (dC : Nat → ClassId) (dI : Nat → Nat → Nat) (a : Nat → Nat) (ac : Nat → ClassId) (n : Nat) (v0 : Int32) (s0 : St) {r : St} (h : df_X10_loseName n v0 s0 = some r) (sz : Nat) : Met l yX10_loseName ow_dm_X10_loseName ({ frames := 0, cells := 0, slots := 0, locals := 0 }) (va_Pc [.ref (a 0), .int v0] (fun U => U.heap.size = sz ∧ va_P (dC, dI) vwCl (dw_X10 a ac s0) U.heap ∧ va_K (dC, dI) vwCl (dk_X10 ac) U ∧ va_D (fun _ => True) (dw_X10 a ac s0) ∧ nv_E dI (va_A (dw_X10 a ac s0) sz) U)) (va_Qv (fun _ => True) (fun (_ : Unit) t => va_P (dC, dI) vwCl (dw_X10 a ac r) t.heap ∧ va_K (dC, dI) vwCl (dk_X10 ac) t ∧ va_D (va_A (dw_X10 a ac s0) sz) (dw_X10 a ac r)) (va_A (dw_X10 a ac s0) sz)) 0 0 (va_A (dw_X10 a ac s0) sz) := by
  refine Met.ofW (cc := cX10_loseName) (maxL := 2) (ret := none) (by decide) rfl ?_
  intro p e s m args below meth c s₁ B hml hv
  obtain ⟨rfl, hsz, hP, hK, hD0, hN⟩ := hv
  have hx := B.exec
  have hb := B.bytes
  have hr := B.returns
  have hts := atoms_spec (ws := ow_dm_X10_loseName) B.pre
  have hown : s.vm.findClass RX10 = some m.cls := findClass_of_methodNamed B.named
  have hlocks := B.notSynchronized
  subst hsz
  have hD := hD0.self (sz := s.heap.size)
  generalize hAe : va_A (dw_X10 a ac s0) s.heap.size = A at hD hN ⊢
  have hA : ∀ q : Nat, s.heap.size ≤ q → A q := fun q h => by rw [← hAe]; exact Or.inr h
  have hl := lv_entry ([.ref (a 0), .int v0]) (n := 2) (Nat.le_of_ble_eq_true rfl)
  rw [lg_entry_eq]
  generalize (lg_sl ([.ref (a 0), .int v0]) ++ List.replicate (2 - (lg_sl ([.ref (a 0), .int v0])).length) Slot.unset).toArray = ls at hl ⊢
  have hl : lv_has ls 2 [(0, .ref (a 0)), (1, .int v0)] := hl
  exact db_X10_loseName_0 (dC := dC) (dI := dI) (a := a) (ac := ac) (n := n) (r := r) ⟨hlt, hx, hb, hml, hown, hts, hN, hA, hK⟩ (fun pc τ H locs ls d er hP hD hS => by subst er; exact W.vret hx hb hr (fun t ht hW => ⟨⟨(), rfl, trivial, by rw [ht]; exact hP, va_K.moved hW.alike hK, hD⟩, hS.F ht⟩) hS.2.2 d) v0 s0 _ _ _ h hP hD va_S.rf (lv_sub hl [0, 1] rfl)
def ow_dm_X10_emptyFile : List Cond := Cond.code yX10_emptyFile cX10_emptyFile 2 none :: ([Cond.fieldLink RX10 25 "TimeMachine$Things" "file" "[I"] ++ (u_ws RX10 TX10 11 ++ []))
theorem gd_dm_X10_emptyFile : ∀ w ∈ ow_dm_X10_emptyFile, (w.onTables && w.keeps) = true ∨ ∃ ty, w = Cond.arrayClass ty := List.forall_mem_cons.mpr ⟨good_of_word rfl, List.forall_mem_append.mpr ⟨fun w h => good_of_word (List.all_eq_true.mp (by decide +kernel) w h), List.forall_mem_append.mpr ⟨gu_X10, fun _ h => nomatch h⟩⟩⟩
theorem hi_dm_X10_emptyFile_X10 : ∀ w ∈ u_ws RX10 TX10 11, w ∈ ow_dm_X10_emptyFile := fun w h => List.mem_cons_of_mem _ (List.mem_append_right _ (List.mem_append_left _ h))
def dj_X10_emptyFile_0 (p : Program) (l : Launch) (e : Env) (s : State) (m : MethodId) (args : Array Value) (below : List Frame) (meth : Method) (c : Code) (Q : State → Prop) (A : Nat → Prop) (dC : Nat → ClassId) (dI : Nat → Nat → Nat) (a : Nat → Nat) (ac : Nat → ClassId) (g : Int32 → (St) → Option (St)) (r : St) : Prop := ∀ (v0 : Int32) (s0 : St) (H : Heap) (locs : List Loc) (ls : Array Slot), g v0 s0 = some r → va_P (dC, dI) vwCl (dw_X10 a ac s0) H → va_D A (dw_X10 a ac s0) → va_S A s.heap H locs → lv_has ls 2 [(0, .ref (a 0)), (1, .int v0)] → W p l e (headSpec ow_dm_X10_emptyFile ({ frames := 0, cells := 0, slots := 0, locals := 0 })).room s m args below meth c H locs 0 0 Q (F0 m 0 ls [])
set_option maxHeartbeats 40000000 in
set_option maxRecDepth 100000 in
theorem db_X10_emptyFile_0 {p : Program} {l : Launch} {e : Env} {s : State} {m : MethodId} {args : Array Value} {below : List Frame} {meth : Method} {c : Code} {Q : State → Prop} {A : Nat → Prop} {dC : Nat → ClassId} {dI : Nat → Nat → Nat} {a : Nat → Nat} {ac : Nat → ClassId} {n : Nat} {r : St} (C : nd_C p l s m args c A (dC, dI) cX10_emptyFile 2 RX10 ow_dm_X10_emptyFile (dk_X10 ac)) (K : nd_Kv p l e (headSpec ow_dm_X10_emptyFile ({ frames := 0, cells := 0, slots := 0, locals := 0 })).room s m args below meth c Q A (dC, dI) cX10_emptyFile (St) (dw_X10 a ac) r) : dj_X10_emptyFile_0 p l e s m args below meth c Q A dC dI a ac (df_X10_emptyFile_0 n) r := by
  obtain ⟨hlt, hx, hb, hml, hown, hts, hN, hA, hK⟩ := id C
  intro v0 s0 H locs ls h hP hD hS hl
  unfold df_X10_emptyFile_0 at h
  refine lv_aload_n hx hb dX10_emptyFile_0 rfl (lv_at hl 0 rfl) ?_
  refine va_get (D := (dC, dI)) (ci := 11) (v := .ref (a 5)) (C := RX10) (T := TX10) (N := 11) hx hb hts hi_dm_X10_emptyFile_X10 hown hK hP 0 rfl rfl 4 (by decide) (hts (.fieldLink RX10 25 "TimeMachine$Things" "file" "[I") (List.mem_of_getElem? (i := 1) rfl)) (fun _ h9 => h9) rfl dX10_emptyFile_1 ?_
  refine lv_iload_n hx hb dX10_emptyFile_4 rfl (lv_at hl 1 rfl) ?_
  refine lv_iconst (v := 3) hx hb dX10_emptyFile_5 (by decide) ?_
  refine lv_imul hx hb dX10_emptyFile_6 ?_
  refine lv_iconst (v := 0) hx hb dX10_emptyFile_7 (by decide) ?_
  refine lv_iadd hx hb dX10_emptyFile_8 ?_
  refine lv_iconst (v := 0) hx hb dX10_emptyFile_9 (by decide) ?_
  obtain ⟨i1, h⟩ := nd_ck_e h
  refine va_iast (i := ((v0 * 3) + 0)) (x := 0) hx hb hK hP hD hS 5 4 rfl rfl i1 dX10_emptyFile_10 (fun H locs hP hD hS => ?_)
  obtain ⟨s2, es2, h⟩ := nd_let_e h
  have hP : va_P (dC, dI) vwCl (dw_X10 a ac s2) H := by rw [es2]; exact hP
  have hD : va_D A (dw_X10 a ac s2) := by rw [es2]; exact hD
  exact K _ _ _ _ _ dX10_emptyFile_11 (Option.some.inj h).symm hP hD hS
set_option maxHeartbeats 40000000 in
set_option maxRecDepth 100000 in
theorem dm_X10_emptyFile (l : Launch) (hlt : l.stackTraces = false) (dC : Nat → ClassId) (dI : Nat → Nat → Nat) (a : Nat → Nat) (ac : Nat → ClassId) (n : Nat) (v0 : Int32) (s0 : St) {r : St} (h : df_X10_emptyFile n v0 s0 = some r) (sz : Nat) : Met l yX10_emptyFile ow_dm_X10_emptyFile ({ frames := 0, cells := 0, slots := 0, locals := 0 }) (va_Pc [.ref (a 0), .int v0] (fun U => U.heap.size = sz ∧ va_P (dC, dI) vwCl (dw_X10 a ac s0) U.heap ∧ va_K (dC, dI) vwCl (dk_X10 ac) U ∧ va_D (fun _ => True) (dw_X10 a ac s0) ∧ nv_E dI (va_A (dw_X10 a ac s0) sz) U)) (va_Qv (fun _ => True) (fun (_ : Unit) t => va_P (dC, dI) vwCl (dw_X10 a ac r) t.heap ∧ va_K (dC, dI) vwCl (dk_X10 ac) t ∧ va_D (va_A (dw_X10 a ac s0) sz) (dw_X10 a ac r)) (va_A (dw_X10 a ac s0) sz)) 0 0 (va_A (dw_X10 a ac s0) sz) := by
  refine Met.ofW (cc := cX10_emptyFile) (maxL := 2) (ret := none) (by decide) rfl ?_
  intro p e s m args below meth c s₁ B hml hv
  obtain ⟨rfl, hsz, hP, hK, hD0, hN⟩ := hv
  have hx := B.exec
  have hb := B.bytes
  have hr := B.returns
  have hts := atoms_spec (ws := ow_dm_X10_emptyFile) B.pre
  have hown : s.vm.findClass RX10 = some m.cls := findClass_of_methodNamed B.named
  have hlocks := B.notSynchronized
  subst hsz
  have hD := hD0.self (sz := s.heap.size)
  generalize hAe : va_A (dw_X10 a ac s0) s.heap.size = A at hD hN ⊢
  have hA : ∀ q : Nat, s.heap.size ≤ q → A q := fun q h => by rw [← hAe]; exact Or.inr h
  have hl := lv_entry ([.ref (a 0), .int v0]) (n := 2) (Nat.le_of_ble_eq_true rfl)
  rw [lg_entry_eq]
  generalize (lg_sl ([.ref (a 0), .int v0]) ++ List.replicate (2 - (lg_sl ([.ref (a 0), .int v0])).length) Slot.unset).toArray = ls at hl ⊢
  have hl : lv_has ls 2 [(0, .ref (a 0)), (1, .int v0)] := hl
  exact db_X10_emptyFile_0 (dC := dC) (dI := dI) (a := a) (ac := ac) (n := n) (r := r) ⟨hlt, hx, hb, hml, hown, hts, hN, hA, hK⟩ (fun pc τ H locs ls d er hP hD hS => by subst er; exact W.vret hx hb hr (fun t ht hW => ⟨⟨(), rfl, trivial, by rw [ht]; exact hP, va_K.moved hW.alike hK, hD⟩, hS.F ht⟩) hS.2.2 d) v0 s0 _ _ _ h hP hD va_S.rf (lv_sub hl [0, 1] rfl)
def ow_dm_X10_namedFiles : List Cond := Cond.code yX10_namedFiles cX10_namedFiles 3 (some .int) :: ([Cond.fieldLink RX10 25 "TimeMachine$Things" "file" "[I"] ++ (u_ws RX10 TX10 11 ++ []))
theorem gd_dm_X10_namedFiles : ∀ w ∈ ow_dm_X10_namedFiles, (w.onTables && w.keeps) = true ∨ ∃ ty, w = Cond.arrayClass ty := List.forall_mem_cons.mpr ⟨good_of_word rfl, List.forall_mem_append.mpr ⟨fun w h => good_of_word (List.all_eq_true.mp (by decide +kernel) w h), List.forall_mem_append.mpr ⟨gu_X10, fun _ h => nomatch h⟩⟩⟩
theorem hi_dm_X10_namedFiles_X10 : ∀ w ∈ u_ws RX10 TX10 11, w ∈ ow_dm_X10_namedFiles := fun w h => List.mem_cons_of_mem _ (List.mem_append_right _ (List.mem_append_left _ h))
def dj_X10_namedFiles_4 (p : Program) (l : Launch) (e : Env) (s : State) (m : MethodId) (args : Array Value) (below : List Frame) (meth : Method) (c : Code) (Q : State → Prop) (A : Nat → Prop) (dC : Nat → ClassId) (dI : Nat → Nat → Nat) (a : Nat → Nat) (ac : Nat → ClassId) (g : Int32 → Int32 → (St) → Option (Int32 × (St))) (r : Int32 × (St)) : Prop := ∀ (x1 : Int32) (x2 : Int32) (s0 : St) (H : Heap) (locs : List Loc) (ls : Array Slot), g x1 x2 s0 = some r → va_P (dC, dI) vwCl (dw_X10 a ac s0) H → va_D A (dw_X10 a ac s0) → va_S A s.heap H locs → lv_has ls 3 [(0, .ref (a 0)), (1, .int x1), (2, .int x2)] → W p l e (headSpec ow_dm_X10_namedFiles ({ frames := 0, cells := 0, slots := 0, locals := 0 })).room s m args below meth c H locs 0 0 Q (F0 m 4 ls [])
def dj_X10_namedFiles_0 (p : Program) (l : Launch) (e : Env) (s : State) (m : MethodId) (args : Array Value) (below : List Frame) (meth : Method) (c : Code) (Q : State → Prop) (A : Nat → Prop) (dC : Nat → ClassId) (dI : Nat → Nat → Nat) (a : Nat → Nat) (ac : Nat → ClassId) (g : (St) → Option (Int32 × (St))) (r : Int32 × (St)) : Prop := ∀ (s0 : St) (H : Heap) (locs : List Loc) (ls : Array Slot), g s0 = some r → va_P (dC, dI) vwCl (dw_X10 a ac s0) H → va_D A (dw_X10 a ac s0) → va_S A s.heap H locs → lv_has ls 3 [(0, .ref (a 0))] → W p l e (headSpec ow_dm_X10_namedFiles ({ frames := 0, cells := 0, slots := 0, locals := 0 })).room s m args below meth c H locs 0 0 Q (F0 m 0 ls [])
set_option maxHeartbeats 40000000 in
set_option maxRecDepth 100000 in
theorem dB_X10_namedFiles_4 {p : Program} {l : Launch} {e : Env} {s : State} {m : MethodId} {args : Array Value} {below : List Frame} {meth : Method} {c : Code} {Q : State → Prop} {A : Nat → Prop} {dC : Nat → ClassId} {dI : Nat → Nat → Nat} {a : Nat → Nat} {ac : Nat → ClassId} {n : Nat} {r : Int32 × (St)} (C : nd_C p l s m args c A (dC, dI) cX10_namedFiles 3 RX10 ow_dm_X10_namedFiles (dk_X10 ac)) (K : nd_Ki p l e (headSpec ow_dm_X10_namedFiles ({ frames := 0, cells := 0, slots := 0, locals := 0 })).room s m args below meth c Q A (dC, dI) cX10_namedFiles .int (St) (dw_X10 a ac) r) {g4 : Int32 → Int32 → (St) → Option (Int32 × (St))} (J4 : dj_X10_namedFiles_4 p l e s m args below meth c Q A dC dI a ac g4 r) : dj_X10_namedFiles_4 p l e s m args below meth c Q A dC dI a ac (dF_X10_namedFiles_4 n g4) r := by
  obtain ⟨hlt, hx, hb, hml, hown, hts, hN, hA, hK⟩ := id C
  intro x1 x2 s0 H locs ls h hP hD hS hl
  unfold dF_X10_namedFiles_4 at h
  refine lv_iload_n hx hb dX10_namedFiles_4 rfl (lv_at hl 2 rfl) ?_
  refine lv_bipush (v := 16) hx hb dX10_namedFiles_5 (by decide) ?_
  refine lv_icmp_ge (tgt := 29) hx hb dX10_namedFiles_7 (by decide) (fun c1 => ?_) (fun c1 => ?_)
  · have h := nd_pos h c1
    refine lv_iload_n hx hb dX10_namedFiles_29 rfl (lv_at hl 1 rfl) ?_
    exact K _ _ _ _ _ _ dX10_namedFiles_30 rfl (Option.some.inj h).symm hP hD hS
  · have h := nd_neg h c1
    refine lv_iload_n hx hb dX10_namedFiles_10 rfl (lv_at hl 1 rfl) ?_
    refine lv_aload_n hx hb dX10_namedFiles_11 rfl (lv_at hl 0 rfl) ?_
    refine va_get (D := (dC, dI)) (ci := 11) (v := .ref (a 5)) (C := RX10) (T := TX10) (N := 11) hx hb hts hi_dm_X10_namedFiles_X10 hown hK hP 0 rfl rfl 4 (by decide) (hts (.fieldLink RX10 25 "TimeMachine$Things" "file" "[I") (List.mem_of_getElem? (i := 1) rfl)) (fun _ h9 => h9) rfl dX10_namedFiles_12 ?_
    refine lv_iload_n hx hb dX10_namedFiles_15 rfl (lv_at hl 2 rfl) ?_
    refine lv_iconst (v := 3) hx hb dX10_namedFiles_16 (by decide) ?_
    refine lv_imul hx hb dX10_namedFiles_17 ?_
    refine lv_iconst (v := 2) hx hb dX10_namedFiles_18 (by decide) ?_
    refine lv_iadd hx hb dX10_namedFiles_19 ?_
    obtain ⟨i2, h⟩ := nd_ck_e h
    refine va_iald (i := ((x2 * 3) + 2)) hx hb hK hP 5 4 rfl rfl i2 dX10_namedFiles_20 ?_
    refine lv_iadd hx hb dX10_namedFiles_21 ?_
    refine lv_topi (fun z3 ez3 => ?_)
    have h := nd_at h ez3
    refine lv_istore_n (lv' := [(1, .int z3), (0, .ref (a 0)), (2, .int x2)]) hx hb dX10_namedFiles_22 rfl hl (by decide) rfl (fun ls hl => ?_)
    obtain ⟨z4, ez4, h⟩ := nd_let_e h
    refine lv_iinc (v := z4) (lv' := [(2, .int z4), (1, .int z3), (0, .ref (a 0))]) hx hb dX10_namedFiles_23 hl (k := 2) rfl (by rw [ez4]) (by decide) rfl (fun ls hl => ?_)
    refine lv_goto (tgt := 4) hx hb dX10_namedFiles_26 (by decide) ?_
    exact (J4) (z3) (z4) s0 _ _ _ h hP hD hS (lv_sub hl [2, 1, 0] rfl)
set_option maxHeartbeats 40000000 in
set_option maxRecDepth 100000 in
theorem db_X10_namedFiles_4 {p : Program} {l : Launch} {e : Env} {s : State} {m : MethodId} {args : Array Value} {below : List Frame} {meth : Method} {c : Code} {Q : State → Prop} {A : Nat → Prop} {dC : Nat → ClassId} {dI : Nat → Nat → Nat} {a : Nat → Nat} {ac : Nat → ClassId} {n : Nat} {r : Int32 × (St)} (C : nd_C p l s m args c A (dC, dI) cX10_namedFiles 3 RX10 ow_dm_X10_namedFiles (dk_X10 ac)) (K : nd_Ki p l e (headSpec ow_dm_X10_namedFiles ({ frames := 0, cells := 0, slots := 0, locals := 0 })).room s m args below meth c Q A (dC, dI) cX10_namedFiles .int (St) (dw_X10 a ac) r) (k : Nat) : dj_X10_namedFiles_4 p l e s m args below meth c Q A dC dI a ac (df_X10_namedFiles_4 n k) r := by
  induction k with
  | zero => intro x1 x2 s0 H locs ls h; exact nomatch (show (none : Option (Int32 × (St))) = some r from h)
  | succ k ih => exact dB_X10_namedFiles_4 C K ih
set_option maxHeartbeats 40000000 in
set_option maxRecDepth 100000 in
theorem db_X10_namedFiles_0 {p : Program} {l : Launch} {e : Env} {s : State} {m : MethodId} {args : Array Value} {below : List Frame} {meth : Method} {c : Code} {Q : State → Prop} {A : Nat → Prop} {dC : Nat → ClassId} {dI : Nat → Nat → Nat} {a : Nat → Nat} {ac : Nat → ClassId} {n : Nat} {r : Int32 × (St)} (C : nd_C p l s m args c A (dC, dI) cX10_namedFiles 3 RX10 ow_dm_X10_namedFiles (dk_X10 ac)) (K : nd_Ki p l e (headSpec ow_dm_X10_namedFiles ({ frames := 0, cells := 0, slots := 0, locals := 0 })).room s m args below meth c Q A (dC, dI) cX10_namedFiles .int (St) (dw_X10 a ac) r) : dj_X10_namedFiles_0 p l e s m args below meth c Q A dC dI a ac (df_X10_namedFiles_0 n) r := by
  obtain ⟨hlt, hx, hb, hml, hown, hts, hN, hA, hK⟩ := id C
  intro s0 H locs ls h hP hD hS hl
  unfold df_X10_namedFiles_0 at h
  refine lv_iconst (v := 0) hx hb dX10_namedFiles_0 (by decide) ?_
  refine lv_istore_n (lv' := [(1, .int 0), (0, .ref (a 0))]) hx hb dX10_namedFiles_1 rfl hl (by decide) rfl (fun ls hl => ?_)
  refine lv_iconst (v := 0) hx hb dX10_namedFiles_2 (by decide) ?_
  refine lv_istore_n (lv' := [(2, .int 0), (1, .int 0), (0, .ref (a 0))]) hx hb dX10_namedFiles_3 rfl hl (by decide) rfl (fun ls hl => ?_)
  exact (db_X10_namedFiles_4 C K n) (0) (0) s0 _ _ _ h hP hD hS (lv_sub hl [2, 1, 0] rfl)
set_option maxHeartbeats 40000000 in
set_option maxRecDepth 100000 in
theorem dm_X10_namedFiles (l : Launch) (hlt : l.stackTraces = false) (dC : Nat → ClassId) (dI : Nat → Nat → Nat) (a : Nat → Nat) (ac : Nat → ClassId) (n : Nat) (s0 : St) {r : Int32 × (St)} (h : df_X10_namedFiles n s0 = some r) (sz : Nat) : Met l yX10_namedFiles ow_dm_X10_namedFiles ({ frames := 0, cells := 0, slots := 0, locals := 0 }) (va_Pc [.ref (a 0)] (fun U => U.heap.size = sz ∧ va_P (dC, dI) vwCl (dw_X10 a ac s0) U.heap ∧ va_K (dC, dI) vwCl (dk_X10 ac) U ∧ va_D (fun _ => True) (dw_X10 a ac s0) ∧ nv_E dI (va_A (dw_X10 a ac s0) sz) U)) (va_Qi (fun x _ => x = r.1) (fun (_ : Unit) t => va_P (dC, dI) vwCl (dw_X10 a ac r.2) t.heap ∧ va_K (dC, dI) vwCl (dk_X10 ac) t ∧ va_D (va_A (dw_X10 a ac s0) sz) (dw_X10 a ac r.2)) (va_A (dw_X10 a ac s0) sz)) 0 0 (va_A (dw_X10 a ac s0) sz) := by
  refine Met.ofW (cc := cX10_namedFiles) (maxL := 3) (ret := (some .int)) (by decide) rfl ?_
  intro p e s m args below meth c s₁ B hml hv
  obtain ⟨rfl, hsz, hP, hK, hD0, hN⟩ := hv
  have hx := B.exec
  have hb := B.bytes
  have hr := B.returns
  have hts := atoms_spec (ws := ow_dm_X10_namedFiles) B.pre
  have hown : s.vm.findClass RX10 = some m.cls := findClass_of_methodNamed B.named
  have hlocks := B.notSynchronized
  subst hsz
  have hD := hD0.self (sz := s.heap.size)
  generalize hAe : va_A (dw_X10 a ac s0) s.heap.size = A at hD hN ⊢
  have hA : ∀ q : Nat, s.heap.size ≤ q → A q := fun q h => by rw [← hAe]; exact Or.inr h
  have hl := lv_entry ([.ref (a 0)]) (n := 3) (Nat.le_of_ble_eq_true rfl)
  rw [lg_entry_eq]
  generalize (lg_sl ([.ref (a 0)]) ++ List.replicate (3 - (lg_sl ([.ref (a 0)])).length) Slot.unset).toArray = ls at hl ⊢
  have hl : lv_has ls 3 [(0, .ref (a 0))] := hl
  exact db_X10_namedFiles_0 (dC := dC) (dI := dI) (a := a) (ac := ac) (n := n) (r := r) ⟨hlt, hx, hb, hml, hown, hts, hN, hA, hK⟩ (fun pc v τ H locs ls d z er hP hD hS => by subst er; exact W.zret (v := v) hx hb hr z (fun t ht hW => ⟨⟨v, (), rfl, rfl, by rw [ht]; exact hP, va_K.moved hW.alike hK, hD⟩, hS.F ht⟩) hS.2.2 d) s0 _ _ _ h hP hD va_S.rf (lv_sub hl [0] rfl)
def ow_dm_X10_amount : List Cond := Cond.code yX10_amount cX10_amount 4 (some .int) :: ([Cond.fieldLink RX10 15 "TimeMachine$Things" "opening" "[I", Cond.fieldLink RX10 18 "TimeMachine$Things" "pipe" "[I", Cond.fieldLink RX10 25 "TimeMachine$Things" "file" "[I", Cond.fieldLink RX10 46 "TimeMachine$Things" "typedBytes" "I"] ++ (u_ws RX10 TX10 11 ++ []))
theorem gd_dm_X10_amount : ∀ w ∈ ow_dm_X10_amount, (w.onTables && w.keeps) = true ∨ ∃ ty, w = Cond.arrayClass ty := List.forall_mem_cons.mpr ⟨good_of_word rfl, List.forall_mem_append.mpr ⟨fun w h => good_of_word (List.all_eq_true.mp (by decide +kernel) w h), List.forall_mem_append.mpr ⟨gu_X10, fun _ h => nomatch h⟩⟩⟩
theorem hi_dm_X10_amount_X10 : ∀ w ∈ u_ws RX10 TX10 11, w ∈ ow_dm_X10_amount := fun w h => List.mem_cons_of_mem _ (List.mem_append_right _ (List.mem_append_left _ h))
def dj_X10_amount_60 (p : Program) (l : Launch) (e : Env) (s : State) (m : MethodId) (args : Array Value) (below : List Frame) (meth : Method) (c : Code) (Q : State → Prop) (A : Nat → Prop) (dC : Nat → ClassId) (dI : Nat → Nat → Nat) (a : Nat → Nat) (ac : Nat → ClassId) (g : Int32 → (St) → Option (Int32 × (St))) (r : Int32 × (St)) : Prop := ∀ (y0 : Int32) (s0 : St) (H : Heap) (locs : List Loc) (ls : Array Slot), g y0 s0 = some r → va_P (dC, dI) vwCl (dw_X10 a ac s0) H → va_D A (dw_X10 a ac s0) → va_S A s.heap H locs → lv_has ls 4 [] → W p l e (headSpec ow_dm_X10_amount ({ frames := 0, cells := 0, slots := 0, locals := 0 })).room s m args below meth c H locs 0 0 Q (F0 m 60 ls [.int y0])
def dj_X10_amount_0 (p : Program) (l : Launch) (e : Env) (s : State) (m : MethodId) (args : Array Value) (below : List Frame) (meth : Method) (c : Code) (Q : State → Prop) (A : Nat → Prop) (dC : Nat → ClassId) (dI : Nat → Nat → Nat) (a : Nat → Nat) (ac : Nat → ClassId) (g : Int32 → (St) → Option (Int32 × (St))) (r : Int32 × (St)) : Prop := ∀ (v0 : Int32) (s0 : St) (H : Heap) (locs : List Loc) (ls : Array Slot), g v0 s0 = some r → va_P (dC, dI) vwCl (dw_X10 a ac s0) H → va_D A (dw_X10 a ac s0) → va_S A s.heap H locs → lv_has ls 4 [(0, .ref (a 0)), (1, .int v0)] → W p l e (headSpec ow_dm_X10_amount ({ frames := 0, cells := 0, slots := 0, locals := 0 })).room s m args below meth c H locs 0 0 Q (F0 m 0 ls [])
set_option maxHeartbeats 40000000 in
set_option maxRecDepth 100000 in
theorem db_X10_amount_60 {p : Program} {l : Launch} {e : Env} {s : State} {m : MethodId} {args : Array Value} {below : List Frame} {meth : Method} {c : Code} {Q : State → Prop} {A : Nat → Prop} {dC : Nat → ClassId} {dI : Nat → Nat → Nat} {a : Nat → Nat} {ac : Nat → ClassId} {n : Nat} {r : Int32 × (St)} (C : nd_C p l s m args c A (dC, dI) cX10_amount 4 RX10 ow_dm_X10_amount (dk_X10 ac)) (K : nd_Ki p l e (headSpec ow_dm_X10_amount ({ frames := 0, cells := 0, slots := 0, locals := 0 })).room s m args below meth c Q A (dC, dI) cX10_amount .int (St) (dw_X10 a ac) r) : dj_X10_amount_60 p l e s m args below meth c Q A dC dI a ac (df_X10_amount_60 n) r := by
  obtain ⟨hlt, hx, hb, hml, hown, hts, hN, hA, hK⟩ := id C
  intro y0 s0 H locs ls h hP hD hS hl
  unfold df_X10_amount_60 at h
  exact K _ _ _ _ _ _ dX10_amount_60 rfl (Option.some.inj h).symm hP hD hS
set_option maxHeartbeats 40000000 in
set_option maxRecDepth 100000 in
theorem db_X10_amount_0 {p : Program} {l : Launch} {e : Env} {s : State} {m : MethodId} {args : Array Value} {below : List Frame} {meth : Method} {c : Code} {Q : State → Prop} {A : Nat → Prop} {dC : Nat → ClassId} {dI : Nat → Nat → Nat} {a : Nat → Nat} {ac : Nat → ClassId} {n : Nat} {r : Int32 × (St)} (C : nd_C p l s m args c A (dC, dI) cX10_amount 4 RX10 ow_dm_X10_amount (dk_X10 ac)) (K : nd_Ki p l e (headSpec ow_dm_X10_amount ({ frames := 0, cells := 0, slots := 0, locals := 0 })).room s m args below meth c Q A (dC, dI) cX10_amount .int (St) (dw_X10 a ac) r) : dj_X10_amount_0 p l e s m args below meth c Q A dC dI a ac (df_X10_amount_0 n) r := by
  obtain ⟨hlt, hx, hb, hml, hown, hts, hN, hA, hK⟩ := id C
  intro v0 s0 H locs ls h hP hD hS hl
  unfold df_X10_amount_0 at h
  refine lv_aload_n hx hb dX10_amount_0 rfl (lv_at hl 0 rfl) ?_
  refine va_get (D := (dC, dI)) (ci := 11) (v := .ref (a 2)) (C := RX10) (T := TX10) (N := 11) hx hb hts hi_dm_X10_amount_X10 hown hK hP 0 rfl rfl 1 (by decide) (hts (.fieldLink RX10 15 "TimeMachine$Things" "opening" "[I") (List.mem_of_getElem? (i := 1) rfl)) (fun _ h9 => h9) rfl dX10_amount_1 ?_
  refine lv_iload_n hx hb dX10_amount_4 rfl (lv_at hl 1 rfl) ?_
  refine lv_iconst (v := 5) hx hb dX10_amount_5 (by decide) ?_
  refine lv_imul hx hb dX10_amount_6 ?_
  refine lv_iconst (v := 0) hx hb dX10_amount_7 (by decide) ?_
  refine lv_iadd hx hb dX10_amount_8 ?_
  obtain ⟨i1, h⟩ := nd_ck_e h
  refine va_iald (i := ((v0 * 5) + 0)) hx hb hK hP 2 1 rfl rfl i1 dX10_amount_9 ?_
  refine lv_topi (fun z2 ez2 => ?_)
  have h := nd_at h ez2
  refine lv_istore_n (lv' := [(2, .int z2), (0, .ref (a 0)), (1, .int v0)]) hx hb dX10_amount_10 rfl hl (by decide) rfl (fun ls hl => ?_)
  refine lv_aload_n hx hb dX10_amount_11 rfl (lv_at hl 1 rfl) ?_
  refine va_get (D := (dC, dI)) (ci := 11) (v := .ref (a 2)) (C := RX10) (T := TX10) (N := 11) hx hb hts hi_dm_X10_amount_X10 hown hK hP 0 rfl rfl 1 (by decide) (hts (.fieldLink RX10 15 "TimeMachine$Things" "opening" "[I") (List.mem_of_getElem? (i := 1) rfl)) (fun _ h9 => h9) rfl dX10_amount_12 ?_
  refine lv_iload_n hx hb dX10_amount_15 rfl (lv_at hl 2 rfl) ?_
  refine lv_iconst (v := 5) hx hb dX10_amount_16 (by decide) ?_
  refine lv_imul hx hb dX10_amount_17 ?_
  refine lv_iconst (v := 2) hx hb dX10_amount_18 (by decide) ?_
  refine lv_iadd hx hb dX10_amount_19 ?_
  obtain ⟨i3, h⟩ := nd_ck_e h
  refine va_iald (i := ((v0 * 5) + 2)) hx hb hK hP 2 1 rfl rfl i3 dX10_amount_20 ?_
  refine lv_topi (fun z4 ez4 => ?_)
  have h := nd_at h ez4
  refine lv_istore_n (lv' := [(3, .int z4), (2, .int z2), (0, .ref (a 0)), (1, .int v0)]) hx hb dX10_amount_21 rfl hl (by decide) rfl (fun ls hl => ?_)
  refine lv_iload_n hx hb dX10_amount_22 rfl (lv_at hl 1 rfl) ?_
  refine lv_iconst (v := 4) hx hb dX10_amount_23 (by decide) ?_
  refine lv_icmp_ne (tgt := 32) hx hb dX10_amount_24 (by decide) (fun c5 => ?_) (fun c5 => ?_)
  · have h := nd_neg h c5
    refine lv_iload_n hx hb dX10_amount_32 rfl (lv_at hl 1 rfl) ?_
    refine lv_iconst (v := 3) hx hb dX10_amount_33 (by decide) ?_
    refine lv_icmp_ne (tgt := 50) hx hb dX10_amount_34 (by decide) (fun c6 => ?_) (fun c6 => ?_)
    · have h := nd_neg h c6
      refine lv_aload_n hx hb dX10_amount_50 rfl (lv_at hl 2 rfl) ?_
      refine va_get (D := (dC, dI)) (ci := 11) (v := .ref (a 3)) (C := RX10) (T := TX10) (N := 11) hx hb hts hi_dm_X10_amount_X10 hown hK hP 0 rfl rfl 2 (by decide) (hts (.fieldLink RX10 18 "TimeMachine$Things" "pipe" "[I") (List.mem_of_getElem? (i := 2) rfl)) (fun _ h9 => h9) rfl dX10_amount_51 ?_
      refine lv_iload_n hx hb dX10_amount_54 rfl (lv_at hl 0 rfl) ?_
      refine lv_iconst (v := 4) hx hb dX10_amount_55 (by decide) ?_
      refine lv_imul hx hb dX10_amount_56 ?_
      refine lv_iconst (v := 0) hx hb dX10_amount_57 (by decide) ?_
      refine lv_iadd hx hb dX10_amount_58 ?_
      obtain ⟨i7, h⟩ := nd_ck_e h
      refine va_iald (i := ((z4 * 4) + 0)) hx hb hK hP 3 2 rfl rfl i7 dX10_amount_59 ?_
      exact (db_X10_amount_60 C K) ((sR s0 2 (Int32.toNatClampNeg ((z4 * 4) + 0)))) s0 _ _ _ h hP hD hS (lv_sub hl [] rfl)
    · have h := nd_pos h c6
      refine lv_aload_n hx hb dX10_amount_37 rfl (lv_at hl 2 rfl) ?_
      refine va_get (D := (dC, dI)) (ci := 11) (v := .ref (a 5)) (C := RX10) (T := TX10) (N := 11) hx hb hts hi_dm_X10_amount_X10 hown hK hP 0 rfl rfl 4 (by decide) (hts (.fieldLink RX10 25 "TimeMachine$Things" "file" "[I") (List.mem_of_getElem? (i := 3) rfl)) (fun _ h9 => h9) rfl dX10_amount_38 ?_
      refine lv_iload_n hx hb dX10_amount_41 rfl (lv_at hl 0 rfl) ?_
      refine lv_iconst (v := 3) hx hb dX10_amount_42 (by decide) ?_
      refine lv_imul hx hb dX10_amount_43 ?_
      refine lv_iconst (v := 0) hx hb dX10_amount_44 (by decide) ?_
      refine lv_iadd hx hb dX10_amount_45 ?_
      obtain ⟨i8, h⟩ := nd_ck_e h
      refine va_iald (i := ((z4 * 3) + 0)) hx hb hK hP 5 4 rfl rfl i8 dX10_amount_46 ?_
      refine lv_goto (tgt := 60) hx hb dX10_amount_47 (by decide) ?_
      exact (db_X10_amount_60 C K) ((sR s0 4 (Int32.toNatClampNeg ((z4 * 3) + 0)))) s0 _ _ _ h hP hD hS (lv_sub hl [] rfl)
  · have h := nd_pos h c5
    refine lv_aload_n hx hb dX10_amount_27 rfl (lv_at hl 2 rfl) ?_
    refine va_get (D := (dC, dI)) (ci := 11) (v := .int (sI s0 0)) (C := RX10) (T := TX10) (N := 11) hx hb hts hi_dm_X10_amount_X10 hown hK hP 0 rfl rfl 8 (by decide) (hts (.fieldLink RX10 46 "TimeMachine$Things" "typedBytes" "I") (List.mem_of_getElem? (i := 4) rfl)) (fun _ h9 => h9) rfl dX10_amount_28 ?_
    exact K _ _ _ _ _ _ dX10_amount_31 rfl (Option.some.inj h).symm hP hD hS
set_option maxHeartbeats 40000000 in
set_option maxRecDepth 100000 in
theorem dm_X10_amount (l : Launch) (hlt : l.stackTraces = false) (dC : Nat → ClassId) (dI : Nat → Nat → Nat) (a : Nat → Nat) (ac : Nat → ClassId) (n : Nat) (v0 : Int32) (s0 : St) {r : Int32 × (St)} (h : df_X10_amount n v0 s0 = some r) (sz : Nat) : Met l yX10_amount ow_dm_X10_amount ({ frames := 0, cells := 0, slots := 0, locals := 0 }) (va_Pc [.ref (a 0), .int v0] (fun U => U.heap.size = sz ∧ va_P (dC, dI) vwCl (dw_X10 a ac s0) U.heap ∧ va_K (dC, dI) vwCl (dk_X10 ac) U ∧ va_D (fun _ => True) (dw_X10 a ac s0) ∧ nv_E dI (va_A (dw_X10 a ac s0) sz) U)) (va_Qi (fun x _ => x = r.1) (fun (_ : Unit) t => va_P (dC, dI) vwCl (dw_X10 a ac r.2) t.heap ∧ va_K (dC, dI) vwCl (dk_X10 ac) t ∧ va_D (va_A (dw_X10 a ac s0) sz) (dw_X10 a ac r.2)) (va_A (dw_X10 a ac s0) sz)) 0 0 (va_A (dw_X10 a ac s0) sz) := by
  refine Met.ofW (cc := cX10_amount) (maxL := 4) (ret := (some .int)) (by decide) rfl ?_
  intro p e s m args below meth c s₁ B hml hv
  obtain ⟨rfl, hsz, hP, hK, hD0, hN⟩ := hv
  have hx := B.exec
  have hb := B.bytes
  have hr := B.returns
  have hts := atoms_spec (ws := ow_dm_X10_amount) B.pre
  have hown : s.vm.findClass RX10 = some m.cls := findClass_of_methodNamed B.named
  have hlocks := B.notSynchronized
  subst hsz
  have hD := hD0.self (sz := s.heap.size)
  generalize hAe : va_A (dw_X10 a ac s0) s.heap.size = A at hD hN ⊢
  have hA : ∀ q : Nat, s.heap.size ≤ q → A q := fun q h => by rw [← hAe]; exact Or.inr h
  have hl := lv_entry ([.ref (a 0), .int v0]) (n := 4) (Nat.le_of_ble_eq_true rfl)
  rw [lg_entry_eq]
  generalize (lg_sl ([.ref (a 0), .int v0]) ++ List.replicate (4 - (lg_sl ([.ref (a 0), .int v0])).length) Slot.unset).toArray = ls at hl ⊢
  have hl : lv_has ls 4 [(0, .ref (a 0)), (1, .int v0)] := hl
  exact db_X10_amount_0 (dC := dC) (dI := dI) (a := a) (ac := ac) (n := n) (r := r) ⟨hlt, hx, hb, hml, hown, hts, hN, hA, hK⟩ (fun pc v τ H locs ls d z er hP hD hS => by subst er; exact W.zret (v := v) hx hb hr z (fun t ht hW => ⟨⟨v, (), rfl, rfl, by rw [ht]; exact hP, va_K.moved hW.alike hK, hD⟩, hS.F ht⟩) hS.2.2 d) v0 s0 _ _ _ h hP hD va_S.rf (lv_sub hl [0, 1] rfl)
def ow_dm_X10_byteOf : List Cond := Cond.code yX10_byteOf cX10_byteOf 4 (some .int) :: ([Cond.fieldLink RX10 15 "TimeMachine$Things" "opening" "[I", Cond.fieldLink RX10 28 "TimeMachine$Things" "filed" "[B", Cond.fieldLink RX10 34 "TimeMachine$Things" "typed" "[B", Cond.fieldLink RX10 21 "TimeMachine$Things" "piped" "[B", Cond.fieldLink RX10 18 "TimeMachine$Things" "pipe" "[I"] ++ (u_ws RX10 TX10 11 ++ []))
theorem gd_dm_X10_byteOf : ∀ w ∈ ow_dm_X10_byteOf, (w.onTables && w.keeps) = true ∨ ∃ ty, w = Cond.arrayClass ty := List.forall_mem_cons.mpr ⟨good_of_word rfl, List.forall_mem_append.mpr ⟨fun w h => good_of_word (List.all_eq_true.mp (by decide +kernel) w h), List.forall_mem_append.mpr ⟨gu_X10, fun _ h => nomatch h⟩⟩⟩
theorem hi_dm_X10_byteOf_X10 : ∀ w ∈ u_ws RX10 TX10 11, w ∈ ow_dm_X10_byteOf := fun w h => List.mem_cons_of_mem _ (List.mem_append_right _ (List.mem_append_left _ h))
def dj_X10_byteOf_0 (p : Program) (l : Launch) (e : Env) (s : State) (m : MethodId) (args : Array Value) (below : List Frame) (meth : Method) (c : Code) (Q : State → Prop) (A : Nat → Prop) (dC : Nat → ClassId) (dI : Nat → Nat → Nat) (a : Nat → Nat) (ac : Nat → ClassId) (g : Int32 → Int32 → (St) → Option (Int32 × (St))) (r : Int32 × (St)) : Prop := ∀ (v0 : Int32) (v1 : Int32) (s0 : St) (H : Heap) (locs : List Loc) (ls : Array Slot), g v0 v1 s0 = some r → va_P (dC, dI) vwCl (dw_X10 a ac s0) H → va_D A (dw_X10 a ac s0) → va_S A s.heap H locs → lv_has ls 4 [(0, .ref (a 0)), (1, .int v0), (2, .int v1)] → W p l e (headSpec ow_dm_X10_byteOf ({ frames := 0, cells := 0, slots := 0, locals := 0 })).room s m args below meth c H locs 0 0 Q (F0 m 0 ls [])
set_option maxHeartbeats 40000000 in
set_option maxRecDepth 100000 in
theorem db_X10_byteOf_0 {p : Program} {l : Launch} {e : Env} {s : State} {m : MethodId} {args : Array Value} {below : List Frame} {meth : Method} {c : Code} {Q : State → Prop} {A : Nat → Prop} {dC : Nat → ClassId} {dI : Nat → Nat → Nat} {a : Nat → Nat} {ac : Nat → ClassId} {n : Nat} {r : Int32 × (St)} (C : nd_C p l s m args c A (dC, dI) cX10_byteOf 4 RX10 ow_dm_X10_byteOf (dk_X10 ac)) (K : nd_Ki p l e (headSpec ow_dm_X10_byteOf ({ frames := 0, cells := 0, slots := 0, locals := 0 })).room s m args below meth c Q A (dC, dI) cX10_byteOf .int (St) (dw_X10 a ac) r) : dj_X10_byteOf_0 p l e s m args below meth c Q A dC dI a ac (df_X10_byteOf_0 n) r := by
  obtain ⟨hlt, hx, hb, hml, hown, hts, hN, hA, hK⟩ := id C
  intro v0 v1 s0 H locs ls h hP hD hS hl
  unfold df_X10_byteOf_0 at h
  refine lv_aload_n hx hb dX10_byteOf_0 rfl (lv_at hl 0 rfl) ?_
  refine va_get (D := (dC, dI)) (ci := 11) (v := .ref (a 2)) (C := RX10) (T := TX10) (N := 11) hx hb hts hi_dm_X10_byteOf_X10 hown hK hP 0 rfl rfl 1 (by decide) (hts (.fieldLink RX10 15 "TimeMachine$Things" "opening" "[I") (List.mem_of_getElem? (i := 1) rfl)) (fun _ h9 => h9) rfl dX10_byteOf_1 ?_
  refine lv_iload_n hx hb dX10_byteOf_4 rfl (lv_at hl 1 rfl) ?_
  refine lv_iconst (v := 5) hx hb dX10_byteOf_5 (by decide) ?_
  refine lv_imul hx hb dX10_byteOf_6 ?_
  refine lv_iconst (v := 2) hx hb dX10_byteOf_7 (by decide) ?_
  refine lv_iadd hx hb dX10_byteOf_8 ?_
  obtain ⟨i1, h⟩ := nd_ck_e h
  refine va_iald (i := ((v0 * 5) + 2)) hx hb hK hP 2 1 rfl rfl i1 dX10_byteOf_9 ?_
  refine lv_topi (fun z2 ez2 => ?_)
  have h := nd_at h ez2
  refine lv_istore_n (lv' := [(3, .int z2), (0, .ref (a 0)), (1, .int v0), (2, .int v1)]) hx hb dX10_byteOf_10 rfl hl (by decide) rfl (fun ls hl => ?_)
  refine lv_aload_n hx hb dX10_byteOf_11 rfl (lv_at hl 1 rfl) ?_
  refine va_get (D := (dC, dI)) (ci := 11) (v := .ref (a 2)) (C := RX10) (T := TX10) (N := 11) hx hb hts hi_dm_X10_byteOf_X10 hown hK hP 0 rfl rfl 1 (by decide) (hts (.fieldLink RX10 15 "TimeMachine$Things" "opening" "[I") (List.mem_of_getElem? (i := 1) rfl)) (fun _ h9 => h9) rfl dX10_byteOf_12 ?_
  refine lv_iload_n hx hb dX10_byteOf_15 rfl (lv_at hl 2 rfl) ?_
  refine lv_iconst (v := 5) hx hb dX10_byteOf_16 (by decide) ?_
  refine lv_imul hx hb dX10_byteOf_17 ?_
  refine lv_iconst (v := 0) hx hb dX10_byteOf_18 (by decide) ?_
  refine lv_iadd hx hb dX10_byteOf_19 ?_
  obtain ⟨i3, h⟩ := nd_ck_e h
  refine va_iald (i := ((v0 * 5) + 0)) hx hb hK hP 2 1 rfl rfl i3 dX10_byteOf_20 ?_
  by_cases c4 : (sR s0 1 (Int32.toNatClampNeg ((v0 * 5) + 0))) = 3
  · have h := nd_pos h c4
    refine lv_lookup (off := 42) (tgt := 63) hx hb dX10_byteOf_21 (by decide) (by rw [c4]; decide) (by decide) ?_
    refine lv_aload_n hx hb dX10_byteOf_63 rfl (lv_at hl 1 rfl) ?_
    refine va_get (D := (dC, dI)) (ci := 11) (v := .ref (a 6)) (C := RX10) (T := TX10) (N := 11) hx hb hts hi_dm_X10_byteOf_X10 hown hK hP 0 rfl rfl 5 (by decide) (hts (.fieldLink RX10 28 "TimeMachine$Things" "filed" "[B") (List.mem_of_getElem? (i := 2) rfl)) (fun _ h9 => h9) rfl dX10_byteOf_64 ?_
    refine lv_iload_n hx hb dX10_byteOf_67 rfl (lv_at hl 0 rfl) ?_
    refine lv_sipush (v := 512) hx hb dX10_byteOf_68 (by decide) ?_
    refine lv_imul hx hb dX10_byteOf_71 ?_
    refine lv_iload_n hx hb dX10_byteOf_72 rfl (lv_at hl 3 rfl) ?_
    refine lv_sipush (v := 511) hx hb dX10_byteOf_73 (by decide) ?_
    refine lv_iand hx hb dX10_byteOf_76 ?_
    refine lv_iadd hx hb dX10_byteOf_77 ?_
    obtain ⟨i5, h⟩ := nd_ck_e h
    refine va_bald (i := ((z2 * 512) + (v1 &&& 511))) hx hb hK hP 6 5 rfl rfl i5 dX10_byteOf_78 ?_
    refine lv_sipush (v := 255) hx hb dX10_byteOf_79 (by decide) ?_
    refine lv_iand hx hb dX10_byteOf_82 ?_
    exact K _ _ _ _ _ _ dX10_byteOf_83 rfl (Option.some.inj h).symm hP hD hS
  have h := nd_neg h c4
  by_cases c6 : (sR s0 1 (Int32.toNatClampNeg ((v0 * 5) + 0))) = 4
  · have h := nd_pos h c6
    refine lv_lookup (off := 27) (tgt := 48) hx hb dX10_byteOf_21 (by decide) (by rw [c6]; decide) (by decide) ?_
    refine lv_aload_n hx hb dX10_byteOf_48 rfl (lv_at hl 1 rfl) ?_
    refine va_get (D := (dC, dI)) (ci := 11) (v := .ref (a 8)) (C := RX10) (T := TX10) (N := 11) hx hb hts hi_dm_X10_byteOf_X10 hown hK hP 0 rfl rfl 7 (by decide) (hts (.fieldLink RX10 34 "TimeMachine$Things" "typed" "[B") (List.mem_of_getElem? (i := 3) rfl)) (fun _ h9 => h9) rfl dX10_byteOf_49 ?_
    refine lv_iload_n hx hb dX10_byteOf_52 rfl (lv_at hl 3 rfl) ?_
    refine lv_sipush (v := 511) hx hb dX10_byteOf_53 (by decide) ?_
    refine lv_iand hx hb dX10_byteOf_56 ?_
    obtain ⟨i7, h⟩ := nd_ck_e h
    refine va_bald (i := (v1 &&& 511)) hx hb hK hP 8 7 rfl rfl i7 dX10_byteOf_57 ?_
    refine lv_sipush (v := 255) hx hb dX10_byteOf_58 (by decide) ?_
    refine lv_iand hx hb dX10_byteOf_61 ?_
    exact K _ _ _ _ _ _ dX10_byteOf_62 rfl (Option.some.inj h).symm hP hD hS
  have h := nd_neg h c6
  refine lv_lookup (off := 63) (tgt := 84) hx hb dX10_byteOf_21 (by decide) (show Op.lookupswitch.offset [(3, 42), (4, 27)] 63 ((sR s0 1 (Int32.toNatClampNeg ((v0 * 5) + 0))) : Int32).toInt = 63 by rw [lv_osw c4 (by decide), lv_osw c6 (by decide)] <;> rfl) (by decide) ?_
  refine lv_aload_n hx hb dX10_byteOf_84 rfl (lv_at hl 1 rfl) ?_
  refine va_get (D := (dC, dI)) (ci := 11) (v := .ref (a 4)) (C := RX10) (T := TX10) (N := 11) hx hb hts hi_dm_X10_byteOf_X10 hown hK hP 0 rfl rfl 3 (by decide) (hts (.fieldLink RX10 21 "TimeMachine$Things" "piped" "[B") (List.mem_of_getElem? (i := 4) rfl)) (fun _ h9 => h9) rfl dX10_byteOf_85 ?_
  refine lv_iload_n hx hb dX10_byteOf_88 rfl (lv_at hl 0 rfl) ?_
  refine lv_sipush (v := 512) hx hb dX10_byteOf_89 (by decide) ?_
  refine lv_imul hx hb dX10_byteOf_92 ?_
  refine lv_aload_n hx hb dX10_byteOf_93 rfl (lv_at hl 1 rfl) ?_
  refine va_get (D := (dC, dI)) (ci := 11) (v := .ref (a 3)) (C := RX10) (T := TX10) (N := 11) hx hb hts hi_dm_X10_byteOf_X10 hown hK hP 0 rfl rfl 2 (by decide) (hts (.fieldLink RX10 18 "TimeMachine$Things" "pipe" "[I") (List.mem_of_getElem? (i := 5) rfl)) (fun _ h9 => h9) rfl dX10_byteOf_94 ?_
  refine lv_iload_n hx hb dX10_byteOf_97 rfl (lv_at hl 0 rfl) ?_
  refine lv_iconst (v := 4) hx hb dX10_byteOf_98 (by decide) ?_
  refine lv_imul hx hb dX10_byteOf_99 ?_
  refine lv_iconst (v := 3) hx hb dX10_byteOf_100 (by decide) ?_
  refine lv_iadd hx hb dX10_byteOf_101 ?_
  obtain ⟨i8, h⟩ := nd_ck_e h
  refine va_iald (i := ((z2 * 4) + 3)) hx hb hK hP 3 2 rfl rfl i8 dX10_byteOf_102 ?_
  refine lv_iload_n hx hb dX10_byteOf_103 rfl (lv_at hl 3 rfl) ?_
  refine lv_iadd hx hb dX10_byteOf_104 ?_
  refine lv_sipush (v := 511) hx hb dX10_byteOf_105 (by decide) ?_
  refine lv_iand hx hb dX10_byteOf_108 ?_
  refine lv_iadd hx hb dX10_byteOf_109 ?_
  obtain ⟨i9, h⟩ := nd_ck_e h
  refine va_bald (i := ((z2 * 512) + (((sR s0 2 (Int32.toNatClampNeg ((z2 * 4) + 3))) + v1) &&& 511))) hx hb hK hP 4 3 rfl rfl i9 dX10_byteOf_110 ?_
  refine lv_sipush (v := 255) hx hb dX10_byteOf_111 (by decide) ?_
  refine lv_iand hx hb dX10_byteOf_114 ?_
  exact K _ _ _ _ _ _ dX10_byteOf_115 rfl (Option.some.inj h).symm hP hD hS
set_option maxHeartbeats 40000000 in
set_option maxRecDepth 100000 in
theorem dm_X10_byteOf (l : Launch) (hlt : l.stackTraces = false) (dC : Nat → ClassId) (dI : Nat → Nat → Nat) (a : Nat → Nat) (ac : Nat → ClassId) (n : Nat) (v0 : Int32) (v1 : Int32) (s0 : St) {r : Int32 × (St)} (h : df_X10_byteOf n v0 v1 s0 = some r) (sz : Nat) : Met l yX10_byteOf ow_dm_X10_byteOf ({ frames := 0, cells := 0, slots := 0, locals := 0 }) (va_Pc [.ref (a 0), .int v0, .int v1] (fun U => U.heap.size = sz ∧ va_P (dC, dI) vwCl (dw_X10 a ac s0) U.heap ∧ va_K (dC, dI) vwCl (dk_X10 ac) U ∧ va_D (fun _ => True) (dw_X10 a ac s0) ∧ nv_E dI (va_A (dw_X10 a ac s0) sz) U)) (va_Qi (fun x _ => x = r.1) (fun (_ : Unit) t => va_P (dC, dI) vwCl (dw_X10 a ac r.2) t.heap ∧ va_K (dC, dI) vwCl (dk_X10 ac) t ∧ va_D (va_A (dw_X10 a ac s0) sz) (dw_X10 a ac r.2)) (va_A (dw_X10 a ac s0) sz)) 0 0 (va_A (dw_X10 a ac s0) sz) := by
  refine Met.ofW (cc := cX10_byteOf) (maxL := 4) (ret := (some .int)) (by decide) rfl ?_
  intro p e s m args below meth c s₁ B hml hv
  obtain ⟨rfl, hsz, hP, hK, hD0, hN⟩ := hv
  have hx := B.exec
  have hb := B.bytes
  have hr := B.returns
  have hts := atoms_spec (ws := ow_dm_X10_byteOf) B.pre
  have hown : s.vm.findClass RX10 = some m.cls := findClass_of_methodNamed B.named
  have hlocks := B.notSynchronized
  subst hsz
  have hD := hD0.self (sz := s.heap.size)
  generalize hAe : va_A (dw_X10 a ac s0) s.heap.size = A at hD hN ⊢
  have hA : ∀ q : Nat, s.heap.size ≤ q → A q := fun q h => by rw [← hAe]; exact Or.inr h
  have hl := lv_entry ([.ref (a 0), .int v0, .int v1]) (n := 4) (Nat.le_of_ble_eq_true rfl)
  rw [lg_entry_eq]
  generalize (lg_sl ([.ref (a 0), .int v0, .int v1]) ++ List.replicate (4 - (lg_sl ([.ref (a 0), .int v0, .int v1])).length) Slot.unset).toArray = ls at hl ⊢
  have hl : lv_has ls 4 [(0, .ref (a 0)), (1, .int v0), (2, .int v1)] := hl
  exact db_X10_byteOf_0 (dC := dC) (dI := dI) (a := a) (ac := ac) (n := n) (r := r) ⟨hlt, hx, hb, hml, hown, hts, hN, hA, hK⟩ (fun pc v τ H locs ls d z er hP hD hS => by subst er; exact W.zret (v := v) hx hb hr z (fun t ht hW => ⟨⟨v, (), rfl, rfl, by rw [ht]; exact hP, va_K.moved hW.alike hK, hD⟩, hS.F ht⟩) hS.2.2 d) v0 v1 s0 _ _ _ h hP hD va_S.rf (lv_sub hl [0, 1, 2] rfl)
def ow_dm_X10_told : List Cond := Cond.code yX10_told cX10_told 3 (some .int) :: ([Cond.methodLink RX10 74 yX10_of, Cond.instanceMethod yX10_of, Cond.selects RX10 yX10_of yX10_of, Cond.initialized RX10, Cond.methodLink RX10 83 yX10_amount, Cond.instanceMethod yX10_amount, Cond.selects RX10 yX10_amount yX10_amount] ++ (ow_dm_X10_of ++ (ow_dm_X10_amount ++ [])))
theorem gd_dm_X10_told : ∀ w ∈ ow_dm_X10_told, (w.onTables && w.keeps) = true ∨ ∃ ty, w = Cond.arrayClass ty := List.forall_mem_cons.mpr ⟨good_of_word rfl, List.forall_mem_append.mpr ⟨fun w h => good_of_word (List.all_eq_true.mp (by decide +kernel) w h), List.forall_mem_append.mpr ⟨gd_dm_X10_of, List.forall_mem_append.mpr ⟨gd_dm_X10_amount, fun _ h => nomatch h⟩⟩⟩⟩
theorem gi_dm_X10_told_0 : GoodIn ow_dm_X10_told (wsV RX10 74 RX10 yX10_of ow_dm_X10_of) := goodIn_app (goodIn_of _ (by decide +kernel)) (fun w h => ⟨List.mem_cons_of_mem _ (List.mem_append_right _ (List.mem_append_left _ h)), gd_dm_X10_of w h⟩)
theorem gi_dm_X10_told_1 : GoodIn ow_dm_X10_told (wsV RX10 83 RX10 yX10_amount ow_dm_X10_amount) := goodIn_app (goodIn_of _ (by decide +kernel)) (fun w h => ⟨List.mem_cons_of_mem _ (List.mem_append_right _ (List.mem_append_right _ (List.mem_append_left _ h))), gd_dm_X10_amount w h⟩)
def dj_X10_told_0 (p : Program) (l : Launch) (e : Env) (s : State) (m : MethodId) (args : Array Value) (below : List Frame) (meth : Method) (c : Code) (Q : State → Prop) (A : Nat → Prop) (dC : Nat → ClassId) (dI : Nat → Nat → Nat) (a : Nat → Nat) (ac : Nat → ClassId) (g : Int32 → Int32 → (St) → Option (Int32 × (St))) (r : Int32 × (St)) : Prop := ∀ (v0 : Int32) (v1 : Int32) (s0 : St) (H : Heap) (locs : List Loc) (ls : Array Slot), g v0 v1 s0 = some r → va_P (dC, dI) vwCl (dw_X10 a ac s0) H → va_D A (dw_X10 a ac s0) → va_S A s.heap H locs → lv_has ls 3 [(0, .ref (a 0)), (1, .int v0), (2, .int v1)] → W p l e (headSpec ow_dm_X10_told ({ frames := 1, cells := 0, slots := 0, locals := 23 })).room s m args below meth c H locs 0 0 Q (F0 m 0 ls [])
set_option maxHeartbeats 40000000 in
set_option maxRecDepth 100000 in
theorem db_X10_told_0 {p : Program} {l : Launch} {e : Env} {s : State} {m : MethodId} {args : Array Value} {below : List Frame} {meth : Method} {c : Code} {Q : State → Prop} {A : Nat → Prop} {dC : Nat → ClassId} {dI : Nat → Nat → Nat} {a : Nat → Nat} {ac : Nat → ClassId} {n : Nat} {r : Int32 × (St)} (C : nd_C p l s m args c A (dC, dI) cX10_told 3 RX10 ow_dm_X10_told (dk_X10 ac)) (K : nd_Ki p l e (headSpec ow_dm_X10_told ({ frames := 1, cells := 0, slots := 0, locals := 23 })).room s m args below meth c Q A (dC, dI) cX10_told .int (St) (dw_X10 a ac) r) : dj_X10_told_0 p l e s m args below meth c Q A dC dI a ac (df_X10_told_0 n) r := by
  obtain ⟨hlt, hx, hb, hml, hown, hts, hN, hA, hK⟩ := id C
  intro v0 v1 s0 H locs ls h hP hD hS hl
  unfold df_X10_told_0 at h
  refine lv_iload_n hx hb dX10_told_0 rfl (lv_at hl 2 rfl) ?_
  by_cases c1 : v1 = 1
  · have h := nd_pos h c1
    refine lv_lookup (off := 27) (tgt := 28) hx hb dX10_told_1 (by decide) (by rw [c1]; decide) (by decide) ?_
    refine lv_aload_n hx hb dX10_told_28 rfl (lv_at hl 0 rfl) ?_
    refine lv_iload_n hx hb dX10_told_29 rfl (lv_at hl 1 rfl) ?_
    refine lv_iconst (v := 1) hx hb dX10_told_30 (by decide) ?_
    obtain ⟨q2, s3, hq, h⟩ := nd_b2_e h
    have hPc := hP
    have hDc := hD
    have hKc := hK
    have hFc := nd_rs hD hS hA
    refine nd_cVi (As := [.int v0, .int 1]) (rest := []) (q := q2) (w' := dw_X10 a ac s3) ⟨hx, hb, hml, hown, hts⟩ (fun sz => dm_X10_of l hlt dC dI a ac n (v0) (1) s0 hq sz) (cwV 2 hts gi_dm_X10_told_0 rfl rfl rfl (by decide +kernel) ⟨Nat.le_of_ble_eq_true rfl, Nat.le_of_ble_eq_true rfl⟩) hPc hDc hKc hS hA hN (va_recv hKc hPc (ci := 11) (q0 := 0) rfl rfl) rfl hl.1 rfl (Nat.le_of_ble_eq_true rfl) dX10_told_31 (fun H locs hP1 hD1 hk1 hS => ?_)
    have hP := hP1
    have hD := hD1.weaken (fun k q _ h => hFc q.1 h)
    exact K _ _ _ _ _ _ dX10_told_34 rfl (Option.some.inj h).symm hP hD hS
  have h := nd_neg h c1
  by_cases c5 : v1 = 2
  · have h := nd_pos h c5
    refine lv_lookup (off := 34) (tgt := 35) hx hb dX10_told_1 (by decide) (by rw [c5]; decide) (by decide) ?_
    refine lv_aload_n hx hb dX10_told_35 rfl (lv_at hl 0 rfl) ?_
    refine lv_iload_n hx hb dX10_told_36 rfl (lv_at hl 1 rfl) ?_
    obtain ⟨q6, s7, hq, h⟩ := nd_b2_e h
    have hPc := hP
    have hDc := hD
    have hKc := hK
    have hFc := nd_rs hD hS hA
    refine nd_cVi (As := [.int v0]) (rest := []) (q := q6) (w' := dw_X10 a ac s7) ⟨hx, hb, hml, hown, hts⟩ (fun sz => dm_X10_amount l hlt dC dI a ac n (v0) s0 hq sz) (cwV 1 hts gi_dm_X10_told_1 rfl rfl rfl (by decide +kernel) ⟨Nat.le_of_ble_eq_true rfl, Nat.le_of_ble_eq_true rfl⟩) hPc hDc hKc hS hA hN (va_recv hKc hPc (ci := 11) (q0 := 0) rfl rfl) rfl hl.1 rfl (Nat.le_of_ble_eq_true rfl) dX10_told_37 (fun H locs hP1 hD1 hk1 hS => ?_)
    have hP := hP1
    have hD := hD1.weaken (fun k q _ h => hFc q.1 h)
    exact K _ _ _ _ _ _ dX10_told_40 rfl (Option.some.inj h).symm hP hD hS
  have h := nd_neg h c5
  refine lv_lookup (off := 40) (tgt := 41) hx hb dX10_told_1 (by decide) (show Op.lookupswitch.offset [(1, 27), (2, 34)] 40 (v1 : Int32).toInt = 40 by rw [lv_osw c1 (by decide), lv_osw c5 (by decide)] <;> rfl) (by decide) ?_
  refine lv_aload_n hx hb dX10_told_41 rfl (lv_at hl 0 rfl) ?_
  refine lv_iload_n hx hb dX10_told_42 rfl (lv_at hl 1 rfl) ?_
  refine lv_iload_n hx hb dX10_told_43 rfl (lv_at hl 2 rfl) ?_
  obtain ⟨q9, s10, hq, h⟩ := nd_b2_e h
  have hPc := hP
  have hDc := hD
  have hKc := hK
  have hFc := nd_rs hD hS hA
  refine nd_cVi (As := [.int v0, .int v1]) (rest := []) (q := q9) (w' := dw_X10 a ac s10) ⟨hx, hb, hml, hown, hts⟩ (fun sz => dm_X10_of l hlt dC dI a ac n (v0) (v1) s0 hq sz) (cwV 2 hts gi_dm_X10_told_0 rfl rfl rfl (by decide +kernel) ⟨Nat.le_of_ble_eq_true rfl, Nat.le_of_ble_eq_true rfl⟩) hPc hDc hKc hS hA hN (va_recv hKc hPc (ci := 11) (q0 := 0) rfl rfl) rfl hl.1 rfl (Nat.le_of_ble_eq_true rfl) dX10_told_44 (fun H locs hP1 hD1 hk1 hS => ?_)
  have hP := hP1
  have hD := hD1.weaken (fun k q _ h => hFc q.1 h)
  exact K _ _ _ _ _ _ dX10_told_47 rfl (Option.some.inj h).symm hP hD hS
set_option maxHeartbeats 40000000 in
set_option maxRecDepth 100000 in
theorem dm_X10_told (l : Launch) (hlt : l.stackTraces = false) (dC : Nat → ClassId) (dI : Nat → Nat → Nat) (a : Nat → Nat) (ac : Nat → ClassId) (n : Nat) (v0 : Int32) (v1 : Int32) (s0 : St) {r : Int32 × (St)} (h : df_X10_told n v0 v1 s0 = some r) (sz : Nat) : Met l yX10_told ow_dm_X10_told ({ frames := 1, cells := 0, slots := 0, locals := 23 }) (va_Pc [.ref (a 0), .int v0, .int v1] (fun U => U.heap.size = sz ∧ va_P (dC, dI) vwCl (dw_X10 a ac s0) U.heap ∧ va_K (dC, dI) vwCl (dk_X10 ac) U ∧ va_D (fun _ => True) (dw_X10 a ac s0) ∧ nv_E dI (va_A (dw_X10 a ac s0) sz) U)) (va_Qi (fun x _ => x = r.1) (fun (_ : Unit) t => va_P (dC, dI) vwCl (dw_X10 a ac r.2) t.heap ∧ va_K (dC, dI) vwCl (dk_X10 ac) t ∧ va_D (va_A (dw_X10 a ac s0) sz) (dw_X10 a ac r.2)) (va_A (dw_X10 a ac s0) sz)) 0 0 (va_A (dw_X10 a ac s0) sz) := by
  refine Met.ofW (cc := cX10_told) (maxL := 3) (ret := (some .int)) (by decide) rfl ?_
  intro p e s m args below meth c s₁ B hml hv
  obtain ⟨rfl, hsz, hP, hK, hD0, hN⟩ := hv
  have hx := B.exec
  have hb := B.bytes
  have hr := B.returns
  have hts := atoms_spec (ws := ow_dm_X10_told) B.pre
  have hown : s.vm.findClass RX10 = some m.cls := findClass_of_methodNamed B.named
  have hlocks := B.notSynchronized
  subst hsz
  have hD := hD0.self (sz := s.heap.size)
  generalize hAe : va_A (dw_X10 a ac s0) s.heap.size = A at hD hN ⊢
  have hA : ∀ q : Nat, s.heap.size ≤ q → A q := fun q h => by rw [← hAe]; exact Or.inr h
  have hl := lv_entry ([.ref (a 0), .int v0, .int v1]) (n := 3) (Nat.le_of_ble_eq_true rfl)
  rw [lg_entry_eq]
  generalize (lg_sl ([.ref (a 0), .int v0, .int v1]) ++ List.replicate (3 - (lg_sl ([.ref (a 0), .int v0, .int v1])).length) Slot.unset).toArray = ls at hl ⊢
  have hl : lv_has ls 3 [(0, .ref (a 0)), (1, .int v0), (2, .int v1)] := hl
  exact db_X10_told_0 (dC := dC) (dI := dI) (a := a) (ac := ac) (n := n) (r := r) ⟨hlt, hx, hb, hml, hown, hts, hN, hA, hK⟩ (fun pc v τ H locs ls d z er hP hD hS => by subst er; exact W.zret (v := v) hx hb hr z (fun t ht hW => ⟨⟨v, (), rfl, rfl, by rw [ht]; exact hP, va_K.moved hW.alike hK, hD⟩, hS.F ht⟩) hS.2.2 d) v0 v1 s0 _ _ _ h hP hD va_S.rf (lv_sub hl [0, 1, 2] rfl)
def ow_dm_X10_readWaits : List Cond := Cond.code yX10_readWaits cX10_readWaits 5 (some .boolean) :: ([Cond.fieldLink RX10 15 "TimeMachine$Things" "opening" "[I", Cond.fieldLink RX10 18 "TimeMachine$Things" "pipe" "[I", Cond.fieldLink RX10 46 "TimeMachine$Things" "typedBytes" "I"] ++ (u_ws RX10 TX10 11 ++ []))
theorem gd_dm_X10_readWaits : ∀ w ∈ ow_dm_X10_readWaits, (w.onTables && w.keeps) = true ∨ ∃ ty, w = Cond.arrayClass ty := List.forall_mem_cons.mpr ⟨good_of_word rfl, List.forall_mem_append.mpr ⟨fun w h => good_of_word (List.all_eq_true.mp (by decide +kernel) w h), List.forall_mem_append.mpr ⟨gu_X10, fun _ h => nomatch h⟩⟩⟩
theorem hi_dm_X10_readWaits_X10 : ∀ w ∈ u_ws RX10 TX10 11, w ∈ ow_dm_X10_readWaits := fun w h => List.mem_cons_of_mem _ (List.mem_append_right _ (List.mem_append_left _ h))
def dj_X10_readWaits_8 (p : Program) (l : Launch) (e : Env) (s : State) (m : MethodId) (args : Array Value) (below : List Frame) (meth : Method) (c : Code) (Q : State → Prop) (A : Nat → Prop) (dC : Nat → ClassId) (dI : Nat → Nat → Nat) (a : Nat → Nat) (ac : Nat → ClassId) (g : (St) → Option (Int32 × (St))) (r : Int32 × (St)) : Prop := ∀ (s0 : St) (H : Heap) (locs : List Loc) (ls : Array Slot), g s0 = some r → va_P (dC, dI) vwCl (dw_X10 a ac s0) H → va_D A (dw_X10 a ac s0) → va_S A s.heap H locs → lv_has ls 5 [] → W p l e (headSpec ow_dm_X10_readWaits ({ frames := 0, cells := 0, slots := 0, locals := 0 })).room s m args below meth c H locs 0 0 Q (F0 m 8 ls [])
def dj_X10_readWaits_87 (p : Program) (l : Launch) (e : Env) (s : State) (m : MethodId) (args : Array Value) (below : List Frame) (meth : Method) (c : Code) (Q : State → Prop) (A : Nat → Prop) (dC : Nat → ClassId) (dI : Nat → Nat → Nat) (a : Nat → Nat) (ac : Nat → ClassId) (g : Int32 → (St) → Option (Int32 × (St))) (r : Int32 × (St)) : Prop := ∀ (y0 : Int32) (s0 : St) (H : Heap) (locs : List Loc) (ls : Array Slot), g y0 s0 = some r → va_P (dC, dI) vwCl (dw_X10 a ac s0) H → va_D A (dw_X10 a ac s0) → va_S A s.heap H locs → lv_has ls 5 [] → W p l e (headSpec ow_dm_X10_readWaits ({ frames := 0, cells := 0, slots := 0, locals := 0 })).room s m args below meth c H locs 0 0 Q (F0 m 87 ls [.int y0])
def dj_X10_readWaits_86 (p : Program) (l : Launch) (e : Env) (s : State) (m : MethodId) (args : Array Value) (below : List Frame) (meth : Method) (c : Code) (Q : State → Prop) (A : Nat → Prop) (dC : Nat → ClassId) (dI : Nat → Nat → Nat) (a : Nat → Nat) (ac : Nat → ClassId) (g : (St) → Option (Int32 × (St))) (r : Int32 × (St)) : Prop := ∀ (s0 : St) (H : Heap) (locs : List Loc) (ls : Array Slot), g s0 = some r → va_P (dC, dI) vwCl (dw_X10 a ac s0) H → va_D A (dw_X10 a ac s0) → va_S A s.heap H locs → lv_has ls 5 [] → W p l e (headSpec ow_dm_X10_readWaits ({ frames := 0, cells := 0, slots := 0, locals := 0 })).room s m args below meth c H locs 0 0 Q (F0 m 86 ls [])
def dj_X10_readWaits_52 (p : Program) (l : Launch) (e : Env) (s : State) (m : MethodId) (args : Array Value) (below : List Frame) (meth : Method) (c : Code) (Q : State → Prop) (A : Nat → Prop) (dC : Nat → ClassId) (dI : Nat → Nat → Nat) (a : Nat → Nat) (ac : Nat → ClassId) (g : Int32 → (St) → Option (Int32 × (St))) (r : Int32 × (St)) : Prop := ∀ (y0 : Int32) (s0 : St) (H : Heap) (locs : List Loc) (ls : Array Slot), g y0 s0 = some r → va_P (dC, dI) vwCl (dw_X10 a ac s0) H → va_D A (dw_X10 a ac s0) → va_S A s.heap H locs → lv_has ls 5 [] → W p l e (headSpec ow_dm_X10_readWaits ({ frames := 0, cells := 0, slots := 0, locals := 0 })).room s m args below meth c H locs 0 0 Q (F0 m 52 ls [.int y0])
def dj_X10_readWaits_0 (p : Program) (l : Launch) (e : Env) (s : State) (m : MethodId) (args : Array Value) (below : List Frame) (meth : Method) (c : Code) (Q : State → Prop) (A : Nat → Prop) (dC : Nat → ClassId) (dI : Nat → Nat → Nat) (a : Nat → Nat) (ac : Nat → ClassId) (g : Int32 → Int32 → (St) → Option (Int32 × (St))) (r : Int32 × (St)) : Prop := ∀ (v0 : Int32) (v1 : Int32) (s0 : St) (H : Heap) (locs : List Loc) (ls : Array Slot), g v0 v1 s0 = some r → va_P (dC, dI) vwCl (dw_X10 a ac s0) H → va_D A (dw_X10 a ac s0) → va_S A s.heap H locs → lv_has ls 5 [(0, .ref (a 0)), (1, .int v0), (2, .int v1)] → W p l e (headSpec ow_dm_X10_readWaits ({ frames := 0, cells := 0, slots := 0, locals := 0 })).room s m args below meth c H locs 0 0 Q (F0 m 0 ls [])
set_option maxHeartbeats 40000000 in
set_option maxRecDepth 100000 in
theorem db_X10_readWaits_8 {p : Program} {l : Launch} {e : Env} {s : State} {m : MethodId} {args : Array Value} {below : List Frame} {meth : Method} {c : Code} {Q : State → Prop} {A : Nat → Prop} {dC : Nat → ClassId} {dI : Nat → Nat → Nat} {a : Nat → Nat} {ac : Nat → ClassId} {n : Nat} {r : Int32 × (St)} (C : nd_C p l s m args c A (dC, dI) cX10_readWaits 5 RX10 ow_dm_X10_readWaits (dk_X10 ac)) (K : nd_Ki p l e (headSpec ow_dm_X10_readWaits ({ frames := 0, cells := 0, slots := 0, locals := 0 })).room s m args below meth c Q A (dC, dI) cX10_readWaits .boolean (St) (dw_X10 a ac) r) : dj_X10_readWaits_8 p l e s m args below meth c Q A dC dI a ac (df_X10_readWaits_8 n) r := by
  obtain ⟨hlt, hx, hb, hml, hown, hts, hN, hA, hK⟩ := id C
  intro s0 H locs ls h hP hD hS hl
  unfold df_X10_readWaits_8 at h
  refine lv_iconst (v := 0) hx hb dX10_readWaits_8 (by decide) ?_
  exact K _ _ _ _ _ _ dX10_readWaits_9 (by first | rfl | decide) (Option.some.inj h).symm hP hD hS
set_option maxHeartbeats 40000000 in
set_option maxRecDepth 100000 in
theorem db_X10_readWaits_87 {p : Program} {l : Launch} {e : Env} {s : State} {m : MethodId} {args : Array Value} {below : List Frame} {meth : Method} {c : Code} {Q : State → Prop} {A : Nat → Prop} {dC : Nat → ClassId} {dI : Nat → Nat → Nat} {a : Nat → Nat} {ac : Nat → ClassId} {n : Nat} {r : Int32 × (St)} (C : nd_C p l s m args c A (dC, dI) cX10_readWaits 5 RX10 ow_dm_X10_readWaits (dk_X10 ac)) (K : nd_Ki p l e (headSpec ow_dm_X10_readWaits ({ frames := 0, cells := 0, slots := 0, locals := 0 })).room s m args below meth c Q A (dC, dI) cX10_readWaits .boolean (St) (dw_X10 a ac) r) : dj_X10_readWaits_87 p l e s m args below meth c Q A dC dI a ac (df_X10_readWaits_87 n) r := by
  obtain ⟨hlt, hx, hb, hml, hown, hts, hN, hA, hK⟩ := id C
  intro y0 s0 H locs ls h hP hD hS hl
  unfold df_X10_readWaits_87 at h
  obtain ⟨n9, h⟩ := nd_z_e ⟨_, rfl⟩ h
  exact K _ _ _ _ _ _ dX10_readWaits_87 n9 (Option.some.inj h).symm hP hD hS
set_option maxHeartbeats 40000000 in
set_option maxRecDepth 100000 in
theorem db_X10_readWaits_86 {p : Program} {l : Launch} {e : Env} {s : State} {m : MethodId} {args : Array Value} {below : List Frame} {meth : Method} {c : Code} {Q : State → Prop} {A : Nat → Prop} {dC : Nat → ClassId} {dI : Nat → Nat → Nat} {a : Nat → Nat} {ac : Nat → ClassId} {n : Nat} {r : Int32 × (St)} (C : nd_C p l s m args c A (dC, dI) cX10_readWaits 5 RX10 ow_dm_X10_readWaits (dk_X10 ac)) (K : nd_Ki p l e (headSpec ow_dm_X10_readWaits ({ frames := 0, cells := 0, slots := 0, locals := 0 })).room s m args below meth c Q A (dC, dI) cX10_readWaits .boolean (St) (dw_X10 a ac) r) : dj_X10_readWaits_86 p l e s m args below meth c Q A dC dI a ac (df_X10_readWaits_86 n) r := by
  obtain ⟨hlt, hx, hb, hml, hown, hts, hN, hA, hK⟩ := id C
  intro s0 H locs ls h hP hD hS hl
  unfold df_X10_readWaits_86 at h
  refine lv_iconst (v := 0) hx hb dX10_readWaits_86 (by decide) ?_
  exact (db_X10_readWaits_87 C K) (0) s0 _ _ _ h hP hD hS (lv_sub hl [] rfl)
set_option maxHeartbeats 40000000 in
set_option maxRecDepth 100000 in
theorem db_X10_readWaits_52 {p : Program} {l : Launch} {e : Env} {s : State} {m : MethodId} {args : Array Value} {below : List Frame} {meth : Method} {c : Code} {Q : State → Prop} {A : Nat → Prop} {dC : Nat → ClassId} {dI : Nat → Nat → Nat} {a : Nat → Nat} {ac : Nat → ClassId} {n : Nat} {r : Int32 × (St)} (C : nd_C p l s m args c A (dC, dI) cX10_readWaits 5 RX10 ow_dm_X10_readWaits (dk_X10 ac)) (K : nd_Ki p l e (headSpec ow_dm_X10_readWaits ({ frames := 0, cells := 0, slots := 0, locals := 0 })).room s m args below meth c Q A (dC, dI) cX10_readWaits .boolean (St) (dw_X10 a ac) r) : dj_X10_readWaits_52 p l e s m args below meth c Q A dC dI a ac (df_X10_readWaits_52 n) r := by
  obtain ⟨hlt, hx, hb, hml, hown, hts, hN, hA, hK⟩ := id C
  intro y0 s0 H locs ls h hP hD hS hl
  unfold df_X10_readWaits_52 at h
  obtain ⟨n15, h⟩ := nd_z_e ⟨_, rfl⟩ h
  exact K _ _ _ _ _ _ dX10_readWaits_52 n15 (Option.some.inj h).symm hP hD hS
set_option maxHeartbeats 40000000 in
set_option maxRecDepth 100000 in
theorem db_X10_readWaits_0 {p : Program} {l : Launch} {e : Env} {s : State} {m : MethodId} {args : Array Value} {below : List Frame} {meth : Method} {c : Code} {Q : State → Prop} {A : Nat → Prop} {dC : Nat → ClassId} {dI : Nat → Nat → Nat} {a : Nat → Nat} {ac : Nat → ClassId} {n : Nat} {r : Int32 × (St)} (C : nd_C p l s m args c A (dC, dI) cX10_readWaits 5 RX10 ow_dm_X10_readWaits (dk_X10 ac)) (K : nd_Ki p l e (headSpec ow_dm_X10_readWaits ({ frames := 0, cells := 0, slots := 0, locals := 0 })).room s m args below meth c Q A (dC, dI) cX10_readWaits .boolean (St) (dw_X10 a ac) r) : dj_X10_readWaits_0 p l e s m args below meth c Q A dC dI a ac (df_X10_readWaits_0 n) r := by
  obtain ⟨hlt, hx, hb, hml, hown, hts, hN, hA, hK⟩ := id C
  intro v0 v1 s0 H locs ls h hP hD hS hl
  unfold df_X10_readWaits_0 at h
  refine lv_iload_n hx hb dX10_readWaits_0 rfl (lv_at hl 2 rfl) ?_
  refine lv_if_eq (tgt := 8) hx hb dX10_readWaits_1 (by decide) (fun c1 => ?_) (fun c1 => ?_)
  · have h := nd_pos h c1
    exact (db_X10_readWaits_8 C K)  s0 _ _ _ h hP hD hS (lv_sub hl [] rfl)
  · have h := nd_neg h c1
    refine lv_iload_n hx hb dX10_readWaits_4 rfl (lv_at hl 1 rfl) ?_
    refine lv_if_ge (tgt := 10) hx hb dX10_readWaits_5 (by decide) (fun c2 => ?_) (fun c2 => ?_)
    · have h := nd_pos h c2
      refine lv_aload_n hx hb dX10_readWaits_10 rfl (lv_at hl 0 rfl) ?_
      refine va_get (D := (dC, dI)) (ci := 11) (v := .ref (a 2)) (C := RX10) (T := TX10) (N := 11) hx hb hts hi_dm_X10_readWaits_X10 hown hK hP 0 rfl rfl 1 (by decide) (hts (.fieldLink RX10 15 "TimeMachine$Things" "opening" "[I") (List.mem_of_getElem? (i := 1) rfl)) (fun _ h9 => h9) rfl dX10_readWaits_11 ?_
      refine lv_iload_n hx hb dX10_readWaits_14 rfl (lv_at hl 1 rfl) ?_
      refine lv_iconst (v := 5) hx hb dX10_readWaits_15 (by decide) ?_
      refine lv_imul hx hb dX10_readWaits_16 ?_
      refine lv_iconst (v := 0) hx hb dX10_readWaits_17 (by decide) ?_
      refine lv_iadd hx hb dX10_readWaits_18 ?_
      obtain ⟨i3, h⟩ := nd_ck_e h
      refine va_iald (i := ((v0 * 5) + 0)) hx hb hK hP 2 1 rfl rfl i3 dX10_readWaits_19 ?_
      refine lv_topi (fun z4 ez4 => ?_)
      have h := nd_at h ez4
      refine lv_istore_n (lv' := [(3, .int z4), (0, .ref (a 0)), (1, .int v0), (2, .int v1)]) hx hb dX10_readWaits_20 rfl hl (by decide) rfl (fun ls hl => ?_)
      refine lv_aload_n hx hb dX10_readWaits_21 rfl (lv_at hl 1 rfl) ?_
      refine va_get (D := (dC, dI)) (ci := 11) (v := .ref (a 2)) (C := RX10) (T := TX10) (N := 11) hx hb hts hi_dm_X10_readWaits_X10 hown hK hP 0 rfl rfl 1 (by decide) (hts (.fieldLink RX10 15 "TimeMachine$Things" "opening" "[I") (List.mem_of_getElem? (i := 1) rfl)) (fun _ h9 => h9) rfl dX10_readWaits_22 ?_
      refine lv_iload_n hx hb dX10_readWaits_25 rfl (lv_at hl 2 rfl) ?_
      refine lv_iconst (v := 5) hx hb dX10_readWaits_26 (by decide) ?_
      refine lv_imul hx hb dX10_readWaits_27 ?_
      refine lv_iconst (v := 2) hx hb dX10_readWaits_28 (by decide) ?_
      refine lv_iadd hx hb dX10_readWaits_29 ?_
      obtain ⟨i5, h⟩ := nd_ck_e h
      refine va_iald (i := ((v0 * 5) + 2)) hx hb hK hP 2 1 rfl rfl i5 dX10_readWaits_30 ?_
      refine lv_iconst (v := 4) hx hb dX10_readWaits_31 (by decide) ?_
      refine lv_imul hx hb dX10_readWaits_32 ?_
      refine lv_topi (fun z6 ez6 => ?_)
      have h := nd_at h ez6
      refine lv_istore (lv' := [(4, .int z6), (3, .int z4), (0, .ref (a 0)), (1, .int v0), (2, .int v1)]) hx hb dX10_readWaits_33 hl (by decide) rfl (fun ls hl => ?_)
      refine lv_iload_n hx hb dX10_readWaits_35 rfl (lv_at hl 1 rfl) ?_
      refine lv_iconst (v := 4) hx hb dX10_readWaits_36 (by decide) ?_
      refine lv_icmp_ne (tgt := 53) hx hb dX10_readWaits_37 (by decide) (fun c7 => ?_) (fun c7 => ?_)
      · have h := nd_neg h c7
        refine lv_iload_n hx hb dX10_readWaits_53 rfl (lv_at hl 1 rfl) ?_
        refine lv_iconst (v := 1) hx hb dX10_readWaits_54 (by decide) ?_
        refine lv_icmp_ne (tgt := 86) hx hb dX10_readWaits_55 (by decide) (fun c8 => ?_) (fun c8 => ?_)
        · have h := nd_neg h c8
          exact (db_X10_readWaits_86 C K)  s0 _ _ _ h hP hD hS (lv_sub hl [] rfl)
        · have h := nd_pos h c8
          refine lv_aload_n hx hb dX10_readWaits_58 rfl (lv_at hl 2 rfl) ?_
          refine va_get (D := (dC, dI)) (ci := 11) (v := .ref (a 3)) (C := RX10) (T := TX10) (N := 11) hx hb hts hi_dm_X10_readWaits_X10 hown hK hP 0 rfl rfl 2 (by decide) (hts (.fieldLink RX10 18 "TimeMachine$Things" "pipe" "[I") (List.mem_of_getElem? (i := 2) rfl)) (fun _ h9 => h9) rfl dX10_readWaits_59 ?_
          refine lv_iload hx hb dX10_readWaits_62 (lv_at hl 0 rfl) ?_
          refine lv_iconst (v := 0) hx hb dX10_readWaits_64 (by decide) ?_
          refine lv_iadd hx hb dX10_readWaits_65 ?_
          obtain ⟨i10, h⟩ := nd_ck_e h
          refine va_iald (i := (z6 + 0)) hx hb hK hP 3 2 rfl rfl i10 dX10_readWaits_66 ?_
          refine lv_if_ne (tgt := 86) hx hb dX10_readWaits_67 (by decide) (fun c11 => ?_) (fun c11 => ?_)
          · have h := nd_neg h c11
            exact (db_X10_readWaits_86 C K)  s0 _ _ _ h hP hD hS (lv_sub hl [] rfl)
          · have h := nd_pos h c11
            refine lv_aload_n hx hb dX10_readWaits_70 rfl (lv_at hl 2 rfl) ?_
            refine va_get (D := (dC, dI)) (ci := 11) (v := .ref (a 3)) (C := RX10) (T := TX10) (N := 11) hx hb hts hi_dm_X10_readWaits_X10 hown hK hP 0 rfl rfl 2 (by decide) (hts (.fieldLink RX10 18 "TimeMachine$Things" "pipe" "[I") (List.mem_of_getElem? (i := 2) rfl)) (fun _ h9 => h9) rfl dX10_readWaits_71 ?_
            refine lv_iload hx hb dX10_readWaits_74 (lv_at hl 0 rfl) ?_
            refine lv_iconst (v := 2) hx hb dX10_readWaits_76 (by decide) ?_
            refine lv_iadd hx hb dX10_readWaits_77 ?_
            obtain ⟨i12, h⟩ := nd_ck_e h
            refine va_iald (i := (z6 + 2)) hx hb hK hP 3 2 rfl rfl i12 dX10_readWaits_78 ?_
            refine lv_if_le (tgt := 86) hx hb dX10_readWaits_79 (by decide) (fun c13 => ?_) (fun c13 => ?_)
            · have h := nd_pos h c13
              exact (db_X10_readWaits_86 C K)  s0 _ _ _ h hP hD hS (lv_sub hl [] rfl)
            · have h := nd_neg h c13
              refine lv_iconst (v := 1) hx hb dX10_readWaits_82 (by decide) ?_
              refine lv_goto (tgt := 87) hx hb dX10_readWaits_83 (by decide) ?_
              exact (db_X10_readWaits_87 C K) (1) s0 _ _ _ h hP hD hS (lv_sub hl [] rfl)
      · have h := nd_pos h c7
        refine lv_aload_n hx hb dX10_readWaits_40 rfl (lv_at hl 2 rfl) ?_
        refine va_get (D := (dC, dI)) (ci := 11) (v := .int (sI s0 0)) (C := RX10) (T := TX10) (N := 11) hx hb hts hi_dm_X10_readWaits_X10 hown hK hP 0 rfl rfl 8 (by decide) (hts (.fieldLink RX10 46 "TimeMachine$Things" "typedBytes" "I") (List.mem_of_getElem? (i := 3) rfl)) (fun _ h9 => h9) rfl dX10_readWaits_41 ?_
        refine lv_if_ne (tgt := 51) hx hb dX10_readWaits_44 (by decide) (fun c14 => ?_) (fun c14 => ?_)
        · have h := nd_neg h c14
          refine lv_iconst (v := 0) hx hb dX10_readWaits_51 (by decide) ?_
          exact (db_X10_readWaits_52 C K) (0) s0 _ _ _ h hP hD hS (lv_sub hl [] rfl)
        · have h := nd_pos h c14
          refine lv_iconst (v := 1) hx hb dX10_readWaits_47 (by decide) ?_
          refine lv_goto (tgt := 52) hx hb dX10_readWaits_48 (by decide) ?_
          exact (db_X10_readWaits_52 C K) (1) s0 _ _ _ h hP hD hS (lv_sub hl [] rfl)
    · have h := nd_neg h c2
      exact (db_X10_readWaits_8 C K)  s0 _ _ _ h hP hD hS (lv_sub hl [] rfl)
set_option maxHeartbeats 40000000 in
set_option maxRecDepth 100000 in
theorem dm_X10_readWaits (l : Launch) (hlt : l.stackTraces = false) (dC : Nat → ClassId) (dI : Nat → Nat → Nat) (a : Nat → Nat) (ac : Nat → ClassId) (n : Nat) (v0 : Int32) (v1 : Int32) (s0 : St) {r : Int32 × (St)} (h : df_X10_readWaits n v0 v1 s0 = some r) (sz : Nat) : Met l yX10_readWaits ow_dm_X10_readWaits ({ frames := 0, cells := 0, slots := 0, locals := 0 }) (va_Pc [.ref (a 0), .int v0, .int v1] (fun U => U.heap.size = sz ∧ va_P (dC, dI) vwCl (dw_X10 a ac s0) U.heap ∧ va_K (dC, dI) vwCl (dk_X10 ac) U ∧ va_D (fun _ => True) (dw_X10 a ac s0) ∧ nv_E dI (va_A (dw_X10 a ac s0) sz) U)) (va_Qi (fun x _ => x = r.1) (fun (_ : Unit) t => va_P (dC, dI) vwCl (dw_X10 a ac r.2) t.heap ∧ va_K (dC, dI) vwCl (dk_X10 ac) t ∧ va_D (va_A (dw_X10 a ac s0) sz) (dw_X10 a ac r.2)) (va_A (dw_X10 a ac s0) sz)) 0 0 (va_A (dw_X10 a ac s0) sz) := by
  refine Met.ofW (cc := cX10_readWaits) (maxL := 5) (ret := (some .boolean)) (by decide) rfl ?_
  intro p e s m args below meth c s₁ B hml hv
  obtain ⟨rfl, hsz, hP, hK, hD0, hN⟩ := hv
  have hx := B.exec
  have hb := B.bytes
  have hr := B.returns
  have hts := atoms_spec (ws := ow_dm_X10_readWaits) B.pre
  have hown : s.vm.findClass RX10 = some m.cls := findClass_of_methodNamed B.named
  have hlocks := B.notSynchronized
  subst hsz
  have hD := hD0.self (sz := s.heap.size)
  generalize hAe : va_A (dw_X10 a ac s0) s.heap.size = A at hD hN ⊢
  have hA : ∀ q : Nat, s.heap.size ≤ q → A q := fun q h => by rw [← hAe]; exact Or.inr h
  have hl := lv_entry ([.ref (a 0), .int v0, .int v1]) (n := 5) (Nat.le_of_ble_eq_true rfl)
  rw [lg_entry_eq]
  generalize (lg_sl ([.ref (a 0), .int v0, .int v1]) ++ List.replicate (5 - (lg_sl ([.ref (a 0), .int v0, .int v1])).length) Slot.unset).toArray = ls at hl ⊢
  have hl : lv_has ls 5 [(0, .ref (a 0)), (1, .int v0), (2, .int v1)] := hl
  exact db_X10_readWaits_0 (dC := dC) (dI := dI) (a := a) (ac := ac) (n := n) (r := r) ⟨hlt, hx, hb, hml, hown, hts, hN, hA, hK⟩ (fun pc v τ H locs ls d z er hP hD hS => by subst er; exact W.zret (v := v) hx hb hr z (fun t ht hW => ⟨⟨v, (), rfl, rfl, by rw [ht]; exact hP, va_K.moved hW.alike hK, hD⟩, hS.F ht⟩) hS.2.2 d) v0 v1 s0 _ _ _ h hP hD va_S.rf (lv_sub hl [0, 1, 2] rfl)
def ow_dm_X10_writeWaits : List Cond := Cond.code yX10_writeWaits cX10_writeWaits 4 (some .boolean) :: ([Cond.fieldLink RX10 15 "TimeMachine$Things" "opening" "[I", Cond.fieldLink RX10 18 "TimeMachine$Things" "pipe" "[I"] ++ (u_ws RX10 TX10 11 ++ []))
theorem gd_dm_X10_writeWaits : ∀ w ∈ ow_dm_X10_writeWaits, (w.onTables && w.keeps) = true ∨ ∃ ty, w = Cond.arrayClass ty := List.forall_mem_cons.mpr ⟨good_of_word rfl, List.forall_mem_append.mpr ⟨fun w h => good_of_word (List.all_eq_true.mp (by decide +kernel) w h), List.forall_mem_append.mpr ⟨gu_X10, fun _ h => nomatch h⟩⟩⟩
theorem hi_dm_X10_writeWaits_X10 : ∀ w ∈ u_ws RX10 TX10 11, w ∈ ow_dm_X10_writeWaits := fun w h => List.mem_cons_of_mem _ (List.mem_append_right _ (List.mem_append_left _ h))
def dj_X10_writeWaits_22 (p : Program) (l : Launch) (e : Env) (s : State) (m : MethodId) (args : Array Value) (below : List Frame) (meth : Method) (c : Code) (Q : State → Prop) (A : Nat → Prop) (dC : Nat → ClassId) (dI : Nat → Nat → Nat) (a : Nat → Nat) (ac : Nat → ClassId) (g : (St) → Option (Int32 × (St))) (r : Int32 × (St)) : Prop := ∀ (s0 : St) (H : Heap) (locs : List Loc) (ls : Array Slot), g s0 = some r → va_P (dC, dI) vwCl (dw_X10 a ac s0) H → va_D A (dw_X10 a ac s0) → va_S A s.heap H locs → lv_has ls 4 [] → W p l e (headSpec ow_dm_X10_writeWaits ({ frames := 0, cells := 0, slots := 0, locals := 0 })).room s m args below meth c H locs 0 0 Q (F0 m 22 ls [])
def dj_X10_writeWaits_69 (p : Program) (l : Launch) (e : Env) (s : State) (m : MethodId) (args : Array Value) (below : List Frame) (meth : Method) (c : Code) (Q : State → Prop) (A : Nat → Prop) (dC : Nat → ClassId) (dI : Nat → Nat → Nat) (a : Nat → Nat) (ac : Nat → ClassId) (g : Int32 → (St) → Option (Int32 × (St))) (r : Int32 × (St)) : Prop := ∀ (y0 : Int32) (s0 : St) (H : Heap) (locs : List Loc) (ls : Array Slot), g y0 s0 = some r → va_P (dC, dI) vwCl (dw_X10 a ac s0) H → va_D A (dw_X10 a ac s0) → va_S A s.heap H locs → lv_has ls 4 [] → W p l e (headSpec ow_dm_X10_writeWaits ({ frames := 0, cells := 0, slots := 0, locals := 0 })).room s m args below meth c H locs 0 0 Q (F0 m 69 ls [.int y0])
def dj_X10_writeWaits_68 (p : Program) (l : Launch) (e : Env) (s : State) (m : MethodId) (args : Array Value) (below : List Frame) (meth : Method) (c : Code) (Q : State → Prop) (A : Nat → Prop) (dC : Nat → ClassId) (dI : Nat → Nat → Nat) (a : Nat → Nat) (ac : Nat → ClassId) (g : (St) → Option (Int32 × (St))) (r : Int32 × (St)) : Prop := ∀ (s0 : St) (H : Heap) (locs : List Loc) (ls : Array Slot), g s0 = some r → va_P (dC, dI) vwCl (dw_X10 a ac s0) H → va_D A (dw_X10 a ac s0) → va_S A s.heap H locs → lv_has ls 4 [] → W p l e (headSpec ow_dm_X10_writeWaits ({ frames := 0, cells := 0, slots := 0, locals := 0 })).room s m args below meth c H locs 0 0 Q (F0 m 68 ls [])
def dj_X10_writeWaits_0 (p : Program) (l : Launch) (e : Env) (s : State) (m : MethodId) (args : Array Value) (below : List Frame) (meth : Method) (c : Code) (Q : State → Prop) (A : Nat → Prop) (dC : Nat → ClassId) (dI : Nat → Nat → Nat) (a : Nat → Nat) (ac : Nat → ClassId) (g : Int32 → Int32 → (St) → Option (Int32 × (St))) (r : Int32 × (St)) : Prop := ∀ (v0 : Int32) (v1 : Int32) (s0 : St) (H : Heap) (locs : List Loc) (ls : Array Slot), g v0 v1 s0 = some r → va_P (dC, dI) vwCl (dw_X10 a ac s0) H → va_D A (dw_X10 a ac s0) → va_S A s.heap H locs → lv_has ls 4 [(0, .ref (a 0)), (1, .int v0), (2, .int v1)] → W p l e (headSpec ow_dm_X10_writeWaits ({ frames := 0, cells := 0, slots := 0, locals := 0 })).room s m args below meth c H locs 0 0 Q (F0 m 0 ls [])
set_option maxHeartbeats 40000000 in
set_option maxRecDepth 100000 in
theorem db_X10_writeWaits_22 {p : Program} {l : Launch} {e : Env} {s : State} {m : MethodId} {args : Array Value} {below : List Frame} {meth : Method} {c : Code} {Q : State → Prop} {A : Nat → Prop} {dC : Nat → ClassId} {dI : Nat → Nat → Nat} {a : Nat → Nat} {ac : Nat → ClassId} {n : Nat} {r : Int32 × (St)} (C : nd_C p l s m args c A (dC, dI) cX10_writeWaits 4 RX10 ow_dm_X10_writeWaits (dk_X10 ac)) (K : nd_Ki p l e (headSpec ow_dm_X10_writeWaits ({ frames := 0, cells := 0, slots := 0, locals := 0 })).room s m args below meth c Q A (dC, dI) cX10_writeWaits .boolean (St) (dw_X10 a ac) r) : dj_X10_writeWaits_22 p l e s m args below meth c Q A dC dI a ac (df_X10_writeWaits_22 n) r := by
  obtain ⟨hlt, hx, hb, hml, hown, hts, hN, hA, hK⟩ := id C
  intro s0 H locs ls h hP hD hS hl
  unfold df_X10_writeWaits_22 at h
  refine lv_iconst (v := 0) hx hb dX10_writeWaits_22 (by decide) ?_
  exact K _ _ _ _ _ _ dX10_writeWaits_23 (by first | rfl | decide) (Option.some.inj h).symm hP hD hS
set_option maxHeartbeats 40000000 in
set_option maxRecDepth 100000 in
theorem db_X10_writeWaits_69 {p : Program} {l : Launch} {e : Env} {s : State} {m : MethodId} {args : Array Value} {below : List Frame} {meth : Method} {c : Code} {Q : State → Prop} {A : Nat → Prop} {dC : Nat → ClassId} {dI : Nat → Nat → Nat} {a : Nat → Nat} {ac : Nat → ClassId} {n : Nat} {r : Int32 × (St)} (C : nd_C p l s m args c A (dC, dI) cX10_writeWaits 4 RX10 ow_dm_X10_writeWaits (dk_X10 ac)) (K : nd_Ki p l e (headSpec ow_dm_X10_writeWaits ({ frames := 0, cells := 0, slots := 0, locals := 0 })).room s m args below meth c Q A (dC, dI) cX10_writeWaits .boolean (St) (dw_X10 a ac) r) : dj_X10_writeWaits_69 p l e s m args below meth c Q A dC dI a ac (df_X10_writeWaits_69 n) r := by
  obtain ⟨hlt, hx, hb, hml, hown, hts, hN, hA, hK⟩ := id C
  intro y0 s0 H locs ls h hP hD hS hl
  unfold df_X10_writeWaits_69 at h
  obtain ⟨n9, h⟩ := nd_z_e ⟨_, rfl⟩ h
  exact K _ _ _ _ _ _ dX10_writeWaits_69 n9 (Option.some.inj h).symm hP hD hS
set_option maxHeartbeats 40000000 in
set_option maxRecDepth 100000 in
theorem db_X10_writeWaits_68 {p : Program} {l : Launch} {e : Env} {s : State} {m : MethodId} {args : Array Value} {below : List Frame} {meth : Method} {c : Code} {Q : State → Prop} {A : Nat → Prop} {dC : Nat → ClassId} {dI : Nat → Nat → Nat} {a : Nat → Nat} {ac : Nat → ClassId} {n : Nat} {r : Int32 × (St)} (C : nd_C p l s m args c A (dC, dI) cX10_writeWaits 4 RX10 ow_dm_X10_writeWaits (dk_X10 ac)) (K : nd_Ki p l e (headSpec ow_dm_X10_writeWaits ({ frames := 0, cells := 0, slots := 0, locals := 0 })).room s m args below meth c Q A (dC, dI) cX10_writeWaits .boolean (St) (dw_X10 a ac) r) : dj_X10_writeWaits_68 p l e s m args below meth c Q A dC dI a ac (df_X10_writeWaits_68 n) r := by
  obtain ⟨hlt, hx, hb, hml, hown, hts, hN, hA, hK⟩ := id C
  intro s0 H locs ls h hP hD hS hl
  unfold df_X10_writeWaits_68 at h
  refine lv_iconst (v := 0) hx hb dX10_writeWaits_68 (by decide) ?_
  exact (db_X10_writeWaits_69 C K) (0) s0 _ _ _ h hP hD hS (lv_sub hl [] rfl)
set_option maxHeartbeats 40000000 in
set_option maxRecDepth 100000 in
theorem db_X10_writeWaits_0 {p : Program} {l : Launch} {e : Env} {s : State} {m : MethodId} {args : Array Value} {below : List Frame} {meth : Method} {c : Code} {Q : State → Prop} {A : Nat → Prop} {dC : Nat → ClassId} {dI : Nat → Nat → Nat} {a : Nat → Nat} {ac : Nat → ClassId} {n : Nat} {r : Int32 × (St)} (C : nd_C p l s m args c A (dC, dI) cX10_writeWaits 4 RX10 ow_dm_X10_writeWaits (dk_X10 ac)) (K : nd_Ki p l e (headSpec ow_dm_X10_writeWaits ({ frames := 0, cells := 0, slots := 0, locals := 0 })).room s m args below meth c Q A (dC, dI) cX10_writeWaits .boolean (St) (dw_X10 a ac) r) : dj_X10_writeWaits_0 p l e s m args below meth c Q A dC dI a ac (df_X10_writeWaits_0 n) r := by
  obtain ⟨hlt, hx, hb, hml, hown, hts, hN, hA, hK⟩ := id C
  intro v0 v1 s0 H locs ls h hP hD hS hl
  unfold df_X10_writeWaits_0 at h
  refine lv_iload_n hx hb dX10_writeWaits_0 rfl (lv_at hl 2 rfl) ?_
  refine lv_if_eq (tgt := 22) hx hb dX10_writeWaits_1 (by decide) (fun c1 => ?_) (fun c1 => ?_)
  · have h := nd_pos h c1
    exact (db_X10_writeWaits_22 C K)  s0 _ _ _ h hP hD hS (lv_sub hl [] rfl)
  · have h := nd_neg h c1
    refine lv_iload_n hx hb dX10_writeWaits_4 rfl (lv_at hl 1 rfl) ?_
    refine lv_if_lt (tgt := 22) hx hb dX10_writeWaits_5 (by decide) (fun c2 => ?_) (fun c2 => ?_)
    · have h := nd_pos h c2
      exact (db_X10_writeWaits_22 C K)  s0 _ _ _ h hP hD hS (lv_sub hl [] rfl)
    · have h := nd_neg h c2
      refine lv_aload_n hx hb dX10_writeWaits_8 rfl (lv_at hl 0 rfl) ?_
      refine va_get (D := (dC, dI)) (ci := 11) (v := .ref (a 2)) (C := RX10) (T := TX10) (N := 11) hx hb hts hi_dm_X10_writeWaits_X10 hown hK hP 0 rfl rfl 1 (by decide) (hts (.fieldLink RX10 15 "TimeMachine$Things" "opening" "[I") (List.mem_of_getElem? (i := 1) rfl)) (fun _ h9 => h9) rfl dX10_writeWaits_9 ?_
      refine lv_iload_n hx hb dX10_writeWaits_12 rfl (lv_at hl 1 rfl) ?_
      refine lv_iconst (v := 5) hx hb dX10_writeWaits_13 (by decide) ?_
      refine lv_imul hx hb dX10_writeWaits_14 ?_
      refine lv_iconst (v := 0) hx hb dX10_writeWaits_15 (by decide) ?_
      refine lv_iadd hx hb dX10_writeWaits_16 ?_
      obtain ⟨i3, h⟩ := nd_ck_e h
      refine va_iald (i := ((v0 * 5) + 0)) hx hb hK hP 2 1 rfl rfl i3 dX10_writeWaits_17 ?_
      refine lv_iconst (v := 2) hx hb dX10_writeWaits_18 (by decide) ?_
      refine lv_icmp_eq (tgt := 24) hx hb dX10_writeWaits_19 (by decide) (fun c4 => ?_) (fun c4 => ?_)
      · have h := nd_pos h c4
        refine lv_aload_n hx hb dX10_writeWaits_24 rfl (lv_at hl 0 rfl) ?_
        refine va_get (D := (dC, dI)) (ci := 11) (v := .ref (a 2)) (C := RX10) (T := TX10) (N := 11) hx hb hts hi_dm_X10_writeWaits_X10 hown hK hP 0 rfl rfl 1 (by decide) (hts (.fieldLink RX10 15 "TimeMachine$Things" "opening" "[I") (List.mem_of_getElem? (i := 1) rfl)) (fun _ h9 => h9) rfl dX10_writeWaits_25 ?_
        refine lv_iload_n hx hb dX10_writeWaits_28 rfl (lv_at hl 1 rfl) ?_
        refine lv_iconst (v := 5) hx hb dX10_writeWaits_29 (by decide) ?_
        refine lv_imul hx hb dX10_writeWaits_30 ?_
        refine lv_iconst (v := 2) hx hb dX10_writeWaits_31 (by decide) ?_
        refine lv_iadd hx hb dX10_writeWaits_32 ?_
        obtain ⟨i5, h⟩ := nd_ck_e h
        refine va_iald (i := ((v0 * 5) + 2)) hx hb hK hP 2 1 rfl rfl i5 dX10_writeWaits_33 ?_
        refine lv_iconst (v := 4) hx hb dX10_writeWaits_34 (by decide) ?_
        refine lv_imul hx hb dX10_writeWaits_35 ?_
        refine lv_topi (fun z6 ez6 => ?_)
        have h := nd_at h ez6
        refine lv_istore_n (lv' := [(3, .int z6), (0, .ref (a 0)), (1, .int v0), (2, .int v1)]) hx hb dX10_writeWaits_36 rfl hl (by decide) rfl (fun ls hl => ?_)
        refine lv_sipush (v := 512) hx hb dX10_writeWaits_37 (by decide) ?_
        refine lv_aload_n hx hb dX10_writeWaits_40 rfl (lv_at hl 1 rfl) ?_
        refine va_get (D := (dC, dI)) (ci := 11) (v := .ref (a 3)) (C := RX10) (T := TX10) (N := 11) hx hb hts hi_dm_X10_writeWaits_X10 hown hK hP 0 rfl rfl 2 (by decide) (hts (.fieldLink RX10 18 "TimeMachine$Things" "pipe" "[I") (List.mem_of_getElem? (i := 2) rfl)) (fun _ h9 => h9) rfl dX10_writeWaits_41 ?_
        refine lv_iload_n hx hb dX10_writeWaits_44 rfl (lv_at hl 0 rfl) ?_
        refine lv_iconst (v := 0) hx hb dX10_writeWaits_45 (by decide) ?_
        refine lv_iadd hx hb dX10_writeWaits_46 ?_
        obtain ⟨i7, h⟩ := nd_ck_e h
        refine va_iald (i := (z6 + 0)) hx hb hK hP 3 2 rfl rfl i7 dX10_writeWaits_47 ?_
        refine lv_isub hx hb dX10_writeWaits_48 ?_
        refine lv_iload_n hx hb dX10_writeWaits_49 rfl (lv_at hl 3 rfl) ?_
        refine lv_icmp_ge (tgt := 68) hx hb dX10_writeWaits_50 (by decide) (fun c8 => ?_) (fun c8 => ?_)
        · have h := nd_pos h c8
          exact (db_X10_writeWaits_68 C K)  s0 _ _ _ h hP hD hS (lv_sub hl [] rfl)
        · have h := nd_neg h c8
          refine lv_aload_n hx hb dX10_writeWaits_53 rfl (lv_at hl 1 rfl) ?_
          refine va_get (D := (dC, dI)) (ci := 11) (v := .ref (a 3)) (C := RX10) (T := TX10) (N := 11) hx hb hts hi_dm_X10_writeWaits_X10 hown hK hP 0 rfl rfl 2 (by decide) (hts (.fieldLink RX10 18 "TimeMachine$Things" "pipe" "[I") (List.mem_of_getElem? (i := 2) rfl)) (fun _ h9 => h9) rfl dX10_writeWaits_54 ?_
          refine lv_iload_n hx hb dX10_writeWaits_57 rfl (lv_at hl 0 rfl) ?_
          refine lv_iconst (v := 1) hx hb dX10_writeWaits_58 (by decide) ?_
          refine lv_iadd hx hb dX10_writeWaits_59 ?_
          obtain ⟨i10, h⟩ := nd_ck_e h
          refine va_iald (i := (z6 + 1)) hx hb hK hP 3 2 rfl rfl i10 dX10_writeWaits_60 ?_
          refine lv_if_le (tgt := 68) hx hb dX10_writeWaits_61 (by decide) (fun c11 => ?_) (fun c11 => ?_)
          · have h := nd_pos h c11
            exact (db_X10_writeWaits_68 C K)  s0 _ _ _ h hP hD hS (lv_sub hl [] rfl)
          · have h := nd_neg h c11
            refine lv_iconst (v := 1) hx hb dX10_writeWaits_64 (by decide) ?_
            refine lv_goto (tgt := 69) hx hb dX10_writeWaits_65 (by decide) ?_
            exact (db_X10_writeWaits_69 C K) (1) s0 _ _ _ h hP hD hS (lv_sub hl [] rfl)
      · have h := nd_neg h c4
        exact (db_X10_writeWaits_22 C K)  s0 _ _ _ h hP hD hS (lv_sub hl [] rfl)
set_option maxHeartbeats 40000000 in
set_option maxRecDepth 100000 in
theorem dm_X10_writeWaits (l : Launch) (hlt : l.stackTraces = false) (dC : Nat → ClassId) (dI : Nat → Nat → Nat) (a : Nat → Nat) (ac : Nat → ClassId) (n : Nat) (v0 : Int32) (v1 : Int32) (s0 : St) {r : Int32 × (St)} (h : df_X10_writeWaits n v0 v1 s0 = some r) (sz : Nat) : Met l yX10_writeWaits ow_dm_X10_writeWaits ({ frames := 0, cells := 0, slots := 0, locals := 0 }) (va_Pc [.ref (a 0), .int v0, .int v1] (fun U => U.heap.size = sz ∧ va_P (dC, dI) vwCl (dw_X10 a ac s0) U.heap ∧ va_K (dC, dI) vwCl (dk_X10 ac) U ∧ va_D (fun _ => True) (dw_X10 a ac s0) ∧ nv_E dI (va_A (dw_X10 a ac s0) sz) U)) (va_Qi (fun x _ => x = r.1) (fun (_ : Unit) t => va_P (dC, dI) vwCl (dw_X10 a ac r.2) t.heap ∧ va_K (dC, dI) vwCl (dk_X10 ac) t ∧ va_D (va_A (dw_X10 a ac s0) sz) (dw_X10 a ac r.2)) (va_A (dw_X10 a ac s0) sz)) 0 0 (va_A (dw_X10 a ac s0) sz) := by
  refine Met.ofW (cc := cX10_writeWaits) (maxL := 4) (ret := (some .boolean)) (by decide) rfl ?_
  intro p e s m args below meth c s₁ B hml hv
  obtain ⟨rfl, hsz, hP, hK, hD0, hN⟩ := hv
  have hx := B.exec
  have hb := B.bytes
  have hr := B.returns
  have hts := atoms_spec (ws := ow_dm_X10_writeWaits) B.pre
  have hown : s.vm.findClass RX10 = some m.cls := findClass_of_methodNamed B.named
  have hlocks := B.notSynchronized
  subst hsz
  have hD := hD0.self (sz := s.heap.size)
  generalize hAe : va_A (dw_X10 a ac s0) s.heap.size = A at hD hN ⊢
  have hA : ∀ q : Nat, s.heap.size ≤ q → A q := fun q h => by rw [← hAe]; exact Or.inr h
  have hl := lv_entry ([.ref (a 0), .int v0, .int v1]) (n := 4) (Nat.le_of_ble_eq_true rfl)
  rw [lg_entry_eq]
  generalize (lg_sl ([.ref (a 0), .int v0, .int v1]) ++ List.replicate (4 - (lg_sl ([.ref (a 0), .int v0, .int v1])).length) Slot.unset).toArray = ls at hl ⊢
  have hl : lv_has ls 4 [(0, .ref (a 0)), (1, .int v0), (2, .int v1)] := hl
  exact db_X10_writeWaits_0 (dC := dC) (dI := dI) (a := a) (ac := ac) (n := n) (r := r) ⟨hlt, hx, hb, hml, hown, hts, hN, hA, hK⟩ (fun pc v τ H locs ls d z er hP hD hS => by subst er; exact W.zret (v := v) hx hb hr z (fun t ht hW => ⟨⟨v, (), rfl, rfl, by rw [ht]; exact hP, va_K.moved hW.alike hK, hD⟩, hS.F ht⟩) hS.2.2 d) v0 v1 s0 _ _ _ h hP hD va_S.rf (lv_sub hl [0, 1, 2] rfl)
def ow_dm_X10_coming : List Cond := Cond.code yX10_coming cX10_coming 6 (some .int) :: ([Cond.methodLink RX10 83 yX10_amount, Cond.instanceMethod yX10_amount, Cond.selects RX10 yX10_amount yX10_amount, Cond.initialized RX10, Cond.methodLink RX10 74 yX10_of, Cond.instanceMethod yX10_of, Cond.selects RX10 yX10_of yX10_of, Cond.methodLink RX10 87 Lib.Math.min.name, Cond.static Lib.Math.min.name, Cond.initialized "java/lang/Math", Cond.code Lib.Math.min.name Lib.Math.min.code 2 (some .int), Cond.fieldLink RX10 34 "TimeMachine$Things" "typed" "[B", Cond.methodLink RX10 68 Lib.Math.max.name, Cond.static Lib.Math.max.name, Cond.code Lib.Math.max.name Lib.Math.max.code 2 (some .int)] ++ (u_ws RX10 TX10 11 ++ (ow_dm_X10_amount ++ (ow_dm_X10_of ++ []))))
theorem gd_dm_X10_coming : ∀ w ∈ ow_dm_X10_coming, (w.onTables && w.keeps) = true ∨ ∃ ty, w = Cond.arrayClass ty := List.forall_mem_cons.mpr ⟨good_of_word rfl, List.forall_mem_append.mpr ⟨fun w h => good_of_word (List.all_eq_true.mp (by decide +kernel) w h), List.forall_mem_append.mpr ⟨gu_X10, List.forall_mem_append.mpr ⟨gd_dm_X10_amount, List.forall_mem_append.mpr ⟨gd_dm_X10_of, fun _ h => nomatch h⟩⟩⟩⟩⟩
theorem hi_dm_X10_coming_X10 : ∀ w ∈ u_ws RX10 TX10 11, w ∈ ow_dm_X10_coming := fun w h => List.mem_cons_of_mem _ (List.mem_append_right _ (List.mem_append_left _ h))
theorem gi_dm_X10_coming_0 : GoodIn ow_dm_X10_coming (wsV RX10 83 RX10 yX10_amount ow_dm_X10_amount) := goodIn_app (goodIn_of _ (by decide +kernel)) (fun w h => ⟨List.mem_cons_of_mem _ (List.mem_append_right _ (List.mem_append_right _ (List.mem_append_left _ h))), gd_dm_X10_amount w h⟩)
theorem gi_dm_X10_coming_1 : GoodIn ow_dm_X10_coming (wsV RX10 74 RX10 yX10_of ow_dm_X10_of) := goodIn_app (goodIn_of _ (by decide +kernel)) (fun w h => ⟨List.mem_cons_of_mem _ (List.mem_append_right _ (List.mem_append_right _ (List.mem_append_right _ (List.mem_append_left _ h)))), gd_dm_X10_of w h⟩)
def dj_X10_coming_80 (p : Program) (l : Launch) (e : Env) (s : State) (m : MethodId) (args : Array Value) (below : List Frame) (meth : Method) (c : Code) (Q : State → Prop) (A : Nat → Prop) (dC : Nat → ClassId) (dI : Nat → Nat → Nat) (a : Nat → Nat) (ac : Nat → ClassId) (g : Int32 → (St) → Option (Int32 × (St))) (r : Int32 × (St)) : Prop := ∀ (x4 : Int32) (s0 : St) (H : Heap) (locs : List Loc) (ls : Array Slot), g x4 s0 = some r → va_P (dC, dI) vwCl (dw_X10 a ac s0) H → va_D A (dw_X10 a ac s0) → va_S A s.heap H locs → lv_has ls 6 [(4, .int x4)] → W p l e (headSpec ow_dm_X10_coming ({ frames := 1, cells := 0, slots := 0, locals := 23 })).room s m args below meth c H locs 0 0 Q (F0 m 80 ls [])
def dj_X10_coming_53 (p : Program) (l : Launch) (e : Env) (s : State) (m : MethodId) (args : Array Value) (below : List Frame) (meth : Method) (c : Code) (Q : State → Prop) (A : Nat → Prop) (dC : Nat → ClassId) (dI : Nat → Nat → Nat) (a : Nat → Nat) (ac : Nat → ClassId) (g : Int32 → Int32 → (St) → Option (Int32 × (St))) (r : Int32 × (St)) : Prop := ∀ (x4 : Int32) (x5 : Int32) (s0 : St) (H : Heap) (locs : List Loc) (ls : Array Slot), g x4 x5 s0 = some r → va_P (dC, dI) vwCl (dw_X10 a ac s0) H → va_D A (dw_X10 a ac s0) → va_S A s.heap H locs → lv_has ls 6 [(0, .ref (a 0)), (4, .int x4), (5, .int x5)] → W p l e (headSpec ow_dm_X10_coming ({ frames := 1, cells := 0, slots := 0, locals := 23 })).room s m args below meth c H locs 0 0 Q (F0 m 53 ls [])
def dj_X10_coming_0 (p : Program) (l : Launch) (e : Env) (s : State) (m : MethodId) (args : Array Value) (below : List Frame) (meth : Method) (c : Code) (Q : State → Prop) (A : Nat → Prop) (dC : Nat → ClassId) (dI : Nat → Nat → Nat) (a : Nat → Nat) (ac : Nat → ClassId) (g : Int32 → Int32 → (St) → Option (Int32 × (St))) (r : Int32 × (St)) : Prop := ∀ (v0 : Int32) (v1 : Int32) (s0 : St) (H : Heap) (locs : List Loc) (ls : Array Slot), g v0 v1 s0 = some r → va_P (dC, dI) vwCl (dw_X10 a ac s0) H → va_D A (dw_X10 a ac s0) → va_S A s.heap H locs → lv_has ls 6 [(0, .ref (a 0)), (1, .int v0), (2, .int v1)] → W p l e (headSpec ow_dm_X10_coming ({ frames := 1, cells := 0, slots := 0, locals := 23 })).room s m args below meth c H locs 0 0 Q (F0 m 0 ls [])
set_option maxHeartbeats 40000000 in
set_option maxRecDepth 100000 in
theorem db_X10_coming_80 {p : Program} {l : Launch} {e : Env} {s : State} {m : MethodId} {args : Array Value} {below : List Frame} {meth : Method} {c : Code} {Q : State → Prop} {A : Nat → Prop} {dC : Nat → ClassId} {dI : Nat → Nat → Nat} {a : Nat → Nat} {ac : Nat → ClassId} {n : Nat} {r : Int32 × (St)} (C : nd_C p l s m args c A (dC, dI) cX10_coming 6 RX10 ow_dm_X10_coming (dk_X10 ac)) (K : nd_Ki p l e (headSpec ow_dm_X10_coming ({ frames := 1, cells := 0, slots := 0, locals := 23 })).room s m args below meth c Q A (dC, dI) cX10_coming .int (St) (dw_X10 a ac) r) : dj_X10_coming_80 p l e s m args below meth c Q A dC dI a ac (df_X10_coming_80 n) r := by
  obtain ⟨hlt, hx, hb, hml, hown, hts, hN, hA, hK⟩ := id C
  intro x4 s0 H locs ls h hP hD hS hl
  unfold df_X10_coming_80 at h
  refine lv_iload hx hb dX10_coming_80 (lv_at hl 0 rfl) ?_
  exact K _ _ _ _ _ _ dX10_coming_82 rfl (Option.some.inj h).symm hP hD hS
set_option maxHeartbeats 40000000 in
set_option maxRecDepth 100000 in
theorem dB_X10_coming_53 {p : Program} {l : Launch} {e : Env} {s : State} {m : MethodId} {args : Array Value} {below : List Frame} {meth : Method} {c : Code} {Q : State → Prop} {A : Nat → Prop} {dC : Nat → ClassId} {dI : Nat → Nat → Nat} {a : Nat → Nat} {ac : Nat → ClassId} {n : Nat} {r : Int32 × (St)} (C : nd_C p l s m args c A (dC, dI) cX10_coming 6 RX10 ow_dm_X10_coming (dk_X10 ac)) (K : nd_Ki p l e (headSpec ow_dm_X10_coming ({ frames := 1, cells := 0, slots := 0, locals := 23 })).room s m args below meth c Q A (dC, dI) cX10_coming .int (St) (dw_X10 a ac) r) {g53 : Int32 → Int32 → (St) → Option (Int32 × (St))} (J53 : dj_X10_coming_53 p l e s m args below meth c Q A dC dI a ac g53 r) : dj_X10_coming_53 p l e s m args below meth c Q A dC dI a ac (dF_X10_coming_53 n g53) r := by
  obtain ⟨hlt, hx, hb, hml, hown, hts, hN, hA, hK⟩ := id C
  intro x4 x5 s0 H locs ls h hP hD hS hl
  unfold dF_X10_coming_53 at h
  refine lv_iload hx hb dX10_coming_53 (lv_at hl 2 rfl) ?_
  refine lv_iload hx hb dX10_coming_55 (lv_at hl 1 rfl) ?_
  refine lv_icmp_ge (tgt := 80) hx hb dX10_coming_57 (by decide) (fun c13 => ?_) (fun c13 => ?_)
  · have h := nd_pos h c13
    exact (db_X10_coming_80 C K) (x4) s0 _ _ _ h hP hD hS (lv_sub hl [1] rfl)
  · have h := nd_neg h c13
    refine lv_aload_n hx hb dX10_coming_60 rfl (lv_at hl 0 rfl) ?_
    refine va_get (D := (dC, dI)) (ci := 11) (v := .ref (a 8)) (C := RX10) (T := TX10) (N := 11) hx hb hts hi_dm_X10_coming_X10 hown hK hP 0 rfl rfl 7 (by decide) (hts (.fieldLink RX10 34 "TimeMachine$Things" "typed" "[B") (List.mem_of_getElem? (i := 12) rfl)) (fun _ h9 => h9) rfl dX10_coming_61 ?_
    refine lv_iload hx hb dX10_coming_64 (lv_at hl 2 rfl) ?_
    obtain ⟨i14, h⟩ := nd_ck_e h
    refine va_bald (i := x5) hx hb hK hP 8 7 rfl rfl i14 dX10_coming_66 ?_
    refine lv_iconst (v := 4) hx hb dX10_coming_67 (by decide) ?_
    refine lv_icmp_ne (tgt := 74) hx hb dX10_coming_68 (by decide) (fun c15 => ?_) (fun c15 => ?_)
    · have h := nd_neg h c15
      obtain ⟨z16, ez16, h⟩ := nd_let_e h
      refine lv_iinc (v := z16) (lv' := [(5, .int z16), (0, .ref (a 0)), (4, .int x4)]) hx hb dX10_coming_74 hl (k := 2) rfl (by rw [ez16]) (by decide) rfl (fun ls hl => ?_)
      refine lv_goto (tgt := 53) hx hb dX10_coming_77 (by decide) ?_
      exact (J53) (x4) (z16) s0 _ _ _ h hP hD hS (lv_sub hl [1, 2, 0] rfl)
    · have h := nd_pos h c15
      refine lv_iload hx hb dX10_coming_71 (lv_at hl 2 rfl) ?_
      exact K _ _ _ _ _ _ dX10_coming_73 rfl (Option.some.inj h).symm hP hD hS
set_option maxHeartbeats 40000000 in
set_option maxRecDepth 100000 in
theorem db_X10_coming_53 {p : Program} {l : Launch} {e : Env} {s : State} {m : MethodId} {args : Array Value} {below : List Frame} {meth : Method} {c : Code} {Q : State → Prop} {A : Nat → Prop} {dC : Nat → ClassId} {dI : Nat → Nat → Nat} {a : Nat → Nat} {ac : Nat → ClassId} {n : Nat} {r : Int32 × (St)} (C : nd_C p l s m args c A (dC, dI) cX10_coming 6 RX10 ow_dm_X10_coming (dk_X10 ac)) (K : nd_Ki p l e (headSpec ow_dm_X10_coming ({ frames := 1, cells := 0, slots := 0, locals := 23 })).room s m args below meth c Q A (dC, dI) cX10_coming .int (St) (dw_X10 a ac) r) (k : Nat) : dj_X10_coming_53 p l e s m args below meth c Q A dC dI a ac (df_X10_coming_53 n k) r := by
  induction k with
  | zero => intro x4 x5 s0 H locs ls h; exact nomatch (show (none : Option (Int32 × (St))) = some r from h)
  | succ k ih => exact dB_X10_coming_53 C K ih
set_option maxHeartbeats 40000000 in
set_option maxRecDepth 100000 in
theorem db_X10_coming_0 {p : Program} {l : Launch} {e : Env} {s : State} {m : MethodId} {args : Array Value} {below : List Frame} {meth : Method} {c : Code} {Q : State → Prop} {A : Nat → Prop} {dC : Nat → ClassId} {dI : Nat → Nat → Nat} {a : Nat → Nat} {ac : Nat → ClassId} {n : Nat} {r : Int32 × (St)} (C : nd_C p l s m args c A (dC, dI) cX10_coming 6 RX10 ow_dm_X10_coming (dk_X10 ac)) (K : nd_Ki p l e (headSpec ow_dm_X10_coming ({ frames := 1, cells := 0, slots := 0, locals := 23 })).room s m args below meth c Q A (dC, dI) cX10_coming .int (St) (dw_X10 a ac) r) : dj_X10_coming_0 p l e s m args below meth c Q A dC dI a ac (df_X10_coming_0 n) r := by
  obtain ⟨hlt, hx, hb, hml, hown, hts, hN, hA, hK⟩ := id C
  intro v0 v1 s0 H locs ls h hP hD hS hl
  unfold df_X10_coming_0 at h
  refine lv_aload_n hx hb dX10_coming_0 rfl (lv_at hl 0 rfl) ?_
  refine lv_iload_n hx hb dX10_coming_1 rfl (lv_at hl 1 rfl) ?_
  obtain ⟨q1, s2, hq, h⟩ := nd_b2_e h
  have hPc := hP
  have hDc := hD
  have hKc := hK
  have hFc := nd_rs hD hS hA
  refine nd_cVi (As := [.int v0]) (rest := []) (q := q1) (w' := dw_X10 a ac s2) ⟨hx, hb, hml, hown, hts⟩ (fun sz => dm_X10_amount l hlt dC dI a ac n (v0) s0 hq sz) (cwV 1 hts gi_dm_X10_coming_0 rfl rfl rfl (by decide +kernel) ⟨Nat.le_of_ble_eq_true rfl, Nat.le_of_ble_eq_true rfl⟩) hPc hDc hKc hS hA hN (va_recv hKc hPc (ci := 11) (q0 := 0) rfl rfl) rfl hl.1 rfl (Nat.le_of_ble_eq_true rfl) dX10_coming_2 (fun H locs hP1 hD1 hk1 hS => ?_)
  have hP := hP1
  have hD := hD1.weaken (fun k q _ h => hFc q.1 h)
  refine lv_istore_n (lv' := [(3, .int q1), (0, .ref (a 0)), (1, .int v0), (2, .int v1)]) hx hb dX10_coming_5 rfl hl (by decide) rfl (fun ls hl => ?_)
  refine lv_aload_n hx hb dX10_coming_6 rfl (lv_at hl 1 rfl) ?_
  refine lv_iload_n hx hb dX10_coming_7 rfl (lv_at hl 2 rfl) ?_
  refine lv_iconst (v := 0) hx hb dX10_coming_8 (by decide) ?_
  obtain ⟨q4, s5, hq, h⟩ := nd_b2_e h
  have hPc := hP
  have hDc := hD
  have hKc := hK
  have hFc := nd_rs hD hS hA
  refine nd_cVi (As := [.int v0, .int 0]) (rest := []) (q := q4) (w' := dw_X10 a ac s5) ⟨hx, hb, hml, hown, hts⟩ (fun sz => dm_X10_of l hlt dC dI a ac n (v0) (0) s2 hq sz) (cwV 2 hts gi_dm_X10_coming_1 rfl rfl rfl (by decide +kernel) ⟨Nat.le_of_ble_eq_true rfl, Nat.le_of_ble_eq_true rfl⟩) hPc hDc hKc hS hA hN (va_recv hKc hPc (ci := 11) (q0 := 0) rfl rfl) rfl hl.1 rfl (Nat.le_of_ble_eq_true rfl) dX10_coming_9 (fun H locs hP1 hD1 hk1 hS => ?_)
  have hP := hP1
  have hD := hD1.weaken (fun k q _ h => hFc q.1 h)
  refine lv_iconst (v := 3) hx hb dX10_coming_12 (by decide) ?_
  refine lv_icmp_ne (tgt := 33) hx hb dX10_coming_13 (by decide) (fun c7 => ?_) (fun c7 => ?_)
  · have h := nd_neg h c7
    refine lv_iload_n hx hb dX10_coming_33 rfl (lv_at hl 3 rfl) ?_
    refine lv_iload_n hx hb dX10_coming_34 rfl (lv_at hl 0 rfl) ?_
    refine va_mmin hx hb (by rw [hml]; exact hl.1.symm) hown (hts (.methodLink RX10 87 Lib.Math.min.name) (List.mem_of_getElem? (i := 8) rfl)) (hts (.static Lib.Math.min.name) (List.mem_of_getElem? (i := 9) rfl)) (hts (.initialized "java/lang/Math") (List.mem_of_getElem? (i := 10) rfl)) (hts (.code Lib.Math.min.name Lib.Math.min.code 2 (some .int)) (List.mem_of_getElem? (i := 11) rfl)) (Nat.le_of_ble_eq_true rfl) (Nat.le_of_ble_eq_true rfl) (by decide +kernel) (by decide +kernel) dX10_coming_35 ?_
    refine lv_topi (fun z8 ez8 => ?_)
    have h := nd_at h ez8
    refine lv_istore (lv' := [(4, .int z8), (3, .int q1), (0, .ref (a 0)), (1, .int v0), (2, .int v1)]) hx hb dX10_coming_38 hl (by decide) rfl (fun ls hl => ?_)
    refine lv_aload_n hx hb dX10_coming_40 rfl (lv_at hl 2 rfl) ?_
    refine lv_iload_n hx hb dX10_coming_41 rfl (lv_at hl 3 rfl) ?_
    refine lv_iconst (v := 0) hx hb dX10_coming_42 (by decide) ?_
    obtain ⟨q9, s10, hq, h⟩ := nd_b2_e h
    have hPc := hP
    have hDc := hD
    have hKc := hK
    have hFc := nd_rs hD hS hA
    refine nd_cVi (As := [.int v0, .int 0]) (rest := []) (q := q9) (w' := dw_X10 a ac s10) ⟨hx, hb, hml, hown, hts⟩ (fun sz => dm_X10_of l hlt dC dI a ac n (v0) (0) s5 hq sz) (cwV 2 hts gi_dm_X10_coming_1 rfl rfl rfl (by decide +kernel) ⟨Nat.le_of_ble_eq_true rfl, Nat.le_of_ble_eq_true rfl⟩) hPc hDc hKc hS hA hN (va_recv hKc hPc (ci := 11) (q0 := 0) rfl rfl) rfl hl.1 rfl (Nat.le_of_ble_eq_true rfl) dX10_coming_43 (fun H locs hP1 hD1 hk1 hS => ?_)
    have hP := hP1
    have hD := hD1.weaken (fun k q _ h => hFc q.1 h)
    refine lv_iconst (v := 4) hx hb dX10_coming_46 (by decide) ?_
    refine lv_icmp_ne (tgt := 80) hx hb dX10_coming_47 (by decide) (fun c12 => ?_) (fun c12 => ?_)
    · have h := nd_neg h c12
      exact (db_X10_coming_80 C K) (z8) s10 _ _ _ h hP hD hS (lv_sub hl [0] rfl)
    · have h := nd_pos h c12
      refine lv_iconst (v := 0) hx hb dX10_coming_50 (by decide) ?_
      refine lv_istore (lv' := [(5, .int 0), (4, .int z8), (3, .int q1), (0, .ref (a 0)), (1, .int v0), (2, .int v1)]) hx hb dX10_coming_51 hl (by decide) rfl (fun ls hl => ?_)
      exact (db_X10_coming_53 C K n) (z8) (0) s10 _ _ _ h hP hD hS (lv_sub hl [3, 1, 0] rfl)
  · have h := nd_pos h c7
    refine lv_iconst (v := 0) hx hb dX10_coming_16 (by decide) ?_
    refine lv_iload_n hx hb dX10_coming_17 rfl (lv_at hl 3 rfl) ?_
    refine lv_iload_n hx hb dX10_coming_18 rfl (lv_at hl 0 rfl) ?_
    refine lv_aload_n hx hb dX10_coming_19 rfl (lv_at hl 1 rfl) ?_
    refine lv_iload_n hx hb dX10_coming_20 rfl (lv_at hl 2 rfl) ?_
    refine lv_iconst (v := 3) hx hb dX10_coming_21 (by decide) ?_
    obtain ⟨q17, s18, hq, h⟩ := nd_b2_e h
    have hPc := hP
    have hDc := hD
    have hKc := hK
    have hFc := nd_rs hD hS hA
    refine nd_cVi (As := [.int v0, .int 3]) (rest := [.int q1, .int v1, .int 0]) (q := q17) (w' := dw_X10 a ac s18) ⟨hx, hb, hml, hown, hts⟩ (fun sz => dm_X10_of l hlt dC dI a ac n (v0) (3) s5 hq sz) (cwV 2 hts gi_dm_X10_coming_1 rfl rfl rfl (by decide +kernel) ⟨Nat.le_of_ble_eq_true rfl, Nat.le_of_ble_eq_true rfl⟩) hPc hDc hKc hS hA hN (va_recv hKc hPc (ci := 11) (q0 := 0) rfl rfl) rfl hl.1 rfl (Nat.le_of_ble_eq_true rfl) dX10_coming_22 (fun H locs hP1 hD1 hk1 hS => ?_)
    have hP := hP1
    have hD := hD1.weaken (fun k q _ h => hFc q.1 h)
    refine lv_isub hx hb dX10_coming_25 ?_
    refine va_mmin hx hb (by rw [hml]; exact hl.1.symm) hown (hts (.methodLink RX10 87 Lib.Math.min.name) (List.mem_of_getElem? (i := 8) rfl)) (hts (.static Lib.Math.min.name) (List.mem_of_getElem? (i := 9) rfl)) (hts (.initialized "java/lang/Math") (List.mem_of_getElem? (i := 10) rfl)) (hts (.code Lib.Math.min.name Lib.Math.min.code 2 (some .int)) (List.mem_of_getElem? (i := 11) rfl)) (Nat.le_of_ble_eq_true rfl) (Nat.le_of_ble_eq_true rfl) (by decide +kernel) (by decide +kernel) dX10_coming_26 ?_
    refine va_mmax hx hb (by rw [hml]; exact hl.1.symm) hown (hts (.methodLink RX10 68 Lib.Math.max.name) (List.mem_of_getElem? (i := 13) rfl)) (hts (.static Lib.Math.max.name) (List.mem_of_getElem? (i := 14) rfl)) (hts (.initialized "java/lang/Math") (List.mem_of_getElem? (i := 10) rfl)) (hts (.code Lib.Math.max.name Lib.Math.max.code 2 (some .int)) (List.mem_of_getElem? (i := 15) rfl)) (Nat.le_of_ble_eq_true rfl) (Nat.le_of_ble_eq_true rfl) (by decide +kernel) (by decide +kernel) dX10_coming_29 ?_
    exact K _ _ _ _ _ _ dX10_coming_32 rfl (Option.some.inj h).symm hP hD hS
set_option maxHeartbeats 40000000 in
set_option maxRecDepth 100000 in
theorem dm_X10_coming (l : Launch) (hlt : l.stackTraces = false) (dC : Nat → ClassId) (dI : Nat → Nat → Nat) (a : Nat → Nat) (ac : Nat → ClassId) (n : Nat) (v0 : Int32) (v1 : Int32) (s0 : St) {r : Int32 × (St)} (h : df_X10_coming n v0 v1 s0 = some r) (sz : Nat) : Met l yX10_coming ow_dm_X10_coming ({ frames := 1, cells := 0, slots := 0, locals := 23 }) (va_Pc [.ref (a 0), .int v0, .int v1] (fun U => U.heap.size = sz ∧ va_P (dC, dI) vwCl (dw_X10 a ac s0) U.heap ∧ va_K (dC, dI) vwCl (dk_X10 ac) U ∧ va_D (fun _ => True) (dw_X10 a ac s0) ∧ nv_E dI (va_A (dw_X10 a ac s0) sz) U)) (va_Qi (fun x _ => x = r.1) (fun (_ : Unit) t => va_P (dC, dI) vwCl (dw_X10 a ac r.2) t.heap ∧ va_K (dC, dI) vwCl (dk_X10 ac) t ∧ va_D (va_A (dw_X10 a ac s0) sz) (dw_X10 a ac r.2)) (va_A (dw_X10 a ac s0) sz)) 0 0 (va_A (dw_X10 a ac s0) sz) := by
  refine Met.ofW (cc := cX10_coming) (maxL := 6) (ret := (some .int)) (by decide) rfl ?_
  intro p e s m args below meth c s₁ B hml hv
  obtain ⟨rfl, hsz, hP, hK, hD0, hN⟩ := hv
  have hx := B.exec
  have hb := B.bytes
  have hr := B.returns
  have hts := atoms_spec (ws := ow_dm_X10_coming) B.pre
  have hown : s.vm.findClass RX10 = some m.cls := findClass_of_methodNamed B.named
  have hlocks := B.notSynchronized
  subst hsz
  have hD := hD0.self (sz := s.heap.size)
  generalize hAe : va_A (dw_X10 a ac s0) s.heap.size = A at hD hN ⊢
  have hA : ∀ q : Nat, s.heap.size ≤ q → A q := fun q h => by rw [← hAe]; exact Or.inr h
  have hl := lv_entry ([.ref (a 0), .int v0, .int v1]) (n := 6) (Nat.le_of_ble_eq_true rfl)
  rw [lg_entry_eq]
  generalize (lg_sl ([.ref (a 0), .int v0, .int v1]) ++ List.replicate (6 - (lg_sl ([.ref (a 0), .int v0, .int v1])).length) Slot.unset).toArray = ls at hl ⊢
  have hl : lv_has ls 6 [(0, .ref (a 0)), (1, .int v0), (2, .int v1)] := hl
  exact db_X10_coming_0 (dC := dC) (dI := dI) (a := a) (ac := ac) (n := n) (r := r) ⟨hlt, hx, hb, hml, hown, hts, hN, hA, hK⟩ (fun pc v τ H locs ls d z er hP hD hS => by subst er; exact W.zret (v := v) hx hb hr z (fun t ht hW => ⟨⟨v, (), rfl, rfl, by rw [ht]; exact hP, va_K.moved hW.alike hK, hD⟩, hS.F ht⟩) hS.2.2 d) v0 v1 s0 _ _ _ h hP hD va_S.rf (lv_sub hl [0, 1, 2] rfl)
def ow_dm_X10_comingByte : List Cond := Cond.code yX10_comingByte cX10_comingByte 3 (some .int) :: ([Cond.methodLink RX10 74 yX10_of, Cond.instanceMethod yX10_of, Cond.selects RX10 yX10_of yX10_of, Cond.initialized RX10, Cond.methodLink RX10 90 yX10_byteOf, Cond.instanceMethod yX10_byteOf, Cond.selects RX10 yX10_byteOf yX10_byteOf] ++ (ow_dm_X10_of ++ (ow_dm_X10_byteOf ++ [])))
theorem gd_dm_X10_comingByte : ∀ w ∈ ow_dm_X10_comingByte, (w.onTables && w.keeps) = true ∨ ∃ ty, w = Cond.arrayClass ty := List.forall_mem_cons.mpr ⟨good_of_word rfl, List.forall_mem_append.mpr ⟨fun w h => good_of_word (List.all_eq_true.mp (by decide +kernel) w h), List.forall_mem_append.mpr ⟨gd_dm_X10_of, List.forall_mem_append.mpr ⟨gd_dm_X10_byteOf, fun _ h => nomatch h⟩⟩⟩⟩
theorem gi_dm_X10_comingByte_0 : GoodIn ow_dm_X10_comingByte (wsV RX10 74 RX10 yX10_of ow_dm_X10_of) := goodIn_app (goodIn_of _ (by decide +kernel)) (fun w h => ⟨List.mem_cons_of_mem _ (List.mem_append_right _ (List.mem_append_left _ h)), gd_dm_X10_of w h⟩)
theorem gi_dm_X10_comingByte_1 : GoodIn ow_dm_X10_comingByte (wsV RX10 90 RX10 yX10_byteOf ow_dm_X10_byteOf) := goodIn_app (goodIn_of _ (by decide +kernel)) (fun w h => ⟨List.mem_cons_of_mem _ (List.mem_append_right _ (List.mem_append_right _ (List.mem_append_left _ h))), gd_dm_X10_byteOf w h⟩)
def dj_X10_comingByte_24 (p : Program) (l : Launch) (e : Env) (s : State) (m : MethodId) (args : Array Value) (below : List Frame) (meth : Method) (c : Code) (Q : State → Prop) (A : Nat → Prop) (dC : Nat → ClassId) (dI : Nat → Nat → Nat) (a : Nat → Nat) (ac : Nat → ClassId) (g : Int32 → Int32 → (St) → Option (Int32 × (St))) (r : Int32 × (St)) : Prop := ∀ (y1 : Int32) (y2 : Int32) (s0 : St) (H : Heap) (locs : List Loc) (ls : Array Slot), g y1 y2 s0 = some r → va_P (dC, dI) vwCl (dw_X10 a ac s0) H → va_D A (dw_X10 a ac s0) → va_S A s.heap H locs → lv_has ls 3 [] → W p l e (headSpec ow_dm_X10_comingByte ({ frames := 1, cells := 0, slots := 0, locals := 23 })).room s m args below meth c H locs 0 0 Q (F0 m 24 ls [.int y2, .int y1, .ref (a 0)])
def dj_X10_comingByte_0 (p : Program) (l : Launch) (e : Env) (s : State) (m : MethodId) (args : Array Value) (below : List Frame) (meth : Method) (c : Code) (Q : State → Prop) (A : Nat → Prop) (dC : Nat → ClassId) (dI : Nat → Nat → Nat) (a : Nat → Nat) (ac : Nat → ClassId) (g : Int32 → Int32 → (St) → Option (Int32 × (St))) (r : Int32 × (St)) : Prop := ∀ (v0 : Int32) (v1 : Int32) (s0 : St) (H : Heap) (locs : List Loc) (ls : Array Slot), g v0 v1 s0 = some r → va_P (dC, dI) vwCl (dw_X10 a ac s0) H → va_D A (dw_X10 a ac s0) → va_S A s.heap H locs → lv_has ls 3 [(0, .ref (a 0)), (1, .int v0), (2, .int v1)] → W p l e (headSpec ow_dm_X10_comingByte ({ frames := 1, cells := 0, slots := 0, locals := 23 })).room s m args below meth c H locs 0 0 Q (F0 m 0 ls [])
set_option maxHeartbeats 40000000 in
set_option maxRecDepth 100000 in
theorem db_X10_comingByte_24 {p : Program} {l : Launch} {e : Env} {s : State} {m : MethodId} {args : Array Value} {below : List Frame} {meth : Method} {c : Code} {Q : State → Prop} {A : Nat → Prop} {dC : Nat → ClassId} {dI : Nat → Nat → Nat} {a : Nat → Nat} {ac : Nat → ClassId} {n : Nat} {r : Int32 × (St)} (C : nd_C p l s m args c A (dC, dI) cX10_comingByte 3 RX10 ow_dm_X10_comingByte (dk_X10 ac)) (K : nd_Ki p l e (headSpec ow_dm_X10_comingByte ({ frames := 1, cells := 0, slots := 0, locals := 23 })).room s m args below meth c Q A (dC, dI) cX10_comingByte .int (St) (dw_X10 a ac) r) : dj_X10_comingByte_24 p l e s m args below meth c Q A dC dI a ac (df_X10_comingByte_24 n) r := by
  obtain ⟨hlt, hx, hb, hml, hown, hts, hN, hA, hK⟩ := id C
  intro y1 y2 s0 H locs ls h hP hD hS hl
  unfold df_X10_comingByte_24 at h
  obtain ⟨q5, s6, hq, h⟩ := nd_b2_e h
  have hPc := hP
  have hDc := hD
  have hKc := hK
  have hFc := nd_rs hD hS hA
  refine nd_cVi (As := [.int y1, .int y2]) (rest := []) (q := q5) (w' := dw_X10 a ac s6) ⟨hx, hb, hml, hown, hts⟩ (fun sz => dm_X10_byteOf l hlt dC dI a ac n (y1) (y2) s0 hq sz) (cwV 2 hts gi_dm_X10_comingByte_1 rfl rfl rfl (by decide +kernel) ⟨Nat.le_of_ble_eq_true rfl, Nat.le_of_ble_eq_true rfl⟩) hPc hDc hKc hS hA hN (va_recv hKc hPc (ci := 11) (q0 := 0) rfl rfl) rfl hl.1 rfl (Nat.le_of_ble_eq_true rfl) dX10_comingByte_24 (fun H locs hP1 hD1 hk1 hS => ?_)
  have hP := hP1
  have hD := hD1.weaken (fun k q _ h => hFc q.1 h)
  exact K _ _ _ _ _ _ dX10_comingByte_27 rfl (Option.some.inj h).symm hP hD hS
set_option maxHeartbeats 40000000 in
set_option maxRecDepth 100000 in
theorem db_X10_comingByte_0 {p : Program} {l : Launch} {e : Env} {s : State} {m : MethodId} {args : Array Value} {below : List Frame} {meth : Method} {c : Code} {Q : State → Prop} {A : Nat → Prop} {dC : Nat → ClassId} {dI : Nat → Nat → Nat} {a : Nat → Nat} {ac : Nat → ClassId} {n : Nat} {r : Int32 × (St)} (C : nd_C p l s m args c A (dC, dI) cX10_comingByte 3 RX10 ow_dm_X10_comingByte (dk_X10 ac)) (K : nd_Ki p l e (headSpec ow_dm_X10_comingByte ({ frames := 1, cells := 0, slots := 0, locals := 23 })).room s m args below meth c Q A (dC, dI) cX10_comingByte .int (St) (dw_X10 a ac) r) : dj_X10_comingByte_0 p l e s m args below meth c Q A dC dI a ac (df_X10_comingByte_0 n) r := by
  obtain ⟨hlt, hx, hb, hml, hown, hts, hN, hA, hK⟩ := id C
  intro v0 v1 s0 H locs ls h hP hD hS hl
  unfold df_X10_comingByte_0 at h
  refine lv_aload_n hx hb dX10_comingByte_0 rfl (lv_at hl 0 rfl) ?_
  refine lv_iload_n hx hb dX10_comingByte_1 rfl (lv_at hl 1 rfl) ?_
  refine lv_aload_n hx hb dX10_comingByte_2 rfl (lv_at hl 0 rfl) ?_
  refine lv_iload_n hx hb dX10_comingByte_3 rfl (lv_at hl 1 rfl) ?_
  refine lv_iconst (v := 0) hx hb dX10_comingByte_4 (by decide) ?_
  obtain ⟨q1, s2, hq, h⟩ := nd_b2_e h
  have hPc := hP
  have hDc := hD
  have hKc := hK
  have hFc := nd_rs hD hS hA
  refine nd_cVi (As := [.int v0, .int 0]) (rest := [.int v0, .ref (a 0)]) (q := q1) (w' := dw_X10 a ac s2) ⟨hx, hb, hml, hown, hts⟩ (fun sz => dm_X10_of l hlt dC dI a ac n (v0) (0) s0 hq sz) (cwV 2 hts gi_dm_X10_comingByte_0 rfl rfl rfl (by decide +kernel) ⟨Nat.le_of_ble_eq_true rfl, Nat.le_of_ble_eq_true rfl⟩) hPc hDc hKc hS hA hN (va_recv hKc hPc (ci := 11) (q0 := 0) rfl rfl) rfl hl.1 rfl (Nat.le_of_ble_eq_true rfl) dX10_comingByte_5 (fun H locs hP1 hD1 hk1 hS => ?_)
  have hP := hP1
  have hD := hD1.weaken (fun k q _ h => hFc q.1 h)
  refine lv_iconst (v := 3) hx hb dX10_comingByte_8 (by decide) ?_
  refine lv_icmp_ne (tgt := 23) hx hb dX10_comingByte_9 (by decide) (fun c4 => ?_) (fun c4 => ?_)
  · have h := nd_neg h c4
    refine lv_iload_n hx hb dX10_comingByte_23 rfl (lv_at hl 2 rfl) ?_
    exact (db_X10_comingByte_24 C K) (v0) (v1) s2 _ _ _ h hP hD hS (lv_sub hl [] rfl)
  · have h := nd_pos h c4
    refine lv_aload_n hx hb dX10_comingByte_12 rfl (lv_at hl 0 rfl) ?_
    refine lv_iload_n hx hb dX10_comingByte_13 rfl (lv_at hl 1 rfl) ?_
    refine lv_iconst (v := 3) hx hb dX10_comingByte_14 (by decide) ?_
    obtain ⟨q8, s9, hq, h⟩ := nd_b2_e h
    have hPc := hP
    have hDc := hD
    have hKc := hK
    have hFc := nd_rs hD hS hA
    refine nd_cVi (As := [.int v0, .int 3]) (rest := [.int v0, .ref (a 0)]) (q := q8) (w' := dw_X10 a ac s9) ⟨hx, hb, hml, hown, hts⟩ (fun sz => dm_X10_of l hlt dC dI a ac n (v0) (3) s2 hq sz) (cwV 2 hts gi_dm_X10_comingByte_0 rfl rfl rfl (by decide +kernel) ⟨Nat.le_of_ble_eq_true rfl, Nat.le_of_ble_eq_true rfl⟩) hPc hDc hKc hS hA hN (va_recv hKc hPc (ci := 11) (q0 := 0) rfl rfl) rfl hl.1 rfl (Nat.le_of_ble_eq_true rfl) dX10_comingByte_15 (fun H locs hP1 hD1 hk1 hS => ?_)
    have hP := hP1
    have hD := hD1.weaken (fun k q _ h => hFc q.1 h)
    refine lv_iload_n hx hb dX10_comingByte_18 rfl (lv_at hl 2 rfl) ?_
    refine lv_iadd hx hb dX10_comingByte_19 ?_
    refine lv_goto (tgt := 24) hx hb dX10_comingByte_20 (by decide) ?_
    exact (db_X10_comingByte_24 C K) (v0) ((q8 + v1)) s9 _ _ _ h hP hD hS (lv_sub hl [] rfl)
set_option maxHeartbeats 40000000 in
set_option maxRecDepth 100000 in
theorem dm_X10_comingByte (l : Launch) (hlt : l.stackTraces = false) (dC : Nat → ClassId) (dI : Nat → Nat → Nat) (a : Nat → Nat) (ac : Nat → ClassId) (n : Nat) (v0 : Int32) (v1 : Int32) (s0 : St) {r : Int32 × (St)} (h : df_X10_comingByte n v0 v1 s0 = some r) (sz : Nat) : Met l yX10_comingByte ow_dm_X10_comingByte ({ frames := 1, cells := 0, slots := 0, locals := 23 }) (va_Pc [.ref (a 0), .int v0, .int v1] (fun U => U.heap.size = sz ∧ va_P (dC, dI) vwCl (dw_X10 a ac s0) U.heap ∧ va_K (dC, dI) vwCl (dk_X10 ac) U ∧ va_D (fun _ => True) (dw_X10 a ac s0) ∧ nv_E dI (va_A (dw_X10 a ac s0) sz) U)) (va_Qi (fun x _ => x = r.1) (fun (_ : Unit) t => va_P (dC, dI) vwCl (dw_X10 a ac r.2) t.heap ∧ va_K (dC, dI) vwCl (dk_X10 ac) t ∧ va_D (va_A (dw_X10 a ac s0) sz) (dw_X10 a ac r.2)) (va_A (dw_X10 a ac s0) sz)) 0 0 (va_A (dw_X10 a ac s0) sz) := by
  refine Met.ofW (cc := cX10_comingByte) (maxL := 3) (ret := (some .int)) (by decide) rfl ?_
  intro p e s m args below meth c s₁ B hml hv
  obtain ⟨rfl, hsz, hP, hK, hD0, hN⟩ := hv
  have hx := B.exec
  have hb := B.bytes
  have hr := B.returns
  have hts := atoms_spec (ws := ow_dm_X10_comingByte) B.pre
  have hown : s.vm.findClass RX10 = some m.cls := findClass_of_methodNamed B.named
  have hlocks := B.notSynchronized
  subst hsz
  have hD := hD0.self (sz := s.heap.size)
  generalize hAe : va_A (dw_X10 a ac s0) s.heap.size = A at hD hN ⊢
  have hA : ∀ q : Nat, s.heap.size ≤ q → A q := fun q h => by rw [← hAe]; exact Or.inr h
  have hl := lv_entry ([.ref (a 0), .int v0, .int v1]) (n := 3) (Nat.le_of_ble_eq_true rfl)
  rw [lg_entry_eq]
  generalize (lg_sl ([.ref (a 0), .int v0, .int v1]) ++ List.replicate (3 - (lg_sl ([.ref (a 0), .int v0, .int v1])).length) Slot.unset).toArray = ls at hl ⊢
  have hl : lv_has ls 3 [(0, .ref (a 0)), (1, .int v0), (2, .int v1)] := hl
  exact db_X10_comingByte_0 (dC := dC) (dI := dI) (a := a) (ac := ac) (n := n) (r := r) ⟨hlt, hx, hb, hml, hown, hts, hN, hA, hK⟩ (fun pc v τ H locs ls d z er hP hD hS => by subst er; exact W.zret (v := v) hx hb hr z (fun t ht hW => ⟨⟨v, (), rfl, rfl, by rw [ht]; exact hP, va_K.moved hW.alike hK, hD⟩, hS.F ht⟩) hS.2.2 d) v0 v1 s0 _ _ _ h hP hD va_S.rf (lv_sub hl [0, 1, 2] rfl)
def ow_dm_X10_taken : List Cond := Cond.code yX10_taken cX10_taken 6 none :: ([Cond.methodLink RX10 74 yX10_of, Cond.instanceMethod yX10_of, Cond.selects RX10 yX10_of yX10_of, Cond.initialized RX10, Cond.fieldLink RX10 15 "TimeMachine$Things" "opening" "[I", Cond.fieldLink RX10 34 "TimeMachine$Things" "typed" "[B", Cond.fieldLink RX10 46 "TimeMachine$Things" "typedBytes" "I", Cond.methodLink RX10 62 arraycopyName, .native arraycopyName, Cond.static arraycopyName, Cond.initialized "java/lang/System", Cond.fieldLink RX10 18 "TimeMachine$Things" "pipe" "[I"] ++ (u_ws RX10 TX10 11 ++ (ow_dm_X10_of ++ [])))
theorem gd_dm_X10_taken : ∀ w ∈ ow_dm_X10_taken, (w.onTables && w.keeps) = true ∨ ∃ ty, w = Cond.arrayClass ty := List.forall_mem_cons.mpr ⟨good_of_word rfl, List.forall_mem_append.mpr ⟨fun w h => good_of_word (List.all_eq_true.mp (by decide +kernel) w h), List.forall_mem_append.mpr ⟨gu_X10, List.forall_mem_append.mpr ⟨gd_dm_X10_of, fun _ h => nomatch h⟩⟩⟩⟩
theorem hi_dm_X10_taken_X10 : ∀ w ∈ u_ws RX10 TX10 11, w ∈ ow_dm_X10_taken := fun w h => List.mem_cons_of_mem _ (List.mem_append_right _ (List.mem_append_left _ h))
theorem gi_dm_X10_taken_0 : GoodIn ow_dm_X10_taken (wsV RX10 74 RX10 yX10_of ow_dm_X10_of) := goodIn_app (goodIn_of _ (by decide +kernel)) (fun w h => ⟨List.mem_cons_of_mem _ (List.mem_append_right _ (List.mem_append_right _ (List.mem_append_left _ h))), gd_dm_X10_of w h⟩)
def dj_X10_taken_157 (p : Program) (l : Launch) (e : Env) (s : State) (m : MethodId) (args : Array Value) (below : List Frame) (meth : Method) (c : Code) (Q : State → Prop) (A : Nat → Prop) (dC : Nat → ClassId) (dI : Nat → Nat → Nat) (a : Nat → Nat) (ac : Nat → ClassId) (g : (St) → Option (St)) (r : St) : Prop := ∀ (s0 : St) (H : Heap) (locs : List Loc) (ls : Array Slot), g s0 = some r → va_P (dC, dI) vwCl (dw_X10 a ac s0) H → va_D A (dw_X10 a ac s0) → va_S A s.heap H locs → lv_has ls 6 [] → W p l e (headSpec ow_dm_X10_taken ({ frames := 1, cells := 0, slots := 0, locals := 40 })).room s m args below meth c H locs 0 0 Q (F0 m 157 ls [])
def dj_X10_taken_77 (p : Program) (l : Launch) (e : Env) (s : State) (m : MethodId) (args : Array Value) (below : List Frame) (meth : Method) (c : Code) (Q : State → Prop) (A : Nat → Prop) (dC : Nat → ClassId) (dI : Nat → Nat → Nat) (a : Nat → Nat) (ac : Nat → ClassId) (g : Int32 → (St) → Option (St)) (r : St) : Prop := ∀ (y0 : Int32) (s0 : St) (H : Heap) (locs : List Loc) (ls : Array Slot), g y0 s0 = some r → va_P (dC, dI) vwCl (dw_X10 a ac s0) H → va_D A (dw_X10 a ac s0) → va_S A s.heap H locs → lv_has ls 6 [(0, .ref (a 0))] → W p l e (headSpec ow_dm_X10_taken ({ frames := 1, cells := 0, slots := 0, locals := 40 })).room s m args below meth c H locs 0 0 Q (F0 m 77 ls [.int y0])
def dj_X10_taken_76 (p : Program) (l : Launch) (e : Env) (s : State) (m : MethodId) (args : Array Value) (below : List Frame) (meth : Method) (c : Code) (Q : State → Prop) (A : Nat → Prop) (dC : Nat → ClassId) (dI : Nat → Nat → Nat) (a : Nat → Nat) (ac : Nat → ClassId) (g : Int32 → (St) → Option (St)) (r : St) : Prop := ∀ (x3 : Int32) (s0 : St) (H : Heap) (locs : List Loc) (ls : Array Slot), g x3 s0 = some r → va_P (dC, dI) vwCl (dw_X10 a ac s0) H → va_D A (dw_X10 a ac s0) → va_S A s.heap H locs → lv_has ls 6 [(0, .ref (a 0)), (3, .int x3)] → W p l e (headSpec ow_dm_X10_taken ({ frames := 1, cells := 0, slots := 0, locals := 40 })).room s m args below meth c H locs 0 0 Q (F0 m 76 ls [])
def dj_X10_taken_0 (p : Program) (l : Launch) (e : Env) (s : State) (m : MethodId) (args : Array Value) (below : List Frame) (meth : Method) (c : Code) (Q : State → Prop) (A : Nat → Prop) (dC : Nat → ClassId) (dI : Nat → Nat → Nat) (a : Nat → Nat) (ac : Nat → ClassId) (g : Int32 → Int32 → Int32 → (St) → Option (St)) (r : St) : Prop := ∀ (v0 : Int32) (v1 : Int32) (v2 : Int32) (s0 : St) (H : Heap) (locs : List Loc) (ls : Array Slot), g v0 v1 v2 s0 = some r → va_P (dC, dI) vwCl (dw_X10 a ac s0) H → va_D A (dw_X10 a ac s0) → va_S A s.heap H locs → lv_has ls 6 [(0, .ref (a 0)), (1, .int v0), (2, .int v1), (3, .int v2)] → W p l e (headSpec ow_dm_X10_taken ({ frames := 1, cells := 0, slots := 0, locals := 40 })).room s m args below meth c H locs 0 0 Q (F0 m 0 ls [])
set_option maxHeartbeats 40000000 in
set_option maxRecDepth 100000 in
theorem db_X10_taken_157 {p : Program} {l : Launch} {e : Env} {s : State} {m : MethodId} {args : Array Value} {below : List Frame} {meth : Method} {c : Code} {Q : State → Prop} {A : Nat → Prop} {dC : Nat → ClassId} {dI : Nat → Nat → Nat} {a : Nat → Nat} {ac : Nat → ClassId} {n : Nat} {r : St} (C : nd_C p l s m args c A (dC, dI) cX10_taken 6 RX10 ow_dm_X10_taken (dk_X10 ac)) (K : nd_Kv p l e (headSpec ow_dm_X10_taken ({ frames := 1, cells := 0, slots := 0, locals := 40 })).room s m args below meth c Q A (dC, dI) cX10_taken (St) (dw_X10 a ac) r) : dj_X10_taken_157 p l e s m args below meth c Q A dC dI a ac (df_X10_taken_157 n) r := by
  obtain ⟨hlt, hx, hb, hml, hown, hts, hN, hA, hK⟩ := id C
  intro s0 H locs ls h hP hD hS hl
  unfold df_X10_taken_157 at h
  exact K _ _ _ _ _ dX10_taken_157 (Option.some.inj h).symm hP hD hS
set_option maxHeartbeats 40000000 in
set_option maxRecDepth 100000 in
theorem db_X10_taken_77 {p : Program} {l : Launch} {e : Env} {s : State} {m : MethodId} {args : Array Value} {below : List Frame} {meth : Method} {c : Code} {Q : State → Prop} {A : Nat → Prop} {dC : Nat → ClassId} {dI : Nat → Nat → Nat} {a : Nat → Nat} {ac : Nat → ClassId} {n : Nat} {r : St} (C : nd_C p l s m args c A (dC, dI) cX10_taken 6 RX10 ow_dm_X10_taken (dk_X10 ac)) (K : nd_Kv p l e (headSpec ow_dm_X10_taken ({ frames := 1, cells := 0, slots := 0, locals := 40 })).room s m args below meth c Q A (dC, dI) cX10_taken (St) (dw_X10 a ac) r) : dj_X10_taken_77 p l e s m args below meth c Q A dC dI a ac (df_X10_taken_77 n) r := by
  obtain ⟨hlt, hx, hb, hml, hown, hts, hN, hA, hK⟩ := id C
  intro y0 s0 H locs ls h hP hD hS hl
  unfold df_X10_taken_77 at h
  refine lv_istore (lv' := [(5, .int y0), (0, .ref (a 0))]) hx hb dX10_taken_77 hl (by decide) rfl (fun ls hl => ?_)
  refine lv_aload_n hx hb dX10_taken_79 rfl (lv_at hl 1 rfl) ?_
  refine va_get (D := (dC, dI)) (ci := 11) (v := .ref (a 8)) (C := RX10) (T := TX10) (N := 11) hx hb hts hi_dm_X10_taken_X10 hown hK hP 0 rfl rfl 7 (by decide) (hts (.fieldLink RX10 34 "TimeMachine$Things" "typed" "[B") (List.mem_of_getElem? (i := 6) rfl)) (fun _ h9 => h9) rfl dX10_taken_80 ?_
  refine lv_iload hx hb dX10_taken_83 (lv_at hl 0 rfl) ?_
  refine lv_aload_n hx hb dX10_taken_85 rfl (lv_at hl 1 rfl) ?_
  refine va_get (D := (dC, dI)) (ci := 11) (v := .ref (a 8)) (C := RX10) (T := TX10) (N := 11) hx hb hts hi_dm_X10_taken_X10 hown hK hP 0 rfl rfl 7 (by decide) (hts (.fieldLink RX10 34 "TimeMachine$Things" "typed" "[B") (List.mem_of_getElem? (i := 6) rfl)) (fun _ h9 => h9) rfl dX10_taken_86 ?_
  refine lv_iconst (v := 0) hx hb dX10_taken_89 (by decide) ?_
  refine lv_aload_n hx hb dX10_taken_90 rfl (lv_at hl 1 rfl) ?_
  refine va_get (D := (dC, dI)) (ci := 11) (v := .int (sI s0 0)) (C := RX10) (T := TX10) (N := 11) hx hb hts hi_dm_X10_taken_X10 hown hK hP 0 rfl rfl 8 (by decide) (hts (.fieldLink RX10 46 "TimeMachine$Things" "typedBytes" "I") (List.mem_of_getElem? (i := 7) rfl)) (fun _ h9 => h9) rfl dX10_taken_91 ?_
  refine lv_iload hx hb dX10_taken_94 (lv_at hl 0 rfl) ?_
  refine lv_isub hx hb dX10_taken_96 ?_
  obtain ⟨k13, h⟩ := nd_cp_e h
  obtain ⟨k14, h⟩ := nd_fa_e h
  refine va_copyi (sp := y0) (dp := 0) (n := ((sI s0 0) - y0)) hx hb (by rw [hml]; exact hl.1.symm) hown (hts (.methodLink RX10 62 arraycopyName) (List.mem_of_getElem? (i := 8) rfl)) (hts (.native arraycopyName) (List.mem_of_getElem? (i := 9) rfl)) (hts (.static arraycopyName) (List.mem_of_getElem? (i := 10) rfl)) (hts (.initialized "java/lang/System") (List.mem_of_getElem? (i := 11) rfl)) hK hP hD hS 8 8 7 7 rfl rfl rfl rfl rfl k13.1 k13.2.1 k13.2.2.1 k13.2.2.2.1 k13.2.2.2.2 k14 (Nat.le_of_ble_eq_true rfl) (by decide +kernel) dX10_taken_97 (fun H locs hP hD hS => ?_)
  obtain ⟨s15, es15, h⟩ := nd_let_e h
  have hP : va_P (dC, dI) vwCl (dw_X10 a ac s15) H := by rw [es15]; exact hP
  have hD : va_D A (dw_X10 a ac s15) := by rw [es15]; exact hD
  refine lv_aload_n hx hb dX10_taken_100 rfl (lv_at hl 1 rfl) ?_
  refine lv_dup hx hb dX10_taken_101 rfl ?_
  refine va_get (D := (dC, dI)) (ci := 11) (v := .int (sI s15 0)) (C := RX10) (T := TX10) (N := 11) hx hb hts hi_dm_X10_taken_X10 hown hK hP 0 rfl rfl 8 (by decide) (hts (.fieldLink RX10 46 "TimeMachine$Things" "typedBytes" "I") (List.mem_of_getElem? (i := 7) rfl)) (fun _ h9 => h9) rfl dX10_taken_102 ?_
  refine lv_iload hx hb dX10_taken_105 (lv_at hl 0 rfl) ?_
  refine lv_isub hx hb dX10_taken_107 ?_
  refine va_put (D := (dC, dI)) (ci := 11) (v := .int ((sI s15 0) - y0)) (ty := .int) (C := RX10) (T := TX10) (N := 11) hx hb hts hi_dm_X10_taken_X10 tyX10 tyX10_ok nmX10 hown hK hP hD hS 0 rfl rfl 8 (by decide) (hts (.fieldLink RX10 46 "TimeMachine$Things" "typedBytes" "I") (List.mem_of_getElem? (i := 7) rfl)) (fun _ h9 => h9) rfl (by decide +kernel) rfl rfl (Nat.le_of_ble_eq_true rfl) dX10_taken_108 (fun H locs hP hD hS => ?_)
  obtain ⟨s16, es16, h⟩ := nd_let_e h
  have hP : va_P (dC, dI) vwCl (dw_X10 a ac s16) H := by rw [es16]; exact hP
  have hD : va_D A (dw_X10 a ac s16) := by rw [es16]; exact hD
  refine lv_goto (tgt := 157) hx hb dX10_taken_111 (by decide) ?_
  exact (db_X10_taken_157 C K)  s16 _ _ _ h hP hD hS (lv_sub hl [] rfl)
set_option maxHeartbeats 40000000 in
set_option maxRecDepth 100000 in
theorem db_X10_taken_76 {p : Program} {l : Launch} {e : Env} {s : State} {m : MethodId} {args : Array Value} {below : List Frame} {meth : Method} {c : Code} {Q : State → Prop} {A : Nat → Prop} {dC : Nat → ClassId} {dI : Nat → Nat → Nat} {a : Nat → Nat} {ac : Nat → ClassId} {n : Nat} {r : St} (C : nd_C p l s m args c A (dC, dI) cX10_taken 6 RX10 ow_dm_X10_taken (dk_X10 ac)) (K : nd_Kv p l e (headSpec ow_dm_X10_taken ({ frames := 1, cells := 0, slots := 0, locals := 40 })).room s m args below meth c Q A (dC, dI) cX10_taken (St) (dw_X10 a ac) r) : dj_X10_taken_76 p l e s m args below meth c Q A dC dI a ac (df_X10_taken_76 n) r := by
  obtain ⟨hlt, hx, hb, hml, hown, hts, hN, hA, hK⟩ := id C
  intro x3 s0 H locs ls h hP hD hS hl
  unfold df_X10_taken_76 at h
  refine lv_iload_n hx hb dX10_taken_76 rfl (lv_at hl 1 rfl) ?_
  exact (db_X10_taken_77 C K) (x3) s0 _ _ _ h hP hD hS (lv_sub hl [0] rfl)
set_option maxHeartbeats 40000000 in
set_option maxRecDepth 100000 in
theorem db_X10_taken_0 {p : Program} {l : Launch} {e : Env} {s : State} {m : MethodId} {args : Array Value} {below : List Frame} {meth : Method} {c : Code} {Q : State → Prop} {A : Nat → Prop} {dC : Nat → ClassId} {dI : Nat → Nat → Nat} {a : Nat → Nat} {ac : Nat → ClassId} {n : Nat} {r : St} (C : nd_C p l s m args c A (dC, dI) cX10_taken 6 RX10 ow_dm_X10_taken (dk_X10 ac)) (K : nd_Kv p l e (headSpec ow_dm_X10_taken ({ frames := 1, cells := 0, slots := 0, locals := 40 })).room s m args below meth c Q A (dC, dI) cX10_taken (St) (dw_X10 a ac) r) : dj_X10_taken_0 p l e s m args below meth c Q A dC dI a ac (df_X10_taken_0 n) r := by
  obtain ⟨hlt, hx, hb, hml, hown, hts, hN, hA, hK⟩ := id C
  intro v0 v1 v2 s0 H locs ls h hP hD hS hl
  unfold df_X10_taken_0 at h
  refine lv_aload_n hx hb dX10_taken_0 rfl (lv_at hl 0 rfl) ?_
  refine lv_iload_n hx hb dX10_taken_1 rfl (lv_at hl 1 rfl) ?_
  refine lv_iconst (v := 2) hx hb dX10_taken_2 (by decide) ?_
  obtain ⟨q1, s2, hq, h⟩ := nd_b2_e h
  have hPc := hP
  have hDc := hD
  have hKc := hK
  have hFc := nd_rs hD hS hA
  refine nd_cVi (As := [.int v0, .int 2]) (rest := []) (q := q1) (w' := dw_X10 a ac s2) ⟨hx, hb, hml, hown, hts⟩ (fun sz => dm_X10_of l hlt dC dI a ac n (v0) (2) s0 hq sz) (cwV 2 hts gi_dm_X10_taken_0 rfl rfl rfl (by decide +kernel) ⟨Nat.le_of_ble_eq_true rfl, Nat.le_of_ble_eq_true rfl⟩) hPc hDc hKc hS hA hN (va_recv hKc hPc (ci := 11) (q0 := 0) rfl rfl) rfl hl.1 rfl (Nat.le_of_ble_eq_true rfl) dX10_taken_3 (fun H locs hP1 hD1 hk1 hS => ?_)
  have hP := hP1
  have hD := hD1.weaken (fun k q _ h => hFc q.1 h)
  refine lv_istore (lv' := [(4, .int q1), (0, .ref (a 0)), (1, .int v0), (2, .int v1), (3, .int v2)]) hx hb dX10_taken_6 hl (by decide) rfl (fun ls hl => ?_)
  refine lv_aload_n hx hb dX10_taken_8 rfl (lv_at hl 1 rfl) ?_
  refine lv_iload_n hx hb dX10_taken_9 rfl (lv_at hl 2 rfl) ?_
  refine lv_iconst (v := 0) hx hb dX10_taken_10 (by decide) ?_
  obtain ⟨q4, s5, hq, h⟩ := nd_b2_e h
  have hPc := hP
  have hDc := hD
  have hKc := hK
  have hFc := nd_rs hD hS hA
  refine nd_cVi (As := [.int v0, .int 0]) (rest := []) (q := q4) (w' := dw_X10 a ac s5) ⟨hx, hb, hml, hown, hts⟩ (fun sz => dm_X10_of l hlt dC dI a ac n (v0) (0) s2 hq sz) (cwV 2 hts gi_dm_X10_taken_0 rfl rfl rfl (by decide +kernel) ⟨Nat.le_of_ble_eq_true rfl, Nat.le_of_ble_eq_true rfl⟩) hPc hDc hKc hS hA hN (va_recv hKc hPc (ci := 11) (q0 := 0) rfl rfl) rfl hl.1 rfl (Nat.le_of_ble_eq_true rfl) dX10_taken_11 (fun H locs hP1 hD1 hk1 hS => ?_)
  have hP := hP1
  have hD := hD1.weaken (fun k q _ h => hFc q.1 h)
  by_cases c7 : q4 = 3
  · have h := nd_pos h c7
    refine lv_lookup (off := 26) (tgt := 40) hx hb dX10_taken_14 (by decide) (by rw [c7]; decide) (by decide) ?_
    refine lv_aload_n hx hb dX10_taken_40 rfl (lv_at hl 1 rfl) ?_
    refine va_get (D := (dC, dI)) (ci := 11) (v := .ref (a 2)) (C := RX10) (T := TX10) (N := 11) hx hb hts hi_dm_X10_taken_X10 hown hK hP 0 rfl rfl 1 (by decide) (hts (.fieldLink RX10 15 "TimeMachine$Things" "opening" "[I") (List.mem_of_getElem? (i := 5) rfl)) (fun _ h9 => h9) rfl dX10_taken_41 ?_
    refine lv_iload_n hx hb dX10_taken_44 rfl (lv_at hl 2 rfl) ?_
    refine lv_iconst (v := 5) hx hb dX10_taken_45 (by decide) ?_
    refine lv_imul hx hb dX10_taken_46 ?_
    refine lv_iconst (v := 3) hx hb dX10_taken_47 (by decide) ?_
    refine lv_iadd hx hb dX10_taken_48 ?_
    refine lv_dup2_11 hx hb dX10_taken_49 rfl rfl ?_
    obtain ⟨i8, h⟩ := nd_ck_e h
    refine va_iald (i := ((v0 * 5) + 3)) hx hb hK hP 2 1 rfl rfl i8 dX10_taken_50 ?_
    refine lv_iload_n hx hb dX10_taken_51 rfl (lv_at hl 4 rfl) ?_
    refine lv_iadd hx hb dX10_taken_52 ?_
    obtain ⟨i9, h⟩ := nd_ck_e h
    refine va_iast (i := ((v0 * 5) + 3)) (x := ((sR s5 1 (Int32.toNatClampNeg ((v0 * 5) + 3))) + v2)) hx hb hK hP hD hS 2 1 rfl rfl i9 dX10_taken_53 (fun H locs hP hD hS => ?_)
    obtain ⟨s10, es10, h⟩ := nd_let_e h
    have hP : va_P (dC, dI) vwCl (dw_X10 a ac s10) H := by rw [es10]; exact hP
    have hD : va_D A (dw_X10 a ac s10) := by rw [es10]; exact hD
    refine lv_goto (tgt := 157) hx hb dX10_taken_54 (by decide) ?_
    exact (db_X10_taken_157 C K)  s10 _ _ _ h hP hD hS (lv_sub hl [] rfl)
  have h := nd_neg h c7
  by_cases c11 : q4 = 4
  · have h := nd_pos h c11
    refine lv_lookup (off := 43) (tgt := 57) hx hb dX10_taken_14 (by decide) (by rw [c11]; decide) (by decide) ?_
    refine lv_iload_n hx hb dX10_taken_57 rfl (lv_at hl 4 rfl) ?_
    refine lv_iload_n hx hb dX10_taken_58 rfl (lv_at hl 3 rfl) ?_
    refine lv_icmp_ge (tgt := 76) hx hb dX10_taken_59 (by decide) (fun c12 => ?_) (fun c12 => ?_)
    · have h := nd_pos h c12
      exact (db_X10_taken_76 C K) (v2) s5 _ _ _ h hP hD hS (lv_sub hl [1, 4] rfl)
    · have h := nd_neg h c12
      refine lv_iload_n hx hb dX10_taken_62 rfl (lv_at hl 4 rfl) ?_
      refine lv_aload_n hx hb dX10_taken_63 rfl (lv_at hl 1 rfl) ?_
      refine va_get (D := (dC, dI)) (ci := 11) (v := .int (sI s5 0)) (C := RX10) (T := TX10) (N := 11) hx hb hts hi_dm_X10_taken_X10 hown hK hP 0 rfl rfl 8 (by decide) (hts (.fieldLink RX10 46 "TimeMachine$Things" "typedBytes" "I") (List.mem_of_getElem? (i := 7) rfl)) (fun _ h9 => h9) rfl dX10_taken_64 ?_
      refine lv_icmp_ge (tgt := 76) hx hb dX10_taken_67 (by decide) (fun c17 => ?_) (fun c17 => ?_)
      · have h := nd_pos h c17
        exact (db_X10_taken_76 C K) (v2) s5 _ _ _ h hP hD hS (lv_sub hl [1, 4] rfl)
      · have h := nd_neg h c17
        refine lv_iload_n hx hb dX10_taken_70 rfl (lv_at hl 4 rfl) ?_
        refine lv_iconst (v := 1) hx hb dX10_taken_71 (by decide) ?_
        refine lv_iadd hx hb dX10_taken_72 ?_
        refine lv_goto (tgt := 77) hx hb dX10_taken_73 (by decide) ?_
        exact (db_X10_taken_77 C K) ((v2 + 1)) s5 _ _ _ h hP hD hS (lv_sub hl [1] rfl)
  have h := nd_neg h c11
  refine lv_lookup (off := 100) (tgt := 114) hx hb dX10_taken_14 (by decide) (show Op.lookupswitch.offset [(3, 26), (4, 43)] 100 (q4 : Int32).toInt = 100 by rw [lv_osw c7 (by decide), lv_osw c11 (by decide)] <;> rfl) (by decide) ?_
  refine lv_aload_n hx hb dX10_taken_114 rfl (lv_at hl 1 rfl) ?_
  refine va_get (D := (dC, dI)) (ci := 11) (v := .ref (a 3)) (C := RX10) (T := TX10) (N := 11) hx hb hts hi_dm_X10_taken_X10 hown hK hP 0 rfl rfl 2 (by decide) (hts (.fieldLink RX10 18 "TimeMachine$Things" "pipe" "[I") (List.mem_of_getElem? (i := 12) rfl)) (fun _ h9 => h9) rfl dX10_taken_115 ?_
  refine lv_iload hx hb dX10_taken_118 (lv_at hl 0 rfl) ?_
  refine lv_iconst (v := 4) hx hb dX10_taken_120 (by decide) ?_
  refine lv_imul hx hb dX10_taken_121 ?_
  refine lv_iconst (v := 0) hx hb dX10_taken_122 (by decide) ?_
  refine lv_iadd hx hb dX10_taken_123 ?_
  refine lv_dup2_11 hx hb dX10_taken_124 rfl rfl ?_
  obtain ⟨i18, h⟩ := nd_ck_e h
  refine va_iald (i := ((q1 * 4) + 0)) hx hb hK hP 3 2 rfl rfl i18 dX10_taken_125 ?_
  refine lv_iload_n hx hb dX10_taken_126 rfl (lv_at hl 4 rfl) ?_
  refine lv_isub hx hb dX10_taken_127 ?_
  obtain ⟨i19, h⟩ := nd_ck_e h
  refine va_iast (i := ((q1 * 4) + 0)) (x := ((sR s5 2 (Int32.toNatClampNeg ((q1 * 4) + 0))) - v2)) hx hb hK hP hD hS 3 2 rfl rfl i19 dX10_taken_128 (fun H locs hP hD hS => ?_)
  obtain ⟨s20, es20, h⟩ := nd_let_e h
  have hP : va_P (dC, dI) vwCl (dw_X10 a ac s20) H := by rw [es20]; exact hP
  have hD : va_D A (dw_X10 a ac s20) := by rw [es20]; exact hD
  refine lv_aload_n hx hb dX10_taken_129 rfl (lv_at hl 1 rfl) ?_
  refine va_get (D := (dC, dI)) (ci := 11) (v := .ref (a 3)) (C := RX10) (T := TX10) (N := 11) hx hb hts hi_dm_X10_taken_X10 hown hK hP 0 rfl rfl 2 (by decide) (hts (.fieldLink RX10 18 "TimeMachine$Things" "pipe" "[I") (List.mem_of_getElem? (i := 12) rfl)) (fun _ h9 => h9) rfl dX10_taken_130 ?_
  refine lv_iload hx hb dX10_taken_133 (lv_at hl 0 rfl) ?_
  refine lv_iconst (v := 4) hx hb dX10_taken_135 (by decide) ?_
  refine lv_imul hx hb dX10_taken_136 ?_
  refine lv_iconst (v := 3) hx hb dX10_taken_137 (by decide) ?_
  refine lv_iadd hx hb dX10_taken_138 ?_
  refine lv_aload_n hx hb dX10_taken_139 rfl (lv_at hl 1 rfl) ?_
  refine va_get (D := (dC, dI)) (ci := 11) (v := .ref (a 3)) (C := RX10) (T := TX10) (N := 11) hx hb hts hi_dm_X10_taken_X10 hown hK hP 0 rfl rfl 2 (by decide) (hts (.fieldLink RX10 18 "TimeMachine$Things" "pipe" "[I") (List.mem_of_getElem? (i := 12) rfl)) (fun _ h9 => h9) rfl dX10_taken_140 ?_
  refine lv_iload hx hb dX10_taken_143 (lv_at hl 0 rfl) ?_
  refine lv_iconst (v := 4) hx hb dX10_taken_145 (by decide) ?_
  refine lv_imul hx hb dX10_taken_146 ?_
  refine lv_iconst (v := 3) hx hb dX10_taken_147 (by decide) ?_
  refine lv_iadd hx hb dX10_taken_148 ?_
  obtain ⟨i21, h⟩ := nd_ck_e h
  refine va_iald (i := ((q1 * 4) + 3)) hx hb hK hP 3 2 rfl rfl i21 dX10_taken_149 ?_
  refine lv_iload_n hx hb dX10_taken_150 rfl (lv_at hl 4 rfl) ?_
  refine lv_iadd hx hb dX10_taken_151 ?_
  refine lv_sipush (v := 511) hx hb dX10_taken_152 (by decide) ?_
  refine lv_iand hx hb dX10_taken_155 ?_
  obtain ⟨i22, h⟩ := nd_ck_e h
  refine va_iast (i := ((q1 * 4) + 3)) (x := (((sR s20 2 (Int32.toNatClampNeg ((q1 * 4) + 3))) + v2) &&& 511)) hx hb hK hP hD hS 3 2 rfl rfl i22 dX10_taken_156 (fun H locs hP hD hS => ?_)
  obtain ⟨s23, es23, h⟩ := nd_let_e h
  have hP : va_P (dC, dI) vwCl (dw_X10 a ac s23) H := by rw [es23]; exact hP
  have hD : va_D A (dw_X10 a ac s23) := by rw [es23]; exact hD
  exact (db_X10_taken_157 C K)  s23 _ _ _ h hP hD hS (lv_sub hl [] rfl)
set_option maxHeartbeats 40000000 in
set_option maxRecDepth 100000 in
theorem dm_X10_taken (l : Launch) (hlt : l.stackTraces = false) (dC : Nat → ClassId) (dI : Nat → Nat → Nat) (a : Nat → Nat) (ac : Nat → ClassId) (n : Nat) (v0 : Int32) (v1 : Int32) (v2 : Int32) (s0 : St) {r : St} (h : df_X10_taken n v0 v1 v2 s0 = some r) (sz : Nat) : Met l yX10_taken ow_dm_X10_taken ({ frames := 1, cells := 0, slots := 0, locals := 40 }) (va_Pc [.ref (a 0), .int v0, .int v1, .int v2] (fun U => U.heap.size = sz ∧ va_P (dC, dI) vwCl (dw_X10 a ac s0) U.heap ∧ va_K (dC, dI) vwCl (dk_X10 ac) U ∧ va_D (fun _ => True) (dw_X10 a ac s0) ∧ nv_E dI (va_A (dw_X10 a ac s0) sz) U)) (va_Qv (fun _ => True) (fun (_ : Unit) t => va_P (dC, dI) vwCl (dw_X10 a ac r) t.heap ∧ va_K (dC, dI) vwCl (dk_X10 ac) t ∧ va_D (va_A (dw_X10 a ac s0) sz) (dw_X10 a ac r)) (va_A (dw_X10 a ac s0) sz)) 0 0 (va_A (dw_X10 a ac s0) sz) := by
  refine Met.ofW (cc := cX10_taken) (maxL := 6) (ret := none) (by decide) rfl ?_
  intro p e s m args below meth c s₁ B hml hv
  obtain ⟨rfl, hsz, hP, hK, hD0, hN⟩ := hv
  have hx := B.exec
  have hb := B.bytes
  have hr := B.returns
  have hts := atoms_spec (ws := ow_dm_X10_taken) B.pre
  have hown : s.vm.findClass RX10 = some m.cls := findClass_of_methodNamed B.named
  have hlocks := B.notSynchronized
  subst hsz
  have hD := hD0.self (sz := s.heap.size)
  generalize hAe : va_A (dw_X10 a ac s0) s.heap.size = A at hD hN ⊢
  have hA : ∀ q : Nat, s.heap.size ≤ q → A q := fun q h => by rw [← hAe]; exact Or.inr h
  have hl := lv_entry ([.ref (a 0), .int v0, .int v1, .int v2]) (n := 6) (Nat.le_of_ble_eq_true rfl)
  rw [lg_entry_eq]
  generalize (lg_sl ([.ref (a 0), .int v0, .int v1, .int v2]) ++ List.replicate (6 - (lg_sl ([.ref (a 0), .int v0, .int v1, .int v2])).length) Slot.unset).toArray = ls at hl ⊢
  have hl : lv_has ls 6 [(0, .ref (a 0)), (1, .int v0), (2, .int v1), (3, .int v2)] := hl
  exact db_X10_taken_0 (dC := dC) (dI := dI) (a := a) (ac := ac) (n := n) (r := r) ⟨hlt, hx, hb, hml, hown, hts, hN, hA, hK⟩ (fun pc τ H locs ls d er hP hD hS => by subst er; exact W.vret hx hb hr (fun t ht hW => ⟨⟨(), rfl, trivial, by rw [ht]; exact hP, va_K.moved hW.alike hK, hD⟩, hS.F ht⟩) hS.2.2 d) v0 v1 v2 s0 _ _ _ h hP hD va_S.rf (lv_sub hl [0, 1, 2, 3] rfl)
def ow_dm_X10_writingPlace : List Cond := Cond.code yX10_writingPlace cX10_writingPlace 2 (some .int) :: ([Cond.methodLink RX10 74 yX10_of, Cond.instanceMethod yX10_of, Cond.selects RX10 yX10_of yX10_of, Cond.initialized RX10, Cond.methodLink RX10 83 yX10_amount, Cond.instanceMethod yX10_amount, Cond.selects RX10 yX10_amount yX10_amount] ++ (ow_dm_X10_of ++ (ow_dm_X10_amount ++ [])))
theorem gd_dm_X10_writingPlace : ∀ w ∈ ow_dm_X10_writingPlace, (w.onTables && w.keeps) = true ∨ ∃ ty, w = Cond.arrayClass ty := List.forall_mem_cons.mpr ⟨good_of_word rfl, List.forall_mem_append.mpr ⟨fun w h => good_of_word (List.all_eq_true.mp (by decide +kernel) w h), List.forall_mem_append.mpr ⟨gd_dm_X10_of, List.forall_mem_append.mpr ⟨gd_dm_X10_amount, fun _ h => nomatch h⟩⟩⟩⟩
theorem gi_dm_X10_writingPlace_0 : GoodIn ow_dm_X10_writingPlace (wsV RX10 74 RX10 yX10_of ow_dm_X10_of) := goodIn_app (goodIn_of _ (by decide +kernel)) (fun w h => ⟨List.mem_cons_of_mem _ (List.mem_append_right _ (List.mem_append_left _ h)), gd_dm_X10_of w h⟩)
theorem gi_dm_X10_writingPlace_1 : GoodIn ow_dm_X10_writingPlace (wsV RX10 83 RX10 yX10_amount ow_dm_X10_amount) := goodIn_app (goodIn_of _ (by decide +kernel)) (fun w h => ⟨List.mem_cons_of_mem _ (List.mem_append_right _ (List.mem_append_right _ (List.mem_append_left _ h))), gd_dm_X10_amount w h⟩)
def dj_X10_writingPlace_25 (p : Program) (l : Launch) (e : Env) (s : State) (m : MethodId) (args : Array Value) (below : List Frame) (meth : Method) (c : Code) (Q : State → Prop) (A : Nat → Prop) (dC : Nat → ClassId) (dI : Nat → Nat → Nat) (a : Nat → Nat) (ac : Nat → ClassId) (g : Int32 → (St) → Option (Int32 × (St))) (r : Int32 × (St)) : Prop := ∀ (y0 : Int32) (s0 : St) (H : Heap) (locs : List Loc) (ls : Array Slot), g y0 s0 = some r → va_P (dC, dI) vwCl (dw_X10 a ac s0) H → va_D A (dw_X10 a ac s0) → va_S A s.heap H locs → lv_has ls 2 [] → W p l e (headSpec ow_dm_X10_writingPlace ({ frames := 1, cells := 0, slots := 0, locals := 23 })).room s m args below meth c H locs 0 0 Q (F0 m 25 ls [.int y0])
def dj_X10_writingPlace_0 (p : Program) (l : Launch) (e : Env) (s : State) (m : MethodId) (args : Array Value) (below : List Frame) (meth : Method) (c : Code) (Q : State → Prop) (A : Nat → Prop) (dC : Nat → ClassId) (dI : Nat → Nat → Nat) (a : Nat → Nat) (ac : Nat → ClassId) (g : Int32 → (St) → Option (Int32 × (St))) (r : Int32 × (St)) : Prop := ∀ (v0 : Int32) (s0 : St) (H : Heap) (locs : List Loc) (ls : Array Slot), g v0 s0 = some r → va_P (dC, dI) vwCl (dw_X10 a ac s0) H → va_D A (dw_X10 a ac s0) → va_S A s.heap H locs → lv_has ls 2 [(0, .ref (a 0)), (1, .int v0)] → W p l e (headSpec ow_dm_X10_writingPlace ({ frames := 1, cells := 0, slots := 0, locals := 23 })).room s m args below meth c H locs 0 0 Q (F0 m 0 ls [])
set_option maxHeartbeats 40000000 in
set_option maxRecDepth 100000 in
theorem db_X10_writingPlace_25 {p : Program} {l : Launch} {e : Env} {s : State} {m : MethodId} {args : Array Value} {below : List Frame} {meth : Method} {c : Code} {Q : State → Prop} {A : Nat → Prop} {dC : Nat → ClassId} {dI : Nat → Nat → Nat} {a : Nat → Nat} {ac : Nat → ClassId} {n : Nat} {r : Int32 × (St)} (C : nd_C p l s m args c A (dC, dI) cX10_writingPlace 2 RX10 ow_dm_X10_writingPlace (dk_X10 ac)) (K : nd_Ki p l e (headSpec ow_dm_X10_writingPlace ({ frames := 1, cells := 0, slots := 0, locals := 23 })).room s m args below meth c Q A (dC, dI) cX10_writingPlace .int (St) (dw_X10 a ac) r) : dj_X10_writingPlace_25 p l e s m args below meth c Q A dC dI a ac (df_X10_writingPlace_25 n) r := by
  obtain ⟨hlt, hx, hb, hml, hown, hts, hN, hA, hK⟩ := id C
  intro y0 s0 H locs ls h hP hD hS hl
  unfold df_X10_writingPlace_25 at h
  exact K _ _ _ _ _ _ dX10_writingPlace_25 rfl (Option.some.inj h).symm hP hD hS
set_option maxHeartbeats 40000000 in
set_option maxRecDepth 100000 in
theorem db_X10_writingPlace_0 {p : Program} {l : Launch} {e : Env} {s : State} {m : MethodId} {args : Array Value} {below : List Frame} {meth : Method} {c : Code} {Q : State → Prop} {A : Nat → Prop} {dC : Nat → ClassId} {dI : Nat → Nat → Nat} {a : Nat → Nat} {ac : Nat → ClassId} {n : Nat} {r : Int32 × (St)} (C : nd_C p l s m args c A (dC, dI) cX10_writingPlace 2 RX10 ow_dm_X10_writingPlace (dk_X10 ac)) (K : nd_Ki p l e (headSpec ow_dm_X10_writingPlace ({ frames := 1, cells := 0, slots := 0, locals := 23 })).room s m args below meth c Q A (dC, dI) cX10_writingPlace .int (St) (dw_X10 a ac) r) : dj_X10_writingPlace_0 p l e s m args below meth c Q A dC dI a ac (df_X10_writingPlace_0 n) r := by
  obtain ⟨hlt, hx, hb, hml, hown, hts, hN, hA, hK⟩ := id C
  intro v0 s0 H locs ls h hP hD hS hl
  unfold df_X10_writingPlace_0 at h
  refine lv_aload_n hx hb dX10_writingPlace_0 rfl (lv_at hl 0 rfl) ?_
  refine lv_iload_n hx hb dX10_writingPlace_1 rfl (lv_at hl 1 rfl) ?_
  refine lv_iconst (v := 4) hx hb dX10_writingPlace_2 (by decide) ?_
  obtain ⟨q1, s2, hq, h⟩ := nd_b2_e h
  have hPc := hP
  have hDc := hD
  have hKc := hK
  have hFc := nd_rs hD hS hA
  refine nd_cVi (As := [.int v0, .int 4]) (rest := []) (q := q1) (w' := dw_X10 a ac s2) ⟨hx, hb, hml, hown, hts⟩ (fun sz => dm_X10_of l hlt dC dI a ac n (v0) (4) s0 hq sz) (cwV 2 hts gi_dm_X10_writingPlace_0 rfl rfl rfl (by decide +kernel) ⟨Nat.le_of_ble_eq_true rfl, Nat.le_of_ble_eq_true rfl⟩) hPc hDc hKc hS hA hN (va_recv hKc hPc (ci := 11) (q0 := 0) rfl rfl) rfl hl.1 rfl (Nat.le_of_ble_eq_true rfl) dX10_writingPlace_3 (fun H locs hP1 hD1 hk1 hS => ?_)
  have hP := hP1
  have hD := hD1.weaken (fun k q _ h => hFc q.1 h)
  refine lv_iconst (v := 4) hx hb dX10_writingPlace_6 (by decide) ?_
  refine lv_iand hx hb dX10_writingPlace_7 ?_
  refine lv_if_eq (tgt := 19) hx hb dX10_writingPlace_8 (by decide) (fun c4 => ?_) (fun c4 => ?_)
  · have h := nd_pos h c4
    refine lv_aload_n hx hb dX10_writingPlace_19 rfl (lv_at hl 0 rfl) ?_
    refine lv_iload_n hx hb dX10_writingPlace_20 rfl (lv_at hl 1 rfl) ?_
    refine lv_iconst (v := 3) hx hb dX10_writingPlace_21 (by decide) ?_
    obtain ⟨q5, s6, hq, h⟩ := nd_b2_e h
    have hPc := hP
    have hDc := hD
    have hKc := hK
    have hFc := nd_rs hD hS hA
    refine nd_cVi (As := [.int v0, .int 3]) (rest := []) (q := q5) (w' := dw_X10 a ac s6) ⟨hx, hb, hml, hown, hts⟩ (fun sz => dm_X10_of l hlt dC dI a ac n (v0) (3) s2 hq sz) (cwV 2 hts gi_dm_X10_writingPlace_0 rfl rfl rfl (by decide +kernel) ⟨Nat.le_of_ble_eq_true rfl, Nat.le_of_ble_eq_true rfl⟩) hPc hDc hKc hS hA hN (va_recv hKc hPc (ci := 11) (q0 := 0) rfl rfl) rfl hl.1 rfl (Nat.le_of_ble_eq_true rfl) dX10_writingPlace_22 (fun H locs hP1 hD1 hk1 hS => ?_)
    have hP := hP1
    have hD := hD1.weaken (fun k q _ h => hFc q.1 h)
    exact (db_X10_writingPlace_25 C K) (q5) s6 _ _ _ h hP hD hS (lv_sub hl [] rfl)
  · have h := nd_neg h c4
    refine lv_aload_n hx hb dX10_writingPlace_11 rfl (lv_at hl 0 rfl) ?_
    refine lv_iload_n hx hb dX10_writingPlace_12 rfl (lv_at hl 1 rfl) ?_
    obtain ⟨q8, s9, hq, h⟩ := nd_b2_e h
    have hPc := hP
    have hDc := hD
    have hKc := hK
    have hFc := nd_rs hD hS hA
    refine nd_cVi (As := [.int v0]) (rest := []) (q := q8) (w' := dw_X10 a ac s9) ⟨hx, hb, hml, hown, hts⟩ (fun sz => dm_X10_amount l hlt dC dI a ac n (v0) s2 hq sz) (cwV 1 hts gi_dm_X10_writingPlace_1 rfl rfl rfl (by decide +kernel) ⟨Nat.le_of_ble_eq_true rfl, Nat.le_of_ble_eq_true rfl⟩) hPc hDc hKc hS hA hN (va_recv hKc hPc (ci := 11) (q0 := 0) rfl rfl) rfl hl.1 rfl (Nat.le_of_ble_eq_true rfl) dX10_writingPlace_13 (fun H locs hP1 hD1 hk1 hS => ?_)
    have hP := hP1
    have hD := hD1.weaken (fun k q _ h => hFc q.1 h)
    refine lv_goto (tgt := 25) hx hb dX10_writingPlace_16 (by decide) ?_
    exact (db_X10_writingPlace_25 C K) (q8) s9 _ _ _ h hP hD hS (lv_sub hl [] rfl)
set_option maxHeartbeats 40000000 in
set_option maxRecDepth 100000 in
theorem dm_X10_writingPlace (l : Launch) (hlt : l.stackTraces = false) (dC : Nat → ClassId) (dI : Nat → Nat → Nat) (a : Nat → Nat) (ac : Nat → ClassId) (n : Nat) (v0 : Int32) (s0 : St) {r : Int32 × (St)} (h : df_X10_writingPlace n v0 s0 = some r) (sz : Nat) : Met l yX10_writingPlace ow_dm_X10_writingPlace ({ frames := 1, cells := 0, slots := 0, locals := 23 }) (va_Pc [.ref (a 0), .int v0] (fun U => U.heap.size = sz ∧ va_P (dC, dI) vwCl (dw_X10 a ac s0) U.heap ∧ va_K (dC, dI) vwCl (dk_X10 ac) U ∧ va_D (fun _ => True) (dw_X10 a ac s0) ∧ nv_E dI (va_A (dw_X10 a ac s0) sz) U)) (va_Qi (fun x _ => x = r.1) (fun (_ : Unit) t => va_P (dC, dI) vwCl (dw_X10 a ac r.2) t.heap ∧ va_K (dC, dI) vwCl (dk_X10 ac) t ∧ va_D (va_A (dw_X10 a ac s0) sz) (dw_X10 a ac r.2)) (va_A (dw_X10 a ac s0) sz)) 0 0 (va_A (dw_X10 a ac s0) sz) := by
  refine Met.ofW (cc := cX10_writingPlace) (maxL := 2) (ret := (some .int)) (by decide) rfl ?_
  intro p e s m args below meth c s₁ B hml hv
  obtain ⟨rfl, hsz, hP, hK, hD0, hN⟩ := hv
  have hx := B.exec
  have hb := B.bytes
  have hr := B.returns
  have hts := atoms_spec (ws := ow_dm_X10_writingPlace) B.pre
  have hown : s.vm.findClass RX10 = some m.cls := findClass_of_methodNamed B.named
  have hlocks := B.notSynchronized
  subst hsz
  have hD := hD0.self (sz := s.heap.size)
  generalize hAe : va_A (dw_X10 a ac s0) s.heap.size = A at hD hN ⊢
  have hA : ∀ q : Nat, s.heap.size ≤ q → A q := fun q h => by rw [← hAe]; exact Or.inr h
  have hl := lv_entry ([.ref (a 0), .int v0]) (n := 2) (Nat.le_of_ble_eq_true rfl)
  rw [lg_entry_eq]
  generalize (lg_sl ([.ref (a 0), .int v0]) ++ List.replicate (2 - (lg_sl ([.ref (a 0), .int v0])).length) Slot.unset).toArray = ls at hl ⊢
  have hl : lv_has ls 2 [(0, .ref (a 0)), (1, .int v0)] := hl
  exact db_X10_writingPlace_0 (dC := dC) (dI := dI) (a := a) (ac := ac) (n := n) (r := r) ⟨hlt, hx, hb, hml, hown, hts, hN, hA, hK⟩ (fun pc v τ H locs ls d z er hP hD hS => by subst er; exact W.zret (v := v) hx hb hr z (fun t ht hW => ⟨⟨v, (), rfl, rfl, by rw [ht]; exact hP, va_K.moved hW.alike hK, hD⟩, hS.F ht⟩) hS.2.2 d) v0 s0 _ _ _ h hP hD va_S.rf (lv_sub hl [0, 1] rfl)
def ow_dm_X10_stretch : List Cond := Cond.code yX10_stretch cX10_stretch 7 none :: ([Cond.methodLink RX10 74 yX10_of, Cond.instanceMethod yX10_of, Cond.selects RX10 yX10_of yX10_of, Cond.initialized RX10, Cond.fieldLink RX10 25 "TimeMachine$Things" "file" "[I", Cond.methodLink RX10 68 Lib.Math.max.name, Cond.static Lib.Math.max.name, Cond.initialized "java/lang/Math", Cond.code Lib.Math.max.name Lib.Math.max.code 2 (some .int), Cond.fieldLink RX10 15 "TimeMachine$Things" "opening" "[I", Cond.fieldLink RX10 28 "TimeMachine$Things" "filed" "[B"] ++ (u_ws RX10 TX10 11 ++ (ow_dm_X10_of ++ [])))
theorem gd_dm_X10_stretch : ∀ w ∈ ow_dm_X10_stretch, (w.onTables && w.keeps) = true ∨ ∃ ty, w = Cond.arrayClass ty := List.forall_mem_cons.mpr ⟨good_of_word rfl, List.forall_mem_append.mpr ⟨fun w h => good_of_word (List.all_eq_true.mp (by decide +kernel) w h), List.forall_mem_append.mpr ⟨gu_X10, List.forall_mem_append.mpr ⟨gd_dm_X10_of, fun _ h => nomatch h⟩⟩⟩⟩
theorem hi_dm_X10_stretch_X10 : ∀ w ∈ u_ws RX10 TX10 11, w ∈ ow_dm_X10_stretch := fun w h => List.mem_cons_of_mem _ (List.mem_append_right _ (List.mem_append_left _ h))
theorem gi_dm_X10_stretch_0 : GoodIn ow_dm_X10_stretch (wsV RX10 74 RX10 yX10_of ow_dm_X10_of) := goodIn_app (goodIn_of _ (by decide +kernel)) (fun w h => ⟨List.mem_cons_of_mem _ (List.mem_append_right _ (List.mem_append_right _ (List.mem_append_left _ h))), gd_dm_X10_of w h⟩)
def dj_X10_stretch_60 (p : Program) (l : Launch) (e : Env) (s : State) (m : MethodId) (args : Array Value) (below : List Frame) (meth : Method) (c : Code) (Q : State → Prop) (A : Nat → Prop) (dC : Nat → ClassId) (dI : Nat → Nat → Nat) (a : Nat → Nat) (ac : Nat → ClassId) (g : Int32 → Int32 → Int32 → Int32 → Int32 → (St) → Option (St)) (r : St) : Prop := ∀ (x1 : Int32) (x2 : Int32) (x3 : Int32) (x4 : Int32) (x5 : Int32) (s0 : St) (H : Heap) (locs : List Loc) (ls : Array Slot), g x1 x2 x3 x4 x5 s0 = some r → va_P (dC, dI) vwCl (dw_X10 a ac s0) H → va_D A (dw_X10 a ac s0) → va_S A s.heap H locs → lv_has ls 7 [(0, .ref (a 0)), (1, .int x1), (2, .int x2), (3, .int x3), (4, .int x4), (5, .int x5)] → W p l e (headSpec ow_dm_X10_stretch ({ frames := 1, cells := 0, slots := 0, locals := 22 })).room s m args below meth c H locs 0 0 Q (F0 m 60 ls [])
def dj_X10_stretch_25 (p : Program) (l : Launch) (e : Env) (s : State) (m : MethodId) (args : Array Value) (below : List Frame) (meth : Method) (c : Code) (Q : State → Prop) (A : Nat → Prop) (dC : Nat → ClassId) (dI : Nat → Nat → Nat) (a : Nat → Nat) (ac : Nat → ClassId) (g : Int32 → Int32 → Int32 → Int32 → Int32 → Int32 → (St) → Option (St)) (r : St) : Prop := ∀ (x1 : Int32) (x2 : Int32) (x3 : Int32) (x4 : Int32) (x5 : Int32) (x6 : Int32) (s0 : St) (H : Heap) (locs : List Loc) (ls : Array Slot), g x1 x2 x3 x4 x5 x6 s0 = some r → va_P (dC, dI) vwCl (dw_X10 a ac s0) H → va_D A (dw_X10 a ac s0) → va_S A s.heap H locs → lv_has ls 7 [(0, .ref (a 0)), (1, .int x1), (2, .int x2), (3, .int x3), (4, .int x4), (5, .int x5), (6, .int x6)] → W p l e (headSpec ow_dm_X10_stretch ({ frames := 1, cells := 0, slots := 0, locals := 22 })).room s m args below meth c H locs 0 0 Q (F0 m 25 ls [])
def dj_X10_stretch_0 (p : Program) (l : Launch) (e : Env) (s : State) (m : MethodId) (args : Array Value) (below : List Frame) (meth : Method) (c : Code) (Q : State → Prop) (A : Nat → Prop) (dC : Nat → ClassId) (dI : Nat → Nat → Nat) (a : Nat → Nat) (ac : Nat → ClassId) (g : Int32 → Int32 → Int32 → (St) → Option (St)) (r : St) : Prop := ∀ (v0 : Int32) (v1 : Int32) (v2 : Int32) (s0 : St) (H : Heap) (locs : List Loc) (ls : Array Slot), g v0 v1 v2 s0 = some r → va_P (dC, dI) vwCl (dw_X10 a ac s0) H → va_D A (dw_X10 a ac s0) → va_S A s.heap H locs → lv_has ls 7 [(0, .ref (a 0)), (1, .int v0), (2, .int v1), (3, .int v2)] → W p l e (headSpec ow_dm_X10_stretch ({ frames := 1, cells := 0, slots := 0, locals := 22 })).room s m args below meth c H locs 0 0 Q (F0 m 0 ls [])
set_option maxHeartbeats 40000000 in
set_option maxRecDepth 100000 in
theorem db_X10_stretch_60 {p : Program} {l : Launch} {e : Env} {s : State} {m : MethodId} {args : Array Value} {below : List Frame} {meth : Method} {c : Code} {Q : State → Prop} {A : Nat → Prop} {dC : Nat → ClassId} {dI : Nat → Nat → Nat} {a : Nat → Nat} {ac : Nat → ClassId} {n : Nat} {r : St} (C : nd_C p l s m args c A (dC, dI) cX10_stretch 7 RX10 ow_dm_X10_stretch (dk_X10 ac)) (K : nd_Kv p l e (headSpec ow_dm_X10_stretch ({ frames := 1, cells := 0, slots := 0, locals := 22 })).room s m args below meth c Q A (dC, dI) cX10_stretch (St) (dw_X10 a ac) r) : dj_X10_stretch_60 p l e s m args below meth c Q A dC dI a ac (df_X10_stretch_60 n) r := by
  obtain ⟨hlt, hx, hb, hml, hown, hts, hN, hA, hK⟩ := id C
  intro x1 x2 x3 x4 x5 s0 H locs ls h hP hD hS hl
  unfold df_X10_stretch_60 at h
  refine lv_aload_n hx hb dX10_stretch_60 rfl (lv_at hl 0 rfl) ?_
  refine va_get (D := (dC, dI)) (ci := 11) (v := .ref (a 5)) (C := RX10) (T := TX10) (N := 11) hx hb hts hi_dm_X10_stretch_X10 hown hK hP 0 rfl rfl 4 (by decide) (hts (.fieldLink RX10 25 "TimeMachine$Things" "file" "[I") (List.mem_of_getElem? (i := 5) rfl)) (fun _ h9 => h9) rfl dX10_stretch_61 ?_
  refine lv_iload hx hb dX10_stretch_64 (lv_at hl 4 rfl) ?_
  refine lv_iconst (v := 3) hx hb dX10_stretch_66 (by decide) ?_
  refine lv_imul hx hb dX10_stretch_67 ?_
  refine lv_iconst (v := 0) hx hb dX10_stretch_68 (by decide) ?_
  refine lv_iadd hx hb dX10_stretch_69 ?_
  refine lv_iload hx hb dX10_stretch_70 (lv_at hl 5 rfl) ?_
  refine lv_iload_n hx hb dX10_stretch_72 rfl (lv_at hl 2 rfl) ?_
  refine lv_iload_n hx hb dX10_stretch_73 rfl (lv_at hl 3 rfl) ?_
  refine lv_iadd hx hb dX10_stretch_74 ?_
  refine va_mmax hx hb (by rw [hml]; exact hl.1.symm) hown (hts (.methodLink RX10 68 Lib.Math.max.name) (List.mem_of_getElem? (i := 6) rfl)) (hts (.static Lib.Math.max.name) (List.mem_of_getElem? (i := 7) rfl)) (hts (.initialized "java/lang/Math") (List.mem_of_getElem? (i := 8) rfl)) (hts (.code Lib.Math.max.name Lib.Math.max.code 2 (some .int)) (List.mem_of_getElem? (i := 9) rfl)) (Nat.le_of_ble_eq_true rfl) (Nat.le_of_ble_eq_true rfl) (by decide +kernel) (by decide +kernel) dX10_stretch_75 ?_
  obtain ⟨i7, h⟩ := nd_ck_e h
  refine va_iast (i := ((x4 * 3) + 0)) (x := (if (x5 : Int32) < (x2 + x3) then (x2 + x3) else x5)) hx hb hK hP hD hS 5 4 rfl rfl i7 dX10_stretch_78 (fun H locs hP hD hS => ?_)
  obtain ⟨s8, es8, h⟩ := nd_let_e h
  have hP : va_P (dC, dI) vwCl (dw_X10 a ac s8) H := by rw [es8]; exact hP
  have hD : va_D A (dw_X10 a ac s8) := by rw [es8]; exact hD
  refine lv_aload_n hx hb dX10_stretch_79 rfl (lv_at hl 0 rfl) ?_
  refine va_get (D := (dC, dI)) (ci := 11) (v := .ref (a 2)) (C := RX10) (T := TX10) (N := 11) hx hb hts hi_dm_X10_stretch_X10 hown hK hP 0 rfl rfl 1 (by decide) (hts (.fieldLink RX10 15 "TimeMachine$Things" "opening" "[I") (List.mem_of_getElem? (i := 10) rfl)) (fun _ h9 => h9) rfl dX10_stretch_80 ?_
  refine lv_iload_n hx hb dX10_stretch_83 rfl (lv_at hl 1 rfl) ?_
  refine lv_iconst (v := 5) hx hb dX10_stretch_84 (by decide) ?_
  refine lv_imul hx hb dX10_stretch_85 ?_
  refine lv_iconst (v := 3) hx hb dX10_stretch_86 (by decide) ?_
  refine lv_iadd hx hb dX10_stretch_87 ?_
  refine lv_iload_n hx hb dX10_stretch_88 rfl (lv_at hl 2 rfl) ?_
  refine lv_iload_n hx hb dX10_stretch_89 rfl (lv_at hl 3 rfl) ?_
  refine lv_iadd hx hb dX10_stretch_90 ?_
  obtain ⟨i9, h⟩ := nd_ck_e h
  refine va_iast (i := ((x1 * 5) + 3)) (x := (x2 + x3)) hx hb hK hP hD hS 2 1 rfl rfl i9 dX10_stretch_91 (fun H locs hP hD hS => ?_)
  obtain ⟨s10, es10, h⟩ := nd_let_e h
  have hP : va_P (dC, dI) vwCl (dw_X10 a ac s10) H := by rw [es10]; exact hP
  have hD : va_D A (dw_X10 a ac s10) := by rw [es10]; exact hD
  exact K _ _ _ _ _ dX10_stretch_92 (Option.some.inj h).symm hP hD hS
set_option maxHeartbeats 40000000 in
set_option maxRecDepth 100000 in
theorem dB_X10_stretch_25 {p : Program} {l : Launch} {e : Env} {s : State} {m : MethodId} {args : Array Value} {below : List Frame} {meth : Method} {c : Code} {Q : State → Prop} {A : Nat → Prop} {dC : Nat → ClassId} {dI : Nat → Nat → Nat} {a : Nat → Nat} {ac : Nat → ClassId} {n : Nat} {r : St} (C : nd_C p l s m args c A (dC, dI) cX10_stretch 7 RX10 ow_dm_X10_stretch (dk_X10 ac)) (K : nd_Kv p l e (headSpec ow_dm_X10_stretch ({ frames := 1, cells := 0, slots := 0, locals := 22 })).room s m args below meth c Q A (dC, dI) cX10_stretch (St) (dw_X10 a ac) r) {g25 : Int32 → Int32 → Int32 → Int32 → Int32 → Int32 → (St) → Option (St)} (J25 : dj_X10_stretch_25 p l e s m args below meth c Q A dC dI a ac g25 r) : dj_X10_stretch_25 p l e s m args below meth c Q A dC dI a ac (dF_X10_stretch_25 n g25) r := by
  obtain ⟨hlt, hx, hb, hml, hown, hts, hN, hA, hK⟩ := id C
  intro x1 x2 x3 x4 x5 x6 s0 H locs ls h hP hD hS hl
  unfold dF_X10_stretch_25 at h
  refine lv_iload hx hb dX10_stretch_25 (lv_at hl 6 rfl) ?_
  refine lv_iload_n hx hb dX10_stretch_27 rfl (lv_at hl 2 rfl) ?_
  refine lv_icmp_ge (tgt := 60) hx hb dX10_stretch_28 (by decide) (fun c6 => ?_) (fun c6 => ?_)
  · have h := nd_pos h c6
    exact (db_X10_stretch_60 C K) (x1) (x2) (x3) (x4) (x5) s0 _ _ _ h hP hD hS (lv_sub hl [0, 1, 2, 3, 4, 5] rfl)
  · have h := nd_neg h c6
    refine lv_iload hx hb dX10_stretch_31 (lv_at hl 6 rfl) ?_
    refine lv_sipush (v := 512) hx hb dX10_stretch_33 (by decide) ?_
    refine lv_icmp_ge (tgt := 60) hx hb dX10_stretch_36 (by decide) (fun c11 => ?_) (fun c11 => ?_)
    · have h := nd_pos h c11
      exact (db_X10_stretch_60 C K) (x1) (x2) (x3) (x4) (x5) s0 _ _ _ h hP hD hS (lv_sub hl [0, 1, 2, 3, 4, 5] rfl)
    · have h := nd_neg h c11
      refine lv_aload_n hx hb dX10_stretch_39 rfl (lv_at hl 0 rfl) ?_
      refine va_get (D := (dC, dI)) (ci := 11) (v := .ref (a 6)) (C := RX10) (T := TX10) (N := 11) hx hb hts hi_dm_X10_stretch_X10 hown hK hP 0 rfl rfl 5 (by decide) (hts (.fieldLink RX10 28 "TimeMachine$Things" "filed" "[B") (List.mem_of_getElem? (i := 11) rfl)) (fun _ h9 => h9) rfl dX10_stretch_40 ?_
      refine lv_iload hx hb dX10_stretch_43 (lv_at hl 4 rfl) ?_
      refine lv_sipush (v := 512) hx hb dX10_stretch_45 (by decide) ?_
      refine lv_imul hx hb dX10_stretch_48 ?_
      refine lv_iload hx hb dX10_stretch_49 (lv_at hl 6 rfl) ?_
      refine lv_iadd hx hb dX10_stretch_51 ?_
      refine lv_iconst (v := 0) hx hb dX10_stretch_52 (by decide) ?_
      obtain ⟨i12, h⟩ := nd_ck_e h
      refine va_bast (i := ((x4 * 512) + x6)) (x := 0) hx hb hK hP hD hS 6 5 rfl rfl i12 dX10_stretch_53 (fun H locs hP hD hS => ?_)
      obtain ⟨s13, es13, h⟩ := nd_let_e h
      have hP : va_P (dC, dI) vwCl (dw_X10 a ac s13) H := by rw [es13]; exact hP
      have hD : va_D A (dw_X10 a ac s13) := by rw [es13]; exact hD
      obtain ⟨z14, ez14, h⟩ := nd_let_e h
      refine lv_iinc (v := z14) (lv' := [(6, .int z14), (0, .ref (a 0)), (1, .int x1), (2, .int x2), (3, .int x3), (4, .int x4), (5, .int x5)]) hx hb dX10_stretch_54 hl (k := 6) rfl (by rw [ez14]) (by decide) rfl (fun ls hl => ?_)
      refine lv_goto (tgt := 25) hx hb dX10_stretch_57 (by decide) ?_
      exact (J25) (x1) (x2) (x3) (x4) (x5) (z14) s13 _ _ _ h hP hD hS (lv_sub hl [1, 2, 3, 4, 5, 6, 0] rfl)
set_option maxHeartbeats 40000000 in
set_option maxRecDepth 100000 in
theorem db_X10_stretch_25 {p : Program} {l : Launch} {e : Env} {s : State} {m : MethodId} {args : Array Value} {below : List Frame} {meth : Method} {c : Code} {Q : State → Prop} {A : Nat → Prop} {dC : Nat → ClassId} {dI : Nat → Nat → Nat} {a : Nat → Nat} {ac : Nat → ClassId} {n : Nat} {r : St} (C : nd_C p l s m args c A (dC, dI) cX10_stretch 7 RX10 ow_dm_X10_stretch (dk_X10 ac)) (K : nd_Kv p l e (headSpec ow_dm_X10_stretch ({ frames := 1, cells := 0, slots := 0, locals := 22 })).room s m args below meth c Q A (dC, dI) cX10_stretch (St) (dw_X10 a ac) r) (k : Nat) : dj_X10_stretch_25 p l e s m args below meth c Q A dC dI a ac (df_X10_stretch_25 n k) r := by
  induction k with
  | zero => intro x1 x2 x3 x4 x5 x6 s0 H locs ls h; exact nomatch (show (none : Option (St)) = some r from h)
  | succ k ih => exact dB_X10_stretch_25 C K ih
set_option maxHeartbeats 40000000 in
set_option maxRecDepth 100000 in
theorem db_X10_stretch_0 {p : Program} {l : Launch} {e : Env} {s : State} {m : MethodId} {args : Array Value} {below : List Frame} {meth : Method} {c : Code} {Q : State → Prop} {A : Nat → Prop} {dC : Nat → ClassId} {dI : Nat → Nat → Nat} {a : Nat → Nat} {ac : Nat → ClassId} {n : Nat} {r : St} (C : nd_C p l s m args c A (dC, dI) cX10_stretch 7 RX10 ow_dm_X10_stretch (dk_X10 ac)) (K : nd_Kv p l e (headSpec ow_dm_X10_stretch ({ frames := 1, cells := 0, slots := 0, locals := 22 })).room s m args below meth c Q A (dC, dI) cX10_stretch (St) (dw_X10 a ac) r) : dj_X10_stretch_0 p l e s m args below meth c Q A dC dI a ac (df_X10_stretch_0 n) r := by
  obtain ⟨hlt, hx, hb, hml, hown, hts, hN, hA, hK⟩ := id C
  intro v0 v1 v2 s0 H locs ls h hP hD hS hl
  unfold df_X10_stretch_0 at h
  refine lv_aload_n hx hb dX10_stretch_0 rfl (lv_at hl 0 rfl) ?_
  refine lv_iload_n hx hb dX10_stretch_1 rfl (lv_at hl 1 rfl) ?_
  refine lv_iconst (v := 2) hx hb dX10_stretch_2 (by decide) ?_
  obtain ⟨q1, s2, hq, h⟩ := nd_b2_e h
  have hPc := hP
  have hDc := hD
  have hKc := hK
  have hFc := nd_rs hD hS hA
  refine nd_cVi (As := [.int v0, .int 2]) (rest := []) (q := q1) (w' := dw_X10 a ac s2) ⟨hx, hb, hml, hown, hts⟩ (fun sz => dm_X10_of l hlt dC dI a ac n (v0) (2) s0 hq sz) (cwV 2 hts gi_dm_X10_stretch_0 rfl rfl rfl (by decide +kernel) ⟨Nat.le_of_ble_eq_true rfl, Nat.le_of_ble_eq_true rfl⟩) hPc hDc hKc hS hA hN (va_recv hKc hPc (ci := 11) (q0 := 0) rfl rfl) rfl hl.1 rfl (Nat.le_of_ble_eq_true rfl) dX10_stretch_3 (fun H locs hP1 hD1 hk1 hS => ?_)
  have hP := hP1
  have hD := hD1.weaken (fun k q _ h => hFc q.1 h)
  refine lv_istore (lv' := [(4, .int q1), (0, .ref (a 0)), (1, .int v0), (2, .int v1), (3, .int v2)]) hx hb dX10_stretch_6 hl (by decide) rfl (fun ls hl => ?_)
  refine lv_aload_n hx hb dX10_stretch_8 rfl (lv_at hl 1 rfl) ?_
  refine va_get (D := (dC, dI)) (ci := 11) (v := .ref (a 5)) (C := RX10) (T := TX10) (N := 11) hx hb hts hi_dm_X10_stretch_X10 hown hK hP 0 rfl rfl 4 (by decide) (hts (.fieldLink RX10 25 "TimeMachine$Things" "file" "[I") (List.mem_of_getElem? (i := 5) rfl)) (fun _ h9 => h9) rfl dX10_stretch_9 ?_
  refine lv_iload hx hb dX10_stretch_12 (lv_at hl 0 rfl) ?_
  refine lv_iconst (v := 3) hx hb dX10_stretch_14 (by decide) ?_
  refine lv_imul hx hb dX10_stretch_15 ?_
  refine lv_iconst (v := 0) hx hb dX10_stretch_16 (by decide) ?_
  refine lv_iadd hx hb dX10_stretch_17 ?_
  obtain ⟨i4, h⟩ := nd_ck_e h
  refine va_iald (i := ((q1 * 3) + 0)) hx hb hK hP 5 4 rfl rfl i4 dX10_stretch_18 ?_
  refine lv_topi (fun z5 ez5 => ?_)
  have h := nd_at h ez5
  refine lv_istore (lv' := [(5, .int z5), (4, .int q1), (0, .ref (a 0)), (1, .int v0), (2, .int v1), (3, .int v2)]) hx hb dX10_stretch_19 hl (by decide) rfl (fun ls hl => ?_)
  refine lv_iload hx hb dX10_stretch_21 (lv_at hl 0 rfl) ?_
  refine lv_istore (lv' := [(6, .int z5), (5, .int z5), (4, .int q1), (0, .ref (a 0)), (1, .int v0), (2, .int v1), (3, .int v2)]) hx hb dX10_stretch_23 hl (by decide) rfl (fun ls hl => ?_)
  exact (db_X10_stretch_25 C K n) (v0) (v1) (v2) (q1) (z5) (z5) s2 _ _ _ h hP hD hS (lv_sub hl [3, 4, 5, 6, 2, 1, 0] rfl)
set_option maxHeartbeats 40000000 in
set_option maxRecDepth 100000 in
theorem dm_X10_stretch (l : Launch) (hlt : l.stackTraces = false) (dC : Nat → ClassId) (dI : Nat → Nat → Nat) (a : Nat → Nat) (ac : Nat → ClassId) (n : Nat) (v0 : Int32) (v1 : Int32) (v2 : Int32) (s0 : St) {r : St} (h : df_X10_stretch n v0 v1 v2 s0 = some r) (sz : Nat) : Met l yX10_stretch ow_dm_X10_stretch ({ frames := 1, cells := 0, slots := 0, locals := 22 }) (va_Pc [.ref (a 0), .int v0, .int v1, .int v2] (fun U => U.heap.size = sz ∧ va_P (dC, dI) vwCl (dw_X10 a ac s0) U.heap ∧ va_K (dC, dI) vwCl (dk_X10 ac) U ∧ va_D (fun _ => True) (dw_X10 a ac s0) ∧ nv_E dI (va_A (dw_X10 a ac s0) sz) U)) (va_Qv (fun _ => True) (fun (_ : Unit) t => va_P (dC, dI) vwCl (dw_X10 a ac r) t.heap ∧ va_K (dC, dI) vwCl (dk_X10 ac) t ∧ va_D (va_A (dw_X10 a ac s0) sz) (dw_X10 a ac r)) (va_A (dw_X10 a ac s0) sz)) 0 0 (va_A (dw_X10 a ac s0) sz) := by
  refine Met.ofW (cc := cX10_stretch) (maxL := 7) (ret := none) (by decide) rfl ?_
  intro p e s m args below meth c s₁ B hml hv
  obtain ⟨rfl, hsz, hP, hK, hD0, hN⟩ := hv
  have hx := B.exec
  have hb := B.bytes
  have hr := B.returns
  have hts := atoms_spec (ws := ow_dm_X10_stretch) B.pre
  have hown : s.vm.findClass RX10 = some m.cls := findClass_of_methodNamed B.named
  have hlocks := B.notSynchronized
  subst hsz
  have hD := hD0.self (sz := s.heap.size)
  generalize hAe : va_A (dw_X10 a ac s0) s.heap.size = A at hD hN ⊢
  have hA : ∀ q : Nat, s.heap.size ≤ q → A q := fun q h => by rw [← hAe]; exact Or.inr h
  have hl := lv_entry ([.ref (a 0), .int v0, .int v1, .int v2]) (n := 7) (Nat.le_of_ble_eq_true rfl)
  rw [lg_entry_eq]
  generalize (lg_sl ([.ref (a 0), .int v0, .int v1, .int v2]) ++ List.replicate (7 - (lg_sl ([.ref (a 0), .int v0, .int v1, .int v2])).length) Slot.unset).toArray = ls at hl ⊢
  have hl : lv_has ls 7 [(0, .ref (a 0)), (1, .int v0), (2, .int v1), (3, .int v2)] := hl
  exact db_X10_stretch_0 (dC := dC) (dI := dI) (a := a) (ac := ac) (n := n) (r := r) ⟨hlt, hx, hb, hml, hown, hts, hN, hA, hK⟩ (fun pc τ H locs ls d er hP hD hS => by subst er; exact W.vret hx hb hr (fun t ht hW => ⟨⟨(), rfl, trivial, by rw [ht]; exact hP, va_K.moved hW.alike hK, hD⟩, hS.F ht⟩) hS.2.2 d) v0 v1 v2 s0 _ _ _ h hP hD va_S.rf (lv_sub hl [0, 1, 2, 3] rfl)
def ow_dm_X10_putFiled : List Cond := Cond.code yX10_putFiled cX10_putFiled 4 none :: ([Cond.fieldLink RX10 28 "TimeMachine$Things" "filed" "[B", Cond.methodLink RX10 74 yX10_of, Cond.instanceMethod yX10_of, Cond.selects RX10 yX10_of yX10_of, Cond.initialized RX10] ++ (u_ws RX10 TX10 11 ++ (ow_dm_X10_of ++ [])))
theorem gd_dm_X10_putFiled : ∀ w ∈ ow_dm_X10_putFiled, (w.onTables && w.keeps) = true ∨ ∃ ty, w = Cond.arrayClass ty := List.forall_mem_cons.mpr ⟨good_of_word rfl, List.forall_mem_append.mpr ⟨fun w h => good_of_word (List.all_eq_true.mp (by decide +kernel) w h), List.forall_mem_append.mpr ⟨gu_X10, List.forall_mem_append.mpr ⟨gd_dm_X10_of, fun _ h => nomatch h⟩⟩⟩⟩
theorem hi_dm_X10_putFiled_X10 : ∀ w ∈ u_ws RX10 TX10 11, w ∈ ow_dm_X10_putFiled := fun w h => List.mem_cons_of_mem _ (List.mem_append_right _ (List.mem_append_left _ h))
theorem gi_dm_X10_putFiled_0 : GoodIn ow_dm_X10_putFiled (wsV RX10 74 RX10 yX10_of ow_dm_X10_of) := goodIn_app (goodIn_of _ (by decide +kernel)) (fun w h => ⟨List.mem_cons_of_mem _ (List.mem_append_right _ (List.mem_append_right _ (List.mem_append_left _ h))), gd_dm_X10_of w h⟩)
def dj_X10_putFiled_0 (p : Program) (l : Launch) (e : Env) (s : State) (m : MethodId) (args : Array Value) (below : List Frame) (meth : Method) (c : Code) (Q : State → Prop) (A : Nat → Prop) (dC : Nat → ClassId) (dI : Nat → Nat → Nat) (a : Nat → Nat) (ac : Nat → ClassId) (g : Int32 → Int32 → Int32 → (St) → Option (St)) (r : St) : Prop := ∀ (v0 : Int32) (v1 : Int32) (v2 : Int32) (s0 : St) (H : Heap) (locs : List Loc) (ls : Array Slot), g v0 v1 v2 s0 = some r → va_P (dC, dI) vwCl (dw_X10 a ac s0) H → va_D A (dw_X10 a ac s0) → va_S A s.heap H locs → lv_has ls 4 [(0, .ref (a 0)), (1, .int v0), (2, .int v1), (3, .int v2)] → W p l e (headSpec ow_dm_X10_putFiled ({ frames := 1, cells := 0, slots := 0, locals := 22 })).room s m args below meth c H locs 0 0 Q (F0 m 0 ls [])
set_option maxHeartbeats 40000000 in
set_option maxRecDepth 100000 in
theorem db_X10_putFiled_0 {p : Program} {l : Launch} {e : Env} {s : State} {m : MethodId} {args : Array Value} {below : List Frame} {meth : Method} {c : Code} {Q : State → Prop} {A : Nat → Prop} {dC : Nat → ClassId} {dI : Nat → Nat → Nat} {a : Nat → Nat} {ac : Nat → ClassId} {n : Nat} {r : St} (C : nd_C p l s m args c A (dC, dI) cX10_putFiled 4 RX10 ow_dm_X10_putFiled (dk_X10 ac)) (K : nd_Kv p l e (headSpec ow_dm_X10_putFiled ({ frames := 1, cells := 0, slots := 0, locals := 22 })).room s m args below meth c Q A (dC, dI) cX10_putFiled (St) (dw_X10 a ac) r) : dj_X10_putFiled_0 p l e s m args below meth c Q A dC dI a ac (df_X10_putFiled_0 n) r := by
  obtain ⟨hlt, hx, hb, hml, hown, hts, hN, hA, hK⟩ := id C
  intro v0 v1 v2 s0 H locs ls h hP hD hS hl
  unfold df_X10_putFiled_0 at h
  refine lv_aload_n hx hb dX10_putFiled_0 rfl (lv_at hl 0 rfl) ?_
  refine va_get (D := (dC, dI)) (ci := 11) (v := .ref (a 6)) (C := RX10) (T := TX10) (N := 11) hx hb hts hi_dm_X10_putFiled_X10 hown hK hP 0 rfl rfl 5 (by decide) (hts (.fieldLink RX10 28 "TimeMachine$Things" "filed" "[B") (List.mem_of_getElem? (i := 1) rfl)) (fun _ h9 => h9) rfl dX10_putFiled_1 ?_
  refine lv_aload_n hx hb dX10_putFiled_4 rfl (lv_at hl 0 rfl) ?_
  refine lv_iload_n hx hb dX10_putFiled_5 rfl (lv_at hl 1 rfl) ?_
  refine lv_iconst (v := 2) hx hb dX10_putFiled_6 (by decide) ?_
  obtain ⟨q1, s2, hq, h⟩ := nd_b2_e h
  have hPc := hP
  have hDc := hD
  have hKc := hK
  have hFc := nd_rs hD hS hA
  refine nd_cVi (As := [.int v0, .int 2]) (rest := [.ref (a 6)]) (q := q1) (w' := dw_X10 a ac s2) ⟨hx, hb, hml, hown, hts⟩ (fun sz => dm_X10_of l hlt dC dI a ac n (v0) (2) s0 hq sz) (cwV 2 hts gi_dm_X10_putFiled_0 rfl rfl rfl (by decide +kernel) ⟨Nat.le_of_ble_eq_true rfl, Nat.le_of_ble_eq_true rfl⟩) hPc hDc hKc hS hA hN (va_recv hKc hPc (ci := 11) (q0 := 0) rfl rfl) rfl hl.1 rfl (Nat.le_of_ble_eq_true rfl) dX10_putFiled_7 (fun H locs hP1 hD1 hk1 hS => ?_)
  have hP := hP1
  have hD := hD1.weaken (fun k q _ h => hFc q.1 h)
  refine lv_sipush (v := 512) hx hb dX10_putFiled_10 (by decide) ?_
  refine lv_imul hx hb dX10_putFiled_13 ?_
  refine lv_iload_n hx hb dX10_putFiled_14 rfl (lv_at hl 2 rfl) ?_
  refine lv_sipush (v := 511) hx hb dX10_putFiled_15 (by decide) ?_
  refine lv_iand hx hb dX10_putFiled_18 ?_
  refine lv_iadd hx hb dX10_putFiled_19 ?_
  refine lv_iload_n hx hb dX10_putFiled_20 rfl (lv_at hl 3 rfl) ?_
  refine lv_i2b hx hb dX10_putFiled_21 rfl ?_
  obtain ⟨i4, h⟩ := nd_ck_e h
  refine va_bast (i := ((q1 * 512) + (v1 &&& 511))) (x := (v2.toInt8.toInt32)) hx hb hK hP hD hS 6 5 rfl rfl i4 dX10_putFiled_22 (fun H locs hP hD hS => ?_)
  obtain ⟨s5, es5, h⟩ := nd_let_e h
  have hP : va_P (dC, dI) vwCl (dw_X10 a ac s5) H := by rw [es5]; exact hP
  have hD : va_D A (dw_X10 a ac s5) := by rw [es5]; exact hD
  exact K _ _ _ _ _ dX10_putFiled_23 (Option.some.inj h).symm hP hD hS
set_option maxHeartbeats 40000000 in
set_option maxRecDepth 100000 in
theorem dm_X10_putFiled (l : Launch) (hlt : l.stackTraces = false) (dC : Nat → ClassId) (dI : Nat → Nat → Nat) (a : Nat → Nat) (ac : Nat → ClassId) (n : Nat) (v0 : Int32) (v1 : Int32) (v2 : Int32) (s0 : St) {r : St} (h : df_X10_putFiled n v0 v1 v2 s0 = some r) (sz : Nat) : Met l yX10_putFiled ow_dm_X10_putFiled ({ frames := 1, cells := 0, slots := 0, locals := 22 }) (va_Pc [.ref (a 0), .int v0, .int v1, .int v2] (fun U => U.heap.size = sz ∧ va_P (dC, dI) vwCl (dw_X10 a ac s0) U.heap ∧ va_K (dC, dI) vwCl (dk_X10 ac) U ∧ va_D (fun _ => True) (dw_X10 a ac s0) ∧ nv_E dI (va_A (dw_X10 a ac s0) sz) U)) (va_Qv (fun _ => True) (fun (_ : Unit) t => va_P (dC, dI) vwCl (dw_X10 a ac r) t.heap ∧ va_K (dC, dI) vwCl (dk_X10 ac) t ∧ va_D (va_A (dw_X10 a ac s0) sz) (dw_X10 a ac r)) (va_A (dw_X10 a ac s0) sz)) 0 0 (va_A (dw_X10 a ac s0) sz) := by
  refine Met.ofW (cc := cX10_putFiled) (maxL := 4) (ret := none) (by decide) rfl ?_
  intro p e s m args below meth c s₁ B hml hv
  obtain ⟨rfl, hsz, hP, hK, hD0, hN⟩ := hv
  have hx := B.exec
  have hb := B.bytes
  have hr := B.returns
  have hts := atoms_spec (ws := ow_dm_X10_putFiled) B.pre
  have hown : s.vm.findClass RX10 = some m.cls := findClass_of_methodNamed B.named
  have hlocks := B.notSynchronized
  subst hsz
  have hD := hD0.self (sz := s.heap.size)
  generalize hAe : va_A (dw_X10 a ac s0) s.heap.size = A at hD hN ⊢
  have hA : ∀ q : Nat, s.heap.size ≤ q → A q := fun q h => by rw [← hAe]; exact Or.inr h
  have hl := lv_entry ([.ref (a 0), .int v0, .int v1, .int v2]) (n := 4) (Nat.le_of_ble_eq_true rfl)
  rw [lg_entry_eq]
  generalize (lg_sl ([.ref (a 0), .int v0, .int v1, .int v2]) ++ List.replicate (4 - (lg_sl ([.ref (a 0), .int v0, .int v1, .int v2])).length) Slot.unset).toArray = ls at hl ⊢
  have hl : lv_has ls 4 [(0, .ref (a 0)), (1, .int v0), (2, .int v1), (3, .int v2)] := hl
  exact db_X10_putFiled_0 (dC := dC) (dI := dI) (a := a) (ac := ac) (n := n) (r := r) ⟨hlt, hx, hb, hml, hown, hts, hN, hA, hK⟩ (fun pc τ H locs ls d er hP hD hS => by subst er; exact W.vret hx hb hr (fun t ht hW => ⟨⟨(), rfl, trivial, by rw [ht]; exact hP, va_K.moved hW.alike hK, hD⟩, hS.F ht⟩) hS.2.2 d) v0 v1 v2 s0 _ _ _ h hP hD va_S.rf (lv_sub hl [0, 1, 2, 3] rfl)
def ow_dm_X10_putPiped : List Cond := Cond.code yX10_putPiped cX10_putPiped 5 none :: ([Cond.methodLink RX10 74 yX10_of, Cond.instanceMethod yX10_of, Cond.selects RX10 yX10_of yX10_of, Cond.initialized RX10, Cond.fieldLink RX10 18 "TimeMachine$Things" "pipe" "[I", Cond.fieldLink RX10 21 "TimeMachine$Things" "piped" "[B"] ++ (u_ws RX10 TX10 11 ++ (ow_dm_X10_of ++ [])))
theorem gd_dm_X10_putPiped : ∀ w ∈ ow_dm_X10_putPiped, (w.onTables && w.keeps) = true ∨ ∃ ty, w = Cond.arrayClass ty := List.forall_mem_cons.mpr ⟨good_of_word rfl, List.forall_mem_append.mpr ⟨fun w h => good_of_word (List.all_eq_true.mp (by decide +kernel) w h), List.forall_mem_append.mpr ⟨gu_X10, List.forall_mem_append.mpr ⟨gd_dm_X10_of, fun _ h => nomatch h⟩⟩⟩⟩
theorem hi_dm_X10_putPiped_X10 : ∀ w ∈ u_ws RX10 TX10 11, w ∈ ow_dm_X10_putPiped := fun w h => List.mem_cons_of_mem _ (List.mem_append_right _ (List.mem_append_left _ h))
theorem gi_dm_X10_putPiped_0 : GoodIn ow_dm_X10_putPiped (wsV RX10 74 RX10 yX10_of ow_dm_X10_of) := goodIn_app (goodIn_of _ (by decide +kernel)) (fun w h => ⟨List.mem_cons_of_mem _ (List.mem_append_right _ (List.mem_append_right _ (List.mem_append_left _ h))), gd_dm_X10_of w h⟩)
def dj_X10_putPiped_0 (p : Program) (l : Launch) (e : Env) (s : State) (m : MethodId) (args : Array Value) (below : List Frame) (meth : Method) (c : Code) (Q : State → Prop) (A : Nat → Prop) (dC : Nat → ClassId) (dI : Nat → Nat → Nat) (a : Nat → Nat) (ac : Nat → ClassId) (g : Int32 → Int32 → (St) → Option (St)) (r : St) : Prop := ∀ (v0 : Int32) (v1 : Int32) (s0 : St) (H : Heap) (locs : List Loc) (ls : Array Slot), g v0 v1 s0 = some r → va_P (dC, dI) vwCl (dw_X10 a ac s0) H → va_D A (dw_X10 a ac s0) → va_S A s.heap H locs → lv_has ls 5 [(0, .ref (a 0)), (1, .int v0), (2, .int v1)] → W p l e (headSpec ow_dm_X10_putPiped ({ frames := 1, cells := 0, slots := 0, locals := 22 })).room s m args below meth c H locs 0 0 Q (F0 m 0 ls [])
set_option maxHeartbeats 40000000 in
set_option maxRecDepth 100000 in
theorem db_X10_putPiped_0 {p : Program} {l : Launch} {e : Env} {s : State} {m : MethodId} {args : Array Value} {below : List Frame} {meth : Method} {c : Code} {Q : State → Prop} {A : Nat → Prop} {dC : Nat → ClassId} {dI : Nat → Nat → Nat} {a : Nat → Nat} {ac : Nat → ClassId} {n : Nat} {r : St} (C : nd_C p l s m args c A (dC, dI) cX10_putPiped 5 RX10 ow_dm_X10_putPiped (dk_X10 ac)) (K : nd_Kv p l e (headSpec ow_dm_X10_putPiped ({ frames := 1, cells := 0, slots := 0, locals := 22 })).room s m args below meth c Q A (dC, dI) cX10_putPiped (St) (dw_X10 a ac) r) : dj_X10_putPiped_0 p l e s m args below meth c Q A dC dI a ac (df_X10_putPiped_0 n) r := by
  obtain ⟨hlt, hx, hb, hml, hown, hts, hN, hA, hK⟩ := id C
  intro v0 v1 s0 H locs ls h hP hD hS hl
  unfold df_X10_putPiped_0 at h
  refine lv_aload_n hx hb dX10_putPiped_0 rfl (lv_at hl 0 rfl) ?_
  refine lv_iload_n hx hb dX10_putPiped_1 rfl (lv_at hl 1 rfl) ?_
  refine lv_iconst (v := 2) hx hb dX10_putPiped_2 (by decide) ?_
  obtain ⟨q1, s2, hq, h⟩ := nd_b2_e h
  have hPc := hP
  have hDc := hD
  have hKc := hK
  have hFc := nd_rs hD hS hA
  refine nd_cVi (As := [.int v0, .int 2]) (rest := []) (q := q1) (w' := dw_X10 a ac s2) ⟨hx, hb, hml, hown, hts⟩ (fun sz => dm_X10_of l hlt dC dI a ac n (v0) (2) s0 hq sz) (cwV 2 hts gi_dm_X10_putPiped_0 rfl rfl rfl (by decide +kernel) ⟨Nat.le_of_ble_eq_true rfl, Nat.le_of_ble_eq_true rfl⟩) hPc hDc hKc hS hA hN (va_recv hKc hPc (ci := 11) (q0 := 0) rfl rfl) rfl hl.1 rfl (Nat.le_of_ble_eq_true rfl) dX10_putPiped_3 (fun H locs hP1 hD1 hk1 hS => ?_)
  have hP := hP1
  have hD := hD1.weaken (fun k q _ h => hFc q.1 h)
  refine lv_istore_n (lv' := [(3, .int q1), (0, .ref (a 0)), (1, .int v0), (2, .int v1)]) hx hb dX10_putPiped_6 rfl hl (by decide) rfl (fun ls hl => ?_)
  refine lv_aload_n hx hb dX10_putPiped_7 rfl (lv_at hl 1 rfl) ?_
  refine va_get (D := (dC, dI)) (ci := 11) (v := .ref (a 3)) (C := RX10) (T := TX10) (N := 11) hx hb hts hi_dm_X10_putPiped_X10 hown hK hP 0 rfl rfl 2 (by decide) (hts (.fieldLink RX10 18 "TimeMachine$Things" "pipe" "[I") (List.mem_of_getElem? (i := 5) rfl)) (fun _ h9 => h9) rfl dX10_putPiped_8 ?_
  refine lv_iload_n hx hb dX10_putPiped_11 rfl (lv_at hl 0 rfl) ?_
  refine lv_iconst (v := 4) hx hb dX10_putPiped_12 (by decide) ?_
  refine lv_imul hx hb dX10_putPiped_13 ?_
  refine lv_iconst (v := 0) hx hb dX10_putPiped_14 (by decide) ?_
  refine lv_iadd hx hb dX10_putPiped_15 ?_
  obtain ⟨i4, h⟩ := nd_ck_e h
  refine va_iald (i := ((q1 * 4) + 0)) hx hb hK hP 3 2 rfl rfl i4 dX10_putPiped_16 ?_
  refine lv_topi (fun z5 ez5 => ?_)
  have h := nd_at h ez5
  refine lv_istore (lv' := [(4, .int z5), (3, .int q1), (0, .ref (a 0)), (1, .int v0), (2, .int v1)]) hx hb dX10_putPiped_17 hl (by decide) rfl (fun ls hl => ?_)
  refine lv_aload_n hx hb dX10_putPiped_19 rfl (lv_at hl 2 rfl) ?_
  refine va_get (D := (dC, dI)) (ci := 11) (v := .ref (a 4)) (C := RX10) (T := TX10) (N := 11) hx hb hts hi_dm_X10_putPiped_X10 hown hK hP 0 rfl rfl 3 (by decide) (hts (.fieldLink RX10 21 "TimeMachine$Things" "piped" "[B") (List.mem_of_getElem? (i := 6) rfl)) (fun _ h9 => h9) rfl dX10_putPiped_20 ?_
  refine lv_iload_n hx hb dX10_putPiped_23 rfl (lv_at hl 1 rfl) ?_
  refine lv_sipush (v := 512) hx hb dX10_putPiped_24 (by decide) ?_
  refine lv_imul hx hb dX10_putPiped_27 ?_
  refine lv_aload_n hx hb dX10_putPiped_28 rfl (lv_at hl 2 rfl) ?_
  refine va_get (D := (dC, dI)) (ci := 11) (v := .ref (a 3)) (C := RX10) (T := TX10) (N := 11) hx hb hts hi_dm_X10_putPiped_X10 hown hK hP 0 rfl rfl 2 (by decide) (hts (.fieldLink RX10 18 "TimeMachine$Things" "pipe" "[I") (List.mem_of_getElem? (i := 5) rfl)) (fun _ h9 => h9) rfl dX10_putPiped_29 ?_
  refine lv_iload_n hx hb dX10_putPiped_32 rfl (lv_at hl 1 rfl) ?_
  refine lv_iconst (v := 4) hx hb dX10_putPiped_33 (by decide) ?_
  refine lv_imul hx hb dX10_putPiped_34 ?_
  refine lv_iconst (v := 3) hx hb dX10_putPiped_35 (by decide) ?_
  refine lv_iadd hx hb dX10_putPiped_36 ?_
  obtain ⟨i6, h⟩ := nd_ck_e h
  refine va_iald (i := ((q1 * 4) + 3)) hx hb hK hP 3 2 rfl rfl i6 dX10_putPiped_37 ?_
  refine lv_iload hx hb dX10_putPiped_38 (lv_at hl 0 rfl) ?_
  refine lv_iadd hx hb dX10_putPiped_40 ?_
  refine lv_sipush (v := 511) hx hb dX10_putPiped_41 (by decide) ?_
  refine lv_iand hx hb dX10_putPiped_44 ?_
  refine lv_iadd hx hb dX10_putPiped_45 ?_
  refine lv_iload_n hx hb dX10_putPiped_46 rfl (lv_at hl 4 rfl) ?_
  refine lv_i2b hx hb dX10_putPiped_47 rfl ?_
  obtain ⟨i7, h⟩ := nd_ck_e h
  refine va_bast (i := ((q1 * 512) + (((sR s2 2 (Int32.toNatClampNeg ((q1 * 4) + 3))) + z5) &&& 511))) (x := (v1.toInt8.toInt32)) hx hb hK hP hD hS 4 3 rfl rfl i7 dX10_putPiped_48 (fun H locs hP hD hS => ?_)
  obtain ⟨s8, es8, h⟩ := nd_let_e h
  have hP : va_P (dC, dI) vwCl (dw_X10 a ac s8) H := by rw [es8]; exact hP
  have hD : va_D A (dw_X10 a ac s8) := by rw [es8]; exact hD
  refine lv_aload_n hx hb dX10_putPiped_49 rfl (lv_at hl 2 rfl) ?_
  refine va_get (D := (dC, dI)) (ci := 11) (v := .ref (a 3)) (C := RX10) (T := TX10) (N := 11) hx hb hts hi_dm_X10_putPiped_X10 hown hK hP 0 rfl rfl 2 (by decide) (hts (.fieldLink RX10 18 "TimeMachine$Things" "pipe" "[I") (List.mem_of_getElem? (i := 5) rfl)) (fun _ h9 => h9) rfl dX10_putPiped_50 ?_
  refine lv_iload_n hx hb dX10_putPiped_53 rfl (lv_at hl 1 rfl) ?_
  refine lv_iconst (v := 4) hx hb dX10_putPiped_54 (by decide) ?_
  refine lv_imul hx hb dX10_putPiped_55 ?_
  refine lv_iconst (v := 0) hx hb dX10_putPiped_56 (by decide) ?_
  refine lv_iadd hx hb dX10_putPiped_57 ?_
  refine lv_iload hx hb dX10_putPiped_58 (lv_at hl 0 rfl) ?_
  refine lv_iconst (v := 1) hx hb dX10_putPiped_60 (by decide) ?_
  refine lv_iadd hx hb dX10_putPiped_61 ?_
  obtain ⟨i9, h⟩ := nd_ck_e h
  refine va_iast (i := ((q1 * 4) + 0)) (x := (z5 + 1)) hx hb hK hP hD hS 3 2 rfl rfl i9 dX10_putPiped_62 (fun H locs hP hD hS => ?_)
  obtain ⟨s10, es10, h⟩ := nd_let_e h
  have hP : va_P (dC, dI) vwCl (dw_X10 a ac s10) H := by rw [es10]; exact hP
  have hD : va_D A (dw_X10 a ac s10) := by rw [es10]; exact hD
  exact K _ _ _ _ _ dX10_putPiped_63 (Option.some.inj h).symm hP hD hS
set_option maxHeartbeats 40000000 in
set_option maxRecDepth 100000 in
theorem dm_X10_putPiped (l : Launch) (hlt : l.stackTraces = false) (dC : Nat → ClassId) (dI : Nat → Nat → Nat) (a : Nat → Nat) (ac : Nat → ClassId) (n : Nat) (v0 : Int32) (v1 : Int32) (s0 : St) {r : St} (h : df_X10_putPiped n v0 v1 s0 = some r) (sz : Nat) : Met l yX10_putPiped ow_dm_X10_putPiped ({ frames := 1, cells := 0, slots := 0, locals := 22 }) (va_Pc [.ref (a 0), .int v0, .int v1] (fun U => U.heap.size = sz ∧ va_P (dC, dI) vwCl (dw_X10 a ac s0) U.heap ∧ va_K (dC, dI) vwCl (dk_X10 ac) U ∧ va_D (fun _ => True) (dw_X10 a ac s0) ∧ nv_E dI (va_A (dw_X10 a ac s0) sz) U)) (va_Qv (fun _ => True) (fun (_ : Unit) t => va_P (dC, dI) vwCl (dw_X10 a ac r) t.heap ∧ va_K (dC, dI) vwCl (dk_X10 ac) t ∧ va_D (va_A (dw_X10 a ac s0) sz) (dw_X10 a ac r)) (va_A (dw_X10 a ac s0) sz)) 0 0 (va_A (dw_X10 a ac s0) sz) := by
  refine Met.ofW (cc := cX10_putPiped) (maxL := 5) (ret := none) (by decide) rfl ?_
  intro p e s m args below meth c s₁ B hml hv
  obtain ⟨rfl, hsz, hP, hK, hD0, hN⟩ := hv
  have hx := B.exec
  have hb := B.bytes
  have hr := B.returns
  have hts := atoms_spec (ws := ow_dm_X10_putPiped) B.pre
  have hown : s.vm.findClass RX10 = some m.cls := findClass_of_methodNamed B.named
  have hlocks := B.notSynchronized
  subst hsz
  have hD := hD0.self (sz := s.heap.size)
  generalize hAe : va_A (dw_X10 a ac s0) s.heap.size = A at hD hN ⊢
  have hA : ∀ q : Nat, s.heap.size ≤ q → A q := fun q h => by rw [← hAe]; exact Or.inr h
  have hl := lv_entry ([.ref (a 0), .int v0, .int v1]) (n := 5) (Nat.le_of_ble_eq_true rfl)
  rw [lg_entry_eq]
  generalize (lg_sl ([.ref (a 0), .int v0, .int v1]) ++ List.replicate (5 - (lg_sl ([.ref (a 0), .int v0, .int v1])).length) Slot.unset).toArray = ls at hl ⊢
  have hl : lv_has ls 5 [(0, .ref (a 0)), (1, .int v0), (2, .int v1)] := hl
  exact db_X10_putPiped_0 (dC := dC) (dI := dI) (a := a) (ac := ac) (n := n) (r := r) ⟨hlt, hx, hb, hml, hown, hts, hN, hA, hK⟩ (fun pc τ H locs ls d er hP hD hS => by subst er; exact W.vret hx hb hr (fun t ht hW => ⟨⟨(), rfl, trivial, by rw [ht]; exact hP, va_K.moved hW.alike hK, hD⟩, hS.F ht⟩) hS.2.2 d) v0 v1 s0 _ _ _ h hP hD va_S.rf (lv_sub hl [0, 1, 2] rfl)
def ow_dm_X10_show : List Cond := Cond.code yX10_show cX10_show 2 none :: ([Cond.fieldLink RX10 37 "TimeMachine$Things" "shownBytes" "[B", Cond.fieldLink RX10 50 "TimeMachine$Things" "shownInAll" "J", Cond.constantLong RX10 93 (2047)] ++ (u_ws RX10 TX10 11 ++ []))
theorem gd_dm_X10_show : ∀ w ∈ ow_dm_X10_show, (w.onTables && w.keeps) = true ∨ ∃ ty, w = Cond.arrayClass ty := List.forall_mem_cons.mpr ⟨good_of_word rfl, List.forall_mem_append.mpr ⟨fun w h => good_of_word (List.all_eq_true.mp (by decide +kernel) w h), List.forall_mem_append.mpr ⟨gu_X10, fun _ h => nomatch h⟩⟩⟩
theorem hi_dm_X10_show_X10 : ∀ w ∈ u_ws RX10 TX10 11, w ∈ ow_dm_X10_show := fun w h => List.mem_cons_of_mem _ (List.mem_append_right _ (List.mem_append_left _ h))
def dj_X10_show_0 (p : Program) (l : Launch) (e : Env) (s : State) (m : MethodId) (args : Array Value) (below : List Frame) (meth : Method) (c : Code) (Q : State → Prop) (A : Nat → Prop) (dC : Nat → ClassId) (dI : Nat → Nat → Nat) (a : Nat → Nat) (ac : Nat → ClassId) (g : Int32 → (St) → Option (St)) (r : St) : Prop := ∀ (v0 : Int32) (s0 : St) (H : Heap) (locs : List Loc) (ls : Array Slot), g v0 s0 = some r → va_P (dC, dI) vwCl (dw_X10 a ac s0) H → va_D A (dw_X10 a ac s0) → va_S A s.heap H locs → lv_has ls 2 [(0, .ref (a 0)), (1, .int v0)] → W p l e (headSpec ow_dm_X10_show ({ frames := 0, cells := 0, slots := 0, locals := 0 })).room s m args below meth c H locs 0 0 Q (F0 m 0 ls [])
set_option maxHeartbeats 40000000 in
set_option maxRecDepth 100000 in
theorem db_X10_show_0 {p : Program} {l : Launch} {e : Env} {s : State} {m : MethodId} {args : Array Value} {below : List Frame} {meth : Method} {c : Code} {Q : State → Prop} {A : Nat → Prop} {dC : Nat → ClassId} {dI : Nat → Nat → Nat} {a : Nat → Nat} {ac : Nat → ClassId} {n : Nat} {r : St} (C : nd_C p l s m args c A (dC, dI) cX10_show 2 RX10 ow_dm_X10_show (dk_X10 ac)) (K : nd_Kv p l e (headSpec ow_dm_X10_show ({ frames := 0, cells := 0, slots := 0, locals := 0 })).room s m args below meth c Q A (dC, dI) cX10_show (St) (dw_X10 a ac) r) : dj_X10_show_0 p l e s m args below meth c Q A dC dI a ac (df_X10_show_0 n) r := by
  obtain ⟨hlt, hx, hb, hml, hown, hts, hN, hA, hK⟩ := id C
  intro v0 s0 H locs ls h hP hD hS hl
  unfold df_X10_show_0 at h
  refine lv_aload_n hx hb dX10_show_0 rfl (lv_at hl 0 rfl) ?_
  refine va_get (D := (dC, dI)) (ci := 11) (v := .ref (a 9)) (C := RX10) (T := TX10) (N := 11) hx hb hts hi_dm_X10_show_X10 hown hK hP 0 rfl rfl 9 (by decide) (hts (.fieldLink RX10 37 "TimeMachine$Things" "shownBytes" "[B") (List.mem_of_getElem? (i := 1) rfl)) (fun _ h9 => h9) rfl dX10_show_1 ?_
  refine lv_aload_n hx hb dX10_show_4 rfl (lv_at hl 0 rfl) ?_
  refine va_get (D := (dC, dI)) (ci := 11) (v := .long (sL s0 0)) (C := RX10) (T := TX10) (N := 11) hx hb hts hi_dm_X10_show_X10 hown hK hP 0 rfl rfl 10 (by decide) (hts (.fieldLink RX10 50 "TimeMachine$Things" "shownInAll" "J") (List.mem_of_getElem? (i := 2) rfl)) (fun _ h9 => h9) rfl dX10_show_5 ?_
  refine lv_ldc2 hx hb hown (hts (.constantLong RX10 93 (2047)) (List.mem_of_getElem? (i := 3) rfl)) dX10_show_8 ?_
  refine lv_land hx hb dX10_show_11 ?_
  refine lv_l2i hx hb dX10_show_12 rfl ?_
  refine lv_iload_n hx hb dX10_show_13 rfl (lv_at hl 1 rfl) ?_
  refine lv_i2b hx hb dX10_show_14 rfl ?_
  obtain ⟨i1, h⟩ := nd_ck_e h
  refine va_bast (i := ((((sL s0 0) : Int64) &&& 2047).toInt32)) (x := (v0.toInt8.toInt32)) hx hb hK hP hD hS 9 8 rfl rfl i1 dX10_show_15 (fun H locs hP hD hS => ?_)
  obtain ⟨s2, es2, h⟩ := nd_let_e h
  have hP : va_P (dC, dI) vwCl (dw_X10 a ac s2) H := by rw [es2]; exact hP
  have hD : va_D A (dw_X10 a ac s2) := by rw [es2]; exact hD
  refine lv_aload_n hx hb dX10_show_16 rfl (lv_at hl 0 rfl) ?_
  refine lv_dup hx hb dX10_show_17 rfl ?_
  refine va_get (D := (dC, dI)) (ci := 11) (v := .long (sL s2 0)) (C := RX10) (T := TX10) (N := 11) hx hb hts hi_dm_X10_show_X10 hown hK hP 0 rfl rfl 10 (by decide) (hts (.fieldLink RX10 50 "TimeMachine$Things" "shownInAll" "J") (List.mem_of_getElem? (i := 2) rfl)) (fun _ h9 => h9) rfl dX10_show_18 ?_
  refine lv_lconst (v := 1) hx hb dX10_show_21 (by decide) ?_
  refine lv_ladd hx hb dX10_show_22 ?_
  refine va_put (D := (dC, dI)) (ci := 11) (v := .long (((sL s2 0) : Int64) + 1)) (ty := .long) (C := RX10) (T := TX10) (N := 11) hx hb hts hi_dm_X10_show_X10 tyX10 tyX10_ok nmX10 hown hK hP hD hS 0 rfl rfl 10 (by decide) (hts (.fieldLink RX10 50 "TimeMachine$Things" "shownInAll" "J") (List.mem_of_getElem? (i := 2) rfl)) (fun _ h9 => h9) rfl (by decide +kernel) rfl rfl (Nat.le_of_ble_eq_true rfl) dX10_show_23 (fun H locs hP hD hS => ?_)
  obtain ⟨s3, es3, h⟩ := nd_let_e h
  have hP : va_P (dC, dI) vwCl (dw_X10 a ac s3) H := by rw [es3]; exact hP
  have hD : va_D A (dw_X10 a ac s3) := by rw [es3]; exact hD
  exact K _ _ _ _ _ dX10_show_26 (Option.some.inj h).symm hP hD hS
set_option maxHeartbeats 40000000 in
set_option maxRecDepth 100000 in
theorem dm_X10_show (l : Launch) (hlt : l.stackTraces = false) (dC : Nat → ClassId) (dI : Nat → Nat → Nat) (a : Nat → Nat) (ac : Nat → ClassId) (n : Nat) (v0 : Int32) (s0 : St) {r : St} (h : df_X10_show n v0 s0 = some r) (sz : Nat) : Met l yX10_show ow_dm_X10_show ({ frames := 0, cells := 0, slots := 0, locals := 0 }) (va_Pc [.ref (a 0), .int v0] (fun U => U.heap.size = sz ∧ va_P (dC, dI) vwCl (dw_X10 a ac s0) U.heap ∧ va_K (dC, dI) vwCl (dk_X10 ac) U ∧ va_D (fun _ => True) (dw_X10 a ac s0) ∧ nv_E dI (va_A (dw_X10 a ac s0) sz) U)) (va_Qv (fun _ => True) (fun (_ : Unit) t => va_P (dC, dI) vwCl (dw_X10 a ac r) t.heap ∧ va_K (dC, dI) vwCl (dk_X10 ac) t ∧ va_D (va_A (dw_X10 a ac s0) sz) (dw_X10 a ac r)) (va_A (dw_X10 a ac s0) sz)) 0 0 (va_A (dw_X10 a ac s0) sz) := by
  refine Met.ofW (cc := cX10_show) (maxL := 2) (ret := none) (by decide) rfl ?_
  intro p e s m args below meth c s₁ B hml hv
  obtain ⟨rfl, hsz, hP, hK, hD0, hN⟩ := hv
  have hx := B.exec
  have hb := B.bytes
  have hr := B.returns
  have hts := atoms_spec (ws := ow_dm_X10_show) B.pre
  have hown : s.vm.findClass RX10 = some m.cls := findClass_of_methodNamed B.named
  have hlocks := B.notSynchronized
  subst hsz
  have hD := hD0.self (sz := s.heap.size)
  generalize hAe : va_A (dw_X10 a ac s0) s.heap.size = A at hD hN ⊢
  have hA : ∀ q : Nat, s.heap.size ≤ q → A q := fun q h => by rw [← hAe]; exact Or.inr h
  have hl := lv_entry ([.ref (a 0), .int v0]) (n := 2) (Nat.le_of_ble_eq_true rfl)
  rw [lg_entry_eq]
  generalize (lg_sl ([.ref (a 0), .int v0]) ++ List.replicate (2 - (lg_sl ([.ref (a 0), .int v0])).length) Slot.unset).toArray = ls at hl ⊢
  have hl : lv_has ls 2 [(0, .ref (a 0)), (1, .int v0)] := hl
  exact db_X10_show_0 (dC := dC) (dI := dI) (a := a) (ac := ac) (n := n) (r := r) ⟨hlt, hx, hb, hml, hown, hts, hN, hA, hK⟩ (fun pc τ H locs ls d er hP hD hS => by subst er; exact W.vret hx hb hr (fun t ht hW => ⟨⟨(), rfl, trivial, by rw [ht]; exact hP, va_K.moved hW.alike hK, hD⟩, hS.F ht⟩) hS.2.2 d) v0 s0 _ _ _ h hP hD va_S.rf (lv_sub hl [0, 1] rfl)
def ow_dm_X10_shownByte : List Cond := Cond.code yX10_shownByte cX10_shownByte 4 (some .int) :: ([Cond.fieldLink RX10 50 "TimeMachine$Things" "shownInAll" "J", Cond.constantLong RX10 95 (2048), Cond.methodLink RX10 97 Lib.MathLoose.min_long.x, Cond.static Lib.MathLoose.min_long.x, Cond.initialized "java/lang/Math", Cond.code Lib.MathLoose.min_long.x Lib.MathLoose.min_long.code 4 (some .long), Cond.fieldLink RX10 37 "TimeMachine$Things" "shownBytes" "[B", Cond.constantLong RX10 93 (2047)] ++ (u_ws RX10 TX10 11 ++ []))
theorem gd_dm_X10_shownByte : ∀ w ∈ ow_dm_X10_shownByte, (w.onTables && w.keeps) = true ∨ ∃ ty, w = Cond.arrayClass ty := List.forall_mem_cons.mpr ⟨good_of_word rfl, List.forall_mem_append.mpr ⟨fun w h => good_of_word (List.all_eq_true.mp (by decide +kernel) w h), List.forall_mem_append.mpr ⟨gu_X10, fun _ h => nomatch h⟩⟩⟩
theorem hi_dm_X10_shownByte_X10 : ∀ w ∈ u_ws RX10 TX10 11, w ∈ ow_dm_X10_shownByte := fun w h => List.mem_cons_of_mem _ (List.mem_append_right _ (List.mem_append_left _ h))
def dj_X10_shownByte_22 (p : Program) (l : Launch) (e : Env) (s : State) (m : MethodId) (args : Array Value) (below : List Frame) (meth : Method) (c : Code) (Q : State → Prop) (A : Nat → Prop) (dC : Nat → ClassId) (dI : Nat → Nat → Nat) (a : Nat → Nat) (ac : Nat → ClassId) (g : (St) → Option (Int32 × (St))) (r : Int32 × (St)) : Prop := ∀ (s0 : St) (H : Heap) (locs : List Loc) (ls : Array Slot), g s0 = some r → va_P (dC, dI) vwCl (dw_X10 a ac s0) H → va_D A (dw_X10 a ac s0) → va_S A s.heap H locs → lv_has ls 4 [] → W p l e (headSpec ow_dm_X10_shownByte ({ frames := 1, cells := 0, slots := 0, locals := 15 })).room s m args below meth c H locs 0 0 Q (F0 m 22 ls [])
def dj_X10_shownByte_0 (p : Program) (l : Launch) (e : Env) (s : State) (m : MethodId) (args : Array Value) (below : List Frame) (meth : Method) (c : Code) (Q : State → Prop) (A : Nat → Prop) (dC : Nat → ClassId) (dI : Nat → Nat → Nat) (a : Nat → Nat) (ac : Nat → ClassId) (g : Int32 → (St) → Option (Int32 × (St))) (r : Int32 × (St)) : Prop := ∀ (v0 : Int32) (s0 : St) (H : Heap) (locs : List Loc) (ls : Array Slot), g v0 s0 = some r → va_P (dC, dI) vwCl (dw_X10 a ac s0) H → va_D A (dw_X10 a ac s0) → va_S A s.heap H locs → lv_has ls 4 [(0, .ref (a 0)), (1, .int v0)] → W p l e (headSpec ow_dm_X10_shownByte ({ frames := 1, cells := 0, slots := 0, locals := 15 })).room s m args below meth c H locs 0 0 Q (F0 m 0 ls [])
set_option maxHeartbeats 40000000 in
set_option maxRecDepth 100000 in
theorem db_X10_shownByte_22 {p : Program} {l : Launch} {e : Env} {s : State} {m : MethodId} {args : Array Value} {below : List Frame} {meth : Method} {c : Code} {Q : State → Prop} {A : Nat → Prop} {dC : Nat → ClassId} {dI : Nat → Nat → Nat} {a : Nat → Nat} {ac : Nat → ClassId} {n : Nat} {r : Int32 × (St)} (C : nd_C p l s m args c A (dC, dI) cX10_shownByte 4 RX10 ow_dm_X10_shownByte (dk_X10 ac)) (K : nd_Ki p l e (headSpec ow_dm_X10_shownByte ({ frames := 1, cells := 0, slots := 0, locals := 15 })).room s m args below meth c Q A (dC, dI) cX10_shownByte .int (St) (dw_X10 a ac) r) : dj_X10_shownByte_22 p l e s m args below meth c Q A dC dI a ac (df_X10_shownByte_22 n) r := by
  obtain ⟨hlt, hx, hb, hml, hown, hts, hN, hA, hK⟩ := id C
  intro s0 H locs ls h hP hD hS hl
  unfold df_X10_shownByte_22 at h
  refine lv_iconst (v := (-1)) hx hb dX10_shownByte_22 (by decide) ?_
  exact K _ _ _ _ _ _ dX10_shownByte_23 rfl (Option.some.inj h).symm hP hD hS
set_option maxHeartbeats 40000000 in
set_option maxRecDepth 100000 in
theorem db_X10_shownByte_0 {p : Program} {l : Launch} {e : Env} {s : State} {m : MethodId} {args : Array Value} {below : List Frame} {meth : Method} {c : Code} {Q : State → Prop} {A : Nat → Prop} {dC : Nat → ClassId} {dI : Nat → Nat → Nat} {a : Nat → Nat} {ac : Nat → ClassId} {n : Nat} {r : Int32 × (St)} (C : nd_C p l s m args c A (dC, dI) cX10_shownByte 4 RX10 ow_dm_X10_shownByte (dk_X10 ac)) (K : nd_Ki p l e (headSpec ow_dm_X10_shownByte ({ frames := 1, cells := 0, slots := 0, locals := 15 })).room s m args below meth c Q A (dC, dI) cX10_shownByte .int (St) (dw_X10 a ac) r) : dj_X10_shownByte_0 p l e s m args below meth c Q A dC dI a ac (df_X10_shownByte_0 n) r := by
  obtain ⟨hlt, hx, hb, hml, hown, hts, hN, hA, hK⟩ := id C
  intro v0 s0 H locs ls h hP hD hS hl
  unfold df_X10_shownByte_0 at h
  refine lv_aload_n hx hb dX10_shownByte_0 rfl (lv_at hl 0 rfl) ?_
  refine va_get (D := (dC, dI)) (ci := 11) (v := .long (sL s0 0)) (C := RX10) (T := TX10) (N := 11) hx hb hts hi_dm_X10_shownByte_X10 hown hK hP 0 rfl rfl 10 (by decide) (hts (.fieldLink RX10 50 "TimeMachine$Things" "shownInAll" "J") (List.mem_of_getElem? (i := 1) rfl)) (fun _ h9 => h9) rfl dX10_shownByte_1 ?_
  refine lv_ldc2 hx hb hown (hts (.constantLong RX10 95 (2048)) (List.mem_of_getElem? (i := 2) rfl)) dX10_shownByte_4 ?_
  refine va_mmin_long hx hb (by rw [hml]; exact hl.1.symm) hown (hts (.methodLink RX10 97 Lib.MathLoose.min_long.x) (List.mem_of_getElem? (i := 3) rfl)) (hts (.static Lib.MathLoose.min_long.x) (List.mem_of_getElem? (i := 4) rfl)) (hts (.initialized "java/lang/Math") (List.mem_of_getElem? (i := 5) rfl)) (hts (.code Lib.MathLoose.min_long.x Lib.MathLoose.min_long.code 4 (some .long)) (List.mem_of_getElem? (i := 6) rfl)) (Nat.le_of_ble_eq_true rfl) (Nat.le_of_ble_eq_true rfl) (by decide +kernel) (by decide +kernel) dX10_shownByte_7 ?_
  refine lv_topl (fun z1 ez1 => ?_)
  have h := nd_at h ez1
  refine lv_lstore_n (lv' := [(2, .long z1), (0, .ref (a 0)), (1, .int v0)]) hx hb dX10_shownByte_10 rfl hl (by decide) rfl (fun ls hl => ?_)
  refine lv_iload_n hx hb dX10_shownByte_11 rfl (lv_at hl 2 rfl) ?_
  refine lv_if_lt (tgt := 22) hx hb dX10_shownByte_12 (by decide) (fun c2 => ?_) (fun c2 => ?_)
  · have h := nd_pos h c2
    exact (db_X10_shownByte_22 C K)  s0 _ _ _ h hP hD hS (lv_sub hl [] rfl)
  · have h := nd_neg h c2
    refine lv_iload_n hx hb dX10_shownByte_15 rfl (lv_at hl 2 rfl) ?_
    refine lv_i2l hx hb dX10_shownByte_16 rfl ?_
    refine lv_lload_n hx hb dX10_shownByte_17 rfl (lv_at hl 0 rfl) ?_
    refine W.lcmp hx hb dX10_shownByte_18 ?_
    refine lv_if_lt (tgt := 24) hx hb dX10_shownByte_19 (by decide) (fun c3 => ?_) (fun c3 => ?_)
    · have h := nd_pos h c3
      refine lv_aload_n hx hb dX10_shownByte_24 rfl (lv_at hl 1 rfl) ?_
      refine va_get (D := (dC, dI)) (ci := 11) (v := .ref (a 9)) (C := RX10) (T := TX10) (N := 11) hx hb hts hi_dm_X10_shownByte_X10 hown hK hP 0 rfl rfl 9 (by decide) (hts (.fieldLink RX10 37 "TimeMachine$Things" "shownBytes" "[B") (List.mem_of_getElem? (i := 7) rfl)) (fun _ h9 => h9) rfl dX10_shownByte_25 ?_
      refine lv_aload_n hx hb dX10_shownByte_28 rfl (lv_at hl 1 rfl) ?_
      refine va_get (D := (dC, dI)) (ci := 11) (v := .long (sL s0 0)) (C := RX10) (T := TX10) (N := 11) hx hb hts hi_dm_X10_shownByte_X10 hown hK hP 0 rfl rfl 10 (by decide) (hts (.fieldLink RX10 50 "TimeMachine$Things" "shownInAll" "J") (List.mem_of_getElem? (i := 1) rfl)) (fun _ h9 => h9) rfl dX10_shownByte_29 ?_
      refine lv_lload_n hx hb dX10_shownByte_32 rfl (lv_at hl 0 rfl) ?_
      refine lv_lsub hx hb dX10_shownByte_33 ?_
      refine lv_iload_n hx hb dX10_shownByte_34 rfl (lv_at hl 2 rfl) ?_
      refine lv_i2l hx hb dX10_shownByte_35 rfl ?_
      refine lv_ladd hx hb dX10_shownByte_36 ?_
      refine lv_ldc2 hx hb hown (hts (.constantLong RX10 93 (2047)) (List.mem_of_getElem? (i := 8) rfl)) dX10_shownByte_37 ?_
      refine lv_land hx hb dX10_shownByte_40 ?_
      refine lv_l2i hx hb dX10_shownByte_41 rfl ?_
      obtain ⟨i4, h⟩ := nd_ck_e h
      refine va_bald (i := ((((((((sL s0 0) : Int64) - z1) : Int64) + (v0.toInt64)) : Int64) &&& 2047).toInt32)) hx hb hK hP 9 8 rfl rfl i4 dX10_shownByte_42 ?_
      refine lv_sipush (v := 255) hx hb dX10_shownByte_43 (by decide) ?_
      refine lv_iand hx hb dX10_shownByte_46 ?_
      exact K _ _ _ _ _ _ dX10_shownByte_47 rfl (Option.some.inj h).symm hP hD hS
    · have h := nd_neg h c3
      exact (db_X10_shownByte_22 C K)  s0 _ _ _ h hP hD hS (lv_sub hl [] rfl)
set_option maxHeartbeats 40000000 in
set_option maxRecDepth 100000 in
theorem dm_X10_shownByte (l : Launch) (hlt : l.stackTraces = false) (dC : Nat → ClassId) (dI : Nat → Nat → Nat) (a : Nat → Nat) (ac : Nat → ClassId) (n : Nat) (v0 : Int32) (s0 : St) {r : Int32 × (St)} (h : df_X10_shownByte n v0 s0 = some r) (sz : Nat) : Met l yX10_shownByte ow_dm_X10_shownByte ({ frames := 1, cells := 0, slots := 0, locals := 15 }) (va_Pc [.ref (a 0), .int v0] (fun U => U.heap.size = sz ∧ va_P (dC, dI) vwCl (dw_X10 a ac s0) U.heap ∧ va_K (dC, dI) vwCl (dk_X10 ac) U ∧ va_D (fun _ => True) (dw_X10 a ac s0) ∧ nv_E dI (va_A (dw_X10 a ac s0) sz) U)) (va_Qi (fun x _ => x = r.1) (fun (_ : Unit) t => va_P (dC, dI) vwCl (dw_X10 a ac r.2) t.heap ∧ va_K (dC, dI) vwCl (dk_X10 ac) t ∧ va_D (va_A (dw_X10 a ac s0) sz) (dw_X10 a ac r.2)) (va_A (dw_X10 a ac s0) sz)) 0 0 (va_A (dw_X10 a ac s0) sz) := by
  refine Met.ofW (cc := cX10_shownByte) (maxL := 4) (ret := (some .int)) (by decide) rfl ?_
  intro p e s m args below meth c s₁ B hml hv
  obtain ⟨rfl, hsz, hP, hK, hD0, hN⟩ := hv
  have hx := B.exec
  have hb := B.bytes
  have hr := B.returns
  have hts := atoms_spec (ws := ow_dm_X10_shownByte) B.pre
  have hown : s.vm.findClass RX10 = some m.cls := findClass_of_methodNamed B.named
  have hlocks := B.notSynchronized
  subst hsz
  have hD := hD0.self (sz := s.heap.size)
  generalize hAe : va_A (dw_X10 a ac s0) s.heap.size = A at hD hN ⊢
  have hA : ∀ q : Nat, s.heap.size ≤ q → A q := fun q h => by rw [← hAe]; exact Or.inr h
  have hl := lv_entry ([.ref (a 0), .int v0]) (n := 4) (Nat.le_of_ble_eq_true rfl)
  rw [lg_entry_eq]
  generalize (lg_sl ([.ref (a 0), .int v0]) ++ List.replicate (4 - (lg_sl ([.ref (a 0), .int v0])).length) Slot.unset).toArray = ls at hl ⊢
  have hl : lv_has ls 4 [(0, .ref (a 0)), (1, .int v0)] := hl
  exact db_X10_shownByte_0 (dC := dC) (dI := dI) (a := a) (ac := ac) (n := n) (r := r) ⟨hlt, hx, hb, hml, hown, hts, hN, hA, hK⟩ (fun pc v τ H locs ls d z er hP hD hS => by subst er; exact W.zret (v := v) hx hb hr z (fun t ht hW => ⟨⟨v, (), rfl, rfl, by rw [ht]; exact hP, va_K.moved hW.alike hK, hD⟩, hS.F ht⟩) hS.2.2 d) v0 s0 _ _ _ h hP hD va_S.rf (lv_sub hl [0, 1] rfl)
def ow_dm_X10_type : List Cond := Cond.code yX10_type cX10_type 5 (some .boolean) :: ([Cond.fieldLink RX10 46 "TimeMachine$Things" "typedBytes" "I", Cond.fieldLink RX10 34 "TimeMachine$Things" "typed" "[B"] ++ (u_ws RX10 TX10 11 ++ []))
theorem gd_dm_X10_type : ∀ w ∈ ow_dm_X10_type, (w.onTables && w.keeps) = true ∨ ∃ ty, w = Cond.arrayClass ty := List.forall_mem_cons.mpr ⟨good_of_word rfl, List.forall_mem_append.mpr ⟨fun w h => good_of_word (List.all_eq_true.mp (by decide +kernel) w h), List.forall_mem_append.mpr ⟨gu_X10, fun _ h => nomatch h⟩⟩⟩
theorem hi_dm_X10_type_X10 : ∀ w ∈ u_ws RX10 TX10 11, w ∈ ow_dm_X10_type := fun w h => List.mem_cons_of_mem _ (List.mem_append_right _ (List.mem_append_left _ h))
def dj_X10_type_19 (p : Program) (l : Launch) (e : Env) (s : State) (m : MethodId) (args : Array Value) (below : List Frame) (meth : Method) (c : Code) (Q : State → Prop) (A : Nat → Prop) (dC : Nat → ClassId) (dI : Nat → Nat → Nat) (a : Nat → Nat) (ac : Nat → ClassId) (g : Int64 → Int32 → (St) → Option (Int32 × (St))) (r : Int32 × (St)) : Prop := ∀ (x1 : Int64) (x4 : Int32) (s0 : St) (H : Heap) (locs : List Loc) (ls : Array Slot), g x1 x4 s0 = some r → va_P (dC, dI) vwCl (dw_X10 a ac s0) H → va_D A (dw_X10 a ac s0) → va_S A s.heap H locs → lv_has ls 5 [(0, .ref (a 0)), (1, .long x1), (4, .int x4)] → W p l e (headSpec ow_dm_X10_type ({ frames := 0, cells := 0, slots := 0, locals := 0 })).room s m args below meth c H locs 0 0 Q (F0 m 19 ls [])
def dj_X10_type_0 (p : Program) (l : Launch) (e : Env) (s : State) (m : MethodId) (args : Array Value) (below : List Frame) (meth : Method) (c : Code) (Q : State → Prop) (A : Nat → Prop) (dC : Nat → ClassId) (dI : Nat → Nat → Nat) (a : Nat → Nat) (ac : Nat → ClassId) (g : Int64 → Int32 → (St) → Option (Int32 × (St))) (r : Int32 × (St)) : Prop := ∀ (v0 : Int64) (v1 : Int32) (s0 : St) (H : Heap) (locs : List Loc) (ls : Array Slot), g v0 v1 s0 = some r → va_P (dC, dI) vwCl (dw_X10 a ac s0) H → va_D A (dw_X10 a ac s0) → va_S A s.heap H locs → lv_has ls 5 [(0, .ref (a 0)), (1, .long v0), (3, .int v1)] → W p l e (headSpec ow_dm_X10_type ({ frames := 0, cells := 0, slots := 0, locals := 0 })).room s m args below meth c H locs 0 0 Q (F0 m 0 ls [])
set_option maxHeartbeats 40000000 in
set_option maxRecDepth 100000 in
theorem dB_X10_type_19 {p : Program} {l : Launch} {e : Env} {s : State} {m : MethodId} {args : Array Value} {below : List Frame} {meth : Method} {c : Code} {Q : State → Prop} {A : Nat → Prop} {dC : Nat → ClassId} {dI : Nat → Nat → Nat} {a : Nat → Nat} {ac : Nat → ClassId} {n : Nat} {r : Int32 × (St)} (C : nd_C p l s m args c A (dC, dI) cX10_type 5 RX10 ow_dm_X10_type (dk_X10 ac)) (K : nd_Ki p l e (headSpec ow_dm_X10_type ({ frames := 0, cells := 0, slots := 0, locals := 0 })).room s m args below meth c Q A (dC, dI) cX10_type .boolean (St) (dw_X10 a ac) r) {g19 : Int64 → Int32 → (St) → Option (Int32 × (St))} (J19 : dj_X10_type_19 p l e s m args below meth c Q A dC dI a ac g19 r) : dj_X10_type_19 p l e s m args below meth c Q A dC dI a ac (dF_X10_type_19 n g19) r := by
  obtain ⟨hlt, hx, hb, hml, hown, hts, hN, hA, hK⟩ := id C
  intro x1 x4 s0 H locs ls h hP hD hS hl
  unfold dF_X10_type_19 at h
  refine lv_iload hx hb dX10_type_19 (lv_at hl 2 rfl) ?_
  refine lv_if_lt (tgt := 58) hx hb dX10_type_21 (by decide) (fun c3 => ?_) (fun c3 => ?_)
  · have h := nd_pos h c3
    refine lv_iconst (v := 1) hx hb dX10_type_58 (by decide) ?_
    exact K _ _ _ _ _ _ dX10_type_59 (by first | rfl | decide) (Option.some.inj h).symm hP hD hS
  · have h := nd_neg h c3
    refine lv_aload_n hx hb dX10_type_24 rfl (lv_at hl 0 rfl) ?_
    refine va_get (D := (dC, dI)) (ci := 11) (v := .ref (a 8)) (C := RX10) (T := TX10) (N := 11) hx hb hts hi_dm_X10_type_X10 hown hK hP 0 rfl rfl 7 (by decide) (hts (.fieldLink RX10 34 "TimeMachine$Things" "typed" "[B") (List.mem_of_getElem? (i := 2) rfl)) (fun _ h9 => h9) rfl dX10_type_25 ?_
    refine lv_aload_n hx hb dX10_type_28 rfl (lv_at hl 0 rfl) ?_
    refine va_get (D := (dC, dI)) (ci := 11) (v := .int (sI s0 0)) (C := RX10) (T := TX10) (N := 11) hx hb hts hi_dm_X10_type_X10 hown hK hP 0 rfl rfl 8 (by decide) (hts (.fieldLink RX10 46 "TimeMachine$Things" "typedBytes" "I") (List.mem_of_getElem? (i := 1) rfl)) (fun _ h9 => h9) rfl dX10_type_29 ?_
    refine lv_lload_n hx hb dX10_type_32 rfl (lv_at hl 1 rfl) ?_
    refine lv_bipush (v := 8) hx hb dX10_type_33 (by decide) ?_
    refine lv_iload hx hb dX10_type_35 (lv_at hl 2 rfl) ?_
    refine lv_imul hx hb dX10_type_37 ?_
    refine lv_lshr hx hb dX10_type_38 rfl ?_
    refine lv_l2i hx hb dX10_type_39 rfl ?_
    refine lv_i2b hx hb dX10_type_40 rfl ?_
    obtain ⟨i4, h⟩ := nd_ck_e h
    refine va_bast (i := (sI s0 0)) (x := (((((x1 : Int64) >>> (((8 * x4) : Int32).toInt64 &&& 63)).toInt32) : Int32).toInt8.toInt32)) hx hb hK hP hD hS 8 7 rfl rfl i4 dX10_type_41 (fun H locs hP hD hS => ?_)
    obtain ⟨s5, es5, h⟩ := nd_let_e h
    have hP : va_P (dC, dI) vwCl (dw_X10 a ac s5) H := by rw [es5]; exact hP
    have hD : va_D A (dw_X10 a ac s5) := by rw [es5]; exact hD
    refine lv_aload_n hx hb dX10_type_42 rfl (lv_at hl 0 rfl) ?_
    refine lv_dup hx hb dX10_type_43 rfl ?_
    refine va_get (D := (dC, dI)) (ci := 11) (v := .int (sI s5 0)) (C := RX10) (T := TX10) (N := 11) hx hb hts hi_dm_X10_type_X10 hown hK hP 0 rfl rfl 8 (by decide) (hts (.fieldLink RX10 46 "TimeMachine$Things" "typedBytes" "I") (List.mem_of_getElem? (i := 1) rfl)) (fun _ h9 => h9) rfl dX10_type_44 ?_
    refine lv_iconst (v := 1) hx hb dX10_type_47 (by decide) ?_
    refine lv_iadd hx hb dX10_type_48 ?_
    refine va_put (D := (dC, dI)) (ci := 11) (v := .int ((sI s5 0) + 1)) (ty := .int) (C := RX10) (T := TX10) (N := 11) hx hb hts hi_dm_X10_type_X10 tyX10 tyX10_ok nmX10 hown hK hP hD hS 0 rfl rfl 8 (by decide) (hts (.fieldLink RX10 46 "TimeMachine$Things" "typedBytes" "I") (List.mem_of_getElem? (i := 1) rfl)) (fun _ h9 => h9) rfl (by decide +kernel) rfl rfl (Nat.le_of_ble_eq_true rfl) dX10_type_49 (fun H locs hP hD hS => ?_)
    obtain ⟨s6, es6, h⟩ := nd_let_e h
    have hP : va_P (dC, dI) vwCl (dw_X10 a ac s6) H := by rw [es6]; exact hP
    have hD : va_D A (dw_X10 a ac s6) := by rw [es6]; exact hD
    obtain ⟨z7, ez7, h⟩ := nd_let_e h
    refine lv_iinc (v := z7) (lv' := [(4, .int z7), (0, .ref (a 0)), (1, .long x1)]) hx hb dX10_type_52 hl (k := 2) rfl (by rw [ez7]) (by decide) rfl (fun ls hl => ?_)
    refine lv_goto (tgt := 19) hx hb dX10_type_55 (by decide) ?_
    exact (J19) (x1) (z7) s6 _ _ _ h hP hD hS (lv_sub hl [1, 2, 0] rfl)
set_option maxHeartbeats 40000000 in
set_option maxRecDepth 100000 in
theorem db_X10_type_19 {p : Program} {l : Launch} {e : Env} {s : State} {m : MethodId} {args : Array Value} {below : List Frame} {meth : Method} {c : Code} {Q : State → Prop} {A : Nat → Prop} {dC : Nat → ClassId} {dI : Nat → Nat → Nat} {a : Nat → Nat} {ac : Nat → ClassId} {n : Nat} {r : Int32 × (St)} (C : nd_C p l s m args c A (dC, dI) cX10_type 5 RX10 ow_dm_X10_type (dk_X10 ac)) (K : nd_Ki p l e (headSpec ow_dm_X10_type ({ frames := 0, cells := 0, slots := 0, locals := 0 })).room s m args below meth c Q A (dC, dI) cX10_type .boolean (St) (dw_X10 a ac) r) (k : Nat) : dj_X10_type_19 p l e s m args below meth c Q A dC dI a ac (df_X10_type_19 n k) r := by
  induction k with
  | zero => intro x1 x4 s0 H locs ls h; exact nomatch (show (none : Option (Int32 × (St))) = some r from h)
  | succ k ih => exact dB_X10_type_19 C K ih
set_option maxHeartbeats 40000000 in
set_option maxRecDepth 100000 in
theorem db_X10_type_0 {p : Program} {l : Launch} {e : Env} {s : State} {m : MethodId} {args : Array Value} {below : List Frame} {meth : Method} {c : Code} {Q : State → Prop} {A : Nat → Prop} {dC : Nat → ClassId} {dI : Nat → Nat → Nat} {a : Nat → Nat} {ac : Nat → ClassId} {n : Nat} {r : Int32 × (St)} (C : nd_C p l s m args c A (dC, dI) cX10_type 5 RX10 ow_dm_X10_type (dk_X10 ac)) (K : nd_Ki p l e (headSpec ow_dm_X10_type ({ frames := 0, cells := 0, slots := 0, locals := 0 })).room s m args below meth c Q A (dC, dI) cX10_type .boolean (St) (dw_X10 a ac) r) : dj_X10_type_0 p l e s m args below meth c Q A dC dI a ac (df_X10_type_0 n) r := by
  obtain ⟨hlt, hx, hb, hml, hown, hts, hN, hA, hK⟩ := id C
  intro v0 v1 s0 H locs ls h hP hD hS hl
  unfold df_X10_type_0 at h
  refine lv_aload_n hx hb dX10_type_0 rfl (lv_at hl 0 rfl) ?_
  refine va_get (D := (dC, dI)) (ci := 11) (v := .int (sI s0 0)) (C := RX10) (T := TX10) (N := 11) hx hb hts hi_dm_X10_type_X10 hown hK hP 0 rfl rfl 8 (by decide) (hts (.fieldLink RX10 46 "TimeMachine$Things" "typedBytes" "I") (List.mem_of_getElem? (i := 1) rfl)) (fun _ h9 => h9) rfl dX10_type_1 ?_
  refine lv_iload_n hx hb dX10_type_4 rfl (lv_at hl 2 rfl) ?_
  refine lv_iadd hx hb dX10_type_5 ?_
  refine lv_sipush (v := 512) hx hb dX10_type_6 (by decide) ?_
  refine lv_icmp_le (tgt := 14) hx hb dX10_type_9 (by decide) (fun c1 => ?_) (fun c1 => ?_)
  · have h := nd_pos h c1
    refine lv_iload_n hx hb dX10_type_14 rfl (lv_at hl 2 rfl) ?_
    refine lv_iconst (v := 1) hx hb dX10_type_15 (by decide) ?_
    refine lv_isub hx hb dX10_type_16 ?_
    refine lv_topi (fun z2 ez2 => ?_)
    have h := nd_at h ez2
    refine lv_istore (lv' := [(4, .int z2), (0, .ref (a 0)), (1, .long v0), (3, .int v1)]) hx hb dX10_type_17 hl (by decide) rfl (fun ls hl => ?_)
    exact (db_X10_type_19 C K n) (v0) (z2) s0 _ _ _ h hP hD hS (lv_sub hl [1, 2, 0] rfl)
  · have h := nd_neg h c1
    refine lv_iconst (v := 0) hx hb dX10_type_12 (by decide) ?_
    exact K _ _ _ _ _ _ dX10_type_13 (by first | rfl | decide) (Option.some.inj h).symm hP hD hS
set_option maxHeartbeats 40000000 in
set_option maxRecDepth 100000 in
theorem dm_X10_type (l : Launch) (hlt : l.stackTraces = false) (dC : Nat → ClassId) (dI : Nat → Nat → Nat) (a : Nat → Nat) (ac : Nat → ClassId) (n : Nat) (v0 : Int64) (v1 : Int32) (s0 : St) {r : Int32 × (St)} (h : df_X10_type n v0 v1 s0 = some r) (sz : Nat) : Met l yX10_type ow_dm_X10_type ({ frames := 0, cells := 0, slots := 0, locals := 0 }) (va_Pc [.ref (a 0), .long v0, .int v1] (fun U => U.heap.size = sz ∧ va_P (dC, dI) vwCl (dw_X10 a ac s0) U.heap ∧ va_K (dC, dI) vwCl (dk_X10 ac) U ∧ va_D (fun _ => True) (dw_X10 a ac s0) ∧ nv_E dI (va_A (dw_X10 a ac s0) sz) U)) (va_Qi (fun x _ => x = r.1) (fun (_ : Unit) t => va_P (dC, dI) vwCl (dw_X10 a ac r.2) t.heap ∧ va_K (dC, dI) vwCl (dk_X10 ac) t ∧ va_D (va_A (dw_X10 a ac s0) sz) (dw_X10 a ac r.2)) (va_A (dw_X10 a ac s0) sz)) 0 0 (va_A (dw_X10 a ac s0) sz) := by
  refine Met.ofW (cc := cX10_type) (maxL := 5) (ret := (some .boolean)) (by decide) rfl ?_
  intro p e s m args below meth c s₁ B hml hv
  obtain ⟨rfl, hsz, hP, hK, hD0, hN⟩ := hv
  have hx := B.exec
  have hb := B.bytes
  have hr := B.returns
  have hts := atoms_spec (ws := ow_dm_X10_type) B.pre
  have hown : s.vm.findClass RX10 = some m.cls := findClass_of_methodNamed B.named
  have hlocks := B.notSynchronized
  subst hsz
  have hD := hD0.self (sz := s.heap.size)
  generalize hAe : va_A (dw_X10 a ac s0) s.heap.size = A at hD hN ⊢
  have hA : ∀ q : Nat, s.heap.size ≤ q → A q := fun q h => by rw [← hAe]; exact Or.inr h
  have hl := lv_entry ([.ref (a 0), .long v0, .int v1]) (n := 5) (Nat.le_of_ble_eq_true rfl)
  rw [lg_entry_eq]
  generalize (lg_sl ([.ref (a 0), .long v0, .int v1]) ++ List.replicate (5 - (lg_sl ([.ref (a 0), .long v0, .int v1])).length) Slot.unset).toArray = ls at hl ⊢
  have hl : lv_has ls 5 [(0, .ref (a 0)), (1, .long v0), (3, .int v1)] := hl
  exact db_X10_type_0 (dC := dC) (dI := dI) (a := a) (ac := ac) (n := n) (r := r) ⟨hlt, hx, hb, hml, hown, hts, hN, hA, hK⟩ (fun pc v τ H locs ls d z er hP hD hS => by subst er; exact W.zret (v := v) hx hb hr z (fun t ht hW => ⟨⟨v, (), rfl, rfl, by rw [ht]; exact hP, va_K.moved hW.alike hK, hD⟩, hS.F ht⟩) hS.2.2 d) v0 v1 s0 _ _ _ h hP hD va_S.rf (lv_sub hl [0, 1, 2] rfl)
def ow_dm_X10_seek : List Cond := Cond.code yX10_seek cX10_seek 3 none :: ([Cond.fieldLink RX10 15 "TimeMachine$Things" "opening" "[I"] ++ (u_ws RX10 TX10 11 ++ []))
theorem gd_dm_X10_seek : ∀ w ∈ ow_dm_X10_seek, (w.onTables && w.keeps) = true ∨ ∃ ty, w = Cond.arrayClass ty := List.forall_mem_cons.mpr ⟨good_of_word rfl, List.forall_mem_append.mpr ⟨fun w h => good_of_word (List.all_eq_true.mp (by decide +kernel) w h), List.forall_mem_append.mpr ⟨gu_X10, fun _ h => nomatch h⟩⟩⟩
theorem hi_dm_X10_seek_X10 : ∀ w ∈ u_ws RX10 TX10 11, w ∈ ow_dm_X10_seek := fun w h => List.mem_cons_of_mem _ (List.mem_append_right _ (List.mem_append_left _ h))
def dj_X10_seek_0 (p : Program) (l : Launch) (e : Env) (s : State) (m : MethodId) (args : Array Value) (below : List Frame) (meth : Method) (c : Code) (Q : State → Prop) (A : Nat → Prop) (dC : Nat → ClassId) (dI : Nat → Nat → Nat) (a : Nat → Nat) (ac : Nat → ClassId) (g : Int32 → Int32 → (St) → Option (St)) (r : St) : Prop := ∀ (v0 : Int32) (v1 : Int32) (s0 : St) (H : Heap) (locs : List Loc) (ls : Array Slot), g v0 v1 s0 = some r → va_P (dC, dI) vwCl (dw_X10 a ac s0) H → va_D A (dw_X10 a ac s0) → va_S A s.heap H locs → lv_has ls 3 [(0, .ref (a 0)), (1, .int v0), (2, .int v1)] → W p l e (headSpec ow_dm_X10_seek ({ frames := 0, cells := 0, slots := 0, locals := 0 })).room s m args below meth c H locs 0 0 Q (F0 m 0 ls [])
set_option maxHeartbeats 40000000 in
set_option maxRecDepth 100000 in
theorem db_X10_seek_0 {p : Program} {l : Launch} {e : Env} {s : State} {m : MethodId} {args : Array Value} {below : List Frame} {meth : Method} {c : Code} {Q : State → Prop} {A : Nat → Prop} {dC : Nat → ClassId} {dI : Nat → Nat → Nat} {a : Nat → Nat} {ac : Nat → ClassId} {n : Nat} {r : St} (C : nd_C p l s m args c A (dC, dI) cX10_seek 3 RX10 ow_dm_X10_seek (dk_X10 ac)) (K : nd_Kv p l e (headSpec ow_dm_X10_seek ({ frames := 0, cells := 0, slots := 0, locals := 0 })).room s m args below meth c Q A (dC, dI) cX10_seek (St) (dw_X10 a ac) r) : dj_X10_seek_0 p l e s m args below meth c Q A dC dI a ac (df_X10_seek_0 n) r := by
  obtain ⟨hlt, hx, hb, hml, hown, hts, hN, hA, hK⟩ := id C
  intro v0 v1 s0 H locs ls h hP hD hS hl
  unfold df_X10_seek_0 at h
  refine lv_aload_n hx hb dX10_seek_0 rfl (lv_at hl 0 rfl) ?_
  refine va_get (D := (dC, dI)) (ci := 11) (v := .ref (a 2)) (C := RX10) (T := TX10) (N := 11) hx hb hts hi_dm_X10_seek_X10 hown hK hP 0 rfl rfl 1 (by decide) (hts (.fieldLink RX10 15 "TimeMachine$Things" "opening" "[I") (List.mem_of_getElem? (i := 1) rfl)) (fun _ h9 => h9) rfl dX10_seek_1 ?_
  refine lv_iload_n hx hb dX10_seek_4 rfl (lv_at hl 1 rfl) ?_
  refine lv_iconst (v := 5) hx hb dX10_seek_5 (by decide) ?_
  refine lv_imul hx hb dX10_seek_6 ?_
  refine lv_iconst (v := 3) hx hb dX10_seek_7 (by decide) ?_
  refine lv_iadd hx hb dX10_seek_8 ?_
  refine lv_iload_n hx hb dX10_seek_9 rfl (lv_at hl 2 rfl) ?_
  obtain ⟨i1, h⟩ := nd_ck_e h
  refine va_iast (i := ((v0 * 5) + 3)) (x := v1) hx hb hK hP hD hS 2 1 rfl rfl i1 dX10_seek_10 (fun H locs hP hD hS => ?_)
  obtain ⟨s2, es2, h⟩ := nd_let_e h
  have hP : va_P (dC, dI) vwCl (dw_X10 a ac s2) H := by rw [es2]; exact hP
  have hD : va_D A (dw_X10 a ac s2) := by rw [es2]; exact hD
  exact K _ _ _ _ _ dX10_seek_11 (Option.some.inj h).symm hP hD hS
set_option maxHeartbeats 40000000 in
set_option maxRecDepth 100000 in
theorem dm_X10_seek (l : Launch) (hlt : l.stackTraces = false) (dC : Nat → ClassId) (dI : Nat → Nat → Nat) (a : Nat → Nat) (ac : Nat → ClassId) (n : Nat) (v0 : Int32) (v1 : Int32) (s0 : St) {r : St} (h : df_X10_seek n v0 v1 s0 = some r) (sz : Nat) : Met l yX10_seek ow_dm_X10_seek ({ frames := 0, cells := 0, slots := 0, locals := 0 }) (va_Pc [.ref (a 0), .int v0, .int v1] (fun U => U.heap.size = sz ∧ va_P (dC, dI) vwCl (dw_X10 a ac s0) U.heap ∧ va_K (dC, dI) vwCl (dk_X10 ac) U ∧ va_D (fun _ => True) (dw_X10 a ac s0) ∧ nv_E dI (va_A (dw_X10 a ac s0) sz) U)) (va_Qv (fun _ => True) (fun (_ : Unit) t => va_P (dC, dI) vwCl (dw_X10 a ac r) t.heap ∧ va_K (dC, dI) vwCl (dk_X10 ac) t ∧ va_D (va_A (dw_X10 a ac s0) sz) (dw_X10 a ac r)) (va_A (dw_X10 a ac s0) sz)) 0 0 (va_A (dw_X10 a ac s0) sz) := by
  refine Met.ofW (cc := cX10_seek) (maxL := 3) (ret := none) (by decide) rfl ?_
  intro p e s m args below meth c s₁ B hml hv
  obtain ⟨rfl, hsz, hP, hK, hD0, hN⟩ := hv
  have hx := B.exec
  have hb := B.bytes
  have hr := B.returns
  have hts := atoms_spec (ws := ow_dm_X10_seek) B.pre
  have hown : s.vm.findClass RX10 = some m.cls := findClass_of_methodNamed B.named
  have hlocks := B.notSynchronized
  subst hsz
  have hD := hD0.self (sz := s.heap.size)
  generalize hAe : va_A (dw_X10 a ac s0) s.heap.size = A at hD hN ⊢
  have hA : ∀ q : Nat, s.heap.size ≤ q → A q := fun q h => by rw [← hAe]; exact Or.inr h
  have hl := lv_entry ([.ref (a 0), .int v0, .int v1]) (n := 3) (Nat.le_of_ble_eq_true rfl)
  rw [lg_entry_eq]
  generalize (lg_sl ([.ref (a 0), .int v0, .int v1]) ++ List.replicate (3 - (lg_sl ([.ref (a 0), .int v0, .int v1])).length) Slot.unset).toArray = ls at hl ⊢
  have hl : lv_has ls 3 [(0, .ref (a 0)), (1, .int v0), (2, .int v1)] := hl
  exact db_X10_seek_0 (dC := dC) (dI := dI) (a := a) (ac := ac) (n := n) (r := r) ⟨hlt, hx, hb, hml, hown, hts, hN, hA, hK⟩ (fun pc τ H locs ls d er hP hD hS => by subst er; exact W.vret hx hb hr (fun t ht hW => ⟨⟨(), rfl, trivial, by rw [ht]; exact hP, va_K.moved hW.alike hK, hD⟩, hS.F ht⟩) hS.2.2 d) v0 v1 s0 _ _ _ h hP hD va_S.rf (lv_sub hl [0, 1, 2] rfl)
def ow_dm_J7_fill_031fb : List Cond := Cond.code yJ7_fill_031fb cJ7_fill_031fb 4 none :: ([] ++ [])
theorem gd_dm_J7_fill_031fb : ∀ w ∈ ow_dm_J7_fill_031fb, (w.onTables && w.keeps) = true ∨ ∃ ty, w = Cond.arrayClass ty := List.forall_mem_cons.mpr ⟨good_of_word rfl, List.forall_mem_append.mpr ⟨fun w h => good_of_word (List.all_eq_true.mp (by decide +kernel) w h), fun _ h => nomatch h⟩⟩
set_option maxHeartbeats 40000000 in
set_option maxRecDepth 100000 in
theorem dl_J7_fill_031fb {p : Program} {l : Launch} {e : Env} {s : State} {m : MethodId} {args : Array Value} {below : List Frame} {meth : Method} {c : Code} {Q : State → Prop} {A : Nat → Prop} (dC : Nat → ClassId) (dI : Nat → Nat → Nat) (b : Nat) (cb : ClassId) (N : Nat) (hNN : (Int32.ofNat N).toInt = N) (hN31 : N < 2147483648) (f : Nat → Int32) (v : Int32) (hx : p.tables.exec = Jvm.exec) (hb : c.code = cJ7_fill_031fb) (hK : va_K (dC, dI) vwCl [(cb, .byte)] s)
    (kk : ∀ (H : Heap) (locs : List Loc) (ls : Array Slot), va_P (dC, dI) vwCl [(b, .inl (cb, N, .inl (nd_fl N (vp_nar .byte v) f)))] H → va_D A [(b, .inl (cb, N, .inl (nd_fl N (vp_nar .byte v) f)))] → va_S A s.heap H locs → W p l e (headSpec ow_dm_J7_fill_031fb ({ frames := 0, cells := 0, slots := 0, locals := 0 })).room s m args below meth c H locs 0 0 Q (F0 m 20 ls [])) :
    ∀ (k : Nat) (i : Int32) (H : Heap) (locs : List Loc) (ls : Array Slot), 0 ≤ i.toInt → i.toInt + k = N → va_P (dC, dI) vwCl [(b, .inl (cb, N, .inl (nd_fl i.toNatClampNeg (vp_nar .byte v) f)))] H → va_D A [(b, .inl (cb, N, .inl (nd_fl i.toNatClampNeg (vp_nar .byte v) f)))] → va_S A s.heap H locs → lv_has ls 4 [(2, .int i), (3, .int (Int32.ofNat N)), (0, .ref b), (1, .int v)] → W p l e (headSpec ow_dm_J7_fill_031fb ({ frames := 0, cells := 0, slots := 0, locals := 0 })).room s m args below meth c H locs 0 0 Q (F0 m 5 ls []) := by
  intro k
  induction k with
  | zero =>
    intro i H locs ls h0 hk hP hD hS hl
    refine lv_iload_n hx hb dJ7_fill_031fb_5 rfl (lv_at hl 0 rfl) ?_
    refine lv_iload_n hx hb dJ7_fill_031fb_6 rfl (lv_at hl 1 rfl) ?_
    refine lv_icmp_ge (tgt := 20) hx hb dJ7_fill_031fb_7 (by decide) (fun _ => ?_) (fun h9 => absurd (Int32.le_iff_toInt_le.mpr (by rw [hNN]; omega)) h9)
    have hi : i.toNatClampNeg = N := by show i.toInt.toNat = N; omega
    rw [hi] at hP hD
    exact kk H locs ls hP hD hS
  | succ k ih =>
    intro i H locs ls h0 hk hP hD hS hl
    refine lv_iload_n hx hb dJ7_fill_031fb_5 rfl (lv_at hl 0 rfl) ?_
    refine lv_iload_n hx hb dJ7_fill_031fb_6 rfl (lv_at hl 1 rfl) ?_
    refine lv_icmp_ge (tgt := 20) hx hb dJ7_fill_031fb_7 (by decide) (fun h9 => absurd (Int32.le_iff_toInt_le.mp h9) (by rw [hNN]; omega)) (fun _ => ?_)
    refine lv_aload_n hx hb dJ7_fill_031fb_10 rfl (lv_at hl 2 rfl) ?_
    refine lv_iload_n hx hb dJ7_fill_031fb_11 rfl (lv_at hl 0 rfl) ?_
    refine lv_iload_n hx hb dJ7_fill_031fb_12 rfl (lv_at hl 3 rfl) ?_
    refine va_bast (i := i) (x := v) hx hb hK hP hD hS 0 0 rfl rfl (by rw [vp_in_iff]; omega) dJ7_fill_031fb_13 (fun H locs hP hD hS => ?_)
    obtain ⟨z, ez⟩ : ∃ y : Int32, y = i + Int32.ofInt 1 := ⟨_, rfl⟩
    refine lv_iinc (v := z) (lv' := [(2, .int z), (3, .int (Int32.ofNat N)), (0, .ref b), (1, .int v)]) hx hb dJ7_fill_031fb_14 hl (k := 0) rfl (by rw [ez]) (by decide) rfl (fun ls hl => ?_)
    refine lv_goto (tgt := 5) hx hb dJ7_fill_031fb_17 (by decide) ?_
    have hz : z.toInt = i.toInt + 1 := by rw [ez]; exact nv_inc h0 (by omega)
    have hn : z.toNatClampNeg = i.toNatClampNeg + 1 := by show z.toInt.toNat = i.toInt.toNat + 1; omega
    have hP : va_P (dC, dI) vwCl [(b, .inl (cb, N, .inl (upd (nd_fl i.toNatClampNeg (vp_nar .byte v) f) i.toNatClampNeg (vp_nar .byte v))))] H := hP
    have hD : va_D A [(b, .inl (cb, N, .inl (upd (nd_fl i.toNatClampNeg (vp_nar .byte v) f) i.toNatClampNeg (vp_nar .byte v))))] := hD
    rw [nd_fl1, ← hn] at hP hD
    exact ih z H locs ls (by omega) (by omega) hP hD hS hl
set_option maxHeartbeats 40000000 in
set_option maxRecDepth 100000 in
theorem dm_J7_fill_031fb (l : Launch) (hlt : l.stackTraces = false) (dC : Nat → ClassId) (dI : Nat → Nat → Nat) (b : Nat) (cb : ClassId) (N : Nat) (hN31 : N < 2147483648) (f : Nat → Int32) (v : Int32) (sz : Nat) : Met l yJ7_fill_031fb ow_dm_J7_fill_031fb ({ frames := 0, cells := 0, slots := 0, locals := 0 }) (va_Pc [.ref b, .int v] (fun U => U.heap.size = sz ∧ va_P (dC, dI) vwCl [(b, .inl (cb, N, .inl f))] U.heap ∧ va_K (dC, dI) vwCl [(cb, .byte)] U ∧ va_D (fun _ => True) [(b, .inl (cb, N, .inl f))] ∧ nv_E dI (va_A [(b, .inl (cb, N, .inl f))] sz) U)) (va_Qv (fun _ => True) (fun (_ : Unit) t => va_P (dC, dI) vwCl [(b, .inl (cb, N, .inl (nd_fl N (vp_nar .byte v) f)))] t.heap ∧ va_K (dC, dI) vwCl [(cb, .byte)] t ∧ va_D (va_A [(b, .inl (cb, N, .inl f))] sz) [(b, .inl (cb, N, .inl (nd_fl N (vp_nar .byte v) f)))]) (va_A [(b, .inl (cb, N, .inl f))] sz)) 0 0 (va_A [(b, .inl (cb, N, .inl f))] sz) := by
  have hNN : (Int32.ofNat N).toInt = N := Int32.toInt_ofNat_of_lt hN31
  refine Met.ofW (cc := cJ7_fill_031fb) (maxL := 4) (ret := none) (by decide) rfl ?_
  intro p e s m args below meth c s₁ B hml hv
  obtain ⟨rfl, hsz, hP, hK, hD0, hN⟩ := hv
  have hx := B.exec
  have hb := B.bytes
  have hr := B.returns
  have hlocks := B.notSynchronized
  subst hsz
  have hD := hD0.self (sz := s.heap.size)
  generalize hAe : va_A [(b, .inl (cb, N, .inl f))] s.heap.size = A at hD hN ⊢
  have hl := lv_entry ([.ref b, .int v]) (n := 4) (Nat.le_of_ble_eq_true rfl)
  rw [lg_entry_eq]
  generalize (lg_sl ([.ref b, .int v]) ++ List.replicate (4 - (lg_sl ([.ref b, .int v])).length) Slot.unset).toArray = ls at hl ⊢
  have hl : lv_has ls 4 [(0, .ref b), (1, .int v)] := hl
  refine lv_iconst (v := 0) hx hb dJ7_fill_031fb_0 (by decide) ?_
  refine lv_istore_n (lv' := [(2, .int 0), (0, .ref b), (1, .int v)]) hx hb dJ7_fill_031fb_1 rfl hl (by decide) rfl (fun ls hl => ?_)
  refine lv_aload_n hx hb dJ7_fill_031fb_2 rfl (lv_at hl 1 rfl) ?_
  refine va_alen (v := Int32.ofNat N) hx hb hK hP 0 0 rfl rfl rfl dJ7_fill_031fb_3 ?_
  refine lv_istore_n (lv' := [(3, .int (Int32.ofNat N)), (2, .int 0), (0, .ref b), (1, .int v)]) hx hb dJ7_fill_031fb_4 rfl hl (by decide) rfl (fun ls hl => ?_)
  refine dl_J7_fill_031fb dC dI b cb N hNN hN31 f v hx hb hK (fun H locs ls hP hD hS => ?_) N 0 s.heap [] ls (by decide) (by show (0 : Int) + N = N; omega) (by rw [show (0 : Int32).toNatClampNeg = 0 from rfl, nd_fl0]; exact hP) (by rw [show (0 : Int32).toNatClampNeg = 0 from rfl, nd_fl0]; exact hD) va_S.rf (lv_sub hl [1, 0, 2, 3] rfl)
  exact W.vret hx hb hr (fun t ht hW => ⟨⟨(), rfl, trivial, by rw [ht]; exact hP, va_K.moved hW.alike hK, hD⟩, hS.F ht⟩) hS.2.2 dJ7_fill_031fb_20
def ow_dm_J1_canEncode_9a6ad : List Cond := Cond.code yJ1_canEncode_9a6ad cJ1_canEncode_9a6ad 1 (some .boolean) :: ([] ++ [])
theorem gd_dm_J1_canEncode_9a6ad : ∀ w ∈ ow_dm_J1_canEncode_9a6ad, (w.onTables && w.keeps) = true ∨ ∃ ty, w = Cond.arrayClass ty := List.forall_mem_cons.mpr ⟨good_of_word rfl, List.forall_mem_append.mpr ⟨fun w h => good_of_word (List.all_eq_true.mp (by decide +kernel) w h), fun _ h => nomatch h⟩⟩
def dj_J1_canEncode_9a6ad_16 (p : Program) (l : Launch) (e : Env) (s : State) (m : MethodId) (args : Array Value) (below : List Frame) (meth : Method) (c : Code) (Q : State → Prop) (A : Nat → Prop) (dC : Nat → ClassId) (dI : Nat → Nat → Nat) (a : Nat → Nat) (ac : Nat → ClassId) (g : Int32 → (Unit) → Option (Int32 × (Unit))) (r : Int32 × (Unit)) : Prop := ∀ (y0 : Int32) (s0 : Unit) (H : Heap) (locs : List Loc) (ls : Array Slot), g y0 s0 = some r → va_P (dC, dI) vwCl (dw_P a ac s0) H → va_D A (dw_P a ac s0) → va_S A s.heap H locs → lv_has ls 1 [] → W p l e (headSpec ow_dm_J1_canEncode_9a6ad ({ frames := 0, cells := 0, slots := 0, locals := 0 })).room s m args below meth c H locs 0 0 Q (F0 m 16 ls [.int y0])
def dj_J1_canEncode_9a6ad_15 (p : Program) (l : Launch) (e : Env) (s : State) (m : MethodId) (args : Array Value) (below : List Frame) (meth : Method) (c : Code) (Q : State → Prop) (A : Nat → Prop) (dC : Nat → ClassId) (dI : Nat → Nat → Nat) (a : Nat → Nat) (ac : Nat → ClassId) (g : (Unit) → Option (Int32 × (Unit))) (r : Int32 × (Unit)) : Prop := ∀ (s0 : Unit) (H : Heap) (locs : List Loc) (ls : Array Slot), g s0 = some r → va_P (dC, dI) vwCl (dw_P a ac s0) H → va_D A (dw_P a ac s0) → va_S A s.heap H locs → lv_has ls 1 [] → W p l e (headSpec ow_dm_J1_canEncode_9a6ad ({ frames := 0, cells := 0, slots := 0, locals := 0 })).room s m args below meth c H locs 0 0 Q (F0 m 15 ls [])
def dj_J1_canEncode_9a6ad_0 (p : Program) (l : Launch) (e : Env) (s : State) (m : MethodId) (args : Array Value) (below : List Frame) (meth : Method) (c : Code) (Q : State → Prop) (A : Nat → Prop) (dC : Nat → ClassId) (dI : Nat → Nat → Nat) (a : Nat → Nat) (ac : Nat → ClassId) (g : Int32 → (Unit) → Option (Int32 × (Unit))) (r : Int32 × (Unit)) : Prop := ∀ (v0 : Int32) (s0 : Unit) (H : Heap) (locs : List Loc) (ls : Array Slot), g v0 s0 = some r → va_P (dC, dI) vwCl (dw_P a ac s0) H → va_D A (dw_P a ac s0) → va_S A s.heap H locs → lv_has ls 1 [(0, .int v0)] → W p l e (headSpec ow_dm_J1_canEncode_9a6ad ({ frames := 0, cells := 0, slots := 0, locals := 0 })).room s m args below meth c H locs 0 0 Q (F0 m 0 ls [])
set_option maxHeartbeats 40000000 in
set_option maxRecDepth 100000 in
theorem db_J1_canEncode_9a6ad_16 {p : Program} {l : Launch} {e : Env} {s : State} {m : MethodId} {args : Array Value} {below : List Frame} {meth : Method} {c : Code} {Q : State → Prop} {A : Nat → Prop} {dC : Nat → ClassId} {dI : Nat → Nat → Nat} {a : Nat → Nat} {ac : Nat → ClassId} {n : Nat} {r : Int32 × (Unit)} (C : nd_C p l s m args c A (dC, dI) cJ1_canEncode_9a6ad 1 RJ1 ow_dm_J1_canEncode_9a6ad (dk_P ac)) (K : nd_Ki p l e (headSpec ow_dm_J1_canEncode_9a6ad ({ frames := 0, cells := 0, slots := 0, locals := 0 })).room s m args below meth c Q A (dC, dI) cJ1_canEncode_9a6ad .boolean (Unit) (dw_P a ac) r) : dj_J1_canEncode_9a6ad_16 p l e s m args below meth c Q A dC dI a ac (df_J1_canEncode_9a6ad_16 n) r := by
  obtain ⟨hlt, hx, hb, hml, hown, hts, hN, hA, hK⟩ := id C
  intro y0 s0 H locs ls h hP hD hS hl
  unfold df_J1_canEncode_9a6ad_16 at h
  obtain ⟨n2, h⟩ := nd_z_e ⟨_, rfl⟩ h
  exact K _ _ _ _ _ _ dJ1_canEncode_9a6ad_16 n2 (Option.some.inj h).symm hP hD hS
set_option maxHeartbeats 40000000 in
set_option maxRecDepth 100000 in
theorem db_J1_canEncode_9a6ad_15 {p : Program} {l : Launch} {e : Env} {s : State} {m : MethodId} {args : Array Value} {below : List Frame} {meth : Method} {c : Code} {Q : State → Prop} {A : Nat → Prop} {dC : Nat → ClassId} {dI : Nat → Nat → Nat} {a : Nat → Nat} {ac : Nat → ClassId} {n : Nat} {r : Int32 × (Unit)} (C : nd_C p l s m args c A (dC, dI) cJ1_canEncode_9a6ad 1 RJ1 ow_dm_J1_canEncode_9a6ad (dk_P ac)) (K : nd_Ki p l e (headSpec ow_dm_J1_canEncode_9a6ad ({ frames := 0, cells := 0, slots := 0, locals := 0 })).room s m args below meth c Q A (dC, dI) cJ1_canEncode_9a6ad .boolean (Unit) (dw_P a ac) r) : dj_J1_canEncode_9a6ad_15 p l e s m args below meth c Q A dC dI a ac (df_J1_canEncode_9a6ad_15 n) r := by
  obtain ⟨hlt, hx, hb, hml, hown, hts, hN, hA, hK⟩ := id C
  intro s0 H locs ls h hP hD hS hl
  unfold df_J1_canEncode_9a6ad_15 at h
  refine lv_iconst (v := 0) hx hb dJ1_canEncode_9a6ad_15 (by decide) ?_
  exact (db_J1_canEncode_9a6ad_16 C K) (0) s0 _ _ _ h hP hD hS (lv_sub hl [] rfl)
set_option maxHeartbeats 40000000 in
set_option maxRecDepth 100000 in
theorem db_J1_canEncode_9a6ad_0 {p : Program} {l : Launch} {e : Env} {s : State} {m : MethodId} {args : Array Value} {below : List Frame} {meth : Method} {c : Code} {Q : State → Prop} {A : Nat → Prop} {dC : Nat → ClassId} {dI : Nat → Nat → Nat} {a : Nat → Nat} {ac : Nat → ClassId} {n : Nat} {r : Int32 × (Unit)} (C : nd_C p l s m args c A (dC, dI) cJ1_canEncode_9a6ad 1 RJ1 ow_dm_J1_canEncode_9a6ad (dk_P ac)) (K : nd_Ki p l e (headSpec ow_dm_J1_canEncode_9a6ad ({ frames := 0, cells := 0, slots := 0, locals := 0 })).room s m args below meth c Q A (dC, dI) cJ1_canEncode_9a6ad .boolean (Unit) (dw_P a ac) r) : dj_J1_canEncode_9a6ad_0 p l e s m args below meth c Q A dC dI a ac (df_J1_canEncode_9a6ad_0 n) r := by
  obtain ⟨hlt, hx, hb, hml, hown, hts, hN, hA, hK⟩ := id C
  intro v0 s0 H locs ls h hP hD hS hl
  unfold df_J1_canEncode_9a6ad_0 at h
  refine lv_iload_n hx hb dJ1_canEncode_9a6ad_0 rfl (lv_at hl 0 rfl) ?_
  refine lv_if_lt (tgt := 15) hx hb dJ1_canEncode_9a6ad_1 (by decide) (fun c1 => ?_) (fun c1 => ?_)
  · have h := nd_pos h c1
    exact (db_J1_canEncode_9a6ad_15 C K)  s0 _ _ _ h hP hD hS (lv_sub hl [] rfl)
  · have h := nd_neg h c1
    refine lv_iload_n hx hb dJ1_canEncode_9a6ad_4 rfl (lv_at hl 0 rfl) ?_
    refine lv_sipush (v := 255) hx hb dJ1_canEncode_9a6ad_5 (by decide) ?_
    refine lv_icmp_gt (tgt := 15) hx hb dJ1_canEncode_9a6ad_8 (by decide) (fun c3 => ?_) (fun c3 => ?_)
    · have h := nd_pos h c3
      exact (db_J1_canEncode_9a6ad_15 C K)  s0 _ _ _ h hP hD hS (lv_sub hl [] rfl)
    · have h := nd_neg h c3
      refine lv_iconst (v := 1) hx hb dJ1_canEncode_9a6ad_11 (by decide) ?_
      refine lv_goto (tgt := 16) hx hb dJ1_canEncode_9a6ad_12 (by decide) ?_
      exact (db_J1_canEncode_9a6ad_16 C K) (1) s0 _ _ _ h hP hD hS (lv_sub hl [] rfl)
set_option maxHeartbeats 40000000 in
set_option maxRecDepth 100000 in
theorem dm_J1_canEncode_9a6ad (l : Launch) (hlt : l.stackTraces = false) (dC : Nat → ClassId) (dI : Nat → Nat → Nat) (a : Nat → Nat) (ac : Nat → ClassId) (n : Nat) (v0 : Int32) (s0 : Unit) {r : Int32 × (Unit)} (h : df_J1_canEncode_9a6ad n v0 s0 = some r) (sz : Nat) : Met l yJ1_canEncode_9a6ad ow_dm_J1_canEncode_9a6ad ({ frames := 0, cells := 0, slots := 0, locals := 0 }) (va_Pc [.int v0] (fun U => U.heap.size = sz ∧ va_P (dC, dI) vwCl (dw_P a ac s0) U.heap ∧ va_K (dC, dI) vwCl (dk_P ac) U ∧ va_D (fun _ => True) (dw_P a ac s0) ∧ nv_E dI (va_A (dw_P a ac s0) sz) U)) (va_Qi (fun x _ => x = r.1) (fun (_ : Unit) t => va_P (dC, dI) vwCl (dw_P a ac r.2) t.heap ∧ va_K (dC, dI) vwCl (dk_P ac) t ∧ va_D (va_A (dw_P a ac s0) sz) (dw_P a ac r.2)) (va_A (dw_P a ac s0) sz)) 0 0 (va_A (dw_P a ac s0) sz) := by
  refine Met.ofW (cc := cJ1_canEncode_9a6ad) (maxL := 1) (ret := (some .boolean)) (by decide) rfl ?_
  intro p e s m args below meth c s₁ B hml hv
  obtain ⟨rfl, hsz, hP, hK, hD0, hN⟩ := hv
  have hx := B.exec
  have hb := B.bytes
  have hr := B.returns
  have hts := atoms_spec (ws := ow_dm_J1_canEncode_9a6ad) B.pre
  have hown : s.vm.findClass RJ1 = some m.cls := findClass_of_methodNamed B.named
  have hlocks := B.notSynchronized
  subst hsz
  have hD := hD0.self (sz := s.heap.size)
  generalize hAe : va_A (dw_P a ac s0) s.heap.size = A at hD hN ⊢
  have hA : ∀ q : Nat, s.heap.size ≤ q → A q := fun q h => by rw [← hAe]; exact Or.inr h
  have hl := lv_entry ([.int v0]) (n := 1) (Nat.le_of_ble_eq_true rfl)
  rw [lg_entry_eq]
  generalize (lg_sl ([.int v0]) ++ List.replicate (1 - (lg_sl ([.int v0])).length) Slot.unset).toArray = ls at hl ⊢
  have hl : lv_has ls 1 [(0, .int v0)] := hl
  exact db_J1_canEncode_9a6ad_0 (dC := dC) (dI := dI) (a := a) (ac := ac) (n := n) (r := r) ⟨hlt, hx, hb, hml, hown, hts, hN, hA, hK⟩ (fun pc v τ H locs ls d z er hP hD hS => by subst er; exact W.zret (v := v) hx hb hr z (fun t ht hW => ⟨⟨v, (), rfl, rfl, by rw [ht]; exact hP, va_K.moved hW.alike hK, hD⟩, hS.F ht⟩) hS.2.2 d) v0 s0 _ _ _ h hP hD va_S.rf (lv_sub hl [0] rfl)
def ow_dm_J1_indexOfChar_4cfef : List Cond := Cond.code yJ1_indexOfChar_4cfef cJ1_indexOfChar_4cfef 6 (some .int) :: ([] ++ [])
theorem gd_dm_J1_indexOfChar_4cfef : ∀ w ∈ ow_dm_J1_indexOfChar_4cfef, (w.onTables && w.keeps) = true ∨ ∃ ty, w = Cond.arrayClass ty := List.forall_mem_cons.mpr ⟨good_of_word rfl, List.forall_mem_append.mpr ⟨fun w h => good_of_word (List.all_eq_true.mp (by decide +kernel) w h), fun _ h => nomatch h⟩⟩
def dj_J1_indexOfChar_4cfef_7 (p : Program) (l : Launch) (e : Env) (s : State) (m : MethodId) (args : Array Value) (below : List Frame) (meth : Method) (c : Code) (Q : State → Prop) (A : Nat → Prop) (dC : Nat → ClassId) (dI : Nat → Nat → Nat) (a : Nat → Nat) (ac : Nat → ClassId) (g : Nat → Int32 → Int32 → Int32 → (Unit) → Option (Int32 × (Unit))) (r : Int32 × (Unit)) : Prop := ∀ (x0 : Nat) (x3 : Int32) (x4 : Int32) (x5 : Int32) (s0 : Unit) (H : Heap) (locs : List Loc) (ls : Array Slot), g x0 x3 x4 x5 s0 = some r → va_P (dC, dI) vwCl (dw_P a ac s0) H → va_D A (dw_P a ac s0) → va_S A s.heap H locs → lv_has ls 6 [(0, .ref (dI 1001 x0)), (3, .int x3), (4, .int x4), (5, .int x5)] → W p l e (headSpec ow_dm_J1_indexOfChar_4cfef ({ frames := 0, cells := 0, slots := 0, locals := 0 })).room s m args below meth c H locs 0 0 Q (F0 m 7 ls [])
def dj_J1_indexOfChar_4cfef_0 (p : Program) (l : Launch) (e : Env) (s : State) (m : MethodId) (args : Array Value) (below : List Frame) (meth : Method) (c : Code) (Q : State → Prop) (A : Nat → Prop) (dC : Nat → ClassId) (dI : Nat → Nat → Nat) (a : Nat → Nat) (ac : Nat → ClassId) (g : Nat → Int32 → Int32 → Int32 → (Unit) → Option (Int32 × (Unit))) (r : Int32 × (Unit)) : Prop := ∀ (v0 : Nat) (v1 : Int32) (v2 : Int32) (v3 : Int32) (s0 : Unit) (H : Heap) (locs : List Loc) (ls : Array Slot), g v0 v1 v2 v3 s0 = some r → va_P (dC, dI) vwCl (dw_P a ac s0) H → va_D A (dw_P a ac s0) → va_S A s.heap H locs → lv_has ls 6 [(0, .ref (dI 1001 v0)), (1, .int v1), (2, .int v2), (3, .int v3)] → W p l e (headSpec ow_dm_J1_indexOfChar_4cfef ({ frames := 0, cells := 0, slots := 0, locals := 0 })).room s m args below meth c H locs 0 0 Q (F0 m 0 ls [])
set_option maxHeartbeats 40000000 in
set_option maxRecDepth 100000 in
theorem dB_J1_indexOfChar_4cfef_7 {p : Program} {l : Launch} {e : Env} {s : State} {m : MethodId} {args : Array Value} {below : List Frame} {meth : Method} {c : Code} {Q : State → Prop} {A : Nat → Prop} {dC : Nat → ClassId} {dI : Nat → Nat → Nat} {a : Nat → Nat} {ac : Nat → ClassId} {n : Nat} {r : Int32 × (Unit)} (C : nd_C p l s m args c A (dC, dI) cJ1_indexOfChar_4cfef 6 RJ1 ow_dm_J1_indexOfChar_4cfef (dk_P ac)) (K : nd_Ki p l e (headSpec ow_dm_J1_indexOfChar_4cfef ({ frames := 0, cells := 0, slots := 0, locals := 0 })).room s m args below meth c Q A (dC, dI) cJ1_indexOfChar_4cfef .int (Unit) (dw_P a ac) r) {g7 : Nat → Int32 → Int32 → Int32 → (Unit) → Option (Int32 × (Unit))} (J7 : dj_J1_indexOfChar_4cfef_7 p l e s m args below meth c Q A dC dI a ac g7 r) : dj_J1_indexOfChar_4cfef_7 p l e s m args below meth c Q A dC dI a ac (dF_J1_indexOfChar_4cfef_7 n g7) r := by
  obtain ⟨hlt, hx, hb, hml, hown, hts, hN, hA, hK⟩ := id C
  intro x0 x3 x4 x5 s0 H locs ls h hP hD hS hl
  unfold dF_J1_indexOfChar_4cfef_7 at h
  refine lv_iload hx hb dJ1_indexOfChar_4cfef_7 (lv_at hl 3 rfl) ?_
  refine lv_iload_n hx hb dJ1_indexOfChar_4cfef_9 rfl (lv_at hl 1 rfl) ?_
  refine lv_icmp_ge (tgt := 31) hx hb dJ1_indexOfChar_4cfef_10 (by decide) (fun c2 => ?_) (fun c2 => ?_)
  · have h := nd_pos h c2
    refine lv_iconst (v := (-1)) hx hb dJ1_indexOfChar_4cfef_31 (by decide) ?_
    exact K _ _ _ _ _ _ dJ1_indexOfChar_4cfef_32 rfl (Option.some.inj h).symm hP hD hS
  · have h := nd_neg h c2
    refine lv_aload_n hx hb dJ1_indexOfChar_4cfef_13 rfl (lv_at hl 0 rfl) ?_
    refine lv_iload hx hb dJ1_indexOfChar_4cfef_14 (lv_at hl 3 rfl) ?_
    obtain ⟨i3, h⟩ := nd_lt_e h
    obtain ⟨i4, h⟩ := nd_ck_e h
    refine va_tb (i := x5) hx hb (hN.2.2.2.2.2.2.2.2.2.2.2.1 x0 i3).2.2.2 hS i4 rfl dJ1_indexOfChar_4cfef_16 ?_
    refine lv_iload hx hb dJ1_indexOfChar_4cfef_17 (lv_at hl 2 rfl) ?_
    refine lv_icmp_ne (tgt := 25) hx hb dJ1_indexOfChar_4cfef_19 (by decide) (fun c5 => ?_) (fun c5 => ?_)
    · have h := nd_neg h c5
      obtain ⟨z6, ez6, h⟩ := nd_let_e h
      refine lv_iinc (v := z6) (lv' := [(5, .int z6), (0, .ref (dI 1001 x0)), (3, .int x3), (4, .int x4)]) hx hb dJ1_indexOfChar_4cfef_25 hl (k := 3) rfl (by rw [ez6]) (by decide) rfl (fun ls hl => ?_)
      refine lv_goto (tgt := 7) hx hb dJ1_indexOfChar_4cfef_28 (by decide) ?_
      exact (J7) (x0) (x3) (x4) (z6) s0 _ _ _ h hP hD hS (lv_sub hl [1, 2, 3, 0] rfl)
    · have h := nd_pos h c5
      refine lv_iload hx hb dJ1_indexOfChar_4cfef_22 (lv_at hl 3 rfl) ?_
      exact K _ _ _ _ _ _ dJ1_indexOfChar_4cfef_24 rfl (Option.some.inj h).symm hP hD hS
set_option maxHeartbeats 40000000 in
set_option maxRecDepth 100000 in
theorem db_J1_indexOfChar_4cfef_7 {p : Program} {l : Launch} {e : Env} {s : State} {m : MethodId} {args : Array Value} {below : List Frame} {meth : Method} {c : Code} {Q : State → Prop} {A : Nat → Prop} {dC : Nat → ClassId} {dI : Nat → Nat → Nat} {a : Nat → Nat} {ac : Nat → ClassId} {n : Nat} {r : Int32 × (Unit)} (C : nd_C p l s m args c A (dC, dI) cJ1_indexOfChar_4cfef 6 RJ1 ow_dm_J1_indexOfChar_4cfef (dk_P ac)) (K : nd_Ki p l e (headSpec ow_dm_J1_indexOfChar_4cfef ({ frames := 0, cells := 0, slots := 0, locals := 0 })).room s m args below meth c Q A (dC, dI) cJ1_indexOfChar_4cfef .int (Unit) (dw_P a ac) r) (k : Nat) : dj_J1_indexOfChar_4cfef_7 p l e s m args below meth c Q A dC dI a ac (df_J1_indexOfChar_4cfef_7 n k) r := by
  induction k with
  | zero => intro x0 x3 x4 x5 s0 H locs ls h; exact nomatch (show (none : Option (Int32 × (Unit))) = some r from h)
  | succ k ih => exact dB_J1_indexOfChar_4cfef_7 C K ih
set_option maxHeartbeats 40000000 in
set_option maxRecDepth 100000 in
theorem db_J1_indexOfChar_4cfef_0 {p : Program} {l : Launch} {e : Env} {s : State} {m : MethodId} {args : Array Value} {below : List Frame} {meth : Method} {c : Code} {Q : State → Prop} {A : Nat → Prop} {dC : Nat → ClassId} {dI : Nat → Nat → Nat} {a : Nat → Nat} {ac : Nat → ClassId} {n : Nat} {r : Int32 × (Unit)} (C : nd_C p l s m args c A (dC, dI) cJ1_indexOfChar_4cfef 6 RJ1 ow_dm_J1_indexOfChar_4cfef (dk_P ac)) (K : nd_Ki p l e (headSpec ow_dm_J1_indexOfChar_4cfef ({ frames := 0, cells := 0, slots := 0, locals := 0 })).room s m args below meth c Q A (dC, dI) cJ1_indexOfChar_4cfef .int (Unit) (dw_P a ac) r) : dj_J1_indexOfChar_4cfef_0 p l e s m args below meth c Q A dC dI a ac (df_J1_indexOfChar_4cfef_0 n) r := by
  obtain ⟨hlt, hx, hb, hml, hown, hts, hN, hA, hK⟩ := id C
  intro v0 v1 v2 v3 s0 H locs ls h hP hD hS hl
  unfold df_J1_indexOfChar_4cfef_0 at h
  refine lv_iload_n hx hb dJ1_indexOfChar_4cfef_0 rfl (lv_at hl 1 rfl) ?_
  refine lv_i2b hx hb dJ1_indexOfChar_4cfef_1 rfl ?_
  refine lv_topi (fun z1 ez1 => ?_)
  have h := nd_at h ez1
  refine lv_istore (lv' := [(4, .int z1), (0, .ref (dI 1001 v0)), (1, .int v1), (2, .int v2), (3, .int v3)]) hx hb dJ1_indexOfChar_4cfef_2 hl (by decide) rfl (fun ls hl => ?_)
  refine lv_iload_n hx hb dJ1_indexOfChar_4cfef_4 rfl (lv_at hl 3 rfl) ?_
  refine lv_istore (lv' := [(5, .int v2), (4, .int z1), (0, .ref (dI 1001 v0)), (1, .int v1), (2, .int v2), (3, .int v3)]) hx hb dJ1_indexOfChar_4cfef_5 hl (by decide) rfl (fun ls hl => ?_)
  exact (db_J1_indexOfChar_4cfef_7 C K n) (v0) (v3) (z1) (v2) s0 _ _ _ h hP hD hS (lv_sub hl [2, 5, 1, 0] rfl)
set_option maxHeartbeats 40000000 in
set_option maxRecDepth 100000 in
theorem dm_J1_indexOfChar_4cfef (l : Launch) (hlt : l.stackTraces = false) (dC : Nat → ClassId) (dI : Nat → Nat → Nat) (a : Nat → Nat) (ac : Nat → ClassId) (n : Nat) (v0 : Nat) (v1 : Int32) (v2 : Int32) (v3 : Int32) (s0 : Unit) {r : Int32 × (Unit)} (h : df_J1_indexOfChar_4cfef n v0 v1 v2 v3 s0 = some r) (sz : Nat) : Met l yJ1_indexOfChar_4cfef ow_dm_J1_indexOfChar_4cfef ({ frames := 0, cells := 0, slots := 0, locals := 0 }) (va_Pc [.ref (dI 1001 v0), .int v1, .int v2, .int v3] (fun U => U.heap.size = sz ∧ va_P (dC, dI) vwCl (dw_P a ac s0) U.heap ∧ va_K (dC, dI) vwCl (dk_P ac) U ∧ va_D (fun _ => True) (dw_P a ac s0) ∧ nv_E dI (va_A (dw_P a ac s0) sz) U)) (va_Qi (fun x _ => x = r.1) (fun (_ : Unit) t => va_P (dC, dI) vwCl (dw_P a ac r.2) t.heap ∧ va_K (dC, dI) vwCl (dk_P ac) t ∧ va_D (va_A (dw_P a ac s0) sz) (dw_P a ac r.2)) (va_A (dw_P a ac s0) sz)) 0 0 (va_A (dw_P a ac s0) sz) := by
  refine Met.ofW (cc := cJ1_indexOfChar_4cfef) (maxL := 6) (ret := (some .int)) (by decide) rfl ?_
  intro p e s m args below meth c s₁ B hml hv
  obtain ⟨rfl, hsz, hP, hK, hD0, hN⟩ := hv
  have hx := B.exec
  have hb := B.bytes
  have hr := B.returns
  have hts := atoms_spec (ws := ow_dm_J1_indexOfChar_4cfef) B.pre
  have hown : s.vm.findClass RJ1 = some m.cls := findClass_of_methodNamed B.named
  have hlocks := B.notSynchronized
  subst hsz
  have hD := hD0.self (sz := s.heap.size)
  generalize hAe : va_A (dw_P a ac s0) s.heap.size = A at hD hN ⊢
  have hA : ∀ q : Nat, s.heap.size ≤ q → A q := fun q h => by rw [← hAe]; exact Or.inr h
  have hl := lv_entry ([.ref (dI 1001 v0), .int v1, .int v2, .int v3]) (n := 6) (Nat.le_of_ble_eq_true rfl)
  rw [lg_entry_eq]
  generalize (lg_sl ([.ref (dI 1001 v0), .int v1, .int v2, .int v3]) ++ List.replicate (6 - (lg_sl ([.ref (dI 1001 v0), .int v1, .int v2, .int v3])).length) Slot.unset).toArray = ls at hl ⊢
  have hl : lv_has ls 6 [(0, .ref (dI 1001 v0)), (1, .int v1), (2, .int v2), (3, .int v3)] := hl
  exact db_J1_indexOfChar_4cfef_0 (dC := dC) (dI := dI) (a := a) (ac := ac) (n := n) (r := r) ⟨hlt, hx, hb, hml, hown, hts, hN, hA, hK⟩ (fun pc v τ H locs ls d z er hP hD hS => by subst er; exact W.zret (v := v) hx hb hr z (fun t ht hW => ⟨⟨v, (), rfl, rfl, by rw [ht]; exact hP, va_K.moved hW.alike hK, hD⟩, hS.F ht⟩) hS.2.2 d) v0 v1 v2 v3 s0 _ _ _ h hP hD va_S.rf (lv_sub hl [0, 1, 2, 3] rfl)
def ow_dm_J1_indexOf_4cfef : List Cond := Cond.code yJ1_indexOf_4cfef cJ1_indexOf_4cfef 4 (some .int) :: ([Cond.methodLink RJ1 88 yJ1_canEncode_9a6ad, Cond.static yJ1_canEncode_9a6ad, Cond.initialized RJ1, Cond.methodLink RJ1 92 Lib.Math.max.name, Cond.static Lib.Math.max.name, Cond.initialized "java/lang/Math", Cond.code Lib.Math.max.name Lib.Math.max.code 2 (some .int), Cond.methodLink RJ1 38 Lib.Math.min.name, Cond.static Lib.Math.min.name, Cond.code Lib.Math.min.name Lib.Math.min.code 2 (some .int), Cond.methodLink RJ1 95 yJ1_indexOfChar_4cfef, Cond.static yJ1_indexOfChar_4cfef] ++ (ow_dm_J1_canEncode_9a6ad ++ (ow_dm_J1_indexOfChar_4cfef ++ [])))
theorem gd_dm_J1_indexOf_4cfef : ∀ w ∈ ow_dm_J1_indexOf_4cfef, (w.onTables && w.keeps) = true ∨ ∃ ty, w = Cond.arrayClass ty := List.forall_mem_cons.mpr ⟨good_of_word rfl, List.forall_mem_append.mpr ⟨fun w h => good_of_word (List.all_eq_true.mp (by decide +kernel) w h), List.forall_mem_append.mpr ⟨gd_dm_J1_canEncode_9a6ad, List.forall_mem_append.mpr ⟨gd_dm_J1_indexOfChar_4cfef, fun _ h => nomatch h⟩⟩⟩⟩
theorem gi_dm_J1_indexOf_4cfef_0 : GoodIn ow_dm_J1_indexOf_4cfef (wsS RJ1 88 yJ1_canEncode_9a6ad ow_dm_J1_canEncode_9a6ad) := goodIn_app (goodIn_of _ (by decide +kernel)) (fun w h => ⟨List.mem_cons_of_mem _ (List.mem_append_right _ (List.mem_append_left _ h)), gd_dm_J1_canEncode_9a6ad w h⟩)
theorem gi_dm_J1_indexOf_4cfef_1 : GoodIn ow_dm_J1_indexOf_4cfef (wsS RJ1 95 yJ1_indexOfChar_4cfef ow_dm_J1_indexOfChar_4cfef) := goodIn_app (goodIn_of _ (by decide +kernel)) (fun w h => ⟨List.mem_cons_of_mem _ (List.mem_append_right _ (List.mem_append_right _ (List.mem_append_left _ h))), gd_dm_J1_indexOfChar_4cfef w h⟩)
def dj_J1_indexOf_4cfef_0 (p : Program) (l : Launch) (e : Env) (s : State) (m : MethodId) (args : Array Value) (below : List Frame) (meth : Method) (c : Code) (Q : State → Prop) (A : Nat → Prop) (dC : Nat → ClassId) (dI : Nat → Nat → Nat) (a : Nat → Nat) (ac : Nat → ClassId) (g : Nat → Int32 → Int32 → Int32 → (Unit) → Option (Int32 × (Unit))) (r : Int32 × (Unit)) : Prop := ∀ (v0 : Nat) (v1 : Int32) (v2 : Int32) (v3 : Int32) (s0 : Unit) (H : Heap) (locs : List Loc) (ls : Array Slot), g v0 v1 v2 v3 s0 = some r → va_P (dC, dI) vwCl (dw_P a ac s0) H → va_D A (dw_P a ac s0) → va_S A s.heap H locs → lv_has ls 4 [(0, .ref (dI 1001 v0)), (1, .int v1), (2, .int v2), (3, .int v3)] → W p l e (headSpec ow_dm_J1_indexOf_4cfef ({ frames := 1, cells := 0, slots := 0, locals := 25 })).room s m args below meth c H locs 0 0 Q (F0 m 0 ls [])
set_option maxHeartbeats 40000000 in
set_option maxRecDepth 100000 in
theorem db_J1_indexOf_4cfef_0 {p : Program} {l : Launch} {e : Env} {s : State} {m : MethodId} {args : Array Value} {below : List Frame} {meth : Method} {c : Code} {Q : State → Prop} {A : Nat → Prop} {dC : Nat → ClassId} {dI : Nat → Nat → Nat} {a : Nat → Nat} {ac : Nat → ClassId} {n : Nat} {r : Int32 × (Unit)} (C : nd_C p l s m args c A (dC, dI) cJ1_indexOf_4cfef 4 RJ1 ow_dm_J1_indexOf_4cfef (dk_P ac)) (K : nd_Ki p l e (headSpec ow_dm_J1_indexOf_4cfef ({ frames := 1, cells := 0, slots := 0, locals := 25 })).room s m args below meth c Q A (dC, dI) cJ1_indexOf_4cfef .int (Unit) (dw_P a ac) r) : dj_J1_indexOf_4cfef_0 p l e s m args below meth c Q A dC dI a ac (df_J1_indexOf_4cfef_0 n) r := by
  obtain ⟨hlt, hx, hb, hml, hown, hts, hN, hA, hK⟩ := id C
  intro v0 v1 v2 v3 s0 H locs ls h hP hD hS hl
  unfold df_J1_indexOf_4cfef_0 at h
  refine lv_iload_n hx hb dJ1_indexOf_4cfef_0 rfl (lv_at hl 1 rfl) ?_
  obtain ⟨q1, s2, hq, h⟩ := nd_b2_e h
  have hPc : va_P (dC, dI) vwCl (dw_P a ac ()) H := nd_p0
  have hDc : va_D A (dw_P a ac ()) := nd_d0
  have hKc : va_K (dC, dI) vwCl (dk_P ac) s := nd_y0 hK
  have hFc : ∀ q, va_A (dw_P a ac ()) H.size q → A q := nd_r0 hS hA
  refine nd_cSi (As := [.int v1]) (rest := []) (q := q1) (w' := dw_P a ac s2) ⟨hx, hb, hml, hown, hts⟩ (fun sz => dm_J1_canEncode_9a6ad l hlt dC dI a ac n (v1) () hq sz) (cwS 1 hts gi_dm_J1_indexOf_4cfef_0 rfl rfl rfl (by decide +kernel) ⟨Nat.le_of_ble_eq_true rfl, Nat.le_of_ble_eq_true rfl⟩) hPc hDc hKc hS hA hN rfl hl.1 rfl (Nat.le_of_ble_eq_true rfl) dJ1_indexOf_4cfef_1 (fun H locs hP1 hD1 hk1 hS => ?_)
  have hP := nd_n0 hP hk1
  refine lv_if_ne (tgt := 9) hx hb dJ1_indexOf_4cfef_4 (by decide) (fun c4 => ?_) (fun c4 => ?_)
  · have h := nd_neg h c4
    refine lv_iload_n hx hb dJ1_indexOf_4cfef_9 rfl (lv_at hl 2 rfl) ?_
    refine lv_iconst (v := 0) hx hb dJ1_indexOf_4cfef_10 (by decide) ?_
    refine va_mmax hx hb (by rw [hml]; exact hl.1.symm) hown (hts (.methodLink RJ1 92 Lib.Math.max.name) (List.mem_of_getElem? (i := 4) rfl)) (hts (.static Lib.Math.max.name) (List.mem_of_getElem? (i := 5) rfl)) (hts (.initialized "java/lang/Math") (List.mem_of_getElem? (i := 6) rfl)) (hts (.code Lib.Math.max.name Lib.Math.max.code 2 (some .int)) (List.mem_of_getElem? (i := 7) rfl)) (Nat.le_of_ble_eq_true rfl) (Nat.le_of_ble_eq_true rfl) (by decide +kernel) (by decide +kernel) dJ1_indexOf_4cfef_11 ?_
    refine lv_topi (fun z5 ez5 => ?_)
    have h := nd_at h ez5
    refine lv_istore_n (lv' := [(2, .int z5), (0, .ref (dI 1001 v0)), (1, .int v1), (3, .int v3)]) hx hb dJ1_indexOf_4cfef_14 rfl hl (by decide) rfl (fun ls hl => ?_)
    refine lv_iload_n hx hb dJ1_indexOf_4cfef_15 rfl (lv_at hl 3 rfl) ?_
    refine lv_aload_n hx hb dJ1_indexOf_4cfef_16 rfl (lv_at hl 1 rfl) ?_
    obtain ⟨i6, h⟩ := nd_lt_e h
    refine va_tlen (v := Int32.ofNat (ks_n v0)) hx hb (hN.2.2.2.2.2.2.2.2.2.2.2.1 v0 i6).2.2.2 hS rfl dJ1_indexOf_4cfef_17 ?_
    refine va_mmin hx hb (by rw [hml]; exact hl.1.symm) hown (hts (.methodLink RJ1 38 Lib.Math.min.name) (List.mem_of_getElem? (i := 8) rfl)) (hts (.static Lib.Math.min.name) (List.mem_of_getElem? (i := 9) rfl)) (hts (.initialized "java/lang/Math") (List.mem_of_getElem? (i := 6) rfl)) (hts (.code Lib.Math.min.name Lib.Math.min.code 2 (some .int)) (List.mem_of_getElem? (i := 10) rfl)) (Nat.le_of_ble_eq_true rfl) (Nat.le_of_ble_eq_true rfl) (by decide +kernel) (by decide +kernel) dJ1_indexOf_4cfef_18 ?_
    refine lv_topi (fun z7 ez7 => ?_)
    have h := nd_at h ez7
    refine lv_istore_n (lv' := [(3, .int z7), (2, .int z5), (0, .ref (dI 1001 v0)), (1, .int v1)]) hx hb dJ1_indexOf_4cfef_21 rfl hl (by decide) rfl (fun ls hl => ?_)
    refine lv_iload_n hx hb dJ1_indexOf_4cfef_22 rfl (lv_at hl 1 rfl) ?_
    refine lv_iload_n hx hb dJ1_indexOf_4cfef_23 rfl (lv_at hl 0 rfl) ?_
    refine lv_icmp_lt (tgt := 29) hx hb dJ1_indexOf_4cfef_24 (by decide) (fun c8 => ?_) (fun c8 => ?_)
    · have h := nd_pos h c8
      refine lv_aload_n hx hb dJ1_indexOf_4cfef_29 rfl (lv_at hl 2 rfl) ?_
      refine lv_iload_n hx hb dJ1_indexOf_4cfef_30 rfl (lv_at hl 3 rfl) ?_
      refine lv_iload_n hx hb dJ1_indexOf_4cfef_31 rfl (lv_at hl 1 rfl) ?_
      refine lv_iload_n hx hb dJ1_indexOf_4cfef_32 rfl (lv_at hl 0 rfl) ?_
      obtain ⟨q9, s10, hq, h⟩ := nd_b2_e h
      have hPc : va_P (dC, dI) vwCl (dw_P a ac ()) H := nd_p0
      have hDc : va_D A (dw_P a ac ()) := nd_d0
      have hKc : va_K (dC, dI) vwCl (dk_P ac) s := nd_y0 hK
      have hFc : ∀ q, va_A (dw_P a ac ()) H.size q → A q := nd_r0 hS hA
      refine nd_cSi (As := [.ref (dI 1001 v0), .int v1, .int z5, .int z7]) (rest := []) (q := q9) (w' := dw_P a ac s10) ⟨hx, hb, hml, hown, hts⟩ (fun sz => dm_J1_indexOfChar_4cfef l hlt dC dI a ac n (v0) (v1) (z5) (z7) () hq sz) (cwS 4 hts gi_dm_J1_indexOf_4cfef_1 rfl rfl rfl (by decide +kernel) ⟨Nat.le_of_ble_eq_true rfl, Nat.le_of_ble_eq_true rfl⟩) hPc hDc hKc hS hA hN rfl hl.1 rfl (Nat.le_of_ble_eq_true rfl) dJ1_indexOf_4cfef_33 (fun H locs hP1 hD1 hk1 hS => ?_)
      have hP := nd_n0 hP hk1
      exact K _ _ _ _ _ _ dJ1_indexOf_4cfef_36 rfl (Option.some.inj h).symm hP hD hS
    · have h := nd_neg h c8
      refine lv_iconst (v := (-1)) hx hb dJ1_indexOf_4cfef_27 (by decide) ?_
      exact K _ _ _ _ _ _ dJ1_indexOf_4cfef_28 rfl (Option.some.inj h).symm hP hD hS
  · have h := nd_pos h c4
    refine lv_iconst (v := (-1)) hx hb dJ1_indexOf_4cfef_7 (by decide) ?_
    exact K _ _ _ _ _ _ dJ1_indexOf_4cfef_8 rfl (Option.some.inj h).symm hP hD hS
set_option maxHeartbeats 40000000 in
set_option maxRecDepth 100000 in
theorem dm_J1_indexOf_4cfef (l : Launch) (hlt : l.stackTraces = false) (dC : Nat → ClassId) (dI : Nat → Nat → Nat) (a : Nat → Nat) (ac : Nat → ClassId) (n : Nat) (v0 : Nat) (v1 : Int32) (v2 : Int32) (v3 : Int32) (s0 : Unit) {r : Int32 × (Unit)} (h : df_J1_indexOf_4cfef n v0 v1 v2 v3 s0 = some r) (sz : Nat) : Met l yJ1_indexOf_4cfef ow_dm_J1_indexOf_4cfef ({ frames := 1, cells := 0, slots := 0, locals := 25 }) (va_Pc [.ref (dI 1001 v0), .int v1, .int v2, .int v3] (fun U => U.heap.size = sz ∧ va_P (dC, dI) vwCl (dw_P a ac s0) U.heap ∧ va_K (dC, dI) vwCl (dk_P ac) U ∧ va_D (fun _ => True) (dw_P a ac s0) ∧ nv_E dI (va_A (dw_P a ac s0) sz) U)) (va_Qi (fun x _ => x = r.1) (fun (_ : Unit) t => va_P (dC, dI) vwCl (dw_P a ac r.2) t.heap ∧ va_K (dC, dI) vwCl (dk_P ac) t ∧ va_D (va_A (dw_P a ac s0) sz) (dw_P a ac r.2)) (va_A (dw_P a ac s0) sz)) 0 0 (va_A (dw_P a ac s0) sz) := by
  refine Met.ofW (cc := cJ1_indexOf_4cfef) (maxL := 4) (ret := (some .int)) (by decide) rfl ?_
  intro p e s m args below meth c s₁ B hml hv
  obtain ⟨rfl, hsz, hP, hK, hD0, hN⟩ := hv
  have hx := B.exec
  have hb := B.bytes
  have hr := B.returns
  have hts := atoms_spec (ws := ow_dm_J1_indexOf_4cfef) B.pre
  have hown : s.vm.findClass RJ1 = some m.cls := findClass_of_methodNamed B.named
  have hlocks := B.notSynchronized
  subst hsz
  have hD := hD0.self (sz := s.heap.size)
  generalize hAe : va_A (dw_P a ac s0) s.heap.size = A at hD hN ⊢
  have hA : ∀ q : Nat, s.heap.size ≤ q → A q := fun q h => by rw [← hAe]; exact Or.inr h
  have hl := lv_entry ([.ref (dI 1001 v0), .int v1, .int v2, .int v3]) (n := 4) (Nat.le_of_ble_eq_true rfl)
  rw [lg_entry_eq]
  generalize (lg_sl ([.ref (dI 1001 v0), .int v1, .int v2, .int v3]) ++ List.replicate (4 - (lg_sl ([.ref (dI 1001 v0), .int v1, .int v2, .int v3])).length) Slot.unset).toArray = ls at hl ⊢
  have hl : lv_has ls 4 [(0, .ref (dI 1001 v0)), (1, .int v1), (2, .int v2), (3, .int v3)] := hl
  exact db_J1_indexOf_4cfef_0 (dC := dC) (dI := dI) (a := a) (ac := ac) (n := n) (r := r) ⟨hlt, hx, hb, hml, hown, hts, hN, hA, hK⟩ (fun pc v τ H locs ls d z er hP hD hS => by subst er; exact W.zret (v := v) hx hb hr z (fun t ht hW => ⟨⟨v, (), rfl, rfl, by rw [ht]; exact hP, va_K.moved hW.alike hK, hD⟩, hS.F ht⟩) hS.2.2 d) v0 v1 v2 v3 s0 _ _ _ h hP hD va_S.rf (lv_sub hl [0, 1, 2, 3] rfl)
def ow_dm_J0_indexOf_7cf53 : List Cond := Cond.code yJ0_indexOf_7cf53 cJ0_indexOf_7cf53 3 (some .int) :: ([Cond.methodLink RJ0 492 yJ0_isLatin1_aae02, Cond.instanceMethod yJ0_isLatin1_aae02, Cond.selects RJ0 yJ0_isLatin1_aae02 yJ0_isLatin1_aae02, Cond.initialized RJ0, Cond.fieldLink RJ0 9 "java/lang/String" "value" "[B", Cond.methodLink RJ0 505 yJ0_length_8abf5, Cond.instanceMethod yJ0_length_8abf5, Cond.selects RJ0 yJ0_length_8abf5 yJ0_length_8abf5, Cond.methodLink RJ0 637 yJ1_indexOf_4cfef, Cond.static yJ1_indexOf_4cfef, Cond.initialized RJ1] ++ (ow_dm_J0_isLatin1_aae02 ++ (ow_dm_J0_length_8abf5 ++ (ow_dm_J1_indexOf_4cfef ++ []))))
theorem gd_dm_J0_indexOf_7cf53 : ∀ w ∈ ow_dm_J0_indexOf_7cf53, (w.onTables && w.keeps) = true ∨ ∃ ty, w = Cond.arrayClass ty := List.forall_mem_cons.mpr ⟨good_of_word rfl, List.forall_mem_append.mpr ⟨fun w h => good_of_word (List.all_eq_true.mp (by decide +kernel) w h), List.forall_mem_append.mpr ⟨gd_dm_J0_isLatin1_aae02, List.forall_mem_append.mpr ⟨gd_dm_J0_length_8abf5, List.forall_mem_append.mpr ⟨gd_dm_J1_indexOf_4cfef, fun _ h => nomatch h⟩⟩⟩⟩⟩
theorem gi_dm_J0_indexOf_7cf53_0 : GoodIn ow_dm_J0_indexOf_7cf53 (wsV RJ0 492 RJ0 yJ0_isLatin1_aae02 ow_dm_J0_isLatin1_aae02) := goodIn_app (goodIn_of _ (by decide +kernel)) (fun w h => ⟨List.mem_cons_of_mem _ (List.mem_append_right _ (List.mem_append_left _ h)), gd_dm_J0_isLatin1_aae02 w h⟩)
theorem gi_dm_J0_indexOf_7cf53_1 : GoodIn ow_dm_J0_indexOf_7cf53 (wsV RJ0 505 RJ0 yJ0_length_8abf5 ow_dm_J0_length_8abf5) := goodIn_app (goodIn_of _ (by decide +kernel)) (fun w h => ⟨List.mem_cons_of_mem _ (List.mem_append_right _ (List.mem_append_right _ (List.mem_append_left _ h))), gd_dm_J0_length_8abf5 w h⟩)
theorem gi_dm_J0_indexOf_7cf53_2 : GoodIn ow_dm_J0_indexOf_7cf53 (va_wsS RJ0 637 yJ1_indexOf_4cfef ow_dm_J1_indexOf_4cfef) := goodIn_app (goodIn_of _ (by decide +kernel)) (fun w h => ⟨List.mem_cons_of_mem _ (List.mem_append_right _ (List.mem_append_right _ (List.mem_append_right _ (List.mem_append_left _ h)))), gd_dm_J1_indexOf_4cfef w h⟩)
def dj_J0_indexOf_7cf53_36 (p : Program) (l : Launch) (e : Env) (s : State) (m : MethodId) (args : Array Value) (below : List Frame) (meth : Method) (c : Code) (Q : State → Prop) (A : Nat → Prop) (dC : Nat → ClassId) (dI : Nat → Nat → Nat) (a : Nat → Nat) (ac : Nat → ClassId) (g : Int32 → (Unit) → Option (Int32 × (Unit))) (r : Int32 × (Unit)) : Prop := ∀ (y0 : Int32) (s0 : Unit) (H : Heap) (locs : List Loc) (ls : Array Slot), g y0 s0 = some r → va_P (dC, dI) vwCl (dw_P a ac s0) H → va_D A (dw_P a ac s0) → va_S A s.heap H locs → lv_has ls 3 [] → W p l e (headSpec ow_dm_J0_indexOf_7cf53 ({ frames := 2, cells := 0, slots := 0, locals := 48 })).room s m args below meth c H locs 0 0 Q (F0 m 36 ls [.int y0])
def dj_J0_indexOf_7cf53_0 (p : Program) (l : Launch) (e : Env) (s : State) (m : MethodId) (args : Array Value) (below : List Frame) (meth : Method) (c : Code) (Q : State → Prop) (A : Nat → Prop) (dC : Nat → ClassId) (dI : Nat → Nat → Nat) (a : Nat → Nat) (ac : Nat → ClassId) (g : Nat → Int32 → Int32 → (Unit) → Option (Int32 × (Unit))) (r : Int32 × (Unit)) : Prop := ∀ (vt : Nat) (v0 : Int32) (v1 : Int32) (s0 : Unit) (H : Heap) (locs : List Loc) (ls : Array Slot), g vt v0 v1 s0 = some r → va_P (dC, dI) vwCl (dw_P a ac s0) H → va_D A (dw_P a ac s0) → va_S A s.heap H locs → lv_has ls 3 [(0, .ref (dI 1000 vt)), (1, .int v0), (2, .int v1)] → W p l e (headSpec ow_dm_J0_indexOf_7cf53 ({ frames := 2, cells := 0, slots := 0, locals := 48 })).room s m args below meth c H locs 0 0 Q (F0 m 0 ls [])
set_option maxHeartbeats 40000000 in
set_option maxRecDepth 100000 in
theorem db_J0_indexOf_7cf53_36 {p : Program} {l : Launch} {e : Env} {s : State} {m : MethodId} {args : Array Value} {below : List Frame} {meth : Method} {c : Code} {Q : State → Prop} {A : Nat → Prop} {dC : Nat → ClassId} {dI : Nat → Nat → Nat} {a : Nat → Nat} {ac : Nat → ClassId} {n : Nat} {r : Int32 × (Unit)} (C : nd_C p l s m args c A (dC, dI) cJ0_indexOf_7cf53 3 RJ0 ow_dm_J0_indexOf_7cf53 (dk_P ac)) (K : nd_Ki p l e (headSpec ow_dm_J0_indexOf_7cf53 ({ frames := 2, cells := 0, slots := 0, locals := 48 })).room s m args below meth c Q A (dC, dI) cJ0_indexOf_7cf53 .int (Unit) (dw_P a ac) r) : dj_J0_indexOf_7cf53_36 p l e s m args below meth c Q A dC dI a ac (df_J0_indexOf_7cf53_36 n) r := by
  obtain ⟨hlt, hx, hb, hml, hown, hts, hN, hA, hK⟩ := id C
  intro y0 s0 H locs ls h hP hD hS hl
  unfold df_J0_indexOf_7cf53_36 at h
  exact K _ _ _ _ _ _ dJ0_indexOf_7cf53_36 rfl (Option.some.inj h).symm hP hD hS
set_option maxHeartbeats 40000000 in
set_option maxRecDepth 100000 in
theorem db_J0_indexOf_7cf53_0 {p : Program} {l : Launch} {e : Env} {s : State} {m : MethodId} {args : Array Value} {below : List Frame} {meth : Method} {c : Code} {Q : State → Prop} {A : Nat → Prop} {dC : Nat → ClassId} {dI : Nat → Nat → Nat} {a : Nat → Nat} {ac : Nat → ClassId} {n : Nat} {r : Int32 × (Unit)} (C : nd_C p l s m args c A (dC, dI) cJ0_indexOf_7cf53 3 RJ0 ow_dm_J0_indexOf_7cf53 (dk_P ac)) (K : nd_Ki p l e (headSpec ow_dm_J0_indexOf_7cf53 ({ frames := 2, cells := 0, slots := 0, locals := 48 })).room s m args below meth c Q A (dC, dI) cJ0_indexOf_7cf53 .int (Unit) (dw_P a ac) r) : dj_J0_indexOf_7cf53_0 p l e s m args below meth c Q A dC dI a ac (df_J0_indexOf_7cf53_0 n) r := by
  obtain ⟨hlt, hx, hb, hml, hown, hts, hN, hA, hK⟩ := id C
  intro vt v0 v1 s0 H locs ls h hP hD hS hl
  unfold df_J0_indexOf_7cf53_0 at h
  refine lv_aload_n hx hb dJ0_indexOf_7cf53_0 rfl (lv_at hl 0 rfl) ?_
  obtain ⟨i3, h⟩ := nd_lt_e h
  obtain ⟨q1, s2, hq, h⟩ := nd_b2_e h
  have hPc : va_P (dC, dI) vwCl (dw_P a ac ()) H := nd_p0
  have hDc : va_D A (dw_P a ac ()) := nd_d0
  have hKc : va_K (dC, dI) vwCl (dk_P ac) s := nd_y0 hK
  have hFc : ∀ q, va_A (dw_P a ac ()) H.size q → A q := nd_r0 hS hA
  refine nd_cVi (As := []) (rest := []) (q := q1) (w' := dw_P a ac s2) ⟨hx, hb, hml, hown, hts⟩ (fun sz => dm_J0_isLatin1_aae02 l hlt dC dI a ac n (vt) () hq sz) (cwV 0 hts gi_dm_J0_indexOf_7cf53_0 rfl rfl rfl (by decide +kernel) ⟨Nat.le_of_ble_eq_true rfl, Nat.le_of_ble_eq_true rfl⟩) hPc hDc hKc hS hA hN (nv_rcv hN.2.2.2.2.2.2.2.2.2.2.2 i3 hS) rfl hl.1 rfl (Nat.le_of_ble_eq_true rfl) dJ0_indexOf_7cf53_1 (fun H locs hP1 hD1 hk1 hS => ?_)
  have hP := nd_n0 hP hk1
  refine lv_if_eq (tgt := 23) hx hb dJ0_indexOf_7cf53_4 (by decide) (fun c5 => ?_) (fun c5 => ?_)
  · have h := nd_pos h c5
    exact nomatch (show (none : Option (Int32 × (Unit))) = some r from h)
  · have h := nd_neg h c5
    refine lv_aload_n hx hb dJ0_indexOf_7cf53_7 rfl (lv_at hl 0 rfl) ?_
    obtain ⟨i6, h⟩ := nd_lt_e h
    refine vk_getf hx hb (hN.2.2.2.2.2.2.2.2.2.2.2.1 vt i6).2.2.1 hS hown (hts (.fieldLink RJ0 9 "java/lang/String" "value" "[B") (List.mem_of_getElem? (i := 5) rfl)) (fun _ h9 => h9) dJ0_indexOf_7cf53_8 ?_
    refine lv_iload_n hx hb dJ0_indexOf_7cf53_11 rfl (lv_at hl 1 rfl) ?_
    refine lv_iload_n hx hb dJ0_indexOf_7cf53_12 rfl (lv_at hl 2 rfl) ?_
    refine lv_aload_n hx hb dJ0_indexOf_7cf53_13 rfl (lv_at hl 0 rfl) ?_
    obtain ⟨i9, h⟩ := nd_lt_e h
    obtain ⟨q7, s8, hq, h⟩ := nd_b2_e h
    have hPc : va_P (dC, dI) vwCl (dw_P a ac ()) H := nd_p0
    have hDc : va_D A (dw_P a ac ()) := nd_d0
    have hKc : va_K (dC, dI) vwCl (dk_P ac) s := nd_y0 hK
    have hFc : ∀ q, va_A (dw_P a ac ()) H.size q → A q := nd_r0 hS hA
    refine nd_cVi (As := []) (rest := [.int v1, .int v0, .ref (dI 1001 vt)]) (q := q7) (w' := dw_P a ac s8) ⟨hx, hb, hml, hown, hts⟩ (fun sz => dm_J0_length_8abf5 l hlt dC dI a ac n (vt) () hq sz) (cwV 0 hts gi_dm_J0_indexOf_7cf53_1 rfl rfl rfl (by decide +kernel) ⟨Nat.le_of_ble_eq_true rfl, Nat.le_of_ble_eq_true rfl⟩) hPc hDc hKc hS hA hN (nv_rcv hN.2.2.2.2.2.2.2.2.2.2.2 i9 hS) rfl hl.1 rfl (Nat.le_of_ble_eq_true rfl) dJ0_indexOf_7cf53_14 (fun H locs hP1 hD1 hk1 hS => ?_)
    have hP := nd_n0 hP hk1
    obtain ⟨q11, s12, hq, h⟩ := nd_b2_e h
    have hPc : va_P (dC, dI) vwCl (dw_P a ac ()) H := nd_p0
    have hDc : va_D A (dw_P a ac ()) := nd_d0
    have hKc : va_K (dC, dI) vwCl (dk_P ac) s := nd_y0 hK
    have hFc : ∀ q, va_A (dw_P a ac ()) H.size q → A q := nd_r0 hS hA
    refine nd_cSi (As := [.ref (dI 1001 vt), .int v0, .int v1, .int q7]) (rest := []) (q := q11) (w' := dw_P a ac s12) ⟨hx, hb, hml, hown, hts⟩ (fun sz => dm_J1_indexOf_4cfef l hlt dC dI a ac n (vt) (v0) (v1) (q7) () hq sz) (va_cwS 4 hts gi_dm_J0_indexOf_7cf53_2 rfl rfl rfl (by decide +kernel) ⟨Nat.le_of_ble_eq_true rfl, Nat.le_of_ble_eq_true rfl⟩) hPc hDc hKc hS hA hN rfl hl.1 rfl (Nat.le_of_ble_eq_true rfl) dJ0_indexOf_7cf53_17 (fun H locs hP1 hD1 hk1 hS => ?_)
    have hP := nd_n0 hP hk1
    refine lv_goto (tgt := 36) hx hb dJ0_indexOf_7cf53_20 (by decide) ?_
    exact (db_J0_indexOf_7cf53_36 C K) (q11) s0 _ _ _ h hP hD hS (lv_sub hl [] rfl)
set_option maxHeartbeats 40000000 in
set_option maxRecDepth 100000 in
theorem dm_J0_indexOf_7cf53 (l : Launch) (hlt : l.stackTraces = false) (dC : Nat → ClassId) (dI : Nat → Nat → Nat) (a : Nat → Nat) (ac : Nat → ClassId) (n : Nat) (vt : Nat) (v0 : Int32) (v1 : Int32) (s0 : Unit) {r : Int32 × (Unit)} (h : df_J0_indexOf_7cf53 n vt v0 v1 s0 = some r) (sz : Nat) : Met l yJ0_indexOf_7cf53 ow_dm_J0_indexOf_7cf53 ({ frames := 2, cells := 0, slots := 0, locals := 48 }) (va_Pc [.ref (dI 1000 vt), .int v0, .int v1] (fun U => U.heap.size = sz ∧ va_P (dC, dI) vwCl (dw_P a ac s0) U.heap ∧ va_K (dC, dI) vwCl (dk_P ac) U ∧ va_D (fun _ => True) (dw_P a ac s0) ∧ nv_E dI (va_A (dw_P a ac s0) sz) U)) (va_Qi (fun x _ => x = r.1) (fun (_ : Unit) t => va_P (dC, dI) vwCl (dw_P a ac r.2) t.heap ∧ va_K (dC, dI) vwCl (dk_P ac) t ∧ va_D (va_A (dw_P a ac s0) sz) (dw_P a ac r.2)) (va_A (dw_P a ac s0) sz)) 0 0 (va_A (dw_P a ac s0) sz) := by
  refine Met.ofW (cc := cJ0_indexOf_7cf53) (maxL := 3) (ret := (some .int)) (by decide) rfl ?_
  intro p e s m args below meth c s₁ B hml hv
  obtain ⟨rfl, hsz, hP, hK, hD0, hN⟩ := hv
  have hx := B.exec
  have hb := B.bytes
  have hr := B.returns
  have hts := atoms_spec (ws := ow_dm_J0_indexOf_7cf53) B.pre
  have hown : s.vm.findClass RJ0 = some m.cls := findClass_of_methodNamed B.named
  have hlocks := B.notSynchronized
  subst hsz
  have hD := hD0.self (sz := s.heap.size)
  generalize hAe : va_A (dw_P a ac s0) s.heap.size = A at hD hN ⊢
  have hA : ∀ q : Nat, s.heap.size ≤ q → A q := fun q h => by rw [← hAe]; exact Or.inr h
  have hl := lv_entry ([.ref (dI 1000 vt), .int v0, .int v1]) (n := 3) (Nat.le_of_ble_eq_true rfl)
  rw [lg_entry_eq]
  generalize (lg_sl ([.ref (dI 1000 vt), .int v0, .int v1]) ++ List.replicate (3 - (lg_sl ([.ref (dI 1000 vt), .int v0, .int v1])).length) Slot.unset).toArray = ls at hl ⊢
  have hl : lv_has ls 3 [(0, .ref (dI 1000 vt)), (1, .int v0), (2, .int v1)] := hl
  exact db_J0_indexOf_7cf53_0 (dC := dC) (dI := dI) (a := a) (ac := ac) (n := n) (r := r) ⟨hlt, hx, hb, hml, hown, hts, hN, hA, hK⟩ (fun pc v τ H locs ls d z er hP hD hS => by subst er; exact W.zret (v := v) hx hb hr z (fun t ht hW => ⟨⟨v, (), rfl, rfl, by rw [ht]; exact hP, va_K.moved hW.alike hK, hD⟩, hS.F ht⟩) hS.2.2 d) vt v0 v1 s0 _ _ _ h hP hD va_S.rf (lv_sub hl [0, 1, 2] rfl)
def ow_dm_J0_indexOf_0f7a4 : List Cond := Cond.code yJ0_indexOf_0f7a4 cJ0_indexOf_0f7a4 2 (some .int) :: ([Cond.methodLink RJ0 633 yJ0_indexOf_7cf53, Cond.instanceMethod yJ0_indexOf_7cf53, Cond.selects RJ0 yJ0_indexOf_7cf53 yJ0_indexOf_7cf53, Cond.initialized RJ0] ++ (ow_dm_J0_indexOf_7cf53 ++ []))
theorem gd_dm_J0_indexOf_0f7a4 : ∀ w ∈ ow_dm_J0_indexOf_0f7a4, (w.onTables && w.keeps) = true ∨ ∃ ty, w = Cond.arrayClass ty := List.forall_mem_cons.mpr ⟨good_of_word rfl, List.forall_mem_append.mpr ⟨fun w h => good_of_word (List.all_eq_true.mp (by decide +kernel) w h), List.forall_mem_append.mpr ⟨gd_dm_J0_indexOf_7cf53, fun _ h => nomatch h⟩⟩⟩
theorem gi_dm_J0_indexOf_0f7a4_0 : GoodIn ow_dm_J0_indexOf_0f7a4 (wsV RJ0 633 RJ0 yJ0_indexOf_7cf53 ow_dm_J0_indexOf_7cf53) := goodIn_app (goodIn_of _ (by decide +kernel)) (fun w h => ⟨List.mem_cons_of_mem _ (List.mem_append_right _ (List.mem_append_left _ h)), gd_dm_J0_indexOf_7cf53 w h⟩)
def dj_J0_indexOf_0f7a4_0 (p : Program) (l : Launch) (e : Env) (s : State) (m : MethodId) (args : Array Value) (below : List Frame) (meth : Method) (c : Code) (Q : State → Prop) (A : Nat → Prop) (dC : Nat → ClassId) (dI : Nat → Nat → Nat) (a : Nat → Nat) (ac : Nat → ClassId) (g : Nat → Int32 → (Unit) → Option (Int32 × (Unit))) (r : Int32 × (Unit)) : Prop := ∀ (vt : Nat) (v0 : Int32) (s0 : Unit) (H : Heap) (locs : List Loc) (ls : Array Slot), g vt v0 s0 = some r → va_P (dC, dI) vwCl (dw_P a ac s0) H → va_D A (dw_P a ac s0) → va_S A s.heap H locs → lv_has ls 2 [(0, .ref (dI 1000 vt)), (1, .int v0)] → W p l e (headSpec ow_dm_J0_indexOf_0f7a4 ({ frames := 3, cells := 0, slots := 0, locals := 70 })).room s m args below meth c H locs 0 0 Q (F0 m 0 ls [])
set_option maxHeartbeats 40000000 in
set_option maxRecDepth 100000 in
theorem db_J0_indexOf_0f7a4_0 {p : Program} {l : Launch} {e : Env} {s : State} {m : MethodId} {args : Array Value} {below : List Frame} {meth : Method} {c : Code} {Q : State → Prop} {A : Nat → Prop} {dC : Nat → ClassId} {dI : Nat → Nat → Nat} {a : Nat → Nat} {ac : Nat → ClassId} {n : Nat} {r : Int32 × (Unit)} (C : nd_C p l s m args c A (dC, dI) cJ0_indexOf_0f7a4 2 RJ0 ow_dm_J0_indexOf_0f7a4 (dk_P ac)) (K : nd_Ki p l e (headSpec ow_dm_J0_indexOf_0f7a4 ({ frames := 3, cells := 0, slots := 0, locals := 70 })).room s m args below meth c Q A (dC, dI) cJ0_indexOf_0f7a4 .int (Unit) (dw_P a ac) r) : dj_J0_indexOf_0f7a4_0 p l e s m args below meth c Q A dC dI a ac (df_J0_indexOf_0f7a4_0 n) r := by
  obtain ⟨hlt, hx, hb, hml, hown, hts, hN, hA, hK⟩ := id C
  intro vt v0 s0 H locs ls h hP hD hS hl
  unfold df_J0_indexOf_0f7a4_0 at h
  refine lv_aload_n hx hb dJ0_indexOf_0f7a4_0 rfl (lv_at hl 0 rfl) ?_
  refine lv_iload_n hx hb dJ0_indexOf_0f7a4_1 rfl (lv_at hl 1 rfl) ?_
  refine lv_iconst (v := 0) hx hb dJ0_indexOf_0f7a4_2 (by decide) ?_
  obtain ⟨i3, h⟩ := nd_lt_e h
  obtain ⟨q1, s2, hq, h⟩ := nd_b2_e h
  have hPc : va_P (dC, dI) vwCl (dw_P a ac ()) H := nd_p0
  have hDc : va_D A (dw_P a ac ()) := nd_d0
  have hKc : va_K (dC, dI) vwCl (dk_P ac) s := nd_y0 hK
  have hFc : ∀ q, va_A (dw_P a ac ()) H.size q → A q := nd_r0 hS hA
  refine nd_cVi (As := [.int v0, .int 0]) (rest := []) (q := q1) (w' := dw_P a ac s2) ⟨hx, hb, hml, hown, hts⟩ (fun sz => dm_J0_indexOf_7cf53 l hlt dC dI a ac n (vt) (v0) (0) () hq sz) (cwV 2 hts gi_dm_J0_indexOf_0f7a4_0 rfl rfl rfl (by decide +kernel) ⟨Nat.le_of_ble_eq_true rfl, Nat.le_of_ble_eq_true rfl⟩) hPc hDc hKc hS hA hN (nv_rcv hN.2.2.2.2.2.2.2.2.2.2.2 i3 hS) rfl hl.1 rfl (Nat.le_of_ble_eq_true rfl) dJ0_indexOf_0f7a4_3 (fun H locs hP1 hD1 hk1 hS => ?_)
  have hP := nd_n0 hP hk1
  exact K _ _ _ _ _ _ dJ0_indexOf_0f7a4_6 rfl (Option.some.inj h).symm hP hD hS
set_option maxHeartbeats 40000000 in
set_option maxRecDepth 100000 in
theorem dm_J0_indexOf_0f7a4 (l : Launch) (hlt : l.stackTraces = false) (dC : Nat → ClassId) (dI : Nat → Nat → Nat) (a : Nat → Nat) (ac : Nat → ClassId) (n : Nat) (vt : Nat) (v0 : Int32) (s0 : Unit) {r : Int32 × (Unit)} (h : df_J0_indexOf_0f7a4 n vt v0 s0 = some r) (sz : Nat) : Met l yJ0_indexOf_0f7a4 ow_dm_J0_indexOf_0f7a4 ({ frames := 3, cells := 0, slots := 0, locals := 70 }) (va_Pc [.ref (dI 1000 vt), .int v0] (fun U => U.heap.size = sz ∧ va_P (dC, dI) vwCl (dw_P a ac s0) U.heap ∧ va_K (dC, dI) vwCl (dk_P ac) U ∧ va_D (fun _ => True) (dw_P a ac s0) ∧ nv_E dI (va_A (dw_P a ac s0) sz) U)) (va_Qi (fun x _ => x = r.1) (fun (_ : Unit) t => va_P (dC, dI) vwCl (dw_P a ac r.2) t.heap ∧ va_K (dC, dI) vwCl (dk_P ac) t ∧ va_D (va_A (dw_P a ac s0) sz) (dw_P a ac r.2)) (va_A (dw_P a ac s0) sz)) 0 0 (va_A (dw_P a ac s0) sz) := by
  refine Met.ofW (cc := cJ0_indexOf_0f7a4) (maxL := 2) (ret := (some .int)) (by decide) rfl ?_
  intro p e s m args below meth c s₁ B hml hv
  obtain ⟨rfl, hsz, hP, hK, hD0, hN⟩ := hv
  have hx := B.exec
  have hb := B.bytes
  have hr := B.returns
  have hts := atoms_spec (ws := ow_dm_J0_indexOf_0f7a4) B.pre
  have hown : s.vm.findClass RJ0 = some m.cls := findClass_of_methodNamed B.named
  have hlocks := B.notSynchronized
  subst hsz
  have hD := hD0.self (sz := s.heap.size)
  generalize hAe : va_A (dw_P a ac s0) s.heap.size = A at hD hN ⊢
  have hA : ∀ q : Nat, s.heap.size ≤ q → A q := fun q h => by rw [← hAe]; exact Or.inr h
  have hl := lv_entry ([.ref (dI 1000 vt), .int v0]) (n := 2) (Nat.le_of_ble_eq_true rfl)
  rw [lg_entry_eq]
  generalize (lg_sl ([.ref (dI 1000 vt), .int v0]) ++ List.replicate (2 - (lg_sl ([.ref (dI 1000 vt), .int v0])).length) Slot.unset).toArray = ls at hl ⊢
  have hl : lv_has ls 2 [(0, .ref (dI 1000 vt)), (1, .int v0)] := hl
  exact db_J0_indexOf_0f7a4_0 (dC := dC) (dI := dI) (a := a) (ac := ac) (n := n) (r := r) ⟨hlt, hx, hb, hml, hown, hts, hN, hA, hK⟩ (fun pc v τ H locs ls d z er hP hD hS => by subst er; exact W.zret (v := v) hx hb hr z (fun t ht hW => ⟨⟨v, (), rfl, rfl, by rw [ht]; exact hP, va_K.moved hW.alike hK, hD⟩, hS.F ht⟩) hS.2.2 d) vt v0 s0 _ _ _ h hP hD va_S.rf (lv_sub hl [0, 1] rfl)
def ow_dm_Jx29ce0_ordinal_8abf5 : List Cond := Cond.code yJx29ce0_ordinal_8abf5 cJx29ce0_ordinal_8abf5 1 (some .int) :: ([Cond.fieldLink RJx29ce0 7 "java/lang/Enum" "ordinal" "I"] ++ [])
theorem gd_dm_Jx29ce0_ordinal_8abf5 : ∀ w ∈ ow_dm_Jx29ce0_ordinal_8abf5, (w.onTables && w.keeps) = true ∨ ∃ ty, w = Cond.arrayClass ty := List.forall_mem_cons.mpr ⟨good_of_word rfl, List.forall_mem_append.mpr ⟨fun w h => good_of_word (List.all_eq_true.mp (by decide +kernel) w h), fun _ h => nomatch h⟩⟩
def dj_Jx29ce0_ordinal_8abf5_0 (p : Program) (l : Launch) (e : Env) (s : State) (m : MethodId) (args : Array Value) (below : List Frame) (meth : Method) (c : Code) (Q : State → Prop) (A : Nat → Prop) (dC : Nat → ClassId) (dI : Nat → Nat → Nat) (a : Nat → Nat) (ac : Nat → ClassId) (g : Nat → (Unit) → Option (Int32 × (Unit))) (r : Int32 × (Unit)) : Prop := ∀ (vt : Nat) (s0 : Unit) (H : Heap) (locs : List Loc) (ls : Array Slot), g vt s0 = some r → va_P (dC, dI) vwCl (dw_P a ac s0) H → va_D A (dw_P a ac s0) → va_S A s.heap H locs → lv_has ls 1 [(0, .ref (dI 1002 vt))] → W p l e (headSpec ow_dm_Jx29ce0_ordinal_8abf5 ({ frames := 0, cells := 0, slots := 0, locals := 0 })).room s m args below meth c H locs 0 0 Q (F0 m 0 ls [])
set_option maxHeartbeats 40000000 in
set_option maxRecDepth 100000 in
theorem db_Jx29ce0_ordinal_8abf5_0 {p : Program} {l : Launch} {e : Env} {s : State} {m : MethodId} {args : Array Value} {below : List Frame} {meth : Method} {c : Code} {Q : State → Prop} {A : Nat → Prop} {dC : Nat → ClassId} {dI : Nat → Nat → Nat} {a : Nat → Nat} {ac : Nat → ClassId} {n : Nat} {r : Int32 × (Unit)} (C : nd_C p l s m args c A (dC, dI) cJx29ce0_ordinal_8abf5 1 RJx29ce0 ow_dm_Jx29ce0_ordinal_8abf5 (dk_P ac)) (K : nd_Ki p l e (headSpec ow_dm_Jx29ce0_ordinal_8abf5 ({ frames := 0, cells := 0, slots := 0, locals := 0 })).room s m args below meth c Q A (dC, dI) cJx29ce0_ordinal_8abf5 .int (Unit) (dw_P a ac) r) : dj_Jx29ce0_ordinal_8abf5_0 p l e s m args below meth c Q A dC dI a ac (df_Jx29ce0_ordinal_8abf5_0 n) r := by
  obtain ⟨hlt, hx, hb, hml, hown, hts, hN, hA, hK⟩ := id C
  intro vt s0 H locs ls h hP hD hS hl
  unfold df_Jx29ce0_ordinal_8abf5_0 at h
  refine lv_aload_n hx hb dJx29ce0_ordinal_8abf5_0 rfl (lv_at hl 0 rfl) ?_
  obtain ⟨i1, h⟩ := nd_lt_e h
  refine vk_getf hx hb (hN.2.2.2.2.2.2.2.2.2.2.2.2.2.2.1 vt i1).2.1 hS hown (hts (.fieldLink RJx29ce0 7 "java/lang/Enum" "ordinal" "I") (List.mem_of_getElem? (i := 1) rfl)) (fun _ h9 => h9) dJx29ce0_ordinal_8abf5_1 ?_
  exact K _ _ _ _ _ _ dJx29ce0_ordinal_8abf5_4 rfl (Option.some.inj h).symm hP hD hS
set_option maxHeartbeats 40000000 in
set_option maxRecDepth 100000 in
theorem dm_Jx29ce0_ordinal_8abf5 (l : Launch) (hlt : l.stackTraces = false) (dC : Nat → ClassId) (dI : Nat → Nat → Nat) (a : Nat → Nat) (ac : Nat → ClassId) (n : Nat) (vt : Nat) (s0 : Unit) {r : Int32 × (Unit)} (h : df_Jx29ce0_ordinal_8abf5 n vt s0 = some r) (sz : Nat) : Met l yJx29ce0_ordinal_8abf5 ow_dm_Jx29ce0_ordinal_8abf5 ({ frames := 0, cells := 0, slots := 0, locals := 0 }) (va_Pc [.ref (dI 1002 vt)] (fun U => U.heap.size = sz ∧ va_P (dC, dI) vwCl (dw_P a ac s0) U.heap ∧ va_K (dC, dI) vwCl (dk_P ac) U ∧ va_D (fun _ => True) (dw_P a ac s0) ∧ nv_E dI (va_A (dw_P a ac s0) sz) U)) (va_Qi (fun x _ => x = r.1) (fun (_ : Unit) t => va_P (dC, dI) vwCl (dw_P a ac r.2) t.heap ∧ va_K (dC, dI) vwCl (dk_P ac) t ∧ va_D (va_A (dw_P a ac s0) sz) (dw_P a ac r.2)) (va_A (dw_P a ac s0) sz)) 0 0 (va_A (dw_P a ac s0) sz) := by
  refine Met.ofW (cc := cJx29ce0_ordinal_8abf5) (maxL := 1) (ret := (some .int)) (by decide) rfl ?_
  intro p e s m args below meth c s₁ B hml hv
  obtain ⟨rfl, hsz, hP, hK, hD0, hN⟩ := hv
  have hx := B.exec
  have hb := B.bytes
  have hr := B.returns
  have hts := atoms_spec (ws := ow_dm_Jx29ce0_ordinal_8abf5) B.pre
  have hown : s.vm.findClass RJx29ce0 = some m.cls := findClass_of_methodNamed B.named
  have hlocks := B.notSynchronized
  subst hsz
  have hD := hD0.self (sz := s.heap.size)
  generalize hAe : va_A (dw_P a ac s0) s.heap.size = A at hD hN ⊢
  have hA : ∀ q : Nat, s.heap.size ≤ q → A q := fun q h => by rw [← hAe]; exact Or.inr h
  have hl := lv_entry ([.ref (dI 1002 vt)]) (n := 1) (Nat.le_of_ble_eq_true rfl)
  rw [lg_entry_eq]
  generalize (lg_sl ([.ref (dI 1002 vt)]) ++ List.replicate (1 - (lg_sl ([.ref (dI 1002 vt)])).length) Slot.unset).toArray = ls at hl ⊢
  have hl : lv_has ls 1 [(0, .ref (dI 1002 vt))] := hl
  exact db_Jx29ce0_ordinal_8abf5_0 (dC := dC) (dI := dI) (a := a) (ac := ac) (n := n) (r := r) ⟨hlt, hx, hb, hml, hown, hts, hN, hA, hK⟩ (fun pc v τ H locs ls d z er hP hD hS => by subst er; exact W.zret (v := v) hx hb hr z (fun t ht hW => ⟨⟨v, (), rfl, rfl, by rw [ht]; exact hP, va_K.moved hW.alike hK, hD⟩, hS.F ht⟩) hS.2.2 d) vt s0 _ _ _ h hP hD va_S.rf (lv_sub hl [0] rfl)
def ow_dm_J6_compare_7cf53 : List Cond := Cond.code yJ6_compare_7cf53 cJ6_compare_7cf53 2 (some .int) :: ([] ++ [])
theorem gd_dm_J6_compare_7cf53 : ∀ w ∈ ow_dm_J6_compare_7cf53, (w.onTables && w.keeps) = true ∨ ∃ ty, w = Cond.arrayClass ty := List.forall_mem_cons.mpr ⟨good_of_word rfl, List.forall_mem_append.mpr ⟨fun w h => good_of_word (List.all_eq_true.mp (by decide +kernel) w h), fun _ h => nomatch h⟩⟩
def dj_J6_compare_7cf53_19 (p : Program) (l : Launch) (e : Env) (s : State) (m : MethodId) (args : Array Value) (below : List Frame) (meth : Method) (c : Code) (Q : State → Prop) (A : Nat → Prop) (dC : Nat → ClassId) (dI : Nat → Nat → Nat) (a : Nat → Nat) (ac : Nat → ClassId) (g : Int32 → (Unit) → Option (Int32 × (Unit))) (r : Int32 × (Unit)) : Prop := ∀ (y0 : Int32) (s0 : Unit) (H : Heap) (locs : List Loc) (ls : Array Slot), g y0 s0 = some r → va_P (dC, dI) vwCl (dw_P a ac s0) H → va_D A (dw_P a ac s0) → va_S A s.heap H locs → lv_has ls 2 [] → W p l e (headSpec ow_dm_J6_compare_7cf53 ({ frames := 0, cells := 0, slots := 0, locals := 0 })).room s m args below meth c H locs 0 0 Q (F0 m 19 ls [.int y0])
def dj_J6_compare_7cf53_0 (p : Program) (l : Launch) (e : Env) (s : State) (m : MethodId) (args : Array Value) (below : List Frame) (meth : Method) (c : Code) (Q : State → Prop) (A : Nat → Prop) (dC : Nat → ClassId) (dI : Nat → Nat → Nat) (a : Nat → Nat) (ac : Nat → ClassId) (g : Int32 → Int32 → (Unit) → Option (Int32 × (Unit))) (r : Int32 × (Unit)) : Prop := ∀ (v0 : Int32) (v1 : Int32) (s0 : Unit) (H : Heap) (locs : List Loc) (ls : Array Slot), g v0 v1 s0 = some r → va_P (dC, dI) vwCl (dw_P a ac s0) H → va_D A (dw_P a ac s0) → va_S A s.heap H locs → lv_has ls 2 [(0, .int v0), (1, .int v1)] → W p l e (headSpec ow_dm_J6_compare_7cf53 ({ frames := 0, cells := 0, slots := 0, locals := 0 })).room s m args below meth c H locs 0 0 Q (F0 m 0 ls [])
set_option maxHeartbeats 40000000 in
set_option maxRecDepth 100000 in
theorem db_J6_compare_7cf53_19 {p : Program} {l : Launch} {e : Env} {s : State} {m : MethodId} {args : Array Value} {below : List Frame} {meth : Method} {c : Code} {Q : State → Prop} {A : Nat → Prop} {dC : Nat → ClassId} {dI : Nat → Nat → Nat} {a : Nat → Nat} {ac : Nat → ClassId} {n : Nat} {r : Int32 × (Unit)} (C : nd_C p l s m args c A (dC, dI) cJ6_compare_7cf53 2 RJ6 ow_dm_J6_compare_7cf53 (dk_P ac)) (K : nd_Ki p l e (headSpec ow_dm_J6_compare_7cf53 ({ frames := 0, cells := 0, slots := 0, locals := 0 })).room s m args below meth c Q A (dC, dI) cJ6_compare_7cf53 .int (Unit) (dw_P a ac) r) : dj_J6_compare_7cf53_19 p l e s m args below meth c Q A dC dI a ac (df_J6_compare_7cf53_19 n) r := by
  obtain ⟨hlt, hx, hb, hml, hown, hts, hN, hA, hK⟩ := id C
  intro y0 s0 H locs ls h hP hD hS hl
  unfold df_J6_compare_7cf53_19 at h
  exact K _ _ _ _ _ _ dJ6_compare_7cf53_19 rfl (Option.some.inj h).symm hP hD hS
set_option maxHeartbeats 40000000 in
set_option maxRecDepth 100000 in
theorem db_J6_compare_7cf53_0 {p : Program} {l : Launch} {e : Env} {s : State} {m : MethodId} {args : Array Value} {below : List Frame} {meth : Method} {c : Code} {Q : State → Prop} {A : Nat → Prop} {dC : Nat → ClassId} {dI : Nat → Nat → Nat} {a : Nat → Nat} {ac : Nat → ClassId} {n : Nat} {r : Int32 × (Unit)} (C : nd_C p l s m args c A (dC, dI) cJ6_compare_7cf53 2 RJ6 ow_dm_J6_compare_7cf53 (dk_P ac)) (K : nd_Ki p l e (headSpec ow_dm_J6_compare_7cf53 ({ frames := 0, cells := 0, slots := 0, locals := 0 })).room s m args below meth c Q A (dC, dI) cJ6_compare_7cf53 .int (Unit) (dw_P a ac) r) : dj_J6_compare_7cf53_0 p l e s m args below meth c Q A dC dI a ac (df_J6_compare_7cf53_0 n) r := by
  obtain ⟨hlt, hx, hb, hml, hown, hts, hN, hA, hK⟩ := id C
  intro v0 v1 s0 H locs ls h hP hD hS hl
  unfold df_J6_compare_7cf53_0 at h
  refine lv_iload_n hx hb dJ6_compare_7cf53_0 rfl (lv_at hl 0 rfl) ?_
  refine lv_iload_n hx hb dJ6_compare_7cf53_1 rfl (lv_at hl 1 rfl) ?_
  refine lv_icmp_ge (tgt := 9) hx hb dJ6_compare_7cf53_2 (by decide) (fun c1 => ?_) (fun c1 => ?_)
  · have h := nd_pos h c1
    refine lv_iload_n hx hb dJ6_compare_7cf53_9 rfl (lv_at hl 0 rfl) ?_
    refine lv_iload_n hx hb dJ6_compare_7cf53_10 rfl (lv_at hl 1 rfl) ?_
    refine lv_icmp_ne (tgt := 18) hx hb dJ6_compare_7cf53_11 (by decide) (fun c2 => ?_) (fun c2 => ?_)
    · have h := nd_neg h c2
      refine lv_iconst (v := 1) hx hb dJ6_compare_7cf53_18 (by decide) ?_
      exact (db_J6_compare_7cf53_19 C K) (1) s0 _ _ _ h hP hD hS (lv_sub hl [] rfl)
    · have h := nd_pos h c2
      refine lv_iconst (v := 0) hx hb dJ6_compare_7cf53_14 (by decide) ?_
      refine lv_goto (tgt := 19) hx hb dJ6_compare_7cf53_15 (by decide) ?_
      exact (db_J6_compare_7cf53_19 C K) (0) s0 _ _ _ h hP hD hS (lv_sub hl [] rfl)
  · have h := nd_neg h c1
    refine lv_iconst (v := (-1)) hx hb dJ6_compare_7cf53_5 (by decide) ?_
    refine lv_goto (tgt := 19) hx hb dJ6_compare_7cf53_6 (by decide) ?_
    exact (db_J6_compare_7cf53_19 C K) ((-1)) s0 _ _ _ h hP hD hS (lv_sub hl [] rfl)
set_option maxHeartbeats 40000000 in
set_option maxRecDepth 100000 in
theorem dm_J6_compare_7cf53 (l : Launch) (hlt : l.stackTraces = false) (dC : Nat → ClassId) (dI : Nat → Nat → Nat) (a : Nat → Nat) (ac : Nat → ClassId) (n : Nat) (v0 : Int32) (v1 : Int32) (s0 : Unit) {r : Int32 × (Unit)} (h : df_J6_compare_7cf53 n v0 v1 s0 = some r) (sz : Nat) : Met l yJ6_compare_7cf53 ow_dm_J6_compare_7cf53 ({ frames := 0, cells := 0, slots := 0, locals := 0 }) (va_Pc [.int v0, .int v1] (fun U => U.heap.size = sz ∧ va_P (dC, dI) vwCl (dw_P a ac s0) U.heap ∧ va_K (dC, dI) vwCl (dk_P ac) U ∧ va_D (fun _ => True) (dw_P a ac s0) ∧ nv_E dI (va_A (dw_P a ac s0) sz) U)) (va_Qi (fun x _ => x = r.1) (fun (_ : Unit) t => va_P (dC, dI) vwCl (dw_P a ac r.2) t.heap ∧ va_K (dC, dI) vwCl (dk_P ac) t ∧ va_D (va_A (dw_P a ac s0) sz) (dw_P a ac r.2)) (va_A (dw_P a ac s0) sz)) 0 0 (va_A (dw_P a ac s0) sz) := by
  refine Met.ofW (cc := cJ6_compare_7cf53) (maxL := 2) (ret := (some .int)) (by decide) rfl ?_
  intro p e s m args below meth c s₁ B hml hv
  obtain ⟨rfl, hsz, hP, hK, hD0, hN⟩ := hv
  have hx := B.exec
  have hb := B.bytes
  have hr := B.returns
  have hts := atoms_spec (ws := ow_dm_J6_compare_7cf53) B.pre
  have hown : s.vm.findClass RJ6 = some m.cls := findClass_of_methodNamed B.named
  have hlocks := B.notSynchronized
  subst hsz
  have hD := hD0.self (sz := s.heap.size)
  generalize hAe : va_A (dw_P a ac s0) s.heap.size = A at hD hN ⊢
  have hA : ∀ q : Nat, s.heap.size ≤ q → A q := fun q h => by rw [← hAe]; exact Or.inr h
  have hl := lv_entry ([.int v0, .int v1]) (n := 2) (Nat.le_of_ble_eq_true rfl)
  rw [lg_entry_eq]
  generalize (lg_sl ([.int v0, .int v1]) ++ List.replicate (2 - (lg_sl ([.int v0, .int v1])).length) Slot.unset).toArray = ls at hl ⊢
  have hl : lv_has ls 2 [(0, .int v0), (1, .int v1)] := hl
  exact db_J6_compare_7cf53_0 (dC := dC) (dI := dI) (a := a) (ac := ac) (n := n) (r := r) ⟨hlt, hx, hb, hml, hown, hts, hN, hA, hK⟩ (fun pc v τ H locs ls d z er hP hD hS => by subst er; exact W.zret (v := v) hx hb hr z (fun t ht hW => ⟨⟨v, (), rfl, rfl, by rw [ht]; exact hP, va_K.moved hW.alike hK, hD⟩, hS.F ht⟩) hS.2.2 d) v0 v1 s0 _ _ _ h hP hD va_S.rf (lv_sub hl [0, 1] rfl)
def ow_dm_J6_compareUnsigned_7cf53 : List Cond := Cond.code yJ6_compareUnsigned_7cf53 cJ6_compareUnsigned_7cf53 2 (some .int) :: ([Cond.constant RJ6 127 (-2147483648), Cond.methodLink RJ6 259 yJ6_compare_7cf53, Cond.static yJ6_compare_7cf53, Cond.initialized RJ6] ++ (ow_dm_J6_compare_7cf53 ++ []))
theorem gd_dm_J6_compareUnsigned_7cf53 : ∀ w ∈ ow_dm_J6_compareUnsigned_7cf53, (w.onTables && w.keeps) = true ∨ ∃ ty, w = Cond.arrayClass ty := List.forall_mem_cons.mpr ⟨good_of_word rfl, List.forall_mem_append.mpr ⟨fun w h => good_of_word (List.all_eq_true.mp (by decide +kernel) w h), List.forall_mem_append.mpr ⟨gd_dm_J6_compare_7cf53, fun _ h => nomatch h⟩⟩⟩
theorem gi_dm_J6_compareUnsigned_7cf53_0 : GoodIn ow_dm_J6_compareUnsigned_7cf53 (wsS RJ6 259 yJ6_compare_7cf53 ow_dm_J6_compare_7cf53) := goodIn_app (goodIn_of _ (by decide +kernel)) (fun w h => ⟨List.mem_cons_of_mem _ (List.mem_append_right _ (List.mem_append_left _ h)), gd_dm_J6_compare_7cf53 w h⟩)
def dj_J6_compareUnsigned_7cf53_0 (p : Program) (l : Launch) (e : Env) (s : State) (m : MethodId) (args : Array Value) (below : List Frame) (meth : Method) (c : Code) (Q : State → Prop) (A : Nat → Prop) (dC : Nat → ClassId) (dI : Nat → Nat → Nat) (a : Nat → Nat) (ac : Nat → ClassId) (g : Int32 → Int32 → (Unit) → Option (Int32 × (Unit))) (r : Int32 × (Unit)) : Prop := ∀ (v0 : Int32) (v1 : Int32) (s0 : Unit) (H : Heap) (locs : List Loc) (ls : Array Slot), g v0 v1 s0 = some r → va_P (dC, dI) vwCl (dw_P a ac s0) H → va_D A (dw_P a ac s0) → va_S A s.heap H locs → lv_has ls 2 [(0, .int v0), (1, .int v1)] → W p l e (headSpec ow_dm_J6_compareUnsigned_7cf53 ({ frames := 1, cells := 0, slots := 0, locals := 21 })).room s m args below meth c H locs 0 0 Q (F0 m 0 ls [])
set_option maxHeartbeats 40000000 in
set_option maxRecDepth 100000 in
theorem db_J6_compareUnsigned_7cf53_0 {p : Program} {l : Launch} {e : Env} {s : State} {m : MethodId} {args : Array Value} {below : List Frame} {meth : Method} {c : Code} {Q : State → Prop} {A : Nat → Prop} {dC : Nat → ClassId} {dI : Nat → Nat → Nat} {a : Nat → Nat} {ac : Nat → ClassId} {n : Nat} {r : Int32 × (Unit)} (C : nd_C p l s m args c A (dC, dI) cJ6_compareUnsigned_7cf53 2 RJ6 ow_dm_J6_compareUnsigned_7cf53 (dk_P ac)) (K : nd_Ki p l e (headSpec ow_dm_J6_compareUnsigned_7cf53 ({ frames := 1, cells := 0, slots := 0, locals := 21 })).room s m args below meth c Q A (dC, dI) cJ6_compareUnsigned_7cf53 .int (Unit) (dw_P a ac) r) : dj_J6_compareUnsigned_7cf53_0 p l e s m args below meth c Q A dC dI a ac (df_J6_compareUnsigned_7cf53_0 n) r := by
  obtain ⟨hlt, hx, hb, hml, hown, hts, hN, hA, hK⟩ := id C
  intro v0 v1 s0 H locs ls h hP hD hS hl
  unfold df_J6_compareUnsigned_7cf53_0 at h
  refine lv_iload_n hx hb dJ6_compareUnsigned_7cf53_0 rfl (lv_at hl 0 rfl) ?_
  refine lv_ldc hx hb hown (hts (.constant RJ6 127 (-2147483648)) (List.mem_of_getElem? (i := 1) rfl)) dJ6_compareUnsigned_7cf53_1 ?_
  refine lv_iadd hx hb dJ6_compareUnsigned_7cf53_3 ?_
  refine lv_iload_n hx hb dJ6_compareUnsigned_7cf53_4 rfl (lv_at hl 1 rfl) ?_
  refine lv_ldc hx hb hown (hts (.constant RJ6 127 (-2147483648)) (List.mem_of_getElem? (i := 1) rfl)) dJ6_compareUnsigned_7cf53_5 ?_
  refine lv_iadd hx hb dJ6_compareUnsigned_7cf53_7 ?_
  obtain ⟨q1, s2, hq, h⟩ := nd_b2_e h
  have hPc : va_P (dC, dI) vwCl (dw_P a ac ()) H := nd_p0
  have hDc : va_D A (dw_P a ac ()) := nd_d0
  have hKc : va_K (dC, dI) vwCl (dk_P ac) s := nd_y0 hK
  have hFc : ∀ q, va_A (dw_P a ac ()) H.size q → A q := nd_r0 hS hA
  refine nd_cSi (As := [.int (v0 + (-2147483648)), .int (v1 + (-2147483648))]) (rest := []) (q := q1) (w' := dw_P a ac s2) ⟨hx, hb, hml, hown, hts⟩ (fun sz => dm_J6_compare_7cf53 l hlt dC dI a ac n ((v0 + (-2147483648))) ((v1 + (-2147483648))) () hq sz) (cwS 2 hts gi_dm_J6_compareUnsigned_7cf53_0 rfl rfl rfl (by decide +kernel) ⟨Nat.le_of_ble_eq_true rfl, Nat.le_of_ble_eq_true rfl⟩) hPc hDc hKc hS hA hN rfl hl.1 rfl (Nat.le_of_ble_eq_true rfl) dJ6_compareUnsigned_7cf53_8 (fun H locs hP1 hD1 hk1 hS => ?_)
  have hP := nd_n0 hP hk1
  exact K _ _ _ _ _ _ dJ6_compareUnsigned_7cf53_11 rfl (Option.some.inj h).symm hP hD hS
set_option maxHeartbeats 40000000 in
set_option maxRecDepth 100000 in
theorem dm_J6_compareUnsigned_7cf53 (l : Launch) (hlt : l.stackTraces = false) (dC : Nat → ClassId) (dI : Nat → Nat → Nat) (a : Nat → Nat) (ac : Nat → ClassId) (n : Nat) (v0 : Int32) (v1 : Int32) (s0 : Unit) {r : Int32 × (Unit)} (h : df_J6_compareUnsigned_7cf53 n v0 v1 s0 = some r) (sz : Nat) : Met l yJ6_compareUnsigned_7cf53 ow_dm_J6_compareUnsigned_7cf53 ({ frames := 1, cells := 0, slots := 0, locals := 21 }) (va_Pc [.int v0, .int v1] (fun U => U.heap.size = sz ∧ va_P (dC, dI) vwCl (dw_P a ac s0) U.heap ∧ va_K (dC, dI) vwCl (dk_P ac) U ∧ va_D (fun _ => True) (dw_P a ac s0) ∧ nv_E dI (va_A (dw_P a ac s0) sz) U)) (va_Qi (fun x _ => x = r.1) (fun (_ : Unit) t => va_P (dC, dI) vwCl (dw_P a ac r.2) t.heap ∧ va_K (dC, dI) vwCl (dk_P ac) t ∧ va_D (va_A (dw_P a ac s0) sz) (dw_P a ac r.2)) (va_A (dw_P a ac s0) sz)) 0 0 (va_A (dw_P a ac s0) sz) := by
  refine Met.ofW (cc := cJ6_compareUnsigned_7cf53) (maxL := 2) (ret := (some .int)) (by decide) rfl ?_
  intro p e s m args below meth c s₁ B hml hv
  obtain ⟨rfl, hsz, hP, hK, hD0, hN⟩ := hv
  have hx := B.exec
  have hb := B.bytes
  have hr := B.returns
  have hts := atoms_spec (ws := ow_dm_J6_compareUnsigned_7cf53) B.pre
  have hown : s.vm.findClass RJ6 = some m.cls := findClass_of_methodNamed B.named
  have hlocks := B.notSynchronized
  subst hsz
  have hD := hD0.self (sz := s.heap.size)
  generalize hAe : va_A (dw_P a ac s0) s.heap.size = A at hD hN ⊢
  have hA : ∀ q : Nat, s.heap.size ≤ q → A q := fun q h => by rw [← hAe]; exact Or.inr h
  have hl := lv_entry ([.int v0, .int v1]) (n := 2) (Nat.le_of_ble_eq_true rfl)
  rw [lg_entry_eq]
  generalize (lg_sl ([.int v0, .int v1]) ++ List.replicate (2 - (lg_sl ([.int v0, .int v1])).length) Slot.unset).toArray = ls at hl ⊢
  have hl : lv_has ls 2 [(0, .int v0), (1, .int v1)] := hl
  exact db_J6_compareUnsigned_7cf53_0 (dC := dC) (dI := dI) (a := a) (ac := ac) (n := n) (r := r) ⟨hlt, hx, hb, hml, hown, hts, hN, hA, hK⟩ (fun pc v τ H locs ls d z er hP hD hS => by subst er; exact W.zret (v := v) hx hb hr z (fun t ht hW => ⟨⟨v, (), rfl, rfl, by rw [ht]; exact hP, va_K.moved hW.alike hK, hD⟩, hS.F ht⟩) hS.2.2 d) v0 v1 s0 _ _ _ h hP hD va_S.rf (lv_sub hl [0, 1] rfl)
def ow_dm_J6_numberOfTrailingZeros_0f7a4 : List Cond := Cond.code yJ6_numberOfTrailingZeros_0f7a4 cJ6_numberOfTrailingZeros_0f7a4 2 (some .int) :: ([Cond.constant RJ6 264 (65536)] ++ [])
theorem gd_dm_J6_numberOfTrailingZeros_0f7a4 : ∀ w ∈ ow_dm_J6_numberOfTrailingZeros_0f7a4, (w.onTables && w.keeps) = true ∨ ∃ ty, w = Cond.arrayClass ty := List.forall_mem_cons.mpr ⟨good_of_word rfl, List.forall_mem_append.mpr ⟨fun w h => good_of_word (List.all_eq_true.mp (by decide +kernel) w h), fun _ h => nomatch h⟩⟩
def dj_J6_numberOfTrailingZeros_0f7a4_74 (p : Program) (l : Launch) (e : Env) (s : State) (m : MethodId) (args : Array Value) (below : List Frame) (meth : Method) (c : Code) (Q : State → Prop) (A : Nat → Prop) (dC : Nat → ClassId) (dI : Nat → Nat → Nat) (a : Nat → Nat) (ac : Nat → ClassId) (g : Int32 → Int32 → (Unit) → Option (Int32 × (Unit))) (r : Int32 × (Unit)) : Prop := ∀ (x0 : Int32) (x1 : Int32) (s0 : Unit) (H : Heap) (locs : List Loc) (ls : Array Slot), g x0 x1 s0 = some r → va_P (dC, dI) vwCl (dw_P a ac s0) H → va_D A (dw_P a ac s0) → va_S A s.heap H locs → lv_has ls 2 [(0, .int x0), (1, .int x1)] → W p l e (headSpec ow_dm_J6_numberOfTrailingZeros_0f7a4 ({ frames := 0, cells := 0, slots := 0, locals := 0 })).room s m args below meth c H locs 0 0 Q (F0 m 74 ls [])
def dj_J6_numberOfTrailingZeros_0f7a4_62 (p : Program) (l : Launch) (e : Env) (s : State) (m : MethodId) (args : Array Value) (below : List Frame) (meth : Method) (c : Code) (Q : State → Prop) (A : Nat → Prop) (dC : Nat → ClassId) (dI : Nat → Nat → Nat) (a : Nat → Nat) (ac : Nat → ClassId) (g : Int32 → Int32 → (Unit) → Option (Int32 × (Unit))) (r : Int32 × (Unit)) : Prop := ∀ (x0 : Int32) (x1 : Int32) (s0 : Unit) (H : Heap) (locs : List Loc) (ls : Array Slot), g x0 x1 s0 = some r → va_P (dC, dI) vwCl (dw_P a ac s0) H → va_D A (dw_P a ac s0) → va_S A s.heap H locs → lv_has ls 2 [(0, .int x0), (1, .int x1)] → W p l e (headSpec ow_dm_J6_numberOfTrailingZeros_0f7a4 ({ frames := 0, cells := 0, slots := 0, locals := 0 })).room s m args below meth c H locs 0 0 Q (F0 m 62 ls [])
def dj_J6_numberOfTrailingZeros_0f7a4_49 (p : Program) (l : Launch) (e : Env) (s : State) (m : MethodId) (args : Array Value) (below : List Frame) (meth : Method) (c : Code) (Q : State → Prop) (A : Nat → Prop) (dC : Nat → ClassId) (dI : Nat → Nat → Nat) (a : Nat → Nat) (ac : Nat → ClassId) (g : Int32 → Int32 → (Unit) → Option (Int32 × (Unit))) (r : Int32 × (Unit)) : Prop := ∀ (x0 : Int32) (x1 : Int32) (s0 : Unit) (H : Heap) (locs : List Loc) (ls : Array Slot), g x0 x1 s0 = some r → va_P (dC, dI) vwCl (dw_P a ac s0) H → va_D A (dw_P a ac s0) → va_S A s.heap H locs → lv_has ls 2 [(0, .int x0), (1, .int x1)] → W p l e (headSpec ow_dm_J6_numberOfTrailingZeros_0f7a4 ({ frames := 0, cells := 0, slots := 0, locals := 0 })).room s m args below meth c H locs 0 0 Q (F0 m 49 ls [])
def dj_J6_numberOfTrailingZeros_0f7a4_34 (p : Program) (l : Launch) (e : Env) (s : State) (m : MethodId) (args : Array Value) (below : List Frame) (meth : Method) (c : Code) (Q : State → Prop) (A : Nat → Prop) (dC : Nat → ClassId) (dI : Nat → Nat → Nat) (a : Nat → Nat) (ac : Nat → ClassId) (g : Int32 → Int32 → (Unit) → Option (Int32 × (Unit))) (r : Int32 × (Unit)) : Prop := ∀ (x0 : Int32) (x1 : Int32) (s0 : Unit) (H : Heap) (locs : List Loc) (ls : Array Slot), g x0 x1 s0 = some r → va_P (dC, dI) vwCl (dw_P a ac s0) H → va_D A (dw_P a ac s0) → va_S A s.heap H locs → lv_has ls 2 [(0, .int x0), (1, .int x1)] → W p l e (headSpec ow_dm_J6_numberOfTrailingZeros_0f7a4 ({ frames := 0, cells := 0, slots := 0, locals := 0 })).room s m args below meth c H locs 0 0 Q (F0 m 34 ls [])
def dj_J6_numberOfTrailingZeros_0f7a4_0 (p : Program) (l : Launch) (e : Env) (s : State) (m : MethodId) (args : Array Value) (below : List Frame) (meth : Method) (c : Code) (Q : State → Prop) (A : Nat → Prop) (dC : Nat → ClassId) (dI : Nat → Nat → Nat) (a : Nat → Nat) (ac : Nat → ClassId) (g : Int32 → (Unit) → Option (Int32 × (Unit))) (r : Int32 × (Unit)) : Prop := ∀ (v0 : Int32) (s0 : Unit) (H : Heap) (locs : List Loc) (ls : Array Slot), g v0 s0 = some r → va_P (dC, dI) vwCl (dw_P a ac s0) H → va_D A (dw_P a ac s0) → va_S A s.heap H locs → lv_has ls 2 [(0, .int v0)] → W p l e (headSpec ow_dm_J6_numberOfTrailingZeros_0f7a4 ({ frames := 0, cells := 0, slots := 0, locals := 0 })).room s m args below meth c H locs 0 0 Q (F0 m 0 ls [])
set_option maxHeartbeats 40000000 in
set_option maxRecDepth 100000 in
theorem db_J6_numberOfTrailingZeros_0f7a4_74 {p : Program} {l : Launch} {e : Env} {s : State} {m : MethodId} {args : Array Value} {below : List Frame} {meth : Method} {c : Code} {Q : State → Prop} {A : Nat → Prop} {dC : Nat → ClassId} {dI : Nat → Nat → Nat} {a : Nat → Nat} {ac : Nat → ClassId} {n : Nat} {r : Int32 × (Unit)} (C : nd_C p l s m args c A (dC, dI) cJ6_numberOfTrailingZeros_0f7a4 2 RJ6 ow_dm_J6_numberOfTrailingZeros_0f7a4 (dk_P ac)) (K : nd_Ki p l e (headSpec ow_dm_J6_numberOfTrailingZeros_0f7a4 ({ frames := 0, cells := 0, slots := 0, locals := 0 })).room s m args below meth c Q A (dC, dI) cJ6_numberOfTrailingZeros_0f7a4 .int (Unit) (dw_P a ac) r) : dj_J6_numberOfTrailingZeros_0f7a4_74 p l e s m args below meth c Q A dC dI a ac (df_J6_numberOfTrailingZeros_0f7a4_74 n) r := by
  obtain ⟨hlt, hx, hb, hml, hown, hts, hN, hA, hK⟩ := id C
  intro x0 x1 s0 H locs ls h hP hD hS hl
  unfold df_J6_numberOfTrailingZeros_0f7a4_74 at h
  refine lv_iload_n hx hb dJ6_numberOfTrailingZeros_0f7a4_74 rfl (lv_at hl 1 rfl) ?_
  refine lv_iload_n hx hb dJ6_numberOfTrailingZeros_0f7a4_75 rfl (lv_at hl 0 rfl) ?_
  refine lv_iconst (v := 1) hx hb dJ6_numberOfTrailingZeros_0f7a4_76 (by decide) ?_
  refine lv_iushr hx hb dJ6_numberOfTrailingZeros_0f7a4_77 rfl ?_
  refine lv_iadd hx hb dJ6_numberOfTrailingZeros_0f7a4_78 ?_
  exact K _ _ _ _ _ _ dJ6_numberOfTrailingZeros_0f7a4_79 rfl (Option.some.inj h).symm hP hD hS
set_option maxHeartbeats 40000000 in
set_option maxRecDepth 100000 in
theorem db_J6_numberOfTrailingZeros_0f7a4_62 {p : Program} {l : Launch} {e : Env} {s : State} {m : MethodId} {args : Array Value} {below : List Frame} {meth : Method} {c : Code} {Q : State → Prop} {A : Nat → Prop} {dC : Nat → ClassId} {dI : Nat → Nat → Nat} {a : Nat → Nat} {ac : Nat → ClassId} {n : Nat} {r : Int32 × (Unit)} (C : nd_C p l s m args c A (dC, dI) cJ6_numberOfTrailingZeros_0f7a4 2 RJ6 ow_dm_J6_numberOfTrailingZeros_0f7a4 (dk_P ac)) (K : nd_Ki p l e (headSpec ow_dm_J6_numberOfTrailingZeros_0f7a4 ({ frames := 0, cells := 0, slots := 0, locals := 0 })).room s m args below meth c Q A (dC, dI) cJ6_numberOfTrailingZeros_0f7a4 .int (Unit) (dw_P a ac) r) : dj_J6_numberOfTrailingZeros_0f7a4_62 p l e s m args below meth c Q A dC dI a ac (df_J6_numberOfTrailingZeros_0f7a4_62 n) r := by
  obtain ⟨hlt, hx, hb, hml, hown, hts, hN, hA, hK⟩ := id C
  intro x0 x1 s0 H locs ls h hP hD hS hl
  unfold df_J6_numberOfTrailingZeros_0f7a4_62 at h
  refine lv_iload_n hx hb dJ6_numberOfTrailingZeros_0f7a4_62 rfl (lv_at hl 0 rfl) ?_
  refine lv_iconst (v := 4) hx hb dJ6_numberOfTrailingZeros_0f7a4_63 (by decide) ?_
  refine lv_icmp_le (tgt := 74) hx hb dJ6_numberOfTrailingZeros_0f7a4_64 (by decide) (fun c6 => ?_) (fun c6 => ?_)
  · have h := nd_pos h c6
    exact (db_J6_numberOfTrailingZeros_0f7a4_74 C K) (x0) (x1) s0 _ _ _ h hP hD hS (lv_sub hl [0, 1] rfl)
  · have h := nd_neg h c6
    obtain ⟨z7, ez7, h⟩ := nd_let_e h
    refine lv_iinc (v := z7) (lv' := [(1, .int z7), (0, .int x0)]) hx hb dJ6_numberOfTrailingZeros_0f7a4_67 hl (k := 1) rfl (by rw [ez7]) (by decide) rfl (fun ls hl => ?_)
    refine lv_iload_n hx hb dJ6_numberOfTrailingZeros_0f7a4_70 rfl (lv_at hl 1 rfl) ?_
    refine lv_iconst (v := 2) hx hb dJ6_numberOfTrailingZeros_0f7a4_71 (by decide) ?_
    refine lv_iushr hx hb dJ6_numberOfTrailingZeros_0f7a4_72 rfl ?_
    refine lv_topi (fun z8 ez8 => ?_)
    have h := nd_at h ez8
    refine lv_istore_n (lv' := [(0, .int z8), (1, .int z7)]) hx hb dJ6_numberOfTrailingZeros_0f7a4_73 rfl hl (by decide) rfl (fun ls hl => ?_)
    exact (db_J6_numberOfTrailingZeros_0f7a4_74 C K) (z8) (z7) s0 _ _ _ h hP hD hS (lv_sub hl [0, 1] rfl)

set_option maxHeartbeats 40000000 in
set_option maxRecDepth 100000 in
theorem db_J6_numberOfTrailingZeros_0f7a4_49 {p : Program} {l : Launch} {e : Env} {s : State} {m : MethodId} {args : Array Value} {below : List Frame} {meth : Method} {c : Code} {Q : State → Prop} {A : Nat → Prop} {dC : Nat → ClassId} {dI : Nat → Nat → Nat} {a : Nat → Nat} {ac : Nat → ClassId} {n : Nat} {r : Int32 × (Unit)} (C : nd_C p l s m args c A (dC, dI) cJ6_numberOfTrailingZeros_0f7a4 2 RJ6 ow_dm_J6_numberOfTrailingZeros_0f7a4 (dk_P ac)) (K : nd_Ki p l e (headSpec ow_dm_J6_numberOfTrailingZeros_0f7a4 ({ frames := 0, cells := 0, slots := 0, locals := 0 })).room s m args below meth c Q A (dC, dI) cJ6_numberOfTrailingZeros_0f7a4 .int (Unit) (dw_P a ac) r) : dj_J6_numberOfTrailingZeros_0f7a4_49 p l e s m args below meth c Q A dC dI a ac (df_J6_numberOfTrailingZeros_0f7a4_49 n) r := by
  obtain ⟨hlt, hx, hb, hml, hown, hts, hN, hA, hK⟩ := id C
  intro x0 x1 s0 H locs ls h hP hD hS hl
  unfold df_J6_numberOfTrailingZeros_0f7a4_49 at h
  refine lv_iload_n hx hb dJ6_numberOfTrailingZeros_0f7a4_49 rfl (lv_at hl 0 rfl) ?_
  refine lv_bipush (v := 16) hx hb dJ6_numberOfTrailingZeros_0f7a4_50 (by decide) ?_
  refine lv_icmp_le (tgt := 62) hx hb dJ6_numberOfTrailingZeros_0f7a4_52 (by decide) (fun c5 => ?_) (fun c5 => ?_)
  · have h := nd_pos h c5
    exact (db_J6_numberOfTrailingZeros_0f7a4_62 C K) (x0) (x1) s0 _ _ _ h hP hD hS (lv_sub hl [0, 1] rfl)
  · have h := nd_neg h c5
    obtain ⟨z9, ez9, h⟩ := nd_let_e h
    refine lv_iinc (v := z9) (lv' := [(1, .int z9), (0, .int x0)]) hx hb dJ6_numberOfTrailingZeros_0f7a4_55 hl (k := 1) rfl (by rw [ez9]) (by decide) rfl (fun ls hl => ?_)
    refine lv_iload_n hx hb dJ6_numberOfTrailingZeros_0f7a4_58 rfl (lv_at hl 1 rfl) ?_
    refine lv_iconst (v := 4) hx hb dJ6_numberOfTrailingZeros_0f7a4_59 (by decide) ?_
    refine lv_iushr hx hb dJ6_numberOfTrailingZeros_0f7a4_60 rfl ?_
    refine lv_topi (fun z10 ez10 => ?_)
    have h := nd_at h ez10
    refine lv_istore_n (lv' := [(0, .int z10), (1, .int z9)]) hx hb dJ6_numberOfTrailingZeros_0f7a4_61 rfl hl (by decide) rfl (fun ls hl => ?_)
    exact (db_J6_numberOfTrailingZeros_0f7a4_62 C K) (z10) (z9) s0 _ _ _ h hP hD hS (lv_sub hl [0, 1] rfl)
set_option maxHeartbeats 40000000 in
set_option maxRecDepth 100000 in
theorem db_J6_numberOfTrailingZeros_0f7a4_34 {p : Program} {l : Launch} {e : Env} {s : State} {m : MethodId} {args : Array Value} {below : List Frame} {meth : Method} {c : Code} {Q : State → Prop} {A : Nat → Prop} {dC : Nat → ClassId} {dI : Nat → Nat → Nat} {a : Nat → Nat} {ac : Nat → ClassId} {n : Nat} {r : Int32 × (Unit)} (C : nd_C p l s m args c A (dC, dI) cJ6_numberOfTrailingZeros_0f7a4 2 RJ6 ow_dm_J6_numberOfTrailingZeros_0f7a4 (dk_P ac)) (K : nd_Ki p l e (headSpec ow_dm_J6_numberOfTrailingZeros_0f7a4 ({ frames := 0, cells := 0, slots := 0, locals := 0 })).room s m args below meth c Q A (dC, dI) cJ6_numberOfTrailingZeros_0f7a4 .int (Unit) (dw_P a ac) r) : dj_J6_numberOfTrailingZeros_0f7a4_34 p l e s m args below meth c Q A dC dI a ac (df_J6_numberOfTrailingZeros_0f7a4_34 n) r := by
  obtain ⟨hlt, hx, hb, hml, hown, hts, hN, hA, hK⟩ := id C
  intro x0 x1 s0 H locs ls h hP hD hS hl
  unfold df_J6_numberOfTrailingZeros_0f7a4_34 at h
  refine lv_iload_n hx hb dJ6_numberOfTrailingZeros_0f7a4_34 rfl (lv_at hl 0 rfl) ?_
  refine lv_sipush (v := 256) hx hb dJ6_numberOfTrailingZeros_0f7a4_35 (by decide) ?_
  refine lv_icmp_le (tgt := 49) hx hb dJ6_numberOfTrailingZeros_0f7a4_38 (by decide) (fun c4 => ?_) (fun c4 => ?_)
  · have h := nd_pos h c4
    exact (db_J6_numberOfTrailingZeros_0f7a4_49 C K) (x0) (x1) s0 _ _ _ h hP hD hS (lv_sub hl [0, 1] rfl)
  · have h := nd_neg h c4
    obtain ⟨z11, ez11, h⟩ := nd_let_e h
    refine lv_iinc (v := z11) (lv' := [(1, .int z11), (0, .int x0)]) hx hb dJ6_numberOfTrailingZeros_0f7a4_41 hl (k := 1) rfl (by rw [ez11]) (by decide) rfl (fun ls hl => ?_)
    refine lv_iload_n hx hb dJ6_numberOfTrailingZeros_0f7a4_44 rfl (lv_at hl 1 rfl) ?_
    refine lv_bipush (v := 8) hx hb dJ6_numberOfTrailingZeros_0f7a4_45 (by decide) ?_
    refine lv_iushr hx hb dJ6_numberOfTrailingZeros_0f7a4_47 rfl ?_
    refine lv_topi (fun z12 ez12 => ?_)
    have h := nd_at h ez12
    refine lv_istore_n (lv' := [(0, .int z12), (1, .int z11)]) hx hb dJ6_numberOfTrailingZeros_0f7a4_48 rfl hl (by decide) rfl (fun ls hl => ?_)
    exact (db_J6_numberOfTrailingZeros_0f7a4_49 C K) (z12) (z11) s0 _ _ _ h hP hD hS (lv_sub hl [0, 1] rfl)
set_option maxHeartbeats 40000000 in
set_option maxRecDepth 100000 in
theorem db_J6_numberOfTrailingZeros_0f7a4_0 {p : Program} {l : Launch} {e : Env} {s : State} {m : MethodId} {args : Array Value} {below : List Frame} {meth : Method} {c : Code} {Q : State → Prop} {A : Nat → Prop} {dC : Nat → ClassId} {dI : Nat → Nat → Nat} {a : Nat → Nat} {ac : Nat → ClassId} {n : Nat} {r : Int32 × (Unit)} (C : nd_C p l s m args c A (dC, dI) cJ6_numberOfTrailingZeros_0f7a4 2 RJ6 ow_dm_J6_numberOfTrailingZeros_0f7a4 (dk_P ac)) (K : nd_Ki p l e (headSpec ow_dm_J6_numberOfTrailingZeros_0f7a4 ({ frames := 0, cells := 0, slots := 0, locals := 0 })).room s m args below meth c Q A (dC, dI) cJ6_numberOfTrailingZeros_0f7a4 .int (Unit) (dw_P a ac) r) : dj_J6_numberOfTrailingZeros_0f7a4_0 p l e s m args below meth c Q A dC dI a ac (df_J6_numberOfTrailingZeros_0f7a4_0 n) r := by
  obtain ⟨hlt, hx, hb, hml, hown, hts, hN, hA, hK⟩ := id C
  intro v0 s0 H locs ls h hP hD hS hl
  unfold df_J6_numberOfTrailingZeros_0f7a4_0 at h
  refine lv_iload_n hx hb dJ6_numberOfTrailingZeros_0f7a4_0 rfl (lv_at hl 0 rfl) ?_
  refine lv_iconst (v := (-1)) hx hb dJ6_numberOfTrailingZeros_0f7a4_1 (by decide) ?_
  refine lv_ixor hx hb dJ6_numberOfTrailingZeros_0f7a4_2 ?_
  refine lv_iload_n hx hb dJ6_numberOfTrailingZeros_0f7a4_3 rfl (lv_at hl 0 rfl) ?_
  refine lv_iconst (v := 1) hx hb dJ6_numberOfTrailingZeros_0f7a4_4 (by decide) ?_
  refine lv_isub hx hb dJ6_numberOfTrailingZeros_0f7a4_5 ?_
  refine lv_iand hx hb dJ6_numberOfTrailingZeros_0f7a4_6 ?_
  refine lv_topi (fun z1 ez1 => ?_)
  have h := nd_at h ez1
  refine lv_istore_n (lv' := [(0, .int z1)]) hx hb dJ6_numberOfTrailingZeros_0f7a4_7 rfl hl (by decide) rfl (fun ls hl => ?_)
  refine lv_iload_n hx hb dJ6_numberOfTrailingZeros_0f7a4_8 rfl (lv_at hl 0 rfl) ?_
  refine lv_if_gt (tgt := 17) hx hb dJ6_numberOfTrailingZeros_0f7a4_9 (by decide) (fun c2 => ?_) (fun c2 => ?_)
  · have h := nd_pos h c2
    refine lv_iconst (v := 1) hx hb dJ6_numberOfTrailingZeros_0f7a4_17 (by decide) ?_
    refine lv_istore_n (lv' := [(1, .int 1), (0, .int z1)]) hx hb dJ6_numberOfTrailingZeros_0f7a4_18 rfl hl (by decide) rfl (fun ls hl => ?_)
    refine lv_iload_n hx hb dJ6_numberOfTrailingZeros_0f7a4_19 rfl (lv_at hl 1 rfl) ?_
    refine lv_ldcw hx hb hown (hts (.constant RJ6 264 (65536)) (List.mem_of_getElem? (i := 1) rfl)) dJ6_numberOfTrailingZeros_0f7a4_20 ?_
    refine lv_icmp_le (tgt := 34) hx hb dJ6_numberOfTrailingZeros_0f7a4_23 (by decide) (fun c3 => ?_) (fun c3 => ?_)
    · have h := nd_pos h c3
      exact (db_J6_numberOfTrailingZeros_0f7a4_34 C K) (z1) (1) s0 _ _ _ h hP hD hS (lv_sub hl [1, 0] rfl)
    · have h := nd_neg h c3
      refine lv_iinc (v := 17) (lv' := [(1, .int 17), (0, .int z1)]) hx hb dJ6_numberOfTrailingZeros_0f7a4_26 hl (k := 0) rfl (by decide) (by decide) rfl (fun ls hl => ?_)
      refine lv_iload_n hx hb dJ6_numberOfTrailingZeros_0f7a4_29 rfl (lv_at hl 1 rfl) ?_
      refine lv_bipush (v := 16) hx hb dJ6_numberOfTrailingZeros_0f7a4_30 (by decide) ?_
      refine lv_iushr hx hb dJ6_numberOfTrailingZeros_0f7a4_32 rfl ?_
      refine lv_topi (fun z13 ez13 => ?_)
      have h := nd_at h ez13
      refine lv_istore_n (lv' := [(0, .int z13), (1, .int 17)]) hx hb dJ6_numberOfTrailingZeros_0f7a4_33 rfl hl (by decide) rfl (fun ls hl => ?_)
      exact (db_J6_numberOfTrailingZeros_0f7a4_34 C K) (z13) (17) s0 _ _ _ h hP hD hS (lv_sub hl [0, 1] rfl)
  · have h := nd_neg h c2
    refine lv_iload_n hx hb dJ6_numberOfTrailingZeros_0f7a4_12 rfl (lv_at hl 0 rfl) ?_
    refine lv_bipush (v := 32) hx hb dJ6_numberOfTrailingZeros_0f7a4_13 (by decide) ?_
    refine lv_iand hx hb dJ6_numberOfTrailingZeros_0f7a4_15 ?_
    exact K _ _ _ _ _ _ dJ6_numberOfTrailingZeros_0f7a4_16 rfl (Option.some.inj h).symm hP hD hS
set_option maxHeartbeats 40000000 in
set_option maxRecDepth 100000 in
theorem dm_J6_numberOfTrailingZeros_0f7a4 (l : Launch) (hlt : l.stackTraces = false) (dC : Nat → ClassId) (dI : Nat → Nat → Nat) (a : Nat → Nat) (ac : Nat → ClassId) (n : Nat) (v0 : Int32) (s0 : Unit) {r : Int32 × (Unit)} (h : df_J6_numberOfTrailingZeros_0f7a4 n v0 s0 = some r) (sz : Nat) : Met l yJ6_numberOfTrailingZeros_0f7a4 ow_dm_J6_numberOfTrailingZeros_0f7a4 ({ frames := 0, cells := 0, slots := 0, locals := 0 }) (va_Pc [.int v0] (fun U => U.heap.size = sz ∧ va_P (dC, dI) vwCl (dw_P a ac s0) U.heap ∧ va_K (dC, dI) vwCl (dk_P ac) U ∧ va_D (fun _ => True) (dw_P a ac s0) ∧ nv_E dI (va_A (dw_P a ac s0) sz) U)) (va_Qi (fun x _ => x = r.1) (fun (_ : Unit) t => va_P (dC, dI) vwCl (dw_P a ac r.2) t.heap ∧ va_K (dC, dI) vwCl (dk_P ac) t ∧ va_D (va_A (dw_P a ac s0) sz) (dw_P a ac r.2)) (va_A (dw_P a ac s0) sz)) 0 0 (va_A (dw_P a ac s0) sz) := by
  refine Met.ofW (cc := cJ6_numberOfTrailingZeros_0f7a4) (maxL := 2) (ret := (some .int)) (by decide) rfl ?_
  intro p e s m args below meth c s₁ B hml hv
  obtain ⟨rfl, hsz, hP, hK, hD0, hN⟩ := hv
  have hx := B.exec
  have hb := B.bytes
  have hr := B.returns
  have hts := atoms_spec (ws := ow_dm_J6_numberOfTrailingZeros_0f7a4) B.pre
  have hown : s.vm.findClass RJ6 = some m.cls := findClass_of_methodNamed B.named
  have hlocks := B.notSynchronized
  subst hsz
  have hD := hD0.self (sz := s.heap.size)
  generalize hAe : va_A (dw_P a ac s0) s.heap.size = A at hD hN ⊢
  have hA : ∀ q : Nat, s.heap.size ≤ q → A q := fun q h => by rw [← hAe]; exact Or.inr h
  have hl := lv_entry ([.int v0]) (n := 2) (Nat.le_of_ble_eq_true rfl)
  rw [lg_entry_eq]
  generalize (lg_sl ([.int v0]) ++ List.replicate (2 - (lg_sl ([.int v0])).length) Slot.unset).toArray = ls at hl ⊢
  have hl : lv_has ls 2 [(0, .int v0)] := hl
  exact db_J6_numberOfTrailingZeros_0f7a4_0 (dC := dC) (dI := dI) (a := a) (ac := ac) (n := n) (r := r) ⟨hlt, hx, hb, hml, hown, hts, hN, hA, hK⟩ (fun pc v τ H locs ls d z er hP hD hS => by subst er; exact W.zret (v := v) hx hb hr z (fun t ht hW => ⟨⟨v, (), rfl, rfl, by rw [ht]; exact hP, va_K.moved hW.alike hK, hD⟩, hS.F ht⟩) hS.2.2 d) v0 s0 _ _ _ h hP hD va_S.rf (lv_sub hl [0] rfl)

