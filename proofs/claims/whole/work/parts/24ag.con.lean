set_option maxHeartbeats 40000000 in
set_option maxRecDepth 100000 in
theorem db_X10_openingsFree_22 {p : Program} {l : Launch} {e : Env} {s : State} {m : MethodId} {args : Array Value} {below : List Frame} {meth : Method} {c : Code} {Q : State → Prop} {A : Nat → Prop} {dC : Nat → ClassId} {dI : Nat → Nat → Nat} {a : Nat → Nat} {ac : Nat → ClassId} {n : Nat} {r : Int32 × (St)} (C : nd_C p l s m args c A (dC, dI) cX10_openingsFree 3 RX10 ow_dm_X10_openingsFree (dk_X10 ac)) (K : nd_Ki p l e (headSpec ow_dm_X10_openingsFree ({ frames := 1, cells := 0, slots := 0, locals := 22 })).room s m args below meth c Q A (dC, dI) cX10_openingsFree .int (St) (dw_X10 a ac) r) {g4 : Int32 → Int32 → (St) → Option (Int32 × (St))} (J4 : dj_X10_openingsFree_4 p l e s m args below meth c Q A dC dI a ac g4 r) : dj_X10_openingsFree_22 p l e s m args below meth c Q A dC dI a ac (df_X10_openingsFree_22 n g4) r := by
  obtain ⟨hlt, hx, hb, hml, hown, hts, hN, hA, hK⟩ := id C
  intro x1 x2 s0 H locs ls h hP hD hS hl
  unfold df_X10_openingsFree_22 at h
  obtain ⟨z6, ez6, h⟩ := nd_let_e h
  refine lv_iinc (v := z6) (lv' := [(2, .int z6), (0, .ref (a 0)), (1, .int x1)]) hx hb dX10_openingsFree_22 hl (k := 2) rfl (by rw [ez6]) (by decide) rfl (fun ls hl => ?_)
  refine lv_goto (tgt := 4) hx hb dX10_openingsFree_25 (by decide) ?_
  exact (J4) (x1) (z6) s0 _ _ _ h hP hD hS (lv_sub hl [1, 2, 0] rfl)
set_option maxHeartbeats 40000000 in
set_option maxRecDepth 100000 in
theorem dB_X10_openingsFree_4 {p : Program} {l : Launch} {e : Env} {s : State} {m : MethodId} {args : Array Value} {below : List Frame} {meth : Method} {c : Code} {Q : State → Prop} {A : Nat → Prop} {dC : Nat → ClassId} {dI : Nat → Nat → Nat} {a : Nat → Nat} {ac : Nat → ClassId} {n : Nat} {r : Int32 × (St)} (C : nd_C p l s m args c A (dC, dI) cX10_openingsFree 3 RX10 ow_dm_X10_openingsFree (dk_X10 ac)) (K : nd_Ki p l e (headSpec ow_dm_X10_openingsFree ({ frames := 1, cells := 0, slots := 0, locals := 22 })).room s m args below meth c Q A (dC, dI) cX10_openingsFree .int (St) (dw_X10 a ac) r) {g4 : Int32 → Int32 → (St) → Option (Int32 × (St))} (J4 : dj_X10_openingsFree_4 p l e s m args below meth c Q A dC dI a ac g4 r) : dj_X10_openingsFree_4 p l e s m args below meth c Q A dC dI a ac (dF_X10_openingsFree_4 n g4) r := by
  obtain ⟨hlt, hx, hb, hml, hown, hts, hN, hA, hK⟩ := id C
  intro x1 x2 s0 H locs ls h hP hD hS hl
  unfold dF_X10_openingsFree_4 at h
  refine lv_iload_n hx hb dX10_openingsFree_4 rfl (lv_at hl 2 rfl) ?_
  refine lv_bipush (v := 48) hx hb dX10_openingsFree_5 (by decide) ?_
  refine lv_icmp_ge (tgt := 28) hx hb dX10_openingsFree_7 (by decide) (fun c1 => ?_) (fun c1 => ?_)
  · have h := nd_pos h c1
    refine lv_iload_n hx hb dX10_openingsFree_28 rfl (lv_at hl 1 rfl) ?_
    exact K _ _ _ _ _ _ dX10_openingsFree_29 rfl (Option.some.inj h).symm hP hD hS
  · have h := nd_neg h c1
    refine lv_aload_n hx hb dX10_openingsFree_10 rfl (lv_at hl 0 rfl) ?_
    refine lv_iload_n hx hb dX10_openingsFree_11 rfl (lv_at hl 2 rfl) ?_
    refine lv_iconst (v := 0) hx hb dX10_openingsFree_12 (by decide) ?_
    obtain ⟨q2, s3, hq, h⟩ := nd_b2_e h
    have hPc := hP
    have hDc := hD
    have hKc := hK
    have hFc := nd_rs hD hS hA
    refine nd_cVi (As := [.int x2, .int 0]) (rest := []) (q := q2) (w' := dw_X10 a ac s3) ⟨hx, hb, hml, hown, hts⟩ (fun sz => dm_X10_of l hlt dC dI a ac n (x2) (0) s0 hq sz) (cwV 2 hts gi_dm_X10_openingsFree_0 rfl rfl rfl (by decide +kernel) ⟨Nat.le_of_ble_eq_true rfl, Nat.le_of_ble_eq_true rfl⟩) hPc hDc hKc hS hA hN (va_recv hKc hPc (ci := 11) (q0 := 0) rfl rfl) rfl hl.1 rfl (Nat.le_of_ble_eq_true rfl) dX10_openingsFree_13 (fun H locs hP1 hD1 hk1 hS => ?_)
    have hP := hP1
    have hD := hD1.weaken (fun k q _ h => hFc q.1 h)
    refine lv_if_ne (tgt := 22) hx hb dX10_openingsFree_16 (by decide) (fun c5 => ?_) (fun c5 => ?_)
    · have h := nd_neg h c5
      exact (db_X10_openingsFree_22 C K J4) (x1) (x2) s3 _ _ _ h hP hD hS (lv_sub hl [0, 1, 2] rfl)
    · have h := nd_pos h c5
      obtain ⟨z7, ez7, h⟩ := nd_let_e h
      refine lv_iinc (v := z7) (lv' := [(1, .int z7), (0, .ref (a 0)), (2, .int x2)]) hx hb dX10_openingsFree_19 hl (k := 1) rfl (by rw [ez7]) (by decide) rfl (fun ls hl => ?_)
      exact (db_X10_openingsFree_22 C K J4) (z7) (x2) s3 _ _ _ h hP hD hS (lv_sub hl [1, 0, 2] rfl)
set_option maxHeartbeats 40000000 in
set_option maxRecDepth 100000 in
theorem db_X10_openingsFree_4 {p : Program} {l : Launch} {e : Env} {s : State} {m : MethodId} {args : Array Value} {below : List Frame} {meth : Method} {c : Code} {Q : State → Prop} {A : Nat → Prop} {dC : Nat → ClassId} {dI : Nat → Nat → Nat} {a : Nat → Nat} {ac : Nat → ClassId} {n : Nat} {r : Int32 × (St)} (C : nd_C p l s m args c A (dC, dI) cX10_openingsFree 3 RX10 ow_dm_X10_openingsFree (dk_X10 ac)) (K : nd_Ki p l e (headSpec ow_dm_X10_openingsFree ({ frames := 1, cells := 0, slots := 0, locals := 22 })).room s m args below meth c Q A (dC, dI) cX10_openingsFree .int (St) (dw_X10 a ac) r) (k : Nat) : dj_X10_openingsFree_4 p l e s m args below meth c Q A dC dI a ac (df_X10_openingsFree_4 n k) r := by
  induction k with
  | zero => intro x1 x2 s0 H locs ls h; exact nomatch (show (none : Option (Int32 × (St))) = some r from h)
  | succ k ih => exact dB_X10_openingsFree_4 C K ih
set_option maxHeartbeats 40000000 in
set_option maxRecDepth 100000 in
theorem db_X10_openingsFree_0 {p : Program} {l : Launch} {e : Env} {s : State} {m : MethodId} {args : Array Value} {below : List Frame} {meth : Method} {c : Code} {Q : State → Prop} {A : Nat → Prop} {dC : Nat → ClassId} {dI : Nat → Nat → Nat} {a : Nat → Nat} {ac : Nat → ClassId} {n : Nat} {r : Int32 × (St)} (C : nd_C p l s m args c A (dC, dI) cX10_openingsFree 3 RX10 ow_dm_X10_openingsFree (dk_X10 ac)) (K : nd_Ki p l e (headSpec ow_dm_X10_openingsFree ({ frames := 1, cells := 0, slots := 0, locals := 22 })).room s m args below meth c Q A (dC, dI) cX10_openingsFree .int (St) (dw_X10 a ac) r) : dj_X10_openingsFree_0 p l e s m args below meth c Q A dC dI a ac (df_X10_openingsFree_0 n) r := by
  obtain ⟨hlt, hx, hb, hml, hown, hts, hN, hA, hK⟩ := id C
  intro s0 H locs ls h hP hD hS hl
  unfold df_X10_openingsFree_0 at h
  refine lv_iconst (v := 0) hx hb dX10_openingsFree_0 (by decide) ?_
  refine lv_istore_n (lv' := [(1, .int 0), (0, .ref (a 0))]) hx hb dX10_openingsFree_1 rfl hl (by decide) rfl (fun ls hl => ?_)
  refine lv_iconst (v := 0) hx hb dX10_openingsFree_2 (by decide) ?_
  refine lv_istore_n (lv' := [(2, .int 0), (1, .int 0), (0, .ref (a 0))]) hx hb dX10_openingsFree_3 rfl hl (by decide) rfl (fun ls hl => ?_)
  exact (db_X10_openingsFree_4 C K n) (0) (0) s0 _ _ _ h hP hD hS (lv_sub hl [2, 1, 0] rfl)
set_option maxHeartbeats 40000000 in
set_option maxRecDepth 100000 in
theorem dm_X10_openingsFree (l : Launch) (hlt : l.stackTraces = false) (dC : Nat → ClassId) (dI : Nat → Nat → Nat) (a : Nat → Nat) (ac : Nat → ClassId) (n : Nat) (s0 : St) {r : Int32 × (St)} (h : df_X10_openingsFree n s0 = some r) (sz : Nat) : Met l yX10_openingsFree ow_dm_X10_openingsFree ({ frames := 1, cells := 0, slots := 0, locals := 22 }) (va_Pc [.ref (a 0)] (fun U => U.heap.size = sz ∧ va_P (dC, dI) vwCl (dw_X10 a ac s0) U.heap ∧ va_K (dC, dI) vwCl (dk_X10 ac) U ∧ va_D (fun _ => True) (dw_X10 a ac s0) ∧ nv_E (va_A (dw_X10 a ac s0) sz) U)) (va_Qi (fun x _ => x = r.1) (fun (_ : Unit) t => va_P (dC, dI) vwCl (dw_X10 a ac r.2) t.heap ∧ va_K (dC, dI) vwCl (dk_X10 ac) t ∧ va_D (va_A (dw_X10 a ac s0) sz) (dw_X10 a ac r.2)) (va_A (dw_X10 a ac s0) sz)) 0 0 (va_A (dw_X10 a ac s0) sz) := by
  refine Met.ofW (cc := cX10_openingsFree) (maxL := 3) (ret := (some .int)) (by decide) rfl ?_
  intro p e s m args below meth c s₁ B hml hv
  obtain ⟨rfl, hsz, hP, hK, hD0, hN⟩ := hv
  have hx := B.exec
  have hb := B.bytes
  have hr := B.returns
  have hts := atoms_spec (ws := ow_dm_X10_openingsFree) B.pre
  have hown : s.vm.findClass RX10 = some m.cls := findClass_of_methodNamed B.named
  have hlocks := B.notSynchronized
  subst hsz
  have hD := hD0.self (sz := s.heap.size)
  generalize hAe : va_A (dw_X10 a ac s0) s.heap.size = A at hD hN ⊢
  have hA : ∀ q : Nat, s.heap.size ≤ q → A q := fun q h => by rw [← hAe]; exact Or.inr h
  have hl := lv_entry ([.ref (a 0)]) (n := 3) (Nat.le_of_ble_eq_true rfl)
  rw [lg_entry_eq]
  generalize (lg_sl ([.ref (a 0)]) ++ List.replicate (3 - (lg_sl ([.ref (a 0)])).length) Slot.unset).toArray = ls at hl ⊢
  have hl : lv_has ls 3 [(0, .ref (a 0))] := hl
  exact db_X10_openingsFree_0 (dC := dC) (dI := dI) (a := a) (ac := ac) (n := n) (r := r) ⟨hlt, hx, hb, hml, hown, hts, hN, hA, hK⟩ (fun pc v τ H locs ls d z er hP hD hS => by subst er; exact W.zret (v := v) hx hb hr z (fun t ht hW => ⟨⟨v, (), rfl, rfl, by rw [ht]; exact hP, va_K.moved hW.alike hK, hD⟩, hS.F ht⟩) hS.2.2 d) s0 _ _ _ h hP hD va_S.rf (lv_sub hl [0] rfl)
def ow_dm_X10_close : List Cond := .code yX10_close cX10_close 4 none :: ([.methodLink RX10 80 yX10_openingOf, .instanceMethod yX10_openingOf, .selects RX10 yX10_openingOf yX10_openingOf, .initialized RX10, .fieldLink RX10 11 "TimeMachine$Things" "link" "[I", .fieldLink RX10 15 "TimeMachine$Things" "opening" "[I", .methodLink RX10 74 yX10_of, .instanceMethod yX10_of, .selects RX10 yX10_of yX10_of, .methodLink RX10 77 yX10_hold, .instanceMethod yX10_hold, .selects RX10 yX10_hold yX10_hold] ++ (u_ws RX10 TX10 11 ++ (ow_dm_X10_openingOf ++ (ow_dm_X10_of ++ (ow_dm_X10_hold ++ [])))))
theorem gd_dm_X10_close : ∀ w ∈ ow_dm_X10_close, (w.onTables && w.keeps) = true ∨ ∃ ty, w = Cond.arrayClass ty := List.forall_mem_cons.mpr ⟨good_of_word rfl, List.forall_mem_append.mpr ⟨fun w h => good_of_word (List.all_eq_true.mp (by decide +kernel) w h), List.forall_mem_append.mpr ⟨gu_X10, List.forall_mem_append.mpr ⟨gd_dm_X10_openingOf, List.forall_mem_append.mpr ⟨gd_dm_X10_of, List.forall_mem_append.mpr ⟨gd_dm_X10_hold, fun _ h => nomatch h⟩⟩⟩⟩⟩⟩
theorem hi_dm_X10_close_X10 : ∀ w ∈ u_ws RX10 TX10 11, w ∈ ow_dm_X10_close := fun w h => List.mem_cons_of_mem _ (List.mem_append_right _ (List.mem_append_left _ h))
theorem gi_dm_X10_close_0 : GoodIn ow_dm_X10_close (wsV RX10 80 RX10 yX10_openingOf ow_dm_X10_openingOf) := goodIn_app (goodIn_of _ (by decide +kernel)) (fun w h => ⟨List.mem_cons_of_mem _ (List.mem_append_right _ (List.mem_append_right _ (List.mem_append_left _ h))), gd_dm_X10_openingOf w h⟩)
theorem gi_dm_X10_close_1 : GoodIn ow_dm_X10_close (wsV RX10 74 RX10 yX10_of ow_dm_X10_of) := goodIn_app (goodIn_of _ (by decide +kernel)) (fun w h => ⟨List.mem_cons_of_mem _ (List.mem_append_right _ (List.mem_append_right _ (List.mem_append_right _ (List.mem_append_left _ h)))), gd_dm_X10_of w h⟩)
theorem gi_dm_X10_close_2 : GoodIn ow_dm_X10_close (wsV RX10 77 RX10 yX10_hold ow_dm_X10_hold) := goodIn_app (goodIn_of _ (by decide +kernel)) (fun w h => ⟨List.mem_cons_of_mem _ (List.mem_append_right _ (List.mem_append_right _ (List.mem_append_right _ (List.mem_append_right _ (List.mem_append_left _ h))))), gd_dm_X10_hold w h⟩)
def dj_X10_close_74 (p : Program) (l : Launch) (e : Env) (s : State) (m : MethodId) (args : Array Value) (below : List Frame) (meth : Method) (c : Code) (Q : State → Prop) (A : Nat → Prop) (dC : Nat → ClassId) (dI : Nat → Nat → Nat) (a : Nat → Nat) (ac : Nat → ClassId) (g : (St) → Option (St)) (r : St) : Prop := ∀ (s0 : St) (H : Heap) (locs : List Loc) (ls : Array Slot), g s0 = some r → va_P (dC, dI) vwCl (dw_X10 a ac s0) H → va_D A (dw_X10 a ac s0) → va_S A s.heap H locs → lv_has ls 4 [] → W p l e (headSpec ow_dm_X10_close ({ frames := 1, cells := 0, slots := 0, locals := 23 })).room s m args below meth c H locs 0 0 Q (F0 m 74 ls [])
def dj_X10_close_0 (p : Program) (l : Launch) (e : Env) (s : State) (m : MethodId) (args : Array Value) (below : List Frame) (meth : Method) (c : Code) (Q : State → Prop) (A : Nat → Prop) (dC : Nat → ClassId) (dI : Nat → Nat → Nat) (a : Nat → Nat) (ac : Nat → ClassId) (g : Int32 → Int32 → (St) → Option (St)) (r : St) : Prop := ∀ (v0 : Int32) (v1 : Int32) (s0 : St) (H : Heap) (locs : List Loc) (ls : Array Slot), g v0 v1 s0 = some r → va_P (dC, dI) vwCl (dw_X10 a ac s0) H → va_D A (dw_X10 a ac s0) → va_S A s.heap H locs → lv_has ls 4 [(0, .ref (a 0)), (1, .int v0), (2, .int v1)] → W p l e (headSpec ow_dm_X10_close ({ frames := 1, cells := 0, slots := 0, locals := 23 })).room s m args below meth c H locs 0 0 Q (F0 m 0 ls [])
set_option maxHeartbeats 40000000 in
set_option maxRecDepth 100000 in
theorem db_X10_close_74 {p : Program} {l : Launch} {e : Env} {s : State} {m : MethodId} {args : Array Value} {below : List Frame} {meth : Method} {c : Code} {Q : State → Prop} {A : Nat → Prop} {dC : Nat → ClassId} {dI : Nat → Nat → Nat} {a : Nat → Nat} {ac : Nat → ClassId} {n : Nat} {r : St} (C : nd_C p l s m args c A (dC, dI) cX10_close 4 RX10 ow_dm_X10_close (dk_X10 ac)) (K : nd_Kv p l e (headSpec ow_dm_X10_close ({ frames := 1, cells := 0, slots := 0, locals := 23 })).room s m args below meth c Q A (dC, dI) cX10_close (St) (dw_X10 a ac) r) : dj_X10_close_74 p l e s m args below meth c Q A dC dI a ac (df_X10_close_74 n) r := by
  obtain ⟨hlt, hx, hb, hml, hown, hts, hN, hA, hK⟩ := id C
  intro s0 H locs ls h hP hD hS hl
  unfold df_X10_close_74 at h
  exact K _ _ _ _ _ dX10_close_74 (Option.some.inj h).symm hP hD hS
set_option maxHeartbeats 40000000 in
set_option maxRecDepth 100000 in
theorem db_X10_close_0 {p : Program} {l : Launch} {e : Env} {s : State} {m : MethodId} {args : Array Value} {below : List Frame} {meth : Method} {c : Code} {Q : State → Prop} {A : Nat → Prop} {dC : Nat → ClassId} {dI : Nat → Nat → Nat} {a : Nat → Nat} {ac : Nat → ClassId} {n : Nat} {r : St} (C : nd_C p l s m args c A (dC, dI) cX10_close 4 RX10 ow_dm_X10_close (dk_X10 ac)) (K : nd_Kv p l e (headSpec ow_dm_X10_close ({ frames := 1, cells := 0, slots := 0, locals := 23 })).room s m args below meth c Q A (dC, dI) cX10_close (St) (dw_X10 a ac) r) : dj_X10_close_0 p l e s m args below meth c Q A dC dI a ac (df_X10_close_0 n) r := by
  obtain ⟨hlt, hx, hb, hml, hown, hts, hN, hA, hK⟩ := id C
  intro v0 v1 s0 H locs ls h hP hD hS hl
  unfold df_X10_close_0 at h
  refine lv_aload_n hx hb dX10_close_0 rfl (lv_at hl 0 rfl) ?_
  refine lv_iload_n hx hb dX10_close_1 rfl (lv_at hl 1 rfl) ?_
  refine lv_iload_n hx hb dX10_close_2 rfl (lv_at hl 2 rfl) ?_
  obtain ⟨q1, s2, hq, h⟩ := nd_b2_e h
  have hPc := hP
  have hDc := hD
  have hKc := hK
  have hFc := nd_rs hD hS hA
  refine nd_cVi (As := [.int v0, .int v1]) (rest := []) (q := q1) (w' := dw_X10 a ac s2) ⟨hx, hb, hml, hown, hts⟩ (fun sz => dm_X10_openingOf l hlt dC dI a ac n (v0) (v1) s0 hq sz) (cwV 2 hts gi_dm_X10_close_0 rfl rfl rfl (by decide +kernel) ⟨Nat.le_of_ble_eq_true rfl, Nat.le_of_ble_eq_true rfl⟩) hPc hDc hKc hS hA hN (va_recv hKc hPc (ci := 11) (q0 := 0) rfl rfl) rfl hl.1 rfl (Nat.le_of_ble_eq_true rfl) dX10_close_3 (fun H locs hP1 hD1 hk1 hS => ?_)
  have hP := hP1
  have hD := hD1.weaken (fun k q _ h => hFc q.1 h)
  refine lv_istore_n (lv' := [(3, .int q1), (0, .ref (a 0)), (1, .int v0), (2, .int v1)]) hx hb dX10_close_6 rfl hl (by decide) rfl (fun ls hl => ?_)
  refine lv_iload_n hx hb dX10_close_7 rfl (lv_at hl 0 rfl) ?_
  refine lv_if_lt (tgt := 74) hx hb dX10_close_8 (by decide) (fun c4 => ?_) (fun c4 => ?_)
  · have h := nd_pos h c4
    exact (db_X10_close_74 C K)  s2 _ _ _ h hP hD hS (lv_sub hl [] rfl)
  · have h := nd_neg h c4
    refine lv_aload_n hx hb dX10_close_11 rfl (lv_at hl 1 rfl) ?_
    refine va_get (D := (dC, dI)) (ci := 11) (v := .ref (a 1)) (C := RX10) (T := TX10) (N := 11) hx hb hts hi_dm_X10_close_X10 hown hK hP 0 rfl rfl 0 (by decide) (hts (.fieldLink RX10 11 "TimeMachine$Things" "link" "[I") (List.mem_of_getElem? (i := 5) rfl)) (fun _ h9 => h9) rfl dX10_close_12 ?_
    refine lv_iload_n hx hb dX10_close_15 rfl (lv_at hl 2 rfl) ?_
    refine lv_bipush (v := 16) hx hb dX10_close_16 (by decide) ?_
    refine lv_imul hx hb dX10_close_18 ?_
    refine lv_iload_n hx hb dX10_close_19 rfl (lv_at hl 3 rfl) ?_
    refine lv_iadd hx hb dX10_close_20 ?_
    refine lv_iconst (v := 0) hx hb dX10_close_21 (by decide) ?_
    obtain ⟨i5, h⟩ := nd_ck_e h
    refine va_iast (i := ((v0 * 16) + v1)) (x := 0) hx hb hK hP hD hS 1 0 rfl rfl i5 dX10_close_22 (fun H locs hP hD hS => ?_)
    obtain ⟨s6, es6, h⟩ := nd_let_e h
    have hP : va_P (dC, dI) vwCl (dw_X10 a ac s6) H := by rw [es6]; exact hP
    have hD : va_D A (dw_X10 a ac s6) := by rw [es6]; exact hD
    refine lv_aload_n hx hb dX10_close_23 rfl (lv_at hl 1 rfl) ?_
    refine va_get (D := (dC, dI)) (ci := 11) (v := .ref (a 2)) (C := RX10) (T := TX10) (N := 11) hx hb hts hi_dm_X10_close_X10 hown hK hP 0 rfl rfl 1 (by decide) (hts (.fieldLink RX10 15 "TimeMachine$Things" "opening" "[I") (List.mem_of_getElem? (i := 6) rfl)) (fun _ h9 => h9) rfl dX10_close_24 ?_
    refine lv_iload_n hx hb dX10_close_27 rfl (lv_at hl 0 rfl) ?_
    refine lv_iconst (v := 5) hx hb dX10_close_28 (by decide) ?_
    refine lv_imul hx hb dX10_close_29 ?_
    refine lv_iconst (v := 1) hx hb dX10_close_30 (by decide) ?_
    refine lv_iadd hx hb dX10_close_31 ?_
    refine lv_dup2_11 hx hb dX10_close_32 rfl rfl ?_
    obtain ⟨i7, h⟩ := nd_ck_e h
    refine va_iald (i := ((q1 * 5) + 1)) hx hb hK hP 2 1 rfl rfl i7 dX10_close_33 ?_
    refine lv_iconst (v := 1) hx hb dX10_close_34 (by decide) ?_
    refine lv_isub hx hb dX10_close_35 ?_
    obtain ⟨i8, h⟩ := nd_ck_e h
    refine va_iast (i := ((q1 * 5) + 1)) (x := ((sR s6 1 (Int32.toNatClampNeg ((q1 * 5) + 1))) - 1)) hx hb hK hP hD hS 2 1 rfl rfl i8 dX10_close_36 (fun H locs hP hD hS => ?_)
    obtain ⟨s9, es9, h⟩ := nd_let_e h
    have hP : va_P (dC, dI) vwCl (dw_X10 a ac s9) H := by rw [es9]; exact hP
    have hD : va_D A (dw_X10 a ac s9) := by rw [es9]; exact hD
    refine lv_aload_n hx hb dX10_close_37 rfl (lv_at hl 1 rfl) ?_
    refine lv_iload_n hx hb dX10_close_38 rfl (lv_at hl 0 rfl) ?_
    refine lv_iconst (v := 1) hx hb dX10_close_39 (by decide) ?_
    obtain ⟨q10, s11, hq, h⟩ := nd_b2_e h
    have hPc := hP
    have hDc := hD
    have hKc := hK
    have hFc := nd_rs hD hS hA
    refine nd_cVi (As := [.int q1, .int 1]) (rest := []) (q := q10) (w' := dw_X10 a ac s11) ⟨hx, hb, hml, hown, hts⟩ (fun sz => dm_X10_of l hlt dC dI a ac n (q1) (1) s9 hq sz) (cwV 2 hts gi_dm_X10_close_1 rfl rfl rfl (by decide +kernel) ⟨Nat.le_of_ble_eq_true rfl, Nat.le_of_ble_eq_true rfl⟩) hPc hDc hKc hS hA hN (va_recv hKc hPc (ci := 11) (q0 := 0) rfl rfl) rfl hl.1 rfl (Nat.le_of_ble_eq_true rfl) dX10_close_40 (fun H locs hP1 hD1 hk1 hS => ?_)
    have hP := hP1
    have hD := hD1.weaken (fun k q _ h => hFc q.1 h)
    refine lv_if_ne (tgt := 74) hx hb dX10_close_43 (by decide) (fun c13 => ?_) (fun c13 => ?_)
    · have h := nd_neg h c13
      exact (db_X10_close_74 C K)  s11 _ _ _ h hP hD hS (lv_sub hl [] rfl)
    · have h := nd_pos h c13
      refine lv_aload_n hx hb dX10_close_46 rfl (lv_at hl 1 rfl) ?_
      refine lv_aload_n hx hb dX10_close_47 rfl (lv_at hl 1 rfl) ?_
      refine lv_iload_n hx hb dX10_close_48 rfl (lv_at hl 0 rfl) ?_
      refine lv_iconst (v := 0) hx hb dX10_close_49 (by decide) ?_
      obtain ⟨q14, s15, hq, h⟩ := nd_b2_e h
      have hPc := hP
      have hDc := hD
      have hKc := hK
      have hFc := nd_rs hD hS hA
      refine nd_cVi (As := [.int q1, .int 0]) (rest := [.ref (a 0)]) (q := q14) (w' := dw_X10 a ac s15) ⟨hx, hb, hml, hown, hts⟩ (fun sz => dm_X10_of l hlt dC dI a ac n (q1) (0) s11 hq sz) (cwV 2 hts gi_dm_X10_close_1 rfl rfl rfl (by decide +kernel) ⟨Nat.le_of_ble_eq_true rfl, Nat.le_of_ble_eq_true rfl⟩) hPc hDc hKc hS hA hN (va_recv hKc hPc (ci := 11) (q0 := 0) rfl rfl) rfl hl.1 rfl (Nat.le_of_ble_eq_true rfl) dX10_close_50 (fun H locs hP1 hD1 hk1 hS => ?_)
      have hP := hP1
      have hD := hD1.weaken (fun k q _ h => hFc q.1 h)
      refine lv_aload_n hx hb dX10_close_53 rfl (lv_at hl 1 rfl) ?_
      refine lv_iload_n hx hb dX10_close_54 rfl (lv_at hl 0 rfl) ?_
      refine lv_iconst (v := 2) hx hb dX10_close_55 (by decide) ?_
      obtain ⟨q17, s18, hq, h⟩ := nd_b2_e h
      have hPc := hP
      have hDc := hD
      have hKc := hK
      have hFc := nd_rs hD hS hA
      refine nd_cVi (As := [.int q1, .int 2]) (rest := [.int q14, .ref (a 0)]) (q := q17) (w' := dw_X10 a ac s18) ⟨hx, hb, hml, hown, hts⟩ (fun sz => dm_X10_of l hlt dC dI a ac n (q1) (2) s15 hq sz) (cwV 2 hts gi_dm_X10_close_1 rfl rfl rfl (by decide +kernel) ⟨Nat.le_of_ble_eq_true rfl, Nat.le_of_ble_eq_true rfl⟩) hPc hDc hKc hS hA hN (va_recv hKc hPc (ci := 11) (q0 := 0) rfl rfl) rfl hl.1 rfl (Nat.le_of_ble_eq_true rfl) dX10_close_56 (fun H locs hP1 hD1 hk1 hS => ?_)
      have hP := hP1
      have hD := hD1.weaken (fun k q _ h => hFc q.1 h)
      refine lv_iconst (v := (-1)) hx hb dX10_close_59 (by decide) ?_
      obtain ⟨s21, hq, h⟩ := nd_b1_e h
      have hPc := hP
      have hDc := hD
      have hKc := hK
      have hFc := nd_rs hD hS hA
      refine nd_cVv (As := [.int q14, .int q17, .int (-1)]) (rest := []) (w' := dw_X10 a ac s21) ⟨hx, hb, hml, hown, hts⟩ (fun sz => dm_X10_hold l hlt dC dI a ac n (q14) (q17) ((-1)) s18 hq sz) (cwV 3 hts gi_dm_X10_close_2 rfl rfl rfl (by decide +kernel) ⟨Nat.le_of_ble_eq_true rfl, Nat.le_of_ble_eq_true rfl⟩) hPc hDc hKc hS hA hN (va_recv hKc hPc (ci := 11) (q0 := 0) rfl rfl) rfl hl.1 rfl (Nat.le_of_ble_eq_true rfl) dX10_close_60 (fun H locs hP1 hD1 hk1 hS => ?_)
      have hP := hP1
      have hD := hD1.weaken (fun k q _ h => hFc q.1 h)
      refine lv_aload_n hx hb dX10_close_63 rfl (lv_at hl 1 rfl) ?_
      refine va_get (D := (dC, dI)) (ci := 11) (v := .ref (a 2)) (C := RX10) (T := TX10) (N := 11) hx hb hts hi_dm_X10_close_X10 hown hK hP 0 rfl rfl 1 (by decide) (hts (.fieldLink RX10 15 "TimeMachine$Things" "opening" "[I") (List.mem_of_getElem? (i := 6) rfl)) (fun _ h9 => h9) rfl dX10_close_64 ?_
      refine lv_iload_n hx hb dX10_close_67 rfl (lv_at hl 0 rfl) ?_
      refine lv_iconst (v := 5) hx hb dX10_close_68 (by decide) ?_
      refine lv_imul hx hb dX10_close_69 ?_
      refine lv_iconst (v := 0) hx hb dX10_close_70 (by decide) ?_
      refine lv_iadd hx hb dX10_close_71 ?_
      refine lv_iconst (v := 0) hx hb dX10_close_72 (by decide) ?_
      obtain ⟨i23, h⟩ := nd_ck_e h
      refine va_iast (i := ((q1 * 5) + 0)) (x := 0) hx hb hK hP hD hS 2 1 rfl rfl i23 dX10_close_73 (fun H locs hP hD hS => ?_)
      obtain ⟨s24, es24, h⟩ := nd_let_e h
      have hP : va_P (dC, dI) vwCl (dw_X10 a ac s24) H := by rw [es24]; exact hP
      have hD : va_D A (dw_X10 a ac s24) := by rw [es24]; exact hD
      exact (db_X10_close_74 C K)  s24 _ _ _ h hP hD hS (lv_sub hl [] rfl)
set_option maxHeartbeats 40000000 in
set_option maxRecDepth 100000 in
theorem dm_X10_close (l : Launch) (hlt : l.stackTraces = false) (dC : Nat → ClassId) (dI : Nat → Nat → Nat) (a : Nat → Nat) (ac : Nat → ClassId) (n : Nat) (v0 : Int32) (v1 : Int32) (s0 : St) {r : St} (h : df_X10_close n v0 v1 s0 = some r) (sz : Nat) : Met l yX10_close ow_dm_X10_close ({ frames := 1, cells := 0, slots := 0, locals := 23 }) (va_Pc [.ref (a 0), .int v0, .int v1] (fun U => U.heap.size = sz ∧ va_P (dC, dI) vwCl (dw_X10 a ac s0) U.heap ∧ va_K (dC, dI) vwCl (dk_X10 ac) U ∧ va_D (fun _ => True) (dw_X10 a ac s0) ∧ nv_E (va_A (dw_X10 a ac s0) sz) U)) (va_Qv (fun _ => True) (fun (_ : Unit) t => va_P (dC, dI) vwCl (dw_X10 a ac r) t.heap ∧ va_K (dC, dI) vwCl (dk_X10 ac) t ∧ va_D (va_A (dw_X10 a ac s0) sz) (dw_X10 a ac r)) (va_A (dw_X10 a ac s0) sz)) 0 0 (va_A (dw_X10 a ac s0) sz) := by
  refine Met.ofW (cc := cX10_close) (maxL := 4) (ret := none) (by decide) rfl ?_
  intro p e s m args below meth c s₁ B hml hv
  obtain ⟨rfl, hsz, hP, hK, hD0, hN⟩ := hv
  have hx := B.exec
  have hb := B.bytes
  have hr := B.returns
  have hts := atoms_spec (ws := ow_dm_X10_close) B.pre
  have hown : s.vm.findClass RX10 = some m.cls := findClass_of_methodNamed B.named
  have hlocks := B.notSynchronized
  subst hsz
  have hD := hD0.self (sz := s.heap.size)
  generalize hAe : va_A (dw_X10 a ac s0) s.heap.size = A at hD hN ⊢
  have hA : ∀ q : Nat, s.heap.size ≤ q → A q := fun q h => by rw [← hAe]; exact Or.inr h
  have hl := lv_entry ([.ref (a 0), .int v0, .int v1]) (n := 4) (Nat.le_of_ble_eq_true rfl)
  rw [lg_entry_eq]
  generalize (lg_sl ([.ref (a 0), .int v0, .int v1]) ++ List.replicate (4 - (lg_sl ([.ref (a 0), .int v0, .int v1])).length) Slot.unset).toArray = ls at hl ⊢
  have hl : lv_has ls 4 [(0, .ref (a 0)), (1, .int v0), (2, .int v1)] := hl
  exact db_X10_close_0 (dC := dC) (dI := dI) (a := a) (ac := ac) (n := n) (r := r) ⟨hlt, hx, hb, hml, hown, hts, hN, hA, hK⟩ (fun pc τ H locs ls d er hP hD hS => by subst er; exact W.vret hx hb hr (fun t ht hW => ⟨⟨(), rfl, trivial, by rw [ht]; exact hP, va_K.moved hW.alike hK, hD⟩, hS.F ht⟩) hS.2.2 d) v0 v1 s0 _ _ _ h hP hD va_S.rf (lv_sub hl [0, 1, 2] rfl)
def ow_dm_X10_share : List Cond := .code yX10_share cX10_share 5 none :: ([.methodLink RX10 80 yX10_openingOf, .instanceMethod yX10_openingOf, .selects RX10 yX10_openingOf yX10_openingOf, .initialized RX10, .methodLink RX10 58 yX10_linkTo, .instanceMethod yX10_linkTo, .selects RX10 yX10_linkTo yX10_linkTo] ++ (ow_dm_X10_openingOf ++ (ow_dm_X10_linkTo ++ [])))
theorem gd_dm_X10_share : ∀ w ∈ ow_dm_X10_share, (w.onTables && w.keeps) = true ∨ ∃ ty, w = Cond.arrayClass ty := List.forall_mem_cons.mpr ⟨good_of_word rfl, List.forall_mem_append.mpr ⟨fun w h => good_of_word (List.all_eq_true.mp (by decide +kernel) w h), List.forall_mem_append.mpr ⟨gd_dm_X10_openingOf, List.forall_mem_append.mpr ⟨gd_dm_X10_linkTo, fun _ h => nomatch h⟩⟩⟩⟩
theorem gi_dm_X10_share_0 : GoodIn ow_dm_X10_share (wsV RX10 80 RX10 yX10_openingOf ow_dm_X10_openingOf) := goodIn_app (goodIn_of _ (by decide +kernel)) (fun w h => ⟨List.mem_cons_of_mem _ (List.mem_append_right _ (List.mem_append_left _ h)), gd_dm_X10_openingOf w h⟩)
theorem gi_dm_X10_share_1 : GoodIn ow_dm_X10_share (wsV RX10 58 RX10 yX10_linkTo ow_dm_X10_linkTo) := goodIn_app (goodIn_of _ (by decide +kernel)) (fun w h => ⟨List.mem_cons_of_mem _ (List.mem_append_right _ (List.mem_append_right _ (List.mem_append_left _ h))), gd_dm_X10_linkTo w h⟩)
def dj_X10_share_29 (p : Program) (l : Launch) (e : Env) (s : State) (m : MethodId) (args : Array Value) (below : List Frame) (meth : Method) (c : Code) (Q : State → Prop) (A : Nat → Prop) (dC : Nat → ClassId) (dI : Nat → Nat → Nat) (a : Nat → Nat) (ac : Nat → ClassId) (g : Int32 → Int32 → Int32 → (St) → Option (St)) (r : St) : Prop := ∀ (x1 : Int32) (x2 : Int32) (x3 : Int32) (s0 : St) (H : Heap) (locs : List Loc) (ls : Array Slot), g x1 x2 x3 s0 = some r → va_P (dC, dI) vwCl (dw_X10 a ac s0) H → va_D A (dw_X10 a ac s0) → va_S A s.heap H locs → lv_has ls 5 [(0, .ref (a 0)), (1, .int x1), (2, .int x2), (3, .int x3)] → W p l e (headSpec ow_dm_X10_share ({ frames := 1, cells := 0, slots := 0, locals := 23 })).room s m args below meth c H locs 0 0 Q (F0 m 29 ls [])
def dj_X10_share_2 (p : Program) (l : Launch) (e : Env) (s : State) (m : MethodId) (args : Array Value) (below : List Frame) (meth : Method) (c : Code) (Q : State → Prop) (A : Nat → Prop) (dC : Nat → ClassId) (dI : Nat → Nat → Nat) (a : Nat → Nat) (ac : Nat → ClassId) (g : Int32 → Int32 → Int32 → (St) → Option (St)) (r : St) : Prop := ∀ (x1 : Int32) (x2 : Int32) (x3 : Int32) (s0 : St) (H : Heap) (locs : List Loc) (ls : Array Slot), g x1 x2 x3 s0 = some r → va_P (dC, dI) vwCl (dw_X10 a ac s0) H → va_D A (dw_X10 a ac s0) → va_S A s.heap H locs → lv_has ls 5 [(0, .ref (a 0)), (1, .int x1), (2, .int x2), (3, .int x3)] → W p l e (headSpec ow_dm_X10_share ({ frames := 1, cells := 0, slots := 0, locals := 23 })).room s m args below meth c H locs 0 0 Q (F0 m 2 ls [])
def dj_X10_share_0 (p : Program) (l : Launch) (e : Env) (s : State) (m : MethodId) (args : Array Value) (below : List Frame) (meth : Method) (c : Code) (Q : State → Prop) (A : Nat → Prop) (dC : Nat → ClassId) (dI : Nat → Nat → Nat) (a : Nat → Nat) (ac : Nat → ClassId) (g : Int32 → Int32 → (St) → Option (St)) (r : St) : Prop := ∀ (v0 : Int32) (v1 : Int32) (s0 : St) (H : Heap) (locs : List Loc) (ls : Array Slot), g v0 v1 s0 = some r → va_P (dC, dI) vwCl (dw_X10 a ac s0) H → va_D A (dw_X10 a ac s0) → va_S A s.heap H locs → lv_has ls 5 [(0, .ref (a 0)), (1, .int v0), (2, .int v1)] → W p l e (headSpec ow_dm_X10_share ({ frames := 1, cells := 0, slots := 0, locals := 23 })).room s m args below meth c H locs 0 0 Q (F0 m 0 ls [])
set_option maxHeartbeats 40000000 in
set_option maxRecDepth 100000 in
theorem db_X10_share_29 {p : Program} {l : Launch} {e : Env} {s : State} {m : MethodId} {args : Array Value} {below : List Frame} {meth : Method} {c : Code} {Q : State → Prop} {A : Nat → Prop} {dC : Nat → ClassId} {dI : Nat → Nat → Nat} {a : Nat → Nat} {ac : Nat → ClassId} {n : Nat} {r : St} (C : nd_C p l s m args c A (dC, dI) cX10_share 5 RX10 ow_dm_X10_share (dk_X10 ac)) (K : nd_Kv p l e (headSpec ow_dm_X10_share ({ frames := 1, cells := 0, slots := 0, locals := 23 })).room s m args below meth c Q A (dC, dI) cX10_share (St) (dw_X10 a ac) r) {g2 : Int32 → Int32 → Int32 → (St) → Option (St)} (J2 : dj_X10_share_2 p l e s m args below meth c Q A dC dI a ac g2 r) : dj_X10_share_29 p l e s m args below meth c Q A dC dI a ac (df_X10_share_29 n g2) r := by
  obtain ⟨hlt, hx, hb, hml, hown, hts, hN, hA, hK⟩ := id C
  intro x1 x2 x3 s0 H locs ls h hP hD hS hl
  unfold df_X10_share_29 at h
  obtain ⟨z6, ez6, h⟩ := nd_let_e h
  refine lv_iinc (v := z6) (lv' := [(3, .int z6), (0, .ref (a 0)), (1, .int x1), (2, .int x2)]) hx hb dX10_share_29 hl (k := 3) rfl (by rw [ez6]) (by decide) rfl (fun ls hl => ?_)
  refine lv_goto (tgt := 2) hx hb dX10_share_32 (by decide) ?_
  exact (J2) (x1) (x2) (z6) s0 _ _ _ h hP hD hS (lv_sub hl [1, 2, 3, 0] rfl)
set_option maxHeartbeats 40000000 in
set_option maxRecDepth 100000 in
theorem dB_X10_share_2 {p : Program} {l : Launch} {e : Env} {s : State} {m : MethodId} {args : Array Value} {below : List Frame} {meth : Method} {c : Code} {Q : State → Prop} {A : Nat → Prop} {dC : Nat → ClassId} {dI : Nat → Nat → Nat} {a : Nat → Nat} {ac : Nat → ClassId} {n : Nat} {r : St} (C : nd_C p l s m args c A (dC, dI) cX10_share 5 RX10 ow_dm_X10_share (dk_X10 ac)) (K : nd_Kv p l e (headSpec ow_dm_X10_share ({ frames := 1, cells := 0, slots := 0, locals := 23 })).room s m args below meth c Q A (dC, dI) cX10_share (St) (dw_X10 a ac) r) {g2 : Int32 → Int32 → Int32 → (St) → Option (St)} (J2 : dj_X10_share_2 p l e s m args below meth c Q A dC dI a ac g2 r) : dj_X10_share_2 p l e s m args below meth c Q A dC dI a ac (dF_X10_share_2 n g2) r := by
  obtain ⟨hlt, hx, hb, hml, hown, hts, hN, hA, hK⟩ := id C
  intro x1 x2 x3 s0 H locs ls h hP hD hS hl
  unfold dF_X10_share_2 at h
  refine lv_iload_n hx hb dX10_share_2 rfl (lv_at hl 3 rfl) ?_
  refine lv_bipush (v := 16) hx hb dX10_share_3 (by decide) ?_
  refine lv_icmp_ge (tgt := 35) hx hb dX10_share_5 (by decide) (fun c1 => ?_) (fun c1 => ?_)
  · have h := nd_pos h c1
    exact K _ _ _ _ _ dX10_share_35 (Option.some.inj h).symm hP hD hS
  · have h := nd_neg h c1
    refine lv_aload_n hx hb dX10_share_8 rfl (lv_at hl 0 rfl) ?_
    refine lv_iload_n hx hb dX10_share_9 rfl (lv_at hl 1 rfl) ?_
    refine lv_iload_n hx hb dX10_share_10 rfl (lv_at hl 3 rfl) ?_
    obtain ⟨q2, s3, hq, h⟩ := nd_b2_e h
    have hPc := hP
    have hDc := hD
    have hKc := hK
    have hFc := nd_rs hD hS hA
    refine nd_cVi (As := [.int x1, .int x3]) (rest := []) (q := q2) (w' := dw_X10 a ac s3) ⟨hx, hb, hml, hown, hts⟩ (fun sz => dm_X10_openingOf l hlt dC dI a ac n (x1) (x3) s0 hq sz) (cwV 2 hts gi_dm_X10_share_0 rfl rfl rfl (by decide +kernel) ⟨Nat.le_of_ble_eq_true rfl, Nat.le_of_ble_eq_true rfl⟩) hPc hDc hKc hS hA hN (va_recv hKc hPc (ci := 11) (q0 := 0) rfl rfl) rfl hl.1 rfl (Nat.le_of_ble_eq_true rfl) dX10_share_11 (fun H locs hP1 hD1 hk1 hS => ?_)
    have hP := hP1
    have hD := hD1.weaken (fun k q _ h => hFc q.1 h)
    refine lv_istore (lv' := [(4, .int q2), (0, .ref (a 0)), (1, .int x1), (2, .int x2), (3, .int x3)]) hx hb dX10_share_14 hl (by decide) rfl (fun ls hl => ?_)
    refine lv_iload hx hb dX10_share_16 (lv_at hl 0 rfl) ?_
    refine lv_if_lt (tgt := 29) hx hb dX10_share_18 (by decide) (fun c5 => ?_) (fun c5 => ?_)
    · have h := nd_pos h c5
      exact (db_X10_share_29 C K J2) (x1) (x2) (x3) s3 _ _ _ h hP hD hS (lv_sub hl [1, 2, 3, 4] rfl)
    · have h := nd_neg h c5
      refine lv_aload_n hx hb dX10_share_21 rfl (lv_at hl 1 rfl) ?_
      refine lv_iload_n hx hb dX10_share_22 rfl (lv_at hl 3 rfl) ?_
      refine lv_iload_n hx hb dX10_share_23 rfl (lv_at hl 4 rfl) ?_
      refine lv_iload hx hb dX10_share_24 (lv_at hl 0 rfl) ?_
      obtain ⟨s8, hq, h⟩ := nd_b1_e h
      have hPc := hP
      have hDc := hD
      have hKc := hK
      have hFc := nd_rs hD hS hA
      refine nd_cVv (As := [.int x2, .int x3, .int q2]) (rest := []) (w' := dw_X10 a ac s8) ⟨hx, hb, hml, hown, hts⟩ (fun sz => dm_X10_linkTo l hlt dC dI a ac n (x2) (x3) (q2) s3 hq sz) (cwV 3 hts gi_dm_X10_share_1 rfl rfl rfl (by decide +kernel) ⟨Nat.le_of_ble_eq_true rfl, Nat.le_of_ble_eq_true rfl⟩) hPc hDc hKc hS hA hN (va_recv hKc hPc (ci := 11) (q0 := 0) rfl rfl) rfl hl.1 rfl (Nat.le_of_ble_eq_true rfl) dX10_share_26 (fun H locs hP1 hD1 hk1 hS => ?_)
      have hP := hP1
      have hD := hD1.weaken (fun k q _ h => hFc q.1 h)
      exact (db_X10_share_29 C K J2) (x1) (x2) (x3) s8 _ _ _ h hP hD hS (lv_sub hl [1, 2, 3, 4] rfl)
set_option maxHeartbeats 40000000 in
set_option maxRecDepth 100000 in
theorem db_X10_share_2 {p : Program} {l : Launch} {e : Env} {s : State} {m : MethodId} {args : Array Value} {below : List Frame} {meth : Method} {c : Code} {Q : State → Prop} {A : Nat → Prop} {dC : Nat → ClassId} {dI : Nat → Nat → Nat} {a : Nat → Nat} {ac : Nat → ClassId} {n : Nat} {r : St} (C : nd_C p l s m args c A (dC, dI) cX10_share 5 RX10 ow_dm_X10_share (dk_X10 ac)) (K : nd_Kv p l e (headSpec ow_dm_X10_share ({ frames := 1, cells := 0, slots := 0, locals := 23 })).room s m args below meth c Q A (dC, dI) cX10_share (St) (dw_X10 a ac) r) (k : Nat) : dj_X10_share_2 p l e s m args below meth c Q A dC dI a ac (df_X10_share_2 n k) r := by
  induction k with
  | zero => intro x1 x2 x3 s0 H locs ls h; exact nomatch (show (none : Option (St)) = some r from h)
  | succ k ih => exact dB_X10_share_2 C K ih
set_option maxHeartbeats 40000000 in
set_option maxRecDepth 100000 in
theorem db_X10_share_0 {p : Program} {l : Launch} {e : Env} {s : State} {m : MethodId} {args : Array Value} {below : List Frame} {meth : Method} {c : Code} {Q : State → Prop} {A : Nat → Prop} {dC : Nat → ClassId} {dI : Nat → Nat → Nat} {a : Nat → Nat} {ac : Nat → ClassId} {n : Nat} {r : St} (C : nd_C p l s m args c A (dC, dI) cX10_share 5 RX10 ow_dm_X10_share (dk_X10 ac)) (K : nd_Kv p l e (headSpec ow_dm_X10_share ({ frames := 1, cells := 0, slots := 0, locals := 23 })).room s m args below meth c Q A (dC, dI) cX10_share (St) (dw_X10 a ac) r) : dj_X10_share_0 p l e s m args below meth c Q A dC dI a ac (df_X10_share_0 n) r := by
  obtain ⟨hlt, hx, hb, hml, hown, hts, hN, hA, hK⟩ := id C
  intro v0 v1 s0 H locs ls h hP hD hS hl
  unfold df_X10_share_0 at h
  refine lv_iconst (v := 0) hx hb dX10_share_0 (by decide) ?_
  refine lv_istore_n (lv' := [(3, .int 0), (0, .ref (a 0)), (1, .int v0), (2, .int v1)]) hx hb dX10_share_1 rfl hl (by decide) rfl (fun ls hl => ?_)
  exact (db_X10_share_2 C K n) (v0) (v1) (0) s0 _ _ _ h hP hD hS (lv_sub hl [1, 2, 3, 0] rfl)
set_option maxHeartbeats 40000000 in
set_option maxRecDepth 100000 in
theorem dm_X10_share (l : Launch) (hlt : l.stackTraces = false) (dC : Nat → ClassId) (dI : Nat → Nat → Nat) (a : Nat → Nat) (ac : Nat → ClassId) (n : Nat) (v0 : Int32) (v1 : Int32) (s0 : St) {r : St} (h : df_X10_share n v0 v1 s0 = some r) (sz : Nat) : Met l yX10_share ow_dm_X10_share ({ frames := 1, cells := 0, slots := 0, locals := 23 }) (va_Pc [.ref (a 0), .int v0, .int v1] (fun U => U.heap.size = sz ∧ va_P (dC, dI) vwCl (dw_X10 a ac s0) U.heap ∧ va_K (dC, dI) vwCl (dk_X10 ac) U ∧ va_D (fun _ => True) (dw_X10 a ac s0) ∧ nv_E (va_A (dw_X10 a ac s0) sz) U)) (va_Qv (fun _ => True) (fun (_ : Unit) t => va_P (dC, dI) vwCl (dw_X10 a ac r) t.heap ∧ va_K (dC, dI) vwCl (dk_X10 ac) t ∧ va_D (va_A (dw_X10 a ac s0) sz) (dw_X10 a ac r)) (va_A (dw_X10 a ac s0) sz)) 0 0 (va_A (dw_X10 a ac s0) sz) := by
  refine Met.ofW (cc := cX10_share) (maxL := 5) (ret := none) (by decide) rfl ?_
  intro p e s m args below meth c s₁ B hml hv
  obtain ⟨rfl, hsz, hP, hK, hD0, hN⟩ := hv
  have hx := B.exec
  have hb := B.bytes
  have hr := B.returns
  have hts := atoms_spec (ws := ow_dm_X10_share) B.pre
  have hown : s.vm.findClass RX10 = some m.cls := findClass_of_methodNamed B.named
  have hlocks := B.notSynchronized
  subst hsz
  have hD := hD0.self (sz := s.heap.size)
  generalize hAe : va_A (dw_X10 a ac s0) s.heap.size = A at hD hN ⊢
  have hA : ∀ q : Nat, s.heap.size ≤ q → A q := fun q h => by rw [← hAe]; exact Or.inr h
  have hl := lv_entry ([.ref (a 0), .int v0, .int v1]) (n := 5) (Nat.le_of_ble_eq_true rfl)
  rw [lg_entry_eq]
  generalize (lg_sl ([.ref (a 0), .int v0, .int v1]) ++ List.replicate (5 - (lg_sl ([.ref (a 0), .int v0, .int v1])).length) Slot.unset).toArray = ls at hl ⊢
  have hl : lv_has ls 5 [(0, .ref (a 0)), (1, .int v0), (2, .int v1)] := hl
  exact db_X10_share_0 (dC := dC) (dI := dI) (a := a) (ac := ac) (n := n) (r := r) ⟨hlt, hx, hb, hml, hown, hts, hN, hA, hK⟩ (fun pc τ H locs ls d er hP hD hS => by subst er; exact W.vret hx hb hr (fun t ht hW => ⟨⟨(), rfl, trivial, by rw [ht]; exact hP, va_K.moved hW.alike hK, hD⟩, hS.F ht⟩) hS.2.2 d) v0 v1 s0 _ _ _ h hP hD va_S.rf (lv_sub hl [0, 1, 2] rfl)
def ow_dm_X10_freePipe : List Cond := .code yX10_freePipe cX10_freePipe 2 (some .int) :: ([.fieldLink RX10 18 "TimeMachine$Things" "pipe" "[I"] ++ (u_ws RX10 TX10 11 ++ []))
theorem gd_dm_X10_freePipe : ∀ w ∈ ow_dm_X10_freePipe, (w.onTables && w.keeps) = true ∨ ∃ ty, w = Cond.arrayClass ty := List.forall_mem_cons.mpr ⟨good_of_word rfl, List.forall_mem_append.mpr ⟨fun w h => good_of_word (List.all_eq_true.mp (by decide +kernel) w h), List.forall_mem_append.mpr ⟨gu_X10, fun _ h => nomatch h⟩⟩⟩
theorem hi_dm_X10_freePipe_X10 : ∀ w ∈ u_ws RX10 TX10 11, w ∈ ow_dm_X10_freePipe := fun w h => List.mem_cons_of_mem _ (List.mem_append_right _ (List.mem_append_left _ h))
def dj_X10_freePipe_2 (p : Program) (l : Launch) (e : Env) (s : State) (m : MethodId) (args : Array Value) (below : List Frame) (meth : Method) (c : Code) (Q : State → Prop) (A : Nat → Prop) (dC : Nat → ClassId) (dI : Nat → Nat → Nat) (a : Nat → Nat) (ac : Nat → ClassId) (g : Int32 → (St) → Option (Int32 × (St))) (r : Int32 × (St)) : Prop := ∀ (x1 : Int32) (s0 : St) (H : Heap) (locs : List Loc) (ls : Array Slot), g x1 s0 = some r → va_P (dC, dI) vwCl (dw_X10 a ac s0) H → va_D A (dw_X10 a ac s0) → va_S A s.heap H locs → lv_has ls 2 [(0, .ref (a 0)), (1, .int x1)] → W p l e (headSpec ow_dm_X10_freePipe ({ frames := 0, cells := 0, slots := 0, locals := 0 })).room s m args below meth c H locs 0 0 Q (F0 m 2 ls [])
def dj_X10_freePipe_0 (p : Program) (l : Launch) (e : Env) (s : State) (m : MethodId) (args : Array Value) (below : List Frame) (meth : Method) (c : Code) (Q : State → Prop) (A : Nat → Prop) (dC : Nat → ClassId) (dI : Nat → Nat → Nat) (a : Nat → Nat) (ac : Nat → ClassId) (g : (St) → Option (Int32 × (St))) (r : Int32 × (St)) : Prop := ∀ (s0 : St) (H : Heap) (locs : List Loc) (ls : Array Slot), g s0 = some r → va_P (dC, dI) vwCl (dw_X10 a ac s0) H → va_D A (dw_X10 a ac s0) → va_S A s.heap H locs → lv_has ls 2 [(0, .ref (a 0))] → W p l e (headSpec ow_dm_X10_freePipe ({ frames := 0, cells := 0, slots := 0, locals := 0 })).room s m args below meth c H locs 0 0 Q (F0 m 0 ls [])
set_option maxHeartbeats 40000000 in
set_option maxRecDepth 100000 in
theorem dB_X10_freePipe_2 {p : Program} {l : Launch} {e : Env} {s : State} {m : MethodId} {args : Array Value} {below : List Frame} {meth : Method} {c : Code} {Q : State → Prop} {A : Nat → Prop} {dC : Nat → ClassId} {dI : Nat → Nat → Nat} {a : Nat → Nat} {ac : Nat → ClassId} {n : Nat} {r : Int32 × (St)} (C : nd_C p l s m args c A (dC, dI) cX10_freePipe 2 RX10 ow_dm_X10_freePipe (dk_X10 ac)) (K : nd_Ki p l e (headSpec ow_dm_X10_freePipe ({ frames := 0, cells := 0, slots := 0, locals := 0 })).room s m args below meth c Q A (dC, dI) cX10_freePipe .int (St) (dw_X10 a ac) r) {g2 : Int32 → (St) → Option (Int32 × (St))} (J2 : dj_X10_freePipe_2 p l e s m args below meth c Q A dC dI a ac g2 r) : dj_X10_freePipe_2 p l e s m args below meth c Q A dC dI a ac (dF_X10_freePipe_2 n g2) r := by
  obtain ⟨hlt, hx, hb, hml, hown, hts, hN, hA, hK⟩ := id C
  intro x1 s0 H locs ls h hP hD hS hl
  unfold dF_X10_freePipe_2 at h
  refine lv_iload_n hx hb dX10_freePipe_2 rfl (lv_at hl 1 rfl) ?_
  refine lv_bipush (v := 8) hx hb dX10_freePipe_3 (by decide) ?_
  refine lv_icmp_ge (tgt := 40) hx hb dX10_freePipe_5 (by decide) (fun c1 => ?_) (fun c1 => ?_)
  · have h := nd_pos h c1
    refine lv_iconst (v := (-1)) hx hb dX10_freePipe_40 (by decide) ?_
    exact K _ _ _ _ _ _ dX10_freePipe_41 rfl (Option.some.inj h).symm hP hD hS
  · have h := nd_neg h c1
    refine lv_aload_n hx hb dX10_freePipe_8 rfl (lv_at hl 0 rfl) ?_
    refine va_get (D := (dC, dI)) (ci := 11) (v := .ref (a 3)) (C := RX10) (T := TX10) (N := 11) hx hb hts hi_dm_X10_freePipe_X10 hown hK hP 0 rfl rfl 2 (by decide) (hts (.fieldLink RX10 18 "TimeMachine$Things" "pipe" "[I") (List.mem_of_getElem? (i := 1) rfl)) (fun _ h9 => h9) rfl dX10_freePipe_9 ?_
    refine lv_iload_n hx hb dX10_freePipe_12 rfl (lv_at hl 1 rfl) ?_
    refine lv_iconst (v := 4) hx hb dX10_freePipe_13 (by decide) ?_
    refine lv_imul hx hb dX10_freePipe_14 ?_
    refine lv_iconst (v := 1) hx hb dX10_freePipe_15 (by decide) ?_
    refine lv_iadd hx hb dX10_freePipe_16 ?_
    obtain ⟨i2, h⟩ := nd_ck_e h
    refine va_iald (i := ((x1 * 4) + 1)) hx hb hK hP 3 2 rfl rfl i2 dX10_freePipe_17 ?_
    refine lv_aload_n hx hb dX10_freePipe_18 rfl (lv_at hl 0 rfl) ?_
    refine va_get (D := (dC, dI)) (ci := 11) (v := .ref (a 3)) (C := RX10) (T := TX10) (N := 11) hx hb hts hi_dm_X10_freePipe_X10 hown hK hP 0 rfl rfl 2 (by decide) (hts (.fieldLink RX10 18 "TimeMachine$Things" "pipe" "[I") (List.mem_of_getElem? (i := 1) rfl)) (fun _ h9 => h9) rfl dX10_freePipe_19 ?_
    refine lv_iload_n hx hb dX10_freePipe_22 rfl (lv_at hl 1 rfl) ?_
    refine lv_iconst (v := 4) hx hb dX10_freePipe_23 (by decide) ?_
    refine lv_imul hx hb dX10_freePipe_24 ?_
    refine lv_iconst (v := 2) hx hb dX10_freePipe_25 (by decide) ?_
    refine lv_iadd hx hb dX10_freePipe_26 ?_
    obtain ⟨i3, h⟩ := nd_ck_e h
    refine va_iald (i := ((x1 * 4) + 2)) hx hb hK hP 3 2 rfl rfl i3 dX10_freePipe_27 ?_
    refine lv_iadd hx hb dX10_freePipe_28 ?_
    refine lv_if_ne (tgt := 34) hx hb dX10_freePipe_29 (by decide) (fun c4 => ?_) (fun c4 => ?_)
    · have h := nd_neg h c4
      obtain ⟨z5, ez5, h⟩ := nd_let_e h
      refine lv_iinc (v := z5) (lv' := [(1, .int z5), (0, .ref (a 0))]) hx hb dX10_freePipe_34 hl (k := 1) rfl (by rw [ez5]) (by decide) rfl (fun ls hl => ?_)
      refine lv_goto (tgt := 2) hx hb dX10_freePipe_37 (by decide) ?_
      exact (J2) (z5) s0 _ _ _ h hP hD hS (lv_sub hl [1, 0] rfl)
    · have h := nd_pos h c4
      refine lv_iload_n hx hb dX10_freePipe_32 rfl (lv_at hl 1 rfl) ?_
      exact K _ _ _ _ _ _ dX10_freePipe_33 rfl (Option.some.inj h).symm hP hD hS
set_option maxHeartbeats 40000000 in
set_option maxRecDepth 100000 in
theorem db_X10_freePipe_2 {p : Program} {l : Launch} {e : Env} {s : State} {m : MethodId} {args : Array Value} {below : List Frame} {meth : Method} {c : Code} {Q : State → Prop} {A : Nat → Prop} {dC : Nat → ClassId} {dI : Nat → Nat → Nat} {a : Nat → Nat} {ac : Nat → ClassId} {n : Nat} {r : Int32 × (St)} (C : nd_C p l s m args c A (dC, dI) cX10_freePipe 2 RX10 ow_dm_X10_freePipe (dk_X10 ac)) (K : nd_Ki p l e (headSpec ow_dm_X10_freePipe ({ frames := 0, cells := 0, slots := 0, locals := 0 })).room s m args below meth c Q A (dC, dI) cX10_freePipe .int (St) (dw_X10 a ac) r) (k : Nat) : dj_X10_freePipe_2 p l e s m args below meth c Q A dC dI a ac (df_X10_freePipe_2 n k) r := by
  induction k with
  | zero => intro x1 s0 H locs ls h; exact nomatch (show (none : Option (Int32 × (St))) = some r from h)
  | succ k ih => exact dB_X10_freePipe_2 C K ih
set_option maxHeartbeats 40000000 in
set_option maxRecDepth 100000 in
theorem db_X10_freePipe_0 {p : Program} {l : Launch} {e : Env} {s : State} {m : MethodId} {args : Array Value} {below : List Frame} {meth : Method} {c : Code} {Q : State → Prop} {A : Nat → Prop} {dC : Nat → ClassId} {dI : Nat → Nat → Nat} {a : Nat → Nat} {ac : Nat → ClassId} {n : Nat} {r : Int32 × (St)} (C : nd_C p l s m args c A (dC, dI) cX10_freePipe 2 RX10 ow_dm_X10_freePipe (dk_X10 ac)) (K : nd_Ki p l e (headSpec ow_dm_X10_freePipe ({ frames := 0, cells := 0, slots := 0, locals := 0 })).room s m args below meth c Q A (dC, dI) cX10_freePipe .int (St) (dw_X10 a ac) r) : dj_X10_freePipe_0 p l e s m args below meth c Q A dC dI a ac (df_X10_freePipe_0 n) r := by
  obtain ⟨hlt, hx, hb, hml, hown, hts, hN, hA, hK⟩ := id C
  intro s0 H locs ls h hP hD hS hl
  unfold df_X10_freePipe_0 at h
  refine lv_iconst (v := 0) hx hb dX10_freePipe_0 (by decide) ?_
  refine lv_istore_n (lv' := [(1, .int 0), (0, .ref (a 0))]) hx hb dX10_freePipe_1 rfl hl (by decide) rfl (fun ls hl => ?_)
  exact (db_X10_freePipe_2 C K n) (0) s0 _ _ _ h hP hD hS (lv_sub hl [1, 0] rfl)
set_option maxHeartbeats 40000000 in
set_option maxRecDepth 100000 in
theorem dm_X10_freePipe (l : Launch) (hlt : l.stackTraces = false) (dC : Nat → ClassId) (dI : Nat → Nat → Nat) (a : Nat → Nat) (ac : Nat → ClassId) (n : Nat) (s0 : St) {r : Int32 × (St)} (h : df_X10_freePipe n s0 = some r) (sz : Nat) : Met l yX10_freePipe ow_dm_X10_freePipe ({ frames := 0, cells := 0, slots := 0, locals := 0 }) (va_Pc [.ref (a 0)] (fun U => U.heap.size = sz ∧ va_P (dC, dI) vwCl (dw_X10 a ac s0) U.heap ∧ va_K (dC, dI) vwCl (dk_X10 ac) U ∧ va_D (fun _ => True) (dw_X10 a ac s0) ∧ nv_E (va_A (dw_X10 a ac s0) sz) U)) (va_Qi (fun x _ => x = r.1) (fun (_ : Unit) t => va_P (dC, dI) vwCl (dw_X10 a ac r.2) t.heap ∧ va_K (dC, dI) vwCl (dk_X10 ac) t ∧ va_D (va_A (dw_X10 a ac s0) sz) (dw_X10 a ac r.2)) (va_A (dw_X10 a ac s0) sz)) 0 0 (va_A (dw_X10 a ac s0) sz) := by
  refine Met.ofW (cc := cX10_freePipe) (maxL := 2) (ret := (some .int)) (by decide) rfl ?_
  intro p e s m args below meth c s₁ B hml hv
  obtain ⟨rfl, hsz, hP, hK, hD0, hN⟩ := hv
  have hx := B.exec
  have hb := B.bytes
  have hr := B.returns
  have hts := atoms_spec (ws := ow_dm_X10_freePipe) B.pre
  have hown : s.vm.findClass RX10 = some m.cls := findClass_of_methodNamed B.named
  have hlocks := B.notSynchronized
  subst hsz
  have hD := hD0.self (sz := s.heap.size)
  generalize hAe : va_A (dw_X10 a ac s0) s.heap.size = A at hD hN ⊢
  have hA : ∀ q : Nat, s.heap.size ≤ q → A q := fun q h => by rw [← hAe]; exact Or.inr h
  have hl := lv_entry ([.ref (a 0)]) (n := 2) (Nat.le_of_ble_eq_true rfl)
  rw [lg_entry_eq]
  generalize (lg_sl ([.ref (a 0)]) ++ List.replicate (2 - (lg_sl ([.ref (a 0)])).length) Slot.unset).toArray = ls at hl ⊢
  have hl : lv_has ls 2 [(0, .ref (a 0))] := hl
  exact db_X10_freePipe_0 (dC := dC) (dI := dI) (a := a) (ac := ac) (n := n) (r := r) ⟨hlt, hx, hb, hml, hown, hts, hN, hA, hK⟩ (fun pc v τ H locs ls d z er hP hD hS => by subst er; exact W.zret (v := v) hx hb hr z (fun t ht hW => ⟨⟨v, (), rfl, rfl, by rw [ht]; exact hP, va_K.moved hW.alike hK, hD⟩, hS.F ht⟩) hS.2.2 d) s0 _ _ _ h hP hD va_S.rf (lv_sub hl [0] rfl)
def ow_dm_X10_emptyPipe : List Cond := .code yX10_emptyPipe cX10_emptyPipe 2 none :: ([.fieldLink RX10 18 "TimeMachine$Things" "pipe" "[I"] ++ (u_ws RX10 TX10 11 ++ []))
theorem gd_dm_X10_emptyPipe : ∀ w ∈ ow_dm_X10_emptyPipe, (w.onTables && w.keeps) = true ∨ ∃ ty, w = Cond.arrayClass ty := List.forall_mem_cons.mpr ⟨good_of_word rfl, List.forall_mem_append.mpr ⟨fun w h => good_of_word (List.all_eq_true.mp (by decide +kernel) w h), List.forall_mem_append.mpr ⟨gu_X10, fun _ h => nomatch h⟩⟩⟩
theorem hi_dm_X10_emptyPipe_X10 : ∀ w ∈ u_ws RX10 TX10 11, w ∈ ow_dm_X10_emptyPipe := fun w h => List.mem_cons_of_mem _ (List.mem_append_right _ (List.mem_append_left _ h))
def dj_X10_emptyPipe_0 (p : Program) (l : Launch) (e : Env) (s : State) (m : MethodId) (args : Array Value) (below : List Frame) (meth : Method) (c : Code) (Q : State → Prop) (A : Nat → Prop) (dC : Nat → ClassId) (dI : Nat → Nat → Nat) (a : Nat → Nat) (ac : Nat → ClassId) (g : Int32 → (St) → Option (St)) (r : St) : Prop := ∀ (v0 : Int32) (s0 : St) (H : Heap) (locs : List Loc) (ls : Array Slot), g v0 s0 = some r → va_P (dC, dI) vwCl (dw_X10 a ac s0) H → va_D A (dw_X10 a ac s0) → va_S A s.heap H locs → lv_has ls 2 [(0, .ref (a 0)), (1, .int v0)] → W p l e (headSpec ow_dm_X10_emptyPipe ({ frames := 0, cells := 0, slots := 0, locals := 0 })).room s m args below meth c H locs 0 0 Q (F0 m 0 ls [])
set_option maxHeartbeats 40000000 in
set_option maxRecDepth 100000 in
theorem db_X10_emptyPipe_0 {p : Program} {l : Launch} {e : Env} {s : State} {m : MethodId} {args : Array Value} {below : List Frame} {meth : Method} {c : Code} {Q : State → Prop} {A : Nat → Prop} {dC : Nat → ClassId} {dI : Nat → Nat → Nat} {a : Nat → Nat} {ac : Nat → ClassId} {n : Nat} {r : St} (C : nd_C p l s m args c A (dC, dI) cX10_emptyPipe 2 RX10 ow_dm_X10_emptyPipe (dk_X10 ac)) (K : nd_Kv p l e (headSpec ow_dm_X10_emptyPipe ({ frames := 0, cells := 0, slots := 0, locals := 0 })).room s m args below meth c Q A (dC, dI) cX10_emptyPipe (St) (dw_X10 a ac) r) : dj_X10_emptyPipe_0 p l e s m args below meth c Q A dC dI a ac (df_X10_emptyPipe_0 n) r := by
  obtain ⟨hlt, hx, hb, hml, hown, hts, hN, hA, hK⟩ := id C
  intro v0 s0 H locs ls h hP hD hS hl
  unfold df_X10_emptyPipe_0 at h
  refine lv_aload_n hx hb dX10_emptyPipe_0 rfl (lv_at hl 0 rfl) ?_
  refine va_get (D := (dC, dI)) (ci := 11) (v := .ref (a 3)) (C := RX10) (T := TX10) (N := 11) hx hb hts hi_dm_X10_emptyPipe_X10 hown hK hP 0 rfl rfl 2 (by decide) (hts (.fieldLink RX10 18 "TimeMachine$Things" "pipe" "[I") (List.mem_of_getElem? (i := 1) rfl)) (fun _ h9 => h9) rfl dX10_emptyPipe_1 ?_
  refine lv_iload_n hx hb dX10_emptyPipe_4 rfl (lv_at hl 1 rfl) ?_
  refine lv_iconst (v := 4) hx hb dX10_emptyPipe_5 (by decide) ?_
  refine lv_imul hx hb dX10_emptyPipe_6 ?_
  refine lv_iconst (v := 0) hx hb dX10_emptyPipe_7 (by decide) ?_
  refine lv_iadd hx hb dX10_emptyPipe_8 ?_
  refine lv_iconst (v := 0) hx hb dX10_emptyPipe_9 (by decide) ?_
  obtain ⟨i1, h⟩ := nd_ck_e h
  refine va_iast (i := ((v0 * 4) + 0)) (x := 0) hx hb hK hP hD hS 3 2 rfl rfl i1 dX10_emptyPipe_10 (fun H locs hP hD hS => ?_)
  obtain ⟨s2, es2, h⟩ := nd_let_e h
  have hP : va_P (dC, dI) vwCl (dw_X10 a ac s2) H := by rw [es2]; exact hP
  have hD : va_D A (dw_X10 a ac s2) := by rw [es2]; exact hD
  refine lv_aload_n hx hb dX10_emptyPipe_11 rfl (lv_at hl 0 rfl) ?_
  refine va_get (D := (dC, dI)) (ci := 11) (v := .ref (a 3)) (C := RX10) (T := TX10) (N := 11) hx hb hts hi_dm_X10_emptyPipe_X10 hown hK hP 0 rfl rfl 2 (by decide) (hts (.fieldLink RX10 18 "TimeMachine$Things" "pipe" "[I") (List.mem_of_getElem? (i := 1) rfl)) (fun _ h9 => h9) rfl dX10_emptyPipe_12 ?_
  refine lv_iload_n hx hb dX10_emptyPipe_15 rfl (lv_at hl 1 rfl) ?_
  refine lv_iconst (v := 4) hx hb dX10_emptyPipe_16 (by decide) ?_
  refine lv_imul hx hb dX10_emptyPipe_17 ?_
  refine lv_iconst (v := 3) hx hb dX10_emptyPipe_18 (by decide) ?_
  refine lv_iadd hx hb dX10_emptyPipe_19 ?_
  refine lv_iconst (v := 0) hx hb dX10_emptyPipe_20 (by decide) ?_
  obtain ⟨i3, h⟩ := nd_ck_e h
  refine va_iast (i := ((v0 * 4) + 3)) (x := 0) hx hb hK hP hD hS 3 2 rfl rfl i3 dX10_emptyPipe_21 (fun H locs hP hD hS => ?_)
  obtain ⟨s4, es4, h⟩ := nd_let_e h
  have hP : va_P (dC, dI) vwCl (dw_X10 a ac s4) H := by rw [es4]; exact hP
  have hD : va_D A (dw_X10 a ac s4) := by rw [es4]; exact hD
  exact K _ _ _ _ _ dX10_emptyPipe_22 (Option.some.inj h).symm hP hD hS
set_option maxHeartbeats 40000000 in
set_option maxRecDepth 100000 in
theorem dm_X10_emptyPipe (l : Launch) (hlt : l.stackTraces = false) (dC : Nat → ClassId) (dI : Nat → Nat → Nat) (a : Nat → Nat) (ac : Nat → ClassId) (n : Nat) (v0 : Int32) (s0 : St) {r : St} (h : df_X10_emptyPipe n v0 s0 = some r) (sz : Nat) : Met l yX10_emptyPipe ow_dm_X10_emptyPipe ({ frames := 0, cells := 0, slots := 0, locals := 0 }) (va_Pc [.ref (a 0), .int v0] (fun U => U.heap.size = sz ∧ va_P (dC, dI) vwCl (dw_X10 a ac s0) U.heap ∧ va_K (dC, dI) vwCl (dk_X10 ac) U ∧ va_D (fun _ => True) (dw_X10 a ac s0) ∧ nv_E (va_A (dw_X10 a ac s0) sz) U)) (va_Qv (fun _ => True) (fun (_ : Unit) t => va_P (dC, dI) vwCl (dw_X10 a ac r) t.heap ∧ va_K (dC, dI) vwCl (dk_X10 ac) t ∧ va_D (va_A (dw_X10 a ac s0) sz) (dw_X10 a ac r)) (va_A (dw_X10 a ac s0) sz)) 0 0 (va_A (dw_X10 a ac s0) sz) := by
  refine Met.ofW (cc := cX10_emptyPipe) (maxL := 2) (ret := none) (by decide) rfl ?_
  intro p e s m args below meth c s₁ B hml hv
  obtain ⟨rfl, hsz, hP, hK, hD0, hN⟩ := hv
  have hx := B.exec
  have hb := B.bytes
  have hr := B.returns
  have hts := atoms_spec (ws := ow_dm_X10_emptyPipe) B.pre
  have hown : s.vm.findClass RX10 = some m.cls := findClass_of_methodNamed B.named
  have hlocks := B.notSynchronized
  subst hsz
  have hD := hD0.self (sz := s.heap.size)
  generalize hAe : va_A (dw_X10 a ac s0) s.heap.size = A at hD hN ⊢
  have hA : ∀ q : Nat, s.heap.size ≤ q → A q := fun q h => by rw [← hAe]; exact Or.inr h
  have hl := lv_entry ([.ref (a 0), .int v0]) (n := 2) (Nat.le_of_ble_eq_true rfl)
  rw [lg_entry_eq]
  generalize (lg_sl ([.ref (a 0), .int v0]) ++ List.replicate (2 - (lg_sl ([.ref (a 0), .int v0])).length) Slot.unset).toArray = ls at hl ⊢
  have hl : lv_has ls 2 [(0, .ref (a 0)), (1, .int v0)] := hl
  exact db_X10_emptyPipe_0 (dC := dC) (dI := dI) (a := a) (ac := ac) (n := n) (r := r) ⟨hlt, hx, hb, hml, hown, hts, hN, hA, hK⟩ (fun pc τ H locs ls d er hP hD hS => by subst er; exact W.vret hx hb hr (fun t ht hW => ⟨⟨(), rfl, trivial, by rw [ht]; exact hP, va_K.moved hW.alike hK, hD⟩, hS.F ht⟩) hS.2.2 d) v0 s0 _ _ _ h hP hD va_S.rf (lv_sub hl [0, 1] rfl)
def ow_dm_X10_isBroken : List Cond := .code yX10_isBroken cX10_isBroken 2 (some .boolean) :: ([.methodLink RX10 74 yX10_of, .instanceMethod yX10_of, .selects RX10 yX10_of yX10_of, .initialized RX10, .fieldLink RX10 18 "TimeMachine$Things" "pipe" "[I"] ++ (u_ws RX10 TX10 11 ++ (ow_dm_X10_of ++ [])))
theorem gd_dm_X10_isBroken : ∀ w ∈ ow_dm_X10_isBroken, (w.onTables && w.keeps) = true ∨ ∃ ty, w = Cond.arrayClass ty := List.forall_mem_cons.mpr ⟨good_of_word rfl, List.forall_mem_append.mpr ⟨fun w h => good_of_word (List.all_eq_true.mp (by decide +kernel) w h), List.forall_mem_append.mpr ⟨gu_X10, List.forall_mem_append.mpr ⟨gd_dm_X10_of, fun _ h => nomatch h⟩⟩⟩⟩
theorem hi_dm_X10_isBroken_X10 : ∀ w ∈ u_ws RX10 TX10 11, w ∈ ow_dm_X10_isBroken := fun w h => List.mem_cons_of_mem _ (List.mem_append_right _ (List.mem_append_left _ h))
theorem gi_dm_X10_isBroken_0 : GoodIn ow_dm_X10_isBroken (wsV RX10 74 RX10 yX10_of ow_dm_X10_of) := goodIn_app (goodIn_of _ (by decide +kernel)) (fun w h => ⟨List.mem_cons_of_mem _ (List.mem_append_right _ (List.mem_append_right _ (List.mem_append_left _ h))), gd_dm_X10_of w h⟩)
def dj_X10_isBroken_33 (p : Program) (l : Launch) (e : Env) (s : State) (m : MethodId) (args : Array Value) (below : List Frame) (meth : Method) (c : Code) (Q : State → Prop) (A : Nat → Prop) (dC : Nat → ClassId) (dI : Nat → Nat → Nat) (a : Nat → Nat) (ac : Nat → ClassId) (g : Int32 → (St) → Option (Int32 × (St))) (r : Int32 × (St)) : Prop := ∀ (y0 : Int32) (s0 : St) (H : Heap) (locs : List Loc) (ls : Array Slot), g y0 s0 = some r → va_P (dC, dI) vwCl (dw_X10 a ac s0) H → va_D A (dw_X10 a ac s0) → va_S A s.heap H locs → lv_has ls 2 [] → W p l e (headSpec ow_dm_X10_isBroken ({ frames := 1, cells := 0, slots := 0, locals := 22 })).room s m args below meth c H locs 0 0 Q (F0 m 33 ls [.int y0])
def dj_X10_isBroken_32 (p : Program) (l : Launch) (e : Env) (s : State) (m : MethodId) (args : Array Value) (below : List Frame) (meth : Method) (c : Code) (Q : State → Prop) (A : Nat → Prop) (dC : Nat → ClassId) (dI : Nat → Nat → Nat) (a : Nat → Nat) (ac : Nat → ClassId) (g : (St) → Option (Int32 × (St))) (r : Int32 × (St)) : Prop := ∀ (s0 : St) (H : Heap) (locs : List Loc) (ls : Array Slot), g s0 = some r → va_P (dC, dI) vwCl (dw_X10 a ac s0) H → va_D A (dw_X10 a ac s0) → va_S A s.heap H locs → lv_has ls 2 [] → W p l e (headSpec ow_dm_X10_isBroken ({ frames := 1, cells := 0, slots := 0, locals := 22 })).room s m args below meth c H locs 0 0 Q (F0 m 32 ls [])
def dj_X10_isBroken_0 (p : Program) (l : Launch) (e : Env) (s : State) (m : MethodId) (args : Array Value) (below : List Frame) (meth : Method) (c : Code) (Q : State → Prop) (A : Nat → Prop) (dC : Nat → ClassId) (dI : Nat → Nat → Nat) (a : Nat → Nat) (ac : Nat → ClassId) (g : Int32 → (St) → Option (Int32 × (St))) (r : Int32 × (St)) : Prop := ∀ (v0 : Int32) (s0 : St) (H : Heap) (locs : List Loc) (ls : Array Slot), g v0 s0 = some r → va_P (dC, dI) vwCl (dw_X10 a ac s0) H → va_D A (dw_X10 a ac s0) → va_S A s.heap H locs → lv_has ls 2 [(0, .ref (a 0)), (1, .int v0)] → W p l e (headSpec ow_dm_X10_isBroken ({ frames := 1, cells := 0, slots := 0, locals := 22 })).room s m args below meth c H locs 0 0 Q (F0 m 0 ls [])
set_option maxHeartbeats 40000000 in
set_option maxRecDepth 100000 in
theorem db_X10_isBroken_33 {p : Program} {l : Launch} {e : Env} {s : State} {m : MethodId} {args : Array Value} {below : List Frame} {meth : Method} {c : Code} {Q : State → Prop} {A : Nat → Prop} {dC : Nat → ClassId} {dI : Nat → Nat → Nat} {a : Nat → Nat} {ac : Nat → ClassId} {n : Nat} {r : Int32 × (St)} (C : nd_C p l s m args c A (dC, dI) cX10_isBroken 2 RX10 ow_dm_X10_isBroken (dk_X10 ac)) (K : nd_Ki p l e (headSpec ow_dm_X10_isBroken ({ frames := 1, cells := 0, slots := 0, locals := 22 })).room s m args below meth c Q A (dC, dI) cX10_isBroken .boolean (St) (dw_X10 a ac) r) : dj_X10_isBroken_33 p l e s m args below meth c Q A dC dI a ac (df_X10_isBroken_33 n) r := by
  obtain ⟨hlt, hx, hb, hml, hown, hts, hN, hA, hK⟩ := id C
  intro y0 s0 H locs ls h hP hD hS hl
  unfold df_X10_isBroken_33 at h
  obtain ⟨n5, h⟩ := nd_z_e ⟨_, rfl⟩ h
  exact K _ _ _ _ _ _ dX10_isBroken_33 n5 (Option.some.inj h).symm hP hD hS
set_option maxHeartbeats 40000000 in
set_option maxRecDepth 100000 in
theorem db_X10_isBroken_32 {p : Program} {l : Launch} {e : Env} {s : State} {m : MethodId} {args : Array Value} {below : List Frame} {meth : Method} {c : Code} {Q : State → Prop} {A : Nat → Prop} {dC : Nat → ClassId} {dI : Nat → Nat → Nat} {a : Nat → Nat} {ac : Nat → ClassId} {n : Nat} {r : Int32 × (St)} (C : nd_C p l s m args c A (dC, dI) cX10_isBroken 2 RX10 ow_dm_X10_isBroken (dk_X10 ac)) (K : nd_Ki p l e (headSpec ow_dm_X10_isBroken ({ frames := 1, cells := 0, slots := 0, locals := 22 })).room s m args below meth c Q A (dC, dI) cX10_isBroken .boolean (St) (dw_X10 a ac) r) : dj_X10_isBroken_32 p l e s m args below meth c Q A dC dI a ac (df_X10_isBroken_32 n) r := by
  obtain ⟨hlt, hx, hb, hml, hown, hts, hN, hA, hK⟩ := id C
  intro s0 H locs ls h hP hD hS hl
  unfold df_X10_isBroken_32 at h
  refine lv_iconst (v := 0) hx hb dX10_isBroken_32 (by decide) ?_
  exact (db_X10_isBroken_33 C K) (0) s0 _ _ _ h hP hD hS (lv_sub hl [] rfl)
set_option maxHeartbeats 40000000 in
set_option maxRecDepth 100000 in
theorem db_X10_isBroken_0 {p : Program} {l : Launch} {e : Env} {s : State} {m : MethodId} {args : Array Value} {below : List Frame} {meth : Method} {c : Code} {Q : State → Prop} {A : Nat → Prop} {dC : Nat → ClassId} {dI : Nat → Nat → Nat} {a : Nat → Nat} {ac : Nat → ClassId} {n : Nat} {r : Int32 × (St)} (C : nd_C p l s m args c A (dC, dI) cX10_isBroken 2 RX10 ow_dm_X10_isBroken (dk_X10 ac)) (K : nd_Ki p l e (headSpec ow_dm_X10_isBroken ({ frames := 1, cells := 0, slots := 0, locals := 22 })).room s m args below meth c Q A (dC, dI) cX10_isBroken .boolean (St) (dw_X10 a ac) r) : dj_X10_isBroken_0 p l e s m args below meth c Q A dC dI a ac (df_X10_isBroken_0 n) r := by
  obtain ⟨hlt, hx, hb, hml, hown, hts, hN, hA, hK⟩ := id C
  intro v0 s0 H locs ls h hP hD hS hl
  unfold df_X10_isBroken_0 at h
  refine lv_aload_n hx hb dX10_isBroken_0 rfl (lv_at hl 0 rfl) ?_
  refine lv_iload_n hx hb dX10_isBroken_1 rfl (lv_at hl 1 rfl) ?_
  refine lv_iconst (v := 0) hx hb dX10_isBroken_2 (by decide) ?_
  obtain ⟨q1, s2, hq, h⟩ := nd_b2_e h
  have hPc := hP
  have hDc := hD
  have hKc := hK
  have hFc := nd_rs hD hS hA
  refine nd_cVi (As := [.int v0, .int 0]) (rest := []) (q := q1) (w' := dw_X10 a ac s2) ⟨hx, hb, hml, hown, hts⟩ (fun sz => dm_X10_of l hlt dC dI a ac n (v0) (0) s0 hq sz) (cwV 2 hts gi_dm_X10_isBroken_0 rfl rfl rfl (by decide +kernel) ⟨Nat.le_of_ble_eq_true rfl, Nat.le_of_ble_eq_true rfl⟩) hPc hDc hKc hS hA hN (va_recv hKc hPc (ci := 11) (q0 := 0) rfl rfl) rfl hl.1 rfl (Nat.le_of_ble_eq_true rfl) dX10_isBroken_3 (fun H locs hP1 hD1 hk1 hS => ?_)
  have hP := hP1
  have hD := hD1.weaken (fun k q _ h => hFc q.1 h)
  refine lv_iconst (v := 2) hx hb dX10_isBroken_6 (by decide) ?_
  refine lv_icmp_ne (tgt := 32) hx hb dX10_isBroken_7 (by decide) (fun c4 => ?_) (fun c4 => ?_)
  · have h := nd_neg h c4
    exact (db_X10_isBroken_32 C K)  s2 _ _ _ h hP hD hS (lv_sub hl [] rfl)
  · have h := nd_pos h c4
    refine lv_aload_n hx hb dX10_isBroken_10 rfl (lv_at hl 0 rfl) ?_
    refine va_get (D := (dC, dI)) (ci := 11) (v := .ref (a 3)) (C := RX10) (T := TX10) (N := 11) hx hb hts hi_dm_X10_isBroken_X10 hown hK hP 0 rfl rfl 2 (by decide) (hts (.fieldLink RX10 18 "TimeMachine$Things" "pipe" "[I") (List.mem_of_getElem? (i := 5) rfl)) (fun _ h9 => h9) rfl dX10_isBroken_11 ?_
    refine lv_aload_n hx hb dX10_isBroken_14 rfl (lv_at hl 0 rfl) ?_
    refine lv_iload_n hx hb dX10_isBroken_15 rfl (lv_at hl 1 rfl) ?_
    refine lv_iconst (v := 2) hx hb dX10_isBroken_16 (by decide) ?_
    obtain ⟨q6, s7, hq, h⟩ := nd_b2_e h
    have hPc := hP
    have hDc := hD
    have hKc := hK
    have hFc := nd_rs hD hS hA
    refine nd_cVi (As := [.int v0, .int 2]) (rest := [.ref (a 3)]) (q := q6) (w' := dw_X10 a ac s7) ⟨hx, hb, hml, hown, hts⟩ (fun sz => dm_X10_of l hlt dC dI a ac n (v0) (2) s2 hq sz) (cwV 2 hts gi_dm_X10_isBroken_0 rfl rfl rfl (by decide +kernel) ⟨Nat.le_of_ble_eq_true rfl, Nat.le_of_ble_eq_true rfl⟩) hPc hDc hKc hS hA hN (va_recv hKc hPc (ci := 11) (q0 := 0) rfl rfl) rfl hl.1 rfl (Nat.le_of_ble_eq_true rfl) dX10_isBroken_17 (fun H locs hP1 hD1 hk1 hS => ?_)
    have hP := hP1
    have hD := hD1.weaken (fun k q _ h => hFc q.1 h)
    refine lv_iconst (v := 4) hx hb dX10_isBroken_20 (by decide) ?_
    refine lv_imul hx hb dX10_isBroken_21 ?_
    refine lv_iconst (v := 1) hx hb dX10_isBroken_22 (by decide) ?_
    refine lv_iadd hx hb dX10_isBroken_23 ?_
    obtain ⟨i9, h⟩ := nd_ck_e h
    refine va_iald (i := ((q6 * 4) + 1)) hx hb hK hP 3 2 rfl rfl i9 dX10_isBroken_24 ?_
    refine lv_if_ne (tgt := 32) hx hb dX10_isBroken_25 (by decide) (fun c10 => ?_) (fun c10 => ?_)
    · have h := nd_neg h c10
      exact (db_X10_isBroken_32 C K)  s7 _ _ _ h hP hD hS (lv_sub hl [] rfl)
    · have h := nd_pos h c10
      refine lv_iconst (v := 1) hx hb dX10_isBroken_28 (by decide) ?_
      refine lv_goto (tgt := 33) hx hb dX10_isBroken_29 (by decide) ?_
      exact (db_X10_isBroken_33 C K) (1) s7 _ _ _ h hP hD hS (lv_sub hl [] rfl)
set_option maxHeartbeats 40000000 in
set_option maxRecDepth 100000 in
theorem dm_X10_isBroken (l : Launch) (hlt : l.stackTraces = false) (dC : Nat → ClassId) (dI : Nat → Nat → Nat) (a : Nat → Nat) (ac : Nat → ClassId) (n : Nat) (v0 : Int32) (s0 : St) {r : Int32 × (St)} (h : df_X10_isBroken n v0 s0 = some r) (sz : Nat) : Met l yX10_isBroken ow_dm_X10_isBroken ({ frames := 1, cells := 0, slots := 0, locals := 22 }) (va_Pc [.ref (a 0), .int v0] (fun U => U.heap.size = sz ∧ va_P (dC, dI) vwCl (dw_X10 a ac s0) U.heap ∧ va_K (dC, dI) vwCl (dk_X10 ac) U ∧ va_D (fun _ => True) (dw_X10 a ac s0) ∧ nv_E (va_A (dw_X10 a ac s0) sz) U)) (va_Qi (fun x _ => x = r.1) (fun (_ : Unit) t => va_P (dC, dI) vwCl (dw_X10 a ac r.2) t.heap ∧ va_K (dC, dI) vwCl (dk_X10 ac) t ∧ va_D (va_A (dw_X10 a ac s0) sz) (dw_X10 a ac r.2)) (va_A (dw_X10 a ac s0) sz)) 0 0 (va_A (dw_X10 a ac s0) sz) := by
  refine Met.ofW (cc := cX10_isBroken) (maxL := 2) (ret := (some .boolean)) (by decide) rfl ?_
  intro p e s m args below meth c s₁ B hml hv
  obtain ⟨rfl, hsz, hP, hK, hD0, hN⟩ := hv
  have hx := B.exec
  have hb := B.bytes
  have hr := B.returns
  have hts := atoms_spec (ws := ow_dm_X10_isBroken) B.pre
  have hown : s.vm.findClass RX10 = some m.cls := findClass_of_methodNamed B.named
  have hlocks := B.notSynchronized
  subst hsz
  have hD := hD0.self (sz := s.heap.size)
  generalize hAe : va_A (dw_X10 a ac s0) s.heap.size = A at hD hN ⊢
  have hA : ∀ q : Nat, s.heap.size ≤ q → A q := fun q h => by rw [← hAe]; exact Or.inr h
  have hl := lv_entry ([.ref (a 0), .int v0]) (n := 2) (Nat.le_of_ble_eq_true rfl)
  rw [lg_entry_eq]
  generalize (lg_sl ([.ref (a 0), .int v0]) ++ List.replicate (2 - (lg_sl ([.ref (a 0), .int v0])).length) Slot.unset).toArray = ls at hl ⊢
  have hl : lv_has ls 2 [(0, .ref (a 0)), (1, .int v0)] := hl
  exact db_X10_isBroken_0 (dC := dC) (dI := dI) (a := a) (ac := ac) (n := n) (r := r) ⟨hlt, hx, hb, hml, hown, hts, hN, hA, hK⟩ (fun pc v τ H locs ls d z er hP hD hS => by subst er; exact W.zret (v := v) hx hb hr z (fun t ht hW => ⟨⟨v, (), rfl, rfl, by rw [ht]; exact hP, va_K.moved hW.alike hK, hD⟩, hS.F ht⟩) hS.2.2 d) v0 s0 _ _ _ h hP hD va_S.rf (lv_sub hl [0, 1] rfl)
def ow_dm_X10_fileNamed : List Cond := .code yX10_fileNamed cX10_fileNamed 5 (some .int) :: ([.fieldLink RX10 25 "TimeMachine$Things" "file" "[I", .fieldLink RX10 31 "TimeMachine$Things" "names" "[B"] ++ (u_ws RX10 TX10 11 ++ []))
theorem gd_dm_X10_fileNamed : ∀ w ∈ ow_dm_X10_fileNamed, (w.onTables && w.keeps) = true ∨ ∃ ty, w = Cond.arrayClass ty := List.forall_mem_cons.mpr ⟨good_of_word rfl, List.forall_mem_append.mpr ⟨fun w h => good_of_word (List.all_eq_true.mp (by decide +kernel) w h), List.forall_mem_append.mpr ⟨gu_X10, fun _ h => nomatch h⟩⟩⟩
theorem hi_dm_X10_fileNamed_X10 : ∀ w ∈ u_ws RX10 TX10 11, w ∈ ow_dm_X10_fileNamed := fun w h => List.mem_cons_of_mem _ (List.mem_append_right _ (List.mem_append_left _ h))
def dj_X10_fileNamed_72 (p : Program) (l : Launch) (e : Env) (s : State) (m : MethodId) (args : Array Value) (below : List Frame) (meth : Method) (c : Code) (Q : State → Prop) (A : Nat → Prop) (dC : Nat → ClassId) (dI : Nat → Nat → Nat) (a : Nat → Nat) (ac : Nat → ClassId) (g : Int32 → Int32 → (St × (St)) → Option (Int32 × (St × (St)))) (r : Int32 × (St × (St))) : Prop := ∀ (x2 : Int32) (x3 : Int32) (s0 : St × (St)) (H : Heap) (locs : List Loc) (ls : Array Slot), g x2 x3 s0 = some r → va_P (dC, dI) vwCl (dw_X10n a ac s0) H → va_D A (dw_X10n a ac s0) → va_S A s.heap H locs → lv_has ls 5 [(0, .ref (a 1)), (1, .ref (a 0)), (2, .int x2), (3, .int x3)] → W p l e (headSpec ow_dm_X10_fileNamed ({ frames := 0, cells := 0, slots := 0, locals := 0 })).room s m args below meth c H locs 0 0 Q (F0 m 72 ls [])
def dj_X10_fileNamed_65 (p : Program) (l : Launch) (e : Env) (s : State) (m : MethodId) (args : Array Value) (below : List Frame) (meth : Method) (c : Code) (Q : State → Prop) (A : Nat → Prop) (dC : Nat → ClassId) (dI : Nat → Nat → Nat) (a : Nat → Nat) (ac : Nat → ClassId) (g : Int32 → Int32 → Int32 → (St × (St)) → Option (Int32 × (St × (St)))) (r : Int32 × (St × (St))) : Prop := ∀ (x2 : Int32) (x4 : Int32) (y0 : Int32) (s0 : St × (St)) (H : Heap) (locs : List Loc) (ls : Array Slot), g x2 x4 y0 s0 = some r → va_P (dC, dI) vwCl (dw_X10n a ac s0) H → va_D A (dw_X10n a ac s0) → va_S A s.heap H locs → lv_has ls 5 [(0, .ref (a 1)), (1, .ref (a 0)), (2, .int x2), (4, .int x4)] → W p l e (headSpec ow_dm_X10_fileNamed ({ frames := 0, cells := 0, slots := 0, locals := 0 })).room s m args below meth c H locs 0 0 Q (F0 m 65 ls [.int y0])
def dj_X10_fileNamed_30 (p : Program) (l : Launch) (e : Env) (s : State) (m : MethodId) (args : Array Value) (below : List Frame) (meth : Method) (c : Code) (Q : State → Prop) (A : Nat → Prop) (dC : Nat → ClassId) (dI : Nat → Nat → Nat) (a : Nat → Nat) (ac : Nat → ClassId) (g : Int32 → Int32 → Int32 → (St × (St)) → Option (Int32 × (St × (St)))) (r : Int32 × (St × (St))) : Prop := ∀ (x2 : Int32) (x3 : Int32) (x4 : Int32) (s0 : St × (St)) (H : Heap) (locs : List Loc) (ls : Array Slot), g x2 x3 x4 s0 = some r → va_P (dC, dI) vwCl (dw_X10n a ac s0) H → va_D A (dw_X10n a ac s0) → va_S A s.heap H locs → lv_has ls 5 [(0, .ref (a 1)), (1, .ref (a 0)), (2, .int x2), (3, .int x3), (4, .int x4)] → W p l e (headSpec ow_dm_X10_fileNamed ({ frames := 0, cells := 0, slots := 0, locals := 0 })).room s m args below meth c H locs 0 0 Q (F0 m 30 ls [])
def dj_X10_fileNamed_26 (p : Program) (l : Launch) (e : Env) (s : State) (m : MethodId) (args : Array Value) (below : List Frame) (meth : Method) (c : Code) (Q : State → Prop) (A : Nat → Prop) (dC : Nat → ClassId) (dI : Nat → Nat → Nat) (a : Nat → Nat) (ac : Nat → ClassId) (g : Int32 → Int32 → (St × (St)) → Option (Int32 × (St × (St)))) (r : Int32 × (St × (St))) : Prop := ∀ (x2 : Int32) (y0 : Int32) (s0 : St × (St)) (H : Heap) (locs : List Loc) (ls : Array Slot), g x2 y0 s0 = some r → va_P (dC, dI) vwCl (dw_X10n a ac s0) H → va_D A (dw_X10n a ac s0) → va_S A s.heap H locs → lv_has ls 5 [(0, .ref (a 1)), (1, .ref (a 0)), (2, .int x2)] → W p l e (headSpec ow_dm_X10_fileNamed ({ frames := 0, cells := 0, slots := 0, locals := 0 })).room s m args below meth c H locs 0 0 Q (F0 m 26 ls [.int y0])
def dj_X10_fileNamed_2 (p : Program) (l : Launch) (e : Env) (s : State) (m : MethodId) (args : Array Value) (below : List Frame) (meth : Method) (c : Code) (Q : State → Prop) (A : Nat → Prop) (dC : Nat → ClassId) (dI : Nat → Nat → Nat) (a : Nat → Nat) (ac : Nat → ClassId) (g : Int32 → (St × (St)) → Option (Int32 × (St × (St)))) (r : Int32 × (St × (St))) : Prop := ∀ (x2 : Int32) (s0 : St × (St)) (H : Heap) (locs : List Loc) (ls : Array Slot), g x2 s0 = some r → va_P (dC, dI) vwCl (dw_X10n a ac s0) H → va_D A (dw_X10n a ac s0) → va_S A s.heap H locs → lv_has ls 5 [(0, .ref (a 1)), (1, .ref (a 0)), (2, .int x2)] → W p l e (headSpec ow_dm_X10_fileNamed ({ frames := 0, cells := 0, slots := 0, locals := 0 })).room s m args below meth c H locs 0 0 Q (F0 m 2 ls [])
def dj_X10_fileNamed_0 (p : Program) (l : Launch) (e : Env) (s : State) (m : MethodId) (args : Array Value) (below : List Frame) (meth : Method) (c : Code) (Q : State → Prop) (A : Nat → Prop) (dC : Nat → ClassId) (dI : Nat → Nat → Nat) (a : Nat → Nat) (ac : Nat → ClassId) (g : (St × (St)) → Option (Int32 × (St × (St)))) (r : Int32 × (St × (St))) : Prop := ∀ (s0 : St × (St)) (H : Heap) (locs : List Loc) (ls : Array Slot), g s0 = some r → va_P (dC, dI) vwCl (dw_X10n a ac s0) H → va_D A (dw_X10n a ac s0) → va_S A s.heap H locs → lv_has ls 5 [(0, .ref (a 1)), (1, .ref (a 0))] → W p l e (headSpec ow_dm_X10_fileNamed ({ frames := 0, cells := 0, slots := 0, locals := 0 })).room s m args below meth c H locs 0 0 Q (F0 m 0 ls [])
set_option maxHeartbeats 40000000 in
set_option maxRecDepth 100000 in
theorem db_X10_fileNamed_72 {p : Program} {l : Launch} {e : Env} {s : State} {m : MethodId} {args : Array Value} {below : List Frame} {meth : Method} {c : Code} {Q : State → Prop} {A : Nat → Prop} {dC : Nat → ClassId} {dI : Nat → Nat → Nat} {a : Nat → Nat} {ac : Nat → ClassId} {n : Nat} {r : Int32 × (St × (St))} (C : nd_C p l s m args c A (dC, dI) cX10_fileNamed 5 RX10 ow_dm_X10_fileNamed (dk_X10n ac)) (K : nd_Ki p l e (headSpec ow_dm_X10_fileNamed ({ frames := 0, cells := 0, slots := 0, locals := 0 })).room s m args below meth c Q A (dC, dI) cX10_fileNamed .int (St × (St)) (dw_X10n a ac) r) {g2 : Int32 → (St × (St)) → Option (Int32 × (St × (St)))} (J2 : dj_X10_fileNamed_2 p l e s m args below meth c Q A dC dI a ac g2 r) : dj_X10_fileNamed_72 p l e s m args below meth c Q A dC dI a ac (df_X10_fileNamed_72 n g2) r := by
  obtain ⟨hlt, hx, hb, hml, hown, hts, hN, hA, hK⟩ := id C
  intro x2 x3 s0 H locs ls h hP hD hS hl
  unfold df_X10_fileNamed_72 at h
  refine lv_iload_n hx hb dX10_fileNamed_72 rfl (lv_at hl 3 rfl) ?_
  refine lv_if_eq (tgt := 78) hx hb dX10_fileNamed_73 (by decide) (fun c5 => ?_) (fun c5 => ?_)
  · have h := nd_pos h c5
    obtain ⟨z6, ez6, h⟩ := nd_let_e h
    refine lv_iinc (v := z6) (lv' := [(2, .int z6), (0, .ref (a 1)), (1, .ref (a 0)), (3, .int x3)]) hx hb dX10_fileNamed_78 hl (k := 2) rfl (by rw [ez6]) (by decide) rfl (fun ls hl => ?_)
    refine lv_goto (tgt := 2) hx hb dX10_fileNamed_81 (by decide) ?_
    exact (J2) (z6) s0 _ _ _ h hP hD hS (lv_sub hl [1, 2, 0] rfl)
  · have h := nd_neg h c5
    refine lv_iload_n hx hb dX10_fileNamed_76 rfl (lv_at hl 2 rfl) ?_
    exact K _ _ _ _ _ _ dX10_fileNamed_77 rfl (Option.some.inj h).symm hP hD hS
set_option maxHeartbeats 40000000 in
set_option maxRecDepth 100000 in
theorem db_X10_fileNamed_65 {p : Program} {l : Launch} {e : Env} {s : State} {m : MethodId} {args : Array Value} {below : List Frame} {meth : Method} {c : Code} {Q : State → Prop} {A : Nat → Prop} {dC : Nat → ClassId} {dI : Nat → Nat → Nat} {a : Nat → Nat} {ac : Nat → ClassId} {n : Nat} {r : Int32 × (St × (St))} (C : nd_C p l s m args c A (dC, dI) cX10_fileNamed 5 RX10 ow_dm_X10_fileNamed (dk_X10n ac)) (K : nd_Ki p l e (headSpec ow_dm_X10_fileNamed ({ frames := 0, cells := 0, slots := 0, locals := 0 })).room s m args below meth c Q A (dC, dI) cX10_fileNamed .int (St × (St)) (dw_X10n a ac) r) {g2 : Int32 → (St × (St)) → Option (Int32 × (St × (St)))} {g30 : Int32 → Int32 → Int32 → (St × (St)) → Option (Int32 × (St × (St)))} (J2 : dj_X10_fileNamed_2 p l e s m args below meth c Q A dC dI a ac g2 r) (J30 : dj_X10_fileNamed_30 p l e s m args below meth c Q A dC dI a ac g30 r) : dj_X10_fileNamed_65 p l e s m args below meth c Q A dC dI a ac (df_X10_fileNamed_65 n g2 g30) r := by
  obtain ⟨hlt, hx, hb, hml, hown, hts, hN, hA, hK⟩ := id C
  intro x2 x4 y0 s0 H locs ls h hP hD hS hl
  unfold df_X10_fileNamed_65 at h
  refine lv_istore_n (lv' := [(3, .int y0), (0, .ref (a 1)), (1, .ref (a 0)), (2, .int x2), (4, .int x4)]) hx hb dX10_fileNamed_65 rfl hl (by decide) rfl (fun ls hl => ?_)
  obtain ⟨z11, ez11, h⟩ := nd_let_e h
  refine lv_iinc (v := z11) (lv' := [(4, .int z11), (3, .int y0), (0, .ref (a 1)), (1, .ref (a 0)), (2, .int x2)]) hx hb dX10_fileNamed_66 hl (k := 4) rfl (by rw [ez11]) (by decide) rfl (fun ls hl => ?_)
  refine lv_goto (tgt := 30) hx hb dX10_fileNamed_69 (by decide) ?_
  exact (J30) (x2) (y0) (z11) s0 _ _ _ h hP hD hS (lv_sub hl [2, 3, 4, 1, 0] rfl)
set_option maxHeartbeats 40000000 in
set_option maxRecDepth 100000 in
theorem dB_X10_fileNamed_30 {p : Program} {l : Launch} {e : Env} {s : State} {m : MethodId} {args : Array Value} {below : List Frame} {meth : Method} {c : Code} {Q : State → Prop} {A : Nat → Prop} {dC : Nat → ClassId} {dI : Nat → Nat → Nat} {a : Nat → Nat} {ac : Nat → ClassId} {n : Nat} {r : Int32 × (St × (St))} (C : nd_C p l s m args c A (dC, dI) cX10_fileNamed 5 RX10 ow_dm_X10_fileNamed (dk_X10n ac)) (K : nd_Ki p l e (headSpec ow_dm_X10_fileNamed ({ frames := 0, cells := 0, slots := 0, locals := 0 })).room s m args below meth c Q A (dC, dI) cX10_fileNamed .int (St × (St)) (dw_X10n a ac) r) {g2 : Int32 → (St × (St)) → Option (Int32 × (St × (St)))} (J2 : dj_X10_fileNamed_2 p l e s m args below meth c Q A dC dI a ac g2 r) {g30 : Int32 → Int32 → Int32 → (St × (St)) → Option (Int32 × (St × (St)))} (J30 : dj_X10_fileNamed_30 p l e s m args below meth c Q A dC dI a ac g30 r) : dj_X10_fileNamed_30 p l e s m args below meth c Q A dC dI a ac (dF_X10_fileNamed_30 n g2 g30) r := by
  obtain ⟨hlt, hx, hb, hml, hown, hts, hN, hA, hK⟩ := id C
  intro x2 x3 x4 s0 H locs ls h hP hD hS hl
  unfold dF_X10_fileNamed_30 at h
  refine lv_iload_n hx hb dX10_fileNamed_30 rfl (lv_at hl 3 rfl) ?_
  refine lv_if_eq (tgt := 72) hx hb dX10_fileNamed_31 (by decide) (fun c4 => ?_) (fun c4 => ?_)
  · have h := nd_pos h c4
    exact (db_X10_fileNamed_72 C K J2) (x2) (x3) s0 _ _ _ h hP hD hS (lv_sub hl [0, 1, 2, 3] rfl)
  · have h := nd_neg h c4
    refine lv_iload hx hb dX10_fileNamed_34 (lv_at hl 4 rfl) ?_
    refine lv_bipush (v := 16) hx hb dX10_fileNamed_36 (by decide) ?_
    refine lv_icmp_ge (tgt := 72) hx hb dX10_fileNamed_38 (by decide) (fun c7 => ?_) (fun c7 => ?_)
    · have h := nd_pos h c7
      exact (db_X10_fileNamed_72 C K J2) (x2) (x3) s0 _ _ _ h hP hD hS (lv_sub hl [0, 1, 2, 3] rfl)
    · have h := nd_neg h c7
      refine lv_aload_n hx hb dX10_fileNamed_41 rfl (lv_at hl 0 rfl) ?_
      refine va_get (D := (dC, dI)) (ci := 11) (v := .ref (a 8)) (C := RX10) (T := TX10) (N := 11) hx hb hts hi_dm_X10_fileNamed_X10 hown hK hP 1 rfl rfl 6 (by decide) (hts (.fieldLink RX10 31 "TimeMachine$Things" "names" "[B") (List.mem_of_getElem? (i := 2) rfl)) (fun _ h9 => h9) rfl dX10_fileNamed_42 ?_
      refine lv_iload_n hx hb dX10_fileNamed_45 rfl (lv_at hl 2 rfl) ?_
      refine lv_bipush (v := 16) hx hb dX10_fileNamed_46 (by decide) ?_
      refine lv_imul hx hb dX10_fileNamed_48 ?_
      refine lv_iload hx hb dX10_fileNamed_49 (lv_at hl 4 rfl) ?_
      refine lv_iadd hx hb dX10_fileNamed_51 ?_
      obtain ⟨i8, h⟩ := nd_ck_e h
      refine va_bald (i := ((x2 * 16) + x4)) hx hb hK hP 8 7 rfl rfl i8 dX10_fileNamed_52 ?_
      refine lv_aload_n hx hb dX10_fileNamed_53 rfl (lv_at hl 1 rfl) ?_
      refine lv_iload hx hb dX10_fileNamed_54 (lv_at hl 4 rfl) ?_
      obtain ⟨i9, h⟩ := nd_ck_e h
      refine va_bald (i := x4) hx hb hK hP 0 0 rfl rfl i9 dX10_fileNamed_56 ?_
      refine lv_icmp_ne (tgt := 64) hx hb dX10_fileNamed_57 (by decide) (fun c10 => ?_) (fun c10 => ?_)
      · have h := nd_neg h c10
        refine lv_iconst (v := 0) hx hb dX10_fileNamed_64 (by decide) ?_
        exact (db_X10_fileNamed_65 C K J2 J30) (x2) (x4) (0) s0 _ _ _ h hP hD hS (lv_sub hl [0, 1, 2, 4] rfl)
      · have h := nd_pos h c10
        refine lv_iconst (v := 1) hx hb dX10_fileNamed_60 (by decide) ?_
        refine lv_goto (tgt := 65) hx hb dX10_fileNamed_61 (by decide) ?_
        exact (db_X10_fileNamed_65 C K J2 J30) (x2) (x4) (1) s0 _ _ _ h hP hD hS (lv_sub hl [0, 1, 2, 4] rfl)
set_option maxHeartbeats 40000000 in
set_option maxRecDepth 100000 in
theorem db_X10_fileNamed_30 {p : Program} {l : Launch} {e : Env} {s : State} {m : MethodId} {args : Array Value} {below : List Frame} {meth : Method} {c : Code} {Q : State → Prop} {A : Nat → Prop} {dC : Nat → ClassId} {dI : Nat → Nat → Nat} {a : Nat → Nat} {ac : Nat → ClassId} {n : Nat} {r : Int32 × (St × (St))} (C : nd_C p l s m args c A (dC, dI) cX10_fileNamed 5 RX10 ow_dm_X10_fileNamed (dk_X10n ac)) (K : nd_Ki p l e (headSpec ow_dm_X10_fileNamed ({ frames := 0, cells := 0, slots := 0, locals := 0 })).room s m args below meth c Q A (dC, dI) cX10_fileNamed .int (St × (St)) (dw_X10n a ac) r) {g2 : Int32 → (St × (St)) → Option (Int32 × (St × (St)))} (J2 : dj_X10_fileNamed_2 p l e s m args below meth c Q A dC dI a ac g2 r) (k : Nat) : dj_X10_fileNamed_30 p l e s m args below meth c Q A dC dI a ac (df_X10_fileNamed_30 n g2 k) r := by
  induction k with
  | zero => intro x2 x3 x4 s0 H locs ls h; exact nomatch (show (none : Option (Int32 × (St × (St)))) = some r from h)
  | succ k ih => exact dB_X10_fileNamed_30 C K J2 ih
set_option maxHeartbeats 40000000 in
set_option maxRecDepth 100000 in
theorem db_X10_fileNamed_26 {p : Program} {l : Launch} {e : Env} {s : State} {m : MethodId} {args : Array Value} {below : List Frame} {meth : Method} {c : Code} {Q : State → Prop} {A : Nat → Prop} {dC : Nat → ClassId} {dI : Nat → Nat → Nat} {a : Nat → Nat} {ac : Nat → ClassId} {n : Nat} {r : Int32 × (St × (St))} (C : nd_C p l s m args c A (dC, dI) cX10_fileNamed 5 RX10 ow_dm_X10_fileNamed (dk_X10n ac)) (K : nd_Ki p l e (headSpec ow_dm_X10_fileNamed ({ frames := 0, cells := 0, slots := 0, locals := 0 })).room s m args below meth c Q A (dC, dI) cX10_fileNamed .int (St × (St)) (dw_X10n a ac) r) {g2 : Int32 → (St × (St)) → Option (Int32 × (St × (St)))} (J2 : dj_X10_fileNamed_2 p l e s m args below meth c Q A dC dI a ac g2 r) : dj_X10_fileNamed_26 p l e s m args below meth c Q A dC dI a ac (df_X10_fileNamed_26 n g2) r := by
  obtain ⟨hlt, hx, hb, hml, hown, hts, hN, hA, hK⟩ := id C
  intro x2 y0 s0 H locs ls h hP hD hS hl
  unfold df_X10_fileNamed_26 at h
  refine lv_istore_n (lv' := [(3, .int y0), (0, .ref (a 1)), (1, .ref (a 0)), (2, .int x2)]) hx hb dX10_fileNamed_26 rfl hl (by decide) rfl (fun ls hl => ?_)
  refine lv_iconst (v := 0) hx hb dX10_fileNamed_27 (by decide) ?_
  refine lv_istore (lv' := [(4, .int 0), (3, .int y0), (0, .ref (a 1)), (1, .ref (a 0)), (2, .int x2)]) hx hb dX10_fileNamed_28 hl (by decide) rfl (fun ls hl => ?_)
  exact (db_X10_fileNamed_30 C K J2 n) (x2) (y0) (0) s0 _ _ _ h hP hD hS (lv_sub hl [2, 3, 4, 1, 0] rfl)
set_option maxHeartbeats 40000000 in
set_option maxRecDepth 100000 in
theorem dB_X10_fileNamed_2 {p : Program} {l : Launch} {e : Env} {s : State} {m : MethodId} {args : Array Value} {below : List Frame} {meth : Method} {c : Code} {Q : State → Prop} {A : Nat → Prop} {dC : Nat → ClassId} {dI : Nat → Nat → Nat} {a : Nat → Nat} {ac : Nat → ClassId} {n : Nat} {r : Int32 × (St × (St))} (C : nd_C p l s m args c A (dC, dI) cX10_fileNamed 5 RX10 ow_dm_X10_fileNamed (dk_X10n ac)) (K : nd_Ki p l e (headSpec ow_dm_X10_fileNamed ({ frames := 0, cells := 0, slots := 0, locals := 0 })).room s m args below meth c Q A (dC, dI) cX10_fileNamed .int (St × (St)) (dw_X10n a ac) r) {g2 : Int32 → (St × (St)) → Option (Int32 × (St × (St)))} (J2 : dj_X10_fileNamed_2 p l e s m args below meth c Q A dC dI a ac g2 r) : dj_X10_fileNamed_2 p l e s m args below meth c Q A dC dI a ac (dF_X10_fileNamed_2 n g2) r := by
  obtain ⟨hlt, hx, hb, hml, hown, hts, hN, hA, hK⟩ := id C
  intro x2 s0 H locs ls h hP hD hS hl
  unfold dF_X10_fileNamed_2 at h
  refine lv_iload_n hx hb dX10_fileNamed_2 rfl (lv_at hl 2 rfl) ?_
  refine lv_bipush (v := 16) hx hb dX10_fileNamed_3 (by decide) ?_
  refine lv_icmp_ge (tgt := 84) hx hb dX10_fileNamed_5 (by decide) (fun c1 => ?_) (fun c1 => ?_)
  · have h := nd_pos h c1
    refine lv_iconst (v := (-1)) hx hb dX10_fileNamed_84 (by decide) ?_
    exact K _ _ _ _ _ _ dX10_fileNamed_85 rfl (Option.some.inj h).symm hP hD hS
  · have h := nd_neg h c1
    refine lv_aload_n hx hb dX10_fileNamed_8 rfl (lv_at hl 0 rfl) ?_
    refine va_get (D := (dC, dI)) (ci := 11) (v := .ref (a 6)) (C := RX10) (T := TX10) (N := 11) hx hb hts hi_dm_X10_fileNamed_X10 hown hK hP 1 rfl rfl 4 (by decide) (hts (.fieldLink RX10 25 "TimeMachine$Things" "file" "[I") (List.mem_of_getElem? (i := 1) rfl)) (fun _ h9 => h9) rfl dX10_fileNamed_9 ?_
    refine lv_iload_n hx hb dX10_fileNamed_12 rfl (lv_at hl 2 rfl) ?_
    refine lv_iconst (v := 3) hx hb dX10_fileNamed_13 (by decide) ?_
    refine lv_imul hx hb dX10_fileNamed_14 ?_
    refine lv_iconst (v := 2) hx hb dX10_fileNamed_15 (by decide) ?_
    refine lv_iadd hx hb dX10_fileNamed_16 ?_
    obtain ⟨i2, h⟩ := nd_ck_e h
    refine va_iald (i := ((x2 * 3) + 2)) hx hb hK hP 6 5 rfl rfl i2 dX10_fileNamed_17 ?_
    refine lv_if_eq (tgt := 25) hx hb dX10_fileNamed_18 (by decide) (fun c3 => ?_) (fun c3 => ?_)
    · have h := nd_pos h c3
      refine lv_iconst (v := 0) hx hb dX10_fileNamed_25 (by decide) ?_
      exact (db_X10_fileNamed_26 C K J2) (x2) (0) s0 _ _ _ h hP hD hS (lv_sub hl [0, 1, 2] rfl)
    · have h := nd_neg h c3
      refine lv_iconst (v := 1) hx hb dX10_fileNamed_21 (by decide) ?_
      refine lv_goto (tgt := 26) hx hb dX10_fileNamed_22 (by decide) ?_
      exact (db_X10_fileNamed_26 C K J2) (x2) (1) s0 _ _ _ h hP hD hS (lv_sub hl [0, 1, 2] rfl)
set_option maxHeartbeats 40000000 in
set_option maxRecDepth 100000 in
theorem db_X10_fileNamed_2 {p : Program} {l : Launch} {e : Env} {s : State} {m : MethodId} {args : Array Value} {below : List Frame} {meth : Method} {c : Code} {Q : State → Prop} {A : Nat → Prop} {dC : Nat → ClassId} {dI : Nat → Nat → Nat} {a : Nat → Nat} {ac : Nat → ClassId} {n : Nat} {r : Int32 × (St × (St))} (C : nd_C p l s m args c A (dC, dI) cX10_fileNamed 5 RX10 ow_dm_X10_fileNamed (dk_X10n ac)) (K : nd_Ki p l e (headSpec ow_dm_X10_fileNamed ({ frames := 0, cells := 0, slots := 0, locals := 0 })).room s m args below meth c Q A (dC, dI) cX10_fileNamed .int (St × (St)) (dw_X10n a ac) r) (k : Nat) : dj_X10_fileNamed_2 p l e s m args below meth c Q A dC dI a ac (df_X10_fileNamed_2 n k) r := by
  induction k with
  | zero => intro x2 s0 H locs ls h; exact nomatch (show (none : Option (Int32 × (St × (St)))) = some r from h)
  | succ k ih => exact dB_X10_fileNamed_2 C K ih
set_option maxHeartbeats 40000000 in
set_option maxRecDepth 100000 in
theorem db_X10_fileNamed_0 {p : Program} {l : Launch} {e : Env} {s : State} {m : MethodId} {args : Array Value} {below : List Frame} {meth : Method} {c : Code} {Q : State → Prop} {A : Nat → Prop} {dC : Nat → ClassId} {dI : Nat → Nat → Nat} {a : Nat → Nat} {ac : Nat → ClassId} {n : Nat} {r : Int32 × (St × (St))} (C : nd_C p l s m args c A (dC, dI) cX10_fileNamed 5 RX10 ow_dm_X10_fileNamed (dk_X10n ac)) (K : nd_Ki p l e (headSpec ow_dm_X10_fileNamed ({ frames := 0, cells := 0, slots := 0, locals := 0 })).room s m args below meth c Q A (dC, dI) cX10_fileNamed .int (St × (St)) (dw_X10n a ac) r) : dj_X10_fileNamed_0 p l e s m args below meth c Q A dC dI a ac (df_X10_fileNamed_0 n) r := by
  obtain ⟨hlt, hx, hb, hml, hown, hts, hN, hA, hK⟩ := id C
  intro s0 H locs ls h hP hD hS hl
  unfold df_X10_fileNamed_0 at h
  refine lv_iconst (v := 0) hx hb dX10_fileNamed_0 (by decide) ?_
  refine lv_istore_n (lv' := [(2, .int 0), (0, .ref (a 1)), (1, .ref (a 0))]) hx hb dX10_fileNamed_1 rfl hl (by decide) rfl (fun ls hl => ?_)
  exact (db_X10_fileNamed_2 C K n) (0) s0 _ _ _ h hP hD hS (lv_sub hl [1, 2, 0] rfl)
set_option maxHeartbeats 40000000 in
set_option maxRecDepth 100000 in
theorem dm_X10_fileNamed (l : Launch) (hlt : l.stackTraces = false) (dC : Nat → ClassId) (dI : Nat → Nat → Nat) (a : Nat → Nat) (ac : Nat → ClassId) (n : Nat) (s0 : St × (St)) {r : Int32 × (St × (St))} (h : df_X10_fileNamed n s0 = some r) (sz : Nat) : Met l yX10_fileNamed ow_dm_X10_fileNamed ({ frames := 0, cells := 0, slots := 0, locals := 0 }) (va_Pc [.ref (a 1), .ref (a 0)] (fun U => U.heap.size = sz ∧ va_P (dC, dI) vwCl (dw_X10n a ac s0) U.heap ∧ va_K (dC, dI) vwCl (dk_X10n ac) U ∧ va_D (fun _ => True) (dw_X10n a ac s0) ∧ nv_E (va_A (dw_X10n a ac s0) sz) U)) (va_Qi (fun x _ => x = r.1) (fun (_ : Unit) t => va_P (dC, dI) vwCl (dw_X10n a ac r.2) t.heap ∧ va_K (dC, dI) vwCl (dk_X10n ac) t ∧ va_D (va_A (dw_X10n a ac s0) sz) (dw_X10n a ac r.2)) (va_A (dw_X10n a ac s0) sz)) 0 0 (va_A (dw_X10n a ac s0) sz) := by
  refine Met.ofW (cc := cX10_fileNamed) (maxL := 5) (ret := (some .int)) (by decide) rfl ?_
  intro p e s m args below meth c s₁ B hml hv
  obtain ⟨rfl, hsz, hP, hK, hD0, hN⟩ := hv
  have hx := B.exec
  have hb := B.bytes
  have hr := B.returns
  have hts := atoms_spec (ws := ow_dm_X10_fileNamed) B.pre
  have hown : s.vm.findClass RX10 = some m.cls := findClass_of_methodNamed B.named
  have hlocks := B.notSynchronized
  subst hsz
  have hD := hD0.self (sz := s.heap.size)
  generalize hAe : va_A (dw_X10n a ac s0) s.heap.size = A at hD hN ⊢
  have hA : ∀ q : Nat, s.heap.size ≤ q → A q := fun q h => by rw [← hAe]; exact Or.inr h
  have hl := lv_entry ([.ref (a 1), .ref (a 0)]) (n := 5) (Nat.le_of_ble_eq_true rfl)
  rw [lg_entry_eq]
  generalize (lg_sl ([.ref (a 1), .ref (a 0)]) ++ List.replicate (5 - (lg_sl ([.ref (a 1), .ref (a 0)])).length) Slot.unset).toArray = ls at hl ⊢
  have hl : lv_has ls 5 [(0, .ref (a 1)), (1, .ref (a 0))] := hl
  exact db_X10_fileNamed_0 (dC := dC) (dI := dI) (a := a) (ac := ac) (n := n) (r := r) ⟨hlt, hx, hb, hml, hown, hts, hN, hA, hK⟩ (fun pc v τ H locs ls d z er hP hD hS => by subst er; exact W.zret (v := v) hx hb hr z (fun t ht hW => ⟨⟨v, (), rfl, rfl, by rw [ht]; exact hP, va_K.moved hW.alike hK, hD⟩, hS.F ht⟩) hS.2.2 d) s0 _ _ _ h hP hD va_S.rf (lv_sub hl [0, 1] rfl)
def ow_dm_X10_freeFile : List Cond := .code yX10_freeFile cX10_freeFile 2 (some .int) :: ([.fieldLink RX10 25 "TimeMachine$Things" "file" "[I"] ++ (u_ws RX10 TX10 11 ++ []))
theorem gd_dm_X10_freeFile : ∀ w ∈ ow_dm_X10_freeFile, (w.onTables && w.keeps) = true ∨ ∃ ty, w = Cond.arrayClass ty := List.forall_mem_cons.mpr ⟨good_of_word rfl, List.forall_mem_append.mpr ⟨fun w h => good_of_word (List.all_eq_true.mp (by decide +kernel) w h), List.forall_mem_append.mpr ⟨gu_X10, fun _ h => nomatch h⟩⟩⟩
theorem hi_dm_X10_freeFile_X10 : ∀ w ∈ u_ws RX10 TX10 11, w ∈ ow_dm_X10_freeFile := fun w h => List.mem_cons_of_mem _ (List.mem_append_right _ (List.mem_append_left _ h))
def dj_X10_freeFile_36 (p : Program) (l : Launch) (e : Env) (s : State) (m : MethodId) (args : Array Value) (below : List Frame) (meth : Method) (c : Code) (Q : State → Prop) (A : Nat → Prop) (dC : Nat → ClassId) (dI : Nat → Nat → Nat) (a : Nat → Nat) (ac : Nat → ClassId) (g : Int32 → (St) → Option (Int32 × (St))) (r : Int32 × (St)) : Prop := ∀ (x1 : Int32) (s0 : St) (H : Heap) (locs : List Loc) (ls : Array Slot), g x1 s0 = some r → va_P (dC, dI) vwCl (dw_X10 a ac s0) H → va_D A (dw_X10 a ac s0) → va_S A s.heap H locs → lv_has ls 2 [(0, .ref (a 0)), (1, .int x1)] → W p l e (headSpec ow_dm_X10_freeFile ({ frames := 0, cells := 0, slots := 0, locals := 0 })).room s m args below meth c H locs 0 0 Q (F0 m 36 ls [])
def dj_X10_freeFile_2 (p : Program) (l : Launch) (e : Env) (s : State) (m : MethodId) (args : Array Value) (below : List Frame) (meth : Method) (c : Code) (Q : State → Prop) (A : Nat → Prop) (dC : Nat → ClassId) (dI : Nat → Nat → Nat) (a : Nat → Nat) (ac : Nat → ClassId) (g : Int32 → (St) → Option (Int32 × (St))) (r : Int32 × (St)) : Prop := ∀ (x1 : Int32) (s0 : St) (H : Heap) (locs : List Loc) (ls : Array Slot), g x1 s0 = some r → va_P (dC, dI) vwCl (dw_X10 a ac s0) H → va_D A (dw_X10 a ac s0) → va_S A s.heap H locs → lv_has ls 2 [(0, .ref (a 0)), (1, .int x1)] → W p l e (headSpec ow_dm_X10_freeFile ({ frames := 0, cells := 0, slots := 0, locals := 0 })).room s m args below meth c H locs 0 0 Q (F0 m 2 ls [])
def dj_X10_freeFile_0 (p : Program) (l : Launch) (e : Env) (s : State) (m : MethodId) (args : Array Value) (below : List Frame) (meth : Method) (c : Code) (Q : State → Prop) (A : Nat → Prop) (dC : Nat → ClassId) (dI : Nat → Nat → Nat) (a : Nat → Nat) (ac : Nat → ClassId) (g : (St) → Option (Int32 × (St))) (r : Int32 × (St)) : Prop := ∀ (s0 : St) (H : Heap) (locs : List Loc) (ls : Array Slot), g s0 = some r → va_P (dC, dI) vwCl (dw_X10 a ac s0) H → va_D A (dw_X10 a ac s0) → va_S A s.heap H locs → lv_has ls 2 [(0, .ref (a 0))] → W p l e (headSpec ow_dm_X10_freeFile ({ frames := 0, cells := 0, slots := 0, locals := 0 })).room s m args below meth c H locs 0 0 Q (F0 m 0 ls [])
set_option maxHeartbeats 40000000 in
set_option maxRecDepth 100000 in
theorem db_X10_freeFile_36 {p : Program} {l : Launch} {e : Env} {s : State} {m : MethodId} {args : Array Value} {below : List Frame} {meth : Method} {c : Code} {Q : State → Prop} {A : Nat → Prop} {dC : Nat → ClassId} {dI : Nat → Nat → Nat} {a : Nat → Nat} {ac : Nat → ClassId} {n : Nat} {r : Int32 × (St)} (C : nd_C p l s m args c A (dC, dI) cX10_freeFile 2 RX10 ow_dm_X10_freeFile (dk_X10 ac)) (K : nd_Ki p l e (headSpec ow_dm_X10_freeFile ({ frames := 0, cells := 0, slots := 0, locals := 0 })).room s m args below meth c Q A (dC, dI) cX10_freeFile .int (St) (dw_X10 a ac) r) {g2 : Int32 → (St) → Option (Int32 × (St))} (J2 : dj_X10_freeFile_2 p l e s m args below meth c Q A dC dI a ac g2 r) : dj_X10_freeFile_36 p l e s m args below meth c Q A dC dI a ac (df_X10_freeFile_36 n g2) r := by
  obtain ⟨hlt, hx, hb, hml, hown, hts, hN, hA, hK⟩ := id C
  intro x1 s0 H locs ls h hP hD hS hl
  unfold df_X10_freeFile_36 at h
  obtain ⟨z4, ez4, h⟩ := nd_let_e h
  refine lv_iinc (v := z4) (lv' := [(1, .int z4), (0, .ref (a 0))]) hx hb dX10_freeFile_36 hl (k := 1) rfl (by rw [ez4]) (by decide) rfl (fun ls hl => ?_)
  refine lv_goto (tgt := 2) hx hb dX10_freeFile_39 (by decide) ?_
  exact (J2) (z4) s0 _ _ _ h hP hD hS (lv_sub hl [1, 0] rfl)
set_option maxHeartbeats 40000000 in
set_option maxRecDepth 100000 in
theorem dB_X10_freeFile_2 {p : Program} {l : Launch} {e : Env} {s : State} {m : MethodId} {args : Array Value} {below : List Frame} {meth : Method} {c : Code} {Q : State → Prop} {A : Nat → Prop} {dC : Nat → ClassId} {dI : Nat → Nat → Nat} {a : Nat → Nat} {ac : Nat → ClassId} {n : Nat} {r : Int32 × (St)} (C : nd_C p l s m args c A (dC, dI) cX10_freeFile 2 RX10 ow_dm_X10_freeFile (dk_X10 ac)) (K : nd_Ki p l e (headSpec ow_dm_X10_freeFile ({ frames := 0, cells := 0, slots := 0, locals := 0 })).room s m args below meth c Q A (dC, dI) cX10_freeFile .int (St) (dw_X10 a ac) r) {g2 : Int32 → (St) → Option (Int32 × (St))} (J2 : dj_X10_freeFile_2 p l e s m args below meth c Q A dC dI a ac g2 r) : dj_X10_freeFile_2 p l e s m args below meth c Q A dC dI a ac (dF_X10_freeFile_2 n g2) r := by
  obtain ⟨hlt, hx, hb, hml, hown, hts, hN, hA, hK⟩ := id C
  intro x1 s0 H locs ls h hP hD hS hl
  unfold dF_X10_freeFile_2 at h
  refine lv_iload_n hx hb dX10_freeFile_2 rfl (lv_at hl 1 rfl) ?_
  refine lv_bipush (v := 16) hx hb dX10_freeFile_3 (by decide) ?_
  refine lv_icmp_ge (tgt := 42) hx hb dX10_freeFile_5 (by decide) (fun c1 => ?_) (fun c1 => ?_)
  · have h := nd_pos h c1
    refine lv_iconst (v := (-1)) hx hb dX10_freeFile_42 (by decide) ?_
    exact K _ _ _ _ _ _ dX10_freeFile_43 rfl (Option.some.inj h).symm hP hD hS
  · have h := nd_neg h c1
    refine lv_aload_n hx hb dX10_freeFile_8 rfl (lv_at hl 0 rfl) ?_
    refine va_get (D := (dC, dI)) (ci := 11) (v := .ref (a 5)) (C := RX10) (T := TX10) (N := 11) hx hb hts hi_dm_X10_freeFile_X10 hown hK hP 0 rfl rfl 4 (by decide) (hts (.fieldLink RX10 25 "TimeMachine$Things" "file" "[I") (List.mem_of_getElem? (i := 1) rfl)) (fun _ h9 => h9) rfl dX10_freeFile_9 ?_
    refine lv_iload_n hx hb dX10_freeFile_12 rfl (lv_at hl 1 rfl) ?_
    refine lv_iconst (v := 3) hx hb dX10_freeFile_13 (by decide) ?_
    refine lv_imul hx hb dX10_freeFile_14 ?_
    refine lv_iconst (v := 2) hx hb dX10_freeFile_15 (by decide) ?_
    refine lv_iadd hx hb dX10_freeFile_16 ?_
    obtain ⟨i2, h⟩ := nd_ck_e h
    refine va_iald (i := ((x1 * 3) + 2)) hx hb hK hP 5 4 rfl rfl i2 dX10_freeFile_17 ?_
    refine lv_if_ne (tgt := 36) hx hb dX10_freeFile_18 (by decide) (fun c3 => ?_) (fun c3 => ?_)
    · have h := nd_neg h c3
      exact (db_X10_freeFile_36 C K J2) (x1) s0 _ _ _ h hP hD hS (lv_sub hl [0, 1] rfl)
    · have h := nd_pos h c3
      refine lv_aload_n hx hb dX10_freeFile_21 rfl (lv_at hl 0 rfl) ?_
      refine va_get (D := (dC, dI)) (ci := 11) (v := .ref (a 5)) (C := RX10) (T := TX10) (N := 11) hx hb hts hi_dm_X10_freeFile_X10 hown hK hP 0 rfl rfl 4 (by decide) (hts (.fieldLink RX10 25 "TimeMachine$Things" "file" "[I") (List.mem_of_getElem? (i := 1) rfl)) (fun _ h9 => h9) rfl dX10_freeFile_22 ?_
      refine lv_iload_n hx hb dX10_freeFile_25 rfl (lv_at hl 1 rfl) ?_
      refine lv_iconst (v := 3) hx hb dX10_freeFile_26 (by decide) ?_
      refine lv_imul hx hb dX10_freeFile_27 ?_
      refine lv_iconst (v := 1) hx hb dX10_freeFile_28 (by decide) ?_
      refine lv_iadd hx hb dX10_freeFile_29 ?_
      obtain ⟨i5, h⟩ := nd_ck_e h
      refine va_iald (i := ((x1 * 3) + 1)) hx hb hK hP 5 4 rfl rfl i5 dX10_freeFile_30 ?_
      refine lv_if_ne (tgt := 36) hx hb dX10_freeFile_31 (by decide) (fun c6 => ?_) (fun c6 => ?_)
      · have h := nd_neg h c6
        exact (db_X10_freeFile_36 C K J2) (x1) s0 _ _ _ h hP hD hS (lv_sub hl [0, 1] rfl)
      · have h := nd_pos h c6
        refine lv_iload_n hx hb dX10_freeFile_34 rfl (lv_at hl 1 rfl) ?_
        exact K _ _ _ _ _ _ dX10_freeFile_35 rfl (Option.some.inj h).symm hP hD hS
set_option maxHeartbeats 40000000 in
set_option maxRecDepth 100000 in
theorem db_X10_freeFile_2 {p : Program} {l : Launch} {e : Env} {s : State} {m : MethodId} {args : Array Value} {below : List Frame} {meth : Method} {c : Code} {Q : State → Prop} {A : Nat → Prop} {dC : Nat → ClassId} {dI : Nat → Nat → Nat} {a : Nat → Nat} {ac : Nat → ClassId} {n : Nat} {r : Int32 × (St)} (C : nd_C p l s m args c A (dC, dI) cX10_freeFile 2 RX10 ow_dm_X10_freeFile (dk_X10 ac)) (K : nd_Ki p l e (headSpec ow_dm_X10_freeFile ({ frames := 0, cells := 0, slots := 0, locals := 0 })).room s m args below meth c Q A (dC, dI) cX10_freeFile .int (St) (dw_X10 a ac) r) (k : Nat) : dj_X10_freeFile_2 p l e s m args below meth c Q A dC dI a ac (df_X10_freeFile_2 n k) r := by
  induction k with
  | zero => intro x1 s0 H locs ls h; exact nomatch (show (none : Option (Int32 × (St))) = some r from h)
  | succ k ih => exact dB_X10_freeFile_2 C K ih
set_option maxHeartbeats 40000000 in
set_option maxRecDepth 100000 in
theorem db_X10_freeFile_0 {p : Program} {l : Launch} {e : Env} {s : State} {m : MethodId} {args : Array Value} {below : List Frame} {meth : Method} {c : Code} {Q : State → Prop} {A : Nat → Prop} {dC : Nat → ClassId} {dI : Nat → Nat → Nat} {a : Nat → Nat} {ac : Nat → ClassId} {n : Nat} {r : Int32 × (St)} (C : nd_C p l s m args c A (dC, dI) cX10_freeFile 2 RX10 ow_dm_X10_freeFile (dk_X10 ac)) (K : nd_Ki p l e (headSpec ow_dm_X10_freeFile ({ frames := 0, cells := 0, slots := 0, locals := 0 })).room s m args below meth c Q A (dC, dI) cX10_freeFile .int (St) (dw_X10 a ac) r) : dj_X10_freeFile_0 p l e s m args below meth c Q A dC dI a ac (df_X10_freeFile_0 n) r := by
  obtain ⟨hlt, hx, hb, hml, hown, hts, hN, hA, hK⟩ := id C
  intro s0 H locs ls h hP hD hS hl
  unfold df_X10_freeFile_0 at h
  refine lv_iconst (v := 0) hx hb dX10_freeFile_0 (by decide) ?_
  refine lv_istore_n (lv' := [(1, .int 0), (0, .ref (a 0))]) hx hb dX10_freeFile_1 rfl hl (by decide) rfl (fun ls hl => ?_)
  exact (db_X10_freeFile_2 C K n) (0) s0 _ _ _ h hP hD hS (lv_sub hl [1, 0] rfl)
set_option maxHeartbeats 40000000 in
set_option maxRecDepth 100000 in
theorem dm_X10_freeFile (l : Launch) (hlt : l.stackTraces = false) (dC : Nat → ClassId) (dI : Nat → Nat → Nat) (a : Nat → Nat) (ac : Nat → ClassId) (n : Nat) (s0 : St) {r : Int32 × (St)} (h : df_X10_freeFile n s0 = some r) (sz : Nat) : Met l yX10_freeFile ow_dm_X10_freeFile ({ frames := 0, cells := 0, slots := 0, locals := 0 }) (va_Pc [.ref (a 0)] (fun U => U.heap.size = sz ∧ va_P (dC, dI) vwCl (dw_X10 a ac s0) U.heap ∧ va_K (dC, dI) vwCl (dk_X10 ac) U ∧ va_D (fun _ => True) (dw_X10 a ac s0) ∧ nv_E (va_A (dw_X10 a ac s0) sz) U)) (va_Qi (fun x _ => x = r.1) (fun (_ : Unit) t => va_P (dC, dI) vwCl (dw_X10 a ac r.2) t.heap ∧ va_K (dC, dI) vwCl (dk_X10 ac) t ∧ va_D (va_A (dw_X10 a ac s0) sz) (dw_X10 a ac r.2)) (va_A (dw_X10 a ac s0) sz)) 0 0 (va_A (dw_X10 a ac s0) sz) := by
  refine Met.ofW (cc := cX10_freeFile) (maxL := 2) (ret := (some .int)) (by decide) rfl ?_
  intro p e s m args below meth c s₁ B hml hv
  obtain ⟨rfl, hsz, hP, hK, hD0, hN⟩ := hv
  have hx := B.exec
  have hb := B.bytes
  have hr := B.returns
  have hts := atoms_spec (ws := ow_dm_X10_freeFile) B.pre
  have hown : s.vm.findClass RX10 = some m.cls := findClass_of_methodNamed B.named
  have hlocks := B.notSynchronized
  subst hsz
  have hD := hD0.self (sz := s.heap.size)
  generalize hAe : va_A (dw_X10 a ac s0) s.heap.size = A at hD hN ⊢
  have hA : ∀ q : Nat, s.heap.size ≤ q → A q := fun q h => by rw [← hAe]; exact Or.inr h
  have hl := lv_entry ([.ref (a 0)]) (n := 2) (Nat.le_of_ble_eq_true rfl)
  rw [lg_entry_eq]
  generalize (lg_sl ([.ref (a 0)]) ++ List.replicate (2 - (lg_sl ([.ref (a 0)])).length) Slot.unset).toArray = ls at hl ⊢
  have hl : lv_has ls 2 [(0, .ref (a 0))] := hl
  exact db_X10_freeFile_0 (dC := dC) (dI := dI) (a := a) (ac := ac) (n := n) (r := r) ⟨hlt, hx, hb, hml, hown, hts, hN, hA, hK⟩ (fun pc v τ H locs ls d z er hP hD hS => by subst er; exact W.zret (v := v) hx hb hr z (fun t ht hW => ⟨⟨v, (), rfl, rfl, by rw [ht]; exact hP, va_K.moved hW.alike hK, hD⟩, hS.F ht⟩) hS.2.2 d) s0 _ _ _ h hP hD va_S.rf (lv_sub hl [0] rfl)
def ow_dm_X10_giveName : List Cond := .code yX10_giveName cX10_giveName 3 none :: ([.fieldLink RX10 25 "TimeMachine$Things" "file" "[I", .fieldLink RX10 31 "TimeMachine$Things" "names" "[B", .methodLink RX10 62 arraycopyName, .native arraycopyName, .static arraycopyName, .initialized "java/lang/System"] ++ (u_ws RX10 TX10 11 ++ []))
theorem gd_dm_X10_giveName : ∀ w ∈ ow_dm_X10_giveName, (w.onTables && w.keeps) = true ∨ ∃ ty, w = Cond.arrayClass ty := List.forall_mem_cons.mpr ⟨good_of_word rfl, List.forall_mem_append.mpr ⟨fun w h => good_of_word (List.all_eq_true.mp (by decide +kernel) w h), List.forall_mem_append.mpr ⟨gu_X10, fun _ h => nomatch h⟩⟩⟩
theorem hi_dm_X10_giveName_X10 : ∀ w ∈ u_ws RX10 TX10 11, w ∈ ow_dm_X10_giveName := fun w h => List.mem_cons_of_mem _ (List.mem_append_right _ (List.mem_append_left _ h))
def dj_X10_giveName_0 (p : Program) (l : Launch) (e : Env) (s : State) (m : MethodId) (args : Array Value) (below : List Frame) (meth : Method) (c : Code) (Q : State → Prop) (A : Nat → Prop) (dC : Nat → ClassId) (dI : Nat → Nat → Nat) (a : Nat → Nat) (ac : Nat → ClassId) (g : Int32 → (St × (St)) → Option (St × (St))) (r : St × (St)) : Prop := ∀ (v0 : Int32) (s0 : St × (St)) (H : Heap) (locs : List Loc) (ls : Array Slot), g v0 s0 = some r → va_P (dC, dI) vwCl (dw_X10n a ac s0) H → va_D A (dw_X10n a ac s0) → va_S A s.heap H locs → lv_has ls 3 [(0, .ref (a 1)), (1, .int v0), (2, .ref (a 0))] → W p l e (headSpec ow_dm_X10_giveName ({ frames := 1, cells := 0, slots := 0, locals := 40 })).room s m args below meth c H locs 0 0 Q (F0 m 0 ls [])
set_option maxHeartbeats 40000000 in
set_option maxRecDepth 100000 in
theorem db_X10_giveName_0 {p : Program} {l : Launch} {e : Env} {s : State} {m : MethodId} {args : Array Value} {below : List Frame} {meth : Method} {c : Code} {Q : State → Prop} {A : Nat → Prop} {dC : Nat → ClassId} {dI : Nat → Nat → Nat} {a : Nat → Nat} {ac : Nat → ClassId} {n : Nat} {r : St × (St)} (C : nd_C p l s m args c A (dC, dI) cX10_giveName 3 RX10 ow_dm_X10_giveName (dk_X10n ac)) (K : nd_Kv p l e (headSpec ow_dm_X10_giveName ({ frames := 1, cells := 0, slots := 0, locals := 40 })).room s m args below meth c Q A (dC, dI) cX10_giveName (St × (St)) (dw_X10n a ac) r) : dj_X10_giveName_0 p l e s m args below meth c Q A dC dI a ac (df_X10_giveName_0 n) r := by
  obtain ⟨hlt, hx, hb, hml, hown, hts, hN, hA, hK⟩ := id C
  intro v0 s0 H locs ls h hP hD hS hl
  unfold df_X10_giveName_0 at h
  refine lv_aload_n hx hb dX10_giveName_0 rfl (lv_at hl 0 rfl) ?_
  refine va_get (D := (dC, dI)) (ci := 11) (v := .ref (a 6)) (C := RX10) (T := TX10) (N := 11) hx hb hts hi_dm_X10_giveName_X10 hown hK hP 1 rfl rfl 4 (by decide) (hts (.fieldLink RX10 25 "TimeMachine$Things" "file" "[I") (List.mem_of_getElem? (i := 1) rfl)) (fun _ h9 => h9) rfl dX10_giveName_1 ?_
  refine lv_iload_n hx hb dX10_giveName_4 rfl (lv_at hl 1 rfl) ?_
  refine lv_iconst (v := 3) hx hb dX10_giveName_5 (by decide) ?_
  refine lv_imul hx hb dX10_giveName_6 ?_
  refine lv_iconst (v := 2) hx hb dX10_giveName_7 (by decide) ?_
  refine lv_iadd hx hb dX10_giveName_8 ?_
  refine lv_iconst (v := 1) hx hb dX10_giveName_9 (by decide) ?_
  obtain ⟨i1, h⟩ := nd_ck_e h
  refine va_iast (i := ((v0 * 3) + 2)) (x := 1) hx hb hK hP hD hS 6 5 rfl rfl i1 dX10_giveName_10 (fun H locs hP hD hS => ?_)
  obtain ⟨s2, es2, h⟩ := nd_let_e h
  have hP : va_P (dC, dI) vwCl (dw_X10n a ac s2) H := by rw [es2]; exact hP
  have hD : va_D A (dw_X10n a ac s2) := by rw [es2]; exact hD
  refine lv_aload_n hx hb dX10_giveName_11 rfl (lv_at hl 2 rfl) ?_
  refine lv_iconst (v := 0) hx hb dX10_giveName_12 (by decide) ?_
  refine lv_aload_n hx hb dX10_giveName_13 rfl (lv_at hl 0 rfl) ?_
  refine va_get (D := (dC, dI)) (ci := 11) (v := .ref (a 8)) (C := RX10) (T := TX10) (N := 11) hx hb hts hi_dm_X10_giveName_X10 hown hK hP 1 rfl rfl 6 (by decide) (hts (.fieldLink RX10 31 "TimeMachine$Things" "names" "[B") (List.mem_of_getElem? (i := 2) rfl)) (fun _ h9 => h9) rfl dX10_giveName_14 ?_
  refine lv_iload_n hx hb dX10_giveName_17 rfl (lv_at hl 1 rfl) ?_
  refine lv_bipush (v := 16) hx hb dX10_giveName_18 (by decide) ?_
  refine lv_imul hx hb dX10_giveName_20 ?_
  refine lv_bipush (v := 16) hx hb dX10_giveName_21 (by decide) ?_
  obtain ⟨k3, h⟩ := nd_cp_e h
  obtain ⟨k4, h⟩ := nd_fa_e h
  refine va_copyi (sp := 0) (dp := (v0 * 16)) (n := 16) hx hb (by rw [hml]; exact hl.1.symm) hown (hts (.methodLink RX10 62 arraycopyName) (List.mem_of_getElem? (i := 3) rfl)) (hts (.native arraycopyName) (List.mem_of_getElem? (i := 4) rfl)) (hts (.static arraycopyName) (List.mem_of_getElem? (i := 5) rfl)) (hts (.initialized "java/lang/System") (List.mem_of_getElem? (i := 6) rfl)) hK hP hD hS 0 8 0 7 rfl rfl rfl rfl rfl k3.1 k3.2.1 k3.2.2.1 k3.2.2.2.1 k3.2.2.2.2 k4 (Nat.le_of_ble_eq_true rfl) (by decide +kernel) dX10_giveName_23 (fun H locs hP hD hS => ?_)
  obtain ⟨s5, es5, h⟩ := nd_let_e h
  have hP : va_P (dC, dI) vwCl (dw_X10n a ac s5) H := by rw [es5]; exact hP
  have hD : va_D A (dw_X10n a ac s5) := by rw [es5]; exact hD
  exact K _ _ _ _ _ dX10_giveName_26 (Option.some.inj h).symm hP hD hS
set_option maxHeartbeats 40000000 in
set_option maxRecDepth 100000 in
theorem dm_X10_giveName (l : Launch) (hlt : l.stackTraces = false) (dC : Nat → ClassId) (dI : Nat → Nat → Nat) (a : Nat → Nat) (ac : Nat → ClassId) (n : Nat) (v0 : Int32) (s0 : St × (St)) {r : St × (St)} (h : df_X10_giveName n v0 s0 = some r) (sz : Nat) : Met l yX10_giveName ow_dm_X10_giveName ({ frames := 1, cells := 0, slots := 0, locals := 40 }) (va_Pc [.ref (a 1), .int v0, .ref (a 0)] (fun U => U.heap.size = sz ∧ va_P (dC, dI) vwCl (dw_X10n a ac s0) U.heap ∧ va_K (dC, dI) vwCl (dk_X10n ac) U ∧ va_D (fun _ => True) (dw_X10n a ac s0) ∧ nv_E (va_A (dw_X10n a ac s0) sz) U)) (va_Qv (fun _ => True) (fun (_ : Unit) t => va_P (dC, dI) vwCl (dw_X10n a ac r) t.heap ∧ va_K (dC, dI) vwCl (dk_X10n ac) t ∧ va_D (va_A (dw_X10n a ac s0) sz) (dw_X10n a ac r)) (va_A (dw_X10n a ac s0) sz)) 0 0 (va_A (dw_X10n a ac s0) sz) := by
  refine Met.ofW (cc := cX10_giveName) (maxL := 3) (ret := none) (by decide) rfl ?_
  intro p e s m args below meth c s₁ B hml hv
  obtain ⟨rfl, hsz, hP, hK, hD0, hN⟩ := hv
  have hx := B.exec
  have hb := B.bytes
  have hr := B.returns
  have hts := atoms_spec (ws := ow_dm_X10_giveName) B.pre
  have hown : s.vm.findClass RX10 = some m.cls := findClass_of_methodNamed B.named
  have hlocks := B.notSynchronized
  subst hsz
  have hD := hD0.self (sz := s.heap.size)
  generalize hAe : va_A (dw_X10n a ac s0) s.heap.size = A at hD hN ⊢
  have hA : ∀ q : Nat, s.heap.size ≤ q → A q := fun q h => by rw [← hAe]; exact Or.inr h
  have hl := lv_entry ([.ref (a 1), .int v0, .ref (a 0)]) (n := 3) (Nat.le_of_ble_eq_true rfl)
  rw [lg_entry_eq]
  generalize (lg_sl ([.ref (a 1), .int v0, .ref (a 0)]) ++ List.replicate (3 - (lg_sl ([.ref (a 1), .int v0, .ref (a 0)])).length) Slot.unset).toArray = ls at hl ⊢
  have hl : lv_has ls 3 [(0, .ref (a 1)), (1, .int v0), (2, .ref (a 0))] := hl
  exact db_X10_giveName_0 (dC := dC) (dI := dI) (a := a) (ac := ac) (n := n) (r := r) ⟨hlt, hx, hb, hml, hown, hts, hN, hA, hK⟩ (fun pc τ H locs ls d er hP hD hS => by subst er; exact W.vret hx hb hr (fun t ht hW => ⟨⟨(), rfl, trivial, by rw [ht]; exact hP, va_K.moved hW.alike hK, hD⟩, hS.F ht⟩) hS.2.2 d) v0 s0 _ _ _ h hP hD va_S.rf (lv_sub hl [0, 1, 2] rfl)
def ow_dm_X10_loseName : List Cond := .code yX10_loseName cX10_loseName 2 none :: ([.fieldLink RX10 25 "TimeMachine$Things" "file" "[I"] ++ (u_ws RX10 TX10 11 ++ []))
theorem gd_dm_X10_loseName : ∀ w ∈ ow_dm_X10_loseName, (w.onTables && w.keeps) = true ∨ ∃ ty, w = Cond.arrayClass ty := List.forall_mem_cons.mpr ⟨good_of_word rfl, List.forall_mem_append.mpr ⟨fun w h => good_of_word (List.all_eq_true.mp (by decide +kernel) w h), List.forall_mem_append.mpr ⟨gu_X10, fun _ h => nomatch h⟩⟩⟩
theorem hi_dm_X10_loseName_X10 : ∀ w ∈ u_ws RX10 TX10 11, w ∈ ow_dm_X10_loseName := fun w h => List.mem_cons_of_mem _ (List.mem_append_right _ (List.mem_append_left _ h))
def dj_X10_loseName_0 (p : Program) (l : Launch) (e : Env) (s : State) (m : MethodId) (args : Array Value) (below : List Frame) (meth : Method) (c : Code) (Q : State → Prop) (A : Nat → Prop) (dC : Nat → ClassId) (dI : Nat → Nat → Nat) (a : Nat → Nat) (ac : Nat → ClassId) (g : Int32 → (St) → Option (St)) (r : St) : Prop := ∀ (v0 : Int32) (s0 : St) (H : Heap) (locs : List Loc) (ls : Array Slot), g v0 s0 = some r → va_P (dC, dI) vwCl (dw_X10 a ac s0) H → va_D A (dw_X10 a ac s0) → va_S A s.heap H locs → lv_has ls 2 [(0, .ref (a 0)), (1, .int v0)] → W p l e (headSpec ow_dm_X10_loseName ({ frames := 0, cells := 0, slots := 0, locals := 0 })).room s m args below meth c H locs 0 0 Q (F0 m 0 ls [])
set_option maxHeartbeats 40000000 in
set_option maxRecDepth 100000 in
theorem db_X10_loseName_0 {p : Program} {l : Launch} {e : Env} {s : State} {m : MethodId} {args : Array Value} {below : List Frame} {meth : Method} {c : Code} {Q : State → Prop} {A : Nat → Prop} {dC : Nat → ClassId} {dI : Nat → Nat → Nat} {a : Nat → Nat} {ac : Nat → ClassId} {n : Nat} {r : St} (C : nd_C p l s m args c A (dC, dI) cX10_loseName 2 RX10 ow_dm_X10_loseName (dk_X10 ac)) (K : nd_Kv p l e (headSpec ow_dm_X10_loseName ({ frames := 0, cells := 0, slots := 0, locals := 0 })).room s m args below meth c Q A (dC, dI) cX10_loseName (St) (dw_X10 a ac) r) : dj_X10_loseName_0 p l e s m args below meth c Q A dC dI a ac (df_X10_loseName_0 n) r := by
  obtain ⟨hlt, hx, hb, hml, hown, hts, hN, hA, hK⟩ := id C
  intro v0 s0 H locs ls h hP hD hS hl
  unfold df_X10_loseName_0 at h
  refine lv_aload_n hx hb dX10_loseName_0 rfl (lv_at hl 0 rfl) ?_
  refine va_get (D := (dC, dI)) (ci := 11) (v := .ref (a 5)) (C := RX10) (T := TX10) (N := 11) hx hb hts hi_dm_X10_loseName_X10 hown hK hP 0 rfl rfl 4 (by decide) (hts (.fieldLink RX10 25 "TimeMachine$Things" "file" "[I") (List.mem_of_getElem? (i := 1) rfl)) (fun _ h9 => h9) rfl dX10_loseName_1 ?_
  refine lv_iload_n hx hb dX10_loseName_4 rfl (lv_at hl 1 rfl) ?_
  refine lv_iconst (v := 3) hx hb dX10_loseName_5 (by decide) ?_
  refine lv_imul hx hb dX10_loseName_6 ?_
  refine lv_iconst (v := 2) hx hb dX10_loseName_7 (by decide) ?_
  refine lv_iadd hx hb dX10_loseName_8 ?_
  refine lv_iconst (v := 0) hx hb dX10_loseName_9 (by decide) ?_
  obtain ⟨i1, h⟩ := nd_ck_e h
  refine va_iast (i := ((v0 * 3) + 2)) (x := 0) hx hb hK hP hD hS 5 4 rfl rfl i1 dX10_loseName_10 (fun H locs hP hD hS => ?_)
  obtain ⟨s2, es2, h⟩ := nd_let_e h
  have hP : va_P (dC, dI) vwCl (dw_X10 a ac s2) H := by rw [es2]; exact hP
  have hD : va_D A (dw_X10 a ac s2) := by rw [es2]; exact hD
  exact K _ _ _ _ _ dX10_loseName_11 (Option.some.inj h).symm hP hD hS
set_option maxHeartbeats 40000000 in
set_option maxRecDepth 100000 in
theorem dm_X10_loseName (l : Launch) (hlt : l.stackTraces = false) (dC : Nat → ClassId) (dI : Nat → Nat → Nat) (a : Nat → Nat) (ac : Nat → ClassId) (n : Nat) (v0 : Int32) (s0 : St) {r : St} (h : df_X10_loseName n v0 s0 = some r) (sz : Nat) : Met l yX10_loseName ow_dm_X10_loseName ({ frames := 0, cells := 0, slots := 0, locals := 0 }) (va_Pc [.ref (a 0), .int v0] (fun U => U.heap.size = sz ∧ va_P (dC, dI) vwCl (dw_X10 a ac s0) U.heap ∧ va_K (dC, dI) vwCl (dk_X10 ac) U ∧ va_D (fun _ => True) (dw_X10 a ac s0) ∧ nv_E (va_A (dw_X10 a ac s0) sz) U)) (va_Qv (fun _ => True) (fun (_ : Unit) t => va_P (dC, dI) vwCl (dw_X10 a ac r) t.heap ∧ va_K (dC, dI) vwCl (dk_X10 ac) t ∧ va_D (va_A (dw_X10 a ac s0) sz) (dw_X10 a ac r)) (va_A (dw_X10 a ac s0) sz)) 0 0 (va_A (dw_X10 a ac s0) sz) := by
  refine Met.ofW (cc := cX10_loseName) (maxL := 2) (ret := none) (by decide) rfl ?_
  intro p e s m args below meth c s₁ B hml hv
  obtain ⟨rfl, hsz, hP, hK, hD0, hN⟩ := hv
  have hx := B.exec
  have hb := B.bytes
  have hr := B.returns
  have hts := atoms_spec (ws := ow_dm_X10_loseName) B.pre
  have hown : s.vm.findClass RX10 = some m.cls := findClass_of_methodNamed B.named
  have hlocks := B.notSynchronized
  subst hsz
  have hD := hD0.self (sz := s.heap.size)
  generalize hAe : va_A (dw_X10 a ac s0) s.heap.size = A at hD hN ⊢
  have hA : ∀ q : Nat, s.heap.size ≤ q → A q := fun q h => by rw [← hAe]; exact Or.inr h
  have hl := lv_entry ([.ref (a 0), .int v0]) (n := 2) (Nat.le_of_ble_eq_true rfl)
  rw [lg_entry_eq]
  generalize (lg_sl ([.ref (a 0), .int v0]) ++ List.replicate (2 - (lg_sl ([.ref (a 0), .int v0])).length) Slot.unset).toArray = ls at hl ⊢
  have hl : lv_has ls 2 [(0, .ref (a 0)), (1, .int v0)] := hl
  exact db_X10_loseName_0 (dC := dC) (dI := dI) (a := a) (ac := ac) (n := n) (r := r) ⟨hlt, hx, hb, hml, hown, hts, hN, hA, hK⟩ (fun pc τ H locs ls d er hP hD hS => by subst er; exact W.vret hx hb hr (fun t ht hW => ⟨⟨(), rfl, trivial, by rw [ht]; exact hP, va_K.moved hW.alike hK, hD⟩, hS.F ht⟩) hS.2.2 d) v0 s0 _ _ _ h hP hD va_S.rf (lv_sub hl [0, 1] rfl)
def ow_dm_X10_emptyFile : List Cond := .code yX10_emptyFile cX10_emptyFile 2 none :: ([.fieldLink RX10 25 "TimeMachine$Things" "file" "[I"] ++ (u_ws RX10 TX10 11 ++ []))
theorem gd_dm_X10_emptyFile : ∀ w ∈ ow_dm_X10_emptyFile, (w.onTables && w.keeps) = true ∨ ∃ ty, w = Cond.arrayClass ty := List.forall_mem_cons.mpr ⟨good_of_word rfl, List.forall_mem_append.mpr ⟨fun w h => good_of_word (List.all_eq_true.mp (by decide +kernel) w h), List.forall_mem_append.mpr ⟨gu_X10, fun _ h => nomatch h⟩⟩⟩
theorem hi_dm_X10_emptyFile_X10 : ∀ w ∈ u_ws RX10 TX10 11, w ∈ ow_dm_X10_emptyFile := fun w h => List.mem_cons_of_mem _ (List.mem_append_right _ (List.mem_append_left _ h))
def dj_X10_emptyFile_0 (p : Program) (l : Launch) (e : Env) (s : State) (m : MethodId) (args : Array Value) (below : List Frame) (meth : Method) (c : Code) (Q : State → Prop) (A : Nat → Prop) (dC : Nat → ClassId) (dI : Nat → Nat → Nat) (a : Nat → Nat) (ac : Nat → ClassId) (g : Int32 → (St) → Option (St)) (r : St) : Prop := ∀ (v0 : Int32) (s0 : St) (H : Heap) (locs : List Loc) (ls : Array Slot), g v0 s0 = some r → va_P (dC, dI) vwCl (dw_X10 a ac s0) H → va_D A (dw_X10 a ac s0) → va_S A s.heap H locs → lv_has ls 2 [(0, .ref (a 0)), (1, .int v0)] → W p l e (headSpec ow_dm_X10_emptyFile ({ frames := 0, cells := 0, slots := 0, locals := 0 })).room s m args below meth c H locs 0 0 Q (F0 m 0 ls [])
set_option maxHeartbeats 40000000 in
set_option maxRecDepth 100000 in
theorem db_X10_emptyFile_0 {p : Program} {l : Launch} {e : Env} {s : State} {m : MethodId} {args : Array Value} {below : List Frame} {meth : Method} {c : Code} {Q : State → Prop} {A : Nat → Prop} {dC : Nat → ClassId} {dI : Nat → Nat → Nat} {a : Nat → Nat} {ac : Nat → ClassId} {n : Nat} {r : St} (C : nd_C p l s m args c A (dC, dI) cX10_emptyFile 2 RX10 ow_dm_X10_emptyFile (dk_X10 ac)) (K : nd_Kv p l e (headSpec ow_dm_X10_emptyFile ({ frames := 0, cells := 0, slots := 0, locals := 0 })).room s m args below meth c Q A (dC, dI) cX10_emptyFile (St) (dw_X10 a ac) r) : dj_X10_emptyFile_0 p l e s m args below meth c Q A dC dI a ac (df_X10_emptyFile_0 n) r := by
  obtain ⟨hlt, hx, hb, hml, hown, hts, hN, hA, hK⟩ := id C
  intro v0 s0 H locs ls h hP hD hS hl
  unfold df_X10_emptyFile_0 at h
  refine lv_aload_n hx hb dX10_emptyFile_0 rfl (lv_at hl 0 rfl) ?_
  refine va_get (D := (dC, dI)) (ci := 11) (v := .ref (a 5)) (C := RX10) (T := TX10) (N := 11) hx hb hts hi_dm_X10_emptyFile_X10 hown hK hP 0 rfl rfl 4 (by decide) (hts (.fieldLink RX10 25 "TimeMachine$Things" "file" "[I") (List.mem_of_getElem? (i := 1) rfl)) (fun _ h9 => h9) rfl dX10_emptyFile_1 ?_
  refine lv_iload_n hx hb dX10_emptyFile_4 rfl (lv_at hl 1 rfl) ?_
  refine lv_iconst (v := 3) hx hb dX10_emptyFile_5 (by decide) ?_
  refine lv_imul hx hb dX10_emptyFile_6 ?_
  refine lv_iconst (v := 0) hx hb dX10_emptyFile_7 (by decide) ?_
  refine lv_iadd hx hb dX10_emptyFile_8 ?_
  refine lv_iconst (v := 0) hx hb dX10_emptyFile_9 (by decide) ?_
  obtain ⟨i1, h⟩ := nd_ck_e h
  refine va_iast (i := ((v0 * 3) + 0)) (x := 0) hx hb hK hP hD hS 5 4 rfl rfl i1 dX10_emptyFile_10 (fun H locs hP hD hS => ?_)
  obtain ⟨s2, es2, h⟩ := nd_let_e h
  have hP : va_P (dC, dI) vwCl (dw_X10 a ac s2) H := by rw [es2]; exact hP
  have hD : va_D A (dw_X10 a ac s2) := by rw [es2]; exact hD
  exact K _ _ _ _ _ dX10_emptyFile_11 (Option.some.inj h).symm hP hD hS
set_option maxHeartbeats 40000000 in
set_option maxRecDepth 100000 in
theorem dm_X10_emptyFile (l : Launch) (hlt : l.stackTraces = false) (dC : Nat → ClassId) (dI : Nat → Nat → Nat) (a : Nat → Nat) (ac : Nat → ClassId) (n : Nat) (v0 : Int32) (s0 : St) {r : St} (h : df_X10_emptyFile n v0 s0 = some r) (sz : Nat) : Met l yX10_emptyFile ow_dm_X10_emptyFile ({ frames := 0, cells := 0, slots := 0, locals := 0 }) (va_Pc [.ref (a 0), .int v0] (fun U => U.heap.size = sz ∧ va_P (dC, dI) vwCl (dw_X10 a ac s0) U.heap ∧ va_K (dC, dI) vwCl (dk_X10 ac) U ∧ va_D (fun _ => True) (dw_X10 a ac s0) ∧ nv_E (va_A (dw_X10 a ac s0) sz) U)) (va_Qv (fun _ => True) (fun (_ : Unit) t => va_P (dC, dI) vwCl (dw_X10 a ac r) t.heap ∧ va_K (dC, dI) vwCl (dk_X10 ac) t ∧ va_D (va_A (dw_X10 a ac s0) sz) (dw_X10 a ac r)) (va_A (dw_X10 a ac s0) sz)) 0 0 (va_A (dw_X10 a ac s0) sz) := by
  refine Met.ofW (cc := cX10_emptyFile) (maxL := 2) (ret := none) (by decide) rfl ?_
  intro p e s m args below meth c s₁ B hml hv
  obtain ⟨rfl, hsz, hP, hK, hD0, hN⟩ := hv
  have hx := B.exec
  have hb := B.bytes
  have hr := B.returns
  have hts := atoms_spec (ws := ow_dm_X10_emptyFile) B.pre
  have hown : s.vm.findClass RX10 = some m.cls := findClass_of_methodNamed B.named
  have hlocks := B.notSynchronized
  subst hsz
  have hD := hD0.self (sz := s.heap.size)
  generalize hAe : va_A (dw_X10 a ac s0) s.heap.size = A at hD hN ⊢
  have hA : ∀ q : Nat, s.heap.size ≤ q → A q := fun q h => by rw [← hAe]; exact Or.inr h
  have hl := lv_entry ([.ref (a 0), .int v0]) (n := 2) (Nat.le_of_ble_eq_true rfl)
  rw [lg_entry_eq]
  generalize (lg_sl ([.ref (a 0), .int v0]) ++ List.replicate (2 - (lg_sl ([.ref (a 0), .int v0])).length) Slot.unset).toArray = ls at hl ⊢
  have hl : lv_has ls 2 [(0, .ref (a 0)), (1, .int v0)] := hl
  exact db_X10_emptyFile_0 (dC := dC) (dI := dI) (a := a) (ac := ac) (n := n) (r := r) ⟨hlt, hx, hb, hml, hown, hts, hN, hA, hK⟩ (fun pc τ H locs ls d er hP hD hS => by subst er; exact W.vret hx hb hr (fun t ht hW => ⟨⟨(), rfl, trivial, by rw [ht]; exact hP, va_K.moved hW.alike hK, hD⟩, hS.F ht⟩) hS.2.2 d) v0 s0 _ _ _ h hP hD va_S.rf (lv_sub hl [0, 1] rfl)
def ow_dm_X10_namedFiles : List Cond := .code yX10_namedFiles cX10_namedFiles 3 (some .int) :: ([.fieldLink RX10 25 "TimeMachine$Things" "file" "[I"] ++ (u_ws RX10 TX10 11 ++ []))
theorem gd_dm_X10_namedFiles : ∀ w ∈ ow_dm_X10_namedFiles, (w.onTables && w.keeps) = true ∨ ∃ ty, w = Cond.arrayClass ty := List.forall_mem_cons.mpr ⟨good_of_word rfl, List.forall_mem_append.mpr ⟨fun w h => good_of_word (List.all_eq_true.mp (by decide +kernel) w h), List.forall_mem_append.mpr ⟨gu_X10, fun _ h => nomatch h⟩⟩⟩
theorem hi_dm_X10_namedFiles_X10 : ∀ w ∈ u_ws RX10 TX10 11, w ∈ ow_dm_X10_namedFiles := fun w h => List.mem_cons_of_mem _ (List.mem_append_right _ (List.mem_append_left _ h))
def dj_X10_namedFiles_4 (p : Program) (l : Launch) (e : Env) (s : State) (m : MethodId) (args : Array Value) (below : List Frame) (meth : Method) (c : Code) (Q : State → Prop) (A : Nat → Prop) (dC : Nat → ClassId) (dI : Nat → Nat → Nat) (a : Nat → Nat) (ac : Nat → ClassId) (g : Int32 → Int32 → (St) → Option (Int32 × (St))) (r : Int32 × (St)) : Prop := ∀ (x1 : Int32) (x2 : Int32) (s0 : St) (H : Heap) (locs : List Loc) (ls : Array Slot), g x1 x2 s0 = some r → va_P (dC, dI) vwCl (dw_X10 a ac s0) H → va_D A (dw_X10 a ac s0) → va_S A s.heap H locs → lv_has ls 3 [(0, .ref (a 0)), (1, .int x1), (2, .int x2)] → W p l e (headSpec ow_dm_X10_namedFiles ({ frames := 0, cells := 0, slots := 0, locals := 0 })).room s m args below meth c H locs 0 0 Q (F0 m 4 ls [])
def dj_X10_namedFiles_0 (p : Program) (l : Launch) (e : Env) (s : State) (m : MethodId) (args : Array Value) (below : List Frame) (meth : Method) (c : Code) (Q : State → Prop) (A : Nat → Prop) (dC : Nat → ClassId) (dI : Nat → Nat → Nat) (a : Nat → Nat) (ac : Nat → ClassId) (g : (St) → Option (Int32 × (St))) (r : Int32 × (St)) : Prop := ∀ (s0 : St) (H : Heap) (locs : List Loc) (ls : Array Slot), g s0 = some r → va_P (dC, dI) vwCl (dw_X10 a ac s0) H → va_D A (dw_X10 a ac s0) → va_S A s.heap H locs → lv_has ls 3 [(0, .ref (a 0))] → W p l e (headSpec ow_dm_X10_namedFiles ({ frames := 0, cells := 0, slots := 0, locals := 0 })).room s m args below meth c H locs 0 0 Q (F0 m 0 ls [])
set_option maxHeartbeats 40000000 in
set_option maxRecDepth 100000 in
theorem dB_X10_namedFiles_4 {p : Program} {l : Launch} {e : Env} {s : State} {m : MethodId} {args : Array Value} {below : List Frame} {meth : Method} {c : Code} {Q : State → Prop} {A : Nat → Prop} {dC : Nat → ClassId} {dI : Nat → Nat → Nat} {a : Nat → Nat} {ac : Nat → ClassId} {n : Nat} {r : Int32 × (St)} (C : nd_C p l s m args c A (dC, dI) cX10_namedFiles 3 RX10 ow_dm_X10_namedFiles (dk_X10 ac)) (K : nd_Ki p l e (headSpec ow_dm_X10_namedFiles ({ frames := 0, cells := 0, slots := 0, locals := 0 })).room s m args below meth c Q A (dC, dI) cX10_namedFiles .int (St) (dw_X10 a ac) r) {g4 : Int32 → Int32 → (St) → Option (Int32 × (St))} (J4 : dj_X10_namedFiles_4 p l e s m args below meth c Q A dC dI a ac g4 r) : dj_X10_namedFiles_4 p l e s m args below meth c Q A dC dI a ac (dF_X10_namedFiles_4 n g4) r := by
  obtain ⟨hlt, hx, hb, hml, hown, hts, hN, hA, hK⟩ := id C
  intro x1 x2 s0 H locs ls h hP hD hS hl
  unfold dF_X10_namedFiles_4 at h
  refine lv_iload_n hx hb dX10_namedFiles_4 rfl (lv_at hl 2 rfl) ?_
  refine lv_bipush (v := 16) hx hb dX10_namedFiles_5 (by decide) ?_
  refine lv_icmp_ge (tgt := 29) hx hb dX10_namedFiles_7 (by decide) (fun c1 => ?_) (fun c1 => ?_)
  · have h := nd_pos h c1
    refine lv_iload_n hx hb dX10_namedFiles_29 rfl (lv_at hl 1 rfl) ?_
    exact K _ _ _ _ _ _ dX10_namedFiles_30 rfl (Option.some.inj h).symm hP hD hS
  · have h := nd_neg h c1
    refine lv_iload_n hx hb dX10_namedFiles_10 rfl (lv_at hl 1 rfl) ?_
    refine lv_aload_n hx hb dX10_namedFiles_11 rfl (lv_at hl 0 rfl) ?_
    refine va_get (D := (dC, dI)) (ci := 11) (v := .ref (a 5)) (C := RX10) (T := TX10) (N := 11) hx hb hts hi_dm_X10_namedFiles_X10 hown hK hP 0 rfl rfl 4 (by decide) (hts (.fieldLink RX10 25 "TimeMachine$Things" "file" "[I") (List.mem_of_getElem? (i := 1) rfl)) (fun _ h9 => h9) rfl dX10_namedFiles_12 ?_
    refine lv_iload_n hx hb dX10_namedFiles_15 rfl (lv_at hl 2 rfl) ?_
    refine lv_iconst (v := 3) hx hb dX10_namedFiles_16 (by decide) ?_
    refine lv_imul hx hb dX10_namedFiles_17 ?_
    refine lv_iconst (v := 2) hx hb dX10_namedFiles_18 (by decide) ?_
    refine lv_iadd hx hb dX10_namedFiles_19 ?_
    obtain ⟨i2, h⟩ := nd_ck_e h
    refine va_iald (i := ((x2 * 3) + 2)) hx hb hK hP 5 4 rfl rfl i2 dX10_namedFiles_20 ?_
    refine lv_iadd hx hb dX10_namedFiles_21 ?_
    refine lv_topi (fun z3 ez3 => ?_)
    have h := nd_at h ez3
    refine lv_istore_n (lv' := [(1, .int z3), (0, .ref (a 0)), (2, .int x2)]) hx hb dX10_namedFiles_22 rfl hl (by decide) rfl (fun ls hl => ?_)
    obtain ⟨z4, ez4, h⟩ := nd_let_e h
    refine lv_iinc (v := z4) (lv' := [(2, .int z4), (1, .int z3), (0, .ref (a 0))]) hx hb dX10_namedFiles_23 hl (k := 2) rfl (by rw [ez4]) (by decide) rfl (fun ls hl => ?_)
    refine lv_goto (tgt := 4) hx hb dX10_namedFiles_26 (by decide) ?_
    exact (J4) (z3) (z4) s0 _ _ _ h hP hD hS (lv_sub hl [2, 1, 0] rfl)
set_option maxHeartbeats 40000000 in
set_option maxRecDepth 100000 in
theorem db_X10_namedFiles_4 {p : Program} {l : Launch} {e : Env} {s : State} {m : MethodId} {args : Array Value} {below : List Frame} {meth : Method} {c : Code} {Q : State → Prop} {A : Nat → Prop} {dC : Nat → ClassId} {dI : Nat → Nat → Nat} {a : Nat → Nat} {ac : Nat → ClassId} {n : Nat} {r : Int32 × (St)} (C : nd_C p l s m args c A (dC, dI) cX10_namedFiles 3 RX10 ow_dm_X10_namedFiles (dk_X10 ac)) (K : nd_Ki p l e (headSpec ow_dm_X10_namedFiles ({ frames := 0, cells := 0, slots := 0, locals := 0 })).room s m args below meth c Q A (dC, dI) cX10_namedFiles .int (St) (dw_X10 a ac) r) (k : Nat) : dj_X10_namedFiles_4 p l e s m args below meth c Q A dC dI a ac (df_X10_namedFiles_4 n k) r := by
  induction k with
  | zero => intro x1 x2 s0 H locs ls h; exact nomatch (show (none : Option (Int32 × (St))) = some r from h)
  | succ k ih => exact dB_X10_namedFiles_4 C K ih
set_option maxHeartbeats 40000000 in
set_option maxRecDepth 100000 in
theorem db_X10_namedFiles_0 {p : Program} {l : Launch} {e : Env} {s : State} {m : MethodId} {args : Array Value} {below : List Frame} {meth : Method} {c : Code} {Q : State → Prop} {A : Nat → Prop} {dC : Nat → ClassId} {dI : Nat → Nat → Nat} {a : Nat → Nat} {ac : Nat → ClassId} {n : Nat} {r : Int32 × (St)} (C : nd_C p l s m args c A (dC, dI) cX10_namedFiles 3 RX10 ow_dm_X10_namedFiles (dk_X10 ac)) (K : nd_Ki p l e (headSpec ow_dm_X10_namedFiles ({ frames := 0, cells := 0, slots := 0, locals := 0 })).room s m args below meth c Q A (dC, dI) cX10_namedFiles .int (St) (dw_X10 a ac) r) : dj_X10_namedFiles_0 p l e s m args below meth c Q A dC dI a ac (df_X10_namedFiles_0 n) r := by
  obtain ⟨hlt, hx, hb, hml, hown, hts, hN, hA, hK⟩ := id C
  intro s0 H locs ls h hP hD hS hl
  unfold df_X10_namedFiles_0 at h
  refine lv_iconst (v := 0) hx hb dX10_namedFiles_0 (by decide) ?_
  refine lv_istore_n (lv' := [(1, .int 0), (0, .ref (a 0))]) hx hb dX10_namedFiles_1 rfl hl (by decide) rfl (fun ls hl => ?_)
  refine lv_iconst (v := 0) hx hb dX10_namedFiles_2 (by decide) ?_
  refine lv_istore_n (lv' := [(2, .int 0), (1, .int 0), (0, .ref (a 0))]) hx hb dX10_namedFiles_3 rfl hl (by decide) rfl (fun ls hl => ?_)
  exact (db_X10_namedFiles_4 C K n) (0) (0) s0 _ _ _ h hP hD hS (lv_sub hl [2, 1, 0] rfl)
set_option maxHeartbeats 40000000 in
set_option maxRecDepth 100000 in
theorem dm_X10_namedFiles (l : Launch) (hlt : l.stackTraces = false) (dC : Nat → ClassId) (dI : Nat → Nat → Nat) (a : Nat → Nat) (ac : Nat → ClassId) (n : Nat) (s0 : St) {r : Int32 × (St)} (h : df_X10_namedFiles n s0 = some r) (sz : Nat) : Met l yX10_namedFiles ow_dm_X10_namedFiles ({ frames := 0, cells := 0, slots := 0, locals := 0 }) (va_Pc [.ref (a 0)] (fun U => U.heap.size = sz ∧ va_P (dC, dI) vwCl (dw_X10 a ac s0) U.heap ∧ va_K (dC, dI) vwCl (dk_X10 ac) U ∧ va_D (fun _ => True) (dw_X10 a ac s0) ∧ nv_E (va_A (dw_X10 a ac s0) sz) U)) (va_Qi (fun x _ => x = r.1) (fun (_ : Unit) t => va_P (dC, dI) vwCl (dw_X10 a ac r.2) t.heap ∧ va_K (dC, dI) vwCl (dk_X10 ac) t ∧ va_D (va_A (dw_X10 a ac s0) sz) (dw_X10 a ac r.2)) (va_A (dw_X10 a ac s0) sz)) 0 0 (va_A (dw_X10 a ac s0) sz) := by
  refine Met.ofW (cc := cX10_namedFiles) (maxL := 3) (ret := (some .int)) (by decide) rfl ?_
  intro p e s m args below meth c s₁ B hml hv
  obtain ⟨rfl, hsz, hP, hK, hD0, hN⟩ := hv
  have hx := B.exec
  have hb := B.bytes
  have hr := B.returns
  have hts := atoms_spec (ws := ow_dm_X10_namedFiles) B.pre
  have hown : s.vm.findClass RX10 = some m.cls := findClass_of_methodNamed B.named
  have hlocks := B.notSynchronized
  subst hsz
  have hD := hD0.self (sz := s.heap.size)
  generalize hAe : va_A (dw_X10 a ac s0) s.heap.size = A at hD hN ⊢
  have hA : ∀ q : Nat, s.heap.size ≤ q → A q := fun q h => by rw [← hAe]; exact Or.inr h
  have hl := lv_entry ([.ref (a 0)]) (n := 3) (Nat.le_of_ble_eq_true rfl)
  rw [lg_entry_eq]
  generalize (lg_sl ([.ref (a 0)]) ++ List.replicate (3 - (lg_sl ([.ref (a 0)])).length) Slot.unset).toArray = ls at hl ⊢
  have hl : lv_has ls 3 [(0, .ref (a 0))] := hl
  exact db_X10_namedFiles_0 (dC := dC) (dI := dI) (a := a) (ac := ac) (n := n) (r := r) ⟨hlt, hx, hb, hml, hown, hts, hN, hA, hK⟩ (fun pc v τ H locs ls d z er hP hD hS => by subst er; exact W.zret (v := v) hx hb hr z (fun t ht hW => ⟨⟨v, (), rfl, rfl, by rw [ht]; exact hP, va_K.moved hW.alike hK, hD⟩, hS.F ht⟩) hS.2.2 d) s0 _ _ _ h hP hD va_S.rf (lv_sub hl [0] rfl)
def ow_dm_X10_amount : List Cond := .code yX10_amount cX10_amount 4 (some .int) :: ([.fieldLink RX10 15 "TimeMachine$Things" "opening" "[I", .fieldLink RX10 18 "TimeMachine$Things" "pipe" "[I", .fieldLink RX10 25 "TimeMachine$Things" "file" "[I", .fieldLink RX10 46 "TimeMachine$Things" "typedBytes" "I"] ++ (u_ws RX10 TX10 11 ++ []))
theorem gd_dm_X10_amount : ∀ w ∈ ow_dm_X10_amount, (w.onTables && w.keeps) = true ∨ ∃ ty, w = Cond.arrayClass ty := List.forall_mem_cons.mpr ⟨good_of_word rfl, List.forall_mem_append.mpr ⟨fun w h => good_of_word (List.all_eq_true.mp (by decide +kernel) w h), List.forall_mem_append.mpr ⟨gu_X10, fun _ h => nomatch h⟩⟩⟩
theorem hi_dm_X10_amount_X10 : ∀ w ∈ u_ws RX10 TX10 11, w ∈ ow_dm_X10_amount := fun w h => List.mem_cons_of_mem _ (List.mem_append_right _ (List.mem_append_left _ h))
def dj_X10_amount_60 (p : Program) (l : Launch) (e : Env) (s : State) (m : MethodId) (args : Array Value) (below : List Frame) (meth : Method) (c : Code) (Q : State → Prop) (A : Nat → Prop) (dC : Nat → ClassId) (dI : Nat → Nat → Nat) (a : Nat → Nat) (ac : Nat → ClassId) (g : Int32 → (St) → Option (Int32 × (St))) (r : Int32 × (St)) : Prop := ∀ (y0 : Int32) (s0 : St) (H : Heap) (locs : List Loc) (ls : Array Slot), g y0 s0 = some r → va_P (dC, dI) vwCl (dw_X10 a ac s0) H → va_D A (dw_X10 a ac s0) → va_S A s.heap H locs → lv_has ls 4 [] → W p l e (headSpec ow_dm_X10_amount ({ frames := 0, cells := 0, slots := 0, locals := 0 })).room s m args below meth c H locs 0 0 Q (F0 m 60 ls [.int y0])
def dj_X10_amount_0 (p : Program) (l : Launch) (e : Env) (s : State) (m : MethodId) (args : Array Value) (below : List Frame) (meth : Method) (c : Code) (Q : State → Prop) (A : Nat → Prop) (dC : Nat → ClassId) (dI : Nat → Nat → Nat) (a : Nat → Nat) (ac : Nat → ClassId) (g : Int32 → (St) → Option (Int32 × (St))) (r : Int32 × (St)) : Prop := ∀ (v0 : Int32) (s0 : St) (H : Heap) (locs : List Loc) (ls : Array Slot), g v0 s0 = some r → va_P (dC, dI) vwCl (dw_X10 a ac s0) H → va_D A (dw_X10 a ac s0) → va_S A s.heap H locs → lv_has ls 4 [(0, .ref (a 0)), (1, .int v0)] → W p l e (headSpec ow_dm_X10_amount ({ frames := 0, cells := 0, slots := 0, locals := 0 })).room s m args below meth c H locs 0 0 Q (F0 m 0 ls [])
set_option maxHeartbeats 40000000 in
set_option maxRecDepth 100000 in
theorem db_X10_amount_60 {p : Program} {l : Launch} {e : Env} {s : State} {m : MethodId} {args : Array Value} {below : List Frame} {meth : Method} {c : Code} {Q : State → Prop} {A : Nat → Prop} {dC : Nat → ClassId} {dI : Nat → Nat → Nat} {a : Nat → Nat} {ac : Nat → ClassId} {n : Nat} {r : Int32 × (St)} (C : nd_C p l s m args c A (dC, dI) cX10_amount 4 RX10 ow_dm_X10_amount (dk_X10 ac)) (K : nd_Ki p l e (headSpec ow_dm_X10_amount ({ frames := 0, cells := 0, slots := 0, locals := 0 })).room s m args below meth c Q A (dC, dI) cX10_amount .int (St) (dw_X10 a ac) r) : dj_X10_amount_60 p l e s m args below meth c Q A dC dI a ac (df_X10_amount_60 n) r := by
  obtain ⟨hlt, hx, hb, hml, hown, hts, hN, hA, hK⟩ := id C
  intro y0 s0 H locs ls h hP hD hS hl
  unfold df_X10_amount_60 at h
  exact K _ _ _ _ _ _ dX10_amount_60 rfl (Option.some.inj h).symm hP hD hS
set_option maxHeartbeats 40000000 in
set_option maxRecDepth 100000 in
theorem db_X10_amount_0 {p : Program} {l : Launch} {e : Env} {s : State} {m : MethodId} {args : Array Value} {below : List Frame} {meth : Method} {c : Code} {Q : State → Prop} {A : Nat → Prop} {dC : Nat → ClassId} {dI : Nat → Nat → Nat} {a : Nat → Nat} {ac : Nat → ClassId} {n : Nat} {r : Int32 × (St)} (C : nd_C p l s m args c A (dC, dI) cX10_amount 4 RX10 ow_dm_X10_amount (dk_X10 ac)) (K : nd_Ki p l e (headSpec ow_dm_X10_amount ({ frames := 0, cells := 0, slots := 0, locals := 0 })).room s m args below meth c Q A (dC, dI) cX10_amount .int (St) (dw_X10 a ac) r) : dj_X10_amount_0 p l e s m args below meth c Q A dC dI a ac (df_X10_amount_0 n) r := by
  obtain ⟨hlt, hx, hb, hml, hown, hts, hN, hA, hK⟩ := id C
  intro v0 s0 H locs ls h hP hD hS hl
  unfold df_X10_amount_0 at h
  refine lv_aload_n hx hb dX10_amount_0 rfl (lv_at hl 0 rfl) ?_
  refine va_get (D := (dC, dI)) (ci := 11) (v := .ref (a 2)) (C := RX10) (T := TX10) (N := 11) hx hb hts hi_dm_X10_amount_X10 hown hK hP 0 rfl rfl 1 (by decide) (hts (.fieldLink RX10 15 "TimeMachine$Things" "opening" "[I") (List.mem_of_getElem? (i := 1) rfl)) (fun _ h9 => h9) rfl dX10_amount_1 ?_
  refine lv_iload_n hx hb dX10_amount_4 rfl (lv_at hl 1 rfl) ?_
  refine lv_iconst (v := 5) hx hb dX10_amount_5 (by decide) ?_
  refine lv_imul hx hb dX10_amount_6 ?_
  refine lv_iconst (v := 0) hx hb dX10_amount_7 (by decide) ?_
  refine lv_iadd hx hb dX10_amount_8 ?_
  obtain ⟨i1, h⟩ := nd_ck_e h
  refine va_iald (i := ((v0 * 5) + 0)) hx hb hK hP 2 1 rfl rfl i1 dX10_amount_9 ?_
  refine lv_topi (fun z2 ez2 => ?_)
  have h := nd_at h ez2
  refine lv_istore_n (lv' := [(2, .int z2), (0, .ref (a 0)), (1, .int v0)]) hx hb dX10_amount_10 rfl hl (by decide) rfl (fun ls hl => ?_)
  refine lv_aload_n hx hb dX10_amount_11 rfl (lv_at hl 1 rfl) ?_
  refine va_get (D := (dC, dI)) (ci := 11) (v := .ref (a 2)) (C := RX10) (T := TX10) (N := 11) hx hb hts hi_dm_X10_amount_X10 hown hK hP 0 rfl rfl 1 (by decide) (hts (.fieldLink RX10 15 "TimeMachine$Things" "opening" "[I") (List.mem_of_getElem? (i := 1) rfl)) (fun _ h9 => h9) rfl dX10_amount_12 ?_
  refine lv_iload_n hx hb dX10_amount_15 rfl (lv_at hl 2 rfl) ?_
  refine lv_iconst (v := 5) hx hb dX10_amount_16 (by decide) ?_
  refine lv_imul hx hb dX10_amount_17 ?_
  refine lv_iconst (v := 2) hx hb dX10_amount_18 (by decide) ?_
  refine lv_iadd hx hb dX10_amount_19 ?_
  obtain ⟨i3, h⟩ := nd_ck_e h
  refine va_iald (i := ((v0 * 5) + 2)) hx hb hK hP 2 1 rfl rfl i3 dX10_amount_20 ?_
  refine lv_topi (fun z4 ez4 => ?_)
  have h := nd_at h ez4
  refine lv_istore_n (lv' := [(3, .int z4), (2, .int z2), (0, .ref (a 0)), (1, .int v0)]) hx hb dX10_amount_21 rfl hl (by decide) rfl (fun ls hl => ?_)
  refine lv_iload_n hx hb dX10_amount_22 rfl (lv_at hl 1 rfl) ?_
  refine lv_iconst (v := 4) hx hb dX10_amount_23 (by decide) ?_
  refine lv_icmp_ne (tgt := 32) hx hb dX10_amount_24 (by decide) (fun c5 => ?_) (fun c5 => ?_)
  · have h := nd_neg h c5
    refine lv_iload_n hx hb dX10_amount_32 rfl (lv_at hl 1 rfl) ?_
    refine lv_iconst (v := 3) hx hb dX10_amount_33 (by decide) ?_
    refine lv_icmp_ne (tgt := 50) hx hb dX10_amount_34 (by decide) (fun c6 => ?_) (fun c6 => ?_)
    · have h := nd_neg h c6
      refine lv_aload_n hx hb dX10_amount_50 rfl (lv_at hl 2 rfl) ?_
      refine va_get (D := (dC, dI)) (ci := 11) (v := .ref (a 3)) (C := RX10) (T := TX10) (N := 11) hx hb hts hi_dm_X10_amount_X10 hown hK hP 0 rfl rfl 2 (by decide) (hts (.fieldLink RX10 18 "TimeMachine$Things" "pipe" "[I") (List.mem_of_getElem? (i := 2) rfl)) (fun _ h9 => h9) rfl dX10_amount_51 ?_
      refine lv_iload_n hx hb dX10_amount_54 rfl (lv_at hl 0 rfl) ?_
      refine lv_iconst (v := 4) hx hb dX10_amount_55 (by decide) ?_
      refine lv_imul hx hb dX10_amount_56 ?_
      refine lv_iconst (v := 0) hx hb dX10_amount_57 (by decide) ?_
      refine lv_iadd hx hb dX10_amount_58 ?_
      obtain ⟨i7, h⟩ := nd_ck_e h
      refine va_iald (i := ((z4 * 4) + 0)) hx hb hK hP 3 2 rfl rfl i7 dX10_amount_59 ?_
      exact (db_X10_amount_60 C K) ((sR s0 2 (Int32.toNatClampNeg ((z4 * 4) + 0)))) s0 _ _ _ h hP hD hS (lv_sub hl [] rfl)
    · have h := nd_pos h c6
      refine lv_aload_n hx hb dX10_amount_37 rfl (lv_at hl 2 rfl) ?_
      refine va_get (D := (dC, dI)) (ci := 11) (v := .ref (a 5)) (C := RX10) (T := TX10) (N := 11) hx hb hts hi_dm_X10_amount_X10 hown hK hP 0 rfl rfl 4 (by decide) (hts (.fieldLink RX10 25 "TimeMachine$Things" "file" "[I") (List.mem_of_getElem? (i := 3) rfl)) (fun _ h9 => h9) rfl dX10_amount_38 ?_
      refine lv_iload_n hx hb dX10_amount_41 rfl (lv_at hl 0 rfl) ?_
      refine lv_iconst (v := 3) hx hb dX10_amount_42 (by decide) ?_
      refine lv_imul hx hb dX10_amount_43 ?_
      refine lv_iconst (v := 0) hx hb dX10_amount_44 (by decide) ?_
      refine lv_iadd hx hb dX10_amount_45 ?_
      obtain ⟨i8, h⟩ := nd_ck_e h
      refine va_iald (i := ((z4 * 3) + 0)) hx hb hK hP 5 4 rfl rfl i8 dX10_amount_46 ?_
      refine lv_goto (tgt := 60) hx hb dX10_amount_47 (by decide) ?_
      exact (db_X10_amount_60 C K) ((sR s0 4 (Int32.toNatClampNeg ((z4 * 3) + 0)))) s0 _ _ _ h hP hD hS (lv_sub hl [] rfl)
  · have h := nd_pos h c5
    refine lv_aload_n hx hb dX10_amount_27 rfl (lv_at hl 2 rfl) ?_
    refine va_get (D := (dC, dI)) (ci := 11) (v := .int (sI s0 0)) (C := RX10) (T := TX10) (N := 11) hx hb hts hi_dm_X10_amount_X10 hown hK hP 0 rfl rfl 8 (by decide) (hts (.fieldLink RX10 46 "TimeMachine$Things" "typedBytes" "I") (List.mem_of_getElem? (i := 4) rfl)) (fun _ h9 => h9) rfl dX10_amount_28 ?_
    exact K _ _ _ _ _ _ dX10_amount_31 rfl (Option.some.inj h).symm hP hD hS
set_option maxHeartbeats 40000000 in
set_option maxRecDepth 100000 in
theorem dm_X10_amount (l : Launch) (hlt : l.stackTraces = false) (dC : Nat → ClassId) (dI : Nat → Nat → Nat) (a : Nat → Nat) (ac : Nat → ClassId) (n : Nat) (v0 : Int32) (s0 : St) {r : Int32 × (St)} (h : df_X10_amount n v0 s0 = some r) (sz : Nat) : Met l yX10_amount ow_dm_X10_amount ({ frames := 0, cells := 0, slots := 0, locals := 0 }) (va_Pc [.ref (a 0), .int v0] (fun U => U.heap.size = sz ∧ va_P (dC, dI) vwCl (dw_X10 a ac s0) U.heap ∧ va_K (dC, dI) vwCl (dk_X10 ac) U ∧ va_D (fun _ => True) (dw_X10 a ac s0) ∧ nv_E (va_A (dw_X10 a ac s0) sz) U)) (va_Qi (fun x _ => x = r.1) (fun (_ : Unit) t => va_P (dC, dI) vwCl (dw_X10 a ac r.2) t.heap ∧ va_K (dC, dI) vwCl (dk_X10 ac) t ∧ va_D (va_A (dw_X10 a ac s0) sz) (dw_X10 a ac r.2)) (va_A (dw_X10 a ac s0) sz)) 0 0 (va_A (dw_X10 a ac s0) sz) := by
  refine Met.ofW (cc := cX10_amount) (maxL := 4) (ret := (some .int)) (by decide) rfl ?_
  intro p e s m args below meth c s₁ B hml hv
  obtain ⟨rfl, hsz, hP, hK, hD0, hN⟩ := hv
  have hx := B.exec
  have hb := B.bytes
  have hr := B.returns
  have hts := atoms_spec (ws := ow_dm_X10_amount) B.pre
  have hown : s.vm.findClass RX10 = some m.cls := findClass_of_methodNamed B.named
  have hlocks := B.notSynchronized
  subst hsz
  have hD := hD0.self (sz := s.heap.size)
  generalize hAe : va_A (dw_X10 a ac s0) s.heap.size = A at hD hN ⊢
  have hA : ∀ q : Nat, s.heap.size ≤ q → A q := fun q h => by rw [← hAe]; exact Or.inr h
  have hl := lv_entry ([.ref (a 0), .int v0]) (n := 4) (Nat.le_of_ble_eq_true rfl)
  rw [lg_entry_eq]
  generalize (lg_sl ([.ref (a 0), .int v0]) ++ List.replicate (4 - (lg_sl ([.ref (a 0), .int v0])).length) Slot.unset).toArray = ls at hl ⊢
  have hl : lv_has ls 4 [(0, .ref (a 0)), (1, .int v0)] := hl
  exact db_X10_amount_0 (dC := dC) (dI := dI) (a := a) (ac := ac) (n := n) (r := r) ⟨hlt, hx, hb, hml, hown, hts, hN, hA, hK⟩ (fun pc v τ H locs ls d z er hP hD hS => by subst er; exact W.zret (v := v) hx hb hr z (fun t ht hW => ⟨⟨v, (), rfl, rfl, by rw [ht]; exact hP, va_K.moved hW.alike hK, hD⟩, hS.F ht⟩) hS.2.2 d) v0 s0 _ _ _ h hP hD va_S.rf (lv_sub hl [0, 1] rfl)
def ow_dm_X10_byteOf : List Cond := .code yX10_byteOf cX10_byteOf 4 (some .int) :: ([.fieldLink RX10 15 "TimeMachine$Things" "opening" "[I", .fieldLink RX10 28 "TimeMachine$Things" "filed" "[B", .fieldLink RX10 34 "TimeMachine$Things" "typed" "[B", .fieldLink RX10 21 "TimeMachine$Things" "piped" "[B", .fieldLink RX10 18 "TimeMachine$Things" "pipe" "[I"] ++ (u_ws RX10 TX10 11 ++ []))
theorem gd_dm_X10_byteOf : ∀ w ∈ ow_dm_X10_byteOf, (w.onTables && w.keeps) = true ∨ ∃ ty, w = Cond.arrayClass ty := List.forall_mem_cons.mpr ⟨good_of_word rfl, List.forall_mem_append.mpr ⟨fun w h => good_of_word (List.all_eq_true.mp (by decide +kernel) w h), List.forall_mem_append.mpr ⟨gu_X10, fun _ h => nomatch h⟩⟩⟩
theorem hi_dm_X10_byteOf_X10 : ∀ w ∈ u_ws RX10 TX10 11, w ∈ ow_dm_X10_byteOf := fun w h => List.mem_cons_of_mem _ (List.mem_append_right _ (List.mem_append_left _ h))
def dj_X10_byteOf_0 (p : Program) (l : Launch) (e : Env) (s : State) (m : MethodId) (args : Array Value) (below : List Frame) (meth : Method) (c : Code) (Q : State → Prop) (A : Nat → Prop) (dC : Nat → ClassId) (dI : Nat → Nat → Nat) (a : Nat → Nat) (ac : Nat → ClassId) (g : Int32 → Int32 → (St) → Option (Int32 × (St))) (r : Int32 × (St)) : Prop := ∀ (v0 : Int32) (v1 : Int32) (s0 : St) (H : Heap) (locs : List Loc) (ls : Array Slot), g v0 v1 s0 = some r → va_P (dC, dI) vwCl (dw_X10 a ac s0) H → va_D A (dw_X10 a ac s0) → va_S A s.heap H locs → lv_has ls 4 [(0, .ref (a 0)), (1, .int v0), (2, .int v1)] → W p l e (headSpec ow_dm_X10_byteOf ({ frames := 0, cells := 0, slots := 0, locals := 0 })).room s m args below meth c H locs 0 0 Q (F0 m 0 ls [])
set_option maxHeartbeats 40000000 in
set_option maxRecDepth 100000 in
theorem db_X10_byteOf_0 {p : Program} {l : Launch} {e : Env} {s : State} {m : MethodId} {args : Array Value} {below : List Frame} {meth : Method} {c : Code} {Q : State → Prop} {A : Nat → Prop} {dC : Nat → ClassId} {dI : Nat → Nat → Nat} {a : Nat → Nat} {ac : Nat → ClassId} {n : Nat} {r : Int32 × (St)} (C : nd_C p l s m args c A (dC, dI) cX10_byteOf 4 RX10 ow_dm_X10_byteOf (dk_X10 ac)) (K : nd_Ki p l e (headSpec ow_dm_X10_byteOf ({ frames := 0, cells := 0, slots := 0, locals := 0 })).room s m args below meth c Q A (dC, dI) cX10_byteOf .int (St) (dw_X10 a ac) r) : dj_X10_byteOf_0 p l e s m args below meth c Q A dC dI a ac (df_X10_byteOf_0 n) r := by
  obtain ⟨hlt, hx, hb, hml, hown, hts, hN, hA, hK⟩ := id C
  intro v0 v1 s0 H locs ls h hP hD hS hl
  unfold df_X10_byteOf_0 at h
  refine lv_aload_n hx hb dX10_byteOf_0 rfl (lv_at hl 0 rfl) ?_
  refine va_get (D := (dC, dI)) (ci := 11) (v := .ref (a 2)) (C := RX10) (T := TX10) (N := 11) hx hb hts hi_dm_X10_byteOf_X10 hown hK hP 0 rfl rfl 1 (by decide) (hts (.fieldLink RX10 15 "TimeMachine$Things" "opening" "[I") (List.mem_of_getElem? (i := 1) rfl)) (fun _ h9 => h9) rfl dX10_byteOf_1 ?_
  refine lv_iload_n hx hb dX10_byteOf_4 rfl (lv_at hl 1 rfl) ?_
  refine lv_iconst (v := 5) hx hb dX10_byteOf_5 (by decide) ?_
  refine lv_imul hx hb dX10_byteOf_6 ?_
  refine lv_iconst (v := 2) hx hb dX10_byteOf_7 (by decide) ?_
  refine lv_iadd hx hb dX10_byteOf_8 ?_
  obtain ⟨i1, h⟩ := nd_ck_e h
  refine va_iald (i := ((v0 * 5) + 2)) hx hb hK hP 2 1 rfl rfl i1 dX10_byteOf_9 ?_
  refine lv_topi (fun z2 ez2 => ?_)
  have h := nd_at h ez2
  refine lv_istore_n (lv' := [(3, .int z2), (0, .ref (a 0)), (1, .int v0), (2, .int v1)]) hx hb dX10_byteOf_10 rfl hl (by decide) rfl (fun ls hl => ?_)
  refine lv_aload_n hx hb dX10_byteOf_11 rfl (lv_at hl 1 rfl) ?_
  refine va_get (D := (dC, dI)) (ci := 11) (v := .ref (a 2)) (C := RX10) (T := TX10) (N := 11) hx hb hts hi_dm_X10_byteOf_X10 hown hK hP 0 rfl rfl 1 (by decide) (hts (.fieldLink RX10 15 "TimeMachine$Things" "opening" "[I") (List.mem_of_getElem? (i := 1) rfl)) (fun _ h9 => h9) rfl dX10_byteOf_12 ?_
  refine lv_iload_n hx hb dX10_byteOf_15 rfl (lv_at hl 2 rfl) ?_
  refine lv_iconst (v := 5) hx hb dX10_byteOf_16 (by decide) ?_
  refine lv_imul hx hb dX10_byteOf_17 ?_
  refine lv_iconst (v := 0) hx hb dX10_byteOf_18 (by decide) ?_
  refine lv_iadd hx hb dX10_byteOf_19 ?_
  obtain ⟨i3, h⟩ := nd_ck_e h
  refine va_iald (i := ((v0 * 5) + 0)) hx hb hK hP 2 1 rfl rfl i3 dX10_byteOf_20 ?_
  by_cases c4 : (sR s0 1 (Int32.toNatClampNeg ((v0 * 5) + 0))) = 3
  · have h := nd_pos h c4
    refine lv_lookup (off := 42) (tgt := 63) hx hb dX10_byteOf_21 (by decide) (by rw [c4]; decide) (by decide) ?_
    refine lv_aload_n hx hb dX10_byteOf_63 rfl (lv_at hl 1 rfl) ?_
    refine va_get (D := (dC, dI)) (ci := 11) (v := .ref (a 6)) (C := RX10) (T := TX10) (N := 11) hx hb hts hi_dm_X10_byteOf_X10 hown hK hP 0 rfl rfl 5 (by decide) (hts (.fieldLink RX10 28 "TimeMachine$Things" "filed" "[B") (List.mem_of_getElem? (i := 2) rfl)) (fun _ h9 => h9) rfl dX10_byteOf_64 ?_
    refine lv_iload_n hx hb dX10_byteOf_67 rfl (lv_at hl 0 rfl) ?_
    refine lv_sipush (v := 512) hx hb dX10_byteOf_68 (by decide) ?_
    refine lv_imul hx hb dX10_byteOf_71 ?_
    refine lv_iload_n hx hb dX10_byteOf_72 rfl (lv_at hl 3 rfl) ?_
    refine lv_sipush (v := 511) hx hb dX10_byteOf_73 (by decide) ?_
    refine lv_iand hx hb dX10_byteOf_76 ?_
    refine lv_iadd hx hb dX10_byteOf_77 ?_
    obtain ⟨i5, h⟩ := nd_ck_e h
    refine va_bald (i := ((z2 * 512) + (v1 &&& 511))) hx hb hK hP 6 5 rfl rfl i5 dX10_byteOf_78 ?_
    refine lv_sipush (v := 255) hx hb dX10_byteOf_79 (by decide) ?_
    refine lv_iand hx hb dX10_byteOf_82 ?_
    exact K _ _ _ _ _ _ dX10_byteOf_83 rfl (Option.some.inj h).symm hP hD hS
  have h := nd_neg h c4
  by_cases c6 : (sR s0 1 (Int32.toNatClampNeg ((v0 * 5) + 0))) = 4
  · have h := nd_pos h c6
    refine lv_lookup (off := 27) (tgt := 48) hx hb dX10_byteOf_21 (by decide) (by rw [c6]; decide) (by decide) ?_
    refine lv_aload_n hx hb dX10_byteOf_48 rfl (lv_at hl 1 rfl) ?_
    refine va_get (D := (dC, dI)) (ci := 11) (v := .ref (a 8)) (C := RX10) (T := TX10) (N := 11) hx hb hts hi_dm_X10_byteOf_X10 hown hK hP 0 rfl rfl 7 (by decide) (hts (.fieldLink RX10 34 "TimeMachine$Things" "typed" "[B") (List.mem_of_getElem? (i := 3) rfl)) (fun _ h9 => h9) rfl dX10_byteOf_49 ?_
    refine lv_iload_n hx hb dX10_byteOf_52 rfl (lv_at hl 3 rfl) ?_
    refine lv_sipush (v := 511) hx hb dX10_byteOf_53 (by decide) ?_
    refine lv_iand hx hb dX10_byteOf_56 ?_
    obtain ⟨i7, h⟩ := nd_ck_e h
    refine va_bald (i := (v1 &&& 511)) hx hb hK hP 8 7 rfl rfl i7 dX10_byteOf_57 ?_
    refine lv_sipush (v := 255) hx hb dX10_byteOf_58 (by decide) ?_
    refine lv_iand hx hb dX10_byteOf_61 ?_
    exact K _ _ _ _ _ _ dX10_byteOf_62 rfl (Option.some.inj h).symm hP hD hS
  have h := nd_neg h c6
  refine lv_lookup (off := 63) (tgt := 84) hx hb dX10_byteOf_21 (by decide) (show Op.lookupswitch.offset [(3, 42), (4, 27)] 63 ((sR s0 1 (Int32.toNatClampNeg ((v0 * 5) + 0))) : Int32).toInt = 63 by rw [lv_osw c4 (by decide), lv_osw c6 (by decide)] <;> rfl) (by decide) ?_
  refine lv_aload_n hx hb dX10_byteOf_84 rfl (lv_at hl 1 rfl) ?_
  refine va_get (D := (dC, dI)) (ci := 11) (v := .ref (a 4)) (C := RX10) (T := TX10) (N := 11) hx hb hts hi_dm_X10_byteOf_X10 hown hK hP 0 rfl rfl 3 (by decide) (hts (.fieldLink RX10 21 "TimeMachine$Things" "piped" "[B") (List.mem_of_getElem? (i := 4) rfl)) (fun _ h9 => h9) rfl dX10_byteOf_85 ?_
  refine lv_iload_n hx hb dX10_byteOf_88 rfl (lv_at hl 0 rfl) ?_
  refine lv_sipush (v := 512) hx hb dX10_byteOf_89 (by decide) ?_
  refine lv_imul hx hb dX10_byteOf_92 ?_
  refine lv_aload_n hx hb dX10_byteOf_93 rfl (lv_at hl 1 rfl) ?_
  refine va_get (D := (dC, dI)) (ci := 11) (v := .ref (a 3)) (C := RX10) (T := TX10) (N := 11) hx hb hts hi_dm_X10_byteOf_X10 hown hK hP 0 rfl rfl 2 (by decide) (hts (.fieldLink RX10 18 "TimeMachine$Things" "pipe" "[I") (List.mem_of_getElem? (i := 5) rfl)) (fun _ h9 => h9) rfl dX10_byteOf_94 ?_
  refine lv_iload_n hx hb dX10_byteOf_97 rfl (lv_at hl 0 rfl) ?_
  refine lv_iconst (v := 4) hx hb dX10_byteOf_98 (by decide) ?_
  refine lv_imul hx hb dX10_byteOf_99 ?_
  refine lv_iconst (v := 3) hx hb dX10_byteOf_100 (by decide) ?_
  refine lv_iadd hx hb dX10_byteOf_101 ?_
  obtain ⟨i8, h⟩ := nd_ck_e h
  refine va_iald (i := ((z2 * 4) + 3)) hx hb hK hP 3 2 rfl rfl i8 dX10_byteOf_102 ?_
  refine lv_iload_n hx hb dX10_byteOf_103 rfl (lv_at hl 3 rfl) ?_
  refine lv_iadd hx hb dX10_byteOf_104 ?_
  refine lv_sipush (v := 511) hx hb dX10_byteOf_105 (by decide) ?_
  refine lv_iand hx hb dX10_byteOf_108 ?_
  refine lv_iadd hx hb dX10_byteOf_109 ?_
  obtain ⟨i9, h⟩ := nd_ck_e h
  refine va_bald (i := ((z2 * 512) + (((sR s0 2 (Int32.toNatClampNeg ((z2 * 4) + 3))) + v1) &&& 511))) hx hb hK hP 4 3 rfl rfl i9 dX10_byteOf_110 ?_
  refine lv_sipush (v := 255) hx hb dX10_byteOf_111 (by decide) ?_
  refine lv_iand hx hb dX10_byteOf_114 ?_
  exact K _ _ _ _ _ _ dX10_byteOf_115 rfl (Option.some.inj h).symm hP hD hS
set_option maxHeartbeats 40000000 in
set_option maxRecDepth 100000 in
theorem dm_X10_byteOf (l : Launch) (hlt : l.stackTraces = false) (dC : Nat → ClassId) (dI : Nat → Nat → Nat) (a : Nat → Nat) (ac : Nat → ClassId) (n : Nat) (v0 : Int32) (v1 : Int32) (s0 : St) {r : Int32 × (St)} (h : df_X10_byteOf n v0 v1 s0 = some r) (sz : Nat) : Met l yX10_byteOf ow_dm_X10_byteOf ({ frames := 0, cells := 0, slots := 0, locals := 0 }) (va_Pc [.ref (a 0), .int v0, .int v1] (fun U => U.heap.size = sz ∧ va_P (dC, dI) vwCl (dw_X10 a ac s0) U.heap ∧ va_K (dC, dI) vwCl (dk_X10 ac) U ∧ va_D (fun _ => True) (dw_X10 a ac s0) ∧ nv_E (va_A (dw_X10 a ac s0) sz) U)) (va_Qi (fun x _ => x = r.1) (fun (_ : Unit) t => va_P (dC, dI) vwCl (dw_X10 a ac r.2) t.heap ∧ va_K (dC, dI) vwCl (dk_X10 ac) t ∧ va_D (va_A (dw_X10 a ac s0) sz) (dw_X10 a ac r.2)) (va_A (dw_X10 a ac s0) sz)) 0 0 (va_A (dw_X10 a ac s0) sz) := by
  refine Met.ofW (cc := cX10_byteOf) (maxL := 4) (ret := (some .int)) (by decide) rfl ?_
  intro p e s m args below meth c s₁ B hml hv
  obtain ⟨rfl, hsz, hP, hK, hD0, hN⟩ := hv
  have hx := B.exec
  have hb := B.bytes
  have hr := B.returns
  have hts := atoms_spec (ws := ow_dm_X10_byteOf) B.pre
  have hown : s.vm.findClass RX10 = some m.cls := findClass_of_methodNamed B.named
  have hlocks := B.notSynchronized
  subst hsz
  have hD := hD0.self (sz := s.heap.size)
  generalize hAe : va_A (dw_X10 a ac s0) s.heap.size = A at hD hN ⊢
  have hA : ∀ q : Nat, s.heap.size ≤ q → A q := fun q h => by rw [← hAe]; exact Or.inr h
  have hl := lv_entry ([.ref (a 0), .int v0, .int v1]) (n := 4) (Nat.le_of_ble_eq_true rfl)
  rw [lg_entry_eq]
  generalize (lg_sl ([.ref (a 0), .int v0, .int v1]) ++ List.replicate (4 - (lg_sl ([.ref (a 0), .int v0, .int v1])).length) Slot.unset).toArray = ls at hl ⊢
  have hl : lv_has ls 4 [(0, .ref (a 0)), (1, .int v0), (2, .int v1)] := hl
  exact db_X10_byteOf_0 (dC := dC) (dI := dI) (a := a) (ac := ac) (n := n) (r := r) ⟨hlt, hx, hb, hml, hown, hts, hN, hA, hK⟩ (fun pc v τ H locs ls d z er hP hD hS => by subst er; exact W.zret (v := v) hx hb hr z (fun t ht hW => ⟨⟨v, (), rfl, rfl, by rw [ht]; exact hP, va_K.moved hW.alike hK, hD⟩, hS.F ht⟩) hS.2.2 d) v0 v1 s0 _ _ _ h hP hD va_S.rf (lv_sub hl [0, 1, 2] rfl)
def ow_dm_X10_told : List Cond := .code yX10_told cX10_told 3 (some .int) :: ([.methodLink RX10 74 yX10_of, .instanceMethod yX10_of, .selects RX10 yX10_of yX10_of, .initialized RX10, .methodLink RX10 83 yX10_amount, .instanceMethod yX10_amount, .selects RX10 yX10_amount yX10_amount] ++ (ow_dm_X10_of ++ (ow_dm_X10_amount ++ [])))
theorem gd_dm_X10_told : ∀ w ∈ ow_dm_X10_told, (w.onTables && w.keeps) = true ∨ ∃ ty, w = Cond.arrayClass ty := List.forall_mem_cons.mpr ⟨good_of_word rfl, List.forall_mem_append.mpr ⟨fun w h => good_of_word (List.all_eq_true.mp (by decide +kernel) w h), List.forall_mem_append.mpr ⟨gd_dm_X10_of, List.forall_mem_append.mpr ⟨gd_dm_X10_amount, fun _ h => nomatch h⟩⟩⟩⟩
theorem gi_dm_X10_told_0 : GoodIn ow_dm_X10_told (wsV RX10 74 RX10 yX10_of ow_dm_X10_of) := goodIn_app (goodIn_of _ (by decide +kernel)) (fun w h => ⟨List.mem_cons_of_mem _ (List.mem_append_right _ (List.mem_append_left _ h)), gd_dm_X10_of w h⟩)
theorem gi_dm_X10_told_1 : GoodIn ow_dm_X10_told (wsV RX10 83 RX10 yX10_amount ow_dm_X10_amount) := goodIn_app (goodIn_of _ (by decide +kernel)) (fun w h => ⟨List.mem_cons_of_mem _ (List.mem_append_right _ (List.mem_append_right _ (List.mem_append_left _ h))), gd_dm_X10_amount w h⟩)
def dj_X10_told_0 (p : Program) (l : Launch) (e : Env) (s : State) (m : MethodId) (args : Array Value) (below : List Frame) (meth : Method) (c : Code) (Q : State → Prop) (A : Nat → Prop) (dC : Nat → ClassId) (dI : Nat → Nat → Nat) (a : Nat → Nat) (ac : Nat → ClassId) (g : Int32 → Int32 → (St) → Option (Int32 × (St))) (r : Int32 × (St)) : Prop := ∀ (v0 : Int32) (v1 : Int32) (s0 : St) (H : Heap) (locs : List Loc) (ls : Array Slot), g v0 v1 s0 = some r → va_P (dC, dI) vwCl (dw_X10 a ac s0) H → va_D A (dw_X10 a ac s0) → va_S A s.heap H locs → lv_has ls 3 [(0, .ref (a 0)), (1, .int v0), (2, .int v1)] → W p l e (headSpec ow_dm_X10_told ({ frames := 1, cells := 0, slots := 0, locals := 23 })).room s m args below meth c H locs 0 0 Q (F0 m 0 ls [])
set_option maxHeartbeats 40000000 in
set_option maxRecDepth 100000 in
theorem db_X10_told_0 {p : Program} {l : Launch} {e : Env} {s : State} {m : MethodId} {args : Array Value} {below : List Frame} {meth : Method} {c : Code} {Q : State → Prop} {A : Nat → Prop} {dC : Nat → ClassId} {dI : Nat → Nat → Nat} {a : Nat → Nat} {ac : Nat → ClassId} {n : Nat} {r : Int32 × (St)} (C : nd_C p l s m args c A (dC, dI) cX10_told 3 RX10 ow_dm_X10_told (dk_X10 ac)) (K : nd_Ki p l e (headSpec ow_dm_X10_told ({ frames := 1, cells := 0, slots := 0, locals := 23 })).room s m args below meth c Q A (dC, dI) cX10_told .int (St) (dw_X10 a ac) r) : dj_X10_told_0 p l e s m args below meth c Q A dC dI a ac (df_X10_told_0 n) r := by
  obtain ⟨hlt, hx, hb, hml, hown, hts, hN, hA, hK⟩ := id C
  intro v0 v1 s0 H locs ls h hP hD hS hl
  unfold df_X10_told_0 at h
  refine lv_iload_n hx hb dX10_told_0 rfl (lv_at hl 2 rfl) ?_
  by_cases c1 : v1 = 1
  · have h := nd_pos h c1
    refine lv_lookup (off := 27) (tgt := 28) hx hb dX10_told_1 (by decide) (by rw [c1]; decide) (by decide) ?_
    refine lv_aload_n hx hb dX10_told_28 rfl (lv_at hl 0 rfl) ?_
    refine lv_iload_n hx hb dX10_told_29 rfl (lv_at hl 1 rfl) ?_
    refine lv_iconst (v := 1) hx hb dX10_told_30 (by decide) ?_
    obtain ⟨q2, s3, hq, h⟩ := nd_b2_e h
    have hPc := hP
    have hDc := hD
    have hKc := hK
    have hFc := nd_rs hD hS hA
    refine nd_cVi (As := [.int v0, .int 1]) (rest := []) (q := q2) (w' := dw_X10 a ac s3) ⟨hx, hb, hml, hown, hts⟩ (fun sz => dm_X10_of l hlt dC dI a ac n (v0) (1) s0 hq sz) (cwV 2 hts gi_dm_X10_told_0 rfl rfl rfl (by decide +kernel) ⟨Nat.le_of_ble_eq_true rfl, Nat.le_of_ble_eq_true rfl⟩) hPc hDc hKc hS hA hN (va_recv hKc hPc (ci := 11) (q0 := 0) rfl rfl) rfl hl.1 rfl (Nat.le_of_ble_eq_true rfl) dX10_told_31 (fun H locs hP1 hD1 hk1 hS => ?_)
    have hP := hP1
    have hD := hD1.weaken (fun k q _ h => hFc q.1 h)
    exact K _ _ _ _ _ _ dX10_told_34 rfl (Option.some.inj h).symm hP hD hS
  have h := nd_neg h c1
  by_cases c5 : v1 = 2
  · have h := nd_pos h c5
    refine lv_lookup (off := 34) (tgt := 35) hx hb dX10_told_1 (by decide) (by rw [c5]; decide) (by decide) ?_
    refine lv_aload_n hx hb dX10_told_35 rfl (lv_at hl 0 rfl) ?_
    refine lv_iload_n hx hb dX10_told_36 rfl (lv_at hl 1 rfl) ?_
    obtain ⟨q6, s7, hq, h⟩ := nd_b2_e h
    have hPc := hP
    have hDc := hD
    have hKc := hK
    have hFc := nd_rs hD hS hA
    refine nd_cVi (As := [.int v0]) (rest := []) (q := q6) (w' := dw_X10 a ac s7) ⟨hx, hb, hml, hown, hts⟩ (fun sz => dm_X10_amount l hlt dC dI a ac n (v0) s0 hq sz) (cwV 1 hts gi_dm_X10_told_1 rfl rfl rfl (by decide +kernel) ⟨Nat.le_of_ble_eq_true rfl, Nat.le_of_ble_eq_true rfl⟩) hPc hDc hKc hS hA hN (va_recv hKc hPc (ci := 11) (q0 := 0) rfl rfl) rfl hl.1 rfl (Nat.le_of_ble_eq_true rfl) dX10_told_37 (fun H locs hP1 hD1 hk1 hS => ?_)
    have hP := hP1
    have hD := hD1.weaken (fun k q _ h => hFc q.1 h)
    exact K _ _ _ _ _ _ dX10_told_40 rfl (Option.some.inj h).symm hP hD hS
  have h := nd_neg h c5
  refine lv_lookup (off := 40) (tgt := 41) hx hb dX10_told_1 (by decide) (show Op.lookupswitch.offset [(1, 27), (2, 34)] 40 (v1 : Int32).toInt = 40 by rw [lv_osw c1 (by decide), lv_osw c5 (by decide)] <;> rfl) (by decide) ?_
  refine lv_aload_n hx hb dX10_told_41 rfl (lv_at hl 0 rfl) ?_
  refine lv_iload_n hx hb dX10_told_42 rfl (lv_at hl 1 rfl) ?_
  refine lv_iload_n hx hb dX10_told_43 rfl (lv_at hl 2 rfl) ?_
  obtain ⟨q9, s10, hq, h⟩ := nd_b2_e h
  have hPc := hP
  have hDc := hD
  have hKc := hK
  have hFc := nd_rs hD hS hA
  refine nd_cVi (As := [.int v0, .int v1]) (rest := []) (q := q9) (w' := dw_X10 a ac s10) ⟨hx, hb, hml, hown, hts⟩ (fun sz => dm_X10_of l hlt dC dI a ac n (v0) (v1) s0 hq sz) (cwV 2 hts gi_dm_X10_told_0 rfl rfl rfl (by decide +kernel) ⟨Nat.le_of_ble_eq_true rfl, Nat.le_of_ble_eq_true rfl⟩) hPc hDc hKc hS hA hN (va_recv hKc hPc (ci := 11) (q0 := 0) rfl rfl) rfl hl.1 rfl (Nat.le_of_ble_eq_true rfl) dX10_told_44 (fun H locs hP1 hD1 hk1 hS => ?_)
  have hP := hP1
  have hD := hD1.weaken (fun k q _ h => hFc q.1 h)
  exact K _ _ _ _ _ _ dX10_told_47 rfl (Option.some.inj h).symm hP hD hS
set_option maxHeartbeats 40000000 in
set_option maxRecDepth 100000 in
theorem dm_X10_told (l : Launch) (hlt : l.stackTraces = false) (dC : Nat → ClassId) (dI : Nat → Nat → Nat) (a : Nat → Nat) (ac : Nat → ClassId) (n : Nat) (v0 : Int32) (v1 : Int32) (s0 : St) {r : Int32 × (St)} (h : df_X10_told n v0 v1 s0 = some r) (sz : Nat) : Met l yX10_told ow_dm_X10_told ({ frames := 1, cells := 0, slots := 0, locals := 23 }) (va_Pc [.ref (a 0), .int v0, .int v1] (fun U => U.heap.size = sz ∧ va_P (dC, dI) vwCl (dw_X10 a ac s0) U.heap ∧ va_K (dC, dI) vwCl (dk_X10 ac) U ∧ va_D (fun _ => True) (dw_X10 a ac s0) ∧ nv_E (va_A (dw_X10 a ac s0) sz) U)) (va_Qi (fun x _ => x = r.1) (fun (_ : Unit) t => va_P (dC, dI) vwCl (dw_X10 a ac r.2) t.heap ∧ va_K (dC, dI) vwCl (dk_X10 ac) t ∧ va_D (va_A (dw_X10 a ac s0) sz) (dw_X10 a ac r.2)) (va_A (dw_X10 a ac s0) sz)) 0 0 (va_A (dw_X10 a ac s0) sz) := by
  refine Met.ofW (cc := cX10_told) (maxL := 3) (ret := (some .int)) (by decide) rfl ?_
  intro p e s m args below meth c s₁ B hml hv
  obtain ⟨rfl, hsz, hP, hK, hD0, hN⟩ := hv
  have hx := B.exec
  have hb := B.bytes
  have hr := B.returns
  have hts := atoms_spec (ws := ow_dm_X10_told) B.pre
  have hown : s.vm.findClass RX10 = some m.cls := findClass_of_methodNamed B.named
  have hlocks := B.notSynchronized
  subst hsz
  have hD := hD0.self (sz := s.heap.size)
  generalize hAe : va_A (dw_X10 a ac s0) s.heap.size = A at hD hN ⊢
  have hA : ∀ q : Nat, s.heap.size ≤ q → A q := fun q h => by rw [← hAe]; exact Or.inr h
  have hl := lv_entry ([.ref (a 0), .int v0, .int v1]) (n := 3) (Nat.le_of_ble_eq_true rfl)
  rw [lg_entry_eq]
  generalize (lg_sl ([.ref (a 0), .int v0, .int v1]) ++ List.replicate (3 - (lg_sl ([.ref (a 0), .int v0, .int v1])).length) Slot.unset).toArray = ls at hl ⊢
  have hl : lv_has ls 3 [(0, .ref (a 0)), (1, .int v0), (2, .int v1)] := hl
  exact db_X10_told_0 (dC := dC) (dI := dI) (a := a) (ac := ac) (n := n) (r := r) ⟨hlt, hx, hb, hml, hown, hts, hN, hA, hK⟩ (fun pc v τ H locs ls d z er hP hD hS => by subst er; exact W.zret (v := v) hx hb hr z (fun t ht hW => ⟨⟨v, (), rfl, rfl, by rw [ht]; exact hP, va_K.moved hW.alike hK, hD⟩, hS.F ht⟩) hS.2.2 d) v0 v1 s0 _ _ _ h hP hD va_S.rf (lv_sub hl [0, 1, 2] rfl)
def ow_dm_X10_readWaits : List Cond := .code yX10_readWaits cX10_readWaits 5 (some .boolean) :: ([.fieldLink RX10 15 "TimeMachine$Things" "opening" "[I", .fieldLink RX10 18 "TimeMachine$Things" "pipe" "[I", .fieldLink RX10 46 "TimeMachine$Things" "typedBytes" "I"] ++ (u_ws RX10 TX10 11 ++ []))
theorem gd_dm_X10_readWaits : ∀ w ∈ ow_dm_X10_readWaits, (w.onTables && w.keeps) = true ∨ ∃ ty, w = Cond.arrayClass ty := List.forall_mem_cons.mpr ⟨good_of_word rfl, List.forall_mem_append.mpr ⟨fun w h => good_of_word (List.all_eq_true.mp (by decide +kernel) w h), List.forall_mem_append.mpr ⟨gu_X10, fun _ h => nomatch h⟩⟩⟩
theorem hi_dm_X10_readWaits_X10 : ∀ w ∈ u_ws RX10 TX10 11, w ∈ ow_dm_X10_readWaits := fun w h => List.mem_cons_of_mem _ (List.mem_append_right _ (List.mem_append_left _ h))
def dj_X10_readWaits_8 (p : Program) (l : Launch) (e : Env) (s : State) (m : MethodId) (args : Array Value) (below : List Frame) (meth : Method) (c : Code) (Q : State → Prop) (A : Nat → Prop) (dC : Nat → ClassId) (dI : Nat → Nat → Nat) (a : Nat → Nat) (ac : Nat → ClassId) (g : (St) → Option (Int32 × (St))) (r : Int32 × (St)) : Prop := ∀ (s0 : St) (H : Heap) (locs : List Loc) (ls : Array Slot), g s0 = some r → va_P (dC, dI) vwCl (dw_X10 a ac s0) H → va_D A (dw_X10 a ac s0) → va_S A s.heap H locs → lv_has ls 5 [] → W p l e (headSpec ow_dm_X10_readWaits ({ frames := 0, cells := 0, slots := 0, locals := 0 })).room s m args below meth c H locs 0 0 Q (F0 m 8 ls [])
def dj_X10_readWaits_87 (p : Program) (l : Launch) (e : Env) (s : State) (m : MethodId) (args : Array Value) (below : List Frame) (meth : Method) (c : Code) (Q : State → Prop) (A : Nat → Prop) (dC : Nat → ClassId) (dI : Nat → Nat → Nat) (a : Nat → Nat) (ac : Nat → ClassId) (g : Int32 → (St) → Option (Int32 × (St))) (r : Int32 × (St)) : Prop := ∀ (y0 : Int32) (s0 : St) (H : Heap) (locs : List Loc) (ls : Array Slot), g y0 s0 = some r → va_P (dC, dI) vwCl (dw_X10 a ac s0) H → va_D A (dw_X10 a ac s0) → va_S A s.heap H locs → lv_has ls 5 [] → W p l e (headSpec ow_dm_X10_readWaits ({ frames := 0, cells := 0, slots := 0, locals := 0 })).room s m args below meth c H locs 0 0 Q (F0 m 87 ls [.int y0])
def dj_X10_readWaits_86 (p : Program) (l : Launch) (e : Env) (s : State) (m : MethodId) (args : Array Value) (below : List Frame) (meth : Method) (c : Code) (Q : State → Prop) (A : Nat → Prop) (dC : Nat → ClassId) (dI : Nat → Nat → Nat) (a : Nat → Nat) (ac : Nat → ClassId) (g : (St) → Option (Int32 × (St))) (r : Int32 × (St)) : Prop := ∀ (s0 : St) (H : Heap) (locs : List Loc) (ls : Array Slot), g s0 = some r → va_P (dC, dI) vwCl (dw_X10 a ac s0) H → va_D A (dw_X10 a ac s0) → va_S A s.heap H locs → lv_has ls 5 [] → W p l e (headSpec ow_dm_X10_readWaits ({ frames := 0, cells := 0, slots := 0, locals := 0 })).room s m args below meth c H locs 0 0 Q (F0 m 86 ls [])
def dj_X10_readWaits_52 (p : Program) (l : Launch) (e : Env) (s : State) (m : MethodId) (args : Array Value) (below : List Frame) (meth : Method) (c : Code) (Q : State → Prop) (A : Nat → Prop) (dC : Nat → ClassId) (dI : Nat → Nat → Nat) (a : Nat → Nat) (ac : Nat → ClassId) (g : Int32 → (St) → Option (Int32 × (St))) (r : Int32 × (St)) : Prop := ∀ (y0 : Int32) (s0 : St) (H : Heap) (locs : List Loc) (ls : Array Slot), g y0 s0 = some r → va_P (dC, dI) vwCl (dw_X10 a ac s0) H → va_D A (dw_X10 a ac s0) → va_S A s.heap H locs → lv_has ls 5 [] → W p l e (headSpec ow_dm_X10_readWaits ({ frames := 0, cells := 0, slots := 0, locals := 0 })).room s m args below meth c H locs 0 0 Q (F0 m 52 ls [.int y0])
def dj_X10_readWaits_0 (p : Program) (l : Launch) (e : Env) (s : State) (m : MethodId) (args : Array Value) (below : List Frame) (meth : Method) (c : Code) (Q : State → Prop) (A : Nat → Prop) (dC : Nat → ClassId) (dI : Nat → Nat → Nat) (a : Nat → Nat) (ac : Nat → ClassId) (g : Int32 → Int32 → (St) → Option (Int32 × (St))) (r : Int32 × (St)) : Prop := ∀ (v0 : Int32) (v1 : Int32) (s0 : St) (H : Heap) (locs : List Loc) (ls : Array Slot), g v0 v1 s0 = some r → va_P (dC, dI) vwCl (dw_X10 a ac s0) H → va_D A (dw_X10 a ac s0) → va_S A s.heap H locs → lv_has ls 5 [(0, .ref (a 0)), (1, .int v0), (2, .int v1)] → W p l e (headSpec ow_dm_X10_readWaits ({ frames := 0, cells := 0, slots := 0, locals := 0 })).room s m args below meth c H locs 0 0 Q (F0 m 0 ls [])
set_option maxHeartbeats 40000000 in
set_option maxRecDepth 100000 in
theorem db_X10_readWaits_8 {p : Program} {l : Launch} {e : Env} {s : State} {m : MethodId} {args : Array Value} {below : List Frame} {meth : Method} {c : Code} {Q : State → Prop} {A : Nat → Prop} {dC : Nat → ClassId} {dI : Nat → Nat → Nat} {a : Nat → Nat} {ac : Nat → ClassId} {n : Nat} {r : Int32 × (St)} (C : nd_C p l s m args c A (dC, dI) cX10_readWaits 5 RX10 ow_dm_X10_readWaits (dk_X10 ac)) (K : nd_Ki p l e (headSpec ow_dm_X10_readWaits ({ frames := 0, cells := 0, slots := 0, locals := 0 })).room s m args below meth c Q A (dC, dI) cX10_readWaits .boolean (St) (dw_X10 a ac) r) : dj_X10_readWaits_8 p l e s m args below meth c Q A dC dI a ac (df_X10_readWaits_8 n) r := by
  obtain ⟨hlt, hx, hb, hml, hown, hts, hN, hA, hK⟩ := id C
  intro s0 H locs ls h hP hD hS hl
  unfold df_X10_readWaits_8 at h
  refine lv_iconst (v := 0) hx hb dX10_readWaits_8 (by decide) ?_
  exact K _ _ _ _ _ _ dX10_readWaits_9 (by first | rfl | decide) (Option.some.inj h).symm hP hD hS
set_option maxHeartbeats 40000000 in
set_option maxRecDepth 100000 in
theorem db_X10_readWaits_87 {p : Program} {l : Launch} {e : Env} {s : State} {m : MethodId} {args : Array Value} {below : List Frame} {meth : Method} {c : Code} {Q : State → Prop} {A : Nat → Prop} {dC : Nat → ClassId} {dI : Nat → Nat → Nat} {a : Nat → Nat} {ac : Nat → ClassId} {n : Nat} {r : Int32 × (St)} (C : nd_C p l s m args c A (dC, dI) cX10_readWaits 5 RX10 ow_dm_X10_readWaits (dk_X10 ac)) (K : nd_Ki p l e (headSpec ow_dm_X10_readWaits ({ frames := 0, cells := 0, slots := 0, locals := 0 })).room s m args below meth c Q A (dC, dI) cX10_readWaits .boolean (St) (dw_X10 a ac) r) : dj_X10_readWaits_87 p l e s m args below meth c Q A dC dI a ac (df_X10_readWaits_87 n) r := by
  obtain ⟨hlt, hx, hb, hml, hown, hts, hN, hA, hK⟩ := id C
  intro y0 s0 H locs ls h hP hD hS hl
  unfold df_X10_readWaits_87 at h
  obtain ⟨n9, h⟩ := nd_z_e ⟨_, rfl⟩ h
  exact K _ _ _ _ _ _ dX10_readWaits_87 n9 (Option.some.inj h).symm hP hD hS
set_option maxHeartbeats 40000000 in
set_option maxRecDepth 100000 in
theorem db_X10_readWaits_86 {p : Program} {l : Launch} {e : Env} {s : State} {m : MethodId} {args : Array Value} {below : List Frame} {meth : Method} {c : Code} {Q : State → Prop} {A : Nat → Prop} {dC : Nat → ClassId} {dI : Nat → Nat → Nat} {a : Nat → Nat} {ac : Nat → ClassId} {n : Nat} {r : Int32 × (St)} (C : nd_C p l s m args c A (dC, dI) cX10_readWaits 5 RX10 ow_dm_X10_readWaits (dk_X10 ac)) (K : nd_Ki p l e (headSpec ow_dm_X10_readWaits ({ frames := 0, cells := 0, slots := 0, locals := 0 })).room s m args below meth c Q A (dC, dI) cX10_readWaits .boolean (St) (dw_X10 a ac) r) : dj_X10_readWaits_86 p l e s m args below meth c Q A dC dI a ac (df_X10_readWaits_86 n) r := by
  obtain ⟨hlt, hx, hb, hml, hown, hts, hN, hA, hK⟩ := id C
  intro s0 H locs ls h hP hD hS hl
  unfold df_X10_readWaits_86 at h
  refine lv_iconst (v := 0) hx hb dX10_readWaits_86 (by decide) ?_
  exact (db_X10_readWaits_87 C K) (0) s0 _ _ _ h hP hD hS (lv_sub hl [] rfl)
set_option maxHeartbeats 40000000 in
set_option maxRecDepth 100000 in
theorem db_X10_readWaits_52 {p : Program} {l : Launch} {e : Env} {s : State} {m : MethodId} {args : Array Value} {below : List Frame} {meth : Method} {c : Code} {Q : State → Prop} {A : Nat → Prop} {dC : Nat → ClassId} {dI : Nat → Nat → Nat} {a : Nat → Nat} {ac : Nat → ClassId} {n : Nat} {r : Int32 × (St)} (C : nd_C p l s m args c A (dC, dI) cX10_readWaits 5 RX10 ow_dm_X10_readWaits (dk_X10 ac)) (K : nd_Ki p l e (headSpec ow_dm_X10_readWaits ({ frames := 0, cells := 0, slots := 0, locals := 0 })).room s m args below meth c Q A (dC, dI) cX10_readWaits .boolean (St) (dw_X10 a ac) r) : dj_X10_readWaits_52 p l e s m args below meth c Q A dC dI a ac (df_X10_readWaits_52 n) r := by
  obtain ⟨hlt, hx, hb, hml, hown, hts, hN, hA, hK⟩ := id C
  intro y0 s0 H locs ls h hP hD hS hl
  unfold df_X10_readWaits_52 at h
  obtain ⟨n15, h⟩ := nd_z_e ⟨_, rfl⟩ h
  exact K _ _ _ _ _ _ dX10_readWaits_52 n15 (Option.some.inj h).symm hP hD hS
