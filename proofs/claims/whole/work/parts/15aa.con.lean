def ow_dm_X16_put : List Cond := .code yX16_put cX16_put 3 none :: ([.fieldLink RX16 61 "TimeMachineModel$Machine" "bytes" "[I"] ++ (u_ws RX16 TX16 56 ++ []))
theorem gd_dm_X16_put : ∀ w ∈ ow_dm_X16_put, (w.onTables && w.keeps) = true ∨ ∃ ty, w = Cond.arrayClass ty := List.forall_mem_cons.mpr ⟨good_of_word rfl, List.forall_mem_append.mpr ⟨fun w h => good_of_word (List.all_eq_true.mp (by decide +kernel) w h), List.forall_mem_append.mpr ⟨gu_X16, fun _ h => nomatch h⟩⟩⟩
theorem hi_dm_X16_put_X16 : ∀ w ∈ u_ws RX16 TX16 56, w ∈ ow_dm_X16_put := fun w h => List.mem_cons_of_mem _ (List.mem_append_right _ (List.mem_append_left _ h))
def dj_X16_put_0 (p : Program) (l : Launch) (e : Env) (s : State) (m : MethodId) (args : Array Value) (below : List Frame) (meth : Method) (c : Code) (Q : State → Prop) (A : Nat → Prop) (dC : Nat → ClassId) (dI : Nat → Nat → Nat) (a : Nat → Nat) (ac : Nat → ClassId) (g : Int32 → Int32 → (St × (St)) → Option (St × (St))) (r : St × (St)) : Prop := ∀ (v0 : Int32) (v1 : Int32) (s0 : St × (St)) (H : Heap) (locs : List Loc) (ls : Array Slot), g v0 v1 s0 = some r → va_P (dC, dI) vwCl (dw_X16 a ac s0) H → va_D A (dw_X16 a ac s0) → va_S A s.heap H locs → lv_has ls 3 [(0, .ref (a 0)), (1, .int v0), (2, .int v1)] → W p l e (headSpec ow_dm_X16_put ({ frames := 0, cells := 0, slots := 0, locals := 0 })).room s m args below meth c H locs 0 0 Q (F0 m 0 ls [])
set_option maxHeartbeats 40000000 in
set_option maxRecDepth 100000 in
theorem db_X16_put_0 {p : Program} {l : Launch} {e : Env} {s : State} {m : MethodId} {args : Array Value} {below : List Frame} {meth : Method} {c : Code} {Q : State → Prop} {A : Nat → Prop} {dC : Nat → ClassId} {dI : Nat → Nat → Nat} {a : Nat → Nat} {ac : Nat → ClassId} {n : Nat} {r : St × (St)} (C : nd_C p l s m args c A (dC, dI) cX16_put 3 RX16 ow_dm_X16_put (dk_X16 ac)) (K : nd_Kv p l e (headSpec ow_dm_X16_put ({ frames := 0, cells := 0, slots := 0, locals := 0 })).room s m args below meth c Q A (dC, dI) cX16_put (St × (St)) (dw_X16 a ac) r) : dj_X16_put_0 p l e s m args below meth c Q A dC dI a ac (df_X16_put_0 n) r := by
  obtain ⟨hlt, hx, hb, hml, hown, hts, hN, hA, hK⟩ := id C
  intro v0 v1 s0 H locs ls h hP hD hS hl
  unfold df_X16_put_0 at h
  refine lv_aload_n hx hb dX16_put_0 rfl (lv_at hl 0 rfl) ?_
  refine va_get (D := (dC, dI)) (ci := 17) (v := .ref (a 17)) (C := RX16) (T := TX16) (N := 56) hx hb hts hi_dm_X16_put_X16 hown hK hP 0 rfl rfl 25 (by decide) (hts (.fieldLink RX16 61 "TimeMachineModel$Machine" "bytes" "[I") (List.mem_of_getElem? (i := 1) rfl)) (fun _ h9 => h9) rfl dX16_put_1 ?_
  refine lv_iload_n hx hb dX16_put_4 rfl (lv_at hl 1 rfl) ?_
  refine lv_iconst (v := 2) hx hb dX16_put_5 (by decide) ?_
  refine lv_ishr hx hb dX16_put_6 ?_
  refine lv_aload_n hx hb dX16_put_7 rfl (lv_at hl 0 rfl) ?_
  refine va_get (D := (dC, dI)) (ci := 17) (v := .ref (a 17)) (C := RX16) (T := TX16) (N := 56) hx hb hts hi_dm_X16_put_X16 hown hK hP 0 rfl rfl 25 (by decide) (hts (.fieldLink RX16 61 "TimeMachineModel$Machine" "bytes" "[I") (List.mem_of_getElem? (i := 1) rfl)) (fun _ h9 => h9) rfl dX16_put_8 ?_
  refine lv_iload_n hx hb dX16_put_11 rfl (lv_at hl 1 rfl) ?_
  refine lv_iconst (v := 2) hx hb dX16_put_12 (by decide) ?_
  refine lv_ishr hx hb dX16_put_13 ?_
  obtain ⟨i1, h⟩ := nd_ck_e h
  refine va_iald (i := ((v0 : Int32) >>> ((2 : Int32) &&& 31))) hx hb hK hP 17 16 rfl rfl i1 dX16_put_14 ?_
  refine lv_sipush (v := 255) hx hb dX16_put_15 (by decide) ?_
  refine lv_bipush (v := 8) hx hb dX16_put_18 (by decide) ?_
  refine lv_iload_n hx hb dX16_put_20 rfl (lv_at hl 1 rfl) ?_
  refine lv_iconst (v := 3) hx hb dX16_put_21 (by decide) ?_
  refine lv_iand hx hb dX16_put_22 ?_
  refine lv_imul hx hb dX16_put_23 ?_
  refine lv_ishl hx hb dX16_put_24 ?_
  refine lv_iconst (v := (-1)) hx hb dX16_put_25 (by decide) ?_
  refine lv_ixor hx hb dX16_put_26 ?_
  refine lv_iand hx hb dX16_put_27 ?_
  refine lv_iload_n hx hb dX16_put_28 rfl (lv_at hl 2 rfl) ?_
  refine lv_sipush (v := 255) hx hb dX16_put_29 (by decide) ?_
  refine lv_iand hx hb dX16_put_32 ?_
  refine lv_bipush (v := 8) hx hb dX16_put_33 (by decide) ?_
  refine lv_iload_n hx hb dX16_put_35 rfl (lv_at hl 1 rfl) ?_
  refine lv_iconst (v := 3) hx hb dX16_put_36 (by decide) ?_
  refine lv_iand hx hb dX16_put_37 ?_
  refine lv_imul hx hb dX16_put_38 ?_
  refine lv_ishl hx hb dX16_put_39 ?_
  refine lv_ior hx hb dX16_put_40 ?_
  obtain ⟨i2, h⟩ := nd_ck_e h
  refine va_iast (i := ((v0 : Int32) >>> ((2 : Int32) &&& 31))) (x := (((sR s0.1 15 (Int32.toNatClampNeg ((v0 : Int32) >>> ((2 : Int32) &&& 31)))) &&& (((255 : Int32) <<< (((8 * (v0 &&& 3)) : Int32) &&& 31)) ^^^ (-1))) ||| (((v1 &&& 255) : Int32) <<< (((8 * (v0 &&& 3)) : Int32) &&& 31)))) hx hb hK hP hD hS 17 16 rfl rfl i2 dX16_put_41 (fun H locs hP hD hS => ?_)
  obtain ⟨s3, es3, h⟩ := nd_let_e h
  have hP : va_P (dC, dI) vwCl (dw_X16 a ac s3) H := by rw [es3]; exact hP
  have hD : va_D A (dw_X16 a ac s3) := by rw [es3]; exact hD
  exact K _ _ _ _ _ dX16_put_42 (Option.some.inj h).symm hP hD hS
set_option maxHeartbeats 40000000 in
set_option maxRecDepth 100000 in
theorem dm_X16_put (l : Launch) (hlt : l.stackTraces = false) (dC : Nat → ClassId) (dI : Nat → Nat → Nat) (a : Nat → Nat) (ac : Nat → ClassId) (n : Nat) (v0 : Int32) (v1 : Int32) (s0 : St × (St)) {r : St × (St)} (h : df_X16_put n v0 v1 s0 = some r) (sz : Nat) : Met l yX16_put ow_dm_X16_put ({ frames := 0, cells := 0, slots := 0, locals := 0 }) (va_Pc [.ref (a 0), .int v0, .int v1] (fun U => U.heap.size = sz ∧ va_P (dC, dI) vwCl (dw_X16 a ac s0) U.heap ∧ va_K (dC, dI) vwCl (dk_X16 ac) U ∧ va_D (fun _ => True) (dw_X16 a ac s0) ∧ nv_E (va_A (dw_X16 a ac s0) sz) U)) (va_Qv (fun _ => True) (fun (_ : Unit) t => va_P (dC, dI) vwCl (dw_X16 a ac r) t.heap ∧ va_K (dC, dI) vwCl (dk_X16 ac) t ∧ va_D (va_A (dw_X16 a ac s0) sz) (dw_X16 a ac r)) (va_A (dw_X16 a ac s0) sz)) 0 0 (va_A (dw_X16 a ac s0) sz) := by
  refine Met.ofW (cc := cX16_put) (maxL := 3) (ret := none) (by decide) rfl ?_
  intro p e s m args below meth c s₁ B hml hv
  obtain ⟨rfl, hsz, hP, hK, hD0, hN⟩ := hv
  have hx := B.exec
  have hb := B.bytes
  have hr := B.returns
  have hts := atoms_spec (ws := ow_dm_X16_put) B.pre
  have hown : s.vm.findClass RX16 = some m.cls := findClass_of_methodNamed B.named
  have hlocks := B.notSynchronized
  subst hsz
  have hD := hD0.self (sz := s.heap.size)
  generalize hAe : va_A (dw_X16 a ac s0) s.heap.size = A at hD hN ⊢
  have hA : ∀ q : Nat, s.heap.size ≤ q → A q := fun q h => by rw [← hAe]; exact Or.inr h
  have hl := lv_entry ([.ref (a 0), .int v0, .int v1]) (n := 3) (Nat.le_of_ble_eq_true rfl)
  rw [lg_entry_eq]
  generalize (lg_sl ([.ref (a 0), .int v0, .int v1]) ++ List.replicate (3 - (lg_sl ([.ref (a 0), .int v0, .int v1])).length) Slot.unset).toArray = ls at hl ⊢
  have hl : lv_has ls 3 [(0, .ref (a 0)), (1, .int v0), (2, .int v1)] := hl
  exact db_X16_put_0 (dC := dC) (dI := dI) (a := a) (ac := ac) (n := n) (r := r) ⟨hlt, hx, hb, hml, hown, hts, hN, hA, hK⟩ (fun pc τ H locs ls d er hP hD hS => by subst er; exact W.vret hx hb hr (fun t ht hW => ⟨⟨(), rfl, trivial, by rw [ht]; exact hP, va_K.moved hW.alike hK, hD⟩, hS.F ht⟩) hS.2.2 d) v0 v1 s0 _ _ _ h hP hD va_S.rf (lv_sub hl [0, 1, 2] rfl)
def ow_dm_X16_freeFrame : List Cond := .code yX16_freeFrame cX16_freeFrame 2 (some .int) :: ([.fieldLink RX16 70 "TimeMachineModel$Machine" "holders" "[I"] ++ (u_ws RX16 TX16 56 ++ []))
theorem gd_dm_X16_freeFrame : ∀ w ∈ ow_dm_X16_freeFrame, (w.onTables && w.keeps) = true ∨ ∃ ty, w = Cond.arrayClass ty := List.forall_mem_cons.mpr ⟨good_of_word rfl, List.forall_mem_append.mpr ⟨fun w h => good_of_word (List.all_eq_true.mp (by decide +kernel) w h), List.forall_mem_append.mpr ⟨gu_X16, fun _ h => nomatch h⟩⟩⟩
theorem hi_dm_X16_freeFrame_X16 : ∀ w ∈ u_ws RX16 TX16 56, w ∈ ow_dm_X16_freeFrame := fun w h => List.mem_cons_of_mem _ (List.mem_append_right _ (List.mem_append_left _ h))
def dj_X16_freeFrame_2 (p : Program) (l : Launch) (e : Env) (s : State) (m : MethodId) (args : Array Value) (below : List Frame) (meth : Method) (c : Code) (Q : State → Prop) (A : Nat → Prop) (dC : Nat → ClassId) (dI : Nat → Nat → Nat) (a : Nat → Nat) (ac : Nat → ClassId) (g : Int32 → (St × (St)) → Option (Int32 × (St × (St)))) (r : Int32 × (St × (St))) : Prop := ∀ (x1 : Int32) (s0 : St × (St)) (H : Heap) (locs : List Loc) (ls : Array Slot), g x1 s0 = some r → va_P (dC, dI) vwCl (dw_X16 a ac s0) H → va_D A (dw_X16 a ac s0) → va_S A s.heap H locs → lv_has ls 2 [(0, .ref (a 0)), (1, .int x1)] → W p l e (headSpec ow_dm_X16_freeFrame ({ frames := 0, cells := 0, slots := 0, locals := 0 })).room s m args below meth c H locs 0 0 Q (F0 m 2 ls [])
def dj_X16_freeFrame_0 (p : Program) (l : Launch) (e : Env) (s : State) (m : MethodId) (args : Array Value) (below : List Frame) (meth : Method) (c : Code) (Q : State → Prop) (A : Nat → Prop) (dC : Nat → ClassId) (dI : Nat → Nat → Nat) (a : Nat → Nat) (ac : Nat → ClassId) (g : (St × (St)) → Option (Int32 × (St × (St)))) (r : Int32 × (St × (St))) : Prop := ∀ (s0 : St × (St)) (H : Heap) (locs : List Loc) (ls : Array Slot), g s0 = some r → va_P (dC, dI) vwCl (dw_X16 a ac s0) H → va_D A (dw_X16 a ac s0) → va_S A s.heap H locs → lv_has ls 2 [(0, .ref (a 0))] → W p l e (headSpec ow_dm_X16_freeFrame ({ frames := 0, cells := 0, slots := 0, locals := 0 })).room s m args below meth c H locs 0 0 Q (F0 m 0 ls [])
set_option maxHeartbeats 40000000 in
set_option maxRecDepth 100000 in
theorem dB_X16_freeFrame_2 {p : Program} {l : Launch} {e : Env} {s : State} {m : MethodId} {args : Array Value} {below : List Frame} {meth : Method} {c : Code} {Q : State → Prop} {A : Nat → Prop} {dC : Nat → ClassId} {dI : Nat → Nat → Nat} {a : Nat → Nat} {ac : Nat → ClassId} {n : Nat} {r : Int32 × (St × (St))} (C : nd_C p l s m args c A (dC, dI) cX16_freeFrame 2 RX16 ow_dm_X16_freeFrame (dk_X16 ac)) (K : nd_Ki p l e (headSpec ow_dm_X16_freeFrame ({ frames := 0, cells := 0, slots := 0, locals := 0 })).room s m args below meth c Q A (dC, dI) cX16_freeFrame .int (St × (St)) (dw_X16 a ac) r) {g2 : Int32 → (St × (St)) → Option (Int32 × (St × (St)))} (J2 : dj_X16_freeFrame_2 p l e s m args below meth c Q A dC dI a ac g2 r) : dj_X16_freeFrame_2 p l e s m args below meth c Q A dC dI a ac (dF_X16_freeFrame_2 n g2) r := by
  obtain ⟨hlt, hx, hb, hml, hown, hts, hN, hA, hK⟩ := id C
  intro x1 s0 H locs ls h hP hD hS hl
  unfold dF_X16_freeFrame_2 at h
  refine lv_aload_n hx hb dX16_freeFrame_2 rfl (lv_at hl 0 rfl) ?_
  refine va_get (D := (dC, dI)) (ci := 17) (v := .ref (a 20)) (C := RX16) (T := TX16) (N := 56) hx hb hts hi_dm_X16_freeFrame_X16 hown hK hP 0 rfl rfl 28 (by decide) (hts (.fieldLink RX16 70 "TimeMachineModel$Machine" "holders" "[I") (List.mem_of_getElem? (i := 1) rfl)) (fun _ h9 => h9) rfl dX16_freeFrame_3 ?_
  refine lv_iload_n hx hb dX16_freeFrame_6 rfl (lv_at hl 1 rfl) ?_
  obtain ⟨i1, h⟩ := nd_ck_e h
  refine va_iald (i := x1) hx hb hK hP 20 19 rfl rfl i1 dX16_freeFrame_7 ?_
  refine lv_if_le (tgt := 17) hx hb dX16_freeFrame_8 (by decide) (fun c2 => ?_) (fun c2 => ?_)
  · have h := nd_pos h c2
    refine lv_iload_n hx hb dX16_freeFrame_17 rfl (lv_at hl 1 rfl) ?_
    exact K _ _ _ _ _ _ dX16_freeFrame_18 rfl (Option.some.inj h).symm hP hD hS
  · have h := nd_neg h c2
    obtain ⟨z3, ez3, h⟩ := nd_let_e h
    refine lv_iinc (v := z3) (lv' := [(1, .int z3), (0, .ref (a 0))]) hx hb dX16_freeFrame_11 hl (k := 1) rfl (by rw [ez3]) (by decide) rfl (fun ls hl => ?_)
    refine lv_goto (tgt := 2) hx hb dX16_freeFrame_14 (by decide) ?_
    exact (J2) (z3) s0 _ _ _ h hP hD hS (lv_sub hl [1, 0] rfl)
set_option maxHeartbeats 40000000 in
set_option maxRecDepth 100000 in
theorem db_X16_freeFrame_2 {p : Program} {l : Launch} {e : Env} {s : State} {m : MethodId} {args : Array Value} {below : List Frame} {meth : Method} {c : Code} {Q : State → Prop} {A : Nat → Prop} {dC : Nat → ClassId} {dI : Nat → Nat → Nat} {a : Nat → Nat} {ac : Nat → ClassId} {n : Nat} {r : Int32 × (St × (St))} (C : nd_C p l s m args c A (dC, dI) cX16_freeFrame 2 RX16 ow_dm_X16_freeFrame (dk_X16 ac)) (K : nd_Ki p l e (headSpec ow_dm_X16_freeFrame ({ frames := 0, cells := 0, slots := 0, locals := 0 })).room s m args below meth c Q A (dC, dI) cX16_freeFrame .int (St × (St)) (dw_X16 a ac) r) (k : Nat) : dj_X16_freeFrame_2 p l e s m args below meth c Q A dC dI a ac (df_X16_freeFrame_2 n k) r := by
  induction k with
  | zero => intro x1 s0 H locs ls h; exact nomatch (show (none : Option (Int32 × (St × (St)))) = some r from h)
  | succ k ih => exact dB_X16_freeFrame_2 C K ih
set_option maxHeartbeats 40000000 in
set_option maxRecDepth 100000 in
theorem db_X16_freeFrame_0 {p : Program} {l : Launch} {e : Env} {s : State} {m : MethodId} {args : Array Value} {below : List Frame} {meth : Method} {c : Code} {Q : State → Prop} {A : Nat → Prop} {dC : Nat → ClassId} {dI : Nat → Nat → Nat} {a : Nat → Nat} {ac : Nat → ClassId} {n : Nat} {r : Int32 × (St × (St))} (C : nd_C p l s m args c A (dC, dI) cX16_freeFrame 2 RX16 ow_dm_X16_freeFrame (dk_X16 ac)) (K : nd_Ki p l e (headSpec ow_dm_X16_freeFrame ({ frames := 0, cells := 0, slots := 0, locals := 0 })).room s m args below meth c Q A (dC, dI) cX16_freeFrame .int (St × (St)) (dw_X16 a ac) r) : dj_X16_freeFrame_0 p l e s m args below meth c Q A dC dI a ac (df_X16_freeFrame_0 n) r := by
  obtain ⟨hlt, hx, hb, hml, hown, hts, hN, hA, hK⟩ := id C
  intro s0 H locs ls h hP hD hS hl
  unfold df_X16_freeFrame_0 at h
  refine lv_iconst (v := 0) hx hb dX16_freeFrame_0 (by decide) ?_
  refine lv_istore_n (lv' := [(1, .int 0), (0, .ref (a 0))]) hx hb dX16_freeFrame_1 rfl hl (by decide) rfl (fun ls hl => ?_)
  exact (db_X16_freeFrame_2 C K n) (0) s0 _ _ _ h hP hD hS (lv_sub hl [1, 0] rfl)
set_option maxHeartbeats 40000000 in
set_option maxRecDepth 100000 in
theorem dm_X16_freeFrame (l : Launch) (hlt : l.stackTraces = false) (dC : Nat → ClassId) (dI : Nat → Nat → Nat) (a : Nat → Nat) (ac : Nat → ClassId) (n : Nat) (s0 : St × (St)) {r : Int32 × (St × (St))} (h : df_X16_freeFrame n s0 = some r) (sz : Nat) : Met l yX16_freeFrame ow_dm_X16_freeFrame ({ frames := 0, cells := 0, slots := 0, locals := 0 }) (va_Pc [.ref (a 0)] (fun U => U.heap.size = sz ∧ va_P (dC, dI) vwCl (dw_X16 a ac s0) U.heap ∧ va_K (dC, dI) vwCl (dk_X16 ac) U ∧ va_D (fun _ => True) (dw_X16 a ac s0) ∧ nv_E (va_A (dw_X16 a ac s0) sz) U)) (va_Qi (fun x _ => x = r.1) (fun (_ : Unit) t => va_P (dC, dI) vwCl (dw_X16 a ac r.2) t.heap ∧ va_K (dC, dI) vwCl (dk_X16 ac) t ∧ va_D (va_A (dw_X16 a ac s0) sz) (dw_X16 a ac r.2)) (va_A (dw_X16 a ac s0) sz)) 0 0 (va_A (dw_X16 a ac s0) sz) := by
  refine Met.ofW (cc := cX16_freeFrame) (maxL := 2) (ret := (some .int)) (by decide) rfl ?_
  intro p e s m args below meth c s₁ B hml hv
  obtain ⟨rfl, hsz, hP, hK, hD0, hN⟩ := hv
  have hx := B.exec
  have hb := B.bytes
  have hr := B.returns
  have hts := atoms_spec (ws := ow_dm_X16_freeFrame) B.pre
  have hown : s.vm.findClass RX16 = some m.cls := findClass_of_methodNamed B.named
  have hlocks := B.notSynchronized
  subst hsz
  have hD := hD0.self (sz := s.heap.size)
  generalize hAe : va_A (dw_X16 a ac s0) s.heap.size = A at hD hN ⊢
  have hA : ∀ q : Nat, s.heap.size ≤ q → A q := fun q h => by rw [← hAe]; exact Or.inr h
  have hl := lv_entry ([.ref (a 0)]) (n := 2) (Nat.le_of_ble_eq_true rfl)
  rw [lg_entry_eq]
  generalize (lg_sl ([.ref (a 0)]) ++ List.replicate (2 - (lg_sl ([.ref (a 0)])).length) Slot.unset).toArray = ls at hl ⊢
  have hl : lv_has ls 2 [(0, .ref (a 0))] := hl
  exact db_X16_freeFrame_0 (dC := dC) (dI := dI) (a := a) (ac := ac) (n := n) (r := r) ⟨hlt, hx, hb, hml, hown, hts, hN, hA, hK⟩ (fun pc v τ H locs ls d z er hP hD hS => by subst er; exact W.zret (v := v) hx hb hr z (fun t ht hW => ⟨⟨v, (), rfl, rfl, by rw [ht]; exact hP, va_K.moved hW.alike hK, hD⟩, hS.F ht⟩) hS.2.2 d) s0 _ _ _ h hP hD va_S.rf (lv_sub hl [0] rfl)
def ow_dm_X16_stand : List Cond := .code yX16_stand cX16_stand 3 none :: ([.fieldLink RX16 64 "TimeMachineModel$Machine" "frame" "[I", .fieldLink RX16 70 "TimeMachineModel$Machine" "holders" "[I", .fieldLink RX16 129 "TimeMachineModel$Machine" "used" "I"] ++ (u_ws RX16 TX16 56 ++ []))
theorem gd_dm_X16_stand : ∀ w ∈ ow_dm_X16_stand, (w.onTables && w.keeps) = true ∨ ∃ ty, w = Cond.arrayClass ty := List.forall_mem_cons.mpr ⟨good_of_word rfl, List.forall_mem_append.mpr ⟨fun w h => good_of_word (List.all_eq_true.mp (by decide +kernel) w h), List.forall_mem_append.mpr ⟨gu_X16, fun _ h => nomatch h⟩⟩⟩
theorem hi_dm_X16_stand_X16 : ∀ w ∈ u_ws RX16 TX16 56, w ∈ ow_dm_X16_stand := fun w h => List.mem_cons_of_mem _ (List.mem_append_right _ (List.mem_append_left _ h))
def dj_X16_stand_26 (p : Program) (l : Launch) (e : Env) (s : State) (m : MethodId) (args : Array Value) (below : List Frame) (meth : Method) (c : Code) (Q : State → Prop) (A : Nat → Prop) (dC : Nat → ClassId) (dI : Nat → Nat → Nat) (a : Nat → Nat) (ac : Nat → ClassId) (g : Int32 → (St × (St)) → Option (St × (St))) (r : St × (St)) : Prop := ∀ (x2 : Int32) (s0 : St × (St)) (H : Heap) (locs : List Loc) (ls : Array Slot), g x2 s0 = some r → va_P (dC, dI) vwCl (dw_X16 a ac s0) H → va_D A (dw_X16 a ac s0) → va_S A s.heap H locs → lv_has ls 3 [(0, .ref (a 0)), (2, .int x2)] → W p l e (headSpec ow_dm_X16_stand ({ frames := 0, cells := 0, slots := 0, locals := 0 })).room s m args below meth c H locs 0 0 Q (F0 m 26 ls [])
def dj_X16_stand_0 (p : Program) (l : Launch) (e : Env) (s : State) (m : MethodId) (args : Array Value) (below : List Frame) (meth : Method) (c : Code) (Q : State → Prop) (A : Nat → Prop) (dC : Nat → ClassId) (dI : Nat → Nat → Nat) (a : Nat → Nat) (ac : Nat → ClassId) (g : Int32 → Int32 → (St × (St)) → Option (St × (St))) (r : St × (St)) : Prop := ∀ (v0 : Int32) (v1 : Int32) (s0 : St × (St)) (H : Heap) (locs : List Loc) (ls : Array Slot), g v0 v1 s0 = some r → va_P (dC, dI) vwCl (dw_X16 a ac s0) H → va_D A (dw_X16 a ac s0) → va_S A s.heap H locs → lv_has ls 3 [(0, .ref (a 0)), (1, .int v0), (2, .int v1)] → W p l e (headSpec ow_dm_X16_stand ({ frames := 0, cells := 0, slots := 0, locals := 0 })).room s m args below meth c H locs 0 0 Q (F0 m 0 ls [])
set_option maxHeartbeats 40000000 in
set_option maxRecDepth 100000 in
theorem db_X16_stand_26 {p : Program} {l : Launch} {e : Env} {s : State} {m : MethodId} {args : Array Value} {below : List Frame} {meth : Method} {c : Code} {Q : State → Prop} {A : Nat → Prop} {dC : Nat → ClassId} {dI : Nat → Nat → Nat} {a : Nat → Nat} {ac : Nat → ClassId} {n : Nat} {r : St × (St)} (C : nd_C p l s m args c A (dC, dI) cX16_stand 3 RX16 ow_dm_X16_stand (dk_X16 ac)) (K : nd_Kv p l e (headSpec ow_dm_X16_stand ({ frames := 0, cells := 0, slots := 0, locals := 0 })).room s m args below meth c Q A (dC, dI) cX16_stand (St × (St)) (dw_X16 a ac) r) : dj_X16_stand_26 p l e s m args below meth c Q A dC dI a ac (df_X16_stand_26 n) r := by
  obtain ⟨hlt, hx, hb, hml, hown, hts, hN, hA, hK⟩ := id C
  intro x2 s0 H locs ls h hP hD hS hl
  unfold df_X16_stand_26 at h
  refine lv_aload_n hx hb dX16_stand_26 rfl (lv_at hl 0 rfl) ?_
  refine va_get (D := (dC, dI)) (ci := 17) (v := .ref (a 20)) (C := RX16) (T := TX16) (N := 56) hx hb hts hi_dm_X16_stand_X16 hown hK hP 0 rfl rfl 28 (by decide) (hts (.fieldLink RX16 70 "TimeMachineModel$Machine" "holders" "[I") (List.mem_of_getElem? (i := 2) rfl)) (fun _ h9 => h9) rfl dX16_stand_27 ?_
  refine lv_iload_n hx hb dX16_stand_30 rfl (lv_at hl 1 rfl) ?_
  refine lv_dup2_11 hx hb dX16_stand_31 rfl rfl ?_
  obtain ⟨i5, h⟩ := nd_ck_e h
  refine va_iald (i := x2) hx hb hK hP 20 19 rfl rfl i5 dX16_stand_32 ?_
  refine lv_iconst (v := 1) hx hb dX16_stand_33 (by decide) ?_
  refine lv_iadd hx hb dX16_stand_34 ?_
  obtain ⟨i6, h⟩ := nd_ck_e h
  refine va_iast (i := x2) (x := ((sR s0.1 18 (Int32.toNatClampNeg x2)) + 1)) hx hb hK hP hD hS 20 19 rfl rfl i6 dX16_stand_35 (fun H locs hP hD hS => ?_)
  obtain ⟨s7, es7, h⟩ := nd_let_e h
  have hP : va_P (dC, dI) vwCl (dw_X16 a ac s7) H := by rw [es7]; exact hP
  have hD : va_D A (dw_X16 a ac s7) := by rw [es7]; exact hD
  exact K _ _ _ _ _ dX16_stand_36 (Option.some.inj h).symm hP hD hS
set_option maxHeartbeats 40000000 in
set_option maxRecDepth 100000 in
theorem db_X16_stand_0 {p : Program} {l : Launch} {e : Env} {s : State} {m : MethodId} {args : Array Value} {below : List Frame} {meth : Method} {c : Code} {Q : State → Prop} {A : Nat → Prop} {dC : Nat → ClassId} {dI : Nat → Nat → Nat} {a : Nat → Nat} {ac : Nat → ClassId} {n : Nat} {r : St × (St)} (C : nd_C p l s m args c A (dC, dI) cX16_stand 3 RX16 ow_dm_X16_stand (dk_X16 ac)) (K : nd_Kv p l e (headSpec ow_dm_X16_stand ({ frames := 0, cells := 0, slots := 0, locals := 0 })).room s m args below meth c Q A (dC, dI) cX16_stand (St × (St)) (dw_X16 a ac) r) : dj_X16_stand_0 p l e s m args below meth c Q A dC dI a ac (df_X16_stand_0 n) r := by
  obtain ⟨hlt, hx, hb, hml, hown, hts, hN, hA, hK⟩ := id C
  intro v0 v1 s0 H locs ls h hP hD hS hl
  unfold df_X16_stand_0 at h
  refine lv_aload_n hx hb dX16_stand_0 rfl (lv_at hl 0 rfl) ?_
  refine va_get (D := (dC, dI)) (ci := 17) (v := .ref (a 18)) (C := RX16) (T := TX16) (N := 56) hx hb hts hi_dm_X16_stand_X16 hown hK hP 0 rfl rfl 26 (by decide) (hts (.fieldLink RX16 64 "TimeMachineModel$Machine" "frame" "[I") (List.mem_of_getElem? (i := 1) rfl)) (fun _ h9 => h9) rfl dX16_stand_1 ?_
  refine lv_iload_n hx hb dX16_stand_4 rfl (lv_at hl 1 rfl) ?_
  refine lv_iload_n hx hb dX16_stand_5 rfl (lv_at hl 2 rfl) ?_
  obtain ⟨i1, h⟩ := nd_ck_e h
  refine va_iast (i := v0) (x := v1) hx hb hK hP hD hS 18 17 rfl rfl i1 dX16_stand_6 (fun H locs hP hD hS => ?_)
  obtain ⟨s2, es2, h⟩ := nd_let_e h
  have hP : va_P (dC, dI) vwCl (dw_X16 a ac s2) H := by rw [es2]; exact hP
  have hD : va_D A (dw_X16 a ac s2) := by rw [es2]; exact hD
  refine lv_aload_n hx hb dX16_stand_7 rfl (lv_at hl 0 rfl) ?_
  refine va_get (D := (dC, dI)) (ci := 17) (v := .ref (a 20)) (C := RX16) (T := TX16) (N := 56) hx hb hts hi_dm_X16_stand_X16 hown hK hP 0 rfl rfl 28 (by decide) (hts (.fieldLink RX16 70 "TimeMachineModel$Machine" "holders" "[I") (List.mem_of_getElem? (i := 2) rfl)) (fun _ h9 => h9) rfl dX16_stand_8 ?_
  refine lv_iload_n hx hb dX16_stand_11 rfl (lv_at hl 2 rfl) ?_
  obtain ⟨i3, h⟩ := nd_ck_e h
  refine va_iald (i := v1) hx hb hK hP 20 19 rfl rfl i3 dX16_stand_12 ?_
  refine lv_if_ne (tgt := 26) hx hb dX16_stand_13 (by decide) (fun c4 => ?_) (fun c4 => ?_)
  · have h := nd_neg h c4
    exact (db_X16_stand_26 C K) (v1) s2 _ _ _ h hP hD hS (lv_sub hl [0, 2] rfl)
  · have h := nd_pos h c4
    refine lv_aload_n hx hb dX16_stand_16 rfl (lv_at hl 0 rfl) ?_
    refine lv_dup hx hb dX16_stand_17 rfl ?_
    refine va_get (D := (dC, dI)) (ci := 17) (v := .int (sI s2.1 6)) (C := RX16) (T := TX16) (N := 56) hx hb hts hi_dm_X16_stand_X16 hown hK hP 0 rfl rfl 29 (by decide) (hts (.fieldLink RX16 129 "TimeMachineModel$Machine" "used" "I") (List.mem_of_getElem? (i := 3) rfl)) (fun _ h9 => h9) rfl dX16_stand_18 ?_
    refine lv_iconst (v := 1) hx hb dX16_stand_21 (by decide) ?_
    refine lv_iadd hx hb dX16_stand_22 ?_
    refine va_put (D := (dC, dI)) (ci := 17) (v := .int ((sI s2.1 6) + 1)) (ty := .int) (C := RX16) (T := TX16) (N := 56) hx hb hts hi_dm_X16_stand_X16 tyX16 tyX16_ok nmX16 hown hK hP hD hS 0 rfl rfl 29 (by decide) (hts (.fieldLink RX16 129 "TimeMachineModel$Machine" "used" "I") (List.mem_of_getElem? (i := 3) rfl)) (fun _ h9 => h9) rfl (by decide +kernel) rfl rfl (Nat.le_of_ble_eq_true rfl) dX16_stand_23 (fun H locs hP hD hS => ?_)
    obtain ⟨s8, es8, h⟩ := nd_let_e h
    have hP : va_P (dC, dI) vwCl (dw_X16 a ac s8) H := by rw [es8]; exact hP
    have hD : va_D A (dw_X16 a ac s8) := by rw [es8]; exact hD
    exact (db_X16_stand_26 C K) (v1) s8 _ _ _ h hP hD hS (lv_sub hl [0, 2] rfl)
set_option maxHeartbeats 40000000 in
set_option maxRecDepth 100000 in
theorem dm_X16_stand (l : Launch) (hlt : l.stackTraces = false) (dC : Nat → ClassId) (dI : Nat → Nat → Nat) (a : Nat → Nat) (ac : Nat → ClassId) (n : Nat) (v0 : Int32) (v1 : Int32) (s0 : St × (St)) {r : St × (St)} (h : df_X16_stand n v0 v1 s0 = some r) (sz : Nat) : Met l yX16_stand ow_dm_X16_stand ({ frames := 0, cells := 0, slots := 0, locals := 0 }) (va_Pc [.ref (a 0), .int v0, .int v1] (fun U => U.heap.size = sz ∧ va_P (dC, dI) vwCl (dw_X16 a ac s0) U.heap ∧ va_K (dC, dI) vwCl (dk_X16 ac) U ∧ va_D (fun _ => True) (dw_X16 a ac s0) ∧ nv_E (va_A (dw_X16 a ac s0) sz) U)) (va_Qv (fun _ => True) (fun (_ : Unit) t => va_P (dC, dI) vwCl (dw_X16 a ac r) t.heap ∧ va_K (dC, dI) vwCl (dk_X16 ac) t ∧ va_D (va_A (dw_X16 a ac s0) sz) (dw_X16 a ac r)) (va_A (dw_X16 a ac s0) sz)) 0 0 (va_A (dw_X16 a ac s0) sz) := by
  refine Met.ofW (cc := cX16_stand) (maxL := 3) (ret := none) (by decide) rfl ?_
  intro p e s m args below meth c s₁ B hml hv
  obtain ⟨rfl, hsz, hP, hK, hD0, hN⟩ := hv
  have hx := B.exec
  have hb := B.bytes
  have hr := B.returns
  have hts := atoms_spec (ws := ow_dm_X16_stand) B.pre
  have hown : s.vm.findClass RX16 = some m.cls := findClass_of_methodNamed B.named
  have hlocks := B.notSynchronized
  subst hsz
  have hD := hD0.self (sz := s.heap.size)
  generalize hAe : va_A (dw_X16 a ac s0) s.heap.size = A at hD hN ⊢
  have hA : ∀ q : Nat, s.heap.size ≤ q → A q := fun q h => by rw [← hAe]; exact Or.inr h
  have hl := lv_entry ([.ref (a 0), .int v0, .int v1]) (n := 3) (Nat.le_of_ble_eq_true rfl)
  rw [lg_entry_eq]
  generalize (lg_sl ([.ref (a 0), .int v0, .int v1]) ++ List.replicate (3 - (lg_sl ([.ref (a 0), .int v0, .int v1])).length) Slot.unset).toArray = ls at hl ⊢
  have hl : lv_has ls 3 [(0, .ref (a 0)), (1, .int v0), (2, .int v1)] := hl
  exact db_X16_stand_0 (dC := dC) (dI := dI) (a := a) (ac := ac) (n := n) (r := r) ⟨hlt, hx, hb, hml, hown, hts, hN, hA, hK⟩ (fun pc τ H locs ls d er hP hD hS => by subst er; exact W.vret hx hb hr (fun t ht hW => ⟨⟨(), rfl, trivial, by rw [ht]; exact hP, va_K.moved hW.alike hK, hD⟩, hS.F ht⟩) hS.2.2 d) v0 v1 s0 _ _ _ h hP hD va_S.rf (lv_sub hl [0, 1, 2] rfl)
def ow_dm_X16_newPage : List Cond := .code yX16_newPage cX16_newPage 5 none :: ([.methodLink RX16 204 yX16_freeFrame, .instanceMethod yX16_freeFrame, .selects RX16 yX16_freeFrame yX16_freeFrame, .initialized RX16, .methodLink RX16 208 yX16_stand, .instanceMethod yX16_stand, .selects RX16 yX16_stand yX16_stand, .fieldLink RX16 67 "TimeMachineModel$Machine" "rights" "[I", .fieldLink RX16 61 "TimeMachineModel$Machine" "bytes" "[I"] ++ (u_ws RX16 TX16 56 ++ (ow_dm_X16_freeFrame ++ (ow_dm_X16_stand ++ []))))
theorem gd_dm_X16_newPage : ∀ w ∈ ow_dm_X16_newPage, (w.onTables && w.keeps) = true ∨ ∃ ty, w = Cond.arrayClass ty := List.forall_mem_cons.mpr ⟨good_of_word rfl, List.forall_mem_append.mpr ⟨fun w h => good_of_word (List.all_eq_true.mp (by decide +kernel) w h), List.forall_mem_append.mpr ⟨gu_X16, List.forall_mem_append.mpr ⟨gd_dm_X16_freeFrame, List.forall_mem_append.mpr ⟨gd_dm_X16_stand, fun _ h => nomatch h⟩⟩⟩⟩⟩
theorem hi_dm_X16_newPage_X16 : ∀ w ∈ u_ws RX16 TX16 56, w ∈ ow_dm_X16_newPage := fun w h => List.mem_cons_of_mem _ (List.mem_append_right _ (List.mem_append_left _ h))
theorem gi_dm_X16_newPage_0 : GoodIn ow_dm_X16_newPage (wsV RX16 204 RX16 yX16_freeFrame ow_dm_X16_freeFrame) := goodIn_app (goodIn_of _ (by decide +kernel)) (fun w h => ⟨List.mem_cons_of_mem _ (List.mem_append_right _ (List.mem_append_right _ (List.mem_append_left _ h))), gd_dm_X16_freeFrame w h⟩)
theorem gi_dm_X16_newPage_1 : GoodIn ow_dm_X16_newPage (wsV RX16 208 RX16 yX16_stand ow_dm_X16_stand) := goodIn_app (goodIn_of _ (by decide +kernel)) (fun w h => ⟨List.mem_cons_of_mem _ (List.mem_append_right _ (List.mem_append_right _ (List.mem_append_right _ (List.mem_append_left _ h)))), gd_dm_X16_stand w h⟩)
def dj_X16_newPage_29 (p : Program) (l : Launch) (e : Env) (s : State) (m : MethodId) (args : Array Value) (below : List Frame) (meth : Method) (c : Code) (Q : State → Prop) (A : Nat → Prop) (dC : Nat → ClassId) (dI : Nat → Nat → Nat) (a : Nat → Nat) (ac : Nat → ClassId) (g : Int32 → Int32 → Int32 → (St × (St)) → Option (St × (St))) (r : St × (St)) : Prop := ∀ (x1 : Int32) (x2 : Int32) (x4 : Int32) (s0 : St × (St)) (H : Heap) (locs : List Loc) (ls : Array Slot), g x1 x2 x4 s0 = some r → va_P (dC, dI) vwCl (dw_X16 a ac s0) H → va_D A (dw_X16 a ac s0) → va_S A s.heap H locs → lv_has ls 5 [(0, .ref (a 0)), (1, .int x1), (2, .int x2), (4, .int x4)] → W p l e (headSpec ow_dm_X16_newPage ({ frames := 1, cells := 0, slots := 0, locals := 22 })).room s m args below meth c H locs 0 0 Q (F0 m 29 ls [])
def dj_X16_newPage_0 (p : Program) (l : Launch) (e : Env) (s : State) (m : MethodId) (args : Array Value) (below : List Frame) (meth : Method) (c : Code) (Q : State → Prop) (A : Nat → Prop) (dC : Nat → ClassId) (dI : Nat → Nat → Nat) (a : Nat → Nat) (ac : Nat → ClassId) (g : Int32 → Int32 → Int32 → (St × (St)) → Option (St × (St))) (r : St × (St)) : Prop := ∀ (v0 : Int32) (v1 : Int32) (v2 : Int32) (s0 : St × (St)) (H : Heap) (locs : List Loc) (ls : Array Slot), g v0 v1 v2 s0 = some r → va_P (dC, dI) vwCl (dw_X16 a ac s0) H → va_D A (dw_X16 a ac s0) → va_S A s.heap H locs → lv_has ls 5 [(0, .ref (a 0)), (1, .int v0), (2, .int v1), (3, .int v2)] → W p l e (headSpec ow_dm_X16_newPage ({ frames := 1, cells := 0, slots := 0, locals := 22 })).room s m args below meth c H locs 0 0 Q (F0 m 0 ls [])
set_option maxHeartbeats 40000000 in
set_option maxRecDepth 100000 in
theorem dB_X16_newPage_29 {p : Program} {l : Launch} {e : Env} {s : State} {m : MethodId} {args : Array Value} {below : List Frame} {meth : Method} {c : Code} {Q : State → Prop} {A : Nat → Prop} {dC : Nat → ClassId} {dI : Nat → Nat → Nat} {a : Nat → Nat} {ac : Nat → ClassId} {n : Nat} {r : St × (St)} (C : nd_C p l s m args c A (dC, dI) cX16_newPage 5 RX16 ow_dm_X16_newPage (dk_X16 ac)) (K : nd_Kv p l e (headSpec ow_dm_X16_newPage ({ frames := 1, cells := 0, slots := 0, locals := 22 })).room s m args below meth c Q A (dC, dI) cX16_newPage (St × (St)) (dw_X16 a ac) r) {g29 : Int32 → Int32 → Int32 → (St × (St)) → Option (St × (St))} (J29 : dj_X16_newPage_29 p l e s m args below meth c Q A dC dI a ac g29 r) : dj_X16_newPage_29 p l e s m args below meth c Q A dC dI a ac (dF_X16_newPage_29 n g29) r := by
  obtain ⟨hlt, hx, hb, hml, hown, hts, hN, hA, hK⟩ := id C
  intro x1 x2 x4 s0 H locs ls h hP hD hS hl
  unfold dF_X16_newPage_29 at h
  refine lv_iload hx hb dX16_newPage_29 (lv_at hl 3 rfl) ?_
  refine lv_sipush (v := 256) hx hb dX16_newPage_31 (by decide) ?_
  refine lv_icmp_ge (tgt := 63) hx hb dX16_newPage_34 (by decide) (fun c9 => ?_) (fun c9 => ?_)
  · have h := nd_pos h c9
    exact K _ _ _ _ _ dX16_newPage_63 (Option.some.inj h).symm hP hD hS
  · have h := nd_neg h c9
    refine lv_aload_n hx hb dX16_newPage_37 rfl (lv_at hl 0 rfl) ?_
    refine va_get (D := (dC, dI)) (ci := 17) (v := .ref (a 17)) (C := RX16) (T := TX16) (N := 56) hx hb hts hi_dm_X16_newPage_X16 hown hK hP 0 rfl rfl 25 (by decide) (hts (.fieldLink RX16 61 "TimeMachineModel$Machine" "bytes" "[I") (List.mem_of_getElem? (i := 9) rfl)) (fun _ h9 => h9) rfl dX16_newPage_38 ?_
    refine lv_sipush (v := 16384) hx hb dX16_newPage_41 (by decide) ?_
    refine lv_iload_n hx hb dX16_newPage_44 rfl (lv_at hl 1 rfl) ?_
    refine lv_imul hx hb dX16_newPage_45 ?_
    refine lv_sipush (v := 256) hx hb dX16_newPage_46 (by decide) ?_
    refine lv_iload_n hx hb dX16_newPage_49 rfl (lv_at hl 2 rfl) ?_
    refine lv_imul hx hb dX16_newPage_50 ?_
    refine lv_iadd hx hb dX16_newPage_51 ?_
    refine lv_iload hx hb dX16_newPage_52 (lv_at hl 3 rfl) ?_
    refine lv_iadd hx hb dX16_newPage_54 ?_
    refine lv_iconst (v := 0) hx hb dX16_newPage_55 (by decide) ?_
    obtain ⟨i10, h⟩ := nd_ck_e h
    refine va_iast (i := (((16384 * x1) + (256 * x2)) + x4)) (x := 0) hx hb hK hP hD hS 17 16 rfl rfl i10 dX16_newPage_56 (fun H locs hP hD hS => ?_)
    obtain ⟨s11, es11, h⟩ := nd_let_e h
    have hP : va_P (dC, dI) vwCl (dw_X16 a ac s11) H := by rw [es11]; exact hP
    have hD : va_D A (dw_X16 a ac s11) := by rw [es11]; exact hD
    obtain ⟨z12, ez12, h⟩ := nd_let_e h
    refine lv_iinc (v := z12) (lv' := [(4, .int z12), (0, .ref (a 0)), (1, .int x1), (2, .int x2)]) hx hb dX16_newPage_57 hl (k := 3) rfl (by rw [ez12]) (by decide) rfl (fun ls hl => ?_)
    refine lv_goto (tgt := 29) hx hb dX16_newPage_60 (by decide) ?_
    exact (J29) (x1) (x2) (z12) s11 _ _ _ h hP hD hS (lv_sub hl [1, 2, 3, 0] rfl)
set_option maxHeartbeats 40000000 in
set_option maxRecDepth 100000 in
theorem db_X16_newPage_29 {p : Program} {l : Launch} {e : Env} {s : State} {m : MethodId} {args : Array Value} {below : List Frame} {meth : Method} {c : Code} {Q : State → Prop} {A : Nat → Prop} {dC : Nat → ClassId} {dI : Nat → Nat → Nat} {a : Nat → Nat} {ac : Nat → ClassId} {n : Nat} {r : St × (St)} (C : nd_C p l s m args c A (dC, dI) cX16_newPage 5 RX16 ow_dm_X16_newPage (dk_X16 ac)) (K : nd_Kv p l e (headSpec ow_dm_X16_newPage ({ frames := 1, cells := 0, slots := 0, locals := 22 })).room s m args below meth c Q A (dC, dI) cX16_newPage (St × (St)) (dw_X16 a ac) r) (k : Nat) : dj_X16_newPage_29 p l e s m args below meth c Q A dC dI a ac (df_X16_newPage_29 n k) r := by
  induction k with
  | zero => intro x1 x2 x4 s0 H locs ls h; exact nomatch (show (none : Option (St × (St))) = some r from h)
  | succ k ih => exact dB_X16_newPage_29 C K ih
set_option maxHeartbeats 40000000 in
set_option maxRecDepth 100000 in
theorem db_X16_newPage_0 {p : Program} {l : Launch} {e : Env} {s : State} {m : MethodId} {args : Array Value} {below : List Frame} {meth : Method} {c : Code} {Q : State → Prop} {A : Nat → Prop} {dC : Nat → ClassId} {dI : Nat → Nat → Nat} {a : Nat → Nat} {ac : Nat → ClassId} {n : Nat} {r : St × (St)} (C : nd_C p l s m args c A (dC, dI) cX16_newPage 5 RX16 ow_dm_X16_newPage (dk_X16 ac)) (K : nd_Kv p l e (headSpec ow_dm_X16_newPage ({ frames := 1, cells := 0, slots := 0, locals := 22 })).room s m args below meth c Q A (dC, dI) cX16_newPage (St × (St)) (dw_X16 a ac) r) : dj_X16_newPage_0 p l e s m args below meth c Q A dC dI a ac (df_X16_newPage_0 n) r := by
  obtain ⟨hlt, hx, hb, hml, hown, hts, hN, hA, hK⟩ := id C
  intro v0 v1 v2 s0 H locs ls h hP hD hS hl
  unfold df_X16_newPage_0 at h
  refine lv_aload_n hx hb dX16_newPage_0 rfl (lv_at hl 0 rfl) ?_
  refine lv_bipush (v := 64) hx hb dX16_newPage_1 (by decide) ?_
  refine lv_iload_n hx hb dX16_newPage_3 rfl (lv_at hl 1 rfl) ?_
  refine lv_imul hx hb dX16_newPage_4 ?_
  refine lv_iload_n hx hb dX16_newPage_5 rfl (lv_at hl 2 rfl) ?_
  refine lv_iadd hx hb dX16_newPage_6 ?_
  refine lv_aload_n hx hb dX16_newPage_7 rfl (lv_at hl 0 rfl) ?_
  obtain ⟨q1, s2, hq, h⟩ := nd_b2_e h
  have hPc := hP
  have hDc := hD
  have hKc := hK
  have hFc := nd_rs hD hS hA
  refine nd_cVi (As := []) (rest := [.int ((64 * v0) + v1), .ref (a 0)]) (q := q1) (w' := dw_X16 a ac s2) ⟨hx, hb, hml, hown, hts⟩ (fun sz => dm_X16_freeFrame l hlt dC dI a ac n  s0 hq sz) (cwV 0 hts gi_dm_X16_newPage_0 rfl rfl rfl (by decide +kernel) ⟨Nat.le_of_ble_eq_true rfl, Nat.le_of_ble_eq_true rfl⟩) hPc hDc hKc hS hA hN (va_recv hKc hPc (ci := 17) (q0 := 0) rfl rfl) rfl hl.1 rfl (Nat.le_of_ble_eq_true rfl) dX16_newPage_8 (fun H locs hP1 hD1 hk1 hS => ?_)
  have hP := hP1
  have hD := hD1.weaken (fun k q _ h => hFc q.1 h)
  obtain ⟨s5, hq, h⟩ := nd_b1_e h
  have hPc := hP
  have hDc := hD
  have hKc := hK
  have hFc := nd_rs hD hS hA
  refine nd_cVv (As := [.int ((64 * v0) + v1), .int q1]) (rest := []) (w' := dw_X16 a ac s5) ⟨hx, hb, hml, hown, hts⟩ (fun sz => dm_X16_stand l hlt dC dI a ac n (((64 * v0) + v1)) (q1) s2 hq sz) (cwV 2 hts gi_dm_X16_newPage_1 rfl rfl rfl (by decide +kernel) ⟨Nat.le_of_ble_eq_true rfl, Nat.le_of_ble_eq_true rfl⟩) hPc hDc hKc hS hA hN (va_recv hKc hPc (ci := 17) (q0 := 0) rfl rfl) rfl hl.1 rfl (Nat.le_of_ble_eq_true rfl) dX16_newPage_11 (fun H locs hP1 hD1 hk1 hS => ?_)
  have hP := hP1
  have hD := hD1.weaken (fun k q _ h => hFc q.1 h)
  refine lv_aload_n hx hb dX16_newPage_14 rfl (lv_at hl 0 rfl) ?_
  refine va_get (D := (dC, dI)) (ci := 17) (v := .ref (a 19)) (C := RX16) (T := TX16) (N := 56) hx hb hts hi_dm_X16_newPage_X16 hown hK hP 0 rfl rfl 27 (by decide) (hts (.fieldLink RX16 67 "TimeMachineModel$Machine" "rights" "[I") (List.mem_of_getElem? (i := 8) rfl)) (fun _ h9 => h9) rfl dX16_newPage_15 ?_
  refine lv_bipush (v := 64) hx hb dX16_newPage_18 (by decide) ?_
  refine lv_iload_n hx hb dX16_newPage_20 rfl (lv_at hl 1 rfl) ?_
  refine lv_imul hx hb dX16_newPage_21 ?_
  refine lv_iload_n hx hb dX16_newPage_22 rfl (lv_at hl 2 rfl) ?_
  refine lv_iadd hx hb dX16_newPage_23 ?_
  refine lv_iload_n hx hb dX16_newPage_24 rfl (lv_at hl 3 rfl) ?_
  obtain ⟨i7, h⟩ := nd_ck_e h
  refine va_iast (i := ((64 * v0) + v1)) (x := v2) hx hb hK hP hD hS 19 18 rfl rfl i7 dX16_newPage_25 (fun H locs hP hD hS => ?_)
  obtain ⟨s8, es8, h⟩ := nd_let_e h
  have hP : va_P (dC, dI) vwCl (dw_X16 a ac s8) H := by rw [es8]; exact hP
  have hD : va_D A (dw_X16 a ac s8) := by rw [es8]; exact hD
  refine lv_iconst (v := 0) hx hb dX16_newPage_26 (by decide) ?_
  refine lv_istore (lv' := [(4, .int 0), (0, .ref (a 0)), (1, .int v0), (2, .int v1), (3, .int v2)]) hx hb dX16_newPage_27 hl (by decide) rfl (fun ls hl => ?_)
  exact (db_X16_newPage_29 C K n) (v0) (v1) (0) s8 _ _ _ h hP hD hS (lv_sub hl [1, 2, 3, 0] rfl)
set_option maxHeartbeats 40000000 in
set_option maxRecDepth 100000 in
theorem dm_X16_newPage (l : Launch) (hlt : l.stackTraces = false) (dC : Nat → ClassId) (dI : Nat → Nat → Nat) (a : Nat → Nat) (ac : Nat → ClassId) (n : Nat) (v0 : Int32) (v1 : Int32) (v2 : Int32) (s0 : St × (St)) {r : St × (St)} (h : df_X16_newPage n v0 v1 v2 s0 = some r) (sz : Nat) : Met l yX16_newPage ow_dm_X16_newPage ({ frames := 1, cells := 0, slots := 0, locals := 22 }) (va_Pc [.ref (a 0), .int v0, .int v1, .int v2] (fun U => U.heap.size = sz ∧ va_P (dC, dI) vwCl (dw_X16 a ac s0) U.heap ∧ va_K (dC, dI) vwCl (dk_X16 ac) U ∧ va_D (fun _ => True) (dw_X16 a ac s0) ∧ nv_E (va_A (dw_X16 a ac s0) sz) U)) (va_Qv (fun _ => True) (fun (_ : Unit) t => va_P (dC, dI) vwCl (dw_X16 a ac r) t.heap ∧ va_K (dC, dI) vwCl (dk_X16 ac) t ∧ va_D (va_A (dw_X16 a ac s0) sz) (dw_X16 a ac r)) (va_A (dw_X16 a ac s0) sz)) 0 0 (va_A (dw_X16 a ac s0) sz) := by
  refine Met.ofW (cc := cX16_newPage) (maxL := 5) (ret := none) (by decide) rfl ?_
  intro p e s m args below meth c s₁ B hml hv
  obtain ⟨rfl, hsz, hP, hK, hD0, hN⟩ := hv
  have hx := B.exec
  have hb := B.bytes
  have hr := B.returns
  have hts := atoms_spec (ws := ow_dm_X16_newPage) B.pre
  have hown : s.vm.findClass RX16 = some m.cls := findClass_of_methodNamed B.named
  have hlocks := B.notSynchronized
  subst hsz
  have hD := hD0.self (sz := s.heap.size)
  generalize hAe : va_A (dw_X16 a ac s0) s.heap.size = A at hD hN ⊢
  have hA : ∀ q : Nat, s.heap.size ≤ q → A q := fun q h => by rw [← hAe]; exact Or.inr h
  have hl := lv_entry ([.ref (a 0), .int v0, .int v1, .int v2]) (n := 5) (Nat.le_of_ble_eq_true rfl)
  rw [lg_entry_eq]
  generalize (lg_sl ([.ref (a 0), .int v0, .int v1, .int v2]) ++ List.replicate (5 - (lg_sl ([.ref (a 0), .int v0, .int v1, .int v2])).length) Slot.unset).toArray = ls at hl ⊢
  have hl : lv_has ls 5 [(0, .ref (a 0)), (1, .int v0), (2, .int v1), (3, .int v2)] := hl
  exact db_X16_newPage_0 (dC := dC) (dI := dI) (a := a) (ac := ac) (n := n) (r := r) ⟨hlt, hx, hb, hml, hown, hts, hN, hA, hK⟩ (fun pc τ H locs ls d er hP hD hS => by subst er; exact W.vret hx hb hr (fun t ht hW => ⟨⟨(), rfl, trivial, by rw [ht]; exact hP, va_K.moved hW.alike hK, hD⟩, hS.F ht⟩) hS.2.2 d) v0 v1 v2 s0 _ _ _ h hP hD va_S.rf (lv_sub hl [0, 1, 2, 3] rfl)
def ow_dm_X16_load : List Cond := .code yX16_load cX16_load 5 none :: ([.fieldLink RX16 42 "TimeMachineModel$Machine" "x" "[I", .constant RX16 186 (65536), .fieldLink RX16 45 "TimeMachineModel$Machine" "place" "[I", .fieldLink RX16 118 "TimeMachineModel$Machine" "programs" "LTimeMachineModel$Programs;", .methodLink RX16 182 yX17_dataSize, .instanceMethod yX17_dataSize, .selects RX17 yX17_dataSize yX17_dataSize, .initialized RX17, .fieldLink RX16 25 "TimeMachineModel$Machine" "heapBegin" "[I", .fieldLink RX16 28 "TimeMachineModel$Machine" "heapEnd" "[I", .fieldLink RX16 64 "TimeMachineModel$Machine" "frame" "[I", .methodLink RX16 197 yX17_byteAt, .instanceMethod yX17_byteAt, .selects RX17 yX17_byteAt yX17_byteAt, .methodLink RX16 201 yX16_put, .instanceMethod yX16_put, .selects RX16 yX16_put yX16_put, .initialized RX16, .methodLink RX16 187 yX16_newPage, .instanceMethod yX16_newPage, .selects RX16 yX16_newPage yX16_newPage] ++ (u_ws RX16 TX16 56 ++ (u_ws RX17 TX17 5 ++ (ow_dm_X17_dataSize ++ (ow_dm_X17_byteAt ++ (ow_dm_X16_put ++ (ow_dm_X16_newPage ++ [])))))))
theorem gd_dm_X16_load : ∀ w ∈ ow_dm_X16_load, (w.onTables && w.keeps) = true ∨ ∃ ty, w = Cond.arrayClass ty := List.forall_mem_cons.mpr ⟨good_of_word rfl, List.forall_mem_append.mpr ⟨fun w h => good_of_word (List.all_eq_true.mp (by decide +kernel) w h), List.forall_mem_append.mpr ⟨gu_X16, List.forall_mem_append.mpr ⟨gu_X17, List.forall_mem_append.mpr ⟨gd_dm_X17_dataSize, List.forall_mem_append.mpr ⟨gd_dm_X17_byteAt, List.forall_mem_append.mpr ⟨gd_dm_X16_put, List.forall_mem_append.mpr ⟨gd_dm_X16_newPage, fun _ h => nomatch h⟩⟩⟩⟩⟩⟩⟩⟩
theorem hi_dm_X16_load_X16 : ∀ w ∈ u_ws RX16 TX16 56, w ∈ ow_dm_X16_load := fun w h => List.mem_cons_of_mem _ (List.mem_append_right _ (List.mem_append_left _ h))
theorem hi_dm_X16_load_X17 : ∀ w ∈ u_ws RX17 TX17 5, w ∈ ow_dm_X16_load := fun w h => List.mem_cons_of_mem _ (List.mem_append_right _ (List.mem_append_right _ (List.mem_append_left _ h)))
theorem gi_dm_X16_load_0 : GoodIn ow_dm_X16_load (wsV RX16 182 RX17 yX17_dataSize ow_dm_X17_dataSize) := goodIn_app (goodIn_of _ (by decide +kernel)) (fun w h => ⟨List.mem_cons_of_mem _ (List.mem_append_right _ (List.mem_append_right _ (List.mem_append_right _ (List.mem_append_left _ h)))), gd_dm_X17_dataSize w h⟩)
theorem gi_dm_X16_load_1 : GoodIn ow_dm_X16_load (wsV RX16 197 RX17 yX17_byteAt ow_dm_X17_byteAt) := goodIn_app (goodIn_of _ (by decide +kernel)) (fun w h => ⟨List.mem_cons_of_mem _ (List.mem_append_right _ (List.mem_append_right _ (List.mem_append_right _ (List.mem_append_right _ (List.mem_append_left _ h))))), gd_dm_X17_byteAt w h⟩)
theorem gi_dm_X16_load_2 : GoodIn ow_dm_X16_load (wsV RX16 201 RX16 yX16_put ow_dm_X16_put) := goodIn_app (goodIn_of _ (by decide +kernel)) (fun w h => ⟨List.mem_cons_of_mem _ (List.mem_append_right _ (List.mem_append_right _ (List.mem_append_right _ (List.mem_append_right _ (List.mem_append_right _ (List.mem_append_left _ h)))))), gd_dm_X16_put w h⟩)
theorem gi_dm_X16_load_3 : GoodIn ow_dm_X16_load (wsV RX16 187 RX16 yX16_newPage ow_dm_X16_newPage) := goodIn_app (goodIn_of _ (by decide +kernel)) (fun w h => ⟨List.mem_cons_of_mem _ (List.mem_append_right _ (List.mem_append_right _ (List.mem_append_right _ (List.mem_append_right _ (List.mem_append_right _ (List.mem_append_right _ (List.mem_append_left _ h))))))), gd_dm_X16_newPage w h⟩)
def dj_X16_load_216 (p : Program) (l : Launch) (e : Env) (s : State) (m : MethodId) (args : Array Value) (below : List Frame) (meth : Method) (c : Code) (Q : State → Prop) (A : Nat → Prop) (dC : Nat → ClassId) (dI : Nat → Nat → Nat) (a : Nat → Nat) (ac : Nat → ClassId) (g : Int32 → Int32 → Int32 → (St × (St)) → Option (St × (St))) (r : St × (St)) : Prop := ∀ (x1 : Int32) (x2 : Int32) (x4 : Int32) (s0 : St × (St)) (H : Heap) (locs : List Loc) (ls : Array Slot), g x1 x2 x4 s0 = some r → va_P (dC, dI) vwCl (dw_X16 a ac s0) H → va_D A (dw_X16 a ac s0) → va_S A s.heap H locs → lv_has ls 5 [(0, .ref (a 0)), (1, .int x1), (2, .int x2), (4, .int x4)] → W p l e (headSpec ow_dm_X16_load ({ frames := 2, cells := 0, slots := 0, locals := 46 })).room s m args below meth c H locs 0 0 Q (F0 m 216 ls [])
def dj_X16_load_161 (p : Program) (l : Launch) (e : Env) (s : State) (m : MethodId) (args : Array Value) (below : List Frame) (meth : Method) (c : Code) (Q : State → Prop) (A : Nat → Prop) (dC : Nat → ClassId) (dI : Nat → Nat → Nat) (a : Nat → Nat) (ac : Nat → ClassId) (g : Int32 → Int32 → Int32 → (St × (St)) → Option (St × (St))) (r : St × (St)) : Prop := ∀ (x1 : Int32) (x2 : Int32) (x4 : Int32) (s0 : St × (St)) (H : Heap) (locs : List Loc) (ls : Array Slot), g x1 x2 x4 s0 = some r → va_P (dC, dI) vwCl (dw_X16 a ac s0) H → va_D A (dw_X16 a ac s0) → va_S A s.heap H locs → lv_has ls 5 [(0, .ref (a 0)), (1, .int x1), (2, .int x2), (4, .int x4)] → W p l e (headSpec ow_dm_X16_load ({ frames := 2, cells := 0, slots := 0, locals := 46 })).room s m args below meth c H locs 0 0 Q (F0 m 161 ls [])
def dj_X16_load_137 (p : Program) (l : Launch) (e : Env) (s : State) (m : MethodId) (args : Array Value) (below : List Frame) (meth : Method) (c : Code) (Q : State → Prop) (A : Nat → Prop) (dC : Nat → ClassId) (dI : Nat → Nat → Nat) (a : Nat → Nat) (ac : Nat → ClassId) (g : Int32 → Int32 → Int32 → (St × (St)) → Option (St × (St))) (r : St × (St)) : Prop := ∀ (x1 : Int32) (x2 : Int32) (x4 : Int32) (s0 : St × (St)) (H : Heap) (locs : List Loc) (ls : Array Slot), g x1 x2 x4 s0 = some r → va_P (dC, dI) vwCl (dw_X16 a ac s0) H → va_D A (dw_X16 a ac s0) → va_S A s.heap H locs → lv_has ls 5 [(0, .ref (a 0)), (1, .int x1), (2, .int x2), (4, .int x4)] → W p l e (headSpec ow_dm_X16_load ({ frames := 2, cells := 0, slots := 0, locals := 46 })).room s m args below meth c H locs 0 0 Q (F0 m 137 ls [])
def dj_X16_load_89 (p : Program) (l : Launch) (e : Env) (s : State) (m : MethodId) (args : Array Value) (below : List Frame) (meth : Method) (c : Code) (Q : State → Prop) (A : Nat → Prop) (dC : Nat → ClassId) (dI : Nat → Nat → Nat) (a : Nat → Nat) (ac : Nat → ClassId) (g : Int32 → Int32 → Int32 → (St × (St)) → Option (St × (St))) (r : St × (St)) : Prop := ∀ (x1 : Int32) (x2 : Int32) (x4 : Int32) (s0 : St × (St)) (H : Heap) (locs : List Loc) (ls : Array Slot), g x1 x2 x4 s0 = some r → va_P (dC, dI) vwCl (dw_X16 a ac s0) H → va_D A (dw_X16 a ac s0) → va_S A s.heap H locs → lv_has ls 5 [(0, .ref (a 0)), (1, .int x1), (2, .int x2), (4, .int x4)] → W p l e (headSpec ow_dm_X16_load ({ frames := 2, cells := 0, slots := 0, locals := 46 })).room s m args below meth c H locs 0 0 Q (F0 m 89 ls [])
def dj_X16_load_59 (p : Program) (l : Launch) (e : Env) (s : State) (m : MethodId) (args : Array Value) (below : List Frame) (meth : Method) (c : Code) (Q : State → Prop) (A : Nat → Prop) (dC : Nat → ClassId) (dI : Nat → Nat → Nat) (a : Nat → Nat) (ac : Nat → ClassId) (g : Int32 → Int32 → Int32 → Int32 → (St × (St)) → Option (St × (St))) (r : St × (St)) : Prop := ∀ (x1 : Int32) (x2 : Int32) (x3 : Int32) (x4 : Int32) (s0 : St × (St)) (H : Heap) (locs : List Loc) (ls : Array Slot), g x1 x2 x3 x4 s0 = some r → va_P (dC, dI) vwCl (dw_X16 a ac s0) H → va_D A (dw_X16 a ac s0) → va_S A s.heap H locs → lv_has ls 5 [(0, .ref (a 0)), (1, .int x1), (2, .int x2), (3, .int x3), (4, .int x4)] → W p l e (headSpec ow_dm_X16_load ({ frames := 2, cells := 0, slots := 0, locals := 46 })).room s m args below meth c H locs 0 0 Q (F0 m 59 ls [])
def dj_X16_load_2 (p : Program) (l : Launch) (e : Env) (s : State) (m : MethodId) (args : Array Value) (below : List Frame) (meth : Method) (c : Code) (Q : State → Prop) (A : Nat → Prop) (dC : Nat → ClassId) (dI : Nat → Nat → Nat) (a : Nat → Nat) (ac : Nat → ClassId) (g : Int32 → Int32 → Int32 → (St × (St)) → Option (St × (St))) (r : St × (St)) : Prop := ∀ (x1 : Int32) (x2 : Int32) (x3 : Int32) (s0 : St × (St)) (H : Heap) (locs : List Loc) (ls : Array Slot), g x1 x2 x3 s0 = some r → va_P (dC, dI) vwCl (dw_X16 a ac s0) H → va_D A (dw_X16 a ac s0) → va_S A s.heap H locs → lv_has ls 5 [(0, .ref (a 0)), (1, .int x1), (2, .int x2), (3, .int x3)] → W p l e (headSpec ow_dm_X16_load ({ frames := 2, cells := 0, slots := 0, locals := 46 })).room s m args below meth c H locs 0 0 Q (F0 m 2 ls [])
def dj_X16_load_0 (p : Program) (l : Launch) (e : Env) (s : State) (m : MethodId) (args : Array Value) (below : List Frame) (meth : Method) (c : Code) (Q : State → Prop) (A : Nat → Prop) (dC : Nat → ClassId) (dI : Nat → Nat → Nat) (a : Nat → Nat) (ac : Nat → ClassId) (g : Int32 → Int32 → (St × (St)) → Option (St × (St))) (r : St × (St)) : Prop := ∀ (v0 : Int32) (v1 : Int32) (s0 : St × (St)) (H : Heap) (locs : List Loc) (ls : Array Slot), g v0 v1 s0 = some r → va_P (dC, dI) vwCl (dw_X16 a ac s0) H → va_D A (dw_X16 a ac s0) → va_S A s.heap H locs → lv_has ls 5 [(0, .ref (a 0)), (1, .int v0), (2, .int v1)] → W p l e (headSpec ow_dm_X16_load ({ frames := 2, cells := 0, slots := 0, locals := 46 })).room s m args below meth c H locs 0 0 Q (F0 m 0 ls [])
set_option maxHeartbeats 40000000 in
set_option maxRecDepth 100000 in
theorem db_X16_load_216 {p : Program} {l : Launch} {e : Env} {s : State} {m : MethodId} {args : Array Value} {below : List Frame} {meth : Method} {c : Code} {Q : State → Prop} {A : Nat → Prop} {dC : Nat → ClassId} {dI : Nat → Nat → Nat} {a : Nat → Nat} {ac : Nat → ClassId} {n : Nat} {r : St × (St)} (C : nd_C p l s m args c A (dC, dI) cX16_load 5 RX16 ow_dm_X16_load (dk_X16 ac)) (K : nd_Kv p l e (headSpec ow_dm_X16_load ({ frames := 2, cells := 0, slots := 0, locals := 46 })).room s m args below meth c Q A (dC, dI) cX16_load (St × (St)) (dw_X16 a ac) r) {g161 : Int32 → Int32 → Int32 → (St × (St)) → Option (St × (St))} (J161 : dj_X16_load_161 p l e s m args below meth c Q A dC dI a ac g161 r) : dj_X16_load_216 p l e s m args below meth c Q A dC dI a ac (df_X16_load_216 n g161) r := by
  obtain ⟨hlt, hx, hb, hml, hown, hts, hN, hA, hK⟩ := id C
  intro x1 x2 x4 s0 H locs ls h hP hD hS hl
  unfold df_X16_load_216 at h
  obtain ⟨z24, ez24, h⟩ := nd_let_e h
  refine lv_iinc (v := z24) (lv' := [(4, .int z24), (0, .ref (a 0)), (1, .int x1), (2, .int x2)]) hx hb dX16_load_216 hl (k := 3) rfl (by rw [ez24]) (by decide) rfl (fun ls hl => ?_)
  refine lv_goto (tgt := 161) hx hb dX16_load_219 (by decide) ?_
  exact (J161) (x1) (x2) (z24) s0 _ _ _ h hP hD hS (lv_sub hl [1, 2, 3, 0] rfl)
set_option maxHeartbeats 40000000 in
set_option maxRecDepth 100000 in
theorem dB_X16_load_161 {p : Program} {l : Launch} {e : Env} {s : State} {m : MethodId} {args : Array Value} {below : List Frame} {meth : Method} {c : Code} {Q : State → Prop} {A : Nat → Prop} {dC : Nat → ClassId} {dI : Nat → Nat → Nat} {a : Nat → Nat} {ac : Nat → ClassId} {n : Nat} {r : St × (St)} (C : nd_C p l s m args c A (dC, dI) cX16_load 5 RX16 ow_dm_X16_load (dk_X16 ac)) (K : nd_Kv p l e (headSpec ow_dm_X16_load ({ frames := 2, cells := 0, slots := 0, locals := 46 })).room s m args below meth c Q A (dC, dI) cX16_load (St × (St)) (dw_X16 a ac) r) {g161 : Int32 → Int32 → Int32 → (St × (St)) → Option (St × (St))} (J161 : dj_X16_load_161 p l e s m args below meth c Q A dC dI a ac g161 r) : dj_X16_load_161 p l e s m args below meth c Q A dC dI a ac (dF_X16_load_161 n g161) r := by
  obtain ⟨hlt, hx, hb, hml, hown, hts, hN, hA, hK⟩ := id C
  intro x1 x2 x4 s0 H locs ls h hP hD hS hl
  unfold dF_X16_load_161 at h
  refine lv_iload hx hb dX16_load_161 (lv_at hl 3 rfl) ?_
  refine lv_aload_n hx hb dX16_load_163 rfl (lv_at hl 0 rfl) ?_
  refine va_get (D := (dC, dI)) (ci := 17) (v := .ref (a 36)) (C := RX16) (T := TX16) (N := 56) hx hb hts hi_dm_X16_load_X16 hown hK hP 0 rfl rfl 0 (by decide) (hts (.fieldLink RX16 118 "TimeMachineModel$Machine" "programs" "LTimeMachineModel$Programs;") (List.mem_of_getElem? (i := 4) rfl)) (fun _ h9 => h9) rfl dX16_load_164 ?_
  refine va_getN (D := (dC, dI)) (ci := 18) (v := .ref (a 40)) (C := RX17) (T := TX17) (N := 5) hx hb hts hi_dm_X16_load_X17 hown hK hP 36 rfl rfl 3 (by decide) (va_Nw.use rfl (hN.1 ("TimeMachineModel$Machine", 194, "TimeMachineModel$Programs", "size", "[I", "TimeMachineModel") (by decide))) (fun _ h9 => h9) rfl dX16_load_167 ?_
  refine lv_iload_n hx hb dX16_load_170 rfl (lv_at hl 2 rfl) ?_
  obtain ⟨i15, h⟩ := nd_ck_e h
  refine va_iald (i := x2) hx hb hK hP 40 38 rfl rfl i15 dX16_load_171 ?_
  refine lv_icmp_ge (tgt := 222) hx hb dX16_load_172 (by decide) (fun c16 => ?_) (fun c16 => ?_)
  · have h := nd_pos h c16
    refine lv_aload_n hx hb dX16_load_222 rfl (lv_at hl 0 rfl) ?_
    refine va_get (D := (dC, dI)) (ci := 17) (v := .ref (a 6)) (C := RX16) (T := TX16) (N := 56) hx hb hts hi_dm_X16_load_X16 hown hK hP 0 rfl rfl 14 (by decide) (hts (.fieldLink RX16 25 "TimeMachineModel$Machine" "heapBegin" "[I") (List.mem_of_getElem? (i := 9) rfl)) (fun _ h9 => h9) rfl dX16_load_223 ?_
    refine lv_iload_n hx hb dX16_load_226 rfl (lv_at hl 1 rfl) ?_
    refine lv_aload_n hx hb dX16_load_227 rfl (lv_at hl 0 rfl) ?_
    refine va_get (D := (dC, dI)) (ci := 17) (v := .ref (a 7)) (C := RX16) (T := TX16) (N := 56) hx hb hts hi_dm_X16_load_X16 hown hK hP 0 rfl rfl 15 (by decide) (hts (.fieldLink RX16 28 "TimeMachineModel$Machine" "heapEnd" "[I") (List.mem_of_getElem? (i := 10) rfl)) (fun _ h9 => h9) rfl dX16_load_228 ?_
    refine lv_iload_n hx hb dX16_load_231 rfl (lv_at hl 1 rfl) ?_
    refine lv_aload_n hx hb dX16_load_232 rfl (lv_at hl 0 rfl) ?_
    refine va_get (D := (dC, dI)) (ci := 17) (v := .ref (a 36)) (C := RX16) (T := TX16) (N := 56) hx hb hts hi_dm_X16_load_X16 hown hK hP 0 rfl rfl 0 (by decide) (hts (.fieldLink RX16 118 "TimeMachineModel$Machine" "programs" "LTimeMachineModel$Programs;") (List.mem_of_getElem? (i := 4) rfl)) (fun _ h9 => h9) rfl dX16_load_233 ?_
    refine va_getN (D := (dC, dI)) (ci := 18) (v := .ref (a 40)) (C := RX17) (T := TX17) (N := 5) hx hb hts hi_dm_X16_load_X17 hown hK hP 36 rfl rfl 3 (by decide) (va_Nw.use rfl (hN.1 ("TimeMachineModel$Machine", 194, "TimeMachineModel$Programs", "size", "[I", "TimeMachineModel") (by decide))) (fun _ h9 => h9) rfl dX16_load_236 ?_
    refine lv_iload_n hx hb dX16_load_239 rfl (lv_at hl 2 rfl) ?_
    obtain ⟨i17, h⟩ := nd_ck_e h
    refine va_iald (i := x2) hx hb hK hP 40 38 rfl rfl i17 dX16_load_240 ?_
    refine lv_sipush (v := 1023) hx hb dX16_load_241 (by decide) ?_
    refine lv_iadd hx hb dX16_load_244 ?_
    refine lv_sipush (v := 1024) hx hb dX16_load_245 (by decide) ?_
    refine lv_idiv hx hb dX16_load_248 (by decide) ?_
    refine lv_sipush (v := 1024) hx hb dX16_load_249 (by decide) ?_
    refine lv_imul hx hb dX16_load_252 ?_
    refine lv_dup_x2 hx hb dX16_load_253 rfl rfl rfl ?_
    obtain ⟨i18, h⟩ := nd_ck_e h
    refine va_iast (i := x1) (x := (((((sR s0.2 3 (Int32.toNatClampNeg x2)) + 1023) : Int32) / 1024) * 1024)) hx hb hK hP hD hS 7 6 rfl rfl i18 dX16_load_254 (fun H locs hP hD hS => ?_)
    obtain ⟨s19, es19, h⟩ := nd_let_e h
    have hP : va_P (dC, dI) vwCl (dw_X16 a ac s19) H := by rw [es19]; exact hP
    have hD : va_D A (dw_X16 a ac s19) := by rw [es19]; exact hD
    obtain ⟨i20, h⟩ := nd_ck_e h
    refine va_iast (i := x1) (x := (((((sR s0.2 3 (Int32.toNatClampNeg x2)) + 1023) : Int32) / 1024) * 1024)) hx hb hK hP hD hS 6 5 rfl rfl i20 dX16_load_255 (fun H locs hP hD hS => ?_)
    obtain ⟨s21, es21, h⟩ := nd_let_e h
    have hP : va_P (dC, dI) vwCl (dw_X16 a ac s21) H := by rw [es21]; exact hP
    have hD : va_D A (dw_X16 a ac s21) := by rw [es21]; exact hD
    exact K _ _ _ _ _ dX16_load_256 (Option.some.inj h).symm hP hD hS
  · have h := nd_neg h c16
    refine lv_aload_n hx hb dX16_load_175 rfl (lv_at hl 0 rfl) ?_
    refine va_get (D := (dC, dI)) (ci := 17) (v := .ref (a 18)) (C := RX16) (T := TX16) (N := 56) hx hb hts hi_dm_X16_load_X16 hown hK hP 0 rfl rfl 26 (by decide) (hts (.fieldLink RX16 64 "TimeMachineModel$Machine" "frame" "[I") (List.mem_of_getElem? (i := 11) rfl)) (fun _ h9 => h9) rfl dX16_load_176 ?_
    refine lv_bipush (v := 64) hx hb dX16_load_179 (by decide) ?_
    refine lv_iload_n hx hb dX16_load_181 rfl (lv_at hl 1 rfl) ?_
    refine lv_imul hx hb dX16_load_182 ?_
    refine lv_iload hx hb dX16_load_183 (lv_at hl 3 rfl) ?_
    refine lv_sipush (v := 1024) hx hb dX16_load_185 (by decide) ?_
    refine lv_idiv hx hb dX16_load_188 (by decide) ?_
    refine lv_iadd hx hb dX16_load_189 ?_
    obtain ⟨i22, h⟩ := nd_ck_e h
    refine va_iald (i := ((64 * x1) + ((x4 : Int32) / 1024))) hx hb hK hP 18 17 rfl rfl i22 dX16_load_190 ?_
    refine lv_iconst (v := (-1)) hx hb dX16_load_191 (by decide) ?_
    refine lv_icmp_eq (tgt := 216) hx hb dX16_load_192 (by decide) (fun c23 => ?_) (fun c23 => ?_)
    · have h := nd_pos h c23
      exact (db_X16_load_216 C K J161) (x1) (x2) (x4) s0 _ _ _ h hP hD hS (lv_sub hl [0, 1, 2, 3] rfl)
    · have h := nd_neg h c23
      refine lv_aload_n hx hb dX16_load_195 rfl (lv_at hl 0 rfl) ?_
      refine lv_ldc hx hb hown (hts (.constant RX16 186 (65536)) (List.mem_of_getElem? (i := 2) rfl)) dX16_load_196 ?_
      refine lv_iload_n hx hb dX16_load_198 rfl (lv_at hl 1 rfl) ?_
      refine lv_imul hx hb dX16_load_199 ?_
      refine lv_iload hx hb dX16_load_200 (lv_at hl 3 rfl) ?_
      refine lv_iadd hx hb dX16_load_202 ?_
      refine lv_aload_n hx hb dX16_load_203 rfl (lv_at hl 0 rfl) ?_
      refine va_get (D := (dC, dI)) (ci := 17) (v := .ref (a 36)) (C := RX16) (T := TX16) (N := 56) hx hb hts hi_dm_X16_load_X16 hown hK hP 0 rfl rfl 0 (by decide) (hts (.fieldLink RX16 118 "TimeMachineModel$Machine" "programs" "LTimeMachineModel$Programs;") (List.mem_of_getElem? (i := 4) rfl)) (fun _ h9 => h9) rfl dX16_load_204 ?_
      refine lv_iload_n hx hb dX16_load_207 rfl (lv_at hl 2 rfl) ?_
      refine lv_iload hx hb dX16_load_208 (lv_at hl 3 rfl) ?_
      obtain ⟨q25, s26, hq, h⟩ := nd_b2_e h
      have hPc := dp_X16_36 hP
      have hDc := dd_X16_36 hD
      have hKc := dy_X16_36 hK
      have hFc := nd_rs hDc hS hA
      have hzA : ∀ q : Nat, H.size ≤ q → A q := fun q h => hA q (Nat.le_trans hS.1 h)
      refine nd_cVi (As := [.int x2, .int x4]) (rest := [.int ((65536 * x1) + x4), .ref (a 0)]) (q := q25) (w' := dw_X17 (fun k => a (k + 36)) (fun k => ac (k + 36)) s26) ⟨hx, hb, hml, hown, hts⟩ (fun sz => dm_X17_byteAt l hlt dC dI (fun k => a (k + 36)) (fun k => ac (k + 36)) n (x2) (x4) s0.2 hq sz) (cwV 2 hts gi_dm_X16_load_1 rfl rfl rfl (by decide +kernel) ⟨Nat.le_of_ble_eq_true rfl, Nat.le_of_ble_eq_true rfl⟩) hPc hDc hKc hS hA hN (va_recv hKc hPc (ci := 18) (q0 := 0) rfl rfl) rfl hl.1 rfl (Nat.le_of_ble_eq_true rfl) dX16_load_210 (fun H locs hP1 hD1 hk1 hS => ?_)
      obtain ⟨hP, hD⟩ := dn_X16_36 hP hD hzA hk1 hP1 hD1
      obtain ⟨s28, es28, h⟩ := nd_let_e h
      have hP : va_P (dC, dI) vwCl (dw_X16 a ac s28) H := by rw [es28]; exact hP
      have hD : va_D A (dw_X16 a ac s28) := by rw [es28]; exact hD
      obtain ⟨s30, hq, h⟩ := nd_b1_e h
      have hPc := hP
      have hDc := hD
      have hKc := hK
      have hFc := nd_rs hD hS hA
      refine nd_cVv (As := [.int ((65536 * x1) + x4), .int q25]) (rest := []) (w' := dw_X16 a ac s30) ⟨hx, hb, hml, hown, hts⟩ (fun sz => dm_X16_put l hlt dC dI a ac n (((65536 * x1) + x4)) (q25) s28 hq sz) (cwV 2 hts gi_dm_X16_load_2 rfl rfl rfl (by decide +kernel) ⟨Nat.le_of_ble_eq_true rfl, Nat.le_of_ble_eq_true rfl⟩) hPc hDc hKc hS hA hN (va_recv hKc hPc (ci := 17) (q0 := 0) rfl rfl) rfl hl.1 rfl (Nat.le_of_ble_eq_true rfl) dX16_load_213 (fun H locs hP1 hD1 hk1 hS => ?_)
      have hP := hP1
      have hD := hD1.weaken (fun k q _ h => hFc q.1 h)
      exact (db_X16_load_216 C K J161) (x1) (x2) (x4) s30 _ _ _ h hP hD hS (lv_sub hl [0, 1, 2, 3] rfl)
set_option maxHeartbeats 40000000 in
set_option maxRecDepth 100000 in
theorem db_X16_load_161 {p : Program} {l : Launch} {e : Env} {s : State} {m : MethodId} {args : Array Value} {below : List Frame} {meth : Method} {c : Code} {Q : State → Prop} {A : Nat → Prop} {dC : Nat → ClassId} {dI : Nat → Nat → Nat} {a : Nat → Nat} {ac : Nat → ClassId} {n : Nat} {r : St × (St)} (C : nd_C p l s m args c A (dC, dI) cX16_load 5 RX16 ow_dm_X16_load (dk_X16 ac)) (K : nd_Kv p l e (headSpec ow_dm_X16_load ({ frames := 2, cells := 0, slots := 0, locals := 46 })).room s m args below meth c Q A (dC, dI) cX16_load (St × (St)) (dw_X16 a ac) r) (k : Nat) : dj_X16_load_161 p l e s m args below meth c Q A dC dI a ac (df_X16_load_161 n k) r := by
  induction k with
  | zero => intro x1 x2 x4 s0 H locs ls h; exact nomatch (show (none : Option (St × (St))) = some r from h)
  | succ k ih => exact dB_X16_load_161 C K ih
set_option maxHeartbeats 40000000 in
set_option maxRecDepth 100000 in
theorem dB_X16_load_137 {p : Program} {l : Launch} {e : Env} {s : State} {m : MethodId} {args : Array Value} {below : List Frame} {meth : Method} {c : Code} {Q : State → Prop} {A : Nat → Prop} {dC : Nat → ClassId} {dI : Nat → Nat → Nat} {a : Nat → Nat} {ac : Nat → ClassId} {n : Nat} {r : St × (St)} (C : nd_C p l s m args c A (dC, dI) cX16_load 5 RX16 ow_dm_X16_load (dk_X16 ac)) (K : nd_Kv p l e (headSpec ow_dm_X16_load ({ frames := 2, cells := 0, slots := 0, locals := 46 })).room s m args below meth c Q A (dC, dI) cX16_load (St × (St)) (dw_X16 a ac) r) {g137 : Int32 → Int32 → Int32 → (St × (St)) → Option (St × (St))} (J137 : dj_X16_load_137 p l e s m args below meth c Q A dC dI a ac g137 r) : dj_X16_load_137 p l e s m args below meth c Q A dC dI a ac (dF_X16_load_137 n g137) r := by
  obtain ⟨hlt, hx, hb, hml, hown, hts, hN, hA, hK⟩ := id C
  intro x1 x2 x4 s0 H locs ls h hP hD hS hl
  unfold dF_X16_load_137 at h
  refine lv_iload hx hb dX16_load_137 (lv_at hl 3 rfl) ?_
  refine lv_bipush (v := 64) hx hb dX16_load_139 (by decide) ?_
  refine lv_icmp_ge (tgt := 158) hx hb dX16_load_141 (by decide) (fun c14 => ?_) (fun c14 => ?_)
  · have h := nd_pos h c14
    refine lv_iconst (v := 0) hx hb dX16_load_158 (by decide) ?_
    refine lv_istore (lv' := [(4, .int 0), (0, .ref (a 0)), (1, .int x1), (2, .int x2)]) hx hb dX16_load_159 hl (by decide) rfl (fun ls hl => ?_)
    exact (db_X16_load_161 C K n) (x1) (x2) (0) s0 _ _ _ h hP hD hS (lv_sub hl [1, 2, 3, 0] rfl)
  · have h := nd_neg h c14
    refine lv_aload_n hx hb dX16_load_144 rfl (lv_at hl 0 rfl) ?_
    refine lv_iload_n hx hb dX16_load_145 rfl (lv_at hl 1 rfl) ?_
    refine lv_iload hx hb dX16_load_146 (lv_at hl 3 rfl) ?_
    refine lv_iconst (v := 3) hx hb dX16_load_148 (by decide) ?_
    obtain ⟨s33, hq, h⟩ := nd_b1_e h
    have hPc := hP
    have hDc := hD
    have hKc := hK
    have hFc := nd_rs hD hS hA
    refine nd_cVv (As := [.int x1, .int x4, .int 3]) (rest := []) (w' := dw_X16 a ac s33) ⟨hx, hb, hml, hown, hts⟩ (fun sz => dm_X16_newPage l hlt dC dI a ac n (x1) (x4) (3) s0 hq sz) (cwV 3 hts gi_dm_X16_load_3 rfl rfl rfl (by decide +kernel) ⟨Nat.le_of_ble_eq_true rfl, Nat.le_of_ble_eq_true rfl⟩) hPc hDc hKc hS hA hN (va_recv hKc hPc (ci := 17) (q0 := 0) rfl rfl) rfl hl.1 rfl (Nat.le_of_ble_eq_true rfl) dX16_load_149 (fun H locs hP1 hD1 hk1 hS => ?_)
    have hP := hP1
    have hD := hD1.weaken (fun k q _ h => hFc q.1 h)
    obtain ⟨z35, ez35, h⟩ := nd_let_e h
    refine lv_iinc (v := z35) (lv' := [(4, .int z35), (0, .ref (a 0)), (1, .int x1), (2, .int x2)]) hx hb dX16_load_152 hl (k := 3) rfl (by rw [ez35]) (by decide) rfl (fun ls hl => ?_)
    refine lv_goto (tgt := 137) hx hb dX16_load_155 (by decide) ?_
    exact (J137) (x1) (x2) (z35) s33 _ _ _ h hP hD hS (lv_sub hl [1, 2, 3, 0] rfl)
set_option maxHeartbeats 40000000 in
set_option maxRecDepth 100000 in
theorem db_X16_load_137 {p : Program} {l : Launch} {e : Env} {s : State} {m : MethodId} {args : Array Value} {below : List Frame} {meth : Method} {c : Code} {Q : State → Prop} {A : Nat → Prop} {dC : Nat → ClassId} {dI : Nat → Nat → Nat} {a : Nat → Nat} {ac : Nat → ClassId} {n : Nat} {r : St × (St)} (C : nd_C p l s m args c A (dC, dI) cX16_load 5 RX16 ow_dm_X16_load (dk_X16 ac)) (K : nd_Kv p l e (headSpec ow_dm_X16_load ({ frames := 2, cells := 0, slots := 0, locals := 46 })).room s m args below meth c Q A (dC, dI) cX16_load (St × (St)) (dw_X16 a ac) r) (k : Nat) : dj_X16_load_137 p l e s m args below meth c Q A dC dI a ac (df_X16_load_137 n k) r := by
  induction k with
  | zero => intro x1 x2 x4 s0 H locs ls h; exact nomatch (show (none : Option (St × (St))) = some r from h)
  | succ k ih => exact dB_X16_load_137 C K ih
set_option maxHeartbeats 40000000 in
set_option maxRecDepth 100000 in
theorem dB_X16_load_89 {p : Program} {l : Launch} {e : Env} {s : State} {m : MethodId} {args : Array Value} {below : List Frame} {meth : Method} {c : Code} {Q : State → Prop} {A : Nat → Prop} {dC : Nat → ClassId} {dI : Nat → Nat → Nat} {a : Nat → Nat} {ac : Nat → ClassId} {n : Nat} {r : St × (St)} (C : nd_C p l s m args c A (dC, dI) cX16_load 5 RX16 ow_dm_X16_load (dk_X16 ac)) (K : nd_Kv p l e (headSpec ow_dm_X16_load ({ frames := 2, cells := 0, slots := 0, locals := 46 })).room s m args below meth c Q A (dC, dI) cX16_load (St × (St)) (dw_X16 a ac) r) {g89 : Int32 → Int32 → Int32 → (St × (St)) → Option (St × (St))} (J89 : dj_X16_load_89 p l e s m args below meth c Q A dC dI a ac g89 r) : dj_X16_load_89 p l e s m args below meth c Q A dC dI a ac (dF_X16_load_89 n g89) r := by
  obtain ⟨hlt, hx, hb, hml, hown, hts, hN, hA, hK⟩ := id C
  intro x1 x2 x4 s0 H locs ls h hP hD hS hl
  unfold dF_X16_load_89 at h
  refine lv_iload hx hb dX16_load_89 (lv_at hl 3 rfl) ?_
  refine lv_aload_n hx hb dX16_load_91 rfl (lv_at hl 0 rfl) ?_
  refine va_get (D := (dC, dI)) (ci := 17) (v := .ref (a 36)) (C := RX16) (T := TX16) (N := 56) hx hb hts hi_dm_X16_load_X16 hown hK hP 0 rfl rfl 0 (by decide) (hts (.fieldLink RX16 118 "TimeMachineModel$Machine" "programs" "LTimeMachineModel$Programs;") (List.mem_of_getElem? (i := 4) rfl)) (fun _ h9 => h9) rfl dX16_load_92 ?_
  refine lv_iload_n hx hb dX16_load_95 rfl (lv_at hl 2 rfl) ?_
  obtain ⟨q9, s10, hq, h⟩ := nd_b2_e h
  have hPc := dp_X16_36 hP
  have hDc := dd_X16_36 hD
  have hKc := dy_X16_36 hK
  have hFc := nd_rs hDc hS hA
  have hzA : ∀ q : Nat, H.size ≤ q → A q := fun q h => hA q (Nat.le_trans hS.1 h)
  refine nd_cVi (As := [.int x2]) (rest := [.int x4]) (q := q9) (w' := dw_X17 (fun k => a (k + 36)) (fun k => ac (k + 36)) s10) ⟨hx, hb, hml, hown, hts⟩ (fun sz => dm_X17_dataSize l hlt dC dI (fun k => a (k + 36)) (fun k => ac (k + 36)) n (x2) s0.2 hq sz) (cwV 1 hts gi_dm_X16_load_0 rfl rfl rfl (by decide +kernel) ⟨Nat.le_of_ble_eq_true rfl, Nat.le_of_ble_eq_true rfl⟩) hPc hDc hKc hS hA hN (va_recv hKc hPc (ci := 18) (q0 := 0) rfl rfl) rfl hl.1 rfl (Nat.le_of_ble_eq_true rfl) dX16_load_96 (fun H locs hP1 hD1 hk1 hS => ?_)
  obtain ⟨hP, hD⟩ := dn_X16_36 hP hD hzA hk1 hP1 hD1
  obtain ⟨s12, es12, h⟩ := nd_let_e h
  have hP : va_P (dC, dI) vwCl (dw_X16 a ac s12) H := by rw [es12]; exact hP
  have hD : va_D A (dw_X16 a ac s12) := by rw [es12]; exact hD
  refine lv_icmp_ge (tgt := 133) hx hb dX16_load_99 (by decide) (fun c13 => ?_) (fun c13 => ?_)
  · have h := nd_pos h c13
    refine lv_bipush (v := 60) hx hb dX16_load_133 (by decide) ?_
    refine lv_istore (lv' := [(4, .int 60), (0, .ref (a 0)), (1, .int x1), (2, .int x2)]) hx hb dX16_load_135 hl (by decide) rfl (fun ls hl => ?_)
    exact (db_X16_load_137 C K n) (x1) (x2) (60) s12 _ _ _ h hP hD hS (lv_sub hl [1, 2, 3, 0] rfl)
  · have h := nd_neg h c13
    refine lv_aload_n hx hb dX16_load_102 rfl (lv_at hl 0 rfl) ?_
    refine lv_iload_n hx hb dX16_load_103 rfl (lv_at hl 1 rfl) ?_
    refine lv_aload_n hx hb dX16_load_104 rfl (lv_at hl 0 rfl) ?_
    refine va_get (D := (dC, dI)) (ci := 17) (v := .ref (a 36)) (C := RX16) (T := TX16) (N := 56) hx hb hts hi_dm_X16_load_X16 hown hK hP 0 rfl rfl 0 (by decide) (hts (.fieldLink RX16 118 "TimeMachineModel$Machine" "programs" "LTimeMachineModel$Programs;") (List.mem_of_getElem? (i := 4) rfl)) (fun _ h9 => h9) rfl dX16_load_105 ?_
    refine va_getN (D := (dC, dI)) (ci := 18) (v := .ref (a 39)) (C := RX17) (T := TX17) (N := 5) hx hb hts hi_dm_X16_load_X17 hown hK hP 36 rfl rfl 2 (by decide) (va_Nw.use rfl (hN.1 ("TimeMachineModel$Machine", 191, "TimeMachineModel$Programs", "dataBegin", "[I", "TimeMachineModel") (by decide))) (fun _ h9 => h9) rfl dX16_load_108 ?_
    refine lv_iload_n hx hb dX16_load_111 rfl (lv_at hl 2 rfl) ?_
    obtain ⟨i36, h⟩ := nd_ck_e h
    refine va_iald (i := x2) hx hb hK hP 39 37 rfl rfl i36 dX16_load_112 ?_
    refine lv_iload hx hb dX16_load_113 (lv_at hl 3 rfl) ?_
    refine lv_iadd hx hb dX16_load_115 ?_
    refine lv_sipush (v := 1024) hx hb dX16_load_116 (by decide) ?_
    refine lv_idiv hx hb dX16_load_119 (by decide) ?_
    refine lv_iconst (v := 3) hx hb dX16_load_120 (by decide) ?_
    obtain ⟨s38, hq, h⟩ := nd_b1_e h
    have hPc := hP
    have hDc := hD
    have hKc := hK
    have hFc := nd_rs hD hS hA
    refine nd_cVv (As := [.int x1, .int ((((sR s12.2 2 (Int32.toNatClampNeg x2)) + x4) : Int32) / 1024), .int 3]) (rest := []) (w' := dw_X16 a ac s38) ⟨hx, hb, hml, hown, hts⟩ (fun sz => dm_X16_newPage l hlt dC dI a ac n (x1) (((((sR s12.2 2 (Int32.toNatClampNeg x2)) + x4) : Int32) / 1024)) (3) s12 hq sz) (cwV 3 hts gi_dm_X16_load_3 rfl rfl rfl (by decide +kernel) ⟨Nat.le_of_ble_eq_true rfl, Nat.le_of_ble_eq_true rfl⟩) hPc hDc hKc hS hA hN (va_recv hKc hPc (ci := 17) (q0 := 0) rfl rfl) rfl hl.1 rfl (Nat.le_of_ble_eq_true rfl) dX16_load_121 (fun H locs hP1 hD1 hk1 hS => ?_)
    have hP := hP1
    have hD := hD1.weaken (fun k q _ h => hFc q.1 h)
    obtain ⟨z40, ez40, h⟩ := nd_let_e h
    refine lv_iincW (v := z40) (lv' := [(4, .int z40), (0, .ref (a 0)), (1, .int x1), (2, .int x2)]) hx hb dX16_load_124 hl (k := 3) rfl (by rw [ez40]) (by decide) rfl (fun ls hl => ?_)
    refine lv_goto (tgt := 89) hx hb dX16_load_130 (by decide) ?_
    exact (J89) (x1) (x2) (z40) s38 _ _ _ h hP hD hS (lv_sub hl [1, 2, 3, 0] rfl)
set_option maxHeartbeats 40000000 in
set_option maxRecDepth 100000 in
theorem db_X16_load_89 {p : Program} {l : Launch} {e : Env} {s : State} {m : MethodId} {args : Array Value} {below : List Frame} {meth : Method} {c : Code} {Q : State → Prop} {A : Nat → Prop} {dC : Nat → ClassId} {dI : Nat → Nat → Nat} {a : Nat → Nat} {ac : Nat → ClassId} {n : Nat} {r : St × (St)} (C : nd_C p l s m args c A (dC, dI) cX16_load 5 RX16 ow_dm_X16_load (dk_X16 ac)) (K : nd_Kv p l e (headSpec ow_dm_X16_load ({ frames := 2, cells := 0, slots := 0, locals := 46 })).room s m args below meth c Q A (dC, dI) cX16_load (St × (St)) (dw_X16 a ac) r) (k : Nat) : dj_X16_load_89 p l e s m args below meth c Q A dC dI a ac (df_X16_load_89 n k) r := by
  induction k with
  | zero => intro x1 x2 x4 s0 H locs ls h; exact nomatch (show (none : Option (St × (St))) = some r from h)
  | succ k ih => exact dB_X16_load_89 C K ih
set_option maxHeartbeats 40000000 in
set_option maxRecDepth 100000 in
theorem dB_X16_load_59 {p : Program} {l : Launch} {e : Env} {s : State} {m : MethodId} {args : Array Value} {below : List Frame} {meth : Method} {c : Code} {Q : State → Prop} {A : Nat → Prop} {dC : Nat → ClassId} {dI : Nat → Nat → Nat} {a : Nat → Nat} {ac : Nat → ClassId} {n : Nat} {r : St × (St)} (C : nd_C p l s m args c A (dC, dI) cX16_load 5 RX16 ow_dm_X16_load (dk_X16 ac)) (K : nd_Kv p l e (headSpec ow_dm_X16_load ({ frames := 2, cells := 0, slots := 0, locals := 46 })).room s m args below meth c Q A (dC, dI) cX16_load (St × (St)) (dw_X16 a ac) r) {g59 : Int32 → Int32 → Int32 → Int32 → (St × (St)) → Option (St × (St))} (J59 : dj_X16_load_59 p l e s m args below meth c Q A dC dI a ac g59 r) : dj_X16_load_59 p l e s m args below meth c Q A dC dI a ac (dF_X16_load_59 n g59) r := by
  obtain ⟨hlt, hx, hb, hml, hown, hts, hN, hA, hK⟩ := id C
  intro x1 x2 x3 x4 s0 H locs ls h hP hD hS hl
  unfold dF_X16_load_59 at h
  refine lv_iload hx hb dX16_load_59 (lv_at hl 4 rfl) ?_
  refine lv_iload_n hx hb dX16_load_61 rfl (lv_at hl 3 rfl) ?_
  refine lv_icmp_ge (tgt := 86) hx hb dX16_load_62 (by decide) (fun c8 => ?_) (fun c8 => ?_)
  · have h := nd_pos h c8
    refine lv_iconst (v := 0) hx hb dX16_load_86 (by decide) ?_
    refine lv_istore (lv' := [(4, .int 0), (0, .ref (a 0)), (1, .int x1), (2, .int x2), (3, .int x3)]) hx hb dX16_load_87 hl (by decide) rfl (fun ls hl => ?_)
    exact (db_X16_load_89 C K n) (x1) (x2) (0) s0 _ _ _ h hP hD hS (lv_sub hl [1, 2, 3, 0] rfl)
  · have h := nd_neg h c8
    refine lv_aload_n hx hb dX16_load_65 rfl (lv_at hl 0 rfl) ?_
    refine lv_iload_n hx hb dX16_load_66 rfl (lv_at hl 1 rfl) ?_
    refine lv_iload hx hb dX16_load_67 (lv_at hl 4 rfl) ?_
    refine lv_sipush (v := 1024) hx hb dX16_load_69 (by decide) ?_
    refine lv_idiv hx hb dX16_load_72 (by decide) ?_
    refine lv_iconst (v := 5) hx hb dX16_load_73 (by decide) ?_
    obtain ⟨s42, hq, h⟩ := nd_b1_e h
    have hPc := hP
    have hDc := hD
    have hKc := hK
    have hFc := nd_rs hD hS hA
    refine nd_cVv (As := [.int x1, .int ((x4 : Int32) / 1024), .int 5]) (rest := []) (w' := dw_X16 a ac s42) ⟨hx, hb, hml, hown, hts⟩ (fun sz => dm_X16_newPage l hlt dC dI a ac n (x1) (((x4 : Int32) / 1024)) (5) s0 hq sz) (cwV 3 hts gi_dm_X16_load_3 rfl rfl rfl (by decide +kernel) ⟨Nat.le_of_ble_eq_true rfl, Nat.le_of_ble_eq_true rfl⟩) hPc hDc hKc hS hA hN (va_recv hKc hPc (ci := 17) (q0 := 0) rfl rfl) rfl hl.1 rfl (Nat.le_of_ble_eq_true rfl) dX16_load_74 (fun H locs hP1 hD1 hk1 hS => ?_)
    have hP := hP1
    have hD := hD1.weaken (fun k q _ h => hFc q.1 h)
    obtain ⟨z44, ez44, h⟩ := nd_let_e h
    refine lv_iincW (v := z44) (lv' := [(4, .int z44), (0, .ref (a 0)), (1, .int x1), (2, .int x2), (3, .int x3)]) hx hb dX16_load_77 hl (k := 4) rfl (by rw [ez44]) (by decide) rfl (fun ls hl => ?_)
    refine lv_goto (tgt := 59) hx hb dX16_load_83 (by decide) ?_
    exact (J59) (x1) (x2) (x3) (z44) s42 _ _ _ h hP hD hS (lv_sub hl [1, 2, 3, 4, 0] rfl)
set_option maxHeartbeats 40000000 in
set_option maxRecDepth 100000 in
theorem db_X16_load_59 {p : Program} {l : Launch} {e : Env} {s : State} {m : MethodId} {args : Array Value} {below : List Frame} {meth : Method} {c : Code} {Q : State → Prop} {A : Nat → Prop} {dC : Nat → ClassId} {dI : Nat → Nat → Nat} {a : Nat → Nat} {ac : Nat → ClassId} {n : Nat} {r : St × (St)} (C : nd_C p l s m args c A (dC, dI) cX16_load 5 RX16 ow_dm_X16_load (dk_X16 ac)) (K : nd_Kv p l e (headSpec ow_dm_X16_load ({ frames := 2, cells := 0, slots := 0, locals := 46 })).room s m args below meth c Q A (dC, dI) cX16_load (St × (St)) (dw_X16 a ac) r) (k : Nat) : dj_X16_load_59 p l e s m args below meth c Q A dC dI a ac (df_X16_load_59 n k) r := by
  induction k with
  | zero => intro x1 x2 x3 x4 s0 H locs ls h; exact nomatch (show (none : Option (St × (St))) = some r from h)
  | succ k ih => exact dB_X16_load_59 C K ih
set_option maxHeartbeats 40000000 in
set_option maxRecDepth 100000 in
theorem dB_X16_load_2 {p : Program} {l : Launch} {e : Env} {s : State} {m : MethodId} {args : Array Value} {below : List Frame} {meth : Method} {c : Code} {Q : State → Prop} {A : Nat → Prop} {dC : Nat → ClassId} {dI : Nat → Nat → Nat} {a : Nat → Nat} {ac : Nat → ClassId} {n : Nat} {r : St × (St)} (C : nd_C p l s m args c A (dC, dI) cX16_load 5 RX16 ow_dm_X16_load (dk_X16 ac)) (K : nd_Kv p l e (headSpec ow_dm_X16_load ({ frames := 2, cells := 0, slots := 0, locals := 46 })).room s m args below meth c Q A (dC, dI) cX16_load (St × (St)) (dw_X16 a ac) r) {g2 : Int32 → Int32 → Int32 → (St × (St)) → Option (St × (St))} (J2 : dj_X16_load_2 p l e s m args below meth c Q A dC dI a ac g2 r) : dj_X16_load_2 p l e s m args below meth c Q A dC dI a ac (dF_X16_load_2 n g2) r := by
  obtain ⟨hlt, hx, hb, hml, hown, hts, hN, hA, hK⟩ := id C
  intro x1 x2 x3 s0 H locs ls h hP hD hS hl
  unfold dF_X16_load_2 at h
  refine lv_iload_n hx hb dX16_load_2 rfl (lv_at hl 3 rfl) ?_
  refine lv_bipush (v := 32) hx hb dX16_load_3 (by decide) ?_
  refine lv_icmp_ge (tgt := 26) hx hb dX16_load_5 (by decide) (fun c1 => ?_) (fun c1 => ?_)
  · have h := nd_pos h c1
    refine lv_aload_n hx hb dX16_load_26 rfl (lv_at hl 0 rfl) ?_
    refine va_get (D := (dC, dI)) (ci := 17) (v := .ref (a 11)) (C := RX16) (T := TX16) (N := 56) hx hb hts hi_dm_X16_load_X16 hown hK hP 0 rfl rfl 19 (by decide) (hts (.fieldLink RX16 42 "TimeMachineModel$Machine" "x" "[I") (List.mem_of_getElem? (i := 1) rfl)) (fun _ h9 => h9) rfl dX16_load_27 ?_
    refine lv_bipush (v := 32) hx hb dX16_load_30 (by decide) ?_
    refine lv_iload_n hx hb dX16_load_32 rfl (lv_at hl 1 rfl) ?_
    refine lv_imul hx hb dX16_load_33 ?_
    refine lv_iconst (v := 2) hx hb dX16_load_34 (by decide) ?_
    refine lv_iadd hx hb dX16_load_35 ?_
    refine lv_ldc hx hb hown (hts (.constant RX16 186 (65536)) (List.mem_of_getElem? (i := 2) rfl)) dX16_load_36 ?_
    obtain ⟨i2, h⟩ := nd_ck_e h
    refine va_iast (i := ((32 * x1) + 2)) (x := 65536) hx hb hK hP hD hS 11 10 rfl rfl i2 dX16_load_38 (fun H locs hP hD hS => ?_)
    obtain ⟨s3, es3, h⟩ := nd_let_e h
    have hP : va_P (dC, dI) vwCl (dw_X16 a ac s3) H := by rw [es3]; exact hP
    have hD : va_D A (dw_X16 a ac s3) := by rw [es3]; exact hD
    refine lv_aload_n hx hb dX16_load_39 rfl (lv_at hl 0 rfl) ?_
    refine va_get (D := (dC, dI)) (ci := 17) (v := .ref (a 12)) (C := RX16) (T := TX16) (N := 56) hx hb hts hi_dm_X16_load_X16 hown hK hP 0 rfl rfl 20 (by decide) (hts (.fieldLink RX16 45 "TimeMachineModel$Machine" "place" "[I") (List.mem_of_getElem? (i := 3) rfl)) (fun _ h9 => h9) rfl dX16_load_40 ?_
    refine lv_iload_n hx hb dX16_load_43 rfl (lv_at hl 1 rfl) ?_
    refine lv_iconst (v := 0) hx hb dX16_load_44 (by decide) ?_
    obtain ⟨i4, h⟩ := nd_ck_e h
    refine va_iast (i := x1) (x := 0) hx hb hK hP hD hS 12 11 rfl rfl i4 dX16_load_45 (fun H locs hP hD hS => ?_)
    obtain ⟨s5, es5, h⟩ := nd_let_e h
    have hP : va_P (dC, dI) vwCl (dw_X16 a ac s5) H := by rw [es5]; exact hP
    have hD : va_D A (dw_X16 a ac s5) := by rw [es5]; exact hD
    refine lv_aload_n hx hb dX16_load_46 rfl (lv_at hl 0 rfl) ?_
    refine va_get (D := (dC, dI)) (ci := 17) (v := .ref (a 36)) (C := RX16) (T := TX16) (N := 56) hx hb hts hi_dm_X16_load_X16 hown hK hP 0 rfl rfl 0 (by decide) (hts (.fieldLink RX16 118 "TimeMachineModel$Machine" "programs" "LTimeMachineModel$Programs;") (List.mem_of_getElem? (i := 4) rfl)) (fun _ h9 => h9) rfl dX16_load_47 ?_
    refine va_getN (D := (dC, dI)) (ci := 18) (v := .ref (a 38)) (C := RX17) (T := TX17) (N := 5) hx hb hts hi_dm_X16_load_X17 hown hK hP 36 rfl rfl 1 (by decide) (va_Nw.use rfl (hN.1 ("TimeMachineModel$Machine", 177, "TimeMachineModel$Programs", "textSize", "[I", "TimeMachineModel") (by decide))) (fun _ h9 => h9) rfl dX16_load_50 ?_
    refine lv_iload_n hx hb dX16_load_53 rfl (lv_at hl 2 rfl) ?_
    obtain ⟨i6, h⟩ := nd_ck_e h
    refine va_iald (i := x2) hx hb hK hP 38 36 rfl rfl i6 dX16_load_54 ?_
    refine lv_topi (fun z7 ez7 => ?_)
    have h := nd_at h ez7
    refine lv_istore_n (lv' := [(3, .int z7), (0, .ref (a 0)), (1, .int x1), (2, .int x2)]) hx hb dX16_load_55 rfl hl (by decide) rfl (fun ls hl => ?_)
    refine lv_iconst (v := 0) hx hb dX16_load_56 (by decide) ?_
    refine lv_istore (lv' := [(4, .int 0), (3, .int z7), (0, .ref (a 0)), (1, .int x1), (2, .int x2)]) hx hb dX16_load_57 hl (by decide) rfl (fun ls hl => ?_)
    exact (db_X16_load_59 C K n) (x1) (x2) (z7) (0) s5 _ _ _ h hP hD hS (lv_sub hl [2, 3, 4, 1, 0] rfl)
  · have h := nd_neg h c1
    refine lv_aload_n hx hb dX16_load_8 rfl (lv_at hl 0 rfl) ?_
    refine va_get (D := (dC, dI)) (ci := 17) (v := .ref (a 11)) (C := RX16) (T := TX16) (N := 56) hx hb hts hi_dm_X16_load_X16 hown hK hP 0 rfl rfl 19 (by decide) (hts (.fieldLink RX16 42 "TimeMachineModel$Machine" "x" "[I") (List.mem_of_getElem? (i := 1) rfl)) (fun _ h9 => h9) rfl dX16_load_9 ?_
    refine lv_bipush (v := 32) hx hb dX16_load_12 (by decide) ?_
    refine lv_iload_n hx hb dX16_load_14 rfl (lv_at hl 1 rfl) ?_
    refine lv_imul hx hb dX16_load_15 ?_
    refine lv_iload_n hx hb dX16_load_16 rfl (lv_at hl 3 rfl) ?_
    refine lv_iadd hx hb dX16_load_17 ?_
    refine lv_iconst (v := 0) hx hb dX16_load_18 (by decide) ?_
    obtain ⟨i45, h⟩ := nd_ck_e h
    refine va_iast (i := ((32 * x1) + x3)) (x := 0) hx hb hK hP hD hS 11 10 rfl rfl i45 dX16_load_19 (fun H locs hP hD hS => ?_)
    obtain ⟨s46, es46, h⟩ := nd_let_e h
    have hP : va_P (dC, dI) vwCl (dw_X16 a ac s46) H := by rw [es46]; exact hP
    have hD : va_D A (dw_X16 a ac s46) := by rw [es46]; exact hD
    obtain ⟨z47, ez47, h⟩ := nd_let_e h
    refine lv_iinc (v := z47) (lv' := [(3, .int z47), (0, .ref (a 0)), (1, .int x1), (2, .int x2)]) hx hb dX16_load_20 hl (k := 3) rfl (by rw [ez47]) (by decide) rfl (fun ls hl => ?_)
    refine lv_goto (tgt := 2) hx hb dX16_load_23 (by decide) ?_
    exact (J2) (x1) (x2) (z47) s46 _ _ _ h hP hD hS (lv_sub hl [1, 2, 3, 0] rfl)
set_option maxHeartbeats 40000000 in
set_option maxRecDepth 100000 in
theorem db_X16_load_2 {p : Program} {l : Launch} {e : Env} {s : State} {m : MethodId} {args : Array Value} {below : List Frame} {meth : Method} {c : Code} {Q : State → Prop} {A : Nat → Prop} {dC : Nat → ClassId} {dI : Nat → Nat → Nat} {a : Nat → Nat} {ac : Nat → ClassId} {n : Nat} {r : St × (St)} (C : nd_C p l s m args c A (dC, dI) cX16_load 5 RX16 ow_dm_X16_load (dk_X16 ac)) (K : nd_Kv p l e (headSpec ow_dm_X16_load ({ frames := 2, cells := 0, slots := 0, locals := 46 })).room s m args below meth c Q A (dC, dI) cX16_load (St × (St)) (dw_X16 a ac) r) (k : Nat) : dj_X16_load_2 p l e s m args below meth c Q A dC dI a ac (df_X16_load_2 n k) r := by
  induction k with
  | zero => intro x1 x2 x3 s0 H locs ls h; exact nomatch (show (none : Option (St × (St))) = some r from h)
  | succ k ih => exact dB_X16_load_2 C K ih
set_option maxHeartbeats 40000000 in
set_option maxRecDepth 100000 in
theorem db_X16_load_0 {p : Program} {l : Launch} {e : Env} {s : State} {m : MethodId} {args : Array Value} {below : List Frame} {meth : Method} {c : Code} {Q : State → Prop} {A : Nat → Prop} {dC : Nat → ClassId} {dI : Nat → Nat → Nat} {a : Nat → Nat} {ac : Nat → ClassId} {n : Nat} {r : St × (St)} (C : nd_C p l s m args c A (dC, dI) cX16_load 5 RX16 ow_dm_X16_load (dk_X16 ac)) (K : nd_Kv p l e (headSpec ow_dm_X16_load ({ frames := 2, cells := 0, slots := 0, locals := 46 })).room s m args below meth c Q A (dC, dI) cX16_load (St × (St)) (dw_X16 a ac) r) : dj_X16_load_0 p l e s m args below meth c Q A dC dI a ac (df_X16_load_0 n) r := by
  obtain ⟨hlt, hx, hb, hml, hown, hts, hN, hA, hK⟩ := id C
  intro v0 v1 s0 H locs ls h hP hD hS hl
  unfold df_X16_load_0 at h
  refine lv_iconst (v := 0) hx hb dX16_load_0 (by decide) ?_
  refine lv_istore_n (lv' := [(3, .int 0), (0, .ref (a 0)), (1, .int v0), (2, .int v1)]) hx hb dX16_load_1 rfl hl (by decide) rfl (fun ls hl => ?_)
  exact (db_X16_load_2 C K n) (v0) (v1) (0) s0 _ _ _ h hP hD hS (lv_sub hl [1, 2, 3, 0] rfl)
set_option maxHeartbeats 40000000 in
set_option maxRecDepth 100000 in
theorem dm_X16_load (l : Launch) (hlt : l.stackTraces = false) (dC : Nat → ClassId) (dI : Nat → Nat → Nat) (a : Nat → Nat) (ac : Nat → ClassId) (n : Nat) (v0 : Int32) (v1 : Int32) (s0 : St × (St)) {r : St × (St)} (h : df_X16_load n v0 v1 s0 = some r) (sz : Nat) : Met l yX16_load ow_dm_X16_load ({ frames := 2, cells := 0, slots := 0, locals := 46 }) (va_Pc [.ref (a 0), .int v0, .int v1] (fun U => U.heap.size = sz ∧ va_P (dC, dI) vwCl (dw_X16 a ac s0) U.heap ∧ va_K (dC, dI) vwCl (dk_X16 ac) U ∧ va_D (fun _ => True) (dw_X16 a ac s0) ∧ nv_E (va_A (dw_X16 a ac s0) sz) U)) (va_Qv (fun _ => True) (fun (_ : Unit) t => va_P (dC, dI) vwCl (dw_X16 a ac r) t.heap ∧ va_K (dC, dI) vwCl (dk_X16 ac) t ∧ va_D (va_A (dw_X16 a ac s0) sz) (dw_X16 a ac r)) (va_A (dw_X16 a ac s0) sz)) 0 0 (va_A (dw_X16 a ac s0) sz) := by
  refine Met.ofW (cc := cX16_load) (maxL := 5) (ret := none) (by decide) rfl ?_
  intro p e s m args below meth c s₁ B hml hv
  obtain ⟨rfl, hsz, hP, hK, hD0, hN⟩ := hv
  have hx := B.exec
  have hb := B.bytes
  have hr := B.returns
  have hts := atoms_spec (ws := ow_dm_X16_load) B.pre
  have hown : s.vm.findClass RX16 = some m.cls := findClass_of_methodNamed B.named
  have hlocks := B.notSynchronized
  subst hsz
  have hD := hD0.self (sz := s.heap.size)
  generalize hAe : va_A (dw_X16 a ac s0) s.heap.size = A at hD hN ⊢
  have hA : ∀ q : Nat, s.heap.size ≤ q → A q := fun q h => by rw [← hAe]; exact Or.inr h
  have hl := lv_entry ([.ref (a 0), .int v0, .int v1]) (n := 5) (Nat.le_of_ble_eq_true rfl)
  rw [lg_entry_eq]
  generalize (lg_sl ([.ref (a 0), .int v0, .int v1]) ++ List.replicate (5 - (lg_sl ([.ref (a 0), .int v0, .int v1])).length) Slot.unset).toArray = ls at hl ⊢
  have hl : lv_has ls 5 [(0, .ref (a 0)), (1, .int v0), (2, .int v1)] := hl
  exact db_X16_load_0 (dC := dC) (dI := dI) (a := a) (ac := ac) (n := n) (r := r) ⟨hlt, hx, hb, hml, hown, hts, hN, hA, hK⟩ (fun pc τ H locs ls d er hP hD hS => by subst er; exact W.vret hx hb hr (fun t ht hW => ⟨⟨(), rfl, trivial, by rw [ht]; exact hP, va_K.moved hW.alike hK, hD⟩, hS.F ht⟩) hS.2.2 d) v0 v1 s0 _ _ _ h hP hD va_S.rf (lv_sub hl [0, 1, 2] rfl)
def ow_dm_X16_freeOpening : List Cond := .code yX16_freeOpening cX16_freeOpening 2 (some .int) :: ([.fieldLink RX16 73 "TimeMachineModel$Machine" "kind" "[I"] ++ (u_ws RX16 TX16 56 ++ []))
theorem gd_dm_X16_freeOpening : ∀ w ∈ ow_dm_X16_freeOpening, (w.onTables && w.keeps) = true ∨ ∃ ty, w = Cond.arrayClass ty := List.forall_mem_cons.mpr ⟨good_of_word rfl, List.forall_mem_append.mpr ⟨fun w h => good_of_word (List.all_eq_true.mp (by decide +kernel) w h), List.forall_mem_append.mpr ⟨gu_X16, fun _ h => nomatch h⟩⟩⟩
theorem hi_dm_X16_freeOpening_X16 : ∀ w ∈ u_ws RX16 TX16 56, w ∈ ow_dm_X16_freeOpening := fun w h => List.mem_cons_of_mem _ (List.mem_append_right _ (List.mem_append_left _ h))
def dj_X16_freeOpening_34 (p : Program) (l : Launch) (e : Env) (s : State) (m : MethodId) (args : Array Value) (below : List Frame) (meth : Method) (c : Code) (Q : State → Prop) (A : Nat → Prop) (dC : Nat → ClassId) (dI : Nat → Nat → Nat) (a : Nat → Nat) (ac : Nat → ClassId) (g : Int32 → (St × (St)) → Option (Int32 × (St × (St)))) (r : Int32 × (St × (St))) : Prop := ∀ (y0 : Int32) (s0 : St × (St)) (H : Heap) (locs : List Loc) (ls : Array Slot), g y0 s0 = some r → va_P (dC, dI) vwCl (dw_X16 a ac s0) H → va_D A (dw_X16 a ac s0) → va_S A s.heap H locs → lv_has ls 2 [] → W p l e (headSpec ow_dm_X16_freeOpening ({ frames := 0, cells := 0, slots := 0, locals := 0 })).room s m args below meth c H locs 0 0 Q (F0 m 34 ls [.int y0])
def dj_X16_freeOpening_23 (p : Program) (l : Launch) (e : Env) (s : State) (m : MethodId) (args : Array Value) (below : List Frame) (meth : Method) (c : Code) (Q : State → Prop) (A : Nat → Prop) (dC : Nat → ClassId) (dI : Nat → Nat → Nat) (a : Nat → Nat) (ac : Nat → ClassId) (g : Int32 → (St × (St)) → Option (Int32 × (St × (St)))) (r : Int32 × (St × (St))) : Prop := ∀ (x1 : Int32) (s0 : St × (St)) (H : Heap) (locs : List Loc) (ls : Array Slot), g x1 s0 = some r → va_P (dC, dI) vwCl (dw_X16 a ac s0) H → va_D A (dw_X16 a ac s0) → va_S A s.heap H locs → lv_has ls 2 [(1, .int x1)] → W p l e (headSpec ow_dm_X16_freeOpening ({ frames := 0, cells := 0, slots := 0, locals := 0 })).room s m args below meth c H locs 0 0 Q (F0 m 23 ls [])
def dj_X16_freeOpening_2 (p : Program) (l : Launch) (e : Env) (s : State) (m : MethodId) (args : Array Value) (below : List Frame) (meth : Method) (c : Code) (Q : State → Prop) (A : Nat → Prop) (dC : Nat → ClassId) (dI : Nat → Nat → Nat) (a : Nat → Nat) (ac : Nat → ClassId) (g : Int32 → (St × (St)) → Option (Int32 × (St × (St)))) (r : Int32 × (St × (St))) : Prop := ∀ (x1 : Int32) (s0 : St × (St)) (H : Heap) (locs : List Loc) (ls : Array Slot), g x1 s0 = some r → va_P (dC, dI) vwCl (dw_X16 a ac s0) H → va_D A (dw_X16 a ac s0) → va_S A s.heap H locs → lv_has ls 2 [(0, .ref (a 0)), (1, .int x1)] → W p l e (headSpec ow_dm_X16_freeOpening ({ frames := 0, cells := 0, slots := 0, locals := 0 })).room s m args below meth c H locs 0 0 Q (F0 m 2 ls [])
def dj_X16_freeOpening_0 (p : Program) (l : Launch) (e : Env) (s : State) (m : MethodId) (args : Array Value) (below : List Frame) (meth : Method) (c : Code) (Q : State → Prop) (A : Nat → Prop) (dC : Nat → ClassId) (dI : Nat → Nat → Nat) (a : Nat → Nat) (ac : Nat → ClassId) (g : (St × (St)) → Option (Int32 × (St × (St)))) (r : Int32 × (St × (St))) : Prop := ∀ (s0 : St × (St)) (H : Heap) (locs : List Loc) (ls : Array Slot), g s0 = some r → va_P (dC, dI) vwCl (dw_X16 a ac s0) H → va_D A (dw_X16 a ac s0) → va_S A s.heap H locs → lv_has ls 2 [(0, .ref (a 0))] → W p l e (headSpec ow_dm_X16_freeOpening ({ frames := 0, cells := 0, slots := 0, locals := 0 })).room s m args below meth c H locs 0 0 Q (F0 m 0 ls [])
set_option maxHeartbeats 40000000 in
set_option maxRecDepth 100000 in
theorem db_X16_freeOpening_34 {p : Program} {l : Launch} {e : Env} {s : State} {m : MethodId} {args : Array Value} {below : List Frame} {meth : Method} {c : Code} {Q : State → Prop} {A : Nat → Prop} {dC : Nat → ClassId} {dI : Nat → Nat → Nat} {a : Nat → Nat} {ac : Nat → ClassId} {n : Nat} {r : Int32 × (St × (St))} (C : nd_C p l s m args c A (dC, dI) cX16_freeOpening 2 RX16 ow_dm_X16_freeOpening (dk_X16 ac)) (K : nd_Ki p l e (headSpec ow_dm_X16_freeOpening ({ frames := 0, cells := 0, slots := 0, locals := 0 })).room s m args below meth c Q A (dC, dI) cX16_freeOpening .int (St × (St)) (dw_X16 a ac) r) : dj_X16_freeOpening_34 p l e s m args below meth c Q A dC dI a ac (df_X16_freeOpening_34 n) r := by
  obtain ⟨hlt, hx, hb, hml, hown, hts, hN, hA, hK⟩ := id C
  intro y0 s0 H locs ls h hP hD hS hl
  unfold df_X16_freeOpening_34 at h
  exact K _ _ _ _ _ _ dX16_freeOpening_34 rfl (Option.some.inj h).symm hP hD hS
set_option maxHeartbeats 40000000 in
set_option maxRecDepth 100000 in
theorem db_X16_freeOpening_23 {p : Program} {l : Launch} {e : Env} {s : State} {m : MethodId} {args : Array Value} {below : List Frame} {meth : Method} {c : Code} {Q : State → Prop} {A : Nat → Prop} {dC : Nat → ClassId} {dI : Nat → Nat → Nat} {a : Nat → Nat} {ac : Nat → ClassId} {n : Nat} {r : Int32 × (St × (St))} (C : nd_C p l s m args c A (dC, dI) cX16_freeOpening 2 RX16 ow_dm_X16_freeOpening (dk_X16 ac)) (K : nd_Ki p l e (headSpec ow_dm_X16_freeOpening ({ frames := 0, cells := 0, slots := 0, locals := 0 })).room s m args below meth c Q A (dC, dI) cX16_freeOpening .int (St × (St)) (dw_X16 a ac) r) : dj_X16_freeOpening_23 p l e s m args below meth c Q A dC dI a ac (df_X16_freeOpening_23 n) r := by
  obtain ⟨hlt, hx, hb, hml, hown, hts, hN, hA, hK⟩ := id C
  intro x1 s0 H locs ls h hP hD hS hl
  unfold df_X16_freeOpening_23 at h
  refine lv_iload_n hx hb dX16_freeOpening_23 rfl (lv_at hl 0 rfl) ?_
  refine lv_bipush (v := 48) hx hb dX16_freeOpening_24 (by decide) ?_
  refine lv_icmp_ge (tgt := 33) hx hb dX16_freeOpening_26 (by decide) (fun c2 => ?_) (fun c2 => ?_)
  · have h := nd_pos h c2
    refine lv_iconst (v := (-1)) hx hb dX16_freeOpening_33 (by decide) ?_
    exact (db_X16_freeOpening_34 C K) ((-1)) s0 _ _ _ h hP hD hS (lv_sub hl [] rfl)
  · have h := nd_neg h c2
    refine lv_iload_n hx hb dX16_freeOpening_29 rfl (lv_at hl 0 rfl) ?_
    refine lv_goto (tgt := 34) hx hb dX16_freeOpening_30 (by decide) ?_
    exact (db_X16_freeOpening_34 C K) (x1) s0 _ _ _ h hP hD hS (lv_sub hl [] rfl)
set_option maxHeartbeats 40000000 in
set_option maxRecDepth 100000 in
theorem dB_X16_freeOpening_2 {p : Program} {l : Launch} {e : Env} {s : State} {m : MethodId} {args : Array Value} {below : List Frame} {meth : Method} {c : Code} {Q : State → Prop} {A : Nat → Prop} {dC : Nat → ClassId} {dI : Nat → Nat → Nat} {a : Nat → Nat} {ac : Nat → ClassId} {n : Nat} {r : Int32 × (St × (St))} (C : nd_C p l s m args c A (dC, dI) cX16_freeOpening 2 RX16 ow_dm_X16_freeOpening (dk_X16 ac)) (K : nd_Ki p l e (headSpec ow_dm_X16_freeOpening ({ frames := 0, cells := 0, slots := 0, locals := 0 })).room s m args below meth c Q A (dC, dI) cX16_freeOpening .int (St × (St)) (dw_X16 a ac) r) {g2 : Int32 → (St × (St)) → Option (Int32 × (St × (St)))} (J2 : dj_X16_freeOpening_2 p l e s m args below meth c Q A dC dI a ac g2 r) : dj_X16_freeOpening_2 p l e s m args below meth c Q A dC dI a ac (dF_X16_freeOpening_2 n g2) r := by
  obtain ⟨hlt, hx, hb, hml, hown, hts, hN, hA, hK⟩ := id C
  intro x1 s0 H locs ls h hP hD hS hl
  unfold dF_X16_freeOpening_2 at h
  refine lv_iload_n hx hb dX16_freeOpening_2 rfl (lv_at hl 1 rfl) ?_
  refine lv_bipush (v := 48) hx hb dX16_freeOpening_3 (by decide) ?_
  refine lv_icmp_ge (tgt := 23) hx hb dX16_freeOpening_5 (by decide) (fun c1 => ?_) (fun c1 => ?_)
  · have h := nd_pos h c1
    exact (db_X16_freeOpening_23 C K) (x1) s0 _ _ _ h hP hD hS (lv_sub hl [1] rfl)
  · have h := nd_neg h c1
    refine lv_aload_n hx hb dX16_freeOpening_8 rfl (lv_at hl 0 rfl) ?_
    refine va_get (D := (dC, dI)) (ci := 17) (v := .ref (a 21)) (C := RX16) (T := TX16) (N := 56) hx hb hts hi_dm_X16_freeOpening_X16 hown hK hP 0 rfl rfl 30 (by decide) (hts (.fieldLink RX16 73 "TimeMachineModel$Machine" "kind" "[I") (List.mem_of_getElem? (i := 1) rfl)) (fun _ h9 => h9) rfl dX16_freeOpening_9 ?_
    refine lv_iload_n hx hb dX16_freeOpening_12 rfl (lv_at hl 1 rfl) ?_
    obtain ⟨i3, h⟩ := nd_ck_e h
    refine va_iald (i := x1) hx hb hK hP 21 20 rfl rfl i3 dX16_freeOpening_13 ?_
    refine lv_if_le (tgt := 23) hx hb dX16_freeOpening_14 (by decide) (fun c4 => ?_) (fun c4 => ?_)
    · have h := nd_pos h c4
      exact (db_X16_freeOpening_23 C K) (x1) s0 _ _ _ h hP hD hS (lv_sub hl [1] rfl)
    · have h := nd_neg h c4
      obtain ⟨z5, ez5, h⟩ := nd_let_e h
      refine lv_iinc (v := z5) (lv' := [(1, .int z5), (0, .ref (a 0))]) hx hb dX16_freeOpening_17 hl (k := 1) rfl (by rw [ez5]) (by decide) rfl (fun ls hl => ?_)
      refine lv_goto (tgt := 2) hx hb dX16_freeOpening_20 (by decide) ?_
      exact (J2) (z5) s0 _ _ _ h hP hD hS (lv_sub hl [1, 0] rfl)
set_option maxHeartbeats 40000000 in
set_option maxRecDepth 100000 in
theorem db_X16_freeOpening_2 {p : Program} {l : Launch} {e : Env} {s : State} {m : MethodId} {args : Array Value} {below : List Frame} {meth : Method} {c : Code} {Q : State → Prop} {A : Nat → Prop} {dC : Nat → ClassId} {dI : Nat → Nat → Nat} {a : Nat → Nat} {ac : Nat → ClassId} {n : Nat} {r : Int32 × (St × (St))} (C : nd_C p l s m args c A (dC, dI) cX16_freeOpening 2 RX16 ow_dm_X16_freeOpening (dk_X16 ac)) (K : nd_Ki p l e (headSpec ow_dm_X16_freeOpening ({ frames := 0, cells := 0, slots := 0, locals := 0 })).room s m args below meth c Q A (dC, dI) cX16_freeOpening .int (St × (St)) (dw_X16 a ac) r) (k : Nat) : dj_X16_freeOpening_2 p l e s m args below meth c Q A dC dI a ac (df_X16_freeOpening_2 n k) r := by
  induction k with
  | zero => intro x1 s0 H locs ls h; exact nomatch (show (none : Option (Int32 × (St × (St)))) = some r from h)
  | succ k ih => exact dB_X16_freeOpening_2 C K ih
set_option maxHeartbeats 40000000 in
set_option maxRecDepth 100000 in
theorem db_X16_freeOpening_0 {p : Program} {l : Launch} {e : Env} {s : State} {m : MethodId} {args : Array Value} {below : List Frame} {meth : Method} {c : Code} {Q : State → Prop} {A : Nat → Prop} {dC : Nat → ClassId} {dI : Nat → Nat → Nat} {a : Nat → Nat} {ac : Nat → ClassId} {n : Nat} {r : Int32 × (St × (St))} (C : nd_C p l s m args c A (dC, dI) cX16_freeOpening 2 RX16 ow_dm_X16_freeOpening (dk_X16 ac)) (K : nd_Ki p l e (headSpec ow_dm_X16_freeOpening ({ frames := 0, cells := 0, slots := 0, locals := 0 })).room s m args below meth c Q A (dC, dI) cX16_freeOpening .int (St × (St)) (dw_X16 a ac) r) : dj_X16_freeOpening_0 p l e s m args below meth c Q A dC dI a ac (df_X16_freeOpening_0 n) r := by
  obtain ⟨hlt, hx, hb, hml, hown, hts, hN, hA, hK⟩ := id C
  intro s0 H locs ls h hP hD hS hl
  unfold df_X16_freeOpening_0 at h
  refine lv_iconst (v := 0) hx hb dX16_freeOpening_0 (by decide) ?_
  refine lv_istore_n (lv' := [(1, .int 0), (0, .ref (a 0))]) hx hb dX16_freeOpening_1 rfl hl (by decide) rfl (fun ls hl => ?_)
  exact (db_X16_freeOpening_2 C K n) (0) s0 _ _ _ h hP hD hS (lv_sub hl [1, 0] rfl)
set_option maxHeartbeats 40000000 in
set_option maxRecDepth 100000 in
theorem dm_X16_freeOpening (l : Launch) (hlt : l.stackTraces = false) (dC : Nat → ClassId) (dI : Nat → Nat → Nat) (a : Nat → Nat) (ac : Nat → ClassId) (n : Nat) (s0 : St × (St)) {r : Int32 × (St × (St))} (h : df_X16_freeOpening n s0 = some r) (sz : Nat) : Met l yX16_freeOpening ow_dm_X16_freeOpening ({ frames := 0, cells := 0, slots := 0, locals := 0 }) (va_Pc [.ref (a 0)] (fun U => U.heap.size = sz ∧ va_P (dC, dI) vwCl (dw_X16 a ac s0) U.heap ∧ va_K (dC, dI) vwCl (dk_X16 ac) U ∧ va_D (fun _ => True) (dw_X16 a ac s0) ∧ nv_E (va_A (dw_X16 a ac s0) sz) U)) (va_Qi (fun x _ => x = r.1) (fun (_ : Unit) t => va_P (dC, dI) vwCl (dw_X16 a ac r.2) t.heap ∧ va_K (dC, dI) vwCl (dk_X16 ac) t ∧ va_D (va_A (dw_X16 a ac s0) sz) (dw_X16 a ac r.2)) (va_A (dw_X16 a ac s0) sz)) 0 0 (va_A (dw_X16 a ac s0) sz) := by
  refine Met.ofW (cc := cX16_freeOpening) (maxL := 2) (ret := (some .int)) (by decide) rfl ?_
  intro p e s m args below meth c s₁ B hml hv
  obtain ⟨rfl, hsz, hP, hK, hD0, hN⟩ := hv
  have hx := B.exec
  have hb := B.bytes
  have hr := B.returns
  have hts := atoms_spec (ws := ow_dm_X16_freeOpening) B.pre
  have hown : s.vm.findClass RX16 = some m.cls := findClass_of_methodNamed B.named
  have hlocks := B.notSynchronized
  subst hsz
  have hD := hD0.self (sz := s.heap.size)
  generalize hAe : va_A (dw_X16 a ac s0) s.heap.size = A at hD hN ⊢
  have hA : ∀ q : Nat, s.heap.size ≤ q → A q := fun q h => by rw [← hAe]; exact Or.inr h
  have hl := lv_entry ([.ref (a 0)]) (n := 2) (Nat.le_of_ble_eq_true rfl)
  rw [lg_entry_eq]
  generalize (lg_sl ([.ref (a 0)]) ++ List.replicate (2 - (lg_sl ([.ref (a 0)])).length) Slot.unset).toArray = ls at hl ⊢
  have hl : lv_has ls 2 [(0, .ref (a 0))] := hl
  exact db_X16_freeOpening_0 (dC := dC) (dI := dI) (a := a) (ac := ac) (n := n) (r := r) ⟨hlt, hx, hb, hml, hown, hts, hN, hA, hK⟩ (fun pc v τ H locs ls d z er hP hD hS => by subst er; exact W.zret (v := v) hx hb hr z (fun t ht hW => ⟨⟨v, (), rfl, rfl, by rw [ht]; exact hP, va_K.moved hW.alike hK, hD⟩, hS.F ht⟩) hS.2.2 d) s0 _ _ _ h hP hD va_S.rf (lv_sub hl [0] rfl)
def ow_dm_X16_opening : List Cond := .code yX16_opening cX16_opening 5 (some .int) :: ([.methodLink RX16 246 yX16_freeOpening, .instanceMethod yX16_freeOpening, .selects RX16 yX16_freeOpening yX16_freeOpening, .initialized RX16, .fieldLink RX16 73 "TimeMachineModel$Machine" "kind" "[I", .fieldLink RX16 76 "TimeMachineModel$Machine" "thing" "[I", .fieldLink RX16 79 "TimeMachineModel$Machine" "position" "[I", .fieldLink RX16 82 "TimeMachineModel$Machine" "right" "[I"] ++ (u_ws RX16 TX16 56 ++ (ow_dm_X16_freeOpening ++ [])))
theorem gd_dm_X16_opening : ∀ w ∈ ow_dm_X16_opening, (w.onTables && w.keeps) = true ∨ ∃ ty, w = Cond.arrayClass ty := List.forall_mem_cons.mpr ⟨good_of_word rfl, List.forall_mem_append.mpr ⟨fun w h => good_of_word (List.all_eq_true.mp (by decide +kernel) w h), List.forall_mem_append.mpr ⟨gu_X16, List.forall_mem_append.mpr ⟨gd_dm_X16_freeOpening, fun _ h => nomatch h⟩⟩⟩⟩
theorem hi_dm_X16_opening_X16 : ∀ w ∈ u_ws RX16 TX16 56, w ∈ ow_dm_X16_opening := fun w h => List.mem_cons_of_mem _ (List.mem_append_right _ (List.mem_append_left _ h))
theorem gi_dm_X16_opening_0 : GoodIn ow_dm_X16_opening (wsV RX16 246 RX16 yX16_freeOpening ow_dm_X16_freeOpening) := goodIn_app (goodIn_of _ (by decide +kernel)) (fun w h => ⟨List.mem_cons_of_mem _ (List.mem_append_right _ (List.mem_append_right _ (List.mem_append_left _ h))), gd_dm_X16_freeOpening w h⟩)
def dj_X16_opening_0 (p : Program) (l : Launch) (e : Env) (s : State) (m : MethodId) (args : Array Value) (below : List Frame) (meth : Method) (c : Code) (Q : State → Prop) (A : Nat → Prop) (dC : Nat → ClassId) (dI : Nat → Nat → Nat) (a : Nat → Nat) (ac : Nat → ClassId) (g : Int32 → Int32 → Int32 → (St × (St)) → Option (Int32 × (St × (St)))) (r : Int32 × (St × (St))) : Prop := ∀ (v0 : Int32) (v1 : Int32) (v2 : Int32) (s0 : St × (St)) (H : Heap) (locs : List Loc) (ls : Array Slot), g v0 v1 v2 s0 = some r → va_P (dC, dI) vwCl (dw_X16 a ac s0) H → va_D A (dw_X16 a ac s0) → va_S A s.heap H locs → lv_has ls 5 [(0, .ref (a 0)), (1, .int v0), (2, .int v1), (3, .int v2)] → W p l e (headSpec ow_dm_X16_opening ({ frames := 1, cells := 0, slots := 0, locals := 21 })).room s m args below meth c H locs 0 0 Q (F0 m 0 ls [])
set_option maxHeartbeats 40000000 in
set_option maxRecDepth 100000 in
theorem db_X16_opening_0 {p : Program} {l : Launch} {e : Env} {s : State} {m : MethodId} {args : Array Value} {below : List Frame} {meth : Method} {c : Code} {Q : State → Prop} {A : Nat → Prop} {dC : Nat → ClassId} {dI : Nat → Nat → Nat} {a : Nat → Nat} {ac : Nat → ClassId} {n : Nat} {r : Int32 × (St × (St))} (C : nd_C p l s m args c A (dC, dI) cX16_opening 5 RX16 ow_dm_X16_opening (dk_X16 ac)) (K : nd_Ki p l e (headSpec ow_dm_X16_opening ({ frames := 1, cells := 0, slots := 0, locals := 21 })).room s m args below meth c Q A (dC, dI) cX16_opening .int (St × (St)) (dw_X16 a ac) r) : dj_X16_opening_0 p l e s m args below meth c Q A dC dI a ac (df_X16_opening_0 n) r := by
  obtain ⟨hlt, hx, hb, hml, hown, hts, hN, hA, hK⟩ := id C
  intro v0 v1 v2 s0 H locs ls h hP hD hS hl
  unfold df_X16_opening_0 at h
  refine lv_aload_n hx hb dX16_opening_0 rfl (lv_at hl 0 rfl) ?_
  obtain ⟨q1, s2, hq, h⟩ := nd_b2_e h
  have hPc := hP
  have hDc := hD
  have hKc := hK
  have hFc := nd_rs hD hS hA
  refine nd_cVi (As := []) (rest := []) (q := q1) (w' := dw_X16 a ac s2) ⟨hx, hb, hml, hown, hts⟩ (fun sz => dm_X16_freeOpening l hlt dC dI a ac n  s0 hq sz) (cwV 0 hts gi_dm_X16_opening_0 rfl rfl rfl (by decide +kernel) ⟨Nat.le_of_ble_eq_true rfl, Nat.le_of_ble_eq_true rfl⟩) hPc hDc hKc hS hA hN (va_recv hKc hPc (ci := 17) (q0 := 0) rfl rfl) rfl hl.1 rfl (Nat.le_of_ble_eq_true rfl) dX16_opening_1 (fun H locs hP1 hD1 hk1 hS => ?_)
  have hP := hP1
  have hD := hD1.weaken (fun k q _ h => hFc q.1 h)
  refine lv_istore (lv' := [(4, .int q1), (0, .ref (a 0)), (1, .int v0), (2, .int v1), (3, .int v2)]) hx hb dX16_opening_4 hl (by decide) rfl (fun ls hl => ?_)
  refine lv_aload_n hx hb dX16_opening_6 rfl (lv_at hl 1 rfl) ?_
  refine va_get (D := (dC, dI)) (ci := 17) (v := .ref (a 21)) (C := RX16) (T := TX16) (N := 56) hx hb hts hi_dm_X16_opening_X16 hown hK hP 0 rfl rfl 30 (by decide) (hts (.fieldLink RX16 73 "TimeMachineModel$Machine" "kind" "[I") (List.mem_of_getElem? (i := 5) rfl)) (fun _ h9 => h9) rfl dX16_opening_7 ?_
  refine lv_iload hx hb dX16_opening_10 (lv_at hl 0 rfl) ?_
  refine lv_iload_n hx hb dX16_opening_12 rfl (lv_at hl 2 rfl) ?_
  obtain ⟨i4, h⟩ := nd_ck_e h
  refine va_iast (i := q1) (x := v0) hx hb hK hP hD hS 21 20 rfl rfl i4 dX16_opening_13 (fun H locs hP hD hS => ?_)
  obtain ⟨s5, es5, h⟩ := nd_let_e h
  have hP : va_P (dC, dI) vwCl (dw_X16 a ac s5) H := by rw [es5]; exact hP
  have hD : va_D A (dw_X16 a ac s5) := by rw [es5]; exact hD
  refine lv_aload_n hx hb dX16_opening_14 rfl (lv_at hl 1 rfl) ?_
  refine va_get (D := (dC, dI)) (ci := 17) (v := .ref (a 22)) (C := RX16) (T := TX16) (N := 56) hx hb hts hi_dm_X16_opening_X16 hown hK hP 0 rfl rfl 31 (by decide) (hts (.fieldLink RX16 76 "TimeMachineModel$Machine" "thing" "[I") (List.mem_of_getElem? (i := 6) rfl)) (fun _ h9 => h9) rfl dX16_opening_15 ?_
  refine lv_iload hx hb dX16_opening_18 (lv_at hl 0 rfl) ?_
  refine lv_iload_n hx hb dX16_opening_20 rfl (lv_at hl 3 rfl) ?_
  obtain ⟨i6, h⟩ := nd_ck_e h
  refine va_iast (i := q1) (x := v1) hx hb hK hP hD hS 22 21 rfl rfl i6 dX16_opening_21 (fun H locs hP hD hS => ?_)
  obtain ⟨s7, es7, h⟩ := nd_let_e h
  have hP : va_P (dC, dI) vwCl (dw_X16 a ac s7) H := by rw [es7]; exact hP
  have hD : va_D A (dw_X16 a ac s7) := by rw [es7]; exact hD
  refine lv_aload_n hx hb dX16_opening_22 rfl (lv_at hl 1 rfl) ?_
  refine va_get (D := (dC, dI)) (ci := 17) (v := .ref (a 23)) (C := RX16) (T := TX16) (N := 56) hx hb hts hi_dm_X16_opening_X16 hown hK hP 0 rfl rfl 32 (by decide) (hts (.fieldLink RX16 79 "TimeMachineModel$Machine" "position" "[I") (List.mem_of_getElem? (i := 7) rfl)) (fun _ h9 => h9) rfl dX16_opening_23 ?_
  refine lv_iload hx hb dX16_opening_26 (lv_at hl 0 rfl) ?_
  refine lv_iconst (v := 0) hx hb dX16_opening_28 (by decide) ?_
  obtain ⟨i8, h⟩ := nd_ck_e h
  refine va_iast (i := q1) (x := 0) hx hb hK hP hD hS 23 22 rfl rfl i8 dX16_opening_29 (fun H locs hP hD hS => ?_)
  obtain ⟨s9, es9, h⟩ := nd_let_e h
  have hP : va_P (dC, dI) vwCl (dw_X16 a ac s9) H := by rw [es9]; exact hP
  have hD : va_D A (dw_X16 a ac s9) := by rw [es9]; exact hD
  refine lv_aload_n hx hb dX16_opening_30 rfl (lv_at hl 1 rfl) ?_
  refine va_get (D := (dC, dI)) (ci := 17) (v := .ref (a 24)) (C := RX16) (T := TX16) (N := 56) hx hb hts hi_dm_X16_opening_X16 hown hK hP 0 rfl rfl 33 (by decide) (hts (.fieldLink RX16 82 "TimeMachineModel$Machine" "right" "[I") (List.mem_of_getElem? (i := 8) rfl)) (fun _ h9 => h9) rfl dX16_opening_31 ?_
  refine lv_iload hx hb dX16_opening_34 (lv_at hl 0 rfl) ?_
  refine lv_iload_n hx hb dX16_opening_36 rfl (lv_at hl 4 rfl) ?_
  obtain ⟨i10, h⟩ := nd_ck_e h
  refine va_iast (i := q1) (x := v2) hx hb hK hP hD hS 24 23 rfl rfl i10 dX16_opening_37 (fun H locs hP hD hS => ?_)
  obtain ⟨s11, es11, h⟩ := nd_let_e h
  have hP : va_P (dC, dI) vwCl (dw_X16 a ac s11) H := by rw [es11]; exact hP
  have hD : va_D A (dw_X16 a ac s11) := by rw [es11]; exact hD
  refine lv_iload hx hb dX16_opening_38 (lv_at hl 0 rfl) ?_
  exact K _ _ _ _ _ _ dX16_opening_40 rfl (Option.some.inj h).symm hP hD hS
set_option maxHeartbeats 40000000 in
set_option maxRecDepth 100000 in
theorem dm_X16_opening (l : Launch) (hlt : l.stackTraces = false) (dC : Nat → ClassId) (dI : Nat → Nat → Nat) (a : Nat → Nat) (ac : Nat → ClassId) (n : Nat) (v0 : Int32) (v1 : Int32) (v2 : Int32) (s0 : St × (St)) {r : Int32 × (St × (St))} (h : df_X16_opening n v0 v1 v2 s0 = some r) (sz : Nat) : Met l yX16_opening ow_dm_X16_opening ({ frames := 1, cells := 0, slots := 0, locals := 21 }) (va_Pc [.ref (a 0), .int v0, .int v1, .int v2] (fun U => U.heap.size = sz ∧ va_P (dC, dI) vwCl (dw_X16 a ac s0) U.heap ∧ va_K (dC, dI) vwCl (dk_X16 ac) U ∧ va_D (fun _ => True) (dw_X16 a ac s0) ∧ nv_E (va_A (dw_X16 a ac s0) sz) U)) (va_Qi (fun x _ => x = r.1) (fun (_ : Unit) t => va_P (dC, dI) vwCl (dw_X16 a ac r.2) t.heap ∧ va_K (dC, dI) vwCl (dk_X16 ac) t ∧ va_D (va_A (dw_X16 a ac s0) sz) (dw_X16 a ac r.2)) (va_A (dw_X16 a ac s0) sz)) 0 0 (va_A (dw_X16 a ac s0) sz) := by
  refine Met.ofW (cc := cX16_opening) (maxL := 5) (ret := (some .int)) (by decide) rfl ?_
  intro p e s m args below meth c s₁ B hml hv
  obtain ⟨rfl, hsz, hP, hK, hD0, hN⟩ := hv
  have hx := B.exec
  have hb := B.bytes
  have hr := B.returns
  have hts := atoms_spec (ws := ow_dm_X16_opening) B.pre
  have hown : s.vm.findClass RX16 = some m.cls := findClass_of_methodNamed B.named
  have hlocks := B.notSynchronized
  subst hsz
  have hD := hD0.self (sz := s.heap.size)
  generalize hAe : va_A (dw_X16 a ac s0) s.heap.size = A at hD hN ⊢
  have hA : ∀ q : Nat, s.heap.size ≤ q → A q := fun q h => by rw [← hAe]; exact Or.inr h
  have hl := lv_entry ([.ref (a 0), .int v0, .int v1, .int v2]) (n := 5) (Nat.le_of_ble_eq_true rfl)
  rw [lg_entry_eq]
  generalize (lg_sl ([.ref (a 0), .int v0, .int v1, .int v2]) ++ List.replicate (5 - (lg_sl ([.ref (a 0), .int v0, .int v1, .int v2])).length) Slot.unset).toArray = ls at hl ⊢
  have hl : lv_has ls 5 [(0, .ref (a 0)), (1, .int v0), (2, .int v1), (3, .int v2)] := hl
  exact db_X16_opening_0 (dC := dC) (dI := dI) (a := a) (ac := ac) (n := n) (r := r) ⟨hlt, hx, hb, hml, hown, hts, hN, hA, hK⟩ (fun pc v τ H locs ls d z er hP hD hS => by subst er; exact W.zret (v := v) hx hb hr z (fun t ht hW => ⟨⟨v, (), rfl, rfl, by rw [ht]; exact hP, va_K.moved hW.alike hK, hD⟩, hS.F ht⟩) hS.2.2 d) v0 v1 v2 s0 _ _ _ h hP hD va_S.rf (lv_sub hl [0, 1, 2, 3] rfl)
def ow_dm_X16_turn : List Cond := .code yX16_turn cX16_turn 3 none :: ([.fieldLink RX16 141 "TimeMachineModel$Machine" "current" "I", .fieldLink RX16 144 "TimeMachineModel$Machine" "last" "I", .fieldLink RX16 13 "TimeMachineModel$Machine" "state" "[I"] ++ (u_ws RX16 TX16 56 ++ []))
theorem gd_dm_X16_turn : ∀ w ∈ ow_dm_X16_turn, (w.onTables && w.keeps) = true ∨ ∃ ty, w = Cond.arrayClass ty := List.forall_mem_cons.mpr ⟨good_of_word rfl, List.forall_mem_append.mpr ⟨fun w h => good_of_word (List.all_eq_true.mp (by decide +kernel) w h), List.forall_mem_append.mpr ⟨gu_X16, fun _ h => nomatch h⟩⟩⟩
theorem hi_dm_X16_turn_X16 : ∀ w ∈ u_ws RX16 TX16 56, w ∈ ow_dm_X16_turn := fun w h => List.mem_cons_of_mem _ (List.mem_append_right _ (List.mem_append_left _ h))
def dj_X16_turn_76 (p : Program) (l : Launch) (e : Env) (s : State) (m : MethodId) (args : Array Value) (below : List Frame) (meth : Method) (c : Code) (Q : State → Prop) (A : Nat → Prop) (dC : Nat → ClassId) (dI : Nat → Nat → Nat) (a : Nat → Nat) (ac : Nat → ClassId) (g : Int32 → (St × (St)) → Option (St × (St))) (r : St × (St)) : Prop := ∀ (y1 : Int32) (s0 : St × (St)) (H : Heap) (locs : List Loc) (ls : Array Slot), g y1 s0 = some r → va_P (dC, dI) vwCl (dw_X16 a ac s0) H → va_D A (dw_X16 a ac s0) → va_S A s.heap H locs → lv_has ls 3 [] → W p l e (headSpec ow_dm_X16_turn ({ frames := 0, cells := 0, slots := 0, locals := 0 })).room s m args below meth c H locs 0 0 Q (F0 m 76 ls [.int y1, .ref (a 0)])
def dj_X16_turn_56 (p : Program) (l : Launch) (e : Env) (s : State) (m : MethodId) (args : Array Value) (below : List Frame) (meth : Method) (c : Code) (Q : State → Prop) (A : Nat → Prop) (dC : Nat → ClassId) (dI : Nat → Nat → Nat) (a : Nat → Nat) (ac : Nat → ClassId) (g : (St × (St)) → Option (St × (St))) (r : St × (St)) : Prop := ∀ (s0 : St × (St)) (H : Heap) (locs : List Loc) (ls : Array Slot), g s0 = some r → va_P (dC, dI) vwCl (dw_X16 a ac s0) H → va_D A (dw_X16 a ac s0) → va_S A s.heap H locs → lv_has ls 3 [(0, .ref (a 0))] → W p l e (headSpec ow_dm_X16_turn ({ frames := 0, cells := 0, slots := 0, locals := 0 })).room s m args below meth c H locs 0 0 Q (F0 m 56 ls [])
def dj_X16_turn_47 (p : Program) (l : Launch) (e : Env) (s : State) (m : MethodId) (args : Array Value) (below : List Frame) (meth : Method) (c : Code) (Q : State → Prop) (A : Nat → Prop) (dC : Nat → ClassId) (dI : Nat → Nat → Nat) (a : Nat → Nat) (ac : Nat → ClassId) (g : Int32 → Int32 → (St × (St)) → Option (St × (St))) (r : St × (St)) : Prop := ∀ (x1 : Int32) (y1 : Int32) (s0 : St × (St)) (H : Heap) (locs : List Loc) (ls : Array Slot), g x1 y1 s0 = some r → va_P (dC, dI) vwCl (dw_X16 a ac s0) H → va_D A (dw_X16 a ac s0) → va_S A s.heap H locs → lv_has ls 3 [(0, .ref (a 0)), (1, .int x1)] → W p l e (headSpec ow_dm_X16_turn ({ frames := 0, cells := 0, slots := 0, locals := 0 })).room s m args below meth c H locs 0 0 Q (F0 m 47 ls [.int y1, .ref (a 0)])
def dj_X16_turn_7 (p : Program) (l : Launch) (e : Env) (s : State) (m : MethodId) (args : Array Value) (below : List Frame) (meth : Method) (c : Code) (Q : State → Prop) (A : Nat → Prop) (dC : Nat → ClassId) (dI : Nat → Nat → Nat) (a : Nat → Nat) (ac : Nat → ClassId) (g : Int32 → (St × (St)) → Option (St × (St))) (r : St × (St)) : Prop := ∀ (x1 : Int32) (s0 : St × (St)) (H : Heap) (locs : List Loc) (ls : Array Slot), g x1 s0 = some r → va_P (dC, dI) vwCl (dw_X16 a ac s0) H → va_D A (dw_X16 a ac s0) → va_S A s.heap H locs → lv_has ls 3 [(0, .ref (a 0)), (1, .int x1)] → W p l e (headSpec ow_dm_X16_turn ({ frames := 0, cells := 0, slots := 0, locals := 0 })).room s m args below meth c H locs 0 0 Q (F0 m 7 ls [])
def dj_X16_turn_0 (p : Program) (l : Launch) (e : Env) (s : State) (m : MethodId) (args : Array Value) (below : List Frame) (meth : Method) (c : Code) (Q : State → Prop) (A : Nat → Prop) (dC : Nat → ClassId) (dI : Nat → Nat → Nat) (a : Nat → Nat) (ac : Nat → ClassId) (g : (St × (St)) → Option (St × (St))) (r : St × (St)) : Prop := ∀ (s0 : St × (St)) (H : Heap) (locs : List Loc) (ls : Array Slot), g s0 = some r → va_P (dC, dI) vwCl (dw_X16 a ac s0) H → va_D A (dw_X16 a ac s0) → va_S A s.heap H locs → lv_has ls 3 [(0, .ref (a 0))] → W p l e (headSpec ow_dm_X16_turn ({ frames := 0, cells := 0, slots := 0, locals := 0 })).room s m args below meth c H locs 0 0 Q (F0 m 0 ls [])
set_option maxHeartbeats 40000000 in
set_option maxRecDepth 100000 in
theorem db_X16_turn_76 {p : Program} {l : Launch} {e : Env} {s : State} {m : MethodId} {args : Array Value} {below : List Frame} {meth : Method} {c : Code} {Q : State → Prop} {A : Nat → Prop} {dC : Nat → ClassId} {dI : Nat → Nat → Nat} {a : Nat → Nat} {ac : Nat → ClassId} {n : Nat} {r : St × (St)} (C : nd_C p l s m args c A (dC, dI) cX16_turn 3 RX16 ow_dm_X16_turn (dk_X16 ac)) (K : nd_Kv p l e (headSpec ow_dm_X16_turn ({ frames := 0, cells := 0, slots := 0, locals := 0 })).room s m args below meth c Q A (dC, dI) cX16_turn (St × (St)) (dw_X16 a ac) r) : dj_X16_turn_76 p l e s m args below meth c Q A dC dI a ac (df_X16_turn_76 n) r := by
  obtain ⟨hlt, hx, hb, hml, hown, hts, hN, hA, hK⟩ := id C
  intro y1 s0 H locs ls h hP hD hS hl
  unfold df_X16_turn_76 at h
  refine va_put (D := (dC, dI)) (ci := 17) (v := .int y1) (ty := .int) (C := RX16) (T := TX16) (N := 56) hx hb hts hi_dm_X16_turn_X16 tyX16 tyX16_ok nmX16 hown hK hP hD hS 0 rfl rfl 3 (by decide) (hts (.fieldLink RX16 144 "TimeMachineModel$Machine" "last" "I") (List.mem_of_getElem? (i := 2) rfl)) (fun _ h9 => h9) rfl (by decide +kernel) rfl rfl (Nat.le_of_ble_eq_true rfl) dX16_turn_76 (fun H locs hP hD hS => ?_)
  obtain ⟨s4, es4, h⟩ := nd_let_e h
  have hP : va_P (dC, dI) vwCl (dw_X16 a ac s4) H := by rw [es4]; exact hP
  have hD : va_D A (dw_X16 a ac s4) := by rw [es4]; exact hD
  exact K _ _ _ _ _ dX16_turn_79 (Option.some.inj h).symm hP hD hS
set_option maxHeartbeats 40000000 in
set_option maxRecDepth 100000 in
theorem db_X16_turn_56 {p : Program} {l : Launch} {e : Env} {s : State} {m : MethodId} {args : Array Value} {below : List Frame} {meth : Method} {c : Code} {Q : State → Prop} {A : Nat → Prop} {dC : Nat → ClassId} {dI : Nat → Nat → Nat} {a : Nat → Nat} {ac : Nat → ClassId} {n : Nat} {r : St × (St)} (C : nd_C p l s m args c A (dC, dI) cX16_turn 3 RX16 ow_dm_X16_turn (dk_X16 ac)) (K : nd_Kv p l e (headSpec ow_dm_X16_turn ({ frames := 0, cells := 0, slots := 0, locals := 0 })).room s m args below meth c Q A (dC, dI) cX16_turn (St × (St)) (dw_X16 a ac) r) : dj_X16_turn_56 p l e s m args below meth c Q A dC dI a ac (df_X16_turn_56 n) r := by
  obtain ⟨hlt, hx, hb, hml, hown, hts, hN, hA, hK⟩ := id C
  intro s0 H locs ls h hP hD hS hl
  unfold df_X16_turn_56 at h
  refine lv_aload_n hx hb dX16_turn_56 rfl (lv_at hl 0 rfl) ?_
  refine lv_aload_n hx hb dX16_turn_57 rfl (lv_at hl 0 rfl) ?_
  refine va_get (D := (dC, dI)) (ci := 17) (v := .int (sI s0.1 1)) (C := RX16) (T := TX16) (N := 56) hx hb hts hi_dm_X16_turn_X16 hown hK hP 0 rfl rfl 2 (by decide) (hts (.fieldLink RX16 141 "TimeMachineModel$Machine" "current" "I") (List.mem_of_getElem? (i := 1) rfl)) (fun _ h9 => h9) rfl dX16_turn_58 ?_
  refine lv_iconst (v := (-1)) hx hb dX16_turn_61 (by decide) ?_
  refine lv_icmp_ne (tgt := 72) hx hb dX16_turn_62 (by decide) (fun c3 => ?_) (fun c3 => ?_)
  · have h := nd_neg h c3
    refine lv_aload_n hx hb dX16_turn_72 rfl (lv_at hl 0 rfl) ?_
    refine va_get (D := (dC, dI)) (ci := 17) (v := .int (sI s0.1 1)) (C := RX16) (T := TX16) (N := 56) hx hb hts hi_dm_X16_turn_X16 hown hK hP 0 rfl rfl 2 (by decide) (hts (.fieldLink RX16 141 "TimeMachineModel$Machine" "current" "I") (List.mem_of_getElem? (i := 1) rfl)) (fun _ h9 => h9) rfl dX16_turn_73 ?_
    exact (db_X16_turn_76 C K) ((sI s0.1 1)) s0 _ _ _ h hP hD hS (lv_sub hl [] rfl)
  · have h := nd_pos h c3
    refine lv_aload_n hx hb dX16_turn_65 rfl (lv_at hl 0 rfl) ?_
    refine va_get (D := (dC, dI)) (ci := 17) (v := .int (sI s0.1 2)) (C := RX16) (T := TX16) (N := 56) hx hb hts hi_dm_X16_turn_X16 hown hK hP 0 rfl rfl 3 (by decide) (hts (.fieldLink RX16 144 "TimeMachineModel$Machine" "last" "I") (List.mem_of_getElem? (i := 2) rfl)) (fun _ h9 => h9) rfl dX16_turn_66 ?_
    refine lv_goto (tgt := 76) hx hb dX16_turn_69 (by decide) ?_
    exact (db_X16_turn_76 C K) ((sI s0.1 2)) s0 _ _ _ h hP hD hS (lv_sub hl [] rfl)
set_option maxHeartbeats 40000000 in
set_option maxRecDepth 100000 in
theorem db_X16_turn_47 {p : Program} {l : Launch} {e : Env} {s : State} {m : MethodId} {args : Array Value} {below : List Frame} {meth : Method} {c : Code} {Q : State → Prop} {A : Nat → Prop} {dC : Nat → ClassId} {dI : Nat → Nat → Nat} {a : Nat → Nat} {ac : Nat → ClassId} {n : Nat} {r : St × (St)} (C : nd_C p l s m args c A (dC, dI) cX16_turn 3 RX16 ow_dm_X16_turn (dk_X16 ac)) (K : nd_Kv p l e (headSpec ow_dm_X16_turn ({ frames := 0, cells := 0, slots := 0, locals := 0 })).room s m args below meth c Q A (dC, dI) cX16_turn (St × (St)) (dw_X16 a ac) r) {g7 : Int32 → (St × (St)) → Option (St × (St))} (J7 : dj_X16_turn_7 p l e s m args below meth c Q A dC dI a ac g7 r) : dj_X16_turn_47 p l e s m args below meth c Q A dC dI a ac (df_X16_turn_47 n g7) r := by
  obtain ⟨hlt, hx, hb, hml, hown, hts, hN, hA, hK⟩ := id C
  intro x1 y1 s0 H locs ls h hP hD hS hl
  unfold df_X16_turn_47 at h
  refine va_put (D := (dC, dI)) (ci := 17) (v := .int y1) (ty := .int) (C := RX16) (T := TX16) (N := 56) hx hb hts hi_dm_X16_turn_X16 tyX16 tyX16_ok nmX16 hown hK hP hD hS 0 rfl rfl 2 (by decide) (hts (.fieldLink RX16 141 "TimeMachineModel$Machine" "current" "I") (List.mem_of_getElem? (i := 1) rfl)) (fun _ h9 => h9) rfl (by decide +kernel) rfl rfl (Nat.le_of_ble_eq_true rfl) dX16_turn_47 (fun H locs hP hD hS => ?_)
  obtain ⟨s9, es9, h⟩ := nd_let_e h
  have hP : va_P (dC, dI) vwCl (dw_X16 a ac s9) H := by rw [es9]; exact hP
  have hD : va_D A (dw_X16 a ac s9) := by rw [es9]; exact hD
  obtain ⟨z10, ez10, h⟩ := nd_let_e h
  refine lv_iinc (v := z10) (lv' := [(1, .int z10), (0, .ref (a 0))]) hx hb dX16_turn_50 hl (k := 1) rfl (by rw [ez10]) (by decide) rfl (fun ls hl => ?_)
  refine lv_goto (tgt := 7) hx hb dX16_turn_53 (by decide) ?_
  exact (J7) (z10) s9 _ _ _ h hP hD hS (lv_sub hl [1, 0] rfl)
set_option maxHeartbeats 40000000 in
set_option maxRecDepth 100000 in
theorem dB_X16_turn_7 {p : Program} {l : Launch} {e : Env} {s : State} {m : MethodId} {args : Array Value} {below : List Frame} {meth : Method} {c : Code} {Q : State → Prop} {A : Nat → Prop} {dC : Nat → ClassId} {dI : Nat → Nat → Nat} {a : Nat → Nat} {ac : Nat → ClassId} {n : Nat} {r : St × (St)} (C : nd_C p l s m args c A (dC, dI) cX16_turn 3 RX16 ow_dm_X16_turn (dk_X16 ac)) (K : nd_Kv p l e (headSpec ow_dm_X16_turn ({ frames := 0, cells := 0, slots := 0, locals := 0 })).room s m args below meth c Q A (dC, dI) cX16_turn (St × (St)) (dw_X16 a ac) r) {g7 : Int32 → (St × (St)) → Option (St × (St))} (J7 : dj_X16_turn_7 p l e s m args below meth c Q A dC dI a ac g7 r) : dj_X16_turn_7 p l e s m args below meth c Q A dC dI a ac (dF_X16_turn_7 n g7) r := by
  obtain ⟨hlt, hx, hb, hml, hown, hts, hN, hA, hK⟩ := id C
  intro x1 s0 H locs ls h hP hD hS hl
  unfold dF_X16_turn_7 at h
  refine lv_iload_n hx hb dX16_turn_7 rfl (lv_at hl 1 rfl) ?_
  refine lv_bipush (v := 16) hx hb dX16_turn_8 (by decide) ?_
  refine lv_icmp_gt (tgt := 56) hx hb dX16_turn_10 (by decide) (fun c2 => ?_) (fun c2 => ?_)
  · have h := nd_pos h c2
    exact (db_X16_turn_56 C K)  s0 _ _ _ h hP hD hS (lv_sub hl [0] rfl)
  · have h := nd_neg h c2
    refine lv_aload_n hx hb dX16_turn_13 rfl (lv_at hl 0 rfl) ?_
    refine va_get (D := (dC, dI)) (ci := 17) (v := .int (sI s0.1 1)) (C := RX16) (T := TX16) (N := 56) hx hb hts hi_dm_X16_turn_X16 hown hK hP 0 rfl rfl 2 (by decide) (hts (.fieldLink RX16 141 "TimeMachineModel$Machine" "current" "I") (List.mem_of_getElem? (i := 1) rfl)) (fun _ h9 => h9) rfl dX16_turn_14 ?_
    refine lv_iconst (v := (-1)) hx hb dX16_turn_17 (by decide) ?_
    refine lv_icmp_ne (tgt := 56) hx hb dX16_turn_18 (by decide) (fun c5 => ?_) (fun c5 => ?_)
    · have h := nd_neg h c5
      exact (db_X16_turn_56 C K)  s0 _ _ _ h hP hD hS (lv_sub hl [0] rfl)
    · have h := nd_pos h c5
      refine lv_aload_n hx hb dX16_turn_21 rfl (lv_at hl 0 rfl) ?_
      refine va_get (D := (dC, dI)) (ci := 17) (v := .int (sI s0.1 2)) (C := RX16) (T := TX16) (N := 56) hx hb hts hi_dm_X16_turn_X16 hown hK hP 0 rfl rfl 3 (by decide) (hts (.fieldLink RX16 144 "TimeMachineModel$Machine" "last" "I") (List.mem_of_getElem? (i := 2) rfl)) (fun _ h9 => h9) rfl dX16_turn_22 ?_
      refine lv_iload_n hx hb dX16_turn_25 rfl (lv_at hl 1 rfl) ?_
      refine lv_iadd hx hb dX16_turn_26 ?_
      refine lv_bipush (v := 16) hx hb dX16_turn_27 (by decide) ?_
      refine lv_irem hx hb dX16_turn_29 (by decide) ?_
      refine lv_topi (fun z6 ez6 => ?_)
      have h := nd_at h ez6
      refine lv_istore_n (lv' := [(2, .int z6), (0, .ref (a 0)), (1, .int x1)]) hx hb dX16_turn_30 rfl hl (by decide) rfl (fun ls hl => ?_)
      refine lv_aload_n hx hb dX16_turn_31 rfl (lv_at hl 1 rfl) ?_
      refine lv_aload_n hx hb dX16_turn_32 rfl (lv_at hl 1 rfl) ?_
      refine va_get (D := (dC, dI)) (ci := 17) (v := .ref (a 2)) (C := RX16) (T := TX16) (N := 56) hx hb hts hi_dm_X16_turn_X16 hown hK hP 0 rfl rfl 10 (by decide) (hts (.fieldLink RX16 13 "TimeMachineModel$Machine" "state" "[I") (List.mem_of_getElem? (i := 3) rfl)) (fun _ h9 => h9) rfl dX16_turn_33 ?_
      refine lv_iload_n hx hb dX16_turn_36 rfl (lv_at hl 0 rfl) ?_
      obtain ⟨i7, h⟩ := nd_ck_e h
      refine va_iald (i := z6) hx hb hK hP 2 1 rfl rfl i7 dX16_turn_37 ?_
      refine lv_iconst (v := 1) hx hb dX16_turn_38 (by decide) ?_
      refine lv_icmp_ne (tgt := 46) hx hb dX16_turn_39 (by decide) (fun c8 => ?_) (fun c8 => ?_)
      · have h := nd_neg h c8
        refine lv_iconst (v := (-1)) hx hb dX16_turn_46 (by decide) ?_
        exact (db_X16_turn_47 C K J7) (x1) ((-1)) s0 _ _ _ h hP hD hS (lv_sub hl [1, 2] rfl)
      · have h := nd_pos h c8
        refine lv_iload_n hx hb dX16_turn_42 rfl (lv_at hl 0 rfl) ?_
        refine lv_goto (tgt := 47) hx hb dX16_turn_43 (by decide) ?_
        exact (db_X16_turn_47 C K J7) (x1) (z6) s0 _ _ _ h hP hD hS (lv_sub hl [1, 2] rfl)
set_option maxHeartbeats 40000000 in
set_option maxRecDepth 100000 in
theorem db_X16_turn_7 {p : Program} {l : Launch} {e : Env} {s : State} {m : MethodId} {args : Array Value} {below : List Frame} {meth : Method} {c : Code} {Q : State → Prop} {A : Nat → Prop} {dC : Nat → ClassId} {dI : Nat → Nat → Nat} {a : Nat → Nat} {ac : Nat → ClassId} {n : Nat} {r : St × (St)} (C : nd_C p l s m args c A (dC, dI) cX16_turn 3 RX16 ow_dm_X16_turn (dk_X16 ac)) (K : nd_Kv p l e (headSpec ow_dm_X16_turn ({ frames := 0, cells := 0, slots := 0, locals := 0 })).room s m args below meth c Q A (dC, dI) cX16_turn (St × (St)) (dw_X16 a ac) r) (k : Nat) : dj_X16_turn_7 p l e s m args below meth c Q A dC dI a ac (df_X16_turn_7 n k) r := by
  induction k with
  | zero => intro x1 s0 H locs ls h; exact nomatch (show (none : Option (St × (St))) = some r from h)
  | succ k ih => exact dB_X16_turn_7 C K ih
set_option maxHeartbeats 40000000 in
set_option maxRecDepth 100000 in
theorem db_X16_turn_0 {p : Program} {l : Launch} {e : Env} {s : State} {m : MethodId} {args : Array Value} {below : List Frame} {meth : Method} {c : Code} {Q : State → Prop} {A : Nat → Prop} {dC : Nat → ClassId} {dI : Nat → Nat → Nat} {a : Nat → Nat} {ac : Nat → ClassId} {n : Nat} {r : St × (St)} (C : nd_C p l s m args c A (dC, dI) cX16_turn 3 RX16 ow_dm_X16_turn (dk_X16 ac)) (K : nd_Kv p l e (headSpec ow_dm_X16_turn ({ frames := 0, cells := 0, slots := 0, locals := 0 })).room s m args below meth c Q A (dC, dI) cX16_turn (St × (St)) (dw_X16 a ac) r) : dj_X16_turn_0 p l e s m args below meth c Q A dC dI a ac (df_X16_turn_0 n) r := by
  obtain ⟨hlt, hx, hb, hml, hown, hts, hN, hA, hK⟩ := id C
  intro s0 H locs ls h hP hD hS hl
  unfold df_X16_turn_0 at h
  refine lv_aload_n hx hb dX16_turn_0 rfl (lv_at hl 0 rfl) ?_
  refine lv_iconst (v := (-1)) hx hb dX16_turn_1 (by decide) ?_
  refine va_put (D := (dC, dI)) (ci := 17) (v := .int (-1)) (ty := .int) (C := RX16) (T := TX16) (N := 56) hx hb hts hi_dm_X16_turn_X16 tyX16 tyX16_ok nmX16 hown hK hP hD hS 0 rfl rfl 2 (by decide) (hts (.fieldLink RX16 141 "TimeMachineModel$Machine" "current" "I") (List.mem_of_getElem? (i := 1) rfl)) (fun _ h9 => h9) rfl (by decide +kernel) rfl rfl (Nat.le_of_ble_eq_true rfl) dX16_turn_2 (fun H locs hP hD hS => ?_)
  obtain ⟨s1, es1, h⟩ := nd_let_e h
  have hP : va_P (dC, dI) vwCl (dw_X16 a ac s1) H := by rw [es1]; exact hP
  have hD : va_D A (dw_X16 a ac s1) := by rw [es1]; exact hD
  refine lv_iconst (v := 1) hx hb dX16_turn_5 (by decide) ?_
  refine lv_istore_n (lv' := [(1, .int 1), (0, .ref (a 0))]) hx hb dX16_turn_6 rfl hl (by decide) rfl (fun ls hl => ?_)
  exact (db_X16_turn_7 C K n) (1) s1 _ _ _ h hP hD hS (lv_sub hl [1, 0] rfl)
set_option maxHeartbeats 40000000 in
set_option maxRecDepth 100000 in
theorem dm_X16_turn (l : Launch) (hlt : l.stackTraces = false) (dC : Nat → ClassId) (dI : Nat → Nat → Nat) (a : Nat → Nat) (ac : Nat → ClassId) (n : Nat) (s0 : St × (St)) {r : St × (St)} (h : df_X16_turn n s0 = some r) (sz : Nat) : Met l yX16_turn ow_dm_X16_turn ({ frames := 0, cells := 0, slots := 0, locals := 0 }) (va_Pc [.ref (a 0)] (fun U => U.heap.size = sz ∧ va_P (dC, dI) vwCl (dw_X16 a ac s0) U.heap ∧ va_K (dC, dI) vwCl (dk_X16 ac) U ∧ va_D (fun _ => True) (dw_X16 a ac s0) ∧ nv_E (va_A (dw_X16 a ac s0) sz) U)) (va_Qv (fun _ => True) (fun (_ : Unit) t => va_P (dC, dI) vwCl (dw_X16 a ac r) t.heap ∧ va_K (dC, dI) vwCl (dk_X16 ac) t ∧ va_D (va_A (dw_X16 a ac s0) sz) (dw_X16 a ac r)) (va_A (dw_X16 a ac s0) sz)) 0 0 (va_A (dw_X16 a ac s0) sz) := by
  refine Met.ofW (cc := cX16_turn) (maxL := 3) (ret := none) (by decide) rfl ?_
  intro p e s m args below meth c s₁ B hml hv
  obtain ⟨rfl, hsz, hP, hK, hD0, hN⟩ := hv
  have hx := B.exec
  have hb := B.bytes
  have hr := B.returns
  have hts := atoms_spec (ws := ow_dm_X16_turn) B.pre
  have hown : s.vm.findClass RX16 = some m.cls := findClass_of_methodNamed B.named
  have hlocks := B.notSynchronized
  subst hsz
  have hD := hD0.self (sz := s.heap.size)
  generalize hAe : va_A (dw_X16 a ac s0) s.heap.size = A at hD hN ⊢
  have hA : ∀ q : Nat, s.heap.size ≤ q → A q := fun q h => by rw [← hAe]; exact Or.inr h
  have hl := lv_entry ([.ref (a 0)]) (n := 3) (Nat.le_of_ble_eq_true rfl)
  rw [lg_entry_eq]
  generalize (lg_sl ([.ref (a 0)]) ++ List.replicate (3 - (lg_sl ([.ref (a 0)])).length) Slot.unset).toArray = ls at hl ⊢
  have hl : lv_has ls 3 [(0, .ref (a 0))] := hl
  exact db_X16_turn_0 (dC := dC) (dI := dI) (a := a) (ac := ac) (n := n) (r := r) ⟨hlt, hx, hb, hml, hown, hts, hN, hA, hK⟩ (fun pc τ H locs ls d er hP hD hS => by subst er; exact W.vret hx hb hr (fun t ht hW => ⟨⟨(), rfl, trivial, by rw [ht]; exact hP, va_K.moved hW.alike hK, hD⟩, hS.F ht⟩) hS.2.2 d) s0 _ _ _ h hP hD va_S.rf (lv_sub hl [0] rfl)
def ow_dm_X16_child : List Cond := .code yX16_child cX16_child 4 (some .int) :: ([.fieldLink RX16 13 "TimeMachineModel$Machine" "state" "[I", .fieldLink RX16 16 "TimeMachineModel$Machine" "parent" "[I"] ++ (u_ws RX16 TX16 56 ++ []))
theorem gd_dm_X16_child : ∀ w ∈ ow_dm_X16_child, (w.onTables && w.keeps) = true ∨ ∃ ty, w = Cond.arrayClass ty := List.forall_mem_cons.mpr ⟨good_of_word rfl, List.forall_mem_append.mpr ⟨fun w h => good_of_word (List.all_eq_true.mp (by decide +kernel) w h), List.forall_mem_append.mpr ⟨gu_X16, fun _ h => nomatch h⟩⟩⟩
theorem hi_dm_X16_child_X16 : ∀ w ∈ u_ws RX16 TX16 56, w ∈ ow_dm_X16_child := fun w h => List.mem_cons_of_mem _ (List.mem_append_right _ (List.mem_append_left _ h))
def dj_X16_child_58 (p : Program) (l : Launch) (e : Env) (s : State) (m : MethodId) (args : Array Value) (below : List Frame) (meth : Method) (c : Code) (Q : State → Prop) (A : Nat → Prop) (dC : Nat → ClassId) (dI : Nat → Nat → Nat) (a : Nat → Nat) (ac : Nat → ClassId) (g : Int32 → (St × (St)) → Option (Int32 × (St × (St)))) (r : Int32 × (St × (St))) : Prop := ∀ (y0 : Int32) (s0 : St × (St)) (H : Heap) (locs : List Loc) (ls : Array Slot), g y0 s0 = some r → va_P (dC, dI) vwCl (dw_X16 a ac s0) H → va_D A (dw_X16 a ac s0) → va_S A s.heap H locs → lv_has ls 4 [] → W p l e (headSpec ow_dm_X16_child ({ frames := 0, cells := 0, slots := 0, locals := 0 })).room s m args below meth c H locs 0 0 Q (F0 m 58 ls [.int y0])
def dj_X16_child_47 (p : Program) (l : Launch) (e : Env) (s : State) (m : MethodId) (args : Array Value) (below : List Frame) (meth : Method) (c : Code) (Q : State → Prop) (A : Nat → Prop) (dC : Nat → ClassId) (dI : Nat → Nat → Nat) (a : Nat → Nat) (ac : Nat → ClassId) (g : Int32 → (St × (St)) → Option (Int32 × (St × (St)))) (r : Int32 × (St × (St))) : Prop := ∀ (x3 : Int32) (s0 : St × (St)) (H : Heap) (locs : List Loc) (ls : Array Slot), g x3 s0 = some r → va_P (dC, dI) vwCl (dw_X16 a ac s0) H → va_D A (dw_X16 a ac s0) → va_S A s.heap H locs → lv_has ls 4 [(3, .int x3)] → W p l e (headSpec ow_dm_X16_child ({ frames := 0, cells := 0, slots := 0, locals := 0 })).room s m args below meth c H locs 0 0 Q (F0 m 47 ls [])
def dj_X16_child_41 (p : Program) (l : Launch) (e : Env) (s : State) (m : MethodId) (args : Array Value) (below : List Frame) (meth : Method) (c : Code) (Q : State → Prop) (A : Nat → Prop) (dC : Nat → ClassId) (dI : Nat → Nat → Nat) (a : Nat → Nat) (ac : Nat → ClassId) (g : Int32 → Int32 → Int32 → (St × (St)) → Option (Int32 × (St × (St)))) (r : Int32 × (St × (St))) : Prop := ∀ (x1 : Int32) (x2 : Int32) (x3 : Int32) (s0 : St × (St)) (H : Heap) (locs : List Loc) (ls : Array Slot), g x1 x2 x3 s0 = some r → va_P (dC, dI) vwCl (dw_X16 a ac s0) H → va_D A (dw_X16 a ac s0) → va_S A s.heap H locs → lv_has ls 4 [(0, .ref (a 0)), (1, .int x1), (2, .int x2), (3, .int x3)] → W p l e (headSpec ow_dm_X16_child ({ frames := 0, cells := 0, slots := 0, locals := 0 })).room s m args below meth c H locs 0 0 Q (F0 m 41 ls [])
def dj_X16_child_2 (p : Program) (l : Launch) (e : Env) (s : State) (m : MethodId) (args : Array Value) (below : List Frame) (meth : Method) (c : Code) (Q : State → Prop) (A : Nat → Prop) (dC : Nat → ClassId) (dI : Nat → Nat → Nat) (a : Nat → Nat) (ac : Nat → ClassId) (g : Int32 → Int32 → Int32 → (St × (St)) → Option (Int32 × (St × (St)))) (r : Int32 × (St × (St))) : Prop := ∀ (x1 : Int32) (x2 : Int32) (x3 : Int32) (s0 : St × (St)) (H : Heap) (locs : List Loc) (ls : Array Slot), g x1 x2 x3 s0 = some r → va_P (dC, dI) vwCl (dw_X16 a ac s0) H → va_D A (dw_X16 a ac s0) → va_S A s.heap H locs → lv_has ls 4 [(0, .ref (a 0)), (1, .int x1), (2, .int x2), (3, .int x3)] → W p l e (headSpec ow_dm_X16_child ({ frames := 0, cells := 0, slots := 0, locals := 0 })).room s m args below meth c H locs 0 0 Q (F0 m 2 ls [])
def dj_X16_child_0 (p : Program) (l : Launch) (e : Env) (s : State) (m : MethodId) (args : Array Value) (below : List Frame) (meth : Method) (c : Code) (Q : State → Prop) (A : Nat → Prop) (dC : Nat → ClassId) (dI : Nat → Nat → Nat) (a : Nat → Nat) (ac : Nat → ClassId) (g : Int32 → Int32 → (St × (St)) → Option (Int32 × (St × (St)))) (r : Int32 × (St × (St))) : Prop := ∀ (v0 : Int32) (v1 : Int32) (s0 : St × (St)) (H : Heap) (locs : List Loc) (ls : Array Slot), g v0 v1 s0 = some r → va_P (dC, dI) vwCl (dw_X16 a ac s0) H → va_D A (dw_X16 a ac s0) → va_S A s.heap H locs → lv_has ls 4 [(0, .ref (a 0)), (1, .int v0), (2, .int v1)] → W p l e (headSpec ow_dm_X16_child ({ frames := 0, cells := 0, slots := 0, locals := 0 })).room s m args below meth c H locs 0 0 Q (F0 m 0 ls [])
set_option maxHeartbeats 40000000 in
set_option maxRecDepth 100000 in
theorem db_X16_child_58 {p : Program} {l : Launch} {e : Env} {s : State} {m : MethodId} {args : Array Value} {below : List Frame} {meth : Method} {c : Code} {Q : State → Prop} {A : Nat → Prop} {dC : Nat → ClassId} {dI : Nat → Nat → Nat} {a : Nat → Nat} {ac : Nat → ClassId} {n : Nat} {r : Int32 × (St × (St))} (C : nd_C p l s m args c A (dC, dI) cX16_child 4 RX16 ow_dm_X16_child (dk_X16 ac)) (K : nd_Ki p l e (headSpec ow_dm_X16_child ({ frames := 0, cells := 0, slots := 0, locals := 0 })).room s m args below meth c Q A (dC, dI) cX16_child .int (St × (St)) (dw_X16 a ac) r) : dj_X16_child_58 p l e s m args below meth c Q A dC dI a ac (df_X16_child_58 n) r := by
  obtain ⟨hlt, hx, hb, hml, hown, hts, hN, hA, hK⟩ := id C
  intro y0 s0 H locs ls h hP hD hS hl
  unfold df_X16_child_58 at h
  exact K _ _ _ _ _ _ dX16_child_58 rfl (Option.some.inj h).symm hP hD hS
set_option maxHeartbeats 40000000 in
set_option maxRecDepth 100000 in
theorem db_X16_child_47 {p : Program} {l : Launch} {e : Env} {s : State} {m : MethodId} {args : Array Value} {below : List Frame} {meth : Method} {c : Code} {Q : State → Prop} {A : Nat → Prop} {dC : Nat → ClassId} {dI : Nat → Nat → Nat} {a : Nat → Nat} {ac : Nat → ClassId} {n : Nat} {r : Int32 × (St × (St))} (C : nd_C p l s m args c A (dC, dI) cX16_child 4 RX16 ow_dm_X16_child (dk_X16 ac)) (K : nd_Ki p l e (headSpec ow_dm_X16_child ({ frames := 0, cells := 0, slots := 0, locals := 0 })).room s m args below meth c Q A (dC, dI) cX16_child .int (St × (St)) (dw_X16 a ac) r) : dj_X16_child_47 p l e s m args below meth c Q A dC dI a ac (df_X16_child_47 n) r := by
  obtain ⟨hlt, hx, hb, hml, hown, hts, hN, hA, hK⟩ := id C
  intro x3 s0 H locs ls h hP hD hS hl
  unfold df_X16_child_47 at h
  refine lv_iload_n hx hb dX16_child_47 rfl (lv_at hl 0 rfl) ?_
  refine lv_bipush (v := 16) hx hb dX16_child_48 (by decide) ?_
  refine lv_icmp_ge (tgt := 57) hx hb dX16_child_50 (by decide) (fun c2 => ?_) (fun c2 => ?_)
  · have h := nd_pos h c2
    refine lv_iconst (v := (-1)) hx hb dX16_child_57 (by decide) ?_
    exact (db_X16_child_58 C K) ((-1)) s0 _ _ _ h hP hD hS (lv_sub hl [] rfl)
  · have h := nd_neg h c2
    refine lv_iload_n hx hb dX16_child_53 rfl (lv_at hl 0 rfl) ?_
    refine lv_goto (tgt := 58) hx hb dX16_child_54 (by decide) ?_
    exact (db_X16_child_58 C K) (x3) s0 _ _ _ h hP hD hS (lv_sub hl [] rfl)
set_option maxHeartbeats 40000000 in
set_option maxRecDepth 100000 in
theorem db_X16_child_41 {p : Program} {l : Launch} {e : Env} {s : State} {m : MethodId} {args : Array Value} {below : List Frame} {meth : Method} {c : Code} {Q : State → Prop} {A : Nat → Prop} {dC : Nat → ClassId} {dI : Nat → Nat → Nat} {a : Nat → Nat} {ac : Nat → ClassId} {n : Nat} {r : Int32 × (St × (St))} (C : nd_C p l s m args c A (dC, dI) cX16_child 4 RX16 ow_dm_X16_child (dk_X16 ac)) (K : nd_Ki p l e (headSpec ow_dm_X16_child ({ frames := 0, cells := 0, slots := 0, locals := 0 })).room s m args below meth c Q A (dC, dI) cX16_child .int (St × (St)) (dw_X16 a ac) r) {g2 : Int32 → Int32 → Int32 → (St × (St)) → Option (Int32 × (St × (St)))} (J2 : dj_X16_child_2 p l e s m args below meth c Q A dC dI a ac g2 r) : dj_X16_child_41 p l e s m args below meth c Q A dC dI a ac (df_X16_child_41 n g2) r := by
  obtain ⟨hlt, hx, hb, hml, hown, hts, hN, hA, hK⟩ := id C
  intro x1 x2 x3 s0 H locs ls h hP hD hS hl
  unfold df_X16_child_41 at h
  obtain ⟨z5, ez5, h⟩ := nd_let_e h
  refine lv_iinc (v := z5) (lv' := [(3, .int z5), (0, .ref (a 0)), (1, .int x1), (2, .int x2)]) hx hb dX16_child_41 hl (k := 3) rfl (by rw [ez5]) (by decide) rfl (fun ls hl => ?_)
  refine lv_goto (tgt := 2) hx hb dX16_child_44 (by decide) ?_
  exact (J2) (x1) (x2) (z5) s0 _ _ _ h hP hD hS (lv_sub hl [1, 2, 3, 0] rfl)
set_option maxHeartbeats 40000000 in
set_option maxRecDepth 100000 in
theorem dB_X16_child_2 {p : Program} {l : Launch} {e : Env} {s : State} {m : MethodId} {args : Array Value} {below : List Frame} {meth : Method} {c : Code} {Q : State → Prop} {A : Nat → Prop} {dC : Nat → ClassId} {dI : Nat → Nat → Nat} {a : Nat → Nat} {ac : Nat → ClassId} {n : Nat} {r : Int32 × (St × (St))} (C : nd_C p l s m args c A (dC, dI) cX16_child 4 RX16 ow_dm_X16_child (dk_X16 ac)) (K : nd_Ki p l e (headSpec ow_dm_X16_child ({ frames := 0, cells := 0, slots := 0, locals := 0 })).room s m args below meth c Q A (dC, dI) cX16_child .int (St × (St)) (dw_X16 a ac) r) {g2 : Int32 → Int32 → Int32 → (St × (St)) → Option (Int32 × (St × (St)))} (J2 : dj_X16_child_2 p l e s m args below meth c Q A dC dI a ac g2 r) : dj_X16_child_2 p l e s m args below meth c Q A dC dI a ac (dF_X16_child_2 n g2) r := by
  obtain ⟨hlt, hx, hb, hml, hown, hts, hN, hA, hK⟩ := id C
  intro x1 x2 x3 s0 H locs ls h hP hD hS hl
  unfold dF_X16_child_2 at h
  refine lv_iload_n hx hb dX16_child_2 rfl (lv_at hl 3 rfl) ?_
  refine lv_bipush (v := 16) hx hb dX16_child_3 (by decide) ?_
  refine lv_icmp_ge (tgt := 47) hx hb dX16_child_5 (by decide) (fun c1 => ?_) (fun c1 => ?_)
  · have h := nd_pos h c1
    exact (db_X16_child_47 C K) (x3) s0 _ _ _ h hP hD hS (lv_sub hl [3] rfl)
  · have h := nd_neg h c1
    refine lv_aload_n hx hb dX16_child_8 rfl (lv_at hl 0 rfl) ?_
    refine va_get (D := (dC, dI)) (ci := 17) (v := .ref (a 2)) (C := RX16) (T := TX16) (N := 56) hx hb hts hi_dm_X16_child_X16 hown hK hP 0 rfl rfl 10 (by decide) (hts (.fieldLink RX16 13 "TimeMachineModel$Machine" "state" "[I") (List.mem_of_getElem? (i := 1) rfl)) (fun _ h9 => h9) rfl dX16_child_9 ?_
    refine lv_iload_n hx hb dX16_child_12 rfl (lv_at hl 3 rfl) ?_
    obtain ⟨i3, h⟩ := nd_ck_e h
    refine va_iald (i := x3) hx hb hK hP 2 1 rfl rfl i3 dX16_child_13 ?_
    refine lv_if_eq (tgt := 41) hx hb dX16_child_14 (by decide) (fun c4 => ?_) (fun c4 => ?_)
    · have h := nd_pos h c4
      exact (db_X16_child_41 C K J2) (x1) (x2) (x3) s0 _ _ _ h hP hD hS (lv_sub hl [0, 1, 2, 3] rfl)
    · have h := nd_neg h c4
      refine lv_aload_n hx hb dX16_child_17 rfl (lv_at hl 0 rfl) ?_
      refine va_get (D := (dC, dI)) (ci := 17) (v := .ref (a 3)) (C := RX16) (T := TX16) (N := 56) hx hb hts hi_dm_X16_child_X16 hown hK hP 0 rfl rfl 11 (by decide) (hts (.fieldLink RX16 16 "TimeMachineModel$Machine" "parent" "[I") (List.mem_of_getElem? (i := 2) rfl)) (fun _ h9 => h9) rfl dX16_child_18 ?_
      refine lv_iload_n hx hb dX16_child_21 rfl (lv_at hl 3 rfl) ?_
      obtain ⟨i6, h⟩ := nd_ck_e h
      refine va_iald (i := x3) hx hb hK hP 3 2 rfl rfl i6 dX16_child_22 ?_
      refine lv_iload_n hx hb dX16_child_23 rfl (lv_at hl 1 rfl) ?_
      refine lv_icmp_ne (tgt := 41) hx hb dX16_child_24 (by decide) (fun c7 => ?_) (fun c7 => ?_)
      · have h := nd_neg h c7
        exact (db_X16_child_41 C K J2) (x1) (x2) (x3) s0 _ _ _ h hP hD hS (lv_sub hl [0, 1, 2, 3] rfl)
      · have h := nd_pos h c7
        refine lv_iload_n hx hb dX16_child_27 rfl (lv_at hl 2 rfl) ?_
        refine lv_if_eq (tgt := 47) hx hb dX16_child_28 (by decide) (fun c8 => ?_) (fun c8 => ?_)
        · have h := nd_pos h c8
          exact (db_X16_child_47 C K) (x3) s0 _ _ _ h hP hD hS (lv_sub hl [3] rfl)
        · have h := nd_neg h c8
          refine lv_aload_n hx hb dX16_child_31 rfl (lv_at hl 0 rfl) ?_
          refine va_get (D := (dC, dI)) (ci := 17) (v := .ref (a 2)) (C := RX16) (T := TX16) (N := 56) hx hb hts hi_dm_X16_child_X16 hown hK hP 0 rfl rfl 10 (by decide) (hts (.fieldLink RX16 13 "TimeMachineModel$Machine" "state" "[I") (List.mem_of_getElem? (i := 1) rfl)) (fun _ h9 => h9) rfl dX16_child_32 ?_
          refine lv_iload_n hx hb dX16_child_35 rfl (lv_at hl 3 rfl) ?_
          obtain ⟨i9, h⟩ := nd_ck_e h
          refine va_iald (i := x3) hx hb hK hP 2 1 rfl rfl i9 dX16_child_36 ?_
          refine lv_iconst (v := 3) hx hb dX16_child_37 (by decide) ?_
          refine lv_icmp_eq (tgt := 47) hx hb dX16_child_38 (by decide) (fun c10 => ?_) (fun c10 => ?_)
          · have h := nd_pos h c10
            exact (db_X16_child_47 C K) (x3) s0 _ _ _ h hP hD hS (lv_sub hl [3] rfl)
          · have h := nd_neg h c10
            exact (db_X16_child_41 C K J2) (x1) (x2) (x3) s0 _ _ _ h hP hD hS (lv_sub hl [0, 1, 2, 3] rfl)
set_option maxHeartbeats 40000000 in
set_option maxRecDepth 100000 in
theorem db_X16_child_2 {p : Program} {l : Launch} {e : Env} {s : State} {m : MethodId} {args : Array Value} {below : List Frame} {meth : Method} {c : Code} {Q : State → Prop} {A : Nat → Prop} {dC : Nat → ClassId} {dI : Nat → Nat → Nat} {a : Nat → Nat} {ac : Nat → ClassId} {n : Nat} {r : Int32 × (St × (St))} (C : nd_C p l s m args c A (dC, dI) cX16_child 4 RX16 ow_dm_X16_child (dk_X16 ac)) (K : nd_Ki p l e (headSpec ow_dm_X16_child ({ frames := 0, cells := 0, slots := 0, locals := 0 })).room s m args below meth c Q A (dC, dI) cX16_child .int (St × (St)) (dw_X16 a ac) r) (k : Nat) : dj_X16_child_2 p l e s m args below meth c Q A dC dI a ac (df_X16_child_2 n k) r := by
  induction k with
  | zero => intro x1 x2 x3 s0 H locs ls h; exact nomatch (show (none : Option (Int32 × (St × (St)))) = some r from h)
  | succ k ih => exact dB_X16_child_2 C K ih
set_option maxHeartbeats 40000000 in
set_option maxRecDepth 100000 in
theorem db_X16_child_0 {p : Program} {l : Launch} {e : Env} {s : State} {m : MethodId} {args : Array Value} {below : List Frame} {meth : Method} {c : Code} {Q : State → Prop} {A : Nat → Prop} {dC : Nat → ClassId} {dI : Nat → Nat → Nat} {a : Nat → Nat} {ac : Nat → ClassId} {n : Nat} {r : Int32 × (St × (St))} (C : nd_C p l s m args c A (dC, dI) cX16_child 4 RX16 ow_dm_X16_child (dk_X16 ac)) (K : nd_Ki p l e (headSpec ow_dm_X16_child ({ frames := 0, cells := 0, slots := 0, locals := 0 })).room s m args below meth c Q A (dC, dI) cX16_child .int (St × (St)) (dw_X16 a ac) r) : dj_X16_child_0 p l e s m args below meth c Q A dC dI a ac (df_X16_child_0 n) r := by
  obtain ⟨hlt, hx, hb, hml, hown, hts, hN, hA, hK⟩ := id C
  intro v0 v1 s0 H locs ls h hP hD hS hl
  unfold df_X16_child_0 at h
  refine lv_iconst (v := 0) hx hb dX16_child_0 (by decide) ?_
  refine lv_istore_n (lv' := [(3, .int 0), (0, .ref (a 0)), (1, .int v0), (2, .int v1)]) hx hb dX16_child_1 rfl hl (by decide) rfl (fun ls hl => ?_)
  exact (db_X16_child_2 C K n) (v0) (v1) (0) s0 _ _ _ h hP hD hS (lv_sub hl [1, 2, 3, 0] rfl)
set_option maxHeartbeats 40000000 in
set_option maxRecDepth 100000 in
theorem dm_X16_child (l : Launch) (hlt : l.stackTraces = false) (dC : Nat → ClassId) (dI : Nat → Nat → Nat) (a : Nat → Nat) (ac : Nat → ClassId) (n : Nat) (v0 : Int32) (v1 : Int32) (s0 : St × (St)) {r : Int32 × (St × (St))} (h : df_X16_child n v0 v1 s0 = some r) (sz : Nat) : Met l yX16_child ow_dm_X16_child ({ frames := 0, cells := 0, slots := 0, locals := 0 }) (va_Pc [.ref (a 0), .int v0, .int v1] (fun U => U.heap.size = sz ∧ va_P (dC, dI) vwCl (dw_X16 a ac s0) U.heap ∧ va_K (dC, dI) vwCl (dk_X16 ac) U ∧ va_D (fun _ => True) (dw_X16 a ac s0) ∧ nv_E (va_A (dw_X16 a ac s0) sz) U)) (va_Qi (fun x _ => x = r.1) (fun (_ : Unit) t => va_P (dC, dI) vwCl (dw_X16 a ac r.2) t.heap ∧ va_K (dC, dI) vwCl (dk_X16 ac) t ∧ va_D (va_A (dw_X16 a ac s0) sz) (dw_X16 a ac r.2)) (va_A (dw_X16 a ac s0) sz)) 0 0 (va_A (dw_X16 a ac s0) sz) := by
  refine Met.ofW (cc := cX16_child) (maxL := 4) (ret := (some .int)) (by decide) rfl ?_
  intro p e s m args below meth c s₁ B hml hv
  obtain ⟨rfl, hsz, hP, hK, hD0, hN⟩ := hv
  have hx := B.exec
  have hb := B.bytes
  have hr := B.returns
  have hts := atoms_spec (ws := ow_dm_X16_child) B.pre
  have hown : s.vm.findClass RX16 = some m.cls := findClass_of_methodNamed B.named
  have hlocks := B.notSynchronized
  subst hsz
  have hD := hD0.self (sz := s.heap.size)
  generalize hAe : va_A (dw_X16 a ac s0) s.heap.size = A at hD hN ⊢
  have hA : ∀ q : Nat, s.heap.size ≤ q → A q := fun q h => by rw [← hAe]; exact Or.inr h
  have hl := lv_entry ([.ref (a 0), .int v0, .int v1]) (n := 4) (Nat.le_of_ble_eq_true rfl)
  rw [lg_entry_eq]
  generalize (lg_sl ([.ref (a 0), .int v0, .int v1]) ++ List.replicate (4 - (lg_sl ([.ref (a 0), .int v0, .int v1])).length) Slot.unset).toArray = ls at hl ⊢
  have hl : lv_has ls 4 [(0, .ref (a 0)), (1, .int v0), (2, .int v1)] := hl
  exact db_X16_child_0 (dC := dC) (dI := dI) (a := a) (ac := ac) (n := n) (r := r) ⟨hlt, hx, hb, hml, hown, hts, hN, hA, hK⟩ (fun pc v τ H locs ls d z er hP hD hS => by subst er; exact W.zret (v := v) hx hb hr z (fun t ht hW => ⟨⟨v, (), rfl, rfl, by rw [ht]; exact hP, va_K.moved hW.alike hK, hD⟩, hS.F ht⟩) hS.2.2 d) v0 v1 s0 _ _ _ h hP hD va_S.rf (lv_sub hl [0, 1, 2] rfl)
def ow_dm_X16_ends : List Cond := .code yX16_ends cX16_ends 5 (some .int) :: ([.fieldLink RX16 73 "TimeMachineModel$Machine" "kind" "[I", .fieldLink RX16 76 "TimeMachineModel$Machine" "thing" "[I"] ++ (u_ws RX16 TX16 56 ++ []))
theorem gd_dm_X16_ends : ∀ w ∈ ow_dm_X16_ends, (w.onTables && w.keeps) = true ∨ ∃ ty, w = Cond.arrayClass ty := List.forall_mem_cons.mpr ⟨good_of_word rfl, List.forall_mem_append.mpr ⟨fun w h => good_of_word (List.all_eq_true.mp (by decide +kernel) w h), List.forall_mem_append.mpr ⟨gu_X16, fun _ h => nomatch h⟩⟩⟩
theorem hi_dm_X16_ends_X16 : ∀ w ∈ u_ws RX16 TX16 56, w ∈ ow_dm_X16_ends := fun w h => List.mem_cons_of_mem _ (List.mem_append_right _ (List.mem_append_left _ h))
def dj_X16_ends_41 (p : Program) (l : Launch) (e : Env) (s : State) (m : MethodId) (args : Array Value) (below : List Frame) (meth : Method) (c : Code) (Q : State → Prop) (A : Nat → Prop) (dC : Nat → ClassId) (dI : Nat → Nat → Nat) (a : Nat → Nat) (ac : Nat → ClassId) (g : Int32 → Int32 → Int32 → Int32 → (St × (St)) → Option (Int32 × (St × (St)))) (r : Int32 × (St × (St))) : Prop := ∀ (x1 : Int32) (x2 : Int32) (x4 : Int32) (y0 : Int32) (s0 : St × (St)) (H : Heap) (locs : List Loc) (ls : Array Slot), g x1 x2 x4 y0 s0 = some r → va_P (dC, dI) vwCl (dw_X16 a ac s0) H → va_D A (dw_X16 a ac s0) → va_S A s.heap H locs → lv_has ls 5 [(0, .ref (a 0)), (1, .int x1), (2, .int x2), (4, .int x4)] → W p l e (headSpec ow_dm_X16_ends ({ frames := 0, cells := 0, slots := 0, locals := 0 })).room s m args below meth c H locs 0 0 Q (F0 m 41 ls [.int y0])
def dj_X16_ends_40 (p : Program) (l : Launch) (e : Env) (s : State) (m : MethodId) (args : Array Value) (below : List Frame) (meth : Method) (c : Code) (Q : State → Prop) (A : Nat → Prop) (dC : Nat → ClassId) (dI : Nat → Nat → Nat) (a : Nat → Nat) (ac : Nat → ClassId) (g : Int32 → Int32 → Int32 → Int32 → (St × (St)) → Option (Int32 × (St × (St)))) (r : Int32 × (St × (St))) : Prop := ∀ (x1 : Int32) (x2 : Int32) (x3 : Int32) (x4 : Int32) (s0 : St × (St)) (H : Heap) (locs : List Loc) (ls : Array Slot), g x1 x2 x3 x4 s0 = some r → va_P (dC, dI) vwCl (dw_X16 a ac s0) H → va_D A (dw_X16 a ac s0) → va_S A s.heap H locs → lv_has ls 5 [(0, .ref (a 0)), (1, .int x1), (2, .int x2), (3, .int x3), (4, .int x4)] → W p l e (headSpec ow_dm_X16_ends ({ frames := 0, cells := 0, slots := 0, locals := 0 })).room s m args below meth c H locs 0 0 Q (F0 m 40 ls [])
def dj_X16_ends_5 (p : Program) (l : Launch) (e : Env) (s : State) (m : MethodId) (args : Array Value) (below : List Frame) (meth : Method) (c : Code) (Q : State → Prop) (A : Nat → Prop) (dC : Nat → ClassId) (dI : Nat → Nat → Nat) (a : Nat → Nat) (ac : Nat → ClassId) (g : Int32 → Int32 → Int32 → Int32 → (St × (St)) → Option (Int32 × (St × (St)))) (r : Int32 × (St × (St))) : Prop := ∀ (x1 : Int32) (x2 : Int32) (x3 : Int32) (x4 : Int32) (s0 : St × (St)) (H : Heap) (locs : List Loc) (ls : Array Slot), g x1 x2 x3 x4 s0 = some r → va_P (dC, dI) vwCl (dw_X16 a ac s0) H → va_D A (dw_X16 a ac s0) → va_S A s.heap H locs → lv_has ls 5 [(0, .ref (a 0)), (1, .int x1), (2, .int x2), (3, .int x3), (4, .int x4)] → W p l e (headSpec ow_dm_X16_ends ({ frames := 0, cells := 0, slots := 0, locals := 0 })).room s m args below meth c H locs 0 0 Q (F0 m 5 ls [])
def dj_X16_ends_0 (p : Program) (l : Launch) (e : Env) (s : State) (m : MethodId) (args : Array Value) (below : List Frame) (meth : Method) (c : Code) (Q : State → Prop) (A : Nat → Prop) (dC : Nat → ClassId) (dI : Nat → Nat → Nat) (a : Nat → Nat) (ac : Nat → ClassId) (g : Int32 → Int32 → (St × (St)) → Option (Int32 × (St × (St)))) (r : Int32 × (St × (St))) : Prop := ∀ (v0 : Int32) (v1 : Int32) (s0 : St × (St)) (H : Heap) (locs : List Loc) (ls : Array Slot), g v0 v1 s0 = some r → va_P (dC, dI) vwCl (dw_X16 a ac s0) H → va_D A (dw_X16 a ac s0) → va_S A s.heap H locs → lv_has ls 5 [(0, .ref (a 0)), (1, .int v0), (2, .int v1)] → W p l e (headSpec ow_dm_X16_ends ({ frames := 0, cells := 0, slots := 0, locals := 0 })).room s m args below meth c H locs 0 0 Q (F0 m 0 ls [])
set_option maxHeartbeats 40000000 in
set_option maxRecDepth 100000 in
theorem db_X16_ends_41 {p : Program} {l : Launch} {e : Env} {s : State} {m : MethodId} {args : Array Value} {below : List Frame} {meth : Method} {c : Code} {Q : State → Prop} {A : Nat → Prop} {dC : Nat → ClassId} {dI : Nat → Nat → Nat} {a : Nat → Nat} {ac : Nat → ClassId} {n : Nat} {r : Int32 × (St × (St))} (C : nd_C p l s m args c A (dC, dI) cX16_ends 5 RX16 ow_dm_X16_ends (dk_X16 ac)) (K : nd_Ki p l e (headSpec ow_dm_X16_ends ({ frames := 0, cells := 0, slots := 0, locals := 0 })).room s m args below meth c Q A (dC, dI) cX16_ends .int (St × (St)) (dw_X16 a ac) r) {g5 : Int32 → Int32 → Int32 → Int32 → (St × (St)) → Option (Int32 × (St × (St)))} (J5 : dj_X16_ends_5 p l e s m args below meth c Q A dC dI a ac g5 r) : dj_X16_ends_41 p l e s m args below meth c Q A dC dI a ac (df_X16_ends_41 n g5) r := by
  obtain ⟨hlt, hx, hb, hml, hown, hts, hN, hA, hK⟩ := id C
  intro x1 x2 x4 y0 s0 H locs ls h hP hD hS hl
  unfold df_X16_ends_41 at h
  refine lv_istore_n (lv' := [(3, .int y0), (0, .ref (a 0)), (1, .int x1), (2, .int x2), (4, .int x4)]) hx hb dX16_ends_41 rfl hl (by decide) rfl (fun ls hl => ?_)
  obtain ⟨z4, ez4, h⟩ := nd_let_e h
  refine lv_iinc (v := z4) (lv' := [(4, .int z4), (3, .int y0), (0, .ref (a 0)), (1, .int x1), (2, .int x2)]) hx hb dX16_ends_42 hl (k := 4) rfl (by rw [ez4]) (by decide) rfl (fun ls hl => ?_)
  refine lv_goto (tgt := 5) hx hb dX16_ends_45 (by decide) ?_
  exact (J5) (x1) (x2) (y0) (z4) s0 _ _ _ h hP hD hS (lv_sub hl [2, 3, 4, 1, 0] rfl)
set_option maxHeartbeats 40000000 in
set_option maxRecDepth 100000 in
theorem db_X16_ends_40 {p : Program} {l : Launch} {e : Env} {s : State} {m : MethodId} {args : Array Value} {below : List Frame} {meth : Method} {c : Code} {Q : State → Prop} {A : Nat → Prop} {dC : Nat → ClassId} {dI : Nat → Nat → Nat} {a : Nat → Nat} {ac : Nat → ClassId} {n : Nat} {r : Int32 × (St × (St))} (C : nd_C p l s m args c A (dC, dI) cX16_ends 5 RX16 ow_dm_X16_ends (dk_X16 ac)) (K : nd_Ki p l e (headSpec ow_dm_X16_ends ({ frames := 0, cells := 0, slots := 0, locals := 0 })).room s m args below meth c Q A (dC, dI) cX16_ends .int (St × (St)) (dw_X16 a ac) r) {g5 : Int32 → Int32 → Int32 → Int32 → (St × (St)) → Option (Int32 × (St × (St)))} (J5 : dj_X16_ends_5 p l e s m args below meth c Q A dC dI a ac g5 r) : dj_X16_ends_40 p l e s m args below meth c Q A dC dI a ac (df_X16_ends_40 n g5) r := by
  obtain ⟨hlt, hx, hb, hml, hown, hts, hN, hA, hK⟩ := id C
  intro x1 x2 x3 x4 s0 H locs ls h hP hD hS hl
  unfold df_X16_ends_40 at h
  refine lv_iload_n hx hb dX16_ends_40 rfl (lv_at hl 3 rfl) ?_
  exact (db_X16_ends_41 C K J5) (x1) (x2) (x4) (x3) s0 _ _ _ h hP hD hS (lv_sub hl [0, 1, 2, 4] rfl)
set_option maxHeartbeats 40000000 in
set_option maxRecDepth 100000 in
theorem dB_X16_ends_5 {p : Program} {l : Launch} {e : Env} {s : State} {m : MethodId} {args : Array Value} {below : List Frame} {meth : Method} {c : Code} {Q : State → Prop} {A : Nat → Prop} {dC : Nat → ClassId} {dI : Nat → Nat → Nat} {a : Nat → Nat} {ac : Nat → ClassId} {n : Nat} {r : Int32 × (St × (St))} (C : nd_C p l s m args c A (dC, dI) cX16_ends 5 RX16 ow_dm_X16_ends (dk_X16 ac)) (K : nd_Ki p l e (headSpec ow_dm_X16_ends ({ frames := 0, cells := 0, slots := 0, locals := 0 })).room s m args below meth c Q A (dC, dI) cX16_ends .int (St × (St)) (dw_X16 a ac) r) {g5 : Int32 → Int32 → Int32 → Int32 → (St × (St)) → Option (Int32 × (St × (St)))} (J5 : dj_X16_ends_5 p l e s m args below meth c Q A dC dI a ac g5 r) : dj_X16_ends_5 p l e s m args below meth c Q A dC dI a ac (dF_X16_ends_5 n g5) r := by
  obtain ⟨hlt, hx, hb, hml, hown, hts, hN, hA, hK⟩ := id C
  intro x1 x2 x3 x4 s0 H locs ls h hP hD hS hl
  unfold dF_X16_ends_5 at h
  refine lv_iload hx hb dX16_ends_5 (lv_at hl 4 rfl) ?_
  refine lv_bipush (v := 48) hx hb dX16_ends_7 (by decide) ?_
  refine lv_icmp_ge (tgt := 48) hx hb dX16_ends_9 (by decide) (fun c1 => ?_) (fun c1 => ?_)
  · have h := nd_pos h c1
    refine lv_iload_n hx hb dX16_ends_48 rfl (lv_at hl 3 rfl) ?_
    exact K _ _ _ _ _ _ dX16_ends_49 rfl (Option.some.inj h).symm hP hD hS
  · have h := nd_neg h c1
    refine lv_aload_n hx hb dX16_ends_12 rfl (lv_at hl 0 rfl) ?_
    refine va_get (D := (dC, dI)) (ci := 17) (v := .ref (a 21)) (C := RX16) (T := TX16) (N := 56) hx hb hts hi_dm_X16_ends_X16 hown hK hP 0 rfl rfl 30 (by decide) (hts (.fieldLink RX16 73 "TimeMachineModel$Machine" "kind" "[I") (List.mem_of_getElem? (i := 1) rfl)) (fun _ h9 => h9) rfl dX16_ends_13 ?_
    refine lv_iload hx hb dX16_ends_16 (lv_at hl 4 rfl) ?_
    obtain ⟨i2, h⟩ := nd_ck_e h
    refine va_iald (i := x4) hx hb hK hP 21 20 rfl rfl i2 dX16_ends_18 ?_
    refine lv_iload_n hx hb dX16_ends_19 rfl (lv_at hl 1 rfl) ?_
    refine lv_icmp_ne (tgt := 40) hx hb dX16_ends_20 (by decide) (fun c3 => ?_) (fun c3 => ?_)
    · have h := nd_neg h c3
      exact (db_X16_ends_40 C K J5) (x1) (x2) (x3) (x4) s0 _ _ _ h hP hD hS (lv_sub hl [0, 1, 2, 3, 4] rfl)
    · have h := nd_pos h c3
      refine lv_aload_n hx hb dX16_ends_23 rfl (lv_at hl 0 rfl) ?_
      refine va_get (D := (dC, dI)) (ci := 17) (v := .ref (a 22)) (C := RX16) (T := TX16) (N := 56) hx hb hts hi_dm_X16_ends_X16 hown hK hP 0 rfl rfl 31 (by decide) (hts (.fieldLink RX16 76 "TimeMachineModel$Machine" "thing" "[I") (List.mem_of_getElem? (i := 2) rfl)) (fun _ h9 => h9) rfl dX16_ends_24 ?_
      refine lv_iload hx hb dX16_ends_27 (lv_at hl 4 rfl) ?_
      obtain ⟨i5, h⟩ := nd_ck_e h
      refine va_iald (i := x4) hx hb hK hP 22 21 rfl rfl i5 dX16_ends_29 ?_
      refine lv_iload_n hx hb dX16_ends_30 rfl (lv_at hl 2 rfl) ?_
      refine lv_icmp_ne (tgt := 40) hx hb dX16_ends_31 (by decide) (fun c6 => ?_) (fun c6 => ?_)
      · have h := nd_neg h c6
        exact (db_X16_ends_40 C K J5) (x1) (x2) (x3) (x4) s0 _ _ _ h hP hD hS (lv_sub hl [0, 1, 2, 3, 4] rfl)
      · have h := nd_pos h c6
        refine lv_iload_n hx hb dX16_ends_34 rfl (lv_at hl 3 rfl) ?_
        refine lv_iconst (v := 1) hx hb dX16_ends_35 (by decide) ?_
        refine lv_iadd hx hb dX16_ends_36 ?_
        refine lv_goto (tgt := 41) hx hb dX16_ends_37 (by decide) ?_
        exact (db_X16_ends_41 C K J5) (x1) (x2) (x4) ((x3 + 1)) s0 _ _ _ h hP hD hS (lv_sub hl [0, 1, 2, 4] rfl)
set_option maxHeartbeats 40000000 in
set_option maxRecDepth 100000 in
theorem db_X16_ends_5 {p : Program} {l : Launch} {e : Env} {s : State} {m : MethodId} {args : Array Value} {below : List Frame} {meth : Method} {c : Code} {Q : State → Prop} {A : Nat → Prop} {dC : Nat → ClassId} {dI : Nat → Nat → Nat} {a : Nat → Nat} {ac : Nat → ClassId} {n : Nat} {r : Int32 × (St × (St))} (C : nd_C p l s m args c A (dC, dI) cX16_ends 5 RX16 ow_dm_X16_ends (dk_X16 ac)) (K : nd_Ki p l e (headSpec ow_dm_X16_ends ({ frames := 0, cells := 0, slots := 0, locals := 0 })).room s m args below meth c Q A (dC, dI) cX16_ends .int (St × (St)) (dw_X16 a ac) r) (k : Nat) : dj_X16_ends_5 p l e s m args below meth c Q A dC dI a ac (df_X16_ends_5 n k) r := by
  induction k with
  | zero => intro x1 x2 x3 x4 s0 H locs ls h; exact nomatch (show (none : Option (Int32 × (St × (St)))) = some r from h)
  | succ k ih => exact dB_X16_ends_5 C K ih
set_option maxHeartbeats 40000000 in
set_option maxRecDepth 100000 in
theorem db_X16_ends_0 {p : Program} {l : Launch} {e : Env} {s : State} {m : MethodId} {args : Array Value} {below : List Frame} {meth : Method} {c : Code} {Q : State → Prop} {A : Nat → Prop} {dC : Nat → ClassId} {dI : Nat → Nat → Nat} {a : Nat → Nat} {ac : Nat → ClassId} {n : Nat} {r : Int32 × (St × (St))} (C : nd_C p l s m args c A (dC, dI) cX16_ends 5 RX16 ow_dm_X16_ends (dk_X16 ac)) (K : nd_Ki p l e (headSpec ow_dm_X16_ends ({ frames := 0, cells := 0, slots := 0, locals := 0 })).room s m args below meth c Q A (dC, dI) cX16_ends .int (St × (St)) (dw_X16 a ac) r) : dj_X16_ends_0 p l e s m args below meth c Q A dC dI a ac (df_X16_ends_0 n) r := by
  obtain ⟨hlt, hx, hb, hml, hown, hts, hN, hA, hK⟩ := id C
  intro v0 v1 s0 H locs ls h hP hD hS hl
  unfold df_X16_ends_0 at h
  refine lv_iconst (v := 0) hx hb dX16_ends_0 (by decide) ?_
  refine lv_istore_n (lv' := [(3, .int 0), (0, .ref (a 0)), (1, .int v0), (2, .int v1)]) hx hb dX16_ends_1 rfl hl (by decide) rfl (fun ls hl => ?_)
  refine lv_iconst (v := 0) hx hb dX16_ends_2 (by decide) ?_
  refine lv_istore (lv' := [(4, .int 0), (3, .int 0), (0, .ref (a 0)), (1, .int v0), (2, .int v1)]) hx hb dX16_ends_3 hl (by decide) rfl (fun ls hl => ?_)
  exact (db_X16_ends_5 C K n) (v0) (v1) (0) (0) s0 _ _ _ h hP hD hS (lv_sub hl [2, 3, 4, 1, 0] rfl)
set_option maxHeartbeats 40000000 in
set_option maxRecDepth 100000 in
theorem dm_X16_ends (l : Launch) (hlt : l.stackTraces = false) (dC : Nat → ClassId) (dI : Nat → Nat → Nat) (a : Nat → Nat) (ac : Nat → ClassId) (n : Nat) (v0 : Int32) (v1 : Int32) (s0 : St × (St)) {r : Int32 × (St × (St))} (h : df_X16_ends n v0 v1 s0 = some r) (sz : Nat) : Met l yX16_ends ow_dm_X16_ends ({ frames := 0, cells := 0, slots := 0, locals := 0 }) (va_Pc [.ref (a 0), .int v0, .int v1] (fun U => U.heap.size = sz ∧ va_P (dC, dI) vwCl (dw_X16 a ac s0) U.heap ∧ va_K (dC, dI) vwCl (dk_X16 ac) U ∧ va_D (fun _ => True) (dw_X16 a ac s0) ∧ nv_E (va_A (dw_X16 a ac s0) sz) U)) (va_Qi (fun x _ => x = r.1) (fun (_ : Unit) t => va_P (dC, dI) vwCl (dw_X16 a ac r.2) t.heap ∧ va_K (dC, dI) vwCl (dk_X16 ac) t ∧ va_D (va_A (dw_X16 a ac s0) sz) (dw_X16 a ac r.2)) (va_A (dw_X16 a ac s0) sz)) 0 0 (va_A (dw_X16 a ac s0) sz) := by
  refine Met.ofW (cc := cX16_ends) (maxL := 5) (ret := (some .int)) (by decide) rfl ?_
  intro p e s m args below meth c s₁ B hml hv
  obtain ⟨rfl, hsz, hP, hK, hD0, hN⟩ := hv
  have hx := B.exec
  have hb := B.bytes
  have hr := B.returns
  have hts := atoms_spec (ws := ow_dm_X16_ends) B.pre
  have hown : s.vm.findClass RX16 = some m.cls := findClass_of_methodNamed B.named
  have hlocks := B.notSynchronized
  subst hsz
  have hD := hD0.self (sz := s.heap.size)
  generalize hAe : va_A (dw_X16 a ac s0) s.heap.size = A at hD hN ⊢
  have hA : ∀ q : Nat, s.heap.size ≤ q → A q := fun q h => by rw [← hAe]; exact Or.inr h
  have hl := lv_entry ([.ref (a 0), .int v0, .int v1]) (n := 5) (Nat.le_of_ble_eq_true rfl)
  rw [lg_entry_eq]
  generalize (lg_sl ([.ref (a 0), .int v0, .int v1]) ++ List.replicate (5 - (lg_sl ([.ref (a 0), .int v0, .int v1])).length) Slot.unset).toArray = ls at hl ⊢
  have hl : lv_has ls 5 [(0, .ref (a 0)), (1, .int v0), (2, .int v1)] := hl
  exact db_X16_ends_0 (dC := dC) (dI := dI) (a := a) (ac := ac) (n := n) (r := r) ⟨hlt, hx, hb, hml, hown, hts, hN, hA, hK⟩ (fun pc v τ H locs ls d z er hP hD hS => by subst er; exact W.zret (v := v) hx hb hr z (fun t ht hW => ⟨⟨v, (), rfl, rfl, by rw [ht]; exact hP, va_K.moved hW.alike hK, hD⟩, hS.F ht⟩) hS.2.2 d) v0 v1 s0 _ _ _ h hP hD va_S.rf (lv_sub hl [0, 1, 2] rfl)
def ow_dm_X16_waits : List Cond := .code yX16_waits cX16_waits 5 (some .boolean) :: ([.fieldLink RX16 76 "TimeMachineModel$Machine" "thing" "[I", .fieldLink RX16 73 "TimeMachineModel$Machine" "kind" "[I", .methodLink RX16 243 yX16_ends, .instanceMethod yX16_ends, .selects RX16 yX16_ends yX16_ends, .initialized RX16, .fieldLink RX16 94 "TimeMachineModel$Machine" "piped" "[I", .fieldLink RX16 122 "TimeMachineModel$Machine" "typed" "I"] ++ (u_ws RX16 TX16 56 ++ (ow_dm_X16_ends ++ [])))
theorem gd_dm_X16_waits : ∀ w ∈ ow_dm_X16_waits, (w.onTables && w.keeps) = true ∨ ∃ ty, w = Cond.arrayClass ty := List.forall_mem_cons.mpr ⟨good_of_word rfl, List.forall_mem_append.mpr ⟨fun w h => good_of_word (List.all_eq_true.mp (by decide +kernel) w h), List.forall_mem_append.mpr ⟨gu_X16, List.forall_mem_append.mpr ⟨gd_dm_X16_ends, fun _ h => nomatch h⟩⟩⟩⟩
theorem hi_dm_X16_waits_X16 : ∀ w ∈ u_ws RX16 TX16 56, w ∈ ow_dm_X16_waits := fun w h => List.mem_cons_of_mem _ (List.mem_append_right _ (List.mem_append_left _ h))
theorem gi_dm_X16_waits_0 : GoodIn ow_dm_X16_waits (wsV RX16 243 RX16 yX16_ends ow_dm_X16_ends) := goodIn_app (goodIn_of _ (by decide +kernel)) (fun w h => ⟨List.mem_cons_of_mem _ (List.mem_append_right _ (List.mem_append_right _ (List.mem_append_left _ h))), gd_dm_X16_ends w h⟩)
def dj_X16_waits_125 (p : Program) (l : Launch) (e : Env) (s : State) (m : MethodId) (args : Array Value) (below : List Frame) (meth : Method) (c : Code) (Q : State → Prop) (A : Nat → Prop) (dC : Nat → ClassId) (dI : Nat → Nat → Nat) (a : Nat → Nat) (ac : Nat → ClassId) (g : Int32 → (St × (St)) → Option (Int32 × (St × (St)))) (r : Int32 × (St × (St))) : Prop := ∀ (y0 : Int32) (s0 : St × (St)) (H : Heap) (locs : List Loc) (ls : Array Slot), g y0 s0 = some r → va_P (dC, dI) vwCl (dw_X16 a ac s0) H → va_D A (dw_X16 a ac s0) → va_S A s.heap H locs → lv_has ls 5 [] → W p l e (headSpec ow_dm_X16_waits ({ frames := 1, cells := 0, slots := 0, locals := 24 })).room s m args below meth c H locs 0 0 Q (F0 m 125 ls [.int y0])
def dj_X16_waits_124 (p : Program) (l : Launch) (e : Env) (s : State) (m : MethodId) (args : Array Value) (below : List Frame) (meth : Method) (c : Code) (Q : State → Prop) (A : Nat → Prop) (dC : Nat → ClassId) (dI : Nat → Nat → Nat) (a : Nat → Nat) (ac : Nat → ClassId) (g : (St × (St)) → Option (Int32 × (St × (St)))) (r : Int32 × (St × (St))) : Prop := ∀ (s0 : St × (St)) (H : Heap) (locs : List Loc) (ls : Array Slot), g s0 = some r → va_P (dC, dI) vwCl (dw_X16 a ac s0) H → va_D A (dw_X16 a ac s0) → va_S A s.heap H locs → lv_has ls 5 [] → W p l e (headSpec ow_dm_X16_waits ({ frames := 1, cells := 0, slots := 0, locals := 24 })).room s m args below meth c H locs 0 0 Q (F0 m 124 ls [])
def dj_X16_waits_80 (p : Program) (l : Launch) (e : Env) (s : State) (m : MethodId) (args : Array Value) (below : List Frame) (meth : Method) (c : Code) (Q : State → Prop) (A : Nat → Prop) (dC : Nat → ClassId) (dI : Nat → Nat → Nat) (a : Nat → Nat) (ac : Nat → ClassId) (g : Int32 → (St × (St)) → Option (Int32 × (St × (St)))) (r : Int32 × (St × (St))) : Prop := ∀ (y0 : Int32) (s0 : St × (St)) (H : Heap) (locs : List Loc) (ls : Array Slot), g y0 s0 = some r → va_P (dC, dI) vwCl (dw_X16 a ac s0) H → va_D A (dw_X16 a ac s0) → va_S A s.heap H locs → lv_has ls 5 [] → W p l e (headSpec ow_dm_X16_waits ({ frames := 1, cells := 0, slots := 0, locals := 24 })).room s m args below meth c H locs 0 0 Q (F0 m 80 ls [.int y0])
def dj_X16_waits_79 (p : Program) (l : Launch) (e : Env) (s : State) (m : MethodId) (args : Array Value) (below : List Frame) (meth : Method) (c : Code) (Q : State → Prop) (A : Nat → Prop) (dC : Nat → ClassId) (dI : Nat → Nat → Nat) (a : Nat → Nat) (ac : Nat → ClassId) (g : (St × (St)) → Option (Int32 × (St × (St)))) (r : Int32 × (St × (St))) : Prop := ∀ (s0 : St × (St)) (H : Heap) (locs : List Loc) (ls : Array Slot), g s0 = some r → va_P (dC, dI) vwCl (dw_X16 a ac s0) H → va_D A (dw_X16 a ac s0) → va_S A s.heap H locs → lv_has ls 5 [] → W p l e (headSpec ow_dm_X16_waits ({ frames := 1, cells := 0, slots := 0, locals := 24 })).room s m args below meth c H locs 0 0 Q (F0 m 79 ls [])
def dj_X16_waits_40 (p : Program) (l : Launch) (e : Env) (s : State) (m : MethodId) (args : Array Value) (below : List Frame) (meth : Method) (c : Code) (Q : State → Prop) (A : Nat → Prop) (dC : Nat → ClassId) (dI : Nat → Nat → Nat) (a : Nat → Nat) (ac : Nat → ClassId) (g : Int32 → (St × (St)) → Option (Int32 × (St × (St)))) (r : Int32 × (St × (St))) : Prop := ∀ (y0 : Int32) (s0 : St × (St)) (H : Heap) (locs : List Loc) (ls : Array Slot), g y0 s0 = some r → va_P (dC, dI) vwCl (dw_X16 a ac s0) H → va_D A (dw_X16 a ac s0) → va_S A s.heap H locs → lv_has ls 5 [] → W p l e (headSpec ow_dm_X16_waits ({ frames := 1, cells := 0, slots := 0, locals := 24 })).room s m args below meth c H locs 0 0 Q (F0 m 40 ls [.int y0])
def dj_X16_waits_39 (p : Program) (l : Launch) (e : Env) (s : State) (m : MethodId) (args : Array Value) (below : List Frame) (meth : Method) (c : Code) (Q : State → Prop) (A : Nat → Prop) (dC : Nat → ClassId) (dI : Nat → Nat → Nat) (a : Nat → Nat) (ac : Nat → ClassId) (g : (St × (St)) → Option (Int32 × (St × (St)))) (r : Int32 × (St × (St))) : Prop := ∀ (s0 : St × (St)) (H : Heap) (locs : List Loc) (ls : Array Slot), g s0 = some r → va_P (dC, dI) vwCl (dw_X16 a ac s0) H → va_D A (dw_X16 a ac s0) → va_S A s.heap H locs → lv_has ls 5 [] → W p l e (headSpec ow_dm_X16_waits ({ frames := 1, cells := 0, slots := 0, locals := 24 })).room s m args below meth c H locs 0 0 Q (F0 m 39 ls [])
def dj_X16_waits_0 (p : Program) (l : Launch) (e : Env) (s : State) (m : MethodId) (args : Array Value) (below : List Frame) (meth : Method) (c : Code) (Q : State → Prop) (A : Nat → Prop) (dC : Nat → ClassId) (dI : Nat → Nat → Nat) (a : Nat → Nat) (ac : Nat → ClassId) (g : Int32 → Int32 → Int32 → (St × (St)) → Option (Int32 × (St × (St)))) (r : Int32 × (St × (St))) : Prop := ∀ (v0 : Int32) (v1 : Int32) (v2 : Int32) (s0 : St × (St)) (H : Heap) (locs : List Loc) (ls : Array Slot), g v0 v1 v2 s0 = some r → va_P (dC, dI) vwCl (dw_X16 a ac s0) H → va_D A (dw_X16 a ac s0) → va_S A s.heap H locs → lv_has ls 5 [(0, .ref (a 0)), (1, .int v0), (2, .int v1), (3, .int v2)] → W p l e (headSpec ow_dm_X16_waits ({ frames := 1, cells := 0, slots := 0, locals := 24 })).room s m args below meth c H locs 0 0 Q (F0 m 0 ls [])
set_option maxHeartbeats 40000000 in
set_option maxRecDepth 100000 in
theorem db_X16_waits_125 {p : Program} {l : Launch} {e : Env} {s : State} {m : MethodId} {args : Array Value} {below : List Frame} {meth : Method} {c : Code} {Q : State → Prop} {A : Nat → Prop} {dC : Nat → ClassId} {dI : Nat → Nat → Nat} {a : Nat → Nat} {ac : Nat → ClassId} {n : Nat} {r : Int32 × (St × (St))} (C : nd_C p l s m args c A (dC, dI) cX16_waits 5 RX16 ow_dm_X16_waits (dk_X16 ac)) (K : nd_Ki p l e (headSpec ow_dm_X16_waits ({ frames := 1, cells := 0, slots := 0, locals := 24 })).room s m args below meth c Q A (dC, dI) cX16_waits .boolean (St × (St)) (dw_X16 a ac) r) : dj_X16_waits_125 p l e s m args below meth c Q A dC dI a ac (df_X16_waits_125 n) r := by
  obtain ⟨hlt, hx, hb, hml, hown, hts, hN, hA, hK⟩ := id C
  intro y0 s0 H locs ls h hP hD hS hl
  unfold df_X16_waits_125 at h
  obtain ⟨n10, h⟩ := nd_z_e ⟨_, rfl⟩ h
  exact K _ _ _ _ _ _ dX16_waits_125 n10 (Option.some.inj h).symm hP hD hS
set_option maxHeartbeats 40000000 in
set_option maxRecDepth 100000 in
theorem db_X16_waits_124 {p : Program} {l : Launch} {e : Env} {s : State} {m : MethodId} {args : Array Value} {below : List Frame} {meth : Method} {c : Code} {Q : State → Prop} {A : Nat → Prop} {dC : Nat → ClassId} {dI : Nat → Nat → Nat} {a : Nat → Nat} {ac : Nat → ClassId} {n : Nat} {r : Int32 × (St × (St))} (C : nd_C p l s m args c A (dC, dI) cX16_waits 5 RX16 ow_dm_X16_waits (dk_X16 ac)) (K : nd_Ki p l e (headSpec ow_dm_X16_waits ({ frames := 1, cells := 0, slots := 0, locals := 24 })).room s m args below meth c Q A (dC, dI) cX16_waits .boolean (St × (St)) (dw_X16 a ac) r) : dj_X16_waits_124 p l e s m args below meth c Q A dC dI a ac (df_X16_waits_124 n) r := by
  obtain ⟨hlt, hx, hb, hml, hown, hts, hN, hA, hK⟩ := id C
  intro s0 H locs ls h hP hD hS hl
  unfold df_X16_waits_124 at h
  refine lv_iconst (v := 0) hx hb dX16_waits_124 (by decide) ?_
  exact (db_X16_waits_125 C K) (0) s0 _ _ _ h hP hD hS (lv_sub hl [] rfl)
set_option maxHeartbeats 40000000 in
set_option maxRecDepth 100000 in
theorem db_X16_waits_80 {p : Program} {l : Launch} {e : Env} {s : State} {m : MethodId} {args : Array Value} {below : List Frame} {meth : Method} {c : Code} {Q : State → Prop} {A : Nat → Prop} {dC : Nat → ClassId} {dI : Nat → Nat → Nat} {a : Nat → Nat} {ac : Nat → ClassId} {n : Nat} {r : Int32 × (St × (St))} (C : nd_C p l s m args c A (dC, dI) cX16_waits 5 RX16 ow_dm_X16_waits (dk_X16 ac)) (K : nd_Ki p l e (headSpec ow_dm_X16_waits ({ frames := 1, cells := 0, slots := 0, locals := 24 })).room s m args below meth c Q A (dC, dI) cX16_waits .boolean (St × (St)) (dw_X16 a ac) r) : dj_X16_waits_80 p l e s m args below meth c Q A dC dI a ac (df_X16_waits_80 n) r := by
  obtain ⟨hlt, hx, hb, hml, hown, hts, hN, hA, hK⟩ := id C
  intro y0 s0 H locs ls h hP hD hS hl
  unfold df_X16_waits_80 at h
  obtain ⟨n19, h⟩ := nd_z_e ⟨_, rfl⟩ h
  exact K _ _ _ _ _ _ dX16_waits_80 n19 (Option.some.inj h).symm hP hD hS
set_option maxHeartbeats 40000000 in
set_option maxRecDepth 100000 in
theorem db_X16_waits_79 {p : Program} {l : Launch} {e : Env} {s : State} {m : MethodId} {args : Array Value} {below : List Frame} {meth : Method} {c : Code} {Q : State → Prop} {A : Nat → Prop} {dC : Nat → ClassId} {dI : Nat → Nat → Nat} {a : Nat → Nat} {ac : Nat → ClassId} {n : Nat} {r : Int32 × (St × (St))} (C : nd_C p l s m args c A (dC, dI) cX16_waits 5 RX16 ow_dm_X16_waits (dk_X16 ac)) (K : nd_Ki p l e (headSpec ow_dm_X16_waits ({ frames := 1, cells := 0, slots := 0, locals := 24 })).room s m args below meth c Q A (dC, dI) cX16_waits .boolean (St × (St)) (dw_X16 a ac) r) : dj_X16_waits_79 p l e s m args below meth c Q A dC dI a ac (df_X16_waits_79 n) r := by
  obtain ⟨hlt, hx, hb, hml, hown, hts, hN, hA, hK⟩ := id C
  intro s0 H locs ls h hP hD hS hl
  unfold df_X16_waits_79 at h
  refine lv_iconst (v := 0) hx hb dX16_waits_79 (by decide) ?_
  exact (db_X16_waits_80 C K) (0) s0 _ _ _ h hP hD hS (lv_sub hl [] rfl)
set_option maxHeartbeats 40000000 in
set_option maxRecDepth 100000 in
theorem db_X16_waits_40 {p : Program} {l : Launch} {e : Env} {s : State} {m : MethodId} {args : Array Value} {below : List Frame} {meth : Method} {c : Code} {Q : State → Prop} {A : Nat → Prop} {dC : Nat → ClassId} {dI : Nat → Nat → Nat} {a : Nat → Nat} {ac : Nat → ClassId} {n : Nat} {r : Int32 × (St × (St))} (C : nd_C p l s m args c A (dC, dI) cX16_waits 5 RX16 ow_dm_X16_waits (dk_X16 ac)) (K : nd_Ki p l e (headSpec ow_dm_X16_waits ({ frames := 1, cells := 0, slots := 0, locals := 24 })).room s m args below meth c Q A (dC, dI) cX16_waits .boolean (St × (St)) (dw_X16 a ac) r) : dj_X16_waits_40 p l e s m args below meth c Q A dC dI a ac (df_X16_waits_40 n) r := by
  obtain ⟨hlt, hx, hb, hml, hown, hts, hN, hA, hK⟩ := id C
  intro y0 s0 H locs ls h hP hD hS hl
  unfold df_X16_waits_40 at h
  obtain ⟨n27, h⟩ := nd_z_e ⟨_, rfl⟩ h
  exact K _ _ _ _ _ _ dX16_waits_40 n27 (Option.some.inj h).symm hP hD hS
