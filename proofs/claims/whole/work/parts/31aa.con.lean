def ow_dm_X16_put : List Cond := Cond.code yX16_put cX16_put 3 none :: ([Cond.fieldLink RX16 61 "TimeMachineModel$Machine" "bytes" "[I"] ++ (u_ws RX16 TX16 56 ++ []))
theorem gd_dm_X16_put : ∀ w ∈ ow_dm_X16_put, (w.onTables && w.keeps) = true ∨ ∃ ty, w = Cond.arrayClass ty := List.forall_mem_cons.mpr ⟨good_of_word rfl, List.forall_mem_append.mpr ⟨fun w h => good_of_word (List.all_eq_true.mp (by decide +kernel) w h), List.forall_mem_append.mpr ⟨gu_X16, fun _ h => nomatch h⟩⟩⟩
theorem hi_dm_X16_put_X16 : ∀ w ∈ u_ws RX16 TX16 56, w ∈ ow_dm_X16_put := fun w h => List.mem_cons_of_mem _ (List.mem_append_right _ (List.mem_append_left _ h))
def dj_X16_put_0 (p : Program) (l : Launch) (e : Env) (s : State) (m : MethodId) (args : Array Value) (below : List Frame) (meth : Method) (c : Code) (Q : State → Prop) (A : Nat → Prop) (dC : Nat → ClassId) (dI : Nat → Nat → Nat) (a : Nat → Nat) (ac : Nat → ClassId) (g : Int32 → Int32 → (St × (St)) → Option (St × (St))) (r : St × (St)) : Prop := ∀ (v0 : Int32) (v1 : Int32) (s0 : St × (St)) (H : Heap) (locs : List Loc) (ls : Array Slot), g v0 v1 s0 = some r → va_P (dC, dI) vwCl (dw_X16 a ac s0) H → va_D A (dw_X16 a ac s0) → va_S A s.heap H locs → lv_has ls 3 [(0, .ref (a 0)), (1, .int v0), (2, .int v1)] → W p l e (headSpec ow_dm_X16_put ({ frames := 0, cells := 0, slots := 0, locals := 0 })).room s m args below meth c H locs 0 0 Q (F0 m 0 ls [])
set_option maxHeartbeats 40000000 in
set_option maxRecDepth 100000 in
theorem db_X16_put_0 {p : Program} {l : Launch} {e : Env} {s : State} {m : MethodId} {args : Array Value} {below : List Frame} {meth : Method} {c : Code} {Q : State → Prop} {A : Nat → Prop} {dC : Nat → ClassId} {dI : Nat → Nat → Nat} {a : Nat → Nat} {ac : Nat → ClassId} {n : Nat} {r : St × (St)} (C : nd_C p l s m args c A (dC, dI) cX16_put 3 RX16 ow_dm_X16_put (dk_X16 ac)) (K : nd_Kv p l e (headSpec ow_dm_X16_put ({ frames := 0, cells := 0, slots := 0, locals := 0 })).room s m args below meth c Q A (dC, dI) cX16_put (St × (St)) (dw_X16 a ac) r) : dj_X16_put_0 p l e s m args below meth c Q A dC dI a ac (df_X16_put_0 n) r := by
  obtain ⟨hlt, hx, hb, hml, hown, hts, hN, hA, hK⟩ := id C
  intro v0 v1 s0 H locs ls h hP hD hS hl
  unfold df_X16_put_0 at h
  refine lv_aload_n hx hb dX16_put_0 rfl (lv_at hl 0 rfl) ?_
  refine va_get (D := (dC, dI)) (ci := 17) (v := .ref (a 17)) (C := RX16) (T := TX16) (N := 56) hx hb hts hi_dm_X16_put_X16 hown hK hP 0 rfl rfl 25 (by decide) (hts (.fieldLink RX16 61 "TimeMachineModel$Machine" "bytes" "[I") (List.mem_of_getElem? (i := 1) rfl)) (fun _ h9 => h9) rfl dX16_put_1 ?_
  refine lv_iload_n hx hb dX16_put_4 rfl (lv_at hl 1 rfl) ?_
  refine lv_iconst (v := 2) hx hb dX16_put_5 (by decide) ?_
  refine lv_ishr hx hb dX16_put_6 ?_
  refine lv_aload_n hx hb dX16_put_7 rfl (lv_at hl 0 rfl) ?_
  refine va_get (D := (dC, dI)) (ci := 17) (v := .ref (a 17)) (C := RX16) (T := TX16) (N := 56) hx hb hts hi_dm_X16_put_X16 hown hK hP 0 rfl rfl 25 (by decide) (hts (.fieldLink RX16 61 "TimeMachineModel$Machine" "bytes" "[I") (List.mem_of_getElem? (i := 1) rfl)) (fun _ h9 => h9) rfl dX16_put_8 ?_
  refine lv_iload_n hx hb dX16_put_11 rfl (lv_at hl 1 rfl) ?_
  refine lv_iconst (v := 2) hx hb dX16_put_12 (by decide) ?_
  refine lv_ishr hx hb dX16_put_13 ?_
  obtain ⟨i1, h⟩ := nd_ck_e h
  refine va_iald (i := ((v0 : Int32) >>> ((2 : Int32) &&& 31))) hx hb hK hP 17 16 rfl rfl i1 dX16_put_14 ?_
  refine lv_sipush (v := 255) hx hb dX16_put_15 (by decide) ?_
  refine lv_bipush (v := 8) hx hb dX16_put_18 (by decide) ?_
  refine lv_iload_n hx hb dX16_put_20 rfl (lv_at hl 1 rfl) ?_
  refine lv_iconst (v := 3) hx hb dX16_put_21 (by decide) ?_
  refine lv_iand hx hb dX16_put_22 ?_
  refine lv_imul hx hb dX16_put_23 ?_
  refine lv_ishl hx hb dX16_put_24 ?_
  refine lv_iconst (v := (-1)) hx hb dX16_put_25 (by decide) ?_
  refine lv_ixor hx hb dX16_put_26 ?_
  refine lv_iand hx hb dX16_put_27 ?_
  refine lv_iload_n hx hb dX16_put_28 rfl (lv_at hl 2 rfl) ?_
  refine lv_sipush (v := 255) hx hb dX16_put_29 (by decide) ?_
  refine lv_iand hx hb dX16_put_32 ?_
  refine lv_bipush (v := 8) hx hb dX16_put_33 (by decide) ?_
  refine lv_iload_n hx hb dX16_put_35 rfl (lv_at hl 1 rfl) ?_
  refine lv_iconst (v := 3) hx hb dX16_put_36 (by decide) ?_
  refine lv_iand hx hb dX16_put_37 ?_
  refine lv_imul hx hb dX16_put_38 ?_
  refine lv_ishl hx hb dX16_put_39 ?_
  refine lv_ior hx hb dX16_put_40 ?_
  obtain ⟨i2, h⟩ := nd_ck_e h
  refine va_iast (i := ((v0 : Int32) >>> ((2 : Int32) &&& 31))) (x := (((sR s0.1 15 (Int32.toNatClampNeg ((v0 : Int32) >>> ((2 : Int32) &&& 31)))) &&& (((255 : Int32) <<< (((8 * (v0 &&& 3)) : Int32) &&& 31)) ^^^ (-1))) ||| (((v1 &&& 255) : Int32) <<< (((8 * (v0 &&& 3)) : Int32) &&& 31)))) hx hb hK hP hD hS 17 16 rfl rfl i2 dX16_put_41 (fun H locs hP hD hS => ?_)
  obtain ⟨s3, es3, h⟩ := nd_let_e h
  have hP : va_P (dC, dI) vwCl (dw_X16 a ac s3) H := by rw [es3]; exact hP
  have hD : va_D A (dw_X16 a ac s3) := by rw [es3]; exact hD
  exact K _ _ _ _ _ dX16_put_42 (Option.some.inj h).symm hP hD hS
set_option maxHeartbeats 40000000 in
set_option maxRecDepth 100000 in
theorem dm_X16_put (l : Launch) (hlt : l.stackTraces = false) (dC : Nat → ClassId) (dI : Nat → Nat → Nat) (a : Nat → Nat) (ac : Nat → ClassId) (n : Nat) (v0 : Int32) (v1 : Int32) (s0 : St × (St)) {r : St × (St)} (h : df_X16_put n v0 v1 s0 = some r) (sz : Nat) : Met l yX16_put ow_dm_X16_put ({ frames := 0, cells := 0, slots := 0, locals := 0 }) (va_Pc [.ref (a 0), .int v0, .int v1] (fun U => U.heap.size = sz ∧ va_P (dC, dI) vwCl (dw_X16 a ac s0) U.heap ∧ va_K (dC, dI) vwCl (dk_X16 ac) U ∧ va_D (fun _ => True) (dw_X16 a ac s0) ∧ nv_E dI (va_A (dw_X16 a ac s0) sz) U)) (va_Qv (fun _ => True) (fun (_ : Unit) t => va_P (dC, dI) vwCl (dw_X16 a ac r) t.heap ∧ va_K (dC, dI) vwCl (dk_X16 ac) t ∧ va_D (va_A (dw_X16 a ac s0) sz) (dw_X16 a ac r)) (va_A (dw_X16 a ac s0) sz)) 0 0 (va_A (dw_X16 a ac s0) sz) := by
  refine Met.ofW (cc := cX16_put) (maxL := 3) (ret := none) (by decide) rfl ?_
  intro p e s m args below meth c s₁ B hml hv
  obtain ⟨rfl, hsz, hP, hK, hD0, hN⟩ := hv
  have hx := B.exec
  have hb := B.bytes
  have hr := B.returns
  have hts := atoms_spec (ws := ow_dm_X16_put) B.pre
  have hown : s.vm.findClass RX16 = some m.cls := findClass_of_methodNamed B.named
  have hlocks := B.notSynchronized
  subst hsz
  have hD := hD0.self (sz := s.heap.size)
  generalize hAe : va_A (dw_X16 a ac s0) s.heap.size = A at hD hN ⊢
  have hA : ∀ q : Nat, s.heap.size ≤ q → A q := fun q h => by rw [← hAe]; exact Or.inr h
  have hl := lv_entry ([.ref (a 0), .int v0, .int v1]) (n := 3) (Nat.le_of_ble_eq_true rfl)
  rw [lg_entry_eq]
  generalize (lg_sl ([.ref (a 0), .int v0, .int v1]) ++ List.replicate (3 - (lg_sl ([.ref (a 0), .int v0, .int v1])).length) Slot.unset).toArray = ls at hl ⊢
  have hl : lv_has ls 3 [(0, .ref (a 0)), (1, .int v0), (2, .int v1)] := hl
  exact db_X16_put_0 (dC := dC) (dI := dI) (a := a) (ac := ac) (n := n) (r := r) ⟨hlt, hx, hb, hml, hown, hts, hN, hA, hK⟩ (fun pc τ H locs ls d er hP hD hS => by subst er; exact W.vret hx hb hr (fun t ht hW => ⟨⟨(), rfl, trivial, by rw [ht]; exact hP, va_K.moved hW.alike hK, hD⟩, hS.F ht⟩) hS.2.2 d) v0 v1 s0 _ _ _ h hP hD va_S.rf (lv_sub hl [0, 1, 2] rfl)
def ow_dm_X16_freeFrame : List Cond := Cond.code yX16_freeFrame cX16_freeFrame 2 (some .int) :: ([Cond.fieldLink RX16 70 "TimeMachineModel$Machine" "holders" "[I"] ++ (u_ws RX16 TX16 56 ++ []))
theorem gd_dm_X16_freeFrame : ∀ w ∈ ow_dm_X16_freeFrame, (w.onTables && w.keeps) = true ∨ ∃ ty, w = Cond.arrayClass ty := List.forall_mem_cons.mpr ⟨good_of_word rfl, List.forall_mem_append.mpr ⟨fun w h => good_of_word (List.all_eq_true.mp (by decide +kernel) w h), List.forall_mem_append.mpr ⟨gu_X16, fun _ h => nomatch h⟩⟩⟩
theorem hi_dm_X16_freeFrame_X16 : ∀ w ∈ u_ws RX16 TX16 56, w ∈ ow_dm_X16_freeFrame := fun w h => List.mem_cons_of_mem _ (List.mem_append_right _ (List.mem_append_left _ h))
def dj_X16_freeFrame_2 (p : Program) (l : Launch) (e : Env) (s : State) (m : MethodId) (args : Array Value) (below : List Frame) (meth : Method) (c : Code) (Q : State → Prop) (A : Nat → Prop) (dC : Nat → ClassId) (dI : Nat → Nat → Nat) (a : Nat → Nat) (ac : Nat → ClassId) (g : Int32 → (St × (St)) → Option (Int32 × (St × (St)))) (r : Int32 × (St × (St))) : Prop := ∀ (x1 : Int32) (s0 : St × (St)) (H : Heap) (locs : List Loc) (ls : Array Slot), g x1 s0 = some r → va_P (dC, dI) vwCl (dw_X16 a ac s0) H → va_D A (dw_X16 a ac s0) → va_S A s.heap H locs → lv_has ls 2 [(0, .ref (a 0)), (1, .int x1)] → W p l e (headSpec ow_dm_X16_freeFrame ({ frames := 0, cells := 0, slots := 0, locals := 0 })).room s m args below meth c H locs 0 0 Q (F0 m 2 ls [])
def dj_X16_freeFrame_0 (p : Program) (l : Launch) (e : Env) (s : State) (m : MethodId) (args : Array Value) (below : List Frame) (meth : Method) (c : Code) (Q : State → Prop) (A : Nat → Prop) (dC : Nat → ClassId) (dI : Nat → Nat → Nat) (a : Nat → Nat) (ac : Nat → ClassId) (g : (St × (St)) → Option (Int32 × (St × (St)))) (r : Int32 × (St × (St))) : Prop := ∀ (s0 : St × (St)) (H : Heap) (locs : List Loc) (ls : Array Slot), g s0 = some r → va_P (dC, dI) vwCl (dw_X16 a ac s0) H → va_D A (dw_X16 a ac s0) → va_S A s.heap H locs → lv_has ls 2 [(0, .ref (a 0))] → W p l e (headSpec ow_dm_X16_freeFrame ({ frames := 0, cells := 0, slots := 0, locals := 0 })).room s m args below meth c H locs 0 0 Q (F0 m 0 ls [])
set_option maxHeartbeats 40000000 in
set_option maxRecDepth 100000 in
theorem dB_X16_freeFrame_2 {p : Program} {l : Launch} {e : Env} {s : State} {m : MethodId} {args : Array Value} {below : List Frame} {meth : Method} {c : Code} {Q : State → Prop} {A : Nat → Prop} {dC : Nat → ClassId} {dI : Nat → Nat → Nat} {a : Nat → Nat} {ac : Nat → ClassId} {n : Nat} {r : Int32 × (St × (St))} (C : nd_C p l s m args c A (dC, dI) cX16_freeFrame 2 RX16 ow_dm_X16_freeFrame (dk_X16 ac)) (K : nd_Ki p l e (headSpec ow_dm_X16_freeFrame ({ frames := 0, cells := 0, slots := 0, locals := 0 })).room s m args below meth c Q A (dC, dI) cX16_freeFrame .int (St × (St)) (dw_X16 a ac) r) {g2 : Int32 → (St × (St)) → Option (Int32 × (St × (St)))} (J2 : dj_X16_freeFrame_2 p l e s m args below meth c Q A dC dI a ac g2 r) : dj_X16_freeFrame_2 p l e s m args below meth c Q A dC dI a ac (dF_X16_freeFrame_2 n g2) r := by
  obtain ⟨hlt, hx, hb, hml, hown, hts, hN, hA, hK⟩ := id C
  intro x1 s0 H locs ls h hP hD hS hl
  unfold dF_X16_freeFrame_2 at h
  refine lv_aload_n hx hb dX16_freeFrame_2 rfl (lv_at hl 0 rfl) ?_
  refine va_get (D := (dC, dI)) (ci := 17) (v := .ref (a 20)) (C := RX16) (T := TX16) (N := 56) hx hb hts hi_dm_X16_freeFrame_X16 hown hK hP 0 rfl rfl 28 (by decide) (hts (.fieldLink RX16 70 "TimeMachineModel$Machine" "holders" "[I") (List.mem_of_getElem? (i := 1) rfl)) (fun _ h9 => h9) rfl dX16_freeFrame_3 ?_
  refine lv_iload_n hx hb dX16_freeFrame_6 rfl (lv_at hl 1 rfl) ?_
  obtain ⟨i1, h⟩ := nd_ck_e h
  refine va_iald (i := x1) hx hb hK hP 20 19 rfl rfl i1 dX16_freeFrame_7 ?_
  refine lv_if_le (tgt := 17) hx hb dX16_freeFrame_8 (by decide) (fun c2 => ?_) (fun c2 => ?_)
  · have h := nd_pos h c2
    refine lv_iload_n hx hb dX16_freeFrame_17 rfl (lv_at hl 1 rfl) ?_
    exact K _ _ _ _ _ _ dX16_freeFrame_18 rfl (Option.some.inj h).symm hP hD hS
  · have h := nd_neg h c2
    obtain ⟨z3, ez3, h⟩ := nd_let_e h
    refine lv_iinc (v := z3) (lv' := [(1, .int z3), (0, .ref (a 0))]) hx hb dX16_freeFrame_11 hl (k := 1) rfl (by rw [ez3]) (by decide) rfl (fun ls hl => ?_)
    refine lv_goto (tgt := 2) hx hb dX16_freeFrame_14 (by decide) ?_
    exact (J2) (z3) s0 _ _ _ h hP hD hS (lv_sub hl [1, 0] rfl)
set_option maxHeartbeats 40000000 in
set_option maxRecDepth 100000 in
theorem db_X16_freeFrame_2 {p : Program} {l : Launch} {e : Env} {s : State} {m : MethodId} {args : Array Value} {below : List Frame} {meth : Method} {c : Code} {Q : State → Prop} {A : Nat → Prop} {dC : Nat → ClassId} {dI : Nat → Nat → Nat} {a : Nat → Nat} {ac : Nat → ClassId} {n : Nat} {r : Int32 × (St × (St))} (C : nd_C p l s m args c A (dC, dI) cX16_freeFrame 2 RX16 ow_dm_X16_freeFrame (dk_X16 ac)) (K : nd_Ki p l e (headSpec ow_dm_X16_freeFrame ({ frames := 0, cells := 0, slots := 0, locals := 0 })).room s m args below meth c Q A (dC, dI) cX16_freeFrame .int (St × (St)) (dw_X16 a ac) r) (k : Nat) : dj_X16_freeFrame_2 p l e s m args below meth c Q A dC dI a ac (df_X16_freeFrame_2 n k) r := by
  induction k with
  | zero => intro x1 s0 H locs ls h; exact nomatch (show (none : Option (Int32 × (St × (St)))) = some r from h)
  | succ k ih => exact dB_X16_freeFrame_2 C K ih
set_option maxHeartbeats 40000000 in
set_option maxRecDepth 100000 in
theorem db_X16_freeFrame_0 {p : Program} {l : Launch} {e : Env} {s : State} {m : MethodId} {args : Array Value} {below : List Frame} {meth : Method} {c : Code} {Q : State → Prop} {A : Nat → Prop} {dC : Nat → ClassId} {dI : Nat → Nat → Nat} {a : Nat → Nat} {ac : Nat → ClassId} {n : Nat} {r : Int32 × (St × (St))} (C : nd_C p l s m args c A (dC, dI) cX16_freeFrame 2 RX16 ow_dm_X16_freeFrame (dk_X16 ac)) (K : nd_Ki p l e (headSpec ow_dm_X16_freeFrame ({ frames := 0, cells := 0, slots := 0, locals := 0 })).room s m args below meth c Q A (dC, dI) cX16_freeFrame .int (St × (St)) (dw_X16 a ac) r) : dj_X16_freeFrame_0 p l e s m args below meth c Q A dC dI a ac (df_X16_freeFrame_0 n) r := by
  obtain ⟨hlt, hx, hb, hml, hown, hts, hN, hA, hK⟩ := id C
  intro s0 H locs ls h hP hD hS hl
  unfold df_X16_freeFrame_0 at h
  refine lv_iconst (v := 0) hx hb dX16_freeFrame_0 (by decide) ?_
  refine lv_istore_n (lv' := [(1, .int 0), (0, .ref (a 0))]) hx hb dX16_freeFrame_1 rfl hl (by decide) rfl (fun ls hl => ?_)
  exact (db_X16_freeFrame_2 C K n) (0) s0 _ _ _ h hP hD hS (lv_sub hl [1, 0] rfl)
set_option maxHeartbeats 40000000 in
set_option maxRecDepth 100000 in
theorem dm_X16_freeFrame (l : Launch) (hlt : l.stackTraces = false) (dC : Nat → ClassId) (dI : Nat → Nat → Nat) (a : Nat → Nat) (ac : Nat → ClassId) (n : Nat) (s0 : St × (St)) {r : Int32 × (St × (St))} (h : df_X16_freeFrame n s0 = some r) (sz : Nat) : Met l yX16_freeFrame ow_dm_X16_freeFrame ({ frames := 0, cells := 0, slots := 0, locals := 0 }) (va_Pc [.ref (a 0)] (fun U => U.heap.size = sz ∧ va_P (dC, dI) vwCl (dw_X16 a ac s0) U.heap ∧ va_K (dC, dI) vwCl (dk_X16 ac) U ∧ va_D (fun _ => True) (dw_X16 a ac s0) ∧ nv_E dI (va_A (dw_X16 a ac s0) sz) U)) (va_Qi (fun x _ => x = r.1) (fun (_ : Unit) t => va_P (dC, dI) vwCl (dw_X16 a ac r.2) t.heap ∧ va_K (dC, dI) vwCl (dk_X16 ac) t ∧ va_D (va_A (dw_X16 a ac s0) sz) (dw_X16 a ac r.2)) (va_A (dw_X16 a ac s0) sz)) 0 0 (va_A (dw_X16 a ac s0) sz) := by
  refine Met.ofW (cc := cX16_freeFrame) (maxL := 2) (ret := (some .int)) (by decide) rfl ?_
  intro p e s m args below meth c s₁ B hml hv
  obtain ⟨rfl, hsz, hP, hK, hD0, hN⟩ := hv
  have hx := B.exec
  have hb := B.bytes
  have hr := B.returns
  have hts := atoms_spec (ws := ow_dm_X16_freeFrame) B.pre
  have hown : s.vm.findClass RX16 = some m.cls := findClass_of_methodNamed B.named
  have hlocks := B.notSynchronized
  subst hsz
  have hD := hD0.self (sz := s.heap.size)
  generalize hAe : va_A (dw_X16 a ac s0) s.heap.size = A at hD hN ⊢
  have hA : ∀ q : Nat, s.heap.size ≤ q → A q := fun q h => by rw [← hAe]; exact Or.inr h
  have hl := lv_entry ([.ref (a 0)]) (n := 2) (Nat.le_of_ble_eq_true rfl)
  rw [lg_entry_eq]
  generalize (lg_sl ([.ref (a 0)]) ++ List.replicate (2 - (lg_sl ([.ref (a 0)])).length) Slot.unset).toArray = ls at hl ⊢
  have hl : lv_has ls 2 [(0, .ref (a 0))] := hl
  exact db_X16_freeFrame_0 (dC := dC) (dI := dI) (a := a) (ac := ac) (n := n) (r := r) ⟨hlt, hx, hb, hml, hown, hts, hN, hA, hK⟩ (fun pc v τ H locs ls d z er hP hD hS => by subst er; exact W.zret (v := v) hx hb hr z (fun t ht hW => ⟨⟨v, (), rfl, rfl, by rw [ht]; exact hP, va_K.moved hW.alike hK, hD⟩, hS.F ht⟩) hS.2.2 d) s0 _ _ _ h hP hD va_S.rf (lv_sub hl [0] rfl)
def ow_dm_X16_stand : List Cond := Cond.code yX16_stand cX16_stand 3 none :: ([Cond.fieldLink RX16 64 "TimeMachineModel$Machine" "frame" "[I", Cond.fieldLink RX16 70 "TimeMachineModel$Machine" "holders" "[I", Cond.fieldLink RX16 129 "TimeMachineModel$Machine" "used" "I"] ++ (u_ws RX16 TX16 56 ++ []))
theorem gd_dm_X16_stand : ∀ w ∈ ow_dm_X16_stand, (w.onTables && w.keeps) = true ∨ ∃ ty, w = Cond.arrayClass ty := List.forall_mem_cons.mpr ⟨good_of_word rfl, List.forall_mem_append.mpr ⟨fun w h => good_of_word (List.all_eq_true.mp (by decide +kernel) w h), List.forall_mem_append.mpr ⟨gu_X16, fun _ h => nomatch h⟩⟩⟩
theorem hi_dm_X16_stand_X16 : ∀ w ∈ u_ws RX16 TX16 56, w ∈ ow_dm_X16_stand := fun w h => List.mem_cons_of_mem _ (List.mem_append_right _ (List.mem_append_left _ h))
def dj_X16_stand_26 (p : Program) (l : Launch) (e : Env) (s : State) (m : MethodId) (args : Array Value) (below : List Frame) (meth : Method) (c : Code) (Q : State → Prop) (A : Nat → Prop) (dC : Nat → ClassId) (dI : Nat → Nat → Nat) (a : Nat → Nat) (ac : Nat → ClassId) (g : Int32 → (St × (St)) → Option (St × (St))) (r : St × (St)) : Prop := ∀ (x2 : Int32) (s0 : St × (St)) (H : Heap) (locs : List Loc) (ls : Array Slot), g x2 s0 = some r → va_P (dC, dI) vwCl (dw_X16 a ac s0) H → va_D A (dw_X16 a ac s0) → va_S A s.heap H locs → lv_has ls 3 [(0, .ref (a 0)), (2, .int x2)] → W p l e (headSpec ow_dm_X16_stand ({ frames := 0, cells := 0, slots := 0, locals := 0 })).room s m args below meth c H locs 0 0 Q (F0 m 26 ls [])
def dj_X16_stand_0 (p : Program) (l : Launch) (e : Env) (s : State) (m : MethodId) (args : Array Value) (below : List Frame) (meth : Method) (c : Code) (Q : State → Prop) (A : Nat → Prop) (dC : Nat → ClassId) (dI : Nat → Nat → Nat) (a : Nat → Nat) (ac : Nat → ClassId) (g : Int32 → Int32 → (St × (St)) → Option (St × (St))) (r : St × (St)) : Prop := ∀ (v0 : Int32) (v1 : Int32) (s0 : St × (St)) (H : Heap) (locs : List Loc) (ls : Array Slot), g v0 v1 s0 = some r → va_P (dC, dI) vwCl (dw_X16 a ac s0) H → va_D A (dw_X16 a ac s0) → va_S A s.heap H locs → lv_has ls 3 [(0, .ref (a 0)), (1, .int v0), (2, .int v1)] → W p l e (headSpec ow_dm_X16_stand ({ frames := 0, cells := 0, slots := 0, locals := 0 })).room s m args below meth c H locs 0 0 Q (F0 m 0 ls [])
set_option maxHeartbeats 40000000 in
set_option maxRecDepth 100000 in
theorem db_X16_stand_26 {p : Program} {l : Launch} {e : Env} {s : State} {m : MethodId} {args : Array Value} {below : List Frame} {meth : Method} {c : Code} {Q : State → Prop} {A : Nat → Prop} {dC : Nat → ClassId} {dI : Nat → Nat → Nat} {a : Nat → Nat} {ac : Nat → ClassId} {n : Nat} {r : St × (St)} (C : nd_C p l s m args c A (dC, dI) cX16_stand 3 RX16 ow_dm_X16_stand (dk_X16 ac)) (K : nd_Kv p l e (headSpec ow_dm_X16_stand ({ frames := 0, cells := 0, slots := 0, locals := 0 })).room s m args below meth c Q A (dC, dI) cX16_stand (St × (St)) (dw_X16 a ac) r) : dj_X16_stand_26 p l e s m args below meth c Q A dC dI a ac (df_X16_stand_26 n) r := by
  obtain ⟨hlt, hx, hb, hml, hown, hts, hN, hA, hK⟩ := id C
  intro x2 s0 H locs ls h hP hD hS hl
  unfold df_X16_stand_26 at h
  refine lv_aload_n hx hb dX16_stand_26 rfl (lv_at hl 0 rfl) ?_
  refine va_get (D := (dC, dI)) (ci := 17) (v := .ref (a 20)) (C := RX16) (T := TX16) (N := 56) hx hb hts hi_dm_X16_stand_X16 hown hK hP 0 rfl rfl 28 (by decide) (hts (.fieldLink RX16 70 "TimeMachineModel$Machine" "holders" "[I") (List.mem_of_getElem? (i := 2) rfl)) (fun _ h9 => h9) rfl dX16_stand_27 ?_
  refine lv_iload_n hx hb dX16_stand_30 rfl (lv_at hl 1 rfl) ?_
  refine lv_dup2_11 hx hb dX16_stand_31 rfl rfl ?_
  obtain ⟨i5, h⟩ := nd_ck_e h
  refine va_iald (i := x2) hx hb hK hP 20 19 rfl rfl i5 dX16_stand_32 ?_
  refine lv_iconst (v := 1) hx hb dX16_stand_33 (by decide) ?_
  refine lv_iadd hx hb dX16_stand_34 ?_
  obtain ⟨i6, h⟩ := nd_ck_e h
  refine va_iast (i := x2) (x := ((sR s0.1 18 (Int32.toNatClampNeg x2)) + 1)) hx hb hK hP hD hS 20 19 rfl rfl i6 dX16_stand_35 (fun H locs hP hD hS => ?_)
  obtain ⟨s7, es7, h⟩ := nd_let_e h
  have hP : va_P (dC, dI) vwCl (dw_X16 a ac s7) H := by rw [es7]; exact hP
  have hD : va_D A (dw_X16 a ac s7) := by rw [es7]; exact hD
  exact K _ _ _ _ _ dX16_stand_36 (Option.some.inj h).symm hP hD hS
set_option maxHeartbeats 40000000 in
set_option maxRecDepth 100000 in
theorem db_X16_stand_0 {p : Program} {l : Launch} {e : Env} {s : State} {m : MethodId} {args : Array Value} {below : List Frame} {meth : Method} {c : Code} {Q : State → Prop} {A : Nat → Prop} {dC : Nat → ClassId} {dI : Nat → Nat → Nat} {a : Nat → Nat} {ac : Nat → ClassId} {n : Nat} {r : St × (St)} (C : nd_C p l s m args c A (dC, dI) cX16_stand 3 RX16 ow_dm_X16_stand (dk_X16 ac)) (K : nd_Kv p l e (headSpec ow_dm_X16_stand ({ frames := 0, cells := 0, slots := 0, locals := 0 })).room s m args below meth c Q A (dC, dI) cX16_stand (St × (St)) (dw_X16 a ac) r) : dj_X16_stand_0 p l e s m args below meth c Q A dC dI a ac (df_X16_stand_0 n) r := by
  obtain ⟨hlt, hx, hb, hml, hown, hts, hN, hA, hK⟩ := id C
  intro v0 v1 s0 H locs ls h hP hD hS hl
  unfold df_X16_stand_0 at h
  refine lv_aload_n hx hb dX16_stand_0 rfl (lv_at hl 0 rfl) ?_
  refine va_get (D := (dC, dI)) (ci := 17) (v := .ref (a 18)) (C := RX16) (T := TX16) (N := 56) hx hb hts hi_dm_X16_stand_X16 hown hK hP 0 rfl rfl 26 (by decide) (hts (.fieldLink RX16 64 "TimeMachineModel$Machine" "frame" "[I") (List.mem_of_getElem? (i := 1) rfl)) (fun _ h9 => h9) rfl dX16_stand_1 ?_
  refine lv_iload_n hx hb dX16_stand_4 rfl (lv_at hl 1 rfl) ?_
  refine lv_iload_n hx hb dX16_stand_5 rfl (lv_at hl 2 rfl) ?_
  obtain ⟨i1, h⟩ := nd_ck_e h
  refine va_iast (i := v0) (x := v1) hx hb hK hP hD hS 18 17 rfl rfl i1 dX16_stand_6 (fun H locs hP hD hS => ?_)
  obtain ⟨s2, es2, h⟩ := nd_let_e h
  have hP : va_P (dC, dI) vwCl (dw_X16 a ac s2) H := by rw [es2]; exact hP
  have hD : va_D A (dw_X16 a ac s2) := by rw [es2]; exact hD
  refine lv_aload_n hx hb dX16_stand_7 rfl (lv_at hl 0 rfl) ?_
  refine va_get (D := (dC, dI)) (ci := 17) (v := .ref (a 20)) (C := RX16) (T := TX16) (N := 56) hx hb hts hi_dm_X16_stand_X16 hown hK hP 0 rfl rfl 28 (by decide) (hts (.fieldLink RX16 70 "TimeMachineModel$Machine" "holders" "[I") (List.mem_of_getElem? (i := 2) rfl)) (fun _ h9 => h9) rfl dX16_stand_8 ?_
  refine lv_iload_n hx hb dX16_stand_11 rfl (lv_at hl 2 rfl) ?_
  obtain ⟨i3, h⟩ := nd_ck_e h
  refine va_iald (i := v1) hx hb hK hP 20 19 rfl rfl i3 dX16_stand_12 ?_
  refine lv_if_ne (tgt := 26) hx hb dX16_stand_13 (by decide) (fun c4 => ?_) (fun c4 => ?_)
  · have h := nd_neg h c4
    exact (db_X16_stand_26 C K) (v1) s2 _ _ _ h hP hD hS (lv_sub hl [0, 2] rfl)
  · have h := nd_pos h c4
    refine lv_aload_n hx hb dX16_stand_16 rfl (lv_at hl 0 rfl) ?_
    refine lv_dup hx hb dX16_stand_17 rfl ?_
    refine va_get (D := (dC, dI)) (ci := 17) (v := .int (sI s2.1 6)) (C := RX16) (T := TX16) (N := 56) hx hb hts hi_dm_X16_stand_X16 hown hK hP 0 rfl rfl 29 (by decide) (hts (.fieldLink RX16 129 "TimeMachineModel$Machine" "used" "I") (List.mem_of_getElem? (i := 3) rfl)) (fun _ h9 => h9) rfl dX16_stand_18 ?_
    refine lv_iconst (v := 1) hx hb dX16_stand_21 (by decide) ?_
    refine lv_iadd hx hb dX16_stand_22 ?_
    refine va_put (D := (dC, dI)) (ci := 17) (v := .int ((sI s2.1 6) + 1)) (ty := .int) (C := RX16) (T := TX16) (N := 56) hx hb hts hi_dm_X16_stand_X16 tyX16 tyX16_ok nmX16 hown hK hP hD hS 0 rfl rfl 29 (by decide) (hts (.fieldLink RX16 129 "TimeMachineModel$Machine" "used" "I") (List.mem_of_getElem? (i := 3) rfl)) (fun _ h9 => h9) rfl (by decide +kernel) rfl rfl (Nat.le_of_ble_eq_true rfl) dX16_stand_23 (fun H locs hP hD hS => ?_)
    obtain ⟨s8, es8, h⟩ := nd_let_e h
    have hP : va_P (dC, dI) vwCl (dw_X16 a ac s8) H := by rw [es8]; exact hP
    have hD : va_D A (dw_X16 a ac s8) := by rw [es8]; exact hD
    exact (db_X16_stand_26 C K) (v1) s8 _ _ _ h hP hD hS (lv_sub hl [0, 2] rfl)
set_option maxHeartbeats 40000000 in
set_option maxRecDepth 100000 in
theorem dm_X16_stand (l : Launch) (hlt : l.stackTraces = false) (dC : Nat → ClassId) (dI : Nat → Nat → Nat) (a : Nat → Nat) (ac : Nat → ClassId) (n : Nat) (v0 : Int32) (v1 : Int32) (s0 : St × (St)) {r : St × (St)} (h : df_X16_stand n v0 v1 s0 = some r) (sz : Nat) : Met l yX16_stand ow_dm_X16_stand ({ frames := 0, cells := 0, slots := 0, locals := 0 }) (va_Pc [.ref (a 0), .int v0, .int v1] (fun U => U.heap.size = sz ∧ va_P (dC, dI) vwCl (dw_X16 a ac s0) U.heap ∧ va_K (dC, dI) vwCl (dk_X16 ac) U ∧ va_D (fun _ => True) (dw_X16 a ac s0) ∧ nv_E dI (va_A (dw_X16 a ac s0) sz) U)) (va_Qv (fun _ => True) (fun (_ : Unit) t => va_P (dC, dI) vwCl (dw_X16 a ac r) t.heap ∧ va_K (dC, dI) vwCl (dk_X16 ac) t ∧ va_D (va_A (dw_X16 a ac s0) sz) (dw_X16 a ac r)) (va_A (dw_X16 a ac s0) sz)) 0 0 (va_A (dw_X16 a ac s0) sz) := by
  refine Met.ofW (cc := cX16_stand) (maxL := 3) (ret := none) (by decide) rfl ?_
  intro p e s m args below meth c s₁ B hml hv
  obtain ⟨rfl, hsz, hP, hK, hD0, hN⟩ := hv
  have hx := B.exec
  have hb := B.bytes
  have hr := B.returns
  have hts := atoms_spec (ws := ow_dm_X16_stand) B.pre
  have hown : s.vm.findClass RX16 = some m.cls := findClass_of_methodNamed B.named
  have hlocks := B.notSynchronized
  subst hsz
  have hD := hD0.self (sz := s.heap.size)
  generalize hAe : va_A (dw_X16 a ac s0) s.heap.size = A at hD hN ⊢
  have hA : ∀ q : Nat, s.heap.size ≤ q → A q := fun q h => by rw [← hAe]; exact Or.inr h
  have hl := lv_entry ([.ref (a 0), .int v0, .int v1]) (n := 3) (Nat.le_of_ble_eq_true rfl)
  rw [lg_entry_eq]
  generalize (lg_sl ([.ref (a 0), .int v0, .int v1]) ++ List.replicate (3 - (lg_sl ([.ref (a 0), .int v0, .int v1])).length) Slot.unset).toArray = ls at hl ⊢
  have hl : lv_has ls 3 [(0, .ref (a 0)), (1, .int v0), (2, .int v1)] := hl
  exact db_X16_stand_0 (dC := dC) (dI := dI) (a := a) (ac := ac) (n := n) (r := r) ⟨hlt, hx, hb, hml, hown, hts, hN, hA, hK⟩ (fun pc τ H locs ls d er hP hD hS => by subst er; exact W.vret hx hb hr (fun t ht hW => ⟨⟨(), rfl, trivial, by rw [ht]; exact hP, va_K.moved hW.alike hK, hD⟩, hS.F ht⟩) hS.2.2 d) v0 v1 s0 _ _ _ h hP hD va_S.rf (lv_sub hl [0, 1, 2] rfl)
def ow_dm_X16_newPage : List Cond := Cond.code yX16_newPage cX16_newPage 5 none :: ([Cond.methodLink RX16 204 yX16_freeFrame, Cond.instanceMethod yX16_freeFrame, Cond.selects RX16 yX16_freeFrame yX16_freeFrame, Cond.initialized RX16, Cond.methodLink RX16 208 yX16_stand, Cond.instanceMethod yX16_stand, Cond.selects RX16 yX16_stand yX16_stand, Cond.fieldLink RX16 67 "TimeMachineModel$Machine" "rights" "[I", Cond.fieldLink RX16 61 "TimeMachineModel$Machine" "bytes" "[I"] ++ (u_ws RX16 TX16 56 ++ (ow_dm_X16_freeFrame ++ (ow_dm_X16_stand ++ []))))
theorem gd_dm_X16_newPage : ∀ w ∈ ow_dm_X16_newPage, (w.onTables && w.keeps) = true ∨ ∃ ty, w = Cond.arrayClass ty := List.forall_mem_cons.mpr ⟨good_of_word rfl, List.forall_mem_append.mpr ⟨fun w h => good_of_word (List.all_eq_true.mp (by decide +kernel) w h), List.forall_mem_append.mpr ⟨gu_X16, List.forall_mem_append.mpr ⟨gd_dm_X16_freeFrame, List.forall_mem_append.mpr ⟨gd_dm_X16_stand, fun _ h => nomatch h⟩⟩⟩⟩⟩
theorem hi_dm_X16_newPage_X16 : ∀ w ∈ u_ws RX16 TX16 56, w ∈ ow_dm_X16_newPage := fun w h => List.mem_cons_of_mem _ (List.mem_append_right _ (List.mem_append_left _ h))
theorem gi_dm_X16_newPage_0 : GoodIn ow_dm_X16_newPage (wsV RX16 204 RX16 yX16_freeFrame ow_dm_X16_freeFrame) := goodIn_app (goodIn_of _ (by decide +kernel)) (fun w h => ⟨List.mem_cons_of_mem _ (List.mem_append_right _ (List.mem_append_right _ (List.mem_append_left _ h))), gd_dm_X16_freeFrame w h⟩)
theorem gi_dm_X16_newPage_1 : GoodIn ow_dm_X16_newPage (wsV RX16 208 RX16 yX16_stand ow_dm_X16_stand) := goodIn_app (goodIn_of _ (by decide +kernel)) (fun w h => ⟨List.mem_cons_of_mem _ (List.mem_append_right _ (List.mem_append_right _ (List.mem_append_right _ (List.mem_append_left _ h)))), gd_dm_X16_stand w h⟩)
def dj_X16_newPage_29 (p : Program) (l : Launch) (e : Env) (s : State) (m : MethodId) (args : Array Value) (below : List Frame) (meth : Method) (c : Code) (Q : State → Prop) (A : Nat → Prop) (dC : Nat → ClassId) (dI : Nat → Nat → Nat) (a : Nat → Nat) (ac : Nat → ClassId) (g : Int32 → Int32 → Int32 → (St × (St)) → Option (St × (St))) (r : St × (St)) : Prop := ∀ (x1 : Int32) (x2 : Int32) (x4 : Int32) (s0 : St × (St)) (H : Heap) (locs : List Loc) (ls : Array Slot), g x1 x2 x4 s0 = some r → va_P (dC, dI) vwCl (dw_X16 a ac s0) H → va_D A (dw_X16 a ac s0) → va_S A s.heap H locs → lv_has ls 5 [(0, .ref (a 0)), (1, .int x1), (2, .int x2), (4, .int x4)] → W p l e (headSpec ow_dm_X16_newPage ({ frames := 1, cells := 0, slots := 0, locals := 22 })).room s m args below meth c H locs 0 0 Q (F0 m 29 ls [])
def dj_X16_newPage_0 (p : Program) (l : Launch) (e : Env) (s : State) (m : MethodId) (args : Array Value) (below : List Frame) (meth : Method) (c : Code) (Q : State → Prop) (A : Nat → Prop) (dC : Nat → ClassId) (dI : Nat → Nat → Nat) (a : Nat → Nat) (ac : Nat → ClassId) (g : Int32 → Int32 → Int32 → (St × (St)) → Option (St × (St))) (r : St × (St)) : Prop := ∀ (v0 : Int32) (v1 : Int32) (v2 : Int32) (s0 : St × (St)) (H : Heap) (locs : List Loc) (ls : Array Slot), g v0 v1 v2 s0 = some r → va_P (dC, dI) vwCl (dw_X16 a ac s0) H → va_D A (dw_X16 a ac s0) → va_S A s.heap H locs → lv_has ls 5 [(0, .ref (a 0)), (1, .int v0), (2, .int v1), (3, .int v2)] → W p l e (headSpec ow_dm_X16_newPage ({ frames := 1, cells := 0, slots := 0, locals := 22 })).room s m args below meth c H locs 0 0 Q (F0 m 0 ls [])
set_option maxHeartbeats 40000000 in
set_option maxRecDepth 100000 in
theorem dB_X16_newPage_29 {p : Program} {l : Launch} {e : Env} {s : State} {m : MethodId} {args : Array Value} {below : List Frame} {meth : Method} {c : Code} {Q : State → Prop} {A : Nat → Prop} {dC : Nat → ClassId} {dI : Nat → Nat → Nat} {a : Nat → Nat} {ac : Nat → ClassId} {n : Nat} {r : St × (St)} (C : nd_C p l s m args c A (dC, dI) cX16_newPage 5 RX16 ow_dm_X16_newPage (dk_X16 ac)) (K : nd_Kv p l e (headSpec ow_dm_X16_newPage ({ frames := 1, cells := 0, slots := 0, locals := 22 })).room s m args below meth c Q A (dC, dI) cX16_newPage (St × (St)) (dw_X16 a ac) r) {g29 : Int32 → Int32 → Int32 → (St × (St)) → Option (St × (St))} (J29 : dj_X16_newPage_29 p l e s m args below meth c Q A dC dI a ac g29 r) : dj_X16_newPage_29 p l e s m args below meth c Q A dC dI a ac (dF_X16_newPage_29 n g29) r := by
  obtain ⟨hlt, hx, hb, hml, hown, hts, hN, hA, hK⟩ := id C
  intro x1 x2 x4 s0 H locs ls h hP hD hS hl
  unfold dF_X16_newPage_29 at h
  refine lv_iload hx hb dX16_newPage_29 (lv_at hl 3 rfl) ?_
  refine lv_sipush (v := 256) hx hb dX16_newPage_31 (by decide) ?_
  refine lv_icmp_ge (tgt := 63) hx hb dX16_newPage_34 (by decide) (fun c9 => ?_) (fun c9 => ?_)
  · have h := nd_pos h c9
    exact K _ _ _ _ _ dX16_newPage_63 (Option.some.inj h).symm hP hD hS
  · have h := nd_neg h c9
    refine lv_aload_n hx hb dX16_newPage_37 rfl (lv_at hl 0 rfl) ?_
    refine va_get (D := (dC, dI)) (ci := 17) (v := .ref (a 17)) (C := RX16) (T := TX16) (N := 56) hx hb hts hi_dm_X16_newPage_X16 hown hK hP 0 rfl rfl 25 (by decide) (hts (.fieldLink RX16 61 "TimeMachineModel$Machine" "bytes" "[I") (List.mem_of_getElem? (i := 9) rfl)) (fun _ h9 => h9) rfl dX16_newPage_38 ?_
    refine lv_sipush (v := 16384) hx hb dX16_newPage_41 (by decide) ?_
    refine lv_iload_n hx hb dX16_newPage_44 rfl (lv_at hl 1 rfl) ?_
    refine lv_imul hx hb dX16_newPage_45 ?_
    refine lv_sipush (v := 256) hx hb dX16_newPage_46 (by decide) ?_
    refine lv_iload_n hx hb dX16_newPage_49 rfl (lv_at hl 2 rfl) ?_
    refine lv_imul hx hb dX16_newPage_50 ?_
    refine lv_iadd hx hb dX16_newPage_51 ?_
    refine lv_iload hx hb dX16_newPage_52 (lv_at hl 3 rfl) ?_
    refine lv_iadd hx hb dX16_newPage_54 ?_
    refine lv_iconst (v := 0) hx hb dX16_newPage_55 (by decide) ?_
    obtain ⟨i10, h⟩ := nd_ck_e h
    refine va_iast (i := (((16384 * x1) + (256 * x2)) + x4)) (x := 0) hx hb hK hP hD hS 17 16 rfl rfl i10 dX16_newPage_56 (fun H locs hP hD hS => ?_)
    obtain ⟨s11, es11, h⟩ := nd_let_e h
    have hP : va_P (dC, dI) vwCl (dw_X16 a ac s11) H := by rw [es11]; exact hP
    have hD : va_D A (dw_X16 a ac s11) := by rw [es11]; exact hD
    obtain ⟨z12, ez12, h⟩ := nd_let_e h
    refine lv_iinc (v := z12) (lv' := [(4, .int z12), (0, .ref (a 0)), (1, .int x1), (2, .int x2)]) hx hb dX16_newPage_57 hl (k := 3) rfl (by rw [ez12]) (by decide) rfl (fun ls hl => ?_)
    refine lv_goto (tgt := 29) hx hb dX16_newPage_60 (by decide) ?_
    exact (J29) (x1) (x2) (z12) s11 _ _ _ h hP hD hS (lv_sub hl [1, 2, 3, 0] rfl)
set_option maxHeartbeats 40000000 in
set_option maxRecDepth 100000 in
theorem db_X16_newPage_29 {p : Program} {l : Launch} {e : Env} {s : State} {m : MethodId} {args : Array Value} {below : List Frame} {meth : Method} {c : Code} {Q : State → Prop} {A : Nat → Prop} {dC : Nat → ClassId} {dI : Nat → Nat → Nat} {a : Nat → Nat} {ac : Nat → ClassId} {n : Nat} {r : St × (St)} (C : nd_C p l s m args c A (dC, dI) cX16_newPage 5 RX16 ow_dm_X16_newPage (dk_X16 ac)) (K : nd_Kv p l e (headSpec ow_dm_X16_newPage ({ frames := 1, cells := 0, slots := 0, locals := 22 })).room s m args below meth c Q A (dC, dI) cX16_newPage (St × (St)) (dw_X16 a ac) r) (k : Nat) : dj_X16_newPage_29 p l e s m args below meth c Q A dC dI a ac (df_X16_newPage_29 n k) r := by
  induction k with
  | zero => intro x1 x2 x4 s0 H locs ls h; exact nomatch (show (none : Option (St × (St))) = some r from h)
  | succ k ih => exact dB_X16_newPage_29 C K ih
set_option maxHeartbeats 40000000 in
set_option maxRecDepth 100000 in
theorem db_X16_newPage_0 {p : Program} {l : Launch} {e : Env} {s : State} {m : MethodId} {args : Array Value} {below : List Frame} {meth : Method} {c : Code} {Q : State → Prop} {A : Nat → Prop} {dC : Nat → ClassId} {dI : Nat → Nat → Nat} {a : Nat → Nat} {ac : Nat → ClassId} {n : Nat} {r : St × (St)} (C : nd_C p l s m args c A (dC, dI) cX16_newPage 5 RX16 ow_dm_X16_newPage (dk_X16 ac)) (K : nd_Kv p l e (headSpec ow_dm_X16_newPage ({ frames := 1, cells := 0, slots := 0, locals := 22 })).room s m args below meth c Q A (dC, dI) cX16_newPage (St × (St)) (dw_X16 a ac) r) : dj_X16_newPage_0 p l e s m args below meth c Q A dC dI a ac (df_X16_newPage_0 n) r := by
  obtain ⟨hlt, hx, hb, hml, hown, hts, hN, hA, hK⟩ := id C
  intro v0 v1 v2 s0 H locs ls h hP hD hS hl
  unfold df_X16_newPage_0 at h
  refine lv_aload_n hx hb dX16_newPage_0 rfl (lv_at hl 0 rfl) ?_
  refine lv_bipush (v := 64) hx hb dX16_newPage_1 (by decide) ?_
  refine lv_iload_n hx hb dX16_newPage_3 rfl (lv_at hl 1 rfl) ?_
  refine lv_imul hx hb dX16_newPage_4 ?_
  refine lv_iload_n hx hb dX16_newPage_5 rfl (lv_at hl 2 rfl) ?_
  refine lv_iadd hx hb dX16_newPage_6 ?_
  refine lv_aload_n hx hb dX16_newPage_7 rfl (lv_at hl 0 rfl) ?_
  obtain ⟨q1, s2, hq, h⟩ := nd_b2_e h
  have hPc := hP
  have hDc := hD
  have hKc := hK
  have hFc := nd_rs hD hS hA
  refine nd_cVi (As := []) (rest := [.int ((64 * v0) + v1), .ref (a 0)]) (q := q1) (w' := dw_X16 a ac s2) ⟨hx, hb, hml, hown, hts⟩ (fun sz => dm_X16_freeFrame l hlt dC dI a ac n  s0 hq sz) (cwV 0 hts gi_dm_X16_newPage_0 rfl rfl rfl (by decide +kernel) ⟨Nat.le_of_ble_eq_true rfl, Nat.le_of_ble_eq_true rfl⟩) hPc hDc hKc hS hA hN (va_recv hKc hPc (ci := 17) (q0 := 0) rfl rfl) rfl hl.1 rfl (Nat.le_of_ble_eq_true rfl) dX16_newPage_8 (fun H locs hP1 hD1 hk1 hS => ?_)
  have hP := hP1
  have hD := hD1.weaken (fun k q _ h => hFc q.1 h)
  obtain ⟨s5, hq, h⟩ := nd_b1_e h
  have hPc := hP
  have hDc := hD
  have hKc := hK
  have hFc := nd_rs hD hS hA
  refine nd_cVv (As := [.int ((64 * v0) + v1), .int q1]) (rest := []) (w' := dw_X16 a ac s5) ⟨hx, hb, hml, hown, hts⟩ (fun sz => dm_X16_stand l hlt dC dI a ac n (((64 * v0) + v1)) (q1) s2 hq sz) (cwV 2 hts gi_dm_X16_newPage_1 rfl rfl rfl (by decide +kernel) ⟨Nat.le_of_ble_eq_true rfl, Nat.le_of_ble_eq_true rfl⟩) hPc hDc hKc hS hA hN (va_recv hKc hPc (ci := 17) (q0 := 0) rfl rfl) rfl hl.1 rfl (Nat.le_of_ble_eq_true rfl) dX16_newPage_11 (fun H locs hP1 hD1 hk1 hS => ?_)
  have hP := hP1
  have hD := hD1.weaken (fun k q _ h => hFc q.1 h)
  refine lv_aload_n hx hb dX16_newPage_14 rfl (lv_at hl 0 rfl) ?_
  refine va_get (D := (dC, dI)) (ci := 17) (v := .ref (a 19)) (C := RX16) (T := TX16) (N := 56) hx hb hts hi_dm_X16_newPage_X16 hown hK hP 0 rfl rfl 27 (by decide) (hts (.fieldLink RX16 67 "TimeMachineModel$Machine" "rights" "[I") (List.mem_of_getElem? (i := 8) rfl)) (fun _ h9 => h9) rfl dX16_newPage_15 ?_
  refine lv_bipush (v := 64) hx hb dX16_newPage_18 (by decide) ?_
  refine lv_iload_n hx hb dX16_newPage_20 rfl (lv_at hl 1 rfl) ?_
  refine lv_imul hx hb dX16_newPage_21 ?_
  refine lv_iload_n hx hb dX16_newPage_22 rfl (lv_at hl 2 rfl) ?_
  refine lv_iadd hx hb dX16_newPage_23 ?_
  refine lv_iload_n hx hb dX16_newPage_24 rfl (lv_at hl 3 rfl) ?_
  obtain ⟨i7, h⟩ := nd_ck_e h
  refine va_iast (i := ((64 * v0) + v1)) (x := v2) hx hb hK hP hD hS 19 18 rfl rfl i7 dX16_newPage_25 (fun H locs hP hD hS => ?_)
  obtain ⟨s8, es8, h⟩ := nd_let_e h
  have hP : va_P (dC, dI) vwCl (dw_X16 a ac s8) H := by rw [es8]; exact hP
  have hD : va_D A (dw_X16 a ac s8) := by rw [es8]; exact hD
  refine lv_iconst (v := 0) hx hb dX16_newPage_26 (by decide) ?_
  refine lv_istore (lv' := [(4, .int 0), (0, .ref (a 0)), (1, .int v0), (2, .int v1), (3, .int v2)]) hx hb dX16_newPage_27 hl (by decide) rfl (fun ls hl => ?_)
  exact (db_X16_newPage_29 C K n) (v0) (v1) (0) s8 _ _ _ h hP hD hS (lv_sub hl [1, 2, 3, 0] rfl)
set_option maxHeartbeats 40000000 in
set_option maxRecDepth 100000 in
theorem dm_X16_newPage (l : Launch) (hlt : l.stackTraces = false) (dC : Nat → ClassId) (dI : Nat → Nat → Nat) (a : Nat → Nat) (ac : Nat → ClassId) (n : Nat) (v0 : Int32) (v1 : Int32) (v2 : Int32) (s0 : St × (St)) {r : St × (St)} (h : df_X16_newPage n v0 v1 v2 s0 = some r) (sz : Nat) : Met l yX16_newPage ow_dm_X16_newPage ({ frames := 1, cells := 0, slots := 0, locals := 22 }) (va_Pc [.ref (a 0), .int v0, .int v1, .int v2] (fun U => U.heap.size = sz ∧ va_P (dC, dI) vwCl (dw_X16 a ac s0) U.heap ∧ va_K (dC, dI) vwCl (dk_X16 ac) U ∧ va_D (fun _ => True) (dw_X16 a ac s0) ∧ nv_E dI (va_A (dw_X16 a ac s0) sz) U)) (va_Qv (fun _ => True) (fun (_ : Unit) t => va_P (dC, dI) vwCl (dw_X16 a ac r) t.heap ∧ va_K (dC, dI) vwCl (dk_X16 ac) t ∧ va_D (va_A (dw_X16 a ac s0) sz) (dw_X16 a ac r)) (va_A (dw_X16 a ac s0) sz)) 0 0 (va_A (dw_X16 a ac s0) sz) := by
  refine Met.ofW (cc := cX16_newPage) (maxL := 5) (ret := none) (by decide) rfl ?_
  intro p e s m args below meth c s₁ B hml hv
  obtain ⟨rfl, hsz, hP, hK, hD0, hN⟩ := hv
  have hx := B.exec
  have hb := B.bytes
  have hr := B.returns
  have hts := atoms_spec (ws := ow_dm_X16_newPage) B.pre
  have hown : s.vm.findClass RX16 = some m.cls := findClass_of_methodNamed B.named
  have hlocks := B.notSynchronized
  subst hsz
  have hD := hD0.self (sz := s.heap.size)
  generalize hAe : va_A (dw_X16 a ac s0) s.heap.size = A at hD hN ⊢
  have hA : ∀ q : Nat, s.heap.size ≤ q → A q := fun q h => by rw [← hAe]; exact Or.inr h
  have hl := lv_entry ([.ref (a 0), .int v0, .int v1, .int v2]) (n := 5) (Nat.le_of_ble_eq_true rfl)
  rw [lg_entry_eq]
  generalize (lg_sl ([.ref (a 0), .int v0, .int v1, .int v2]) ++ List.replicate (5 - (lg_sl ([.ref (a 0), .int v0, .int v1, .int v2])).length) Slot.unset).toArray = ls at hl ⊢
  have hl : lv_has ls 5 [(0, .ref (a 0)), (1, .int v0), (2, .int v1), (3, .int v2)] := hl
  exact db_X16_newPage_0 (dC := dC) (dI := dI) (a := a) (ac := ac) (n := n) (r := r) ⟨hlt, hx, hb, hml, hown, hts, hN, hA, hK⟩ (fun pc τ H locs ls d er hP hD hS => by subst er; exact W.vret hx hb hr (fun t ht hW => ⟨⟨(), rfl, trivial, by rw [ht]; exact hP, va_K.moved hW.alike hK, hD⟩, hS.F ht⟩) hS.2.2 d) v0 v1 v2 s0 _ _ _ h hP hD va_S.rf (lv_sub hl [0, 1, 2, 3] rfl)
def ow_dm_X16_load : List Cond := Cond.code yX16_load cX16_load 5 none :: ([Cond.fieldLink RX16 42 "TimeMachineModel$Machine" "x" "[I", Cond.constant RX16 186 (65536), Cond.fieldLink RX16 45 "TimeMachineModel$Machine" "place" "[I", Cond.fieldLink RX16 118 "TimeMachineModel$Machine" "programs" "LTimeMachineModel$Programs;", Cond.methodLink RX16 182 yX17_dataSize, Cond.instanceMethod yX17_dataSize, Cond.selects RX17 yX17_dataSize yX17_dataSize, Cond.initialized RX17, Cond.fieldLink RX16 25 "TimeMachineModel$Machine" "heapBegin" "[I", Cond.fieldLink RX16 28 "TimeMachineModel$Machine" "heapEnd" "[I", Cond.fieldLink RX16 64 "TimeMachineModel$Machine" "frame" "[I", Cond.methodLink RX16 197 yX17_byteAt, Cond.instanceMethod yX17_byteAt, Cond.selects RX17 yX17_byteAt yX17_byteAt, Cond.methodLink RX16 201 yX16_put, Cond.instanceMethod yX16_put, Cond.selects RX16 yX16_put yX16_put, Cond.initialized RX16, Cond.methodLink RX16 187 yX16_newPage, Cond.instanceMethod yX16_newPage, Cond.selects RX16 yX16_newPage yX16_newPage] ++ (u_ws RX16 TX16 56 ++ (u_ws RX17 TX17 5 ++ (ow_dm_X17_dataSize ++ (ow_dm_X17_byteAt ++ (ow_dm_X16_put ++ (ow_dm_X16_newPage ++ [])))))))
theorem gd_dm_X16_load : ∀ w ∈ ow_dm_X16_load, (w.onTables && w.keeps) = true ∨ ∃ ty, w = Cond.arrayClass ty := List.forall_mem_cons.mpr ⟨good_of_word rfl, List.forall_mem_append.mpr ⟨fun w h => good_of_word (List.all_eq_true.mp (by decide +kernel) w h), List.forall_mem_append.mpr ⟨gu_X16, List.forall_mem_append.mpr ⟨gu_X17, List.forall_mem_append.mpr ⟨gd_dm_X17_dataSize, List.forall_mem_append.mpr ⟨gd_dm_X17_byteAt, List.forall_mem_append.mpr ⟨gd_dm_X16_put, List.forall_mem_append.mpr ⟨gd_dm_X16_newPage, fun _ h => nomatch h⟩⟩⟩⟩⟩⟩⟩⟩
theorem hi_dm_X16_load_X16 : ∀ w ∈ u_ws RX16 TX16 56, w ∈ ow_dm_X16_load := fun w h => List.mem_cons_of_mem _ (List.mem_append_right _ (List.mem_append_left _ h))
theorem hi_dm_X16_load_X17 : ∀ w ∈ u_ws RX17 TX17 5, w ∈ ow_dm_X16_load := fun w h => List.mem_cons_of_mem _ (List.mem_append_right _ (List.mem_append_right _ (List.mem_append_left _ h)))
theorem gi_dm_X16_load_0 : GoodIn ow_dm_X16_load (wsV RX16 182 RX17 yX17_dataSize ow_dm_X17_dataSize) := goodIn_app (goodIn_of _ (by decide +kernel)) (fun w h => ⟨List.mem_cons_of_mem _ (List.mem_append_right _ (List.mem_append_right _ (List.mem_append_right _ (List.mem_append_left _ h)))), gd_dm_X17_dataSize w h⟩)
theorem gi_dm_X16_load_1 : GoodIn ow_dm_X16_load (wsV RX16 197 RX17 yX17_byteAt ow_dm_X17_byteAt) := goodIn_app (goodIn_of _ (by decide +kernel)) (fun w h => ⟨List.mem_cons_of_mem _ (List.mem_append_right _ (List.mem_append_right _ (List.mem_append_right _ (List.mem_append_right _ (List.mem_append_left _ h))))), gd_dm_X17_byteAt w h⟩)
theorem gi_dm_X16_load_2 : GoodIn ow_dm_X16_load (wsV RX16 201 RX16 yX16_put ow_dm_X16_put) := goodIn_app (goodIn_of _ (by decide +kernel)) (fun w h => ⟨List.mem_cons_of_mem _ (List.mem_append_right _ (List.mem_append_right _ (List.mem_append_right _ (List.mem_append_right _ (List.mem_append_right _ (List.mem_append_left _ h)))))), gd_dm_X16_put w h⟩)
theorem gi_dm_X16_load_3 : GoodIn ow_dm_X16_load (wsV RX16 187 RX16 yX16_newPage ow_dm_X16_newPage) := goodIn_app (goodIn_of _ (by decide +kernel)) (fun w h => ⟨List.mem_cons_of_mem _ (List.mem_append_right _ (List.mem_append_right _ (List.mem_append_right _ (List.mem_append_right _ (List.mem_append_right _ (List.mem_append_right _ (List.mem_append_left _ h))))))), gd_dm_X16_newPage w h⟩)
def dj_X16_load_216 (p : Program) (l : Launch) (e : Env) (s : State) (m : MethodId) (args : Array Value) (below : List Frame) (meth : Method) (c : Code) (Q : State → Prop) (A : Nat → Prop) (dC : Nat → ClassId) (dI : Nat → Nat → Nat) (a : Nat → Nat) (ac : Nat → ClassId) (g : Int32 → Int32 → Int32 → (St × (St)) → Option (St × (St))) (r : St × (St)) : Prop := ∀ (x1 : Int32) (x2 : Int32) (x4 : Int32) (s0 : St × (St)) (H : Heap) (locs : List Loc) (ls : Array Slot), g x1 x2 x4 s0 = some r → va_P (dC, dI) vwCl (dw_X16 a ac s0) H → va_D A (dw_X16 a ac s0) → va_S A s.heap H locs → lv_has ls 5 [(0, .ref (a 0)), (1, .int x1), (2, .int x2), (4, .int x4)] → W p l e (headSpec ow_dm_X16_load ({ frames := 2, cells := 0, slots := 0, locals := 46 })).room s m args below meth c H locs 0 0 Q (F0 m 216 ls [])
def dj_X16_load_161 (p : Program) (l : Launch) (e : Env) (s : State) (m : MethodId) (args : Array Value) (below : List Frame) (meth : Method) (c : Code) (Q : State → Prop) (A : Nat → Prop) (dC : Nat → ClassId) (dI : Nat → Nat → Nat) (a : Nat → Nat) (ac : Nat → ClassId) (g : Int32 → Int32 → Int32 → (St × (St)) → Option (St × (St))) (r : St × (St)) : Prop := ∀ (x1 : Int32) (x2 : Int32) (x4 : Int32) (s0 : St × (St)) (H : Heap) (locs : List Loc) (ls : Array Slot), g x1 x2 x4 s0 = some r → va_P (dC, dI) vwCl (dw_X16 a ac s0) H → va_D A (dw_X16 a ac s0) → va_S A s.heap H locs → lv_has ls 5 [(0, .ref (a 0)), (1, .int x1), (2, .int x2), (4, .int x4)] → W p l e (headSpec ow_dm_X16_load ({ frames := 2, cells := 0, slots := 0, locals := 46 })).room s m args below meth c H locs 0 0 Q (F0 m 161 ls [])
def dj_X16_load_137 (p : Program) (l : Launch) (e : Env) (s : State) (m : MethodId) (args : Array Value) (below : List Frame) (meth : Method) (c : Code) (Q : State → Prop) (A : Nat → Prop) (dC : Nat → ClassId) (dI : Nat → Nat → Nat) (a : Nat → Nat) (ac : Nat → ClassId) (g : Int32 → Int32 → Int32 → (St × (St)) → Option (St × (St))) (r : St × (St)) : Prop := ∀ (x1 : Int32) (x2 : Int32) (x4 : Int32) (s0 : St × (St)) (H : Heap) (locs : List Loc) (ls : Array Slot), g x1 x2 x4 s0 = some r → va_P (dC, dI) vwCl (dw_X16 a ac s0) H → va_D A (dw_X16 a ac s0) → va_S A s.heap H locs → lv_has ls 5 [(0, .ref (a 0)), (1, .int x1), (2, .int x2), (4, .int x4)] → W p l e (headSpec ow_dm_X16_load ({ frames := 2, cells := 0, slots := 0, locals := 46 })).room s m args below meth c H locs 0 0 Q (F0 m 137 ls [])
def dj_X16_load_89 (p : Program) (l : Launch) (e : Env) (s : State) (m : MethodId) (args : Array Value) (below : List Frame) (meth : Method) (c : Code) (Q : State → Prop) (A : Nat → Prop) (dC : Nat → ClassId) (dI : Nat → Nat → Nat) (a : Nat → Nat) (ac : Nat → ClassId) (g : Int32 → Int32 → Int32 → (St × (St)) → Option (St × (St))) (r : St × (St)) : Prop := ∀ (x1 : Int32) (x2 : Int32) (x4 : Int32) (s0 : St × (St)) (H : Heap) (locs : List Loc) (ls : Array Slot), g x1 x2 x4 s0 = some r → va_P (dC, dI) vwCl (dw_X16 a ac s0) H → va_D A (dw_X16 a ac s0) → va_S A s.heap H locs → lv_has ls 5 [(0, .ref (a 0)), (1, .int x1), (2, .int x2), (4, .int x4)] → W p l e (headSpec ow_dm_X16_load ({ frames := 2, cells := 0, slots := 0, locals := 46 })).room s m args below meth c H locs 0 0 Q (F0 m 89 ls [])
def dj_X16_load_59 (p : Program) (l : Launch) (e : Env) (s : State) (m : MethodId) (args : Array Value) (below : List Frame) (meth : Method) (c : Code) (Q : State → Prop) (A : Nat → Prop) (dC : Nat → ClassId) (dI : Nat → Nat → Nat) (a : Nat → Nat) (ac : Nat → ClassId) (g : Int32 → Int32 → Int32 → Int32 → (St × (St)) → Option (St × (St))) (r : St × (St)) : Prop := ∀ (x1 : Int32) (x2 : Int32) (x3 : Int32) (x4 : Int32) (s0 : St × (St)) (H : Heap) (locs : List Loc) (ls : Array Slot), g x1 x2 x3 x4 s0 = some r → va_P (dC, dI) vwCl (dw_X16 a ac s0) H → va_D A (dw_X16 a ac s0) → va_S A s.heap H locs → lv_has ls 5 [(0, .ref (a 0)), (1, .int x1), (2, .int x2), (3, .int x3), (4, .int x4)] → W p l e (headSpec ow_dm_X16_load ({ frames := 2, cells := 0, slots := 0, locals := 46 })).room s m args below meth c H locs 0 0 Q (F0 m 59 ls [])
def dj_X16_load_2 (p : Program) (l : Launch) (e : Env) (s : State) (m : MethodId) (args : Array Value) (below : List Frame) (meth : Method) (c : Code) (Q : State → Prop) (A : Nat → Prop) (dC : Nat → ClassId) (dI : Nat → Nat → Nat) (a : Nat → Nat) (ac : Nat → ClassId) (g : Int32 → Int32 → Int32 → (St × (St)) → Option (St × (St))) (r : St × (St)) : Prop := ∀ (x1 : Int32) (x2 : Int32) (x3 : Int32) (s0 : St × (St)) (H : Heap) (locs : List Loc) (ls : Array Slot), g x1 x2 x3 s0 = some r → va_P (dC, dI) vwCl (dw_X16 a ac s0) H → va_D A (dw_X16 a ac s0) → va_S A s.heap H locs → lv_has ls 5 [(0, .ref (a 0)), (1, .int x1), (2, .int x2), (3, .int x3)] → W p l e (headSpec ow_dm_X16_load ({ frames := 2, cells := 0, slots := 0, locals := 46 })).room s m args below meth c H locs 0 0 Q (F0 m 2 ls [])
def dj_X16_load_0 (p : Program) (l : Launch) (e : Env) (s : State) (m : MethodId) (args : Array Value) (below : List Frame) (meth : Method) (c : Code) (Q : State → Prop) (A : Nat → Prop) (dC : Nat → ClassId) (dI : Nat → Nat → Nat) (a : Nat → Nat) (ac : Nat → ClassId) (g : Int32 → Int32 → (St × (St)) → Option (St × (St))) (r : St × (St)) : Prop := ∀ (v0 : Int32) (v1 : Int32) (s0 : St × (St)) (H : Heap) (locs : List Loc) (ls : Array Slot), g v0 v1 s0 = some r → va_P (dC, dI) vwCl (dw_X16 a ac s0) H → va_D A (dw_X16 a ac s0) → va_S A s.heap H locs → lv_has ls 5 [(0, .ref (a 0)), (1, .int v0), (2, .int v1)] → W p l e (headSpec ow_dm_X16_load ({ frames := 2, cells := 0, slots := 0, locals := 46 })).room s m args below meth c H locs 0 0 Q (F0 m 0 ls [])
set_option maxHeartbeats 40000000 in
set_option maxRecDepth 100000 in
theorem db_X16_load_216 {p : Program} {l : Launch} {e : Env} {s : State} {m : MethodId} {args : Array Value} {below : List Frame} {meth : Method} {c : Code} {Q : State → Prop} {A : Nat → Prop} {dC : Nat → ClassId} {dI : Nat → Nat → Nat} {a : Nat → Nat} {ac : Nat → ClassId} {n : Nat} {r : St × (St)} (C : nd_C p l s m args c A (dC, dI) cX16_load 5 RX16 ow_dm_X16_load (dk_X16 ac)) (K : nd_Kv p l e (headSpec ow_dm_X16_load ({ frames := 2, cells := 0, slots := 0, locals := 46 })).room s m args below meth c Q A (dC, dI) cX16_load (St × (St)) (dw_X16 a ac) r) {g161 : Int32 → Int32 → Int32 → (St × (St)) → Option (St × (St))} (J161 : dj_X16_load_161 p l e s m args below meth c Q A dC dI a ac g161 r) : dj_X16_load_216 p l e s m args below meth c Q A dC dI a ac (df_X16_load_216 n g161) r := by
  obtain ⟨hlt, hx, hb, hml, hown, hts, hN, hA, hK⟩ := id C
  intro x1 x2 x4 s0 H locs ls h hP hD hS hl
  unfold df_X16_load_216 at h
  obtain ⟨z24, ez24, h⟩ := nd_let_e h
  refine lv_iinc (v := z24) (lv' := [(4, .int z24), (0, .ref (a 0)), (1, .int x1), (2, .int x2)]) hx hb dX16_load_216 hl (k := 3) rfl (by rw [ez24]) (by decide) rfl (fun ls hl => ?_)
  refine lv_goto (tgt := 161) hx hb dX16_load_219 (by decide) ?_
  exact (J161) (x1) (x2) (z24) s0 _ _ _ h hP hD hS (lv_sub hl [1, 2, 3, 0] rfl)
set_option maxHeartbeats 40000000 in
set_option maxRecDepth 100000 in
theorem dB_X16_load_161 {p : Program} {l : Launch} {e : Env} {s : State} {m : MethodId} {args : Array Value} {below : List Frame} {meth : Method} {c : Code} {Q : State → Prop} {A : Nat → Prop} {dC : Nat → ClassId} {dI : Nat → Nat → Nat} {a : Nat → Nat} {ac : Nat → ClassId} {n : Nat} {r : St × (St)} (C : nd_C p l s m args c A (dC, dI) cX16_load 5 RX16 ow_dm_X16_load (dk_X16 ac)) (K : nd_Kv p l e (headSpec ow_dm_X16_load ({ frames := 2, cells := 0, slots := 0, locals := 46 })).room s m args below meth c Q A (dC, dI) cX16_load (St × (St)) (dw_X16 a ac) r) {g161 : Int32 → Int32 → Int32 → (St × (St)) → Option (St × (St))} (J161 : dj_X16_load_161 p l e s m args below meth c Q A dC dI a ac g161 r) : dj_X16_load_161 p l e s m args below meth c Q A dC dI a ac (dF_X16_load_161 n g161) r := by
  obtain ⟨hlt, hx, hb, hml, hown, hts, hN, hA, hK⟩ := id C
  intro x1 x2 x4 s0 H locs ls h hP hD hS hl
  unfold dF_X16_load_161 at h
  refine lv_iload hx hb dX16_load_161 (lv_at hl 3 rfl) ?_
  refine lv_aload_n hx hb dX16_load_163 rfl (lv_at hl 0 rfl) ?_
  refine va_get (D := (dC, dI)) (ci := 17) (v := .ref (a 36)) (C := RX16) (T := TX16) (N := 56) hx hb hts hi_dm_X16_load_X16 hown hK hP 0 rfl rfl 0 (by decide) (hts (.fieldLink RX16 118 "TimeMachineModel$Machine" "programs" "LTimeMachineModel$Programs;") (List.mem_of_getElem? (i := 4) rfl)) (fun _ h9 => h9) rfl dX16_load_164 ?_
  refine va_getN (D := (dC, dI)) (ci := 18) (v := .ref (a 40)) (C := RX17) (T := TX17) (N := 5) hx hb hts hi_dm_X16_load_X17 hown hK hP 36 rfl rfl 3 (by decide) (va_Nw.use rfl (hN.1 ("TimeMachineModel$Machine", 194, "TimeMachineModel$Programs", "size", "[I", "TimeMachineModel") (by decide))) (fun _ h9 => h9) rfl dX16_load_167 ?_
  refine lv_iload_n hx hb dX16_load_170 rfl (lv_at hl 2 rfl) ?_
  obtain ⟨i15, h⟩ := nd_ck_e h
  refine va_iald (i := x2) hx hb hK hP 40 38 rfl rfl i15 dX16_load_171 ?_
  refine lv_icmp_ge (tgt := 222) hx hb dX16_load_172 (by decide) (fun c16 => ?_) (fun c16 => ?_)
  · have h := nd_pos h c16
    refine lv_aload_n hx hb dX16_load_222 rfl (lv_at hl 0 rfl) ?_
    refine va_get (D := (dC, dI)) (ci := 17) (v := .ref (a 6)) (C := RX16) (T := TX16) (N := 56) hx hb hts hi_dm_X16_load_X16 hown hK hP 0 rfl rfl 14 (by decide) (hts (.fieldLink RX16 25 "TimeMachineModel$Machine" "heapBegin" "[I") (List.mem_of_getElem? (i := 9) rfl)) (fun _ h9 => h9) rfl dX16_load_223 ?_
    refine lv_iload_n hx hb dX16_load_226 rfl (lv_at hl 1 rfl) ?_
    refine lv_aload_n hx hb dX16_load_227 rfl (lv_at hl 0 rfl) ?_
    refine va_get (D := (dC, dI)) (ci := 17) (v := .ref (a 7)) (C := RX16) (T := TX16) (N := 56) hx hb hts hi_dm_X16_load_X16 hown hK hP 0 rfl rfl 15 (by decide) (hts (.fieldLink RX16 28 "TimeMachineModel$Machine" "heapEnd" "[I") (List.mem_of_getElem? (i := 10) rfl)) (fun _ h9 => h9) rfl dX16_load_228 ?_
    refine lv_iload_n hx hb dX16_load_231 rfl (lv_at hl 1 rfl) ?_
    refine lv_aload_n hx hb dX16_load_232 rfl (lv_at hl 0 rfl) ?_
    refine va_get (D := (dC, dI)) (ci := 17) (v := .ref (a 36)) (C := RX16) (T := TX16) (N := 56) hx hb hts hi_dm_X16_load_X16 hown hK hP 0 rfl rfl 0 (by decide) (hts (.fieldLink RX16 118 "TimeMachineModel$Machine" "programs" "LTimeMachineModel$Programs;") (List.mem_of_getElem? (i := 4) rfl)) (fun _ h9 => h9) rfl dX16_load_233 ?_
    refine va_getN (D := (dC, dI)) (ci := 18) (v := .ref (a 40)) (C := RX17) (T := TX17) (N := 5) hx hb hts hi_dm_X16_load_X17 hown hK hP 36 rfl rfl 3 (by decide) (va_Nw.use rfl (hN.1 ("TimeMachineModel$Machine", 194, "TimeMachineModel$Programs", "size", "[I", "TimeMachineModel") (by decide))) (fun _ h9 => h9) rfl dX16_load_236 ?_
    refine lv_iload_n hx hb dX16_load_239 rfl (lv_at hl 2 rfl) ?_
    obtain ⟨i17, h⟩ := nd_ck_e h
    refine va_iald (i := x2) hx hb hK hP 40 38 rfl rfl i17 dX16_load_240 ?_
    refine lv_sipush (v := 1023) hx hb dX16_load_241 (by decide) ?_
    refine lv_iadd hx hb dX16_load_244 ?_
    refine lv_sipush (v := 1024) hx hb dX16_load_245 (by decide) ?_
    refine lv_idiv hx hb dX16_load_248 (by decide) ?_
    refine lv_sipush (v := 1024) hx hb dX16_load_249 (by decide) ?_
    refine lv_imul hx hb dX16_load_252 ?_
    refine lv_dup_x2 hx hb dX16_load_253 rfl rfl rfl ?_
    obtain ⟨i18, h⟩ := nd_ck_e h
    refine va_iast (i := x1) (x := (((((sR s0.2 3 (Int32.toNatClampNeg x2)) + 1023) : Int32) / 1024) * 1024)) hx hb hK hP hD hS 7 6 rfl rfl i18 dX16_load_254 (fun H locs hP hD hS => ?_)
    obtain ⟨s19, es19, h⟩ := nd_let_e h
    have hP : va_P (dC, dI) vwCl (dw_X16 a ac s19) H := by rw [es19]; exact hP
    have hD : va_D A (dw_X16 a ac s19) := by rw [es19]; exact hD
    obtain ⟨i20, h⟩ := nd_ck_e h
    refine va_iast (i := x1) (x := (((((sR s0.2 3 (Int32.toNatClampNeg x2)) + 1023) : Int32) / 1024) * 1024)) hx hb hK hP hD hS 6 5 rfl rfl i20 dX16_load_255 (fun H locs hP hD hS => ?_)
    obtain ⟨s21, es21, h⟩ := nd_let_e h
    have hP : va_P (dC, dI) vwCl (dw_X16 a ac s21) H := by rw [es21]; exact hP
    have hD : va_D A (dw_X16 a ac s21) := by rw [es21]; exact hD
    exact K _ _ _ _ _ dX16_load_256 (Option.some.inj h).symm hP hD hS
  · have h := nd_neg h c16
    refine lv_aload_n hx hb dX16_load_175 rfl (lv_at hl 0 rfl) ?_
    refine va_get (D := (dC, dI)) (ci := 17) (v := .ref (a 18)) (C := RX16) (T := TX16) (N := 56) hx hb hts hi_dm_X16_load_X16 hown hK hP 0 rfl rfl 26 (by decide) (hts (.fieldLink RX16 64 "TimeMachineModel$Machine" "frame" "[I") (List.mem_of_getElem? (i := 11) rfl)) (fun _ h9 => h9) rfl dX16_load_176 ?_
    refine lv_bipush (v := 64) hx hb dX16_load_179 (by decide) ?_
    refine lv_iload_n hx hb dX16_load_181 rfl (lv_at hl 1 rfl) ?_
    refine lv_imul hx hb dX16_load_182 ?_
    refine lv_iload hx hb dX16_load_183 (lv_at hl 3 rfl) ?_
    refine lv_sipush (v := 1024) hx hb dX16_load_185 (by decide) ?_
    refine lv_idiv hx hb dX16_load_188 (by decide) ?_
    refine lv_iadd hx hb dX16_load_189 ?_
    obtain ⟨i22, h⟩ := nd_ck_e h
    refine va_iald (i := ((64 * x1) + ((x4 : Int32) / 1024))) hx hb hK hP 18 17 rfl rfl i22 dX16_load_190 ?_
    refine lv_iconst (v := (-1)) hx hb dX16_load_191 (by decide) ?_
    refine lv_icmp_eq (tgt := 216) hx hb dX16_load_192 (by decide) (fun c23 => ?_) (fun c23 => ?_)
    · have h := nd_pos h c23
      exact (db_X16_load_216 C K J161) (x1) (x2) (x4) s0 _ _ _ h hP hD hS (lv_sub hl [0, 1, 2, 3] rfl)
    · have h := nd_neg h c23
      refine lv_aload_n hx hb dX16_load_195 rfl (lv_at hl 0 rfl) ?_
      refine lv_ldc hx hb hown (hts (.constant RX16 186 (65536)) (List.mem_of_getElem? (i := 2) rfl)) dX16_load_196 ?_
      refine lv_iload_n hx hb dX16_load_198 rfl (lv_at hl 1 rfl) ?_
      refine lv_imul hx hb dX16_load_199 ?_
      refine lv_iload hx hb dX16_load_200 (lv_at hl 3 rfl) ?_
      refine lv_iadd hx hb dX16_load_202 ?_
      refine lv_aload_n hx hb dX16_load_203 rfl (lv_at hl 0 rfl) ?_
      refine va_get (D := (dC, dI)) (ci := 17) (v := .ref (a 36)) (C := RX16) (T := TX16) (N := 56) hx hb hts hi_dm_X16_load_X16 hown hK hP 0 rfl rfl 0 (by decide) (hts (.fieldLink RX16 118 "TimeMachineModel$Machine" "programs" "LTimeMachineModel$Programs;") (List.mem_of_getElem? (i := 4) rfl)) (fun _ h9 => h9) rfl dX16_load_204 ?_
      refine lv_iload_n hx hb dX16_load_207 rfl (lv_at hl 2 rfl) ?_
      refine lv_iload hx hb dX16_load_208 (lv_at hl 3 rfl) ?_
      obtain ⟨q25, s26, hq, h⟩ := nd_b2_e h
      have hPc := dp_X16_36 hP
      have hDc := dd_X16_36 hD
      have hKc := dy_X16_36 hK
      have hFc := nd_rs hDc hS hA
      have hzA : ∀ q : Nat, H.size ≤ q → A q := fun q h => hA q (Nat.le_trans hS.1 h)
      refine nd_cVi (As := [.int x2, .int x4]) (rest := [.int ((65536 * x1) + x4), .ref (a 0)]) (q := q25) (w' := dw_X17 (fun k => a (k + 36)) (fun k => ac (k + 36)) s26) ⟨hx, hb, hml, hown, hts⟩ (fun sz => dm_X17_byteAt l hlt dC dI (fun k => a (k + 36)) (fun k => ac (k + 36)) n (x2) (x4) s0.2 hq sz) (cwV 2 hts gi_dm_X16_load_1 rfl rfl rfl (by decide +kernel) ⟨Nat.le_of_ble_eq_true rfl, Nat.le_of_ble_eq_true rfl⟩) hPc hDc hKc hS hA hN (va_recv hKc hPc (ci := 18) (q0 := 0) rfl rfl) rfl hl.1 rfl (Nat.le_of_ble_eq_true rfl) dX16_load_210 (fun H locs hP1 hD1 hk1 hS => ?_)
      obtain ⟨hP, hD⟩ := dn_X16_36 hP hD hzA hk1 hP1 hD1
      obtain ⟨s28, es28, h⟩ := nd_let_e h
      have hP : va_P (dC, dI) vwCl (dw_X16 a ac s28) H := by rw [es28]; exact hP
      have hD : va_D A (dw_X16 a ac s28) := by rw [es28]; exact hD
      obtain ⟨s30, hq, h⟩ := nd_b1_e h
      have hPc := hP
      have hDc := hD
      have hKc := hK
      have hFc := nd_rs hD hS hA
      refine nd_cVv (As := [.int ((65536 * x1) + x4), .int q25]) (rest := []) (w' := dw_X16 a ac s30) ⟨hx, hb, hml, hown, hts⟩ (fun sz => dm_X16_put l hlt dC dI a ac n (((65536 * x1) + x4)) (q25) s28 hq sz) (cwV 2 hts gi_dm_X16_load_2 rfl rfl rfl (by decide +kernel) ⟨Nat.le_of_ble_eq_true rfl, Nat.le_of_ble_eq_true rfl⟩) hPc hDc hKc hS hA hN (va_recv hKc hPc (ci := 17) (q0 := 0) rfl rfl) rfl hl.1 rfl (Nat.le_of_ble_eq_true rfl) dX16_load_213 (fun H locs hP1 hD1 hk1 hS => ?_)
      have hP := hP1
      have hD := hD1.weaken (fun k q _ h => hFc q.1 h)
      exact (db_X16_load_216 C K J161) (x1) (x2) (x4) s30 _ _ _ h hP hD hS (lv_sub hl [0, 1, 2, 3] rfl)
set_option maxHeartbeats 40000000 in
set_option maxRecDepth 100000 in
theorem db_X16_load_161 {p : Program} {l : Launch} {e : Env} {s : State} {m : MethodId} {args : Array Value} {below : List Frame} {meth : Method} {c : Code} {Q : State → Prop} {A : Nat → Prop} {dC : Nat → ClassId} {dI : Nat → Nat → Nat} {a : Nat → Nat} {ac : Nat → ClassId} {n : Nat} {r : St × (St)} (C : nd_C p l s m args c A (dC, dI) cX16_load 5 RX16 ow_dm_X16_load (dk_X16 ac)) (K : nd_Kv p l e (headSpec ow_dm_X16_load ({ frames := 2, cells := 0, slots := 0, locals := 46 })).room s m args below meth c Q A (dC, dI) cX16_load (St × (St)) (dw_X16 a ac) r) (k : Nat) : dj_X16_load_161 p l e s m args below meth c Q A dC dI a ac (df_X16_load_161 n k) r := by
  induction k with
  | zero => intro x1 x2 x4 s0 H locs ls h; exact nomatch (show (none : Option (St × (St))) = some r from h)
  | succ k ih => exact dB_X16_load_161 C K ih
set_option maxHeartbeats 40000000 in
set_option maxRecDepth 100000 in
theorem dB_X16_load_137 {p : Program} {l : Launch} {e : Env} {s : State} {m : MethodId} {args : Array Value} {below : List Frame} {meth : Method} {c : Code} {Q : State → Prop} {A : Nat → Prop} {dC : Nat → ClassId} {dI : Nat → Nat → Nat} {a : Nat → Nat} {ac : Nat → ClassId} {n : Nat} {r : St × (St)} (C : nd_C p l s m args c A (dC, dI) cX16_load 5 RX16 ow_dm_X16_load (dk_X16 ac)) (K : nd_Kv p l e (headSpec ow_dm_X16_load ({ frames := 2, cells := 0, slots := 0, locals := 46 })).room s m args below meth c Q A (dC, dI) cX16_load (St × (St)) (dw_X16 a ac) r) {g137 : Int32 → Int32 → Int32 → (St × (St)) → Option (St × (St))} (J137 : dj_X16_load_137 p l e s m args below meth c Q A dC dI a ac g137 r) : dj_X16_load_137 p l e s m args below meth c Q A dC dI a ac (dF_X16_load_137 n g137) r := by
  obtain ⟨hlt, hx, hb, hml, hown, hts, hN, hA, hK⟩ := id C
  intro x1 x2 x4 s0 H locs ls h hP hD hS hl
  unfold dF_X16_load_137 at h
  refine lv_iload hx hb dX16_load_137 (lv_at hl 3 rfl) ?_
  refine lv_bipush (v := 64) hx hb dX16_load_139 (by decide) ?_
  refine lv_icmp_ge (tgt := 158) hx hb dX16_load_141 (by decide) (fun c14 => ?_) (fun c14 => ?_)
  · have h := nd_pos h c14
    refine lv_iconst (v := 0) hx hb dX16_load_158 (by decide) ?_
    refine lv_istore (lv' := [(4, .int 0), (0, .ref (a 0)), (1, .int x1), (2, .int x2)]) hx hb dX16_load_159 hl (by decide) rfl (fun ls hl => ?_)
    exact (db_X16_load_161 C K n) (x1) (x2) (0) s0 _ _ _ h hP hD hS (lv_sub hl [1, 2, 3, 0] rfl)
  · have h := nd_neg h c14
    refine lv_aload_n hx hb dX16_load_144 rfl (lv_at hl 0 rfl) ?_
    refine lv_iload_n hx hb dX16_load_145 rfl (lv_at hl 1 rfl) ?_
    refine lv_iload hx hb dX16_load_146 (lv_at hl 3 rfl) ?_
    refine lv_iconst (v := 3) hx hb dX16_load_148 (by decide) ?_
    obtain ⟨s33, hq, h⟩ := nd_b1_e h
    have hPc := hP
    have hDc := hD
    have hKc := hK
    have hFc := nd_rs hD hS hA
    refine nd_cVv (As := [.int x1, .int x4, .int 3]) (rest := []) (w' := dw_X16 a ac s33) ⟨hx, hb, hml, hown, hts⟩ (fun sz => dm_X16_newPage l hlt dC dI a ac n (x1) (x4) (3) s0 hq sz) (cwV 3 hts gi_dm_X16_load_3 rfl rfl rfl (by decide +kernel) ⟨Nat.le_of_ble_eq_true rfl, Nat.le_of_ble_eq_true rfl⟩) hPc hDc hKc hS hA hN (va_recv hKc hPc (ci := 17) (q0 := 0) rfl rfl) rfl hl.1 rfl (Nat.le_of_ble_eq_true rfl) dX16_load_149 (fun H locs hP1 hD1 hk1 hS => ?_)
    have hP := hP1
    have hD := hD1.weaken (fun k q _ h => hFc q.1 h)
    obtain ⟨z35, ez35, h⟩ := nd_let_e h
    refine lv_iinc (v := z35) (lv' := [(4, .int z35), (0, .ref (a 0)), (1, .int x1), (2, .int x2)]) hx hb dX16_load_152 hl (k := 3) rfl (by rw [ez35]) (by decide) rfl (fun ls hl => ?_)
    refine lv_goto (tgt := 137) hx hb dX16_load_155 (by decide) ?_
    exact (J137) (x1) (x2) (z35) s33 _ _ _ h hP hD hS (lv_sub hl [1, 2, 3, 0] rfl)
set_option maxHeartbeats 40000000 in
set_option maxRecDepth 100000 in
theorem db_X16_load_137 {p : Program} {l : Launch} {e : Env} {s : State} {m : MethodId} {args : Array Value} {below : List Frame} {meth : Method} {c : Code} {Q : State → Prop} {A : Nat → Prop} {dC : Nat → ClassId} {dI : Nat → Nat → Nat} {a : Nat → Nat} {ac : Nat → ClassId} {n : Nat} {r : St × (St)} (C : nd_C p l s m args c A (dC, dI) cX16_load 5 RX16 ow_dm_X16_load (dk_X16 ac)) (K : nd_Kv p l e (headSpec ow_dm_X16_load ({ frames := 2, cells := 0, slots := 0, locals := 46 })).room s m args below meth c Q A (dC, dI) cX16_load (St × (St)) (dw_X16 a ac) r) (k : Nat) : dj_X16_load_137 p l e s m args below meth c Q A dC dI a ac (df_X16_load_137 n k) r := by
  induction k with
  | zero => intro x1 x2 x4 s0 H locs ls h; exact nomatch (show (none : Option (St × (St))) = some r from h)
  | succ k ih => exact dB_X16_load_137 C K ih
set_option maxHeartbeats 40000000 in
set_option maxRecDepth 100000 in
theorem dB_X16_load_89 {p : Program} {l : Launch} {e : Env} {s : State} {m : MethodId} {args : Array Value} {below : List Frame} {meth : Method} {c : Code} {Q : State → Prop} {A : Nat → Prop} {dC : Nat → ClassId} {dI : Nat → Nat → Nat} {a : Nat → Nat} {ac : Nat → ClassId} {n : Nat} {r : St × (St)} (C : nd_C p l s m args c A (dC, dI) cX16_load 5 RX16 ow_dm_X16_load (dk_X16 ac)) (K : nd_Kv p l e (headSpec ow_dm_X16_load ({ frames := 2, cells := 0, slots := 0, locals := 46 })).room s m args below meth c Q A (dC, dI) cX16_load (St × (St)) (dw_X16 a ac) r) {g89 : Int32 → Int32 → Int32 → (St × (St)) → Option (St × (St))} (J89 : dj_X16_load_89 p l e s m args below meth c Q A dC dI a ac g89 r) : dj_X16_load_89 p l e s m args below meth c Q A dC dI a ac (dF_X16_load_89 n g89) r := by
  obtain ⟨hlt, hx, hb, hml, hown, hts, hN, hA, hK⟩ := id C
  intro x1 x2 x4 s0 H locs ls h hP hD hS hl
  unfold dF_X16_load_89 at h
  refine lv_iload hx hb dX16_load_89 (lv_at hl 3 rfl) ?_
  refine lv_aload_n hx hb dX16_load_91 rfl (lv_at hl 0 rfl) ?_
  refine va_get (D := (dC, dI)) (ci := 17) (v := .ref (a 36)) (C := RX16) (T := TX16) (N := 56) hx hb hts hi_dm_X16_load_X16 hown hK hP 0 rfl rfl 0 (by decide) (hts (.fieldLink RX16 118 "TimeMachineModel$Machine" "programs" "LTimeMachineModel$Programs;") (List.mem_of_getElem? (i := 4) rfl)) (fun _ h9 => h9) rfl dX16_load_92 ?_
  refine lv_iload_n hx hb dX16_load_95 rfl (lv_at hl 2 rfl) ?_
  obtain ⟨q9, s10, hq, h⟩ := nd_b2_e h
  have hPc := dp_X16_36 hP
  have hDc := dd_X16_36 hD
  have hKc := dy_X16_36 hK
  have hFc := nd_rs hDc hS hA
  have hzA : ∀ q : Nat, H.size ≤ q → A q := fun q h => hA q (Nat.le_trans hS.1 h)
  refine nd_cVi (As := [.int x2]) (rest := [.int x4]) (q := q9) (w' := dw_X17 (fun k => a (k + 36)) (fun k => ac (k + 36)) s10) ⟨hx, hb, hml, hown, hts⟩ (fun sz => dm_X17_dataSize l hlt dC dI (fun k => a (k + 36)) (fun k => ac (k + 36)) n (x2) s0.2 hq sz) (cwV 1 hts gi_dm_X16_load_0 rfl rfl rfl (by decide +kernel) ⟨Nat.le_of_ble_eq_true rfl, Nat.le_of_ble_eq_true rfl⟩) hPc hDc hKc hS hA hN (va_recv hKc hPc (ci := 18) (q0 := 0) rfl rfl) rfl hl.1 rfl (Nat.le_of_ble_eq_true rfl) dX16_load_96 (fun H locs hP1 hD1 hk1 hS => ?_)
  obtain ⟨hP, hD⟩ := dn_X16_36 hP hD hzA hk1 hP1 hD1
  obtain ⟨s12, es12, h⟩ := nd_let_e h
  have hP : va_P (dC, dI) vwCl (dw_X16 a ac s12) H := by rw [es12]; exact hP
  have hD : va_D A (dw_X16 a ac s12) := by rw [es12]; exact hD
  refine lv_icmp_ge (tgt := 133) hx hb dX16_load_99 (by decide) (fun c13 => ?_) (fun c13 => ?_)
  · have h := nd_pos h c13
    refine lv_bipush (v := 60) hx hb dX16_load_133 (by decide) ?_
    refine lv_istore (lv' := [(4, .int 60), (0, .ref (a 0)), (1, .int x1), (2, .int x2)]) hx hb dX16_load_135 hl (by decide) rfl (fun ls hl => ?_)
    exact (db_X16_load_137 C K n) (x1) (x2) (60) s12 _ _ _ h hP hD hS (lv_sub hl [1, 2, 3, 0] rfl)
  · have h := nd_neg h c13
    refine lv_aload_n hx hb dX16_load_102 rfl (lv_at hl 0 rfl) ?_
    refine lv_iload_n hx hb dX16_load_103 rfl (lv_at hl 1 rfl) ?_
    refine lv_aload_n hx hb dX16_load_104 rfl (lv_at hl 0 rfl) ?_
    refine va_get (D := (dC, dI)) (ci := 17) (v := .ref (a 36)) (C := RX16) (T := TX16) (N := 56) hx hb hts hi_dm_X16_load_X16 hown hK hP 0 rfl rfl 0 (by decide) (hts (.fieldLink RX16 118 "TimeMachineModel$Machine" "programs" "LTimeMachineModel$Programs;") (List.mem_of_getElem? (i := 4) rfl)) (fun _ h9 => h9) rfl dX16_load_105 ?_
    refine va_getN (D := (dC, dI)) (ci := 18) (v := .ref (a 39)) (C := RX17) (T := TX17) (N := 5) hx hb hts hi_dm_X16_load_X17 hown hK hP 36 rfl rfl 2 (by decide) (va_Nw.use rfl (hN.1 ("TimeMachineModel$Machine", 191, "TimeMachineModel$Programs", "dataBegin", "[I", "TimeMachineModel") (by decide))) (fun _ h9 => h9) rfl dX16_load_108 ?_
    refine lv_iload_n hx hb dX16_load_111 rfl (lv_at hl 2 rfl) ?_
    obtain ⟨i36, h⟩ := nd_ck_e h
    refine va_iald (i := x2) hx hb hK hP 39 37 rfl rfl i36 dX16_load_112 ?_
    refine lv_iload hx hb dX16_load_113 (lv_at hl 3 rfl) ?_
    refine lv_iadd hx hb dX16_load_115 ?_
    refine lv_sipush (v := 1024) hx hb dX16_load_116 (by decide) ?_
    refine lv_idiv hx hb dX16_load_119 (by decide) ?_
    refine lv_iconst (v := 3) hx hb dX16_load_120 (by decide) ?_
    obtain ⟨s38, hq, h⟩ := nd_b1_e h
    have hPc := hP
    have hDc := hD
    have hKc := hK
    have hFc := nd_rs hD hS hA
    refine nd_cVv (As := [.int x1, .int ((((sR s12.2 2 (Int32.toNatClampNeg x2)) + x4) : Int32) / 1024), .int 3]) (rest := []) (w' := dw_X16 a ac s38) ⟨hx, hb, hml, hown, hts⟩ (fun sz => dm_X16_newPage l hlt dC dI a ac n (x1) (((((sR s12.2 2 (Int32.toNatClampNeg x2)) + x4) : Int32) / 1024)) (3) s12 hq sz) (cwV 3 hts gi_dm_X16_load_3 rfl rfl rfl (by decide +kernel) ⟨Nat.le_of_ble_eq_true rfl, Nat.le_of_ble_eq_true rfl⟩) hPc hDc hKc hS hA hN (va_recv hKc hPc (ci := 17) (q0 := 0) rfl rfl) rfl hl.1 rfl (Nat.le_of_ble_eq_true rfl) dX16_load_121 (fun H locs hP1 hD1 hk1 hS => ?_)
    have hP := hP1
    have hD := hD1.weaken (fun k q _ h => hFc q.1 h)
    obtain ⟨z40, ez40, h⟩ := nd_let_e h
    refine lv_iincW (v := z40) (lv' := [(4, .int z40), (0, .ref (a 0)), (1, .int x1), (2, .int x2)]) hx hb dX16_load_124 hl (k := 3) rfl (by rw [ez40]) (by decide) rfl (fun ls hl => ?_)
    refine lv_goto (tgt := 89) hx hb dX16_load_130 (by decide) ?_
    exact (J89) (x1) (x2) (z40) s38 _ _ _ h hP hD hS (lv_sub hl [1, 2, 3, 0] rfl)
set_option maxHeartbeats 40000000 in
set_option maxRecDepth 100000 in
theorem db_X16_load_89 {p : Program} {l : Launch} {e : Env} {s : State} {m : MethodId} {args : Array Value} {below : List Frame} {meth : Method} {c : Code} {Q : State → Prop} {A : Nat → Prop} {dC : Nat → ClassId} {dI : Nat → Nat → Nat} {a : Nat → Nat} {ac : Nat → ClassId} {n : Nat} {r : St × (St)} (C : nd_C p l s m args c A (dC, dI) cX16_load 5 RX16 ow_dm_X16_load (dk_X16 ac)) (K : nd_Kv p l e (headSpec ow_dm_X16_load ({ frames := 2, cells := 0, slots := 0, locals := 46 })).room s m args below meth c Q A (dC, dI) cX16_load (St × (St)) (dw_X16 a ac) r) (k : Nat) : dj_X16_load_89 p l e s m args below meth c Q A dC dI a ac (df_X16_load_89 n k) r := by
  induction k with
  | zero => intro x1 x2 x4 s0 H locs ls h; exact nomatch (show (none : Option (St × (St))) = some r from h)
  | succ k ih => exact dB_X16_load_89 C K ih
set_option maxHeartbeats 40000000 in
set_option maxRecDepth 100000 in
theorem dB_X16_load_59 {p : Program} {l : Launch} {e : Env} {s : State} {m : MethodId} {args : Array Value} {below : List Frame} {meth : Method} {c : Code} {Q : State → Prop} {A : Nat → Prop} {dC : Nat → ClassId} {dI : Nat → Nat → Nat} {a : Nat → Nat} {ac : Nat → ClassId} {n : Nat} {r : St × (St)} (C : nd_C p l s m args c A (dC, dI) cX16_load 5 RX16 ow_dm_X16_load (dk_X16 ac)) (K : nd_Kv p l e (headSpec ow_dm_X16_load ({ frames := 2, cells := 0, slots := 0, locals := 46 })).room s m args below meth c Q A (dC, dI) cX16_load (St × (St)) (dw_X16 a ac) r) {g59 : Int32 → Int32 → Int32 → Int32 → (St × (St)) → Option (St × (St))} (J59 : dj_X16_load_59 p l e s m args below meth c Q A dC dI a ac g59 r) : dj_X16_load_59 p l e s m args below meth c Q A dC dI a ac (dF_X16_load_59 n g59) r := by
  obtain ⟨hlt, hx, hb, hml, hown, hts, hN, hA, hK⟩ := id C
  intro x1 x2 x3 x4 s0 H locs ls h hP hD hS hl
  unfold dF_X16_load_59 at h
  refine lv_iload hx hb dX16_load_59 (lv_at hl 4 rfl) ?_
  refine lv_iload_n hx hb dX16_load_61 rfl (lv_at hl 3 rfl) ?_
  refine lv_icmp_ge (tgt := 86) hx hb dX16_load_62 (by decide) (fun c8 => ?_) (fun c8 => ?_)
  · have h := nd_pos h c8
    refine lv_iconst (v := 0) hx hb dX16_load_86 (by decide) ?_
    refine lv_istore (lv' := [(4, .int 0), (0, .ref (a 0)), (1, .int x1), (2, .int x2), (3, .int x3)]) hx hb dX16_load_87 hl (by decide) rfl (fun ls hl => ?_)
    exact (db_X16_load_89 C K n) (x1) (x2) (0) s0 _ _ _ h hP hD hS (lv_sub hl [1, 2, 3, 0] rfl)
  · have h := nd_neg h c8
    refine lv_aload_n hx hb dX16_load_65 rfl (lv_at hl 0 rfl) ?_
    refine lv_iload_n hx hb dX16_load_66 rfl (lv_at hl 1 rfl) ?_
    refine lv_iload hx hb dX16_load_67 (lv_at hl 4 rfl) ?_
    refine lv_sipush (v := 1024) hx hb dX16_load_69 (by decide) ?_
    refine lv_idiv hx hb dX16_load_72 (by decide) ?_
    refine lv_iconst (v := 5) hx hb dX16_load_73 (by decide) ?_
    obtain ⟨s42, hq, h⟩ := nd_b1_e h
    have hPc := hP
    have hDc := hD
    have hKc := hK
    have hFc := nd_rs hD hS hA
    refine nd_cVv (As := [.int x1, .int ((x4 : Int32) / 1024), .int 5]) (rest := []) (w' := dw_X16 a ac s42) ⟨hx, hb, hml, hown, hts⟩ (fun sz => dm_X16_newPage l hlt dC dI a ac n (x1) (((x4 : Int32) / 1024)) (5) s0 hq sz) (cwV 3 hts gi_dm_X16_load_3 rfl rfl rfl (by decide +kernel) ⟨Nat.le_of_ble_eq_true rfl, Nat.le_of_ble_eq_true rfl⟩) hPc hDc hKc hS hA hN (va_recv hKc hPc (ci := 17) (q0 := 0) rfl rfl) rfl hl.1 rfl (Nat.le_of_ble_eq_true rfl) dX16_load_74 (fun H locs hP1 hD1 hk1 hS => ?_)
    have hP := hP1
    have hD := hD1.weaken (fun k q _ h => hFc q.1 h)
    obtain ⟨z44, ez44, h⟩ := nd_let_e h
    refine lv_iincW (v := z44) (lv' := [(4, .int z44), (0, .ref (a 0)), (1, .int x1), (2, .int x2), (3, .int x3)]) hx hb dX16_load_77 hl (k := 4) rfl (by rw [ez44]) (by decide) rfl (fun ls hl => ?_)
    refine lv_goto (tgt := 59) hx hb dX16_load_83 (by decide) ?_
    exact (J59) (x1) (x2) (x3) (z44) s42 _ _ _ h hP hD hS (lv_sub hl [1, 2, 3, 4, 0] rfl)
set_option maxHeartbeats 40000000 in
set_option maxRecDepth 100000 in
theorem db_X16_load_59 {p : Program} {l : Launch} {e : Env} {s : State} {m : MethodId} {args : Array Value} {below : List Frame} {meth : Method} {c : Code} {Q : State → Prop} {A : Nat → Prop} {dC : Nat → ClassId} {dI : Nat → Nat → Nat} {a : Nat → Nat} {ac : Nat → ClassId} {n : Nat} {r : St × (St)} (C : nd_C p l s m args c A (dC, dI) cX16_load 5 RX16 ow_dm_X16_load (dk_X16 ac)) (K : nd_Kv p l e (headSpec ow_dm_X16_load ({ frames := 2, cells := 0, slots := 0, locals := 46 })).room s m args below meth c Q A (dC, dI) cX16_load (St × (St)) (dw_X16 a ac) r) (k : Nat) : dj_X16_load_59 p l e s m args below meth c Q A dC dI a ac (df_X16_load_59 n k) r := by
  induction k with
  | zero => intro x1 x2 x3 x4 s0 H locs ls h; exact nomatch (show (none : Option (St × (St))) = some r from h)
  | succ k ih => exact dB_X16_load_59 C K ih
set_option maxHeartbeats 40000000 in
set_option maxRecDepth 100000 in
theorem dB_X16_load_2 {p : Program} {l : Launch} {e : Env} {s : State} {m : MethodId} {args : Array Value} {below : List Frame} {meth : Method} {c : Code} {Q : State → Prop} {A : Nat → Prop} {dC : Nat → ClassId} {dI : Nat → Nat → Nat} {a : Nat → Nat} {ac : Nat → ClassId} {n : Nat} {r : St × (St)} (C : nd_C p l s m args c A (dC, dI) cX16_load 5 RX16 ow_dm_X16_load (dk_X16 ac)) (K : nd_Kv p l e (headSpec ow_dm_X16_load ({ frames := 2, cells := 0, slots := 0, locals := 46 })).room s m args below meth c Q A (dC, dI) cX16_load (St × (St)) (dw_X16 a ac) r) {g2 : Int32 → Int32 → Int32 → (St × (St)) → Option (St × (St))} (J2 : dj_X16_load_2 p l e s m args below meth c Q A dC dI a ac g2 r) : dj_X16_load_2 p l e s m args below meth c Q A dC dI a ac (dF_X16_load_2 n g2) r := by
  obtain ⟨hlt, hx, hb, hml, hown, hts, hN, hA, hK⟩ := id C
  intro x1 x2 x3 s0 H locs ls h hP hD hS hl
  unfold dF_X16_load_2 at h
  refine lv_iload_n hx hb dX16_load_2 rfl (lv_at hl 3 rfl) ?_
  refine lv_bipush (v := 32) hx hb dX16_load_3 (by decide) ?_
  refine lv_icmp_ge (tgt := 26) hx hb dX16_load_5 (by decide) (fun c1 => ?_) (fun c1 => ?_)
  · have h := nd_pos h c1
    refine lv_aload_n hx hb dX16_load_26 rfl (lv_at hl 0 rfl) ?_
    refine va_get (D := (dC, dI)) (ci := 17) (v := .ref (a 11)) (C := RX16) (T := TX16) (N := 56) hx hb hts hi_dm_X16_load_X16 hown hK hP 0 rfl rfl 19 (by decide) (hts (.fieldLink RX16 42 "TimeMachineModel$Machine" "x" "[I") (List.mem_of_getElem? (i := 1) rfl)) (fun _ h9 => h9) rfl dX16_load_27 ?_
    refine lv_bipush (v := 32) hx hb dX16_load_30 (by decide) ?_
    refine lv_iload_n hx hb dX16_load_32 rfl (lv_at hl 1 rfl) ?_
    refine lv_imul hx hb dX16_load_33 ?_
    refine lv_iconst (v := 2) hx hb dX16_load_34 (by decide) ?_
    refine lv_iadd hx hb dX16_load_35 ?_
    refine lv_ldc hx hb hown (hts (.constant RX16 186 (65536)) (List.mem_of_getElem? (i := 2) rfl)) dX16_load_36 ?_
    obtain ⟨i2, h⟩ := nd_ck_e h
    refine va_iast (i := ((32 * x1) + 2)) (x := 65536) hx hb hK hP hD hS 11 10 rfl rfl i2 dX16_load_38 (fun H locs hP hD hS => ?_)
    obtain ⟨s3, es3, h⟩ := nd_let_e h
    have hP : va_P (dC, dI) vwCl (dw_X16 a ac s3) H := by rw [es3]; exact hP
    have hD : va_D A (dw_X16 a ac s3) := by rw [es3]; exact hD
    refine lv_aload_n hx hb dX16_load_39 rfl (lv_at hl 0 rfl) ?_
    refine va_get (D := (dC, dI)) (ci := 17) (v := .ref (a 12)) (C := RX16) (T := TX16) (N := 56) hx hb hts hi_dm_X16_load_X16 hown hK hP 0 rfl rfl 20 (by decide) (hts (.fieldLink RX16 45 "TimeMachineModel$Machine" "place" "[I") (List.mem_of_getElem? (i := 3) rfl)) (fun _ h9 => h9) rfl dX16_load_40 ?_
    refine lv_iload_n hx hb dX16_load_43 rfl (lv_at hl 1 rfl) ?_
    refine lv_iconst (v := 0) hx hb dX16_load_44 (by decide) ?_
    obtain ⟨i4, h⟩ := nd_ck_e h
    refine va_iast (i := x1) (x := 0) hx hb hK hP hD hS 12 11 rfl rfl i4 dX16_load_45 (fun H locs hP hD hS => ?_)
    obtain ⟨s5, es5, h⟩ := nd_let_e h
    have hP : va_P (dC, dI) vwCl (dw_X16 a ac s5) H := by rw [es5]; exact hP
    have hD : va_D A (dw_X16 a ac s5) := by rw [es5]; exact hD
    refine lv_aload_n hx hb dX16_load_46 rfl (lv_at hl 0 rfl) ?_
    refine va_get (D := (dC, dI)) (ci := 17) (v := .ref (a 36)) (C := RX16) (T := TX16) (N := 56) hx hb hts hi_dm_X16_load_X16 hown hK hP 0 rfl rfl 0 (by decide) (hts (.fieldLink RX16 118 "TimeMachineModel$Machine" "programs" "LTimeMachineModel$Programs;") (List.mem_of_getElem? (i := 4) rfl)) (fun _ h9 => h9) rfl dX16_load_47 ?_
    refine va_getN (D := (dC, dI)) (ci := 18) (v := .ref (a 38)) (C := RX17) (T := TX17) (N := 5) hx hb hts hi_dm_X16_load_X17 hown hK hP 36 rfl rfl 1 (by decide) (va_Nw.use rfl (hN.1 ("TimeMachineModel$Machine", 177, "TimeMachineModel$Programs", "textSize", "[I", "TimeMachineModel") (by decide))) (fun _ h9 => h9) rfl dX16_load_50 ?_
    refine lv_iload_n hx hb dX16_load_53 rfl (lv_at hl 2 rfl) ?_
    obtain ⟨i6, h⟩ := nd_ck_e h
    refine va_iald (i := x2) hx hb hK hP 38 36 rfl rfl i6 dX16_load_54 ?_
    refine lv_topi (fun z7 ez7 => ?_)
    have h := nd_at h ez7
    refine lv_istore_n (lv' := [(3, .int z7), (0, .ref (a 0)), (1, .int x1), (2, .int x2)]) hx hb dX16_load_55 rfl hl (by decide) rfl (fun ls hl => ?_)
    refine lv_iconst (v := 0) hx hb dX16_load_56 (by decide) ?_
    refine lv_istore (lv' := [(4, .int 0), (3, .int z7), (0, .ref (a 0)), (1, .int x1), (2, .int x2)]) hx hb dX16_load_57 hl (by decide) rfl (fun ls hl => ?_)
    exact (db_X16_load_59 C K n) (x1) (x2) (z7) (0) s5 _ _ _ h hP hD hS (lv_sub hl [2, 3, 4, 1, 0] rfl)
  · have h := nd_neg h c1
    refine lv_aload_n hx hb dX16_load_8 rfl (lv_at hl 0 rfl) ?_
    refine va_get (D := (dC, dI)) (ci := 17) (v := .ref (a 11)) (C := RX16) (T := TX16) (N := 56) hx hb hts hi_dm_X16_load_X16 hown hK hP 0 rfl rfl 19 (by decide) (hts (.fieldLink RX16 42 "TimeMachineModel$Machine" "x" "[I") (List.mem_of_getElem? (i := 1) rfl)) (fun _ h9 => h9) rfl dX16_load_9 ?_
    refine lv_bipush (v := 32) hx hb dX16_load_12 (by decide) ?_
    refine lv_iload_n hx hb dX16_load_14 rfl (lv_at hl 1 rfl) ?_
    refine lv_imul hx hb dX16_load_15 ?_
    refine lv_iload_n hx hb dX16_load_16 rfl (lv_at hl 3 rfl) ?_
    refine lv_iadd hx hb dX16_load_17 ?_
    refine lv_iconst (v := 0) hx hb dX16_load_18 (by decide) ?_
    obtain ⟨i45, h⟩ := nd_ck_e h
    refine va_iast (i := ((32 * x1) + x3)) (x := 0) hx hb hK hP hD hS 11 10 rfl rfl i45 dX16_load_19 (fun H locs hP hD hS => ?_)
    obtain ⟨s46, es46, h⟩ := nd_let_e h
    have hP : va_P (dC, dI) vwCl (dw_X16 a ac s46) H := by rw [es46]; exact hP
    have hD : va_D A (dw_X16 a ac s46) := by rw [es46]; exact hD
    obtain ⟨z47, ez47, h⟩ := nd_let_e h
    refine lv_iinc (v := z47) (lv' := [(3, .int z47), (0, .ref (a 0)), (1, .int x1), (2, .int x2)]) hx hb dX16_load_20 hl (k := 3) rfl (by rw [ez47]) (by decide) rfl (fun ls hl => ?_)
    refine lv_goto (tgt := 2) hx hb dX16_load_23 (by decide) ?_
    exact (J2) (x1) (x2) (z47) s46 _ _ _ h hP hD hS (lv_sub hl [1, 2, 3, 0] rfl)
set_option maxHeartbeats 40000000 in
set_option maxRecDepth 100000 in
theorem db_X16_load_2 {p : Program} {l : Launch} {e : Env} {s : State} {m : MethodId} {args : Array Value} {below : List Frame} {meth : Method} {c : Code} {Q : State → Prop} {A : Nat → Prop} {dC : Nat → ClassId} {dI : Nat → Nat → Nat} {a : Nat → Nat} {ac : Nat → ClassId} {n : Nat} {r : St × (St)} (C : nd_C p l s m args c A (dC, dI) cX16_load 5 RX16 ow_dm_X16_load (dk_X16 ac)) (K : nd_Kv p l e (headSpec ow_dm_X16_load ({ frames := 2, cells := 0, slots := 0, locals := 46 })).room s m args below meth c Q A (dC, dI) cX16_load (St × (St)) (dw_X16 a ac) r) (k : Nat) : dj_X16_load_2 p l e s m args below meth c Q A dC dI a ac (df_X16_load_2 n k) r := by
  induction k with
  | zero => intro x1 x2 x3 s0 H locs ls h; exact nomatch (show (none : Option (St × (St))) = some r from h)
  | succ k ih => exact dB_X16_load_2 C K ih
set_option maxHeartbeats 40000000 in
set_option maxRecDepth 100000 in
theorem db_X16_load_0 {p : Program} {l : Launch} {e : Env} {s : State} {m : MethodId} {args : Array Value} {below : List Frame} {meth : Method} {c : Code} {Q : State → Prop} {A : Nat → Prop} {dC : Nat → ClassId} {dI : Nat → Nat → Nat} {a : Nat → Nat} {ac : Nat → ClassId} {n : Nat} {r : St × (St)} (C : nd_C p l s m args c A (dC, dI) cX16_load 5 RX16 ow_dm_X16_load (dk_X16 ac)) (K : nd_Kv p l e (headSpec ow_dm_X16_load ({ frames := 2, cells := 0, slots := 0, locals := 46 })).room s m args below meth c Q A (dC, dI) cX16_load (St × (St)) (dw_X16 a ac) r) : dj_X16_load_0 p l e s m args below meth c Q A dC dI a ac (df_X16_load_0 n) r := by
  obtain ⟨hlt, hx, hb, hml, hown, hts, hN, hA, hK⟩ := id C
  intro v0 v1 s0 H locs ls h hP hD hS hl
  unfold df_X16_load_0 at h
  refine lv_iconst (v := 0) hx hb dX16_load_0 (by decide) ?_
  refine lv_istore_n (lv' := [(3, .int 0), (0, .ref (a 0)), (1, .int v0), (2, .int v1)]) hx hb dX16_load_1 rfl hl (by decide) rfl (fun ls hl => ?_)
  exact (db_X16_load_2 C K n) (v0) (v1) (0) s0 _ _ _ h hP hD hS (lv_sub hl [1, 2, 3, 0] rfl)
set_option maxHeartbeats 40000000 in
set_option maxRecDepth 100000 in
theorem dm_X16_load (l : Launch) (hlt : l.stackTraces = false) (dC : Nat → ClassId) (dI : Nat → Nat → Nat) (a : Nat → Nat) (ac : Nat → ClassId) (n : Nat) (v0 : Int32) (v1 : Int32) (s0 : St × (St)) {r : St × (St)} (h : df_X16_load n v0 v1 s0 = some r) (sz : Nat) : Met l yX16_load ow_dm_X16_load ({ frames := 2, cells := 0, slots := 0, locals := 46 }) (va_Pc [.ref (a 0), .int v0, .int v1] (fun U => U.heap.size = sz ∧ va_P (dC, dI) vwCl (dw_X16 a ac s0) U.heap ∧ va_K (dC, dI) vwCl (dk_X16 ac) U ∧ va_D (fun _ => True) (dw_X16 a ac s0) ∧ nv_E dI (va_A (dw_X16 a ac s0) sz) U)) (va_Qv (fun _ => True) (fun (_ : Unit) t => va_P (dC, dI) vwCl (dw_X16 a ac r) t.heap ∧ va_K (dC, dI) vwCl (dk_X16 ac) t ∧ va_D (va_A (dw_X16 a ac s0) sz) (dw_X16 a ac r)) (va_A (dw_X16 a ac s0) sz)) 0 0 (va_A (dw_X16 a ac s0) sz) := by
  refine Met.ofW (cc := cX16_load) (maxL := 5) (ret := none) (by decide) rfl ?_
  intro p e s m args below meth c s₁ B hml hv
  obtain ⟨rfl, hsz, hP, hK, hD0, hN⟩ := hv
  have hx := B.exec
  have hb := B.bytes
  have hr := B.returns
  have hts := atoms_spec (ws := ow_dm_X16_load) B.pre
  have hown : s.vm.findClass RX16 = some m.cls := findClass_of_methodNamed B.named
  have hlocks := B.notSynchronized
  subst hsz
  have hD := hD0.self (sz := s.heap.size)
  generalize hAe : va_A (dw_X16 a ac s0) s.heap.size = A at hD hN ⊢
  have hA : ∀ q : Nat, s.heap.size ≤ q → A q := fun q h => by rw [← hAe]; exact Or.inr h
  have hl := lv_entry ([.ref (a 0), .int v0, .int v1]) (n := 5) (Nat.le_of_ble_eq_true rfl)
  rw [lg_entry_eq]
  generalize (lg_sl ([.ref (a 0), .int v0, .int v1]) ++ List.replicate (5 - (lg_sl ([.ref (a 0), .int v0, .int v1])).length) Slot.unset).toArray = ls at hl ⊢
  have hl : lv_has ls 5 [(0, .ref (a 0)), (1, .int v0), (2, .int v1)] := hl
  exact db_X16_load_0 (dC := dC) (dI := dI) (a := a) (ac := ac) (n := n) (r := r) ⟨hlt, hx, hb, hml, hown, hts, hN, hA, hK⟩ (fun pc τ H locs ls d er hP hD hS => by subst er; exact W.vret hx hb hr (fun t ht hW => ⟨⟨(), rfl, trivial, by rw [ht]; exact hP, va_K.moved hW.alike hK, hD⟩, hS.F ht⟩) hS.2.2 d) v0 v1 s0 _ _ _ h hP hD va_S.rf (lv_sub hl [0, 1, 2] rfl)
def ow_dm_X16_freeOpening : List Cond := Cond.code yX16_freeOpening cX16_freeOpening 2 (some .int) :: ([Cond.fieldLink RX16 73 "TimeMachineModel$Machine" "kind" "[I"] ++ (u_ws RX16 TX16 56 ++ []))
theorem gd_dm_X16_freeOpening : ∀ w ∈ ow_dm_X16_freeOpening, (w.onTables && w.keeps) = true ∨ ∃ ty, w = Cond.arrayClass ty := List.forall_mem_cons.mpr ⟨good_of_word rfl, List.forall_mem_append.mpr ⟨fun w h => good_of_word (List.all_eq_true.mp (by decide +kernel) w h), List.forall_mem_append.mpr ⟨gu_X16, fun _ h => nomatch h⟩⟩⟩
theorem hi_dm_X16_freeOpening_X16 : ∀ w ∈ u_ws RX16 TX16 56, w ∈ ow_dm_X16_freeOpening := fun w h => List.mem_cons_of_mem _ (List.mem_append_right _ (List.mem_append_left _ h))
def dj_X16_freeOpening_34 (p : Program) (l : Launch) (e : Env) (s : State) (m : MethodId) (args : Array Value) (below : List Frame) (meth : Method) (c : Code) (Q : State → Prop) (A : Nat → Prop) (dC : Nat → ClassId) (dI : Nat → Nat → Nat) (a : Nat → Nat) (ac : Nat → ClassId) (g : Int32 → (St × (St)) → Option (Int32 × (St × (St)))) (r : Int32 × (St × (St))) : Prop := ∀ (y0 : Int32) (s0 : St × (St)) (H : Heap) (locs : List Loc) (ls : Array Slot), g y0 s0 = some r → va_P (dC, dI) vwCl (dw_X16 a ac s0) H → va_D A (dw_X16 a ac s0) → va_S A s.heap H locs → lv_has ls 2 [] → W p l e (headSpec ow_dm_X16_freeOpening ({ frames := 0, cells := 0, slots := 0, locals := 0 })).room s m args below meth c H locs 0 0 Q (F0 m 34 ls [.int y0])
def dj_X16_freeOpening_23 (p : Program) (l : Launch) (e : Env) (s : State) (m : MethodId) (args : Array Value) (below : List Frame) (meth : Method) (c : Code) (Q : State → Prop) (A : Nat → Prop) (dC : Nat → ClassId) (dI : Nat → Nat → Nat) (a : Nat → Nat) (ac : Nat → ClassId) (g : Int32 → (St × (St)) → Option (Int32 × (St × (St)))) (r : Int32 × (St × (St))) : Prop := ∀ (x1 : Int32) (s0 : St × (St)) (H : Heap) (locs : List Loc) (ls : Array Slot), g x1 s0 = some r → va_P (dC, dI) vwCl (dw_X16 a ac s0) H → va_D A (dw_X16 a ac s0) → va_S A s.heap H locs → lv_has ls 2 [(1, .int x1)] → W p l e (headSpec ow_dm_X16_freeOpening ({ frames := 0, cells := 0, slots := 0, locals := 0 })).room s m args below meth c H locs 0 0 Q (F0 m 23 ls [])
def dj_X16_freeOpening_2 (p : Program) (l : Launch) (e : Env) (s : State) (m : MethodId) (args : Array Value) (below : List Frame) (meth : Method) (c : Code) (Q : State → Prop) (A : Nat → Prop) (dC : Nat → ClassId) (dI : Nat → Nat → Nat) (a : Nat → Nat) (ac : Nat → ClassId) (g : Int32 → (St × (St)) → Option (Int32 × (St × (St)))) (r : Int32 × (St × (St))) : Prop := ∀ (x1 : Int32) (s0 : St × (St)) (H : Heap) (locs : List Loc) (ls : Array Slot), g x1 s0 = some r → va_P (dC, dI) vwCl (dw_X16 a ac s0) H → va_D A (dw_X16 a ac s0) → va_S A s.heap H locs → lv_has ls 2 [(0, .ref (a 0)), (1, .int x1)] → W p l e (headSpec ow_dm_X16_freeOpening ({ frames := 0, cells := 0, slots := 0, locals := 0 })).room s m args below meth c H locs 0 0 Q (F0 m 2 ls [])
def dj_X16_freeOpening_0 (p : Program) (l : Launch) (e : Env) (s : State) (m : MethodId) (args : Array Value) (below : List Frame) (meth : Method) (c : Code) (Q : State → Prop) (A : Nat → Prop) (dC : Nat → ClassId) (dI : Nat → Nat → Nat) (a : Nat → Nat) (ac : Nat → ClassId) (g : (St × (St)) → Option (Int32 × (St × (St)))) (r : Int32 × (St × (St))) : Prop := ∀ (s0 : St × (St)) (H : Heap) (locs : List Loc) (ls : Array Slot), g s0 = some r → va_P (dC, dI) vwCl (dw_X16 a ac s0) H → va_D A (dw_X16 a ac s0) → va_S A s.heap H locs → lv_has ls 2 [(0, .ref (a 0))] → W p l e (headSpec ow_dm_X16_freeOpening ({ frames := 0, cells := 0, slots := 0, locals := 0 })).room s m args below meth c H locs 0 0 Q (F0 m 0 ls [])
set_option maxHeartbeats 40000000 in
set_option maxRecDepth 100000 in
theorem db_X16_freeOpening_34 {p : Program} {l : Launch} {e : Env} {s : State} {m : MethodId} {args : Array Value} {below : List Frame} {meth : Method} {c : Code} {Q : State → Prop} {A : Nat → Prop} {dC : Nat → ClassId} {dI : Nat → Nat → Nat} {a : Nat → Nat} {ac : Nat → ClassId} {n : Nat} {r : Int32 × (St × (St))} (C : nd_C p l s m args c A (dC, dI) cX16_freeOpening 2 RX16 ow_dm_X16_freeOpening (dk_X16 ac)) (K : nd_Ki p l e (headSpec ow_dm_X16_freeOpening ({ frames := 0, cells := 0, slots := 0, locals := 0 })).room s m args below meth c Q A (dC, dI) cX16_freeOpening .int (St × (St)) (dw_X16 a ac) r) : dj_X16_freeOpening_34 p l e s m args below meth c Q A dC dI a ac (df_X16_freeOpening_34 n) r := by
  obtain ⟨hlt, hx, hb, hml, hown, hts, hN, hA, hK⟩ := id C
  intro y0 s0 H locs ls h hP hD hS hl
  unfold df_X16_freeOpening_34 at h
  exact K _ _ _ _ _ _ dX16_freeOpening_34 rfl (Option.some.inj h).symm hP hD hS
set_option maxHeartbeats 40000000 in
set_option maxRecDepth 100000 in
theorem db_X16_freeOpening_23 {p : Program} {l : Launch} {e : Env} {s : State} {m : MethodId} {args : Array Value} {below : List Frame} {meth : Method} {c : Code} {Q : State → Prop} {A : Nat → Prop} {dC : Nat → ClassId} {dI : Nat → Nat → Nat} {a : Nat → Nat} {ac : Nat → ClassId} {n : Nat} {r : Int32 × (St × (St))} (C : nd_C p l s m args c A (dC, dI) cX16_freeOpening 2 RX16 ow_dm_X16_freeOpening (dk_X16 ac)) (K : nd_Ki p l e (headSpec ow_dm_X16_freeOpening ({ frames := 0, cells := 0, slots := 0, locals := 0 })).room s m args below meth c Q A (dC, dI) cX16_freeOpening .int (St × (St)) (dw_X16 a ac) r) : dj_X16_freeOpening_23 p l e s m args below meth c Q A dC dI a ac (df_X16_freeOpening_23 n) r := by
  obtain ⟨hlt, hx, hb, hml, hown, hts, hN, hA, hK⟩ := id C
  intro x1 s0 H locs ls h hP hD hS hl
  unfold df_X16_freeOpening_23 at h
  refine lv_iload_n hx hb dX16_freeOpening_23 rfl (lv_at hl 0 rfl) ?_
  refine lv_bipush (v := 48) hx hb dX16_freeOpening_24 (by decide) ?_
  refine lv_icmp_ge (tgt := 33) hx hb dX16_freeOpening_26 (by decide) (fun c2 => ?_) (fun c2 => ?_)
  · have h := nd_pos h c2
    refine lv_iconst (v := (-1)) hx hb dX16_freeOpening_33 (by decide) ?_
    exact (db_X16_freeOpening_34 C K) ((-1)) s0 _ _ _ h hP hD hS (lv_sub hl [] rfl)
  · have h := nd_neg h c2
    refine lv_iload_n hx hb dX16_freeOpening_29 rfl (lv_at hl 0 rfl) ?_
    refine lv_goto (tgt := 34) hx hb dX16_freeOpening_30 (by decide) ?_
    exact (db_X16_freeOpening_34 C K) (x1) s0 _ _ _ h hP hD hS (lv_sub hl [] rfl)
set_option maxHeartbeats 40000000 in
set_option maxRecDepth 100000 in
theorem dB_X16_freeOpening_2 {p : Program} {l : Launch} {e : Env} {s : State} {m : MethodId} {args : Array Value} {below : List Frame} {meth : Method} {c : Code} {Q : State → Prop} {A : Nat → Prop} {dC : Nat → ClassId} {dI : Nat → Nat → Nat} {a : Nat → Nat} {ac : Nat → ClassId} {n : Nat} {r : Int32 × (St × (St))} (C : nd_C p l s m args c A (dC, dI) cX16_freeOpening 2 RX16 ow_dm_X16_freeOpening (dk_X16 ac)) (K : nd_Ki p l e (headSpec ow_dm_X16_freeOpening ({ frames := 0, cells := 0, slots := 0, locals := 0 })).room s m args below meth c Q A (dC, dI) cX16_freeOpening .int (St × (St)) (dw_X16 a ac) r) {g2 : Int32 → (St × (St)) → Option (Int32 × (St × (St)))} (J2 : dj_X16_freeOpening_2 p l e s m args below meth c Q A dC dI a ac g2 r) : dj_X16_freeOpening_2 p l e s m args below meth c Q A dC dI a ac (dF_X16_freeOpening_2 n g2) r := by
  obtain ⟨hlt, hx, hb, hml, hown, hts, hN, hA, hK⟩ := id C
  intro x1 s0 H locs ls h hP hD hS hl
  unfold dF_X16_freeOpening_2 at h
  refine lv_iload_n hx hb dX16_freeOpening_2 rfl (lv_at hl 1 rfl) ?_
  refine lv_bipush (v := 48) hx hb dX16_freeOpening_3 (by decide) ?_
  refine lv_icmp_ge (tgt := 23) hx hb dX16_freeOpening_5 (by decide) (fun c1 => ?_) (fun c1 => ?_)
  · have h := nd_pos h c1
    exact (db_X16_freeOpening_23 C K) (x1) s0 _ _ _ h hP hD hS (lv_sub hl [1] rfl)
  · have h := nd_neg h c1
    refine lv_aload_n hx hb dX16_freeOpening_8 rfl (lv_at hl 0 rfl) ?_
    refine va_get (D := (dC, dI)) (ci := 17) (v := .ref (a 21)) (C := RX16) (T := TX16) (N := 56) hx hb hts hi_dm_X16_freeOpening_X16 hown hK hP 0 rfl rfl 30 (by decide) (hts (.fieldLink RX16 73 "TimeMachineModel$Machine" "kind" "[I") (List.mem_of_getElem? (i := 1) rfl)) (fun _ h9 => h9) rfl dX16_freeOpening_9 ?_
    refine lv_iload_n hx hb dX16_freeOpening_12 rfl (lv_at hl 1 rfl) ?_
    obtain ⟨i3, h⟩ := nd_ck_e h
    refine va_iald (i := x1) hx hb hK hP 21 20 rfl rfl i3 dX16_freeOpening_13 ?_
    refine lv_if_le (tgt := 23) hx hb dX16_freeOpening_14 (by decide) (fun c4 => ?_) (fun c4 => ?_)
    · have h := nd_pos h c4
      exact (db_X16_freeOpening_23 C K) (x1) s0 _ _ _ h hP hD hS (lv_sub hl [1] rfl)
    · have h := nd_neg h c4
      obtain ⟨z5, ez5, h⟩ := nd_let_e h
      refine lv_iinc (v := z5) (lv' := [(1, .int z5), (0, .ref (a 0))]) hx hb dX16_freeOpening_17 hl (k := 1) rfl (by rw [ez5]) (by decide) rfl (fun ls hl => ?_)
      refine lv_goto (tgt := 2) hx hb dX16_freeOpening_20 (by decide) ?_
      exact (J2) (z5) s0 _ _ _ h hP hD hS (lv_sub hl [1, 0] rfl)
set_option maxHeartbeats 40000000 in
set_option maxRecDepth 100000 in
theorem db_X16_freeOpening_2 {p : Program} {l : Launch} {e : Env} {s : State} {m : MethodId} {args : Array Value} {below : List Frame} {meth : Method} {c : Code} {Q : State → Prop} {A : Nat → Prop} {dC : Nat → ClassId} {dI : Nat → Nat → Nat} {a : Nat → Nat} {ac : Nat → ClassId} {n : Nat} {r : Int32 × (St × (St))} (C : nd_C p l s m args c A (dC, dI) cX16_freeOpening 2 RX16 ow_dm_X16_freeOpening (dk_X16 ac)) (K : nd_Ki p l e (headSpec ow_dm_X16_freeOpening ({ frames := 0, cells := 0, slots := 0, locals := 0 })).room s m args below meth c Q A (dC, dI) cX16_freeOpening .int (St × (St)) (dw_X16 a ac) r) (k : Nat) : dj_X16_freeOpening_2 p l e s m args below meth c Q A dC dI a ac (df_X16_freeOpening_2 n k) r := by
  induction k with
  | zero => intro x1 s0 H locs ls h; exact nomatch (show (none : Option (Int32 × (St × (St)))) = some r from h)
  | succ k ih => exact dB_X16_freeOpening_2 C K ih
set_option maxHeartbeats 40000000 in
set_option maxRecDepth 100000 in
theorem db_X16_freeOpening_0 {p : Program} {l : Launch} {e : Env} {s : State} {m : MethodId} {args : Array Value} {below : List Frame} {meth : Method} {c : Code} {Q : State → Prop} {A : Nat → Prop} {dC : Nat → ClassId} {dI : Nat → Nat → Nat} {a : Nat → Nat} {ac : Nat → ClassId} {n : Nat} {r : Int32 × (St × (St))} (C : nd_C p l s m args c A (dC, dI) cX16_freeOpening 2 RX16 ow_dm_X16_freeOpening (dk_X16 ac)) (K : nd_Ki p l e (headSpec ow_dm_X16_freeOpening ({ frames := 0, cells := 0, slots := 0, locals := 0 })).room s m args below meth c Q A (dC, dI) cX16_freeOpening .int (St × (St)) (dw_X16 a ac) r) : dj_X16_freeOpening_0 p l e s m args below meth c Q A dC dI a ac (df_X16_freeOpening_0 n) r := by
  obtain ⟨hlt, hx, hb, hml, hown, hts, hN, hA, hK⟩ := id C
  intro s0 H locs ls h hP hD hS hl
  unfold df_X16_freeOpening_0 at h
  refine lv_iconst (v := 0) hx hb dX16_freeOpening_0 (by decide) ?_
  refine lv_istore_n (lv' := [(1, .int 0), (0, .ref (a 0))]) hx hb dX16_freeOpening_1 rfl hl (by decide) rfl (fun ls hl => ?_)
  exact (db_X16_freeOpening_2 C K n) (0) s0 _ _ _ h hP hD hS (lv_sub hl [1, 0] rfl)
set_option maxHeartbeats 40000000 in
set_option maxRecDepth 100000 in
theorem dm_X16_freeOpening (l : Launch) (hlt : l.stackTraces = false) (dC : Nat → ClassId) (dI : Nat → Nat → Nat) (a : Nat → Nat) (ac : Nat → ClassId) (n : Nat) (s0 : St × (St)) {r : Int32 × (St × (St))} (h : df_X16_freeOpening n s0 = some r) (sz : Nat) : Met l yX16_freeOpening ow_dm_X16_freeOpening ({ frames := 0, cells := 0, slots := 0, locals := 0 }) (va_Pc [.ref (a 0)] (fun U => U.heap.size = sz ∧ va_P (dC, dI) vwCl (dw_X16 a ac s0) U.heap ∧ va_K (dC, dI) vwCl (dk_X16 ac) U ∧ va_D (fun _ => True) (dw_X16 a ac s0) ∧ nv_E dI (va_A (dw_X16 a ac s0) sz) U)) (va_Qi (fun x _ => x = r.1) (fun (_ : Unit) t => va_P (dC, dI) vwCl (dw_X16 a ac r.2) t.heap ∧ va_K (dC, dI) vwCl (dk_X16 ac) t ∧ va_D (va_A (dw_X16 a ac s0) sz) (dw_X16 a ac r.2)) (va_A (dw_X16 a ac s0) sz)) 0 0 (va_A (dw_X16 a ac s0) sz) := by
  refine Met.ofW (cc := cX16_freeOpening) (maxL := 2) (ret := (some .int)) (by decide) rfl ?_
  intro p e s m args below meth c s₁ B hml hv
  obtain ⟨rfl, hsz, hP, hK, hD0, hN⟩ := hv
  have hx := B.exec
  have hb := B.bytes
  have hr := B.returns
  have hts := atoms_spec (ws := ow_dm_X16_freeOpening) B.pre
  have hown : s.vm.findClass RX16 = some m.cls := findClass_of_methodNamed B.named
  have hlocks := B.notSynchronized
  subst hsz
  have hD := hD0.self (sz := s.heap.size)
  generalize hAe : va_A (dw_X16 a ac s0) s.heap.size = A at hD hN ⊢
  have hA : ∀ q : Nat, s.heap.size ≤ q → A q := fun q h => by rw [← hAe]; exact Or.inr h
  have hl := lv_entry ([.ref (a 0)]) (n := 2) (Nat.le_of_ble_eq_true rfl)
  rw [lg_entry_eq]
  generalize (lg_sl ([.ref (a 0)]) ++ List.replicate (2 - (lg_sl ([.ref (a 0)])).length) Slot.unset).toArray = ls at hl ⊢
  have hl : lv_has ls 2 [(0, .ref (a 0))] := hl
  exact db_X16_freeOpening_0 (dC := dC) (dI := dI) (a := a) (ac := ac) (n := n) (r := r) ⟨hlt, hx, hb, hml, hown, hts, hN, hA, hK⟩ (fun pc v τ H locs ls d z er hP hD hS => by subst er; exact W.zret (v := v) hx hb hr z (fun t ht hW => ⟨⟨v, (), rfl, rfl, by rw [ht]; exact hP, va_K.moved hW.alike hK, hD⟩, hS.F ht⟩) hS.2.2 d) s0 _ _ _ h hP hD va_S.rf (lv_sub hl [0] rfl)
def ow_dm_X16_opening : List Cond := Cond.code yX16_opening cX16_opening 5 (some .int) :: ([Cond.methodLink RX16 246 yX16_freeOpening, Cond.instanceMethod yX16_freeOpening, Cond.selects RX16 yX16_freeOpening yX16_freeOpening, Cond.initialized RX16, Cond.fieldLink RX16 73 "TimeMachineModel$Machine" "kind" "[I", Cond.fieldLink RX16 76 "TimeMachineModel$Machine" "thing" "[I", Cond.fieldLink RX16 79 "TimeMachineModel$Machine" "position" "[I", Cond.fieldLink RX16 82 "TimeMachineModel$Machine" "right" "[I"] ++ (u_ws RX16 TX16 56 ++ (ow_dm_X16_freeOpening ++ [])))
theorem gd_dm_X16_opening : ∀ w ∈ ow_dm_X16_opening, (w.onTables && w.keeps) = true ∨ ∃ ty, w = Cond.arrayClass ty := List.forall_mem_cons.mpr ⟨good_of_word rfl, List.forall_mem_append.mpr ⟨fun w h => good_of_word (List.all_eq_true.mp (by decide +kernel) w h), List.forall_mem_append.mpr ⟨gu_X16, List.forall_mem_append.mpr ⟨gd_dm_X16_freeOpening, fun _ h => nomatch h⟩⟩⟩⟩
theorem hi_dm_X16_opening_X16 : ∀ w ∈ u_ws RX16 TX16 56, w ∈ ow_dm_X16_opening := fun w h => List.mem_cons_of_mem _ (List.mem_append_right _ (List.mem_append_left _ h))
theorem gi_dm_X16_opening_0 : GoodIn ow_dm_X16_opening (wsV RX16 246 RX16 yX16_freeOpening ow_dm_X16_freeOpening) := goodIn_app (goodIn_of _ (by decide +kernel)) (fun w h => ⟨List.mem_cons_of_mem _ (List.mem_append_right _ (List.mem_append_right _ (List.mem_append_left _ h))), gd_dm_X16_freeOpening w h⟩)
def dj_X16_opening_0 (p : Program) (l : Launch) (e : Env) (s : State) (m : MethodId) (args : Array Value) (below : List Frame) (meth : Method) (c : Code) (Q : State → Prop) (A : Nat → Prop) (dC : Nat → ClassId) (dI : Nat → Nat → Nat) (a : Nat → Nat) (ac : Nat → ClassId) (g : Int32 → Int32 → Int32 → (St × (St)) → Option (Int32 × (St × (St)))) (r : Int32 × (St × (St))) : Prop := ∀ (v0 : Int32) (v1 : Int32) (v2 : Int32) (s0 : St × (St)) (H : Heap) (locs : List Loc) (ls : Array Slot), g v0 v1 v2 s0 = some r → va_P (dC, dI) vwCl (dw_X16 a ac s0) H → va_D A (dw_X16 a ac s0) → va_S A s.heap H locs → lv_has ls 5 [(0, .ref (a 0)), (1, .int v0), (2, .int v1), (3, .int v2)] → W p l e (headSpec ow_dm_X16_opening ({ frames := 1, cells := 0, slots := 0, locals := 21 })).room s m args below meth c H locs 0 0 Q (F0 m 0 ls [])
set_option maxHeartbeats 40000000 in
set_option maxRecDepth 100000 in
theorem db_X16_opening_0 {p : Program} {l : Launch} {e : Env} {s : State} {m : MethodId} {args : Array Value} {below : List Frame} {meth : Method} {c : Code} {Q : State → Prop} {A : Nat → Prop} {dC : Nat → ClassId} {dI : Nat → Nat → Nat} {a : Nat → Nat} {ac : Nat → ClassId} {n : Nat} {r : Int32 × (St × (St))} (C : nd_C p l s m args c A (dC, dI) cX16_opening 5 RX16 ow_dm_X16_opening (dk_X16 ac)) (K : nd_Ki p l e (headSpec ow_dm_X16_opening ({ frames := 1, cells := 0, slots := 0, locals := 21 })).room s m args below meth c Q A (dC, dI) cX16_opening .int (St × (St)) (dw_X16 a ac) r) : dj_X16_opening_0 p l e s m args below meth c Q A dC dI a ac (df_X16_opening_0 n) r := by
  obtain ⟨hlt, hx, hb, hml, hown, hts, hN, hA, hK⟩ := id C
  intro v0 v1 v2 s0 H locs ls h hP hD hS hl
  unfold df_X16_opening_0 at h
  refine lv_aload_n hx hb dX16_opening_0 rfl (lv_at hl 0 rfl) ?_
  obtain ⟨q1, s2, hq, h⟩ := nd_b2_e h
  have hPc := hP
  have hDc := hD
  have hKc := hK
  have hFc := nd_rs hD hS hA
  refine nd_cVi (As := []) (rest := []) (q := q1) (w' := dw_X16 a ac s2) ⟨hx, hb, hml, hown, hts⟩ (fun sz => dm_X16_freeOpening l hlt dC dI a ac n  s0 hq sz) (cwV 0 hts gi_dm_X16_opening_0 rfl rfl rfl (by decide +kernel) ⟨Nat.le_of_ble_eq_true rfl, Nat.le_of_ble_eq_true rfl⟩) hPc hDc hKc hS hA hN (va_recv hKc hPc (ci := 17) (q0 := 0) rfl rfl) rfl hl.1 rfl (Nat.le_of_ble_eq_true rfl) dX16_opening_1 (fun H locs hP1 hD1 hk1 hS => ?_)
  have hP := hP1
  have hD := hD1.weaken (fun k q _ h => hFc q.1 h)
  refine lv_istore (lv' := [(4, .int q1), (0, .ref (a 0)), (1, .int v0), (2, .int v1), (3, .int v2)]) hx hb dX16_opening_4 hl (by decide) rfl (fun ls hl => ?_)
  refine lv_aload_n hx hb dX16_opening_6 rfl (lv_at hl 1 rfl) ?_
  refine va_get (D := (dC, dI)) (ci := 17) (v := .ref (a 21)) (C := RX16) (T := TX16) (N := 56) hx hb hts hi_dm_X16_opening_X16 hown hK hP 0 rfl rfl 30 (by decide) (hts (.fieldLink RX16 73 "TimeMachineModel$Machine" "kind" "[I") (List.mem_of_getElem? (i := 5) rfl)) (fun _ h9 => h9) rfl dX16_opening_7 ?_
  refine lv_iload hx hb dX16_opening_10 (lv_at hl 0 rfl) ?_
  refine lv_iload_n hx hb dX16_opening_12 rfl (lv_at hl 2 rfl) ?_
  obtain ⟨i4, h⟩ := nd_ck_e h
  refine va_iast (i := q1) (x := v0) hx hb hK hP hD hS 21 20 rfl rfl i4 dX16_opening_13 (fun H locs hP hD hS => ?_)
  obtain ⟨s5, es5, h⟩ := nd_let_e h
  have hP : va_P (dC, dI) vwCl (dw_X16 a ac s5) H := by rw [es5]; exact hP
  have hD : va_D A (dw_X16 a ac s5) := by rw [es5]; exact hD
  refine lv_aload_n hx hb dX16_opening_14 rfl (lv_at hl 1 rfl) ?_
  refine va_get (D := (dC, dI)) (ci := 17) (v := .ref (a 22)) (C := RX16) (T := TX16) (N := 56) hx hb hts hi_dm_X16_opening_X16 hown hK hP 0 rfl rfl 31 (by decide) (hts (.fieldLink RX16 76 "TimeMachineModel$Machine" "thing" "[I") (List.mem_of_getElem? (i := 6) rfl)) (fun _ h9 => h9) rfl dX16_opening_15 ?_
  refine lv_iload hx hb dX16_opening_18 (lv_at hl 0 rfl) ?_
  refine lv_iload_n hx hb dX16_opening_20 rfl (lv_at hl 3 rfl) ?_
  obtain ⟨i6, h⟩ := nd_ck_e h
  refine va_iast (i := q1) (x := v1) hx hb hK hP hD hS 22 21 rfl rfl i6 dX16_opening_21 (fun H locs hP hD hS => ?_)
  obtain ⟨s7, es7, h⟩ := nd_let_e h
  have hP : va_P (dC, dI) vwCl (dw_X16 a ac s7) H := by rw [es7]; exact hP
  have hD : va_D A (dw_X16 a ac s7) := by rw [es7]; exact hD
  refine lv_aload_n hx hb dX16_opening_22 rfl (lv_at hl 1 rfl) ?_
  refine va_get (D := (dC, dI)) (ci := 17) (v := .ref (a 23)) (C := RX16) (T := TX16) (N := 56) hx hb hts hi_dm_X16_opening_X16 hown hK hP 0 rfl rfl 32 (by decide) (hts (.fieldLink RX16 79 "TimeMachineModel$Machine" "position" "[I") (List.mem_of_getElem? (i := 7) rfl)) (fun _ h9 => h9) rfl dX16_opening_23 ?_
  refine lv_iload hx hb dX16_opening_26 (lv_at hl 0 rfl) ?_
  refine lv_iconst (v := 0) hx hb dX16_opening_28 (by decide) ?_
  obtain ⟨i8, h⟩ := nd_ck_e h
  refine va_iast (i := q1) (x := 0) hx hb hK hP hD hS 23 22 rfl rfl i8 dX16_opening_29 (fun H locs hP hD hS => ?_)
  obtain ⟨s9, es9, h⟩ := nd_let_e h
  have hP : va_P (dC, dI) vwCl (dw_X16 a ac s9) H := by rw [es9]; exact hP
  have hD : va_D A (dw_X16 a ac s9) := by rw [es9]; exact hD
  refine lv_aload_n hx hb dX16_opening_30 rfl (lv_at hl 1 rfl) ?_
  refine va_get (D := (dC, dI)) (ci := 17) (v := .ref (a 24)) (C := RX16) (T := TX16) (N := 56) hx hb hts hi_dm_X16_opening_X16 hown hK hP 0 rfl rfl 33 (by decide) (hts (.fieldLink RX16 82 "TimeMachineModel$Machine" "right" "[I") (List.mem_of_getElem? (i := 8) rfl)) (fun _ h9 => h9) rfl dX16_opening_31 ?_
  refine lv_iload hx hb dX16_opening_34 (lv_at hl 0 rfl) ?_
  refine lv_iload_n hx hb dX16_opening_36 rfl (lv_at hl 4 rfl) ?_
  obtain ⟨i10, h⟩ := nd_ck_e h
  refine va_iast (i := q1) (x := v2) hx hb hK hP hD hS 24 23 rfl rfl i10 dX16_opening_37 (fun H locs hP hD hS => ?_)
  obtain ⟨s11, es11, h⟩ := nd_let_e h
  have hP : va_P (dC, dI) vwCl (dw_X16 a ac s11) H := by rw [es11]; exact hP
  have hD : va_D A (dw_X16 a ac s11) := by rw [es11]; exact hD
  refine lv_iload hx hb dX16_opening_38 (lv_at hl 0 rfl) ?_
  exact K _ _ _ _ _ _ dX16_opening_40 rfl (Option.some.inj h).symm hP hD hS
set_option maxHeartbeats 40000000 in
set_option maxRecDepth 100000 in
theorem dm_X16_opening (l : Launch) (hlt : l.stackTraces = false) (dC : Nat → ClassId) (dI : Nat → Nat → Nat) (a : Nat → Nat) (ac : Nat → ClassId) (n : Nat) (v0 : Int32) (v1 : Int32) (v2 : Int32) (s0 : St × (St)) {r : Int32 × (St × (St))} (h : df_X16_opening n v0 v1 v2 s0 = some r) (sz : Nat) : Met l yX16_opening ow_dm_X16_opening ({ frames := 1, cells := 0, slots := 0, locals := 21 }) (va_Pc [.ref (a 0), .int v0, .int v1, .int v2] (fun U => U.heap.size = sz ∧ va_P (dC, dI) vwCl (dw_X16 a ac s0) U.heap ∧ va_K (dC, dI) vwCl (dk_X16 ac) U ∧ va_D (fun _ => True) (dw_X16 a ac s0) ∧ nv_E dI (va_A (dw_X16 a ac s0) sz) U)) (va_Qi (fun x _ => x = r.1) (fun (_ : Unit) t => va_P (dC, dI) vwCl (dw_X16 a ac r.2) t.heap ∧ va_K (dC, dI) vwCl (dk_X16 ac) t ∧ va_D (va_A (dw_X16 a ac s0) sz) (dw_X16 a ac r.2)) (va_A (dw_X16 a ac s0) sz)) 0 0 (va_A (dw_X16 a ac s0) sz) := by
  refine Met.ofW (cc := cX16_opening) (maxL := 5) (ret := (some .int)) (by decide) rfl ?_
  intro p e s m args below meth c s₁ B hml hv
  obtain ⟨rfl, hsz, hP, hK, hD0, hN⟩ := hv
  have hx := B.exec
  have hb := B.bytes
  have hr := B.returns
  have hts := atoms_spec (ws := ow_dm_X16_opening) B.pre
  have hown : s.vm.findClass RX16 = some m.cls := findClass_of_methodNamed B.named
  have hlocks := B.notSynchronized
  subst hsz
  have hD := hD0.self (sz := s.heap.size)
  generalize hAe : va_A (dw_X16 a ac s0) s.heap.size = A at hD hN ⊢
  have hA : ∀ q : Nat, s.heap.size ≤ q → A q := fun q h => by rw [← hAe]; exact Or.inr h
  have hl := lv_entry ([.ref (a 0), .int v0, .int v1, .int v2]) (n := 5) (Nat.le_of_ble_eq_true rfl)
  rw [lg_entry_eq]
  generalize (lg_sl ([.ref (a 0), .int v0, .int v1, .int v2]) ++ List.replicate (5 - (lg_sl ([.ref (a 0), .int v0, .int v1, .int v2])).length) Slot.unset).toArray = ls at hl ⊢
  have hl : lv_has ls 5 [(0, .ref (a 0)), (1, .int v0), (2, .int v1), (3, .int v2)] := hl
  exact db_X16_opening_0 (dC := dC) (dI := dI) (a := a) (ac := ac) (n := n) (r := r) ⟨hlt, hx, hb, hml, hown, hts, hN, hA, hK⟩ (fun pc v τ H locs ls d z er hP hD hS => by subst er; exact W.zret (v := v) hx hb hr z (fun t ht hW => ⟨⟨v, (), rfl, rfl, by rw [ht]; exact hP, va_K.moved hW.alike hK, hD⟩, hS.F ht⟩) hS.2.2 d) v0 v1 v2 s0 _ _ _ h hP hD va_S.rf (lv_sub hl [0, 1, 2, 3] rfl)
def ow_dm_X16_turn : List Cond := Cond.code yX16_turn cX16_turn 3 none :: ([Cond.fieldLink RX16 141 "TimeMachineModel$Machine" "current" "I", Cond.fieldLink RX16 144 "TimeMachineModel$Machine" "last" "I", Cond.fieldLink RX16 13 "TimeMachineModel$Machine" "state" "[I"] ++ (u_ws RX16 TX16 56 ++ []))
theorem gd_dm_X16_turn : ∀ w ∈ ow_dm_X16_turn, (w.onTables && w.keeps) = true ∨ ∃ ty, w = Cond.arrayClass ty := List.forall_mem_cons.mpr ⟨good_of_word rfl, List.forall_mem_append.mpr ⟨fun w h => good_of_word (List.all_eq_true.mp (by decide +kernel) w h), List.forall_mem_append.mpr ⟨gu_X16, fun _ h => nomatch h⟩⟩⟩
theorem hi_dm_X16_turn_X16 : ∀ w ∈ u_ws RX16 TX16 56, w ∈ ow_dm_X16_turn := fun w h => List.mem_cons_of_mem _ (List.mem_append_right _ (List.mem_append_left _ h))
def dj_X16_turn_76 (p : Program) (l : Launch) (e : Env) (s : State) (m : MethodId) (args : Array Value) (below : List Frame) (meth : Method) (c : Code) (Q : State → Prop) (A : Nat → Prop) (dC : Nat → ClassId) (dI : Nat → Nat → Nat) (a : Nat → Nat) (ac : Nat → ClassId) (g : Int32 → (St × (St)) → Option (St × (St))) (r : St × (St)) : Prop := ∀ (y1 : Int32) (s0 : St × (St)) (H : Heap) (locs : List Loc) (ls : Array Slot), g y1 s0 = some r → va_P (dC, dI) vwCl (dw_X16 a ac s0) H → va_D A (dw_X16 a ac s0) → va_S A s.heap H locs → lv_has ls 3 [] → W p l e (headSpec ow_dm_X16_turn ({ frames := 0, cells := 0, slots := 0, locals := 0 })).room s m args below meth c H locs 0 0 Q (F0 m 76 ls [.int y1, .ref (a 0)])
def dj_X16_turn_56 (p : Program) (l : Launch) (e : Env) (s : State) (m : MethodId) (args : Array Value) (below : List Frame) (meth : Method) (c : Code) (Q : State → Prop) (A : Nat → Prop) (dC : Nat → ClassId) (dI : Nat → Nat → Nat) (a : Nat → Nat) (ac : Nat → ClassId) (g : (St × (St)) → Option (St × (St))) (r : St × (St)) : Prop := ∀ (s0 : St × (St)) (H : Heap) (locs : List Loc) (ls : Array Slot), g s0 = some r → va_P (dC, dI) vwCl (dw_X16 a ac s0) H → va_D A (dw_X16 a ac s0) → va_S A s.heap H locs → lv_has ls 3 [(0, .ref (a 0))] → W p l e (headSpec ow_dm_X16_turn ({ frames := 0, cells := 0, slots := 0, locals := 0 })).room s m args below meth c H locs 0 0 Q (F0 m 56 ls [])
def dj_X16_turn_47 (p : Program) (l : Launch) (e : Env) (s : State) (m : MethodId) (args : Array Value) (below : List Frame) (meth : Method) (c : Code) (Q : State → Prop) (A : Nat → Prop) (dC : Nat → ClassId) (dI : Nat → Nat → Nat) (a : Nat → Nat) (ac : Nat → ClassId) (g : Int32 → Int32 → (St × (St)) → Option (St × (St))) (r : St × (St)) : Prop := ∀ (x1 : Int32) (y1 : Int32) (s0 : St × (St)) (H : Heap) (locs : List Loc) (ls : Array Slot), g x1 y1 s0 = some r → va_P (dC, dI) vwCl (dw_X16 a ac s0) H → va_D A (dw_X16 a ac s0) → va_S A s.heap H locs → lv_has ls 3 [(0, .ref (a 0)), (1, .int x1)] → W p l e (headSpec ow_dm_X16_turn ({ frames := 0, cells := 0, slots := 0, locals := 0 })).room s m args below meth c H locs 0 0 Q (F0 m 47 ls [.int y1, .ref (a 0)])
def dj_X16_turn_7 (p : Program) (l : Launch) (e : Env) (s : State) (m : MethodId) (args : Array Value) (below : List Frame) (meth : Method) (c : Code) (Q : State → Prop) (A : Nat → Prop) (dC : Nat → ClassId) (dI : Nat → Nat → Nat) (a : Nat → Nat) (ac : Nat → ClassId) (g : Int32 → (St × (St)) → Option (St × (St))) (r : St × (St)) : Prop := ∀ (x1 : Int32) (s0 : St × (St)) (H : Heap) (locs : List Loc) (ls : Array Slot), g x1 s0 = some r → va_P (dC, dI) vwCl (dw_X16 a ac s0) H → va_D A (dw_X16 a ac s0) → va_S A s.heap H locs → lv_has ls 3 [(0, .ref (a 0)), (1, .int x1)] → W p l e (headSpec ow_dm_X16_turn ({ frames := 0, cells := 0, slots := 0, locals := 0 })).room s m args below meth c H locs 0 0 Q (F0 m 7 ls [])
def dj_X16_turn_0 (p : Program) (l : Launch) (e : Env) (s : State) (m : MethodId) (args : Array Value) (below : List Frame) (meth : Method) (c : Code) (Q : State → Prop) (A : Nat → Prop) (dC : Nat → ClassId) (dI : Nat → Nat → Nat) (a : Nat → Nat) (ac : Nat → ClassId) (g : (St × (St)) → Option (St × (St))) (r : St × (St)) : Prop := ∀ (s0 : St × (St)) (H : Heap) (locs : List Loc) (ls : Array Slot), g s0 = some r → va_P (dC, dI) vwCl (dw_X16 a ac s0) H → va_D A (dw_X16 a ac s0) → va_S A s.heap H locs → lv_has ls 3 [(0, .ref (a 0))] → W p l e (headSpec ow_dm_X16_turn ({ frames := 0, cells := 0, slots := 0, locals := 0 })).room s m args below meth c H locs 0 0 Q (F0 m 0 ls [])
set_option maxHeartbeats 40000000 in
set_option maxRecDepth 100000 in
theorem db_X16_turn_76 {p : Program} {l : Launch} {e : Env} {s : State} {m : MethodId} {args : Array Value} {below : List Frame} {meth : Method} {c : Code} {Q : State → Prop} {A : Nat → Prop} {dC : Nat → ClassId} {dI : Nat → Nat → Nat} {a : Nat → Nat} {ac : Nat → ClassId} {n : Nat} {r : St × (St)} (C : nd_C p l s m args c A (dC, dI) cX16_turn 3 RX16 ow_dm_X16_turn (dk_X16 ac)) (K : nd_Kv p l e (headSpec ow_dm_X16_turn ({ frames := 0, cells := 0, slots := 0, locals := 0 })).room s m args below meth c Q A (dC, dI) cX16_turn (St × (St)) (dw_X16 a ac) r) : dj_X16_turn_76 p l e s m args below meth c Q A dC dI a ac (df_X16_turn_76 n) r := by
  obtain ⟨hlt, hx, hb, hml, hown, hts, hN, hA, hK⟩ := id C
  intro y1 s0 H locs ls h hP hD hS hl
  unfold df_X16_turn_76 at h
  refine va_put (D := (dC, dI)) (ci := 17) (v := .int y1) (ty := .int) (C := RX16) (T := TX16) (N := 56) hx hb hts hi_dm_X16_turn_X16 tyX16 tyX16_ok nmX16 hown hK hP hD hS 0 rfl rfl 3 (by decide) (hts (.fieldLink RX16 144 "TimeMachineModel$Machine" "last" "I") (List.mem_of_getElem? (i := 2) rfl)) (fun _ h9 => h9) rfl (by decide +kernel) rfl rfl (Nat.le_of_ble_eq_true rfl) dX16_turn_76 (fun H locs hP hD hS => ?_)
  obtain ⟨s4, es4, h⟩ := nd_let_e h
  have hP : va_P (dC, dI) vwCl (dw_X16 a ac s4) H := by rw [es4]; exact hP
  have hD : va_D A (dw_X16 a ac s4) := by rw [es4]; exact hD
  exact K _ _ _ _ _ dX16_turn_79 (Option.some.inj h).symm hP hD hS
set_option maxHeartbeats 40000000 in
set_option maxRecDepth 100000 in
theorem db_X16_turn_56 {p : Program} {l : Launch} {e : Env} {s : State} {m : MethodId} {args : Array Value} {below : List Frame} {meth : Method} {c : Code} {Q : State → Prop} {A : Nat → Prop} {dC : Nat → ClassId} {dI : Nat → Nat → Nat} {a : Nat → Nat} {ac : Nat → ClassId} {n : Nat} {r : St × (St)} (C : nd_C p l s m args c A (dC, dI) cX16_turn 3 RX16 ow_dm_X16_turn (dk_X16 ac)) (K : nd_Kv p l e (headSpec ow_dm_X16_turn ({ frames := 0, cells := 0, slots := 0, locals := 0 })).room s m args below meth c Q A (dC, dI) cX16_turn (St × (St)) (dw_X16 a ac) r) : dj_X16_turn_56 p l e s m args below meth c Q A dC dI a ac (df_X16_turn_56 n) r := by
  obtain ⟨hlt, hx, hb, hml, hown, hts, hN, hA, hK⟩ := id C
  intro s0 H locs ls h hP hD hS hl
  unfold df_X16_turn_56 at h
  refine lv_aload_n hx hb dX16_turn_56 rfl (lv_at hl 0 rfl) ?_
  refine lv_aload_n hx hb dX16_turn_57 rfl (lv_at hl 0 rfl) ?_
  refine va_get (D := (dC, dI)) (ci := 17) (v := .int (sI s0.1 1)) (C := RX16) (T := TX16) (N := 56) hx hb hts hi_dm_X16_turn_X16 hown hK hP 0 rfl rfl 2 (by decide) (hts (.fieldLink RX16 141 "TimeMachineModel$Machine" "current" "I") (List.mem_of_getElem? (i := 1) rfl)) (fun _ h9 => h9) rfl dX16_turn_58 ?_
  refine lv_iconst (v := (-1)) hx hb dX16_turn_61 (by decide) ?_
  refine lv_icmp_ne (tgt := 72) hx hb dX16_turn_62 (by decide) (fun c3 => ?_) (fun c3 => ?_)
  · have h := nd_neg h c3
    refine lv_aload_n hx hb dX16_turn_72 rfl (lv_at hl 0 rfl) ?_
    refine va_get (D := (dC, dI)) (ci := 17) (v := .int (sI s0.1 1)) (C := RX16) (T := TX16) (N := 56) hx hb hts hi_dm_X16_turn_X16 hown hK hP 0 rfl rfl 2 (by decide) (hts (.fieldLink RX16 141 "TimeMachineModel$Machine" "current" "I") (List.mem_of_getElem? (i := 1) rfl)) (fun _ h9 => h9) rfl dX16_turn_73 ?_
    exact (db_X16_turn_76 C K) ((sI s0.1 1)) s0 _ _ _ h hP hD hS (lv_sub hl [] rfl)
  · have h := nd_pos h c3
    refine lv_aload_n hx hb dX16_turn_65 rfl (lv_at hl 0 rfl) ?_
    refine va_get (D := (dC, dI)) (ci := 17) (v := .int (sI s0.1 2)) (C := RX16) (T := TX16) (N := 56) hx hb hts hi_dm_X16_turn_X16 hown hK hP 0 rfl rfl 3 (by decide) (hts (.fieldLink RX16 144 "TimeMachineModel$Machine" "last" "I") (List.mem_of_getElem? (i := 2) rfl)) (fun _ h9 => h9) rfl dX16_turn_66 ?_
    refine lv_goto (tgt := 76) hx hb dX16_turn_69 (by decide) ?_
    exact (db_X16_turn_76 C K) ((sI s0.1 2)) s0 _ _ _ h hP hD hS (lv_sub hl [] rfl)
set_option maxHeartbeats 40000000 in
set_option maxRecDepth 100000 in
theorem db_X16_turn_47 {p : Program} {l : Launch} {e : Env} {s : State} {m : MethodId} {args : Array Value} {below : List Frame} {meth : Method} {c : Code} {Q : State → Prop} {A : Nat → Prop} {dC : Nat → ClassId} {dI : Nat → Nat → Nat} {a : Nat → Nat} {ac : Nat → ClassId} {n : Nat} {r : St × (St)} (C : nd_C p l s m args c A (dC, dI) cX16_turn 3 RX16 ow_dm_X16_turn (dk_X16 ac)) (K : nd_Kv p l e (headSpec ow_dm_X16_turn ({ frames := 0, cells := 0, slots := 0, locals := 0 })).room s m args below meth c Q A (dC, dI) cX16_turn (St × (St)) (dw_X16 a ac) r) {g7 : Int32 → (St × (St)) → Option (St × (St))} (J7 : dj_X16_turn_7 p l e s m args below meth c Q A dC dI a ac g7 r) : dj_X16_turn_47 p l e s m args below meth c Q A dC dI a ac (df_X16_turn_47 n g7) r := by
  obtain ⟨hlt, hx, hb, hml, hown, hts, hN, hA, hK⟩ := id C
  intro x1 y1 s0 H locs ls h hP hD hS hl
  unfold df_X16_turn_47 at h
  refine va_put (D := (dC, dI)) (ci := 17) (v := .int y1) (ty := .int) (C := RX16) (T := TX16) (N := 56) hx hb hts hi_dm_X16_turn_X16 tyX16 tyX16_ok nmX16 hown hK hP hD hS 0 rfl rfl 2 (by decide) (hts (.fieldLink RX16 141 "TimeMachineModel$Machine" "current" "I") (List.mem_of_getElem? (i := 1) rfl)) (fun _ h9 => h9) rfl (by decide +kernel) rfl rfl (Nat.le_of_ble_eq_true rfl) dX16_turn_47 (fun H locs hP hD hS => ?_)
  obtain ⟨s9, es9, h⟩ := nd_let_e h
  have hP : va_P (dC, dI) vwCl (dw_X16 a ac s9) H := by rw [es9]; exact hP
  have hD : va_D A (dw_X16 a ac s9) := by rw [es9]; exact hD
  obtain ⟨z10, ez10, h⟩ := nd_let_e h
  refine lv_iinc (v := z10) (lv' := [(1, .int z10), (0, .ref (a 0))]) hx hb dX16_turn_50 hl (k := 1) rfl (by rw [ez10]) (by decide) rfl (fun ls hl => ?_)
  refine lv_goto (tgt := 7) hx hb dX16_turn_53 (by decide) ?_
  exact (J7) (z10) s9 _ _ _ h hP hD hS (lv_sub hl [1, 0] rfl)
set_option maxHeartbeats 40000000 in
set_option maxRecDepth 100000 in
theorem dB_X16_turn_7 {p : Program} {l : Launch} {e : Env} {s : State} {m : MethodId} {args : Array Value} {below : List Frame} {meth : Method} {c : Code} {Q : State → Prop} {A : Nat → Prop} {dC : Nat → ClassId} {dI : Nat → Nat → Nat} {a : Nat → Nat} {ac : Nat → ClassId} {n : Nat} {r : St × (St)} (C : nd_C p l s m args c A (dC, dI) cX16_turn 3 RX16 ow_dm_X16_turn (dk_X16 ac)) (K : nd_Kv p l e (headSpec ow_dm_X16_turn ({ frames := 0, cells := 0, slots := 0, locals := 0 })).room s m args below meth c Q A (dC, dI) cX16_turn (St × (St)) (dw_X16 a ac) r) {g7 : Int32 → (St × (St)) → Option (St × (St))} (J7 : dj_X16_turn_7 p l e s m args below meth c Q A dC dI a ac g7 r) : dj_X16_turn_7 p l e s m args below meth c Q A dC dI a ac (dF_X16_turn_7 n g7) r := by
  obtain ⟨hlt, hx, hb, hml, hown, hts, hN, hA, hK⟩ := id C
  intro x1 s0 H locs ls h hP hD hS hl
  unfold dF_X16_turn_7 at h
  refine lv_iload_n hx hb dX16_turn_7 rfl (lv_at hl 1 rfl) ?_
  refine lv_bipush (v := 16) hx hb dX16_turn_8 (by decide) ?_
  refine lv_icmp_gt (tgt := 56) hx hb dX16_turn_10 (by decide) (fun c2 => ?_) (fun c2 => ?_)
  · have h := nd_pos h c2
    exact (db_X16_turn_56 C K)  s0 _ _ _ h hP hD hS (lv_sub hl [0] rfl)
  · have h := nd_neg h c2
    refine lv_aload_n hx hb dX16_turn_13 rfl (lv_at hl 0 rfl) ?_
    refine va_get (D := (dC, dI)) (ci := 17) (v := .int (sI s0.1 1)) (C := RX16) (T := TX16) (N := 56) hx hb hts hi_dm_X16_turn_X16 hown hK hP 0 rfl rfl 2 (by decide) (hts (.fieldLink RX16 141 "TimeMachineModel$Machine" "current" "I") (List.mem_of_getElem? (i := 1) rfl)) (fun _ h9 => h9) rfl dX16_turn_14 ?_
    refine lv_iconst (v := (-1)) hx hb dX16_turn_17 (by decide) ?_
    refine lv_icmp_ne (tgt := 56) hx hb dX16_turn_18 (by decide) (fun c5 => ?_) (fun c5 => ?_)
    · have h := nd_neg h c5
      exact (db_X16_turn_56 C K)  s0 _ _ _ h hP hD hS (lv_sub hl [0] rfl)
    · have h := nd_pos h c5
      refine lv_aload_n hx hb dX16_turn_21 rfl (lv_at hl 0 rfl) ?_
      refine va_get (D := (dC, dI)) (ci := 17) (v := .int (sI s0.1 2)) (C := RX16) (T := TX16) (N := 56) hx hb hts hi_dm_X16_turn_X16 hown hK hP 0 rfl rfl 3 (by decide) (hts (.fieldLink RX16 144 "TimeMachineModel$Machine" "last" "I") (List.mem_of_getElem? (i := 2) rfl)) (fun _ h9 => h9) rfl dX16_turn_22 ?_
      refine lv_iload_n hx hb dX16_turn_25 rfl (lv_at hl 1 rfl) ?_
      refine lv_iadd hx hb dX16_turn_26 ?_
      refine lv_bipush (v := 16) hx hb dX16_turn_27 (by decide) ?_
      refine lv_irem hx hb dX16_turn_29 (by decide) ?_
      refine lv_topi (fun z6 ez6 => ?_)
      have h := nd_at h ez6
      refine lv_istore_n (lv' := [(2, .int z6), (0, .ref (a 0)), (1, .int x1)]) hx hb dX16_turn_30 rfl hl (by decide) rfl (fun ls hl => ?_)
      refine lv_aload_n hx hb dX16_turn_31 rfl (lv_at hl 1 rfl) ?_
      refine lv_aload_n hx hb dX16_turn_32 rfl (lv_at hl 1 rfl) ?_
      refine va_get (D := (dC, dI)) (ci := 17) (v := .ref (a 2)) (C := RX16) (T := TX16) (N := 56) hx hb hts hi_dm_X16_turn_X16 hown hK hP 0 rfl rfl 10 (by decide) (hts (.fieldLink RX16 13 "TimeMachineModel$Machine" "state" "[I") (List.mem_of_getElem? (i := 3) rfl)) (fun _ h9 => h9) rfl dX16_turn_33 ?_
      refine lv_iload_n hx hb dX16_turn_36 rfl (lv_at hl 0 rfl) ?_
      obtain ⟨i7, h⟩ := nd_ck_e h
      refine va_iald (i := z6) hx hb hK hP 2 1 rfl rfl i7 dX16_turn_37 ?_
      refine lv_iconst (v := 1) hx hb dX16_turn_38 (by decide) ?_
      refine lv_icmp_ne (tgt := 46) hx hb dX16_turn_39 (by decide) (fun c8 => ?_) (fun c8 => ?_)
      · have h := nd_neg h c8
        refine lv_iconst (v := (-1)) hx hb dX16_turn_46 (by decide) ?_
        exact (db_X16_turn_47 C K J7) (x1) ((-1)) s0 _ _ _ h hP hD hS (lv_sub hl [1, 2] rfl)
      · have h := nd_pos h c8
        refine lv_iload_n hx hb dX16_turn_42 rfl (lv_at hl 0 rfl) ?_
        refine lv_goto (tgt := 47) hx hb dX16_turn_43 (by decide) ?_
        exact (db_X16_turn_47 C K J7) (x1) (z6) s0 _ _ _ h hP hD hS (lv_sub hl [1, 2] rfl)
set_option maxHeartbeats 40000000 in
set_option maxRecDepth 100000 in
theorem db_X16_turn_7 {p : Program} {l : Launch} {e : Env} {s : State} {m : MethodId} {args : Array Value} {below : List Frame} {meth : Method} {c : Code} {Q : State → Prop} {A : Nat → Prop} {dC : Nat → ClassId} {dI : Nat → Nat → Nat} {a : Nat → Nat} {ac : Nat → ClassId} {n : Nat} {r : St × (St)} (C : nd_C p l s m args c A (dC, dI) cX16_turn 3 RX16 ow_dm_X16_turn (dk_X16 ac)) (K : nd_Kv p l e (headSpec ow_dm_X16_turn ({ frames := 0, cells := 0, slots := 0, locals := 0 })).room s m args below meth c Q A (dC, dI) cX16_turn (St × (St)) (dw_X16 a ac) r) (k : Nat) : dj_X16_turn_7 p l e s m args below meth c Q A dC dI a ac (df_X16_turn_7 n k) r := by
  induction k with
  | zero => intro x1 s0 H locs ls h; exact nomatch (show (none : Option (St × (St))) = some r from h)
  | succ k ih => exact dB_X16_turn_7 C K ih
set_option maxHeartbeats 40000000 in
set_option maxRecDepth 100000 in
theorem db_X16_turn_0 {p : Program} {l : Launch} {e : Env} {s : State} {m : MethodId} {args : Array Value} {below : List Frame} {meth : Method} {c : Code} {Q : State → Prop} {A : Nat → Prop} {dC : Nat → ClassId} {dI : Nat → Nat → Nat} {a : Nat → Nat} {ac : Nat → ClassId} {n : Nat} {r : St × (St)} (C : nd_C p l s m args c A (dC, dI) cX16_turn 3 RX16 ow_dm_X16_turn (dk_X16 ac)) (K : nd_Kv p l e (headSpec ow_dm_X16_turn ({ frames := 0, cells := 0, slots := 0, locals := 0 })).room s m args below meth c Q A (dC, dI) cX16_turn (St × (St)) (dw_X16 a ac) r) : dj_X16_turn_0 p l e s m args below meth c Q A dC dI a ac (df_X16_turn_0 n) r := by
  obtain ⟨hlt, hx, hb, hml, hown, hts, hN, hA, hK⟩ := id C
  intro s0 H locs ls h hP hD hS hl
  unfold df_X16_turn_0 at h
  refine lv_aload_n hx hb dX16_turn_0 rfl (lv_at hl 0 rfl) ?_
  refine lv_iconst (v := (-1)) hx hb dX16_turn_1 (by decide) ?_
  refine va_put (D := (dC, dI)) (ci := 17) (v := .int (-1)) (ty := .int) (C := RX16) (T := TX16) (N := 56) hx hb hts hi_dm_X16_turn_X16 tyX16 tyX16_ok nmX16 hown hK hP hD hS 0 rfl rfl 2 (by decide) (hts (.fieldLink RX16 141 "TimeMachineModel$Machine" "current" "I") (List.mem_of_getElem? (i := 1) rfl)) (fun _ h9 => h9) rfl (by decide +kernel) rfl rfl (Nat.le_of_ble_eq_true rfl) dX16_turn_2 (fun H locs hP hD hS => ?_)
  obtain ⟨s1, es1, h⟩ := nd_let_e h
  have hP : va_P (dC, dI) vwCl (dw_X16 a ac s1) H := by rw [es1]; exact hP
  have hD : va_D A (dw_X16 a ac s1) := by rw [es1]; exact hD
  refine lv_iconst (v := 1) hx hb dX16_turn_5 (by decide) ?_
  refine lv_istore_n (lv' := [(1, .int 1), (0, .ref (a 0))]) hx hb dX16_turn_6 rfl hl (by decide) rfl (fun ls hl => ?_)
  exact (db_X16_turn_7 C K n) (1) s1 _ _ _ h hP hD hS (lv_sub hl [1, 0] rfl)
set_option maxHeartbeats 40000000 in
set_option maxRecDepth 100000 in
theorem dm_X16_turn (l : Launch) (hlt : l.stackTraces = false) (dC : Nat → ClassId) (dI : Nat → Nat → Nat) (a : Nat → Nat) (ac : Nat → ClassId) (n : Nat) (s0 : St × (St)) {r : St × (St)} (h : df_X16_turn n s0 = some r) (sz : Nat) : Met l yX16_turn ow_dm_X16_turn ({ frames := 0, cells := 0, slots := 0, locals := 0 }) (va_Pc [.ref (a 0)] (fun U => U.heap.size = sz ∧ va_P (dC, dI) vwCl (dw_X16 a ac s0) U.heap ∧ va_K (dC, dI) vwCl (dk_X16 ac) U ∧ va_D (fun _ => True) (dw_X16 a ac s0) ∧ nv_E dI (va_A (dw_X16 a ac s0) sz) U)) (va_Qv (fun _ => True) (fun (_ : Unit) t => va_P (dC, dI) vwCl (dw_X16 a ac r) t.heap ∧ va_K (dC, dI) vwCl (dk_X16 ac) t ∧ va_D (va_A (dw_X16 a ac s0) sz) (dw_X16 a ac r)) (va_A (dw_X16 a ac s0) sz)) 0 0 (va_A (dw_X16 a ac s0) sz) := by
  refine Met.ofW (cc := cX16_turn) (maxL := 3) (ret := none) (by decide) rfl ?_
  intro p e s m args below meth c s₁ B hml hv
  obtain ⟨rfl, hsz, hP, hK, hD0, hN⟩ := hv
  have hx := B.exec
  have hb := B.bytes
  have hr := B.returns
  have hts := atoms_spec (ws := ow_dm_X16_turn) B.pre
  have hown : s.vm.findClass RX16 = some m.cls := findClass_of_methodNamed B.named
  have hlocks := B.notSynchronized
  subst hsz
  have hD := hD0.self (sz := s.heap.size)
  generalize hAe : va_A (dw_X16 a ac s0) s.heap.size = A at hD hN ⊢
  have hA : ∀ q : Nat, s.heap.size ≤ q → A q := fun q h => by rw [← hAe]; exact Or.inr h
  have hl := lv_entry ([.ref (a 0)]) (n := 3) (Nat.le_of_ble_eq_true rfl)
  rw [lg_entry_eq]
  generalize (lg_sl ([.ref (a 0)]) ++ List.replicate (3 - (lg_sl ([.ref (a 0)])).length) Slot.unset).toArray = ls at hl ⊢
  have hl : lv_has ls 3 [(0, .ref (a 0))] := hl
  exact db_X16_turn_0 (dC := dC) (dI := dI) (a := a) (ac := ac) (n := n) (r := r) ⟨hlt, hx, hb, hml, hown, hts, hN, hA, hK⟩ (fun pc τ H locs ls d er hP hD hS => by subst er; exact W.vret hx hb hr (fun t ht hW => ⟨⟨(), rfl, trivial, by rw [ht]; exact hP, va_K.moved hW.alike hK, hD⟩, hS.F ht⟩) hS.2.2 d) s0 _ _ _ h hP hD va_S.rf (lv_sub hl [0] rfl)
def ow_dm_X16_child : List Cond := Cond.code yX16_child cX16_child 4 (some .int) :: ([Cond.fieldLink RX16 13 "TimeMachineModel$Machine" "state" "[I", Cond.fieldLink RX16 16 "TimeMachineModel$Machine" "parent" "[I"] ++ (u_ws RX16 TX16 56 ++ []))
theorem gd_dm_X16_child : ∀ w ∈ ow_dm_X16_child, (w.onTables && w.keeps) = true ∨ ∃ ty, w = Cond.arrayClass ty := List.forall_mem_cons.mpr ⟨good_of_word rfl, List.forall_mem_append.mpr ⟨fun w h => good_of_word (List.all_eq_true.mp (by decide +kernel) w h), List.forall_mem_append.mpr ⟨gu_X16, fun _ h => nomatch h⟩⟩⟩
theorem hi_dm_X16_child_X16 : ∀ w ∈ u_ws RX16 TX16 56, w ∈ ow_dm_X16_child := fun w h => List.mem_cons_of_mem _ (List.mem_append_right _ (List.mem_append_left _ h))
def dj_X16_child_58 (p : Program) (l : Launch) (e : Env) (s : State) (m : MethodId) (args : Array Value) (below : List Frame) (meth : Method) (c : Code) (Q : State → Prop) (A : Nat → Prop) (dC : Nat → ClassId) (dI : Nat → Nat → Nat) (a : Nat → Nat) (ac : Nat → ClassId) (g : Int32 → (St × (St)) → Option (Int32 × (St × (St)))) (r : Int32 × (St × (St))) : Prop := ∀ (y0 : Int32) (s0 : St × (St)) (H : Heap) (locs : List Loc) (ls : Array Slot), g y0 s0 = some r → va_P (dC, dI) vwCl (dw_X16 a ac s0) H → va_D A (dw_X16 a ac s0) → va_S A s.heap H locs → lv_has ls 4 [] → W p l e (headSpec ow_dm_X16_child ({ frames := 0, cells := 0, slots := 0, locals := 0 })).room s m args below meth c H locs 0 0 Q (F0 m 58 ls [.int y0])
def dj_X16_child_47 (p : Program) (l : Launch) (e : Env) (s : State) (m : MethodId) (args : Array Value) (below : List Frame) (meth : Method) (c : Code) (Q : State → Prop) (A : Nat → Prop) (dC : Nat → ClassId) (dI : Nat → Nat → Nat) (a : Nat → Nat) (ac : Nat → ClassId) (g : Int32 → (St × (St)) → Option (Int32 × (St × (St)))) (r : Int32 × (St × (St))) : Prop := ∀ (x3 : Int32) (s0 : St × (St)) (H : Heap) (locs : List Loc) (ls : Array Slot), g x3 s0 = some r → va_P (dC, dI) vwCl (dw_X16 a ac s0) H → va_D A (dw_X16 a ac s0) → va_S A s.heap H locs → lv_has ls 4 [(3, .int x3)] → W p l e (headSpec ow_dm_X16_child ({ frames := 0, cells := 0, slots := 0, locals := 0 })).room s m args below meth c H locs 0 0 Q (F0 m 47 ls [])
def dj_X16_child_41 (p : Program) (l : Launch) (e : Env) (s : State) (m : MethodId) (args : Array Value) (below : List Frame) (meth : Method) (c : Code) (Q : State → Prop) (A : Nat → Prop) (dC : Nat → ClassId) (dI : Nat → Nat → Nat) (a : Nat → Nat) (ac : Nat → ClassId) (g : Int32 → Int32 → Int32 → (St × (St)) → Option (Int32 × (St × (St)))) (r : Int32 × (St × (St))) : Prop := ∀ (x1 : Int32) (x2 : Int32) (x3 : Int32) (s0 : St × (St)) (H : Heap) (locs : List Loc) (ls : Array Slot), g x1 x2 x3 s0 = some r → va_P (dC, dI) vwCl (dw_X16 a ac s0) H → va_D A (dw_X16 a ac s0) → va_S A s.heap H locs → lv_has ls 4 [(0, .ref (a 0)), (1, .int x1), (2, .int x2), (3, .int x3)] → W p l e (headSpec ow_dm_X16_child ({ frames := 0, cells := 0, slots := 0, locals := 0 })).room s m args below meth c H locs 0 0 Q (F0 m 41 ls [])
def dj_X16_child_2 (p : Program) (l : Launch) (e : Env) (s : State) (m : MethodId) (args : Array Value) (below : List Frame) (meth : Method) (c : Code) (Q : State → Prop) (A : Nat → Prop) (dC : Nat → ClassId) (dI : Nat → Nat → Nat) (a : Nat → Nat) (ac : Nat → ClassId) (g : Int32 → Int32 → Int32 → (St × (St)) → Option (Int32 × (St × (St)))) (r : Int32 × (St × (St))) : Prop := ∀ (x1 : Int32) (x2 : Int32) (x3 : Int32) (s0 : St × (St)) (H : Heap) (locs : List Loc) (ls : Array Slot), g x1 x2 x3 s0 = some r → va_P (dC, dI) vwCl (dw_X16 a ac s0) H → va_D A (dw_X16 a ac s0) → va_S A s.heap H locs → lv_has ls 4 [(0, .ref (a 0)), (1, .int x1), (2, .int x2), (3, .int x3)] → W p l e (headSpec ow_dm_X16_child ({ frames := 0, cells := 0, slots := 0, locals := 0 })).room s m args below meth c H locs 0 0 Q (F0 m 2 ls [])
def dj_X16_child_0 (p : Program) (l : Launch) (e : Env) (s : State) (m : MethodId) (args : Array Value) (below : List Frame) (meth : Method) (c : Code) (Q : State → Prop) (A : Nat → Prop) (dC : Nat → ClassId) (dI : Nat → Nat → Nat) (a : Nat → Nat) (ac : Nat → ClassId) (g : Int32 → Int32 → (St × (St)) → Option (Int32 × (St × (St)))) (r : Int32 × (St × (St))) : Prop := ∀ (v0 : Int32) (v1 : Int32) (s0 : St × (St)) (H : Heap) (locs : List Loc) (ls : Array Slot), g v0 v1 s0 = some r → va_P (dC, dI) vwCl (dw_X16 a ac s0) H → va_D A (dw_X16 a ac s0) → va_S A s.heap H locs → lv_has ls 4 [(0, .ref (a 0)), (1, .int v0), (2, .int v1)] → W p l e (headSpec ow_dm_X16_child ({ frames := 0, cells := 0, slots := 0, locals := 0 })).room s m args below meth c H locs 0 0 Q (F0 m 0 ls [])
set_option maxHeartbeats 40000000 in
set_option maxRecDepth 100000 in
theorem db_X16_child_58 {p : Program} {l : Launch} {e : Env} {s : State} {m : MethodId} {args : Array Value} {below : List Frame} {meth : Method} {c : Code} {Q : State → Prop} {A : Nat → Prop} {dC : Nat → ClassId} {dI : Nat → Nat → Nat} {a : Nat → Nat} {ac : Nat → ClassId} {n : Nat} {r : Int32 × (St × (St))} (C : nd_C p l s m args c A (dC, dI) cX16_child 4 RX16 ow_dm_X16_child (dk_X16 ac)) (K : nd_Ki p l e (headSpec ow_dm_X16_child ({ frames := 0, cells := 0, slots := 0, locals := 0 })).room s m args below meth c Q A (dC, dI) cX16_child .int (St × (St)) (dw_X16 a ac) r) : dj_X16_child_58 p l e s m args below meth c Q A dC dI a ac (df_X16_child_58 n) r := by
  obtain ⟨hlt, hx, hb, hml, hown, hts, hN, hA, hK⟩ := id C
  intro y0 s0 H locs ls h hP hD hS hl
  unfold df_X16_child_58 at h
  exact K _ _ _ _ _ _ dX16_child_58 rfl (Option.some.inj h).symm hP hD hS
set_option maxHeartbeats 40000000 in
set_option maxRecDepth 100000 in
theorem db_X16_child_47 {p : Program} {l : Launch} {e : Env} {s : State} {m : MethodId} {args : Array Value} {below : List Frame} {meth : Method} {c : Code} {Q : State → Prop} {A : Nat → Prop} {dC : Nat → ClassId} {dI : Nat → Nat → Nat} {a : Nat → Nat} {ac : Nat → ClassId} {n : Nat} {r : Int32 × (St × (St))} (C : nd_C p l s m args c A (dC, dI) cX16_child 4 RX16 ow_dm_X16_child (dk_X16 ac)) (K : nd_Ki p l e (headSpec ow_dm_X16_child ({ frames := 0, cells := 0, slots := 0, locals := 0 })).room s m args below meth c Q A (dC, dI) cX16_child .int (St × (St)) (dw_X16 a ac) r) : dj_X16_child_47 p l e s m args below meth c Q A dC dI a ac (df_X16_child_47 n) r := by
  obtain ⟨hlt, hx, hb, hml, hown, hts, hN, hA, hK⟩ := id C
  intro x3 s0 H locs ls h hP hD hS hl
  unfold df_X16_child_47 at h
  refine lv_iload_n hx hb dX16_child_47 rfl (lv_at hl 0 rfl) ?_
  refine lv_bipush (v := 16) hx hb dX16_child_48 (by decide) ?_
  refine lv_icmp_ge (tgt := 57) hx hb dX16_child_50 (by decide) (fun c2 => ?_) (fun c2 => ?_)
  · have h := nd_pos h c2
    refine lv_iconst (v := (-1)) hx hb dX16_child_57 (by decide) ?_
    exact (db_X16_child_58 C K) ((-1)) s0 _ _ _ h hP hD hS (lv_sub hl [] rfl)
  · have h := nd_neg h c2
    refine lv_iload_n hx hb dX16_child_53 rfl (lv_at hl 0 rfl) ?_
    refine lv_goto (tgt := 58) hx hb dX16_child_54 (by decide) ?_
    exact (db_X16_child_58 C K) (x3) s0 _ _ _ h hP hD hS (lv_sub hl [] rfl)
set_option maxHeartbeats 40000000 in
set_option maxRecDepth 100000 in
theorem db_X16_child_41 {p : Program} {l : Launch} {e : Env} {s : State} {m : MethodId} {args : Array Value} {below : List Frame} {meth : Method} {c : Code} {Q : State → Prop} {A : Nat → Prop} {dC : Nat → ClassId} {dI : Nat → Nat → Nat} {a : Nat → Nat} {ac : Nat → ClassId} {n : Nat} {r : Int32 × (St × (St))} (C : nd_C p l s m args c A (dC, dI) cX16_child 4 RX16 ow_dm_X16_child (dk_X16 ac)) (K : nd_Ki p l e (headSpec ow_dm_X16_child ({ frames := 0, cells := 0, slots := 0, locals := 0 })).room s m args below meth c Q A (dC, dI) cX16_child .int (St × (St)) (dw_X16 a ac) r) {g2 : Int32 → Int32 → Int32 → (St × (St)) → Option (Int32 × (St × (St)))} (J2 : dj_X16_child_2 p l e s m args below meth c Q A dC dI a ac g2 r) : dj_X16_child_41 p l e s m args below meth c Q A dC dI a ac (df_X16_child_41 n g2) r := by
  obtain ⟨hlt, hx, hb, hml, hown, hts, hN, hA, hK⟩ := id C
  intro x1 x2 x3 s0 H locs ls h hP hD hS hl
  unfold df_X16_child_41 at h
  obtain ⟨z5, ez5, h⟩ := nd_let_e h
  refine lv_iinc (v := z5) (lv' := [(3, .int z5), (0, .ref (a 0)), (1, .int x1), (2, .int x2)]) hx hb dX16_child_41 hl (k := 3) rfl (by rw [ez5]) (by decide) rfl (fun ls hl => ?_)
  refine lv_goto (tgt := 2) hx hb dX16_child_44 (by decide) ?_
  exact (J2) (x1) (x2) (z5) s0 _ _ _ h hP hD hS (lv_sub hl [1, 2, 3, 0] rfl)
set_option maxHeartbeats 40000000 in
set_option maxRecDepth 100000 in
theorem dB_X16_child_2 {p : Program} {l : Launch} {e : Env} {s : State} {m : MethodId} {args : Array Value} {below : List Frame} {meth : Method} {c : Code} {Q : State → Prop} {A : Nat → Prop} {dC : Nat → ClassId} {dI : Nat → Nat → Nat} {a : Nat → Nat} {ac : Nat → ClassId} {n : Nat} {r : Int32 × (St × (St))} (C : nd_C p l s m args c A (dC, dI) cX16_child 4 RX16 ow_dm_X16_child (dk_X16 ac)) (K : nd_Ki p l e (headSpec ow_dm_X16_child ({ frames := 0, cells := 0, slots := 0, locals := 0 })).room s m args below meth c Q A (dC, dI) cX16_child .int (St × (St)) (dw_X16 a ac) r) {g2 : Int32 → Int32 → Int32 → (St × (St)) → Option (Int32 × (St × (St)))} (J2 : dj_X16_child_2 p l e s m args below meth c Q A dC dI a ac g2 r) : dj_X16_child_2 p l e s m args below meth c Q A dC dI a ac (dF_X16_child_2 n g2) r := by
  obtain ⟨hlt, hx, hb, hml, hown, hts, hN, hA, hK⟩ := id C
  intro x1 x2 x3 s0 H locs ls h hP hD hS hl
  unfold dF_X16_child_2 at h
  refine lv_iload_n hx hb dX16_child_2 rfl (lv_at hl 3 rfl) ?_
  refine lv_bipush (v := 16) hx hb dX16_child_3 (by decide) ?_
  refine lv_icmp_ge (tgt := 47) hx hb dX16_child_5 (by decide) (fun c1 => ?_) (fun c1 => ?_)
  · have h := nd_pos h c1
    exact (db_X16_child_47 C K) (x3) s0 _ _ _ h hP hD hS (lv_sub hl [3] rfl)
  · have h := nd_neg h c1
    refine lv_aload_n hx hb dX16_child_8 rfl (lv_at hl 0 rfl) ?_
    refine va_get (D := (dC, dI)) (ci := 17) (v := .ref (a 2)) (C := RX16) (T := TX16) (N := 56) hx hb hts hi_dm_X16_child_X16 hown hK hP 0 rfl rfl 10 (by decide) (hts (.fieldLink RX16 13 "TimeMachineModel$Machine" "state" "[I") (List.mem_of_getElem? (i := 1) rfl)) (fun _ h9 => h9) rfl dX16_child_9 ?_
    refine lv_iload_n hx hb dX16_child_12 rfl (lv_at hl 3 rfl) ?_
    obtain ⟨i3, h⟩ := nd_ck_e h
    refine va_iald (i := x3) hx hb hK hP 2 1 rfl rfl i3 dX16_child_13 ?_
    refine lv_if_eq (tgt := 41) hx hb dX16_child_14 (by decide) (fun c4 => ?_) (fun c4 => ?_)
    · have h := nd_pos h c4
      exact (db_X16_child_41 C K J2) (x1) (x2) (x3) s0 _ _ _ h hP hD hS (lv_sub hl [0, 1, 2, 3] rfl)
    · have h := nd_neg h c4
      refine lv_aload_n hx hb dX16_child_17 rfl (lv_at hl 0 rfl) ?_
      refine va_get (D := (dC, dI)) (ci := 17) (v := .ref (a 3)) (C := RX16) (T := TX16) (N := 56) hx hb hts hi_dm_X16_child_X16 hown hK hP 0 rfl rfl 11 (by decide) (hts (.fieldLink RX16 16 "TimeMachineModel$Machine" "parent" "[I") (List.mem_of_getElem? (i := 2) rfl)) (fun _ h9 => h9) rfl dX16_child_18 ?_
      refine lv_iload_n hx hb dX16_child_21 rfl (lv_at hl 3 rfl) ?_
      obtain ⟨i6, h⟩ := nd_ck_e h
      refine va_iald (i := x3) hx hb hK hP 3 2 rfl rfl i6 dX16_child_22 ?_
      refine lv_iload_n hx hb dX16_child_23 rfl (lv_at hl 1 rfl) ?_
      refine lv_icmp_ne (tgt := 41) hx hb dX16_child_24 (by decide) (fun c7 => ?_) (fun c7 => ?_)
      · have h := nd_neg h c7
        exact (db_X16_child_41 C K J2) (x1) (x2) (x3) s0 _ _ _ h hP hD hS (lv_sub hl [0, 1, 2, 3] rfl)
      · have h := nd_pos h c7
        refine lv_iload_n hx hb dX16_child_27 rfl (lv_at hl 2 rfl) ?_
        refine lv_if_eq (tgt := 47) hx hb dX16_child_28 (by decide) (fun c8 => ?_) (fun c8 => ?_)
        · have h := nd_pos h c8
          exact (db_X16_child_47 C K) (x3) s0 _ _ _ h hP hD hS (lv_sub hl [3] rfl)
        · have h := nd_neg h c8
          refine lv_aload_n hx hb dX16_child_31 rfl (lv_at hl 0 rfl) ?_
          refine va_get (D := (dC, dI)) (ci := 17) (v := .ref (a 2)) (C := RX16) (T := TX16) (N := 56) hx hb hts hi_dm_X16_child_X16 hown hK hP 0 rfl rfl 10 (by decide) (hts (.fieldLink RX16 13 "TimeMachineModel$Machine" "state" "[I") (List.mem_of_getElem? (i := 1) rfl)) (fun _ h9 => h9) rfl dX16_child_32 ?_
          refine lv_iload_n hx hb dX16_child_35 rfl (lv_at hl 3 rfl) ?_
          obtain ⟨i9, h⟩ := nd_ck_e h
          refine va_iald (i := x3) hx hb hK hP 2 1 rfl rfl i9 dX16_child_36 ?_
          refine lv_iconst (v := 3) hx hb dX16_child_37 (by decide) ?_
          refine lv_icmp_eq (tgt := 47) hx hb dX16_child_38 (by decide) (fun c10 => ?_) (fun c10 => ?_)
          · have h := nd_pos h c10
            exact (db_X16_child_47 C K) (x3) s0 _ _ _ h hP hD hS (lv_sub hl [3] rfl)
          · have h := nd_neg h c10
            exact (db_X16_child_41 C K J2) (x1) (x2) (x3) s0 _ _ _ h hP hD hS (lv_sub hl [0, 1, 2, 3] rfl)
set_option maxHeartbeats 40000000 in
set_option maxRecDepth 100000 in
theorem db_X16_child_2 {p : Program} {l : Launch} {e : Env} {s : State} {m : MethodId} {args : Array Value} {below : List Frame} {meth : Method} {c : Code} {Q : State → Prop} {A : Nat → Prop} {dC : Nat → ClassId} {dI : Nat → Nat → Nat} {a : Nat → Nat} {ac : Nat → ClassId} {n : Nat} {r : Int32 × (St × (St))} (C : nd_C p l s m args c A (dC, dI) cX16_child 4 RX16 ow_dm_X16_child (dk_X16 ac)) (K : nd_Ki p l e (headSpec ow_dm_X16_child ({ frames := 0, cells := 0, slots := 0, locals := 0 })).room s m args below meth c Q A (dC, dI) cX16_child .int (St × (St)) (dw_X16 a ac) r) (k : Nat) : dj_X16_child_2 p l e s m args below meth c Q A dC dI a ac (df_X16_child_2 n k) r := by
  induction k with
  | zero => intro x1 x2 x3 s0 H locs ls h; exact nomatch (show (none : Option (Int32 × (St × (St)))) = some r from h)
  | succ k ih => exact dB_X16_child_2 C K ih
set_option maxHeartbeats 40000000 in
set_option maxRecDepth 100000 in
theorem db_X16_child_0 {p : Program} {l : Launch} {e : Env} {s : State} {m : MethodId} {args : Array Value} {below : List Frame} {meth : Method} {c : Code} {Q : State → Prop} {A : Nat → Prop} {dC : Nat → ClassId} {dI : Nat → Nat → Nat} {a : Nat → Nat} {ac : Nat → ClassId} {n : Nat} {r : Int32 × (St × (St))} (C : nd_C p l s m args c A (dC, dI) cX16_child 4 RX16 ow_dm_X16_child (dk_X16 ac)) (K : nd_Ki p l e (headSpec ow_dm_X16_child ({ frames := 0, cells := 0, slots := 0, locals := 0 })).room s m args below meth c Q A (dC, dI) cX16_child .int (St × (St)) (dw_X16 a ac) r) : dj_X16_child_0 p l e s m args below meth c Q A dC dI a ac (df_X16_child_0 n) r := by
  obtain ⟨hlt, hx, hb, hml, hown, hts, hN, hA, hK⟩ := id C
  intro v0 v1 s0 H locs ls h hP hD hS hl
  unfold df_X16_child_0 at h
  refine lv_iconst (v := 0) hx hb dX16_child_0 (by decide) ?_
  refine lv_istore_n (lv' := [(3, .int 0), (0, .ref (a 0)), (1, .int v0), (2, .int v1)]) hx hb dX16_child_1 rfl hl (by decide) rfl (fun ls hl => ?_)
  exact (db_X16_child_2 C K n) (v0) (v1) (0) s0 _ _ _ h hP hD hS (lv_sub hl [1, 2, 3, 0] rfl)
set_option maxHeartbeats 40000000 in
set_option maxRecDepth 100000 in
theorem dm_X16_child (l : Launch) (hlt : l.stackTraces = false) (dC : Nat → ClassId) (dI : Nat → Nat → Nat) (a : Nat → Nat) (ac : Nat → ClassId) (n : Nat) (v0 : Int32) (v1 : Int32) (s0 : St × (St)) {r : Int32 × (St × (St))} (h : df_X16_child n v0 v1 s0 = some r) (sz : Nat) : Met l yX16_child ow_dm_X16_child ({ frames := 0, cells := 0, slots := 0, locals := 0 }) (va_Pc [.ref (a 0), .int v0, .int v1] (fun U => U.heap.size = sz ∧ va_P (dC, dI) vwCl (dw_X16 a ac s0) U.heap ∧ va_K (dC, dI) vwCl (dk_X16 ac) U ∧ va_D (fun _ => True) (dw_X16 a ac s0) ∧ nv_E dI (va_A (dw_X16 a ac s0) sz) U)) (va_Qi (fun x _ => x = r.1) (fun (_ : Unit) t => va_P (dC, dI) vwCl (dw_X16 a ac r.2) t.heap ∧ va_K (dC, dI) vwCl (dk_X16 ac) t ∧ va_D (va_A (dw_X16 a ac s0) sz) (dw_X16 a ac r.2)) (va_A (dw_X16 a ac s0) sz)) 0 0 (va_A (dw_X16 a ac s0) sz) := by
  refine Met.ofW (cc := cX16_child) (maxL := 4) (ret := (some .int)) (by decide) rfl ?_
  intro p e s m args below meth c s₁ B hml hv
  obtain ⟨rfl, hsz, hP, hK, hD0, hN⟩ := hv
  have hx := B.exec
  have hb := B.bytes
  have hr := B.returns
  have hts := atoms_spec (ws := ow_dm_X16_child) B.pre
  have hown : s.vm.findClass RX16 = some m.cls := findClass_of_methodNamed B.named
  have hlocks := B.notSynchronized
  subst hsz
  have hD := hD0.self (sz := s.heap.size)
  generalize hAe : va_A (dw_X16 a ac s0) s.heap.size = A at hD hN ⊢
  have hA : ∀ q : Nat, s.heap.size ≤ q → A q := fun q h => by rw [← hAe]; exact Or.inr h
  have hl := lv_entry ([.ref (a 0), .int v0, .int v1]) (n := 4) (Nat.le_of_ble_eq_true rfl)
  rw [lg_entry_eq]
  generalize (lg_sl ([.ref (a 0), .int v0, .int v1]) ++ List.replicate (4 - (lg_sl ([.ref (a 0), .int v0, .int v1])).length) Slot.unset).toArray = ls at hl ⊢
  have hl : lv_has ls 4 [(0, .ref (a 0)), (1, .int v0), (2, .int v1)] := hl
  exact db_X16_child_0 (dC := dC) (dI := dI) (a := a) (ac := ac) (n := n) (r := r) ⟨hlt, hx, hb, hml, hown, hts, hN, hA, hK⟩ (fun pc v τ H locs ls d z er hP hD hS => by subst er; exact W.zret (v := v) hx hb hr z (fun t ht hW => ⟨⟨v, (), rfl, rfl, by rw [ht]; exact hP, va_K.moved hW.alike hK, hD⟩, hS.F ht⟩) hS.2.2 d) v0 v1 s0 _ _ _ h hP hD va_S.rf (lv_sub hl [0, 1, 2] rfl)
def ow_dm_X16_ends : List Cond := Cond.code yX16_ends cX16_ends 5 (some .int) :: ([Cond.fieldLink RX16 73 "TimeMachineModel$Machine" "kind" "[I", Cond.fieldLink RX16 76 "TimeMachineModel$Machine" "thing" "[I"] ++ (u_ws RX16 TX16 56 ++ []))
theorem gd_dm_X16_ends : ∀ w ∈ ow_dm_X16_ends, (w.onTables && w.keeps) = true ∨ ∃ ty, w = Cond.arrayClass ty := List.forall_mem_cons.mpr ⟨good_of_word rfl, List.forall_mem_append.mpr ⟨fun w h => good_of_word (List.all_eq_true.mp (by decide +kernel) w h), List.forall_mem_append.mpr ⟨gu_X16, fun _ h => nomatch h⟩⟩⟩
theorem hi_dm_X16_ends_X16 : ∀ w ∈ u_ws RX16 TX16 56, w ∈ ow_dm_X16_ends := fun w h => List.mem_cons_of_mem _ (List.mem_append_right _ (List.mem_append_left _ h))
def dj_X16_ends_41 (p : Program) (l : Launch) (e : Env) (s : State) (m : MethodId) (args : Array Value) (below : List Frame) (meth : Method) (c : Code) (Q : State → Prop) (A : Nat → Prop) (dC : Nat → ClassId) (dI : Nat → Nat → Nat) (a : Nat → Nat) (ac : Nat → ClassId) (g : Int32 → Int32 → Int32 → Int32 → (St × (St)) → Option (Int32 × (St × (St)))) (r : Int32 × (St × (St))) : Prop := ∀ (x1 : Int32) (x2 : Int32) (x4 : Int32) (y0 : Int32) (s0 : St × (St)) (H : Heap) (locs : List Loc) (ls : Array Slot), g x1 x2 x4 y0 s0 = some r → va_P (dC, dI) vwCl (dw_X16 a ac s0) H → va_D A (dw_X16 a ac s0) → va_S A s.heap H locs → lv_has ls 5 [(0, .ref (a 0)), (1, .int x1), (2, .int x2), (4, .int x4)] → W p l e (headSpec ow_dm_X16_ends ({ frames := 0, cells := 0, slots := 0, locals := 0 })).room s m args below meth c H locs 0 0 Q (F0 m 41 ls [.int y0])
def dj_X16_ends_40 (p : Program) (l : Launch) (e : Env) (s : State) (m : MethodId) (args : Array Value) (below : List Frame) (meth : Method) (c : Code) (Q : State → Prop) (A : Nat → Prop) (dC : Nat → ClassId) (dI : Nat → Nat → Nat) (a : Nat → Nat) (ac : Nat → ClassId) (g : Int32 → Int32 → Int32 → Int32 → (St × (St)) → Option (Int32 × (St × (St)))) (r : Int32 × (St × (St))) : Prop := ∀ (x1 : Int32) (x2 : Int32) (x3 : Int32) (x4 : Int32) (s0 : St × (St)) (H : Heap) (locs : List Loc) (ls : Array Slot), g x1 x2 x3 x4 s0 = some r → va_P (dC, dI) vwCl (dw_X16 a ac s0) H → va_D A (dw_X16 a ac s0) → va_S A s.heap H locs → lv_has ls 5 [(0, .ref (a 0)), (1, .int x1), (2, .int x2), (3, .int x3), (4, .int x4)] → W p l e (headSpec ow_dm_X16_ends ({ frames := 0, cells := 0, slots := 0, locals := 0 })).room s m args below meth c H locs 0 0 Q (F0 m 40 ls [])
def dj_X16_ends_5 (p : Program) (l : Launch) (e : Env) (s : State) (m : MethodId) (args : Array Value) (below : List Frame) (meth : Method) (c : Code) (Q : State → Prop) (A : Nat → Prop) (dC : Nat → ClassId) (dI : Nat → Nat → Nat) (a : Nat → Nat) (ac : Nat → ClassId) (g : Int32 → Int32 → Int32 → Int32 → (St × (St)) → Option (Int32 × (St × (St)))) (r : Int32 × (St × (St))) : Prop := ∀ (x1 : Int32) (x2 : Int32) (x3 : Int32) (x4 : Int32) (s0 : St × (St)) (H : Heap) (locs : List Loc) (ls : Array Slot), g x1 x2 x3 x4 s0 = some r → va_P (dC, dI) vwCl (dw_X16 a ac s0) H → va_D A (dw_X16 a ac s0) → va_S A s.heap H locs → lv_has ls 5 [(0, .ref (a 0)), (1, .int x1), (2, .int x2), (3, .int x3), (4, .int x4)] → W p l e (headSpec ow_dm_X16_ends ({ frames := 0, cells := 0, slots := 0, locals := 0 })).room s m args below meth c H locs 0 0 Q (F0 m 5 ls [])
def dj_X16_ends_0 (p : Program) (l : Launch) (e : Env) (s : State) (m : MethodId) (args : Array Value) (below : List Frame) (meth : Method) (c : Code) (Q : State → Prop) (A : Nat → Prop) (dC : Nat → ClassId) (dI : Nat → Nat → Nat) (a : Nat → Nat) (ac : Nat → ClassId) (g : Int32 → Int32 → (St × (St)) → Option (Int32 × (St × (St)))) (r : Int32 × (St × (St))) : Prop := ∀ (v0 : Int32) (v1 : Int32) (s0 : St × (St)) (H : Heap) (locs : List Loc) (ls : Array Slot), g v0 v1 s0 = some r → va_P (dC, dI) vwCl (dw_X16 a ac s0) H → va_D A (dw_X16 a ac s0) → va_S A s.heap H locs → lv_has ls 5 [(0, .ref (a 0)), (1, .int v0), (2, .int v1)] → W p l e (headSpec ow_dm_X16_ends ({ frames := 0, cells := 0, slots := 0, locals := 0 })).room s m args below meth c H locs 0 0 Q (F0 m 0 ls [])
set_option maxHeartbeats 40000000 in
set_option maxRecDepth 100000 in
theorem db_X16_ends_41 {p : Program} {l : Launch} {e : Env} {s : State} {m : MethodId} {args : Array Value} {below : List Frame} {meth : Method} {c : Code} {Q : State → Prop} {A : Nat → Prop} {dC : Nat → ClassId} {dI : Nat → Nat → Nat} {a : Nat → Nat} {ac : Nat → ClassId} {n : Nat} {r : Int32 × (St × (St))} (C : nd_C p l s m args c A (dC, dI) cX16_ends 5 RX16 ow_dm_X16_ends (dk_X16 ac)) (K : nd_Ki p l e (headSpec ow_dm_X16_ends ({ frames := 0, cells := 0, slots := 0, locals := 0 })).room s m args below meth c Q A (dC, dI) cX16_ends .int (St × (St)) (dw_X16 a ac) r) {g5 : Int32 → Int32 → Int32 → Int32 → (St × (St)) → Option (Int32 × (St × (St)))} (J5 : dj_X16_ends_5 p l e s m args below meth c Q A dC dI a ac g5 r) : dj_X16_ends_41 p l e s m args below meth c Q A dC dI a ac (df_X16_ends_41 n g5) r := by
  obtain ⟨hlt, hx, hb, hml, hown, hts, hN, hA, hK⟩ := id C
  intro x1 x2 x4 y0 s0 H locs ls h hP hD hS hl
  unfold df_X16_ends_41 at h
  refine lv_istore_n (lv' := [(3, .int y0), (0, .ref (a 0)), (1, .int x1), (2, .int x2), (4, .int x4)]) hx hb dX16_ends_41 rfl hl (by decide) rfl (fun ls hl => ?_)
  obtain ⟨z4, ez4, h⟩ := nd_let_e h
  refine lv_iinc (v := z4) (lv' := [(4, .int z4), (3, .int y0), (0, .ref (a 0)), (1, .int x1), (2, .int x2)]) hx hb dX16_ends_42 hl (k := 4) rfl (by rw [ez4]) (by decide) rfl (fun ls hl => ?_)
  refine lv_goto (tgt := 5) hx hb dX16_ends_45 (by decide) ?_
  exact (J5) (x1) (x2) (y0) (z4) s0 _ _ _ h hP hD hS (lv_sub hl [2, 3, 4, 1, 0] rfl)
set_option maxHeartbeats 40000000 in
set_option maxRecDepth 100000 in
theorem db_X16_ends_40 {p : Program} {l : Launch} {e : Env} {s : State} {m : MethodId} {args : Array Value} {below : List Frame} {meth : Method} {c : Code} {Q : State → Prop} {A : Nat → Prop} {dC : Nat → ClassId} {dI : Nat → Nat → Nat} {a : Nat → Nat} {ac : Nat → ClassId} {n : Nat} {r : Int32 × (St × (St))} (C : nd_C p l s m args c A (dC, dI) cX16_ends 5 RX16 ow_dm_X16_ends (dk_X16 ac)) (K : nd_Ki p l e (headSpec ow_dm_X16_ends ({ frames := 0, cells := 0, slots := 0, locals := 0 })).room s m args below meth c Q A (dC, dI) cX16_ends .int (St × (St)) (dw_X16 a ac) r) {g5 : Int32 → Int32 → Int32 → Int32 → (St × (St)) → Option (Int32 × (St × (St)))} (J5 : dj_X16_ends_5 p l e s m args below meth c Q A dC dI a ac g5 r) : dj_X16_ends_40 p l e s m args below meth c Q A dC dI a ac (df_X16_ends_40 n g5) r := by
  obtain ⟨hlt, hx, hb, hml, hown, hts, hN, hA, hK⟩ := id C
  intro x1 x2 x3 x4 s0 H locs ls h hP hD hS hl
  unfold df_X16_ends_40 at h
  refine lv_iload_n hx hb dX16_ends_40 rfl (lv_at hl 3 rfl) ?_
  exact (db_X16_ends_41 C K J5) (x1) (x2) (x4) (x3) s0 _ _ _ h hP hD hS (lv_sub hl [0, 1, 2, 4] rfl)
set_option maxHeartbeats 40000000 in
set_option maxRecDepth 100000 in
theorem dB_X16_ends_5 {p : Program} {l : Launch} {e : Env} {s : State} {m : MethodId} {args : Array Value} {below : List Frame} {meth : Method} {c : Code} {Q : State → Prop} {A : Nat → Prop} {dC : Nat → ClassId} {dI : Nat → Nat → Nat} {a : Nat → Nat} {ac : Nat → ClassId} {n : Nat} {r : Int32 × (St × (St))} (C : nd_C p l s m args c A (dC, dI) cX16_ends 5 RX16 ow_dm_X16_ends (dk_X16 ac)) (K : nd_Ki p l e (headSpec ow_dm_X16_ends ({ frames := 0, cells := 0, slots := 0, locals := 0 })).room s m args below meth c Q A (dC, dI) cX16_ends .int (St × (St)) (dw_X16 a ac) r) {g5 : Int32 → Int32 → Int32 → Int32 → (St × (St)) → Option (Int32 × (St × (St)))} (J5 : dj_X16_ends_5 p l e s m args below meth c Q A dC dI a ac g5 r) : dj_X16_ends_5 p l e s m args below meth c Q A dC dI a ac (dF_X16_ends_5 n g5) r := by
  obtain ⟨hlt, hx, hb, hml, hown, hts, hN, hA, hK⟩ := id C
  intro x1 x2 x3 x4 s0 H locs ls h hP hD hS hl
  unfold dF_X16_ends_5 at h
  refine lv_iload hx hb dX16_ends_5 (lv_at hl 4 rfl) ?_
  refine lv_bipush (v := 48) hx hb dX16_ends_7 (by decide) ?_
  refine lv_icmp_ge (tgt := 48) hx hb dX16_ends_9 (by decide) (fun c1 => ?_) (fun c1 => ?_)
  · have h := nd_pos h c1
    refine lv_iload_n hx hb dX16_ends_48 rfl (lv_at hl 3 rfl) ?_
    exact K _ _ _ _ _ _ dX16_ends_49 rfl (Option.some.inj h).symm hP hD hS
  · have h := nd_neg h c1
    refine lv_aload_n hx hb dX16_ends_12 rfl (lv_at hl 0 rfl) ?_
    refine va_get (D := (dC, dI)) (ci := 17) (v := .ref (a 21)) (C := RX16) (T := TX16) (N := 56) hx hb hts hi_dm_X16_ends_X16 hown hK hP 0 rfl rfl 30 (by decide) (hts (.fieldLink RX16 73 "TimeMachineModel$Machine" "kind" "[I") (List.mem_of_getElem? (i := 1) rfl)) (fun _ h9 => h9) rfl dX16_ends_13 ?_
    refine lv_iload hx hb dX16_ends_16 (lv_at hl 4 rfl) ?_
    obtain ⟨i2, h⟩ := nd_ck_e h
    refine va_iald (i := x4) hx hb hK hP 21 20 rfl rfl i2 dX16_ends_18 ?_
    refine lv_iload_n hx hb dX16_ends_19 rfl (lv_at hl 1 rfl) ?_
    refine lv_icmp_ne (tgt := 40) hx hb dX16_ends_20 (by decide) (fun c3 => ?_) (fun c3 => ?_)
    · have h := nd_neg h c3
      exact (db_X16_ends_40 C K J5) (x1) (x2) (x3) (x4) s0 _ _ _ h hP hD hS (lv_sub hl [0, 1, 2, 3, 4] rfl)
    · have h := nd_pos h c3
      refine lv_aload_n hx hb dX16_ends_23 rfl (lv_at hl 0 rfl) ?_
      refine va_get (D := (dC, dI)) (ci := 17) (v := .ref (a 22)) (C := RX16) (T := TX16) (N := 56) hx hb hts hi_dm_X16_ends_X16 hown hK hP 0 rfl rfl 31 (by decide) (hts (.fieldLink RX16 76 "TimeMachineModel$Machine" "thing" "[I") (List.mem_of_getElem? (i := 2) rfl)) (fun _ h9 => h9) rfl dX16_ends_24 ?_
      refine lv_iload hx hb dX16_ends_27 (lv_at hl 4 rfl) ?_
      obtain ⟨i5, h⟩ := nd_ck_e h
      refine va_iald (i := x4) hx hb hK hP 22 21 rfl rfl i5 dX16_ends_29 ?_
      refine lv_iload_n hx hb dX16_ends_30 rfl (lv_at hl 2 rfl) ?_
      refine lv_icmp_ne (tgt := 40) hx hb dX16_ends_31 (by decide) (fun c6 => ?_) (fun c6 => ?_)
      · have h := nd_neg h c6
        exact (db_X16_ends_40 C K J5) (x1) (x2) (x3) (x4) s0 _ _ _ h hP hD hS (lv_sub hl [0, 1, 2, 3, 4] rfl)
      · have h := nd_pos h c6
        refine lv_iload_n hx hb dX16_ends_34 rfl (lv_at hl 3 rfl) ?_
        refine lv_iconst (v := 1) hx hb dX16_ends_35 (by decide) ?_
        refine lv_iadd hx hb dX16_ends_36 ?_
        refine lv_goto (tgt := 41) hx hb dX16_ends_37 (by decide) ?_
        exact (db_X16_ends_41 C K J5) (x1) (x2) (x4) ((x3 + 1)) s0 _ _ _ h hP hD hS (lv_sub hl [0, 1, 2, 4] rfl)
set_option maxHeartbeats 40000000 in
set_option maxRecDepth 100000 in
theorem db_X16_ends_5 {p : Program} {l : Launch} {e : Env} {s : State} {m : MethodId} {args : Array Value} {below : List Frame} {meth : Method} {c : Code} {Q : State → Prop} {A : Nat → Prop} {dC : Nat → ClassId} {dI : Nat → Nat → Nat} {a : Nat → Nat} {ac : Nat → ClassId} {n : Nat} {r : Int32 × (St × (St))} (C : nd_C p l s m args c A (dC, dI) cX16_ends 5 RX16 ow_dm_X16_ends (dk_X16 ac)) (K : nd_Ki p l e (headSpec ow_dm_X16_ends ({ frames := 0, cells := 0, slots := 0, locals := 0 })).room s m args below meth c Q A (dC, dI) cX16_ends .int (St × (St)) (dw_X16 a ac) r) (k : Nat) : dj_X16_ends_5 p l e s m args below meth c Q A dC dI a ac (df_X16_ends_5 n k) r := by
  induction k with
  | zero => intro x1 x2 x3 x4 s0 H locs ls h; exact nomatch (show (none : Option (Int32 × (St × (St)))) = some r from h)
  | succ k ih => exact dB_X16_ends_5 C K ih
set_option maxHeartbeats 40000000 in
set_option maxRecDepth 100000 in
theorem db_X16_ends_0 {p : Program} {l : Launch} {e : Env} {s : State} {m : MethodId} {args : Array Value} {below : List Frame} {meth : Method} {c : Code} {Q : State → Prop} {A : Nat → Prop} {dC : Nat → ClassId} {dI : Nat → Nat → Nat} {a : Nat → Nat} {ac : Nat → ClassId} {n : Nat} {r : Int32 × (St × (St))} (C : nd_C p l s m args c A (dC, dI) cX16_ends 5 RX16 ow_dm_X16_ends (dk_X16 ac)) (K : nd_Ki p l e (headSpec ow_dm_X16_ends ({ frames := 0, cells := 0, slots := 0, locals := 0 })).room s m args below meth c Q A (dC, dI) cX16_ends .int (St × (St)) (dw_X16 a ac) r) : dj_X16_ends_0 p l e s m args below meth c Q A dC dI a ac (df_X16_ends_0 n) r := by
  obtain ⟨hlt, hx, hb, hml, hown, hts, hN, hA, hK⟩ := id C
  intro v0 v1 s0 H locs ls h hP hD hS hl
  unfold df_X16_ends_0 at h
  refine lv_iconst (v := 0) hx hb dX16_ends_0 (by decide) ?_
  refine lv_istore_n (lv' := [(3, .int 0), (0, .ref (a 0)), (1, .int v0), (2, .int v1)]) hx hb dX16_ends_1 rfl hl (by decide) rfl (fun ls hl => ?_)
  refine lv_iconst (v := 0) hx hb dX16_ends_2 (by decide) ?_
  refine lv_istore (lv' := [(4, .int 0), (3, .int 0), (0, .ref (a 0)), (1, .int v0), (2, .int v1)]) hx hb dX16_ends_3 hl (by decide) rfl (fun ls hl => ?_)
  exact (db_X16_ends_5 C K n) (v0) (v1) (0) (0) s0 _ _ _ h hP hD hS (lv_sub hl [2, 3, 4, 1, 0] rfl)
set_option maxHeartbeats 40000000 in
set_option maxRecDepth 100000 in
theorem dm_X16_ends (l : Launch) (hlt : l.stackTraces = false) (dC : Nat → ClassId) (dI : Nat → Nat → Nat) (a : Nat → Nat) (ac : Nat → ClassId) (n : Nat) (v0 : Int32) (v1 : Int32) (s0 : St × (St)) {r : Int32 × (St × (St))} (h : df_X16_ends n v0 v1 s0 = some r) (sz : Nat) : Met l yX16_ends ow_dm_X16_ends ({ frames := 0, cells := 0, slots := 0, locals := 0 }) (va_Pc [.ref (a 0), .int v0, .int v1] (fun U => U.heap.size = sz ∧ va_P (dC, dI) vwCl (dw_X16 a ac s0) U.heap ∧ va_K (dC, dI) vwCl (dk_X16 ac) U ∧ va_D (fun _ => True) (dw_X16 a ac s0) ∧ nv_E dI (va_A (dw_X16 a ac s0) sz) U)) (va_Qi (fun x _ => x = r.1) (fun (_ : Unit) t => va_P (dC, dI) vwCl (dw_X16 a ac r.2) t.heap ∧ va_K (dC, dI) vwCl (dk_X16 ac) t ∧ va_D (va_A (dw_X16 a ac s0) sz) (dw_X16 a ac r.2)) (va_A (dw_X16 a ac s0) sz)) 0 0 (va_A (dw_X16 a ac s0) sz) := by
  refine Met.ofW (cc := cX16_ends) (maxL := 5) (ret := (some .int)) (by decide) rfl ?_
  intro p e s m args below meth c s₁ B hml hv
  obtain ⟨rfl, hsz, hP, hK, hD0, hN⟩ := hv
  have hx := B.exec
  have hb := B.bytes
  have hr := B.returns
  have hts := atoms_spec (ws := ow_dm_X16_ends) B.pre
  have hown : s.vm.findClass RX16 = some m.cls := findClass_of_methodNamed B.named
  have hlocks := B.notSynchronized
  subst hsz
  have hD := hD0.self (sz := s.heap.size)
  generalize hAe : va_A (dw_X16 a ac s0) s.heap.size = A at hD hN ⊢
  have hA : ∀ q : Nat, s.heap.size ≤ q → A q := fun q h => by rw [← hAe]; exact Or.inr h
  have hl := lv_entry ([.ref (a 0), .int v0, .int v1]) (n := 5) (Nat.le_of_ble_eq_true rfl)
  rw [lg_entry_eq]
  generalize (lg_sl ([.ref (a 0), .int v0, .int v1]) ++ List.replicate (5 - (lg_sl ([.ref (a 0), .int v0, .int v1])).length) Slot.unset).toArray = ls at hl ⊢
  have hl : lv_has ls 5 [(0, .ref (a 0)), (1, .int v0), (2, .int v1)] := hl
  exact db_X16_ends_0 (dC := dC) (dI := dI) (a := a) (ac := ac) (n := n) (r := r) ⟨hlt, hx, hb, hml, hown, hts, hN, hA, hK⟩ (fun pc v τ H locs ls d z er hP hD hS => by subst er; exact W.zret (v := v) hx hb hr z (fun t ht hW => ⟨⟨v, (), rfl, rfl, by rw [ht]; exact hP, va_K.moved hW.alike hK, hD⟩, hS.F ht⟩) hS.2.2 d) v0 v1 s0 _ _ _ h hP hD va_S.rf (lv_sub hl [0, 1, 2] rfl)
def ow_dm_X16_waits : List Cond := Cond.code yX16_waits cX16_waits 5 (some .boolean) :: ([Cond.fieldLink RX16 76 "TimeMachineModel$Machine" "thing" "[I", Cond.fieldLink RX16 73 "TimeMachineModel$Machine" "kind" "[I", Cond.methodLink RX16 243 yX16_ends, Cond.instanceMethod yX16_ends, Cond.selects RX16 yX16_ends yX16_ends, Cond.initialized RX16, Cond.fieldLink RX16 94 "TimeMachineModel$Machine" "piped" "[I", Cond.fieldLink RX16 122 "TimeMachineModel$Machine" "typed" "I"] ++ (u_ws RX16 TX16 56 ++ (ow_dm_X16_ends ++ [])))
theorem gd_dm_X16_waits : ∀ w ∈ ow_dm_X16_waits, (w.onTables && w.keeps) = true ∨ ∃ ty, w = Cond.arrayClass ty := List.forall_mem_cons.mpr ⟨good_of_word rfl, List.forall_mem_append.mpr ⟨fun w h => good_of_word (List.all_eq_true.mp (by decide +kernel) w h), List.forall_mem_append.mpr ⟨gu_X16, List.forall_mem_append.mpr ⟨gd_dm_X16_ends, fun _ h => nomatch h⟩⟩⟩⟩
theorem hi_dm_X16_waits_X16 : ∀ w ∈ u_ws RX16 TX16 56, w ∈ ow_dm_X16_waits := fun w h => List.mem_cons_of_mem _ (List.mem_append_right _ (List.mem_append_left _ h))
theorem gi_dm_X16_waits_0 : GoodIn ow_dm_X16_waits (wsV RX16 243 RX16 yX16_ends ow_dm_X16_ends) := goodIn_app (goodIn_of _ (by decide +kernel)) (fun w h => ⟨List.mem_cons_of_mem _ (List.mem_append_right _ (List.mem_append_right _ (List.mem_append_left _ h))), gd_dm_X16_ends w h⟩)
def dj_X16_waits_125 (p : Program) (l : Launch) (e : Env) (s : State) (m : MethodId) (args : Array Value) (below : List Frame) (meth : Method) (c : Code) (Q : State → Prop) (A : Nat → Prop) (dC : Nat → ClassId) (dI : Nat → Nat → Nat) (a : Nat → Nat) (ac : Nat → ClassId) (g : Int32 → (St × (St)) → Option (Int32 × (St × (St)))) (r : Int32 × (St × (St))) : Prop := ∀ (y0 : Int32) (s0 : St × (St)) (H : Heap) (locs : List Loc) (ls : Array Slot), g y0 s0 = some r → va_P (dC, dI) vwCl (dw_X16 a ac s0) H → va_D A (dw_X16 a ac s0) → va_S A s.heap H locs → lv_has ls 5 [] → W p l e (headSpec ow_dm_X16_waits ({ frames := 1, cells := 0, slots := 0, locals := 24 })).room s m args below meth c H locs 0 0 Q (F0 m 125 ls [.int y0])
def dj_X16_waits_124 (p : Program) (l : Launch) (e : Env) (s : State) (m : MethodId) (args : Array Value) (below : List Frame) (meth : Method) (c : Code) (Q : State → Prop) (A : Nat → Prop) (dC : Nat → ClassId) (dI : Nat → Nat → Nat) (a : Nat → Nat) (ac : Nat → ClassId) (g : (St × (St)) → Option (Int32 × (St × (St)))) (r : Int32 × (St × (St))) : Prop := ∀ (s0 : St × (St)) (H : Heap) (locs : List Loc) (ls : Array Slot), g s0 = some r → va_P (dC, dI) vwCl (dw_X16 a ac s0) H → va_D A (dw_X16 a ac s0) → va_S A s.heap H locs → lv_has ls 5 [] → W p l e (headSpec ow_dm_X16_waits ({ frames := 1, cells := 0, slots := 0, locals := 24 })).room s m args below meth c H locs 0 0 Q (F0 m 124 ls [])
def dj_X16_waits_80 (p : Program) (l : Launch) (e : Env) (s : State) (m : MethodId) (args : Array Value) (below : List Frame) (meth : Method) (c : Code) (Q : State → Prop) (A : Nat → Prop) (dC : Nat → ClassId) (dI : Nat → Nat → Nat) (a : Nat → Nat) (ac : Nat → ClassId) (g : Int32 → (St × (St)) → Option (Int32 × (St × (St)))) (r : Int32 × (St × (St))) : Prop := ∀ (y0 : Int32) (s0 : St × (St)) (H : Heap) (locs : List Loc) (ls : Array Slot), g y0 s0 = some r → va_P (dC, dI) vwCl (dw_X16 a ac s0) H → va_D A (dw_X16 a ac s0) → va_S A s.heap H locs → lv_has ls 5 [] → W p l e (headSpec ow_dm_X16_waits ({ frames := 1, cells := 0, slots := 0, locals := 24 })).room s m args below meth c H locs 0 0 Q (F0 m 80 ls [.int y0])
def dj_X16_waits_79 (p : Program) (l : Launch) (e : Env) (s : State) (m : MethodId) (args : Array Value) (below : List Frame) (meth : Method) (c : Code) (Q : State → Prop) (A : Nat → Prop) (dC : Nat → ClassId) (dI : Nat → Nat → Nat) (a : Nat → Nat) (ac : Nat → ClassId) (g : (St × (St)) → Option (Int32 × (St × (St)))) (r : Int32 × (St × (St))) : Prop := ∀ (s0 : St × (St)) (H : Heap) (locs : List Loc) (ls : Array Slot), g s0 = some r → va_P (dC, dI) vwCl (dw_X16 a ac s0) H → va_D A (dw_X16 a ac s0) → va_S A s.heap H locs → lv_has ls 5 [] → W p l e (headSpec ow_dm_X16_waits ({ frames := 1, cells := 0, slots := 0, locals := 24 })).room s m args below meth c H locs 0 0 Q (F0 m 79 ls [])
def dj_X16_waits_40 (p : Program) (l : Launch) (e : Env) (s : State) (m : MethodId) (args : Array Value) (below : List Frame) (meth : Method) (c : Code) (Q : State → Prop) (A : Nat → Prop) (dC : Nat → ClassId) (dI : Nat → Nat → Nat) (a : Nat → Nat) (ac : Nat → ClassId) (g : Int32 → (St × (St)) → Option (Int32 × (St × (St)))) (r : Int32 × (St × (St))) : Prop := ∀ (y0 : Int32) (s0 : St × (St)) (H : Heap) (locs : List Loc) (ls : Array Slot), g y0 s0 = some r → va_P (dC, dI) vwCl (dw_X16 a ac s0) H → va_D A (dw_X16 a ac s0) → va_S A s.heap H locs → lv_has ls 5 [] → W p l e (headSpec ow_dm_X16_waits ({ frames := 1, cells := 0, slots := 0, locals := 24 })).room s m args below meth c H locs 0 0 Q (F0 m 40 ls [.int y0])
def dj_X16_waits_39 (p : Program) (l : Launch) (e : Env) (s : State) (m : MethodId) (args : Array Value) (below : List Frame) (meth : Method) (c : Code) (Q : State → Prop) (A : Nat → Prop) (dC : Nat → ClassId) (dI : Nat → Nat → Nat) (a : Nat → Nat) (ac : Nat → ClassId) (g : (St × (St)) → Option (Int32 × (St × (St)))) (r : Int32 × (St × (St))) : Prop := ∀ (s0 : St × (St)) (H : Heap) (locs : List Loc) (ls : Array Slot), g s0 = some r → va_P (dC, dI) vwCl (dw_X16 a ac s0) H → va_D A (dw_X16 a ac s0) → va_S A s.heap H locs → lv_has ls 5 [] → W p l e (headSpec ow_dm_X16_waits ({ frames := 1, cells := 0, slots := 0, locals := 24 })).room s m args below meth c H locs 0 0 Q (F0 m 39 ls [])
def dj_X16_waits_0 (p : Program) (l : Launch) (e : Env) (s : State) (m : MethodId) (args : Array Value) (below : List Frame) (meth : Method) (c : Code) (Q : State → Prop) (A : Nat → Prop) (dC : Nat → ClassId) (dI : Nat → Nat → Nat) (a : Nat → Nat) (ac : Nat → ClassId) (g : Int32 → Int32 → Int32 → (St × (St)) → Option (Int32 × (St × (St)))) (r : Int32 × (St × (St))) : Prop := ∀ (v0 : Int32) (v1 : Int32) (v2 : Int32) (s0 : St × (St)) (H : Heap) (locs : List Loc) (ls : Array Slot), g v0 v1 v2 s0 = some r → va_P (dC, dI) vwCl (dw_X16 a ac s0) H → va_D A (dw_X16 a ac s0) → va_S A s.heap H locs → lv_has ls 5 [(0, .ref (a 0)), (1, .int v0), (2, .int v1), (3, .int v2)] → W p l e (headSpec ow_dm_X16_waits ({ frames := 1, cells := 0, slots := 0, locals := 24 })).room s m args below meth c H locs 0 0 Q (F0 m 0 ls [])
set_option maxHeartbeats 40000000 in
set_option maxRecDepth 100000 in
theorem db_X16_waits_125 {p : Program} {l : Launch} {e : Env} {s : State} {m : MethodId} {args : Array Value} {below : List Frame} {meth : Method} {c : Code} {Q : State → Prop} {A : Nat → Prop} {dC : Nat → ClassId} {dI : Nat → Nat → Nat} {a : Nat → Nat} {ac : Nat → ClassId} {n : Nat} {r : Int32 × (St × (St))} (C : nd_C p l s m args c A (dC, dI) cX16_waits 5 RX16 ow_dm_X16_waits (dk_X16 ac)) (K : nd_Ki p l e (headSpec ow_dm_X16_waits ({ frames := 1, cells := 0, slots := 0, locals := 24 })).room s m args below meth c Q A (dC, dI) cX16_waits .boolean (St × (St)) (dw_X16 a ac) r) : dj_X16_waits_125 p l e s m args below meth c Q A dC dI a ac (df_X16_waits_125 n) r := by
  obtain ⟨hlt, hx, hb, hml, hown, hts, hN, hA, hK⟩ := id C
  intro y0 s0 H locs ls h hP hD hS hl
  unfold df_X16_waits_125 at h
  obtain ⟨n10, h⟩ := nd_z_e ⟨_, rfl⟩ h
  exact K _ _ _ _ _ _ dX16_waits_125 n10 (Option.some.inj h).symm hP hD hS
set_option maxHeartbeats 40000000 in
set_option maxRecDepth 100000 in
theorem db_X16_waits_124 {p : Program} {l : Launch} {e : Env} {s : State} {m : MethodId} {args : Array Value} {below : List Frame} {meth : Method} {c : Code} {Q : State → Prop} {A : Nat → Prop} {dC : Nat → ClassId} {dI : Nat → Nat → Nat} {a : Nat → Nat} {ac : Nat → ClassId} {n : Nat} {r : Int32 × (St × (St))} (C : nd_C p l s m args c A (dC, dI) cX16_waits 5 RX16 ow_dm_X16_waits (dk_X16 ac)) (K : nd_Ki p l e (headSpec ow_dm_X16_waits ({ frames := 1, cells := 0, slots := 0, locals := 24 })).room s m args below meth c Q A (dC, dI) cX16_waits .boolean (St × (St)) (dw_X16 a ac) r) : dj_X16_waits_124 p l e s m args below meth c Q A dC dI a ac (df_X16_waits_124 n) r := by
  obtain ⟨hlt, hx, hb, hml, hown, hts, hN, hA, hK⟩ := id C
  intro s0 H locs ls h hP hD hS hl
  unfold df_X16_waits_124 at h
  refine lv_iconst (v := 0) hx hb dX16_waits_124 (by decide) ?_
  exact (db_X16_waits_125 C K) (0) s0 _ _ _ h hP hD hS (lv_sub hl [] rfl)
set_option maxHeartbeats 40000000 in
set_option maxRecDepth 100000 in
theorem db_X16_waits_80 {p : Program} {l : Launch} {e : Env} {s : State} {m : MethodId} {args : Array Value} {below : List Frame} {meth : Method} {c : Code} {Q : State → Prop} {A : Nat → Prop} {dC : Nat → ClassId} {dI : Nat → Nat → Nat} {a : Nat → Nat} {ac : Nat → ClassId} {n : Nat} {r : Int32 × (St × (St))} (C : nd_C p l s m args c A (dC, dI) cX16_waits 5 RX16 ow_dm_X16_waits (dk_X16 ac)) (K : nd_Ki p l e (headSpec ow_dm_X16_waits ({ frames := 1, cells := 0, slots := 0, locals := 24 })).room s m args below meth c Q A (dC, dI) cX16_waits .boolean (St × (St)) (dw_X16 a ac) r) : dj_X16_waits_80 p l e s m args below meth c Q A dC dI a ac (df_X16_waits_80 n) r := by
  obtain ⟨hlt, hx, hb, hml, hown, hts, hN, hA, hK⟩ := id C
  intro y0 s0 H locs ls h hP hD hS hl
  unfold df_X16_waits_80 at h
  obtain ⟨n19, h⟩ := nd_z_e ⟨_, rfl⟩ h
  exact K _ _ _ _ _ _ dX16_waits_80 n19 (Option.some.inj h).symm hP hD hS
set_option maxHeartbeats 40000000 in
set_option maxRecDepth 100000 in
theorem db_X16_waits_79 {p : Program} {l : Launch} {e : Env} {s : State} {m : MethodId} {args : Array Value} {below : List Frame} {meth : Method} {c : Code} {Q : State → Prop} {A : Nat → Prop} {dC : Nat → ClassId} {dI : Nat → Nat → Nat} {a : Nat → Nat} {ac : Nat → ClassId} {n : Nat} {r : Int32 × (St × (St))} (C : nd_C p l s m args c A (dC, dI) cX16_waits 5 RX16 ow_dm_X16_waits (dk_X16 ac)) (K : nd_Ki p l e (headSpec ow_dm_X16_waits ({ frames := 1, cells := 0, slots := 0, locals := 24 })).room s m args below meth c Q A (dC, dI) cX16_waits .boolean (St × (St)) (dw_X16 a ac) r) : dj_X16_waits_79 p l e s m args below meth c Q A dC dI a ac (df_X16_waits_79 n) r := by
  obtain ⟨hlt, hx, hb, hml, hown, hts, hN, hA, hK⟩ := id C
  intro s0 H locs ls h hP hD hS hl
  unfold df_X16_waits_79 at h
  refine lv_iconst (v := 0) hx hb dX16_waits_79 (by decide) ?_
  exact (db_X16_waits_80 C K) (0) s0 _ _ _ h hP hD hS (lv_sub hl [] rfl)
set_option maxHeartbeats 40000000 in
set_option maxRecDepth 100000 in
theorem db_X16_waits_40 {p : Program} {l : Launch} {e : Env} {s : State} {m : MethodId} {args : Array Value} {below : List Frame} {meth : Method} {c : Code} {Q : State → Prop} {A : Nat → Prop} {dC : Nat → ClassId} {dI : Nat → Nat → Nat} {a : Nat → Nat} {ac : Nat → ClassId} {n : Nat} {r : Int32 × (St × (St))} (C : nd_C p l s m args c A (dC, dI) cX16_waits 5 RX16 ow_dm_X16_waits (dk_X16 ac)) (K : nd_Ki p l e (headSpec ow_dm_X16_waits ({ frames := 1, cells := 0, slots := 0, locals := 24 })).room s m args below meth c Q A (dC, dI) cX16_waits .boolean (St × (St)) (dw_X16 a ac) r) : dj_X16_waits_40 p l e s m args below meth c Q A dC dI a ac (df_X16_waits_40 n) r := by
  obtain ⟨hlt, hx, hb, hml, hown, hts, hN, hA, hK⟩ := id C
  intro y0 s0 H locs ls h hP hD hS hl
  unfold df_X16_waits_40 at h
  obtain ⟨n27, h⟩ := nd_z_e ⟨_, rfl⟩ h
  exact K _ _ _ _ _ _ dX16_waits_40 n27 (Option.some.inj h).symm hP hD hS
set_option maxHeartbeats 40000000 in
set_option maxRecDepth 100000 in
theorem db_X16_waits_39 {p : Program} {l : Launch} {e : Env} {s : State} {m : MethodId} {args : Array Value} {below : List Frame} {meth : Method} {c : Code} {Q : State → Prop} {A : Nat → Prop} {dC : Nat → ClassId} {dI : Nat → Nat → Nat} {a : Nat → Nat} {ac : Nat → ClassId} {n : Nat} {r : Int32 × (St × (St))} (C : nd_C p l s m args c A (dC, dI) cX16_waits 5 RX16 ow_dm_X16_waits (dk_X16 ac)) (K : nd_Ki p l e (headSpec ow_dm_X16_waits ({ frames := 1, cells := 0, slots := 0, locals := 24 })).room s m args below meth c Q A (dC, dI) cX16_waits .boolean (St × (St)) (dw_X16 a ac) r) : dj_X16_waits_39 p l e s m args below meth c Q A dC dI a ac (df_X16_waits_39 n) r := by
  obtain ⟨hlt, hx, hb, hml, hown, hts, hN, hA, hK⟩ := id C
  intro s0 H locs ls h hP hD hS hl
  unfold df_X16_waits_39 at h
  refine lv_iconst (v := 0) hx hb dX16_waits_39 (by decide) ?_
  exact (db_X16_waits_40 C K) (0) s0 _ _ _ h hP hD hS (lv_sub hl [] rfl)
set_option maxHeartbeats 40000000 in
set_option maxRecDepth 100000 in
theorem db_X16_waits_0 {p : Program} {l : Launch} {e : Env} {s : State} {m : MethodId} {args : Array Value} {below : List Frame} {meth : Method} {c : Code} {Q : State → Prop} {A : Nat → Prop} {dC : Nat → ClassId} {dI : Nat → Nat → Nat} {a : Nat → Nat} {ac : Nat → ClassId} {n : Nat} {r : Int32 × (St × (St))} (C : nd_C p l s m args c A (dC, dI) cX16_waits 5 RX16 ow_dm_X16_waits (dk_X16 ac)) (K : nd_Ki p l e (headSpec ow_dm_X16_waits ({ frames := 1, cells := 0, slots := 0, locals := 24 })).room s m args below meth c Q A (dC, dI) cX16_waits .boolean (St × (St)) (dw_X16 a ac) r) : dj_X16_waits_0 p l e s m args below meth c Q A dC dI a ac (df_X16_waits_0 n) r := by
  obtain ⟨hlt, hx, hb, hml, hown, hts, hN, hA, hK⟩ := id C
  intro v0 v1 v2 s0 H locs ls h hP hD hS hl
  unfold df_X16_waits_0 at h
  refine lv_iload_n hx hb dX16_waits_0 rfl (lv_at hl 3 rfl) ?_
  refine lv_if_ne (tgt := 6) hx hb dX16_waits_1 (by decide) (fun c1 => ?_) (fun c1 => ?_)
  · have h := nd_neg h c1
    refine lv_aload_n hx hb dX16_waits_6 rfl (lv_at hl 0 rfl) ?_
    refine va_get (D := (dC, dI)) (ci := 17) (v := .ref (a 22)) (C := RX16) (T := TX16) (N := 56) hx hb hts hi_dm_X16_waits_X16 hown hK hP 0 rfl rfl 31 (by decide) (hts (.fieldLink RX16 76 "TimeMachineModel$Machine" "thing" "[I") (List.mem_of_getElem? (i := 1) rfl)) (fun _ h9 => h9) rfl dX16_waits_7 ?_
    refine lv_iload_n hx hb dX16_waits_10 rfl (lv_at hl 1 rfl) ?_
    obtain ⟨i2, h⟩ := nd_ck_e h
    refine va_iald (i := v0) hx hb hK hP 22 21 rfl rfl i2 dX16_waits_11 ?_
    refine lv_topi (fun z3 ez3 => ?_)
    have h := nd_at h ez3
    refine lv_istore (lv' := [(4, .int z3), (0, .ref (a 0)), (1, .int v0), (2, .int v1), (3, .int v2)]) hx hb dX16_waits_12 hl (by decide) rfl (fun ls hl => ?_)
    refine lv_aload_n hx hb dX16_waits_14 rfl (lv_at hl 1 rfl) ?_
    refine va_get (D := (dC, dI)) (ci := 17) (v := .ref (a 21)) (C := RX16) (T := TX16) (N := 56) hx hb hts hi_dm_X16_waits_X16 hown hK hP 0 rfl rfl 30 (by decide) (hts (.fieldLink RX16 73 "TimeMachineModel$Machine" "kind" "[I") (List.mem_of_getElem? (i := 2) rfl)) (fun _ h9 => h9) rfl dX16_waits_15 ?_
    refine lv_iload_n hx hb dX16_waits_18 rfl (lv_at hl 2 rfl) ?_
    obtain ⟨i4, h⟩ := nd_ck_e h
    refine va_iald (i := v0) hx hb hK hP 21 20 rfl rfl i4 dX16_waits_19 ?_
    refine lv_iconst (v := 4) hx hb dX16_waits_20 (by decide) ?_
    refine lv_icmp_ne (tgt := 41) hx hb dX16_waits_21 (by decide) (fun c5 => ?_) (fun c5 => ?_)
    · have h := nd_neg h c5
      refine lv_aload_n hx hb dX16_waits_41 rfl (lv_at hl 1 rfl) ?_
      refine va_get (D := (dC, dI)) (ci := 17) (v := .ref (a 21)) (C := RX16) (T := TX16) (N := 56) hx hb hts hi_dm_X16_waits_X16 hown hK hP 0 rfl rfl 30 (by decide) (hts (.fieldLink RX16 73 "TimeMachineModel$Machine" "kind" "[I") (List.mem_of_getElem? (i := 2) rfl)) (fun _ h9 => h9) rfl dX16_waits_42 ?_
      refine lv_iload_n hx hb dX16_waits_45 rfl (lv_at hl 2 rfl) ?_
      obtain ⟨i6, h⟩ := nd_ck_e h
      refine va_iald (i := v0) hx hb hK hP 21 20 rfl rfl i6 dX16_waits_46 ?_
      refine lv_iconst (v := 1) hx hb dX16_waits_47 (by decide) ?_
      refine lv_icmp_ne (tgt := 81) hx hb dX16_waits_48 (by decide) (fun c7 => ?_) (fun c7 => ?_)
      · have h := nd_neg h c7
        refine lv_aload_n hx hb dX16_waits_81 rfl (lv_at hl 1 rfl) ?_
        refine va_get (D := (dC, dI)) (ci := 17) (v := .ref (a 21)) (C := RX16) (T := TX16) (N := 56) hx hb hts hi_dm_X16_waits_X16 hown hK hP 0 rfl rfl 30 (by decide) (hts (.fieldLink RX16 73 "TimeMachineModel$Machine" "kind" "[I") (List.mem_of_getElem? (i := 2) rfl)) (fun _ h9 => h9) rfl dX16_waits_82 ?_
        refine lv_iload_n hx hb dX16_waits_85 rfl (lv_at hl 2 rfl) ?_
        obtain ⟨i8, h⟩ := nd_ck_e h
        refine va_iald (i := v0) hx hb hK hP 21 20 rfl rfl i8 dX16_waits_86 ?_
        refine lv_iconst (v := 2) hx hb dX16_waits_87 (by decide) ?_
        refine lv_icmp_ne (tgt := 124) hx hb dX16_waits_88 (by decide) (fun c9 => ?_) (fun c9 => ?_)
        · have h := nd_neg h c9
          exact (db_X16_waits_124 C K)  s0 _ _ _ h hP hD hS (lv_sub hl [] rfl)
        · have h := nd_pos h c9
          refine lv_iload_n hx hb dX16_waits_91 rfl (lv_at hl 3 rfl) ?_
          refine lv_if_ne (tgt := 124) hx hb dX16_waits_92 (by decide) (fun c11 => ?_) (fun c11 => ?_)
          · have h := nd_neg h c11
            exact (db_X16_waits_124 C K)  s0 _ _ _ h hP hD hS (lv_sub hl [] rfl)
          · have h := nd_pos h c11
            refine lv_aload_n hx hb dX16_waits_95 rfl (lv_at hl 1 rfl) ?_
            refine lv_iconst (v := 1) hx hb dX16_waits_96 (by decide) ?_
            refine lv_iload hx hb dX16_waits_97 (lv_at hl 0 rfl) ?_
            obtain ⟨q12, s13, hq, h⟩ := nd_b2_e h
            have hPc := hP
            have hDc := hD
            have hKc := hK
            have hFc := nd_rs hD hS hA
            refine nd_cVi (As := [.int 1, .int z3]) (rest := []) (q := q12) (w' := dw_X16 a ac s13) ⟨hx, hb, hml, hown, hts⟩ (fun sz => dm_X16_ends l hlt dC dI a ac n (1) (z3) s0 hq sz) (cwV 2 hts gi_dm_X16_waits_0 rfl rfl rfl (by decide +kernel) ⟨Nat.le_of_ble_eq_true rfl, Nat.le_of_ble_eq_true rfl⟩) hPc hDc hKc hS hA hN (va_recv hKc hPc (ci := 17) (q0 := 0) rfl rfl) rfl hl.1 rfl (Nat.le_of_ble_eq_true rfl) dX16_waits_99 (fun H locs hP1 hD1 hk1 hS => ?_)
            have hP := hP1
            have hD := hD1.weaken (fun k q _ h => hFc q.1 h)
            refine lv_if_le (tgt := 124) hx hb dX16_waits_102 (by decide) (fun c15 => ?_) (fun c15 => ?_)
            · have h := nd_pos h c15
              exact (db_X16_waits_124 C K)  s13 _ _ _ h hP hD hS (lv_sub hl [] rfl)
            · have h := nd_neg h c15
              refine lv_aload_n hx hb dX16_waits_105 rfl (lv_at hl 1 rfl) ?_
              refine va_get (D := (dC, dI)) (ci := 17) (v := .ref (a 28)) (C := RX16) (T := TX16) (N := 56) hx hb hts hi_dm_X16_waits_X16 hown hK hP 0 rfl rfl 37 (by decide) (hts (.fieldLink RX16 94 "TimeMachineModel$Machine" "piped" "[I") (List.mem_of_getElem? (i := 7) rfl)) (fun _ h9 => h9) rfl dX16_waits_106 ?_
              refine lv_iload hx hb dX16_waits_109 (lv_at hl 0 rfl) ?_
              obtain ⟨i16, h⟩ := nd_ck_e h
              refine va_iald (i := z3) hx hb hK hP 28 27 rfl rfl i16 dX16_waits_111 ?_
              refine lv_iload_n hx hb dX16_waits_112 rfl (lv_at hl 4 rfl) ?_
              refine lv_iadd hx hb dX16_waits_113 ?_
              refine lv_sipush (v := 512) hx hb dX16_waits_114 (by decide) ?_
              refine lv_icmp_le (tgt := 124) hx hb dX16_waits_117 (by decide) (fun c17 => ?_) (fun c17 => ?_)
              · have h := nd_pos h c17
                exact (db_X16_waits_124 C K)  s13 _ _ _ h hP hD hS (lv_sub hl [] rfl)
              · have h := nd_neg h c17
                refine lv_iconst (v := 1) hx hb dX16_waits_120 (by decide) ?_
                refine lv_goto (tgt := 125) hx hb dX16_waits_121 (by decide) ?_
                exact (db_X16_waits_125 C K) (1) s13 _ _ _ h hP hD hS (lv_sub hl [] rfl)
      · have h := nd_pos h c7
        refine lv_iload_n hx hb dX16_waits_51 rfl (lv_at hl 3 rfl) ?_
        refine lv_if_eq (tgt := 79) hx hb dX16_waits_52 (by decide) (fun c18 => ?_) (fun c18 => ?_)
        · have h := nd_pos h c18
          exact (db_X16_waits_79 C K)  s0 _ _ _ h hP hD hS (lv_sub hl [] rfl)
        · have h := nd_neg h c18
          refine lv_aload_n hx hb dX16_waits_55 rfl (lv_at hl 1 rfl) ?_
          refine va_get (D := (dC, dI)) (ci := 17) (v := .ref (a 28)) (C := RX16) (T := TX16) (N := 56) hx hb hts hi_dm_X16_waits_X16 hown hK hP 0 rfl rfl 37 (by decide) (hts (.fieldLink RX16 94 "TimeMachineModel$Machine" "piped" "[I") (List.mem_of_getElem? (i := 7) rfl)) (fun _ h9 => h9) rfl dX16_waits_56 ?_
          refine lv_iload hx hb dX16_waits_59 (lv_at hl 0 rfl) ?_
          obtain ⟨i20, h⟩ := nd_ck_e h
          refine va_iald (i := z3) hx hb hK hP 28 27 rfl rfl i20 dX16_waits_61 ?_
          refine lv_if_ne (tgt := 79) hx hb dX16_waits_62 (by decide) (fun c21 => ?_) (fun c21 => ?_)
          · have h := nd_neg h c21
            exact (db_X16_waits_79 C K)  s0 _ _ _ h hP hD hS (lv_sub hl [] rfl)
          · have h := nd_pos h c21
            refine lv_aload_n hx hb dX16_waits_65 rfl (lv_at hl 1 rfl) ?_
            refine lv_iconst (v := 2) hx hb dX16_waits_66 (by decide) ?_
            refine lv_iload hx hb dX16_waits_67 (lv_at hl 0 rfl) ?_
            obtain ⟨q22, s23, hq, h⟩ := nd_b2_e h
            have hPc := hP
            have hDc := hD
            have hKc := hK
            have hFc := nd_rs hD hS hA
            refine nd_cVi (As := [.int 2, .int z3]) (rest := []) (q := q22) (w' := dw_X16 a ac s23) ⟨hx, hb, hml, hown, hts⟩ (fun sz => dm_X16_ends l hlt dC dI a ac n (2) (z3) s0 hq sz) (cwV 2 hts gi_dm_X16_waits_0 rfl rfl rfl (by decide +kernel) ⟨Nat.le_of_ble_eq_true rfl, Nat.le_of_ble_eq_true rfl⟩) hPc hDc hKc hS hA hN (va_recv hKc hPc (ci := 17) (q0 := 0) rfl rfl) rfl hl.1 rfl (Nat.le_of_ble_eq_true rfl) dX16_waits_69 (fun H locs hP1 hD1 hk1 hS => ?_)
            have hP := hP1
            have hD := hD1.weaken (fun k q _ h => hFc q.1 h)
            refine lv_if_le (tgt := 79) hx hb dX16_waits_72 (by decide) (fun c25 => ?_) (fun c25 => ?_)
            · have h := nd_pos h c25
              exact (db_X16_waits_79 C K)  s23 _ _ _ h hP hD hS (lv_sub hl [] rfl)
            · have h := nd_neg h c25
              refine lv_iconst (v := 1) hx hb dX16_waits_75 (by decide) ?_
              refine lv_goto (tgt := 80) hx hb dX16_waits_76 (by decide) ?_
              exact (db_X16_waits_80 C K) (1) s23 _ _ _ h hP hD hS (lv_sub hl [] rfl)
    · have h := nd_pos h c5
      refine lv_iload_n hx hb dX16_waits_24 rfl (lv_at hl 3 rfl) ?_
      refine lv_if_eq (tgt := 39) hx hb dX16_waits_25 (by decide) (fun c26 => ?_) (fun c26 => ?_)
      · have h := nd_pos h c26
        exact (db_X16_waits_39 C K)  s0 _ _ _ h hP hD hS (lv_sub hl [] rfl)
      · have h := nd_neg h c26
        refine lv_aload_n hx hb dX16_waits_28 rfl (lv_at hl 1 rfl) ?_
        refine va_get (D := (dC, dI)) (ci := 17) (v := .int (sI s0.1 7)) (C := RX16) (T := TX16) (N := 56) hx hb hts hi_dm_X16_waits_X16 hown hK hP 0 rfl rfl 42 (by decide) (hts (.fieldLink RX16 122 "TimeMachineModel$Machine" "typed" "I") (List.mem_of_getElem? (i := 8) rfl)) (fun _ h9 => h9) rfl dX16_waits_29 ?_
        refine lv_if_ne (tgt := 39) hx hb dX16_waits_32 (by decide) (fun c28 => ?_) (fun c28 => ?_)
        · have h := nd_neg h c28
          exact (db_X16_waits_39 C K)  s0 _ _ _ h hP hD hS (lv_sub hl [] rfl)
        · have h := nd_pos h c28
          refine lv_iconst (v := 1) hx hb dX16_waits_35 (by decide) ?_
          refine lv_goto (tgt := 40) hx hb dX16_waits_36 (by decide) ?_
          exact (db_X16_waits_40 C K) (1) s0 _ _ _ h hP hD hS (lv_sub hl [] rfl)
  · have h := nd_pos h c1
    refine lv_iconst (v := 0) hx hb dX16_waits_4 (by decide) ?_
    exact K _ _ _ _ _ _ dX16_waits_5 (by first | rfl | decide) (Option.some.inj h).symm hP hD hS
set_option maxHeartbeats 40000000 in
set_option maxRecDepth 100000 in
theorem dm_X16_waits (l : Launch) (hlt : l.stackTraces = false) (dC : Nat → ClassId) (dI : Nat → Nat → Nat) (a : Nat → Nat) (ac : Nat → ClassId) (n : Nat) (v0 : Int32) (v1 : Int32) (v2 : Int32) (s0 : St × (St)) {r : Int32 × (St × (St))} (h : df_X16_waits n v0 v1 v2 s0 = some r) (sz : Nat) : Met l yX16_waits ow_dm_X16_waits ({ frames := 1, cells := 0, slots := 0, locals := 24 }) (va_Pc [.ref (a 0), .int v0, .int v1, .int v2] (fun U => U.heap.size = sz ∧ va_P (dC, dI) vwCl (dw_X16 a ac s0) U.heap ∧ va_K (dC, dI) vwCl (dk_X16 ac) U ∧ va_D (fun _ => True) (dw_X16 a ac s0) ∧ nv_E dI (va_A (dw_X16 a ac s0) sz) U)) (va_Qi (fun x _ => x = r.1) (fun (_ : Unit) t => va_P (dC, dI) vwCl (dw_X16 a ac r.2) t.heap ∧ va_K (dC, dI) vwCl (dk_X16 ac) t ∧ va_D (va_A (dw_X16 a ac s0) sz) (dw_X16 a ac r.2)) (va_A (dw_X16 a ac s0) sz)) 0 0 (va_A (dw_X16 a ac s0) sz) := by
  refine Met.ofW (cc := cX16_waits) (maxL := 5) (ret := (some .boolean)) (by decide) rfl ?_
  intro p e s m args below meth c s₁ B hml hv
  obtain ⟨rfl, hsz, hP, hK, hD0, hN⟩ := hv
  have hx := B.exec
  have hb := B.bytes
  have hr := B.returns
  have hts := atoms_spec (ws := ow_dm_X16_waits) B.pre
  have hown : s.vm.findClass RX16 = some m.cls := findClass_of_methodNamed B.named
  have hlocks := B.notSynchronized
  subst hsz
  have hD := hD0.self (sz := s.heap.size)
  generalize hAe : va_A (dw_X16 a ac s0) s.heap.size = A at hD hN ⊢
  have hA : ∀ q : Nat, s.heap.size ≤ q → A q := fun q h => by rw [← hAe]; exact Or.inr h
  have hl := lv_entry ([.ref (a 0), .int v0, .int v1, .int v2]) (n := 5) (Nat.le_of_ble_eq_true rfl)
  rw [lg_entry_eq]
  generalize (lg_sl ([.ref (a 0), .int v0, .int v1, .int v2]) ++ List.replicate (5 - (lg_sl ([.ref (a 0), .int v0, .int v1, .int v2])).length) Slot.unset).toArray = ls at hl ⊢
  have hl : lv_has ls 5 [(0, .ref (a 0)), (1, .int v0), (2, .int v1), (3, .int v2)] := hl
  exact db_X16_waits_0 (dC := dC) (dI := dI) (a := a) (ac := ac) (n := n) (r := r) ⟨hlt, hx, hb, hml, hown, hts, hN, hA, hK⟩ (fun pc v τ H locs ls d z er hP hD hS => by subst er; exact W.zret (v := v) hx hb hr z (fun t ht hW => ⟨⟨v, (), rfl, rfl, by rw [ht]; exact hP, va_K.moved hW.alike hK, hD⟩, hS.F ht⟩) hS.2.2 d) v0 v1 v2 s0 _ _ _ h hP hD va_S.rf (lv_sub hl [0, 1, 2, 3] rfl)
def ow_dm_X16_waitsStill : List Cond := Cond.code yX16_waitsStill cX16_waitsStill 4 (some .boolean) :: ([Cond.fieldLink RX16 42 "TimeMachineModel$Machine" "x" "[I", Cond.fieldLink RX16 31 "TimeMachineModel$Machine" "calling" "[I", Cond.methodLink RX16 260 yX16_child, Cond.instanceMethod yX16_child, Cond.selects RX16 yX16_child yX16_child, Cond.initialized RX16, Cond.fieldLink RX16 57 "TimeMachineModel$Machine" "descriptor" "[I", Cond.methodLink RX16 264 yX16_waits, Cond.instanceMethod yX16_waits, Cond.selects RX16 yX16_waits yX16_waits, Cond.fieldLink RX16 151 "TimeMachineModel$Machine" "clock" "J", Cond.fieldLink RX16 38 "TimeMachineModel$Machine" "since" "[J", Cond.fieldLink RX16 126 "TimeMachineModel$Machine" "waitingWords" "I"] ++ (u_ws RX16 TX16 56 ++ (ow_dm_X16_child ++ (ow_dm_X16_waits ++ []))))
theorem gd_dm_X16_waitsStill : ∀ w ∈ ow_dm_X16_waitsStill, (w.onTables && w.keeps) = true ∨ ∃ ty, w = Cond.arrayClass ty := List.forall_mem_cons.mpr ⟨good_of_word rfl, List.forall_mem_append.mpr ⟨fun w h => good_of_word (List.all_eq_true.mp (by decide +kernel) w h), List.forall_mem_append.mpr ⟨gu_X16, List.forall_mem_append.mpr ⟨gd_dm_X16_child, List.forall_mem_append.mpr ⟨gd_dm_X16_waits, fun _ h => nomatch h⟩⟩⟩⟩⟩
theorem hi_dm_X16_waitsStill_X16 : ∀ w ∈ u_ws RX16 TX16 56, w ∈ ow_dm_X16_waitsStill := fun w h => List.mem_cons_of_mem _ (List.mem_append_right _ (List.mem_append_left _ h))
theorem gi_dm_X16_waitsStill_0 : GoodIn ow_dm_X16_waitsStill (wsV RX16 260 RX16 yX16_child ow_dm_X16_child) := goodIn_app (goodIn_of _ (by decide +kernel)) (fun w h => ⟨List.mem_cons_of_mem _ (List.mem_append_right _ (List.mem_append_right _ (List.mem_append_left _ h))), gd_dm_X16_child w h⟩)
theorem gi_dm_X16_waitsStill_1 : GoodIn ow_dm_X16_waitsStill (wsV RX16 264 RX16 yX16_waits ow_dm_X16_waits) := goodIn_app (goodIn_of _ (by decide +kernel)) (fun w h => ⟨List.mem_cons_of_mem _ (List.mem_append_right _ (List.mem_append_right _ (List.mem_append_right _ (List.mem_append_left _ h)))), gd_dm_X16_waits w h⟩)
def dj_X16_waitsStill_101 (p : Program) (l : Launch) (e : Env) (s : State) (m : MethodId) (args : Array Value) (below : List Frame) (meth : Method) (c : Code) (Q : State → Prop) (A : Nat → Prop) (dC : Nat → ClassId) (dI : Nat → Nat → Nat) (a : Nat → Nat) (ac : Nat → ClassId) (g : Int32 → (St × (St)) → Option (Int32 × (St × (St)))) (r : Int32 × (St × (St))) : Prop := ∀ (y0 : Int32) (s0 : St × (St)) (H : Heap) (locs : List Loc) (ls : Array Slot), g y0 s0 = some r → va_P (dC, dI) vwCl (dw_X16 a ac s0) H → va_D A (dw_X16 a ac s0) → va_S A s.heap H locs → lv_has ls 4 [] → W p l e (headSpec ow_dm_X16_waitsStill ({ frames := 2, cells := 0, slots := 0, locals := 48 })).room s m args below meth c H locs 0 0 Q (F0 m 101 ls [.int y0])
def dj_X16_waitsStill_100 (p : Program) (l : Launch) (e : Env) (s : State) (m : MethodId) (args : Array Value) (below : List Frame) (meth : Method) (c : Code) (Q : State → Prop) (A : Nat → Prop) (dC : Nat → ClassId) (dI : Nat → Nat → Nat) (a : Nat → Nat) (ac : Nat → ClassId) (g : (St × (St)) → Option (Int32 × (St × (St)))) (r : Int32 × (St × (St))) : Prop := ∀ (s0 : St × (St)) (H : Heap) (locs : List Loc) (ls : Array Slot), g s0 = some r → va_P (dC, dI) vwCl (dw_X16 a ac s0) H → va_D A (dw_X16 a ac s0) → va_S A s.heap H locs → lv_has ls 4 [] → W p l e (headSpec ow_dm_X16_waitsStill ({ frames := 2, cells := 0, slots := 0, locals := 48 })).room s m args below meth c H locs 0 0 Q (F0 m 100 ls [])
def dj_X16_waitsStill_157 (p : Program) (l : Launch) (e : Env) (s : State) (m : MethodId) (args : Array Value) (below : List Frame) (meth : Method) (c : Code) (Q : State → Prop) (A : Nat → Prop) (dC : Nat → ClassId) (dI : Nat → Nat → Nat) (a : Nat → Nat) (ac : Nat → ClassId) (g : Int32 → (St × (St)) → Option (Int32 × (St × (St)))) (r : Int32 × (St × (St))) : Prop := ∀ (y0 : Int32) (s0 : St × (St)) (H : Heap) (locs : List Loc) (ls : Array Slot), g y0 s0 = some r → va_P (dC, dI) vwCl (dw_X16 a ac s0) H → va_D A (dw_X16 a ac s0) → va_S A s.heap H locs → lv_has ls 4 [] → W p l e (headSpec ow_dm_X16_waitsStill ({ frames := 2, cells := 0, slots := 0, locals := 48 })).room s m args below meth c H locs 0 0 Q (F0 m 157 ls [.int y0])
def dj_X16_waitsStill_170 (p : Program) (l : Launch) (e : Env) (s : State) (m : MethodId) (args : Array Value) (below : List Frame) (meth : Method) (c : Code) (Q : State → Prop) (A : Nat → Prop) (dC : Nat → ClassId) (dI : Nat → Nat → Nat) (a : Nat → Nat) (ac : Nat → ClassId) (g : Int32 → (St × (St)) → Option (Int32 × (St × (St)))) (r : Int32 × (St × (St))) : Prop := ∀ (y0 : Int32) (s0 : St × (St)) (H : Heap) (locs : List Loc) (ls : Array Slot), g y0 s0 = some r → va_P (dC, dI) vwCl (dw_X16 a ac s0) H → va_D A (dw_X16 a ac s0) → va_S A s.heap H locs → lv_has ls 4 [] → W p l e (headSpec ow_dm_X16_waitsStill ({ frames := 2, cells := 0, slots := 0, locals := 48 })).room s m args below meth c H locs 0 0 Q (F0 m 170 ls [.int y0])
def dj_X16_waitsStill_0 (p : Program) (l : Launch) (e : Env) (s : State) (m : MethodId) (args : Array Value) (below : List Frame) (meth : Method) (c : Code) (Q : State → Prop) (A : Nat → Prop) (dC : Nat → ClassId) (dI : Nat → Nat → Nat) (a : Nat → Nat) (ac : Nat → ClassId) (g : Int32 → (St × (St)) → Option (Int32 × (St × (St)))) (r : Int32 × (St × (St))) : Prop := ∀ (v0 : Int32) (s0 : St × (St)) (H : Heap) (locs : List Loc) (ls : Array Slot), g v0 s0 = some r → va_P (dC, dI) vwCl (dw_X16 a ac s0) H → va_D A (dw_X16 a ac s0) → va_S A s.heap H locs → lv_has ls 4 [(0, .ref (a 0)), (1, .int v0)] → W p l e (headSpec ow_dm_X16_waitsStill ({ frames := 2, cells := 0, slots := 0, locals := 48 })).room s m args below meth c H locs 0 0 Q (F0 m 0 ls [])
set_option maxHeartbeats 40000000 in
set_option maxRecDepth 100000 in
theorem db_X16_waitsStill_101 {p : Program} {l : Launch} {e : Env} {s : State} {m : MethodId} {args : Array Value} {below : List Frame} {meth : Method} {c : Code} {Q : State → Prop} {A : Nat → Prop} {dC : Nat → ClassId} {dI : Nat → Nat → Nat} {a : Nat → Nat} {ac : Nat → ClassId} {n : Nat} {r : Int32 × (St × (St))} (C : nd_C p l s m args c A (dC, dI) cX16_waitsStill 4 RX16 ow_dm_X16_waitsStill (dk_X16 ac)) (K : nd_Ki p l e (headSpec ow_dm_X16_waitsStill ({ frames := 2, cells := 0, slots := 0, locals := 48 })).room s m args below meth c Q A (dC, dI) cX16_waitsStill .boolean (St × (St)) (dw_X16 a ac) r) : dj_X16_waitsStill_101 p l e s m args below meth c Q A dC dI a ac (df_X16_waitsStill_101 n) r := by
  obtain ⟨hlt, hx, hb, hml, hown, hts, hN, hA, hK⟩ := id C
  intro y0 s0 H locs ls h hP hD hS hl
  unfold df_X16_waitsStill_101 at h
  obtain ⟨n11, h⟩ := nd_z_e ⟨_, rfl⟩ h
  exact K _ _ _ _ _ _ dX16_waitsStill_101 n11 (Option.some.inj h).symm hP hD hS
set_option maxHeartbeats 40000000 in
set_option maxRecDepth 100000 in
theorem db_X16_waitsStill_100 {p : Program} {l : Launch} {e : Env} {s : State} {m : MethodId} {args : Array Value} {below : List Frame} {meth : Method} {c : Code} {Q : State → Prop} {A : Nat → Prop} {dC : Nat → ClassId} {dI : Nat → Nat → Nat} {a : Nat → Nat} {ac : Nat → ClassId} {n : Nat} {r : Int32 × (St × (St))} (C : nd_C p l s m args c A (dC, dI) cX16_waitsStill 4 RX16 ow_dm_X16_waitsStill (dk_X16 ac)) (K : nd_Ki p l e (headSpec ow_dm_X16_waitsStill ({ frames := 2, cells := 0, slots := 0, locals := 48 })).room s m args below meth c Q A (dC, dI) cX16_waitsStill .boolean (St × (St)) (dw_X16 a ac) r) : dj_X16_waitsStill_100 p l e s m args below meth c Q A dC dI a ac (df_X16_waitsStill_100 n) r := by
  obtain ⟨hlt, hx, hb, hml, hown, hts, hN, hA, hK⟩ := id C
  intro s0 H locs ls h hP hD hS hl
  unfold df_X16_waitsStill_100 at h
  refine lv_iconst (v := 0) hx hb dX16_waitsStill_100 (by decide) ?_
  exact (db_X16_waitsStill_101 C K) (0) s0 _ _ _ h hP hD hS (lv_sub hl [] rfl)
set_option maxHeartbeats 40000000 in
set_option maxRecDepth 100000 in
theorem db_X16_waitsStill_157 {p : Program} {l : Launch} {e : Env} {s : State} {m : MethodId} {args : Array Value} {below : List Frame} {meth : Method} {c : Code} {Q : State → Prop} {A : Nat → Prop} {dC : Nat → ClassId} {dI : Nat → Nat → Nat} {a : Nat → Nat} {ac : Nat → ClassId} {n : Nat} {r : Int32 × (St × (St))} (C : nd_C p l s m args c A (dC, dI) cX16_waitsStill 4 RX16 ow_dm_X16_waitsStill (dk_X16 ac)) (K : nd_Ki p l e (headSpec ow_dm_X16_waitsStill ({ frames := 2, cells := 0, slots := 0, locals := 48 })).room s m args below meth c Q A (dC, dI) cX16_waitsStill .boolean (St × (St)) (dw_X16 a ac) r) : dj_X16_waitsStill_157 p l e s m args below meth c Q A dC dI a ac (df_X16_waitsStill_157 n) r := by
  obtain ⟨hlt, hx, hb, hml, hown, hts, hN, hA, hK⟩ := id C
  intro y0 s0 H locs ls h hP hD hS hl
  unfold df_X16_waitsStill_157 at h
  obtain ⟨n31, h⟩ := nd_z_e ⟨_, rfl⟩ h
  exact K _ _ _ _ _ _ dX16_waitsStill_157 n31 (Option.some.inj h).symm hP hD hS
set_option maxHeartbeats 40000000 in
set_option maxRecDepth 100000 in
theorem db_X16_waitsStill_170 {p : Program} {l : Launch} {e : Env} {s : State} {m : MethodId} {args : Array Value} {below : List Frame} {meth : Method} {c : Code} {Q : State → Prop} {A : Nat → Prop} {dC : Nat → ClassId} {dI : Nat → Nat → Nat} {a : Nat → Nat} {ac : Nat → ClassId} {n : Nat} {r : Int32 × (St × (St))} (C : nd_C p l s m args c A (dC, dI) cX16_waitsStill 4 RX16 ow_dm_X16_waitsStill (dk_X16 ac)) (K : nd_Ki p l e (headSpec ow_dm_X16_waitsStill ({ frames := 2, cells := 0, slots := 0, locals := 48 })).room s m args below meth c Q A (dC, dI) cX16_waitsStill .boolean (St × (St)) (dw_X16 a ac) r) : dj_X16_waitsStill_170 p l e s m args below meth c Q A dC dI a ac (df_X16_waitsStill_170 n) r := by
  obtain ⟨hlt, hx, hb, hml, hown, hts, hN, hA, hK⟩ := id C
  intro y0 s0 H locs ls h hP hD hS hl
  unfold df_X16_waitsStill_170 at h
  obtain ⟨n33, h⟩ := nd_z_e ⟨_, rfl⟩ h
  exact K _ _ _ _ _ _ dX16_waitsStill_170 n33 (Option.some.inj h).symm hP hD hS
set_option maxHeartbeats 40000000 in
set_option maxRecDepth 100000 in
theorem db_X16_waitsStill_0 {p : Program} {l : Launch} {e : Env} {s : State} {m : MethodId} {args : Array Value} {below : List Frame} {meth : Method} {c : Code} {Q : State → Prop} {A : Nat → Prop} {dC : Nat → ClassId} {dI : Nat → Nat → Nat} {a : Nat → Nat} {ac : Nat → ClassId} {n : Nat} {r : Int32 × (St × (St))} (C : nd_C p l s m args c A (dC, dI) cX16_waitsStill 4 RX16 ow_dm_X16_waitsStill (dk_X16 ac)) (K : nd_Ki p l e (headSpec ow_dm_X16_waitsStill ({ frames := 2, cells := 0, slots := 0, locals := 48 })).room s m args below meth c Q A (dC, dI) cX16_waitsStill .boolean (St × (St)) (dw_X16 a ac) r) : dj_X16_waitsStill_0 p l e s m args below meth c Q A dC dI a ac (df_X16_waitsStill_0 n) r := by
  obtain ⟨hlt, hx, hb, hml, hown, hts, hN, hA, hK⟩ := id C
  intro v0 s0 H locs ls h hP hD hS hl
  unfold df_X16_waitsStill_0 at h
  refine lv_aload_n hx hb dX16_waitsStill_0 rfl (lv_at hl 0 rfl) ?_
  refine va_get (D := (dC, dI)) (ci := 17) (v := .ref (a 11)) (C := RX16) (T := TX16) (N := 56) hx hb hts hi_dm_X16_waitsStill_X16 hown hK hP 0 rfl rfl 19 (by decide) (hts (.fieldLink RX16 42 "TimeMachineModel$Machine" "x" "[I") (List.mem_of_getElem? (i := 1) rfl)) (fun _ h9 => h9) rfl dX16_waitsStill_1 ?_
  refine lv_bipush (v := 32) hx hb dX16_waitsStill_4 (by decide) ?_
  refine lv_iload_n hx hb dX16_waitsStill_6 rfl (lv_at hl 1 rfl) ?_
  refine lv_imul hx hb dX16_waitsStill_7 ?_
  refine lv_bipush (v := 10) hx hb dX16_waitsStill_8 (by decide) ?_
  refine lv_iadd hx hb dX16_waitsStill_10 ?_
  obtain ⟨i1, h⟩ := nd_ck_e h
  refine va_iald (i := ((32 * v0) + 10)) hx hb hK hP 11 10 rfl rfl i1 dX16_waitsStill_11 ?_
  refine lv_topi (fun z2 ez2 => ?_)
  have h := nd_at h ez2
  refine lv_istore_n (lv' := [(2, .int z2), (0, .ref (a 0)), (1, .int v0)]) hx hb dX16_waitsStill_12 rfl hl (by decide) rfl (fun ls hl => ?_)
  refine lv_aload_n hx hb dX16_waitsStill_13 rfl (lv_at hl 1 rfl) ?_
  refine va_get (D := (dC, dI)) (ci := 17) (v := .ref (a 11)) (C := RX16) (T := TX16) (N := 56) hx hb hts hi_dm_X16_waitsStill_X16 hown hK hP 0 rfl rfl 19 (by decide) (hts (.fieldLink RX16 42 "TimeMachineModel$Machine" "x" "[I") (List.mem_of_getElem? (i := 1) rfl)) (fun _ h9 => h9) rfl dX16_waitsStill_14 ?_
  refine lv_bipush (v := 32) hx hb dX16_waitsStill_17 (by decide) ?_
  refine lv_iload_n hx hb dX16_waitsStill_19 rfl (lv_at hl 2 rfl) ?_
  refine lv_imul hx hb dX16_waitsStill_20 ?_
  refine lv_bipush (v := 12) hx hb dX16_waitsStill_21 (by decide) ?_
  refine lv_iadd hx hb dX16_waitsStill_23 ?_
  obtain ⟨i3, h⟩ := nd_ck_e h
  refine va_iald (i := ((32 * v0) + 12)) hx hb hK hP 11 10 rfl rfl i3 dX16_waitsStill_24 ?_
  refine lv_topi (fun z4 ez4 => ?_)
  have h := nd_at h ez4
  refine lv_istore_n (lv' := [(3, .int z4), (2, .int z2), (0, .ref (a 0)), (1, .int v0)]) hx hb dX16_waitsStill_25 rfl hl (by decide) rfl (fun ls hl => ?_)
  refine lv_aload_n hx hb dX16_waitsStill_26 rfl (lv_at hl 2 rfl) ?_
  refine va_get (D := (dC, dI)) (ci := 17) (v := .ref (a 8)) (C := RX16) (T := TX16) (N := 56) hx hb hts hi_dm_X16_waitsStill_X16 hown hK hP 0 rfl rfl 16 (by decide) (hts (.fieldLink RX16 31 "TimeMachineModel$Machine" "calling" "[I") (List.mem_of_getElem? (i := 2) rfl)) (fun _ h9 => h9) rfl dX16_waitsStill_27 ?_
  refine lv_iload_n hx hb dX16_waitsStill_30 rfl (lv_at hl 3 rfl) ?_
  obtain ⟨i5, h⟩ := nd_ck_e h
  refine va_iald (i := v0) hx hb hK hP 8 7 rfl rfl i5 dX16_waitsStill_31 ?_
  by_cases c6 : (sR s0.1 7 (Int32.toNatClampNeg v0)) = 3
  · have h := nd_pos h c6
    refine lv_lookup (off := 44) (tgt := 76) hx hb dX16_waitsStill_32 (by decide) (by rw [c6]; decide) (by decide) ?_
    refine lv_aload_n hx hb dX16_waitsStill_76 rfl (lv_at hl 2 rfl) ?_
    refine lv_iload_n hx hb dX16_waitsStill_77 rfl (lv_at hl 3 rfl) ?_
    refine lv_iconst (v := 0) hx hb dX16_waitsStill_78 (by decide) ?_
    obtain ⟨q7, s8, hq, h⟩ := nd_b2_e h
    have hPc := hP
    have hDc := hD
    have hKc := hK
    have hFc := nd_rs hD hS hA
    refine nd_cVi (As := [.int v0, .int 0]) (rest := []) (q := q7) (w' := dw_X16 a ac s8) ⟨hx, hb, hml, hown, hts⟩ (fun sz => dm_X16_child l hlt dC dI a ac n (v0) (0) s0 hq sz) (cwV 2 hts gi_dm_X16_waitsStill_0 rfl rfl rfl (by decide +kernel) ⟨Nat.le_of_ble_eq_true rfl, Nat.le_of_ble_eq_true rfl⟩) hPc hDc hKc hS hA hN (va_recv hKc hPc (ci := 17) (q0 := 0) rfl rfl) rfl hl.1 rfl (Nat.le_of_ble_eq_true rfl) dX16_waitsStill_79 (fun H locs hP1 hD1 hk1 hS => ?_)
    have hP := hP1
    have hD := hD1.weaken (fun k q _ h => hFc q.1 h)
    refine lv_iconst (v := (-1)) hx hb dX16_waitsStill_82 (by decide) ?_
    refine lv_icmp_eq (tgt := 100) hx hb dX16_waitsStill_83 (by decide) (fun c10 => ?_) (fun c10 => ?_)
    · have h := nd_pos h c10
      exact (db_X16_waitsStill_100 C K)  s8 _ _ _ h hP hD hS (lv_sub hl [] rfl)
    · have h := nd_neg h c10
      refine lv_aload_n hx hb dX16_waitsStill_86 rfl (lv_at hl 2 rfl) ?_
      refine lv_iload_n hx hb dX16_waitsStill_87 rfl (lv_at hl 3 rfl) ?_
      refine lv_iconst (v := 1) hx hb dX16_waitsStill_88 (by decide) ?_
      obtain ⟨q12, s13, hq, h⟩ := nd_b2_e h
      have hPc := hP
      have hDc := hD
      have hKc := hK
      have hFc := nd_rs hD hS hA
      refine nd_cVi (As := [.int v0, .int 1]) (rest := []) (q := q12) (w' := dw_X16 a ac s13) ⟨hx, hb, hml, hown, hts⟩ (fun sz => dm_X16_child l hlt dC dI a ac n (v0) (1) s8 hq sz) (cwV 2 hts gi_dm_X16_waitsStill_0 rfl rfl rfl (by decide +kernel) ⟨Nat.le_of_ble_eq_true rfl, Nat.le_of_ble_eq_true rfl⟩) hPc hDc hKc hS hA hN (va_recv hKc hPc (ci := 17) (q0 := 0) rfl rfl) rfl hl.1 rfl (Nat.le_of_ble_eq_true rfl) dX16_waitsStill_89 (fun H locs hP1 hD1 hk1 hS => ?_)
      have hP := hP1
      have hD := hD1.weaken (fun k q _ h => hFc q.1 h)
      refine lv_iconst (v := (-1)) hx hb dX16_waitsStill_92 (by decide) ?_
      refine lv_icmp_ne (tgt := 100) hx hb dX16_waitsStill_93 (by decide) (fun c15 => ?_) (fun c15 => ?_)
      · have h := nd_neg h c15
        exact (db_X16_waitsStill_100 C K)  s13 _ _ _ h hP hD hS (lv_sub hl [] rfl)
      · have h := nd_pos h c15
        refine lv_iconst (v := 1) hx hb dX16_waitsStill_96 (by decide) ?_
        refine lv_goto (tgt := 101) hx hb dX16_waitsStill_97 (by decide) ?_
        exact (db_X16_waitsStill_101 C K) (1) s13 _ _ _ h hP hD hS (lv_sub hl [] rfl)
  have h := nd_neg h c6
  by_cases c16 : (sR s0.1 7 (Int32.toNatClampNeg v0)) = 6
  · have h := nd_pos h c16
    refine lv_lookup (off := 70) (tgt := 102) hx hb dX16_waitsStill_32 (by decide) (by rw [c16]; decide) (by decide) ?_
    refine lv_aload_n hx hb dX16_waitsStill_102 rfl (lv_at hl 2 rfl) ?_
    refine lv_aload_n hx hb dX16_waitsStill_103 rfl (lv_at hl 2 rfl) ?_
    refine va_get (D := (dC, dI)) (ci := 17) (v := .ref (a 16)) (C := RX16) (T := TX16) (N := 56) hx hb hts hi_dm_X16_waitsStill_X16 hown hK hP 0 rfl rfl 24 (by decide) (hts (.fieldLink RX16 57 "TimeMachineModel$Machine" "descriptor" "[I") (List.mem_of_getElem? (i := 7) rfl)) (fun _ h9 => h9) rfl dX16_waitsStill_104 ?_
    refine lv_bipush (v := 16) hx hb dX16_waitsStill_107 (by decide) ?_
    refine lv_iload_n hx hb dX16_waitsStill_109 rfl (lv_at hl 3 rfl) ?_
    refine lv_imul hx hb dX16_waitsStill_110 ?_
    refine lv_iload_n hx hb dX16_waitsStill_111 rfl (lv_at hl 1 rfl) ?_
    refine lv_iadd hx hb dX16_waitsStill_112 ?_
    obtain ⟨i17, h⟩ := nd_ck_e h
    refine va_iald (i := ((16 * v0) + z2)) hx hb hK hP 16 15 rfl rfl i17 dX16_waitsStill_113 ?_
    refine lv_iconst (v := 1) hx hb dX16_waitsStill_114 (by decide) ?_
    refine lv_iload_n hx hb dX16_waitsStill_115 rfl (lv_at hl 0 rfl) ?_
    obtain ⟨q18, s19, hq, h⟩ := nd_b2_e h
    have hPc := hP
    have hDc := hD
    have hKc := hK
    have hFc := nd_rs hD hS hA
    refine nd_cVi (As := [.int (sR s0.1 14 (Int32.toNatClampNeg ((16 * v0) + z2))), .int 1, .int z4]) (rest := []) (q := q18) (w' := dw_X16 a ac s19) ⟨hx, hb, hml, hown, hts⟩ (fun sz => dm_X16_waits l hlt dC dI a ac n ((sR s0.1 14 (Int32.toNatClampNeg ((16 * v0) + z2)))) (1) (z4) s0 hq sz) (cwV 3 hts gi_dm_X16_waitsStill_1 rfl rfl rfl (by decide +kernel) ⟨Nat.le_of_ble_eq_true rfl, Nat.le_of_ble_eq_true rfl⟩) hPc hDc hKc hS hA hN (va_recv hKc hPc (ci := 17) (q0 := 0) rfl rfl) rfl hl.1 rfl (Nat.le_of_ble_eq_true rfl) dX16_waitsStill_116 (fun H locs hP1 hD1 hk1 hS => ?_)
    have hP := hP1
    have hD := hD1.weaken (fun k q _ h => hFc q.1 h)
    obtain ⟨n21, h⟩ := nd_z_e ⟨_, rfl⟩ h
    exact K _ _ _ _ _ _ dX16_waitsStill_119 n21 (Option.some.inj h).symm hP hD hS
  have h := nd_neg h c16
  by_cases c22 : (sR s0.1 7 (Int32.toNatClampNeg v0)) = 7
  · have h := nd_pos h c22
    refine lv_lookup (off := 88) (tgt := 120) hx hb dX16_waitsStill_32 (by decide) (by rw [c22]; decide) (by decide) ?_
    refine lv_aload_n hx hb dX16_waitsStill_120 rfl (lv_at hl 2 rfl) ?_
    refine lv_aload_n hx hb dX16_waitsStill_121 rfl (lv_at hl 2 rfl) ?_
    refine va_get (D := (dC, dI)) (ci := 17) (v := .ref (a 16)) (C := RX16) (T := TX16) (N := 56) hx hb hts hi_dm_X16_waitsStill_X16 hown hK hP 0 rfl rfl 24 (by decide) (hts (.fieldLink RX16 57 "TimeMachineModel$Machine" "descriptor" "[I") (List.mem_of_getElem? (i := 7) rfl)) (fun _ h9 => h9) rfl dX16_waitsStill_122 ?_
    refine lv_bipush (v := 16) hx hb dX16_waitsStill_125 (by decide) ?_
    refine lv_iload_n hx hb dX16_waitsStill_127 rfl (lv_at hl 3 rfl) ?_
    refine lv_imul hx hb dX16_waitsStill_128 ?_
    refine lv_iload_n hx hb dX16_waitsStill_129 rfl (lv_at hl 1 rfl) ?_
    refine lv_iadd hx hb dX16_waitsStill_130 ?_
    obtain ⟨i23, h⟩ := nd_ck_e h
    refine va_iald (i := ((16 * v0) + z2)) hx hb hK hP 16 15 rfl rfl i23 dX16_waitsStill_131 ?_
    refine lv_iconst (v := 0) hx hb dX16_waitsStill_132 (by decide) ?_
    refine lv_iload_n hx hb dX16_waitsStill_133 rfl (lv_at hl 0 rfl) ?_
    obtain ⟨q24, s25, hq, h⟩ := nd_b2_e h
    have hPc := hP
    have hDc := hD
    have hKc := hK
    have hFc := nd_rs hD hS hA
    refine nd_cVi (As := [.int (sR s0.1 14 (Int32.toNatClampNeg ((16 * v0) + z2))), .int 0, .int z4]) (rest := []) (q := q24) (w' := dw_X16 a ac s25) ⟨hx, hb, hml, hown, hts⟩ (fun sz => dm_X16_waits l hlt dC dI a ac n ((sR s0.1 14 (Int32.toNatClampNeg ((16 * v0) + z2)))) (0) (z4) s0 hq sz) (cwV 3 hts gi_dm_X16_waitsStill_1 rfl rfl rfl (by decide +kernel) ⟨Nat.le_of_ble_eq_true rfl, Nat.le_of_ble_eq_true rfl⟩) hPc hDc hKc hS hA hN (va_recv hKc hPc (ci := 17) (q0 := 0) rfl rfl) rfl hl.1 rfl (Nat.le_of_ble_eq_true rfl) dX16_waitsStill_134 (fun H locs hP1 hD1 hk1 hS => ?_)
    have hP := hP1
    have hD := hD1.weaken (fun k q _ h => hFc q.1 h)
    obtain ⟨n27, h⟩ := nd_z_e ⟨_, rfl⟩ h
    exact K _ _ _ _ _ _ dX16_waitsStill_137 n27 (Option.some.inj h).symm hP hD hS
  have h := nd_neg h c22
  by_cases c28 : (sR s0.1 7 (Int32.toNatClampNeg v0)) = 19
  · have h := nd_pos h c28
    refine lv_lookup (off := 106) (tgt := 138) hx hb dX16_waitsStill_32 (by decide) (by rw [c28]; decide) (by decide) ?_
    refine lv_aload_n hx hb dX16_waitsStill_138 rfl (lv_at hl 2 rfl) ?_
    refine va_get (D := (dC, dI)) (ci := 17) (v := .long (sL s0.1 1)) (C := RX16) (T := TX16) (N := 56) hx hb hts hi_dm_X16_waitsStill_X16 hown hK hP 0 rfl rfl 7 (by decide) (hts (.fieldLink RX16 151 "TimeMachineModel$Machine" "clock" "J") (List.mem_of_getElem? (i := 11) rfl)) (fun _ h9 => h9) rfl dX16_waitsStill_139 ?_
    refine lv_aload_n hx hb dX16_waitsStill_142 rfl (lv_at hl 2 rfl) ?_
    refine va_get (D := (dC, dI)) (ci := 17) (v := .ref (a 10)) (C := RX16) (T := TX16) (N := 56) hx hb hts hi_dm_X16_waitsStill_X16 hown hK hP 0 rfl rfl 18 (by decide) (hts (.fieldLink RX16 38 "TimeMachineModel$Machine" "since" "[J") (List.mem_of_getElem? (i := 12) rfl)) (fun _ h9 => h9) rfl dX16_waitsStill_143 ?_
    refine lv_iload_n hx hb dX16_waitsStill_146 rfl (lv_at hl 3 rfl) ?_
    obtain ⟨i29, h⟩ := nd_ck_e h
    refine va_lald (i := v0) hx hb hK hP 10 9 rfl rfl i29 dX16_waitsStill_147 ?_
    refine W.lcmp hx hb dX16_waitsStill_148 ?_
    refine lv_if_ge (tgt := 156) hx hb dX16_waitsStill_149 (by decide) (fun c30 => ?_) (fun c30 => ?_)
    · have h := nd_pos h c30
      refine lv_iconst (v := 0) hx hb dX16_waitsStill_156 (by decide) ?_
      exact (db_X16_waitsStill_157 C K) (0) s0 _ _ _ h hP hD hS (lv_sub hl [] rfl)
    · have h := nd_neg h c30
      refine lv_iconst (v := 1) hx hb dX16_waitsStill_152 (by decide) ?_
      refine lv_goto (tgt := 157) hx hb dX16_waitsStill_153 (by decide) ?_
      exact (db_X16_waitsStill_157 C K) (1) s0 _ _ _ h hP hD hS (lv_sub hl [] rfl)
  have h := nd_neg h c28
  refine lv_lookup (off := 126) (tgt := 158) hx hb dX16_waitsStill_32 (by decide) (show Op.lookupswitch.offset [(3, 44), (6, 70), (7, 88), (19, 106)] 126 ((sR s0.1 7 (Int32.toNatClampNeg v0)) : Int32).toInt = 126 by rw [lv_osw c6 (by decide), lv_osw c16 (by decide), lv_osw c22 (by decide), lv_osw c28 (by decide)] <;> rfl) (by decide) ?_
  refine lv_aload_n hx hb dX16_waitsStill_158 rfl (lv_at hl 2 rfl) ?_
  refine va_get (D := (dC, dI)) (ci := 17) (v := .int (sI s0.1 5)) (C := RX16) (T := TX16) (N := 56) hx hb hts hi_dm_X16_waitsStill_X16 hown hK hP 0 rfl rfl 9 (by decide) (hts (.fieldLink RX16 126 "TimeMachineModel$Machine" "waitingWords" "I") (List.mem_of_getElem? (i := 13) rfl)) (fun _ h9 => h9) rfl dX16_waitsStill_159 ?_
  refine lv_if_ne (tgt := 169) hx hb dX16_waitsStill_162 (by decide) (fun c32 => ?_) (fun c32 => ?_)
  · have h := nd_neg h c32
    refine lv_iconst (v := 0) hx hb dX16_waitsStill_169 (by decide) ?_
    exact (db_X16_waitsStill_170 C K) (0) s0 _ _ _ h hP hD hS (lv_sub hl [] rfl)
  · have h := nd_pos h c32
    refine lv_iconst (v := 1) hx hb dX16_waitsStill_165 (by decide) ?_
    refine lv_goto (tgt := 170) hx hb dX16_waitsStill_166 (by decide) ?_
    exact (db_X16_waitsStill_170 C K) (1) s0 _ _ _ h hP hD hS (lv_sub hl [] rfl)
set_option maxHeartbeats 40000000 in
set_option maxRecDepth 100000 in
theorem dm_X16_waitsStill (l : Launch) (hlt : l.stackTraces = false) (dC : Nat → ClassId) (dI : Nat → Nat → Nat) (a : Nat → Nat) (ac : Nat → ClassId) (n : Nat) (v0 : Int32) (s0 : St × (St)) {r : Int32 × (St × (St))} (h : df_X16_waitsStill n v0 s0 = some r) (sz : Nat) : Met l yX16_waitsStill ow_dm_X16_waitsStill ({ frames := 2, cells := 0, slots := 0, locals := 48 }) (va_Pc [.ref (a 0), .int v0] (fun U => U.heap.size = sz ∧ va_P (dC, dI) vwCl (dw_X16 a ac s0) U.heap ∧ va_K (dC, dI) vwCl (dk_X16 ac) U ∧ va_D (fun _ => True) (dw_X16 a ac s0) ∧ nv_E dI (va_A (dw_X16 a ac s0) sz) U)) (va_Qi (fun x _ => x = r.1) (fun (_ : Unit) t => va_P (dC, dI) vwCl (dw_X16 a ac r.2) t.heap ∧ va_K (dC, dI) vwCl (dk_X16 ac) t ∧ va_D (va_A (dw_X16 a ac s0) sz) (dw_X16 a ac r.2)) (va_A (dw_X16 a ac s0) sz)) 0 0 (va_A (dw_X16 a ac s0) sz) := by
  refine Met.ofW (cc := cX16_waitsStill) (maxL := 4) (ret := (some .boolean)) (by decide) rfl ?_
  intro p e s m args below meth c s₁ B hml hv
  obtain ⟨rfl, hsz, hP, hK, hD0, hN⟩ := hv
  have hx := B.exec
  have hb := B.bytes
  have hr := B.returns
  have hts := atoms_spec (ws := ow_dm_X16_waitsStill) B.pre
  have hown : s.vm.findClass RX16 = some m.cls := findClass_of_methodNamed B.named
  have hlocks := B.notSynchronized
  subst hsz
  have hD := hD0.self (sz := s.heap.size)
  generalize hAe : va_A (dw_X16 a ac s0) s.heap.size = A at hD hN ⊢
  have hA : ∀ q : Nat, s.heap.size ≤ q → A q := fun q h => by rw [← hAe]; exact Or.inr h
  have hl := lv_entry ([.ref (a 0), .int v0]) (n := 4) (Nat.le_of_ble_eq_true rfl)
  rw [lg_entry_eq]
  generalize (lg_sl ([.ref (a 0), .int v0]) ++ List.replicate (4 - (lg_sl ([.ref (a 0), .int v0])).length) Slot.unset).toArray = ls at hl ⊢
  have hl : lv_has ls 4 [(0, .ref (a 0)), (1, .int v0)] := hl
  exact db_X16_waitsStill_0 (dC := dC) (dI := dI) (a := a) (ac := ac) (n := n) (r := r) ⟨hlt, hx, hb, hml, hown, hts, hN, hA, hK⟩ (fun pc v τ H locs ls d z er hP hD hS => by subst er; exact W.zret (v := v) hx hb hr z (fun t ht hW => ⟨⟨v, (), rfl, rfl, by rw [ht]; exact hP, va_K.moved hW.alike hK, hD⟩, hS.F ht⟩) hS.2.2 d) v0 s0 _ _ _ h hP hD va_S.rf (lv_sub hl [0, 1] rfl)
def ow_dm_X16_takeable : List Cond := Cond.code yX16_takeable cX16_takeable 3 (some .int) :: ([Cond.fieldLink RX16 22 "TimeMachineModel$Machine" "pending" "[I", Cond.fieldLink RX16 34 "TimeMachineModel$Machine" "within" "[Z"] ++ (u_ws RX16 TX16 56 ++ []))
theorem gd_dm_X16_takeable : ∀ w ∈ ow_dm_X16_takeable, (w.onTables && w.keeps) = true ∨ ∃ ty, w = Cond.arrayClass ty := List.forall_mem_cons.mpr ⟨good_of_word rfl, List.forall_mem_append.mpr ⟨fun w h => good_of_word (List.all_eq_true.mp (by decide +kernel) w h), List.forall_mem_append.mpr ⟨gu_X16, fun _ h => nomatch h⟩⟩⟩
theorem hi_dm_X16_takeable_X16 : ∀ w ∈ u_ws RX16 TX16 56, w ∈ ow_dm_X16_takeable := fun w h => List.mem_cons_of_mem _ (List.mem_append_right _ (List.mem_append_left _ h))
def dj_X16_takeable_65 (p : Program) (l : Launch) (e : Env) (s : State) (m : MethodId) (args : Array Value) (below : List Frame) (meth : Method) (c : Code) (Q : State → Prop) (A : Nat → Prop) (dC : Nat → ClassId) (dI : Nat → Nat → Nat) (a : Nat → Nat) (ac : Nat → ClassId) (g : Int32 → (St × (St)) → Option (Int32 × (St × (St)))) (r : Int32 × (St × (St))) : Prop := ∀ (y0 : Int32) (s0 : St × (St)) (H : Heap) (locs : List Loc) (ls : Array Slot), g y0 s0 = some r → va_P (dC, dI) vwCl (dw_X16 a ac s0) H → va_D A (dw_X16 a ac s0) → va_S A s.heap H locs → lv_has ls 3 [] → W p l e (headSpec ow_dm_X16_takeable ({ frames := 0, cells := 0, slots := 0, locals := 0 })).room s m args below meth c H locs 0 0 Q (F0 m 65 ls [.int y0])
def dj_X16_takeable_64 (p : Program) (l : Launch) (e : Env) (s : State) (m : MethodId) (args : Array Value) (below : List Frame) (meth : Method) (c : Code) (Q : State → Prop) (A : Nat → Prop) (dC : Nat → ClassId) (dI : Nat → Nat → Nat) (a : Nat → Nat) (ac : Nat → ClassId) (g : (St × (St)) → Option (Int32 × (St × (St)))) (r : Int32 × (St × (St))) : Prop := ∀ (s0 : St × (St)) (H : Heap) (locs : List Loc) (ls : Array Slot), g s0 = some r → va_P (dC, dI) vwCl (dw_X16 a ac s0) H → va_D A (dw_X16 a ac s0) → va_S A s.heap H locs → lv_has ls 3 [] → W p l e (headSpec ow_dm_X16_takeable ({ frames := 0, cells := 0, slots := 0, locals := 0 })).room s m args below meth c H locs 0 0 Q (F0 m 64 ls [])
def dj_X16_takeable_45 (p : Program) (l : Launch) (e : Env) (s : State) (m : MethodId) (args : Array Value) (below : List Frame) (meth : Method) (c : Code) (Q : State → Prop) (A : Nat → Prop) (dC : Nat → ClassId) (dI : Nat → Nat → Nat) (a : Nat → Nat) (ac : Nat → ClassId) (g : Int32 → Int32 → (St × (St)) → Option (Int32 × (St × (St)))) (r : Int32 × (St × (St))) : Prop := ∀ (x1 : Int32) (x2 : Int32) (s0 : St × (St)) (H : Heap) (locs : List Loc) (ls : Array Slot), g x1 x2 s0 = some r → va_P (dC, dI) vwCl (dw_X16 a ac s0) H → va_D A (dw_X16 a ac s0) → va_S A s.heap H locs → lv_has ls 3 [(0, .ref (a 0)), (1, .int x1), (2, .int x2)] → W p l e (headSpec ow_dm_X16_takeable ({ frames := 0, cells := 0, slots := 0, locals := 0 })).room s m args below meth c H locs 0 0 Q (F0 m 45 ls [])
def dj_X16_takeable_20 (p : Program) (l : Launch) (e : Env) (s : State) (m : MethodId) (args : Array Value) (below : List Frame) (meth : Method) (c : Code) (Q : State → Prop) (A : Nat → Prop) (dC : Nat → ClassId) (dI : Nat → Nat → Nat) (a : Nat → Nat) (ac : Nat → ClassId) (g : Int32 → Int32 → (St × (St)) → Option (Int32 × (St × (St)))) (r : Int32 × (St × (St))) : Prop := ∀ (x1 : Int32) (x2 : Int32) (s0 : St × (St)) (H : Heap) (locs : List Loc) (ls : Array Slot), g x1 x2 s0 = some r → va_P (dC, dI) vwCl (dw_X16 a ac s0) H → va_D A (dw_X16 a ac s0) → va_S A s.heap H locs → lv_has ls 3 [(0, .ref (a 0)), (1, .int x1), (2, .int x2)] → W p l e (headSpec ow_dm_X16_takeable ({ frames := 0, cells := 0, slots := 0, locals := 0 })).room s m args below meth c H locs 0 0 Q (F0 m 20 ls [])
def dj_X16_takeable_0 (p : Program) (l : Launch) (e : Env) (s : State) (m : MethodId) (args : Array Value) (below : List Frame) (meth : Method) (c : Code) (Q : State → Prop) (A : Nat → Prop) (dC : Nat → ClassId) (dI : Nat → Nat → Nat) (a : Nat → Nat) (ac : Nat → ClassId) (g : Int32 → (St × (St)) → Option (Int32 × (St × (St)))) (r : Int32 × (St × (St))) : Prop := ∀ (v0 : Int32) (s0 : St × (St)) (H : Heap) (locs : List Loc) (ls : Array Slot), g v0 s0 = some r → va_P (dC, dI) vwCl (dw_X16 a ac s0) H → va_D A (dw_X16 a ac s0) → va_S A s.heap H locs → lv_has ls 3 [(0, .ref (a 0)), (1, .int v0)] → W p l e (headSpec ow_dm_X16_takeable ({ frames := 0, cells := 0, slots := 0, locals := 0 })).room s m args below meth c H locs 0 0 Q (F0 m 0 ls [])
set_option maxHeartbeats 40000000 in
set_option maxRecDepth 100000 in
theorem db_X16_takeable_65 {p : Program} {l : Launch} {e : Env} {s : State} {m : MethodId} {args : Array Value} {below : List Frame} {meth : Method} {c : Code} {Q : State → Prop} {A : Nat → Prop} {dC : Nat → ClassId} {dI : Nat → Nat → Nat} {a : Nat → Nat} {ac : Nat → ClassId} {n : Nat} {r : Int32 × (St × (St))} (C : nd_C p l s m args c A (dC, dI) cX16_takeable 3 RX16 ow_dm_X16_takeable (dk_X16 ac)) (K : nd_Ki p l e (headSpec ow_dm_X16_takeable ({ frames := 0, cells := 0, slots := 0, locals := 0 })).room s m args below meth c Q A (dC, dI) cX16_takeable .int (St × (St)) (dw_X16 a ac) r) : dj_X16_takeable_65 p l e s m args below meth c Q A dC dI a ac (df_X16_takeable_65 n) r := by
  obtain ⟨hlt, hx, hb, hml, hown, hts, hN, hA, hK⟩ := id C
  intro y0 s0 H locs ls h hP hD hS hl
  unfold df_X16_takeable_65 at h
  exact K _ _ _ _ _ _ dX16_takeable_65 rfl (Option.some.inj h).symm hP hD hS
set_option maxHeartbeats 40000000 in
set_option maxRecDepth 100000 in
theorem db_X16_takeable_64 {p : Program} {l : Launch} {e : Env} {s : State} {m : MethodId} {args : Array Value} {below : List Frame} {meth : Method} {c : Code} {Q : State → Prop} {A : Nat → Prop} {dC : Nat → ClassId} {dI : Nat → Nat → Nat} {a : Nat → Nat} {ac : Nat → ClassId} {n : Nat} {r : Int32 × (St × (St))} (C : nd_C p l s m args c A (dC, dI) cX16_takeable 3 RX16 ow_dm_X16_takeable (dk_X16 ac)) (K : nd_Ki p l e (headSpec ow_dm_X16_takeable ({ frames := 0, cells := 0, slots := 0, locals := 0 })).room s m args below meth c Q A (dC, dI) cX16_takeable .int (St × (St)) (dw_X16 a ac) r) : dj_X16_takeable_64 p l e s m args below meth c Q A dC dI a ac (df_X16_takeable_64 n) r := by
  obtain ⟨hlt, hx, hb, hml, hown, hts, hN, hA, hK⟩ := id C
  intro s0 H locs ls h hP hD hS hl
  unfold df_X16_takeable_64 at h
  refine lv_iconst (v := 0) hx hb dX16_takeable_64 (by decide) ?_
  exact (db_X16_takeable_65 C K) (0) s0 _ _ _ h hP hD hS (lv_sub hl [] rfl)
set_option maxHeartbeats 40000000 in
set_option maxRecDepth 100000 in
theorem db_X16_takeable_45 {p : Program} {l : Launch} {e : Env} {s : State} {m : MethodId} {args : Array Value} {below : List Frame} {meth : Method} {c : Code} {Q : State → Prop} {A : Nat → Prop} {dC : Nat → ClassId} {dI : Nat → Nat → Nat} {a : Nat → Nat} {ac : Nat → ClassId} {n : Nat} {r : Int32 × (St × (St))} (C : nd_C p l s m args c A (dC, dI) cX16_takeable 3 RX16 ow_dm_X16_takeable (dk_X16 ac)) (K : nd_Ki p l e (headSpec ow_dm_X16_takeable ({ frames := 0, cells := 0, slots := 0, locals := 0 })).room s m args below meth c Q A (dC, dI) cX16_takeable .int (St × (St)) (dw_X16 a ac) r) : dj_X16_takeable_45 p l e s m args below meth c Q A dC dI a ac (df_X16_takeable_45 n) r := by
  obtain ⟨hlt, hx, hb, hml, hown, hts, hN, hA, hK⟩ := id C
  intro x1 x2 s0 H locs ls h hP hD hS hl
  unfold df_X16_takeable_45 at h
  refine lv_iload_n hx hb dX16_takeable_45 rfl (lv_at hl 2 rfl) ?_
  refine lv_bipush (v := 16) hx hb dX16_takeable_46 (by decide) ?_
  refine lv_icmp_ge (tgt := 64) hx hb dX16_takeable_48 (by decide) (fun c4 => ?_) (fun c4 => ?_)
  · have h := nd_pos h c4
    exact (db_X16_takeable_64 C K)  s0 _ _ _ h hP hD hS (lv_sub hl [] rfl)
  · have h := nd_neg h c4
    refine lv_aload_n hx hb dX16_takeable_51 rfl (lv_at hl 0 rfl) ?_
    refine va_get (D := (dC, dI)) (ci := 17) (v := .ref (a 9)) (C := RX16) (T := TX16) (N := 56) hx hb hts hi_dm_X16_takeable_X16 hown hK hP 0 rfl rfl 17 (by decide) (hts (.fieldLink RX16 34 "TimeMachineModel$Machine" "within" "[Z") (List.mem_of_getElem? (i := 2) rfl)) (fun _ h9 => h9) rfl dX16_takeable_52 ?_
    refine lv_iload_n hx hb dX16_takeable_55 rfl (lv_at hl 1 rfl) ?_
    obtain ⟨i5, h⟩ := nd_ck_e h
    refine va_zald (i := x1) hx hb hK hP 9 8 rfl rfl i5 dX16_takeable_56 ?_
    refine lv_if_ne (tgt := 64) hx hb dX16_takeable_57 (by decide) (fun c6 => ?_) (fun c6 => ?_)
    · have h := nd_neg h c6
      exact (db_X16_takeable_64 C K)  s0 _ _ _ h hP hD hS (lv_sub hl [] rfl)
    · have h := nd_pos h c6
      refine lv_iload_n hx hb dX16_takeable_60 rfl (lv_at hl 2 rfl) ?_
      refine lv_goto (tgt := 65) hx hb dX16_takeable_61 (by decide) ?_
      exact (db_X16_takeable_65 C K) (x2) s0 _ _ _ h hP hD hS (lv_sub hl [] rfl)
set_option maxHeartbeats 40000000 in
set_option maxRecDepth 100000 in
theorem dB_X16_takeable_20 {p : Program} {l : Launch} {e : Env} {s : State} {m : MethodId} {args : Array Value} {below : List Frame} {meth : Method} {c : Code} {Q : State → Prop} {A : Nat → Prop} {dC : Nat → ClassId} {dI : Nat → Nat → Nat} {a : Nat → Nat} {ac : Nat → ClassId} {n : Nat} {r : Int32 × (St × (St))} (C : nd_C p l s m args c A (dC, dI) cX16_takeable 3 RX16 ow_dm_X16_takeable (dk_X16 ac)) (K : nd_Ki p l e (headSpec ow_dm_X16_takeable ({ frames := 0, cells := 0, slots := 0, locals := 0 })).room s m args below meth c Q A (dC, dI) cX16_takeable .int (St × (St)) (dw_X16 a ac) r) {g20 : Int32 → Int32 → (St × (St)) → Option (Int32 × (St × (St)))} (J20 : dj_X16_takeable_20 p l e s m args below meth c Q A dC dI a ac g20 r) : dj_X16_takeable_20 p l e s m args below meth c Q A dC dI a ac (dF_X16_takeable_20 n g20) r := by
  obtain ⟨hlt, hx, hb, hml, hown, hts, hN, hA, hK⟩ := id C
  intro x1 x2 s0 H locs ls h hP hD hS hl
  unfold dF_X16_takeable_20 at h
  refine lv_iload_n hx hb dX16_takeable_20 rfl (lv_at hl 2 rfl) ?_
  refine lv_bipush (v := 16) hx hb dX16_takeable_21 (by decide) ?_
  refine lv_icmp_ge (tgt := 45) hx hb dX16_takeable_23 (by decide) (fun c3 => ?_) (fun c3 => ?_)
  · have h := nd_pos h c3
    exact (db_X16_takeable_45 C K) (x1) (x2) s0 _ _ _ h hP hD hS (lv_sub hl [0, 1, 2] rfl)
  · have h := nd_neg h c3
    refine lv_aload_n hx hb dX16_takeable_26 rfl (lv_at hl 0 rfl) ?_
    refine va_get (D := (dC, dI)) (ci := 17) (v := .ref (a 5)) (C := RX16) (T := TX16) (N := 56) hx hb hts hi_dm_X16_takeable_X16 hown hK hP 0 rfl rfl 13 (by decide) (hts (.fieldLink RX16 22 "TimeMachineModel$Machine" "pending" "[I") (List.mem_of_getElem? (i := 1) rfl)) (fun _ h9 => h9) rfl dX16_takeable_27 ?_
    refine lv_iload_n hx hb dX16_takeable_30 rfl (lv_at hl 1 rfl) ?_
    obtain ⟨i7, h⟩ := nd_ck_e h
    refine va_iald (i := x1) hx hb hK hP 5 4 rfl rfl i7 dX16_takeable_31 ?_
    refine lv_iload_n hx hb dX16_takeable_32 rfl (lv_at hl 2 rfl) ?_
    refine lv_ishr hx hb dX16_takeable_33 ?_
    refine lv_iconst (v := 1) hx hb dX16_takeable_34 (by decide) ?_
    refine lv_iand hx hb dX16_takeable_35 ?_
    refine lv_if_ne (tgt := 45) hx hb dX16_takeable_36 (by decide) (fun c8 => ?_) (fun c8 => ?_)
    · have h := nd_neg h c8
      exact (db_X16_takeable_45 C K) (x1) (x2) s0 _ _ _ h hP hD hS (lv_sub hl [0, 1, 2] rfl)
    · have h := nd_pos h c8
      obtain ⟨z9, ez9, h⟩ := nd_let_e h
      refine lv_iinc (v := z9) (lv' := [(2, .int z9), (0, .ref (a 0)), (1, .int x1)]) hx hb dX16_takeable_39 hl (k := 2) rfl (by rw [ez9]) (by decide) rfl (fun ls hl => ?_)
      refine lv_goto (tgt := 20) hx hb dX16_takeable_42 (by decide) ?_
      exact (J20) (x1) (z9) s0 _ _ _ h hP hD hS (lv_sub hl [1, 2, 0] rfl)
set_option maxHeartbeats 40000000 in
set_option maxRecDepth 100000 in
theorem db_X16_takeable_20 {p : Program} {l : Launch} {e : Env} {s : State} {m : MethodId} {args : Array Value} {below : List Frame} {meth : Method} {c : Code} {Q : State → Prop} {A : Nat → Prop} {dC : Nat → ClassId} {dI : Nat → Nat → Nat} {a : Nat → Nat} {ac : Nat → ClassId} {n : Nat} {r : Int32 × (St × (St))} (C : nd_C p l s m args c A (dC, dI) cX16_takeable 3 RX16 ow_dm_X16_takeable (dk_X16 ac)) (K : nd_Ki p l e (headSpec ow_dm_X16_takeable ({ frames := 0, cells := 0, slots := 0, locals := 0 })).room s m args below meth c Q A (dC, dI) cX16_takeable .int (St × (St)) (dw_X16 a ac) r) (k : Nat) : dj_X16_takeable_20 p l e s m args below meth c Q A dC dI a ac (df_X16_takeable_20 n k) r := by
  induction k with
  | zero => intro x1 x2 s0 H locs ls h; exact nomatch (show (none : Option (Int32 × (St × (St)))) = some r from h)
  | succ k ih => exact dB_X16_takeable_20 C K ih
set_option maxHeartbeats 40000000 in
set_option maxRecDepth 100000 in
theorem db_X16_takeable_0 {p : Program} {l : Launch} {e : Env} {s : State} {m : MethodId} {args : Array Value} {below : List Frame} {meth : Method} {c : Code} {Q : State → Prop} {A : Nat → Prop} {dC : Nat → ClassId} {dI : Nat → Nat → Nat} {a : Nat → Nat} {ac : Nat → ClassId} {n : Nat} {r : Int32 × (St × (St))} (C : nd_C p l s m args c A (dC, dI) cX16_takeable 3 RX16 ow_dm_X16_takeable (dk_X16 ac)) (K : nd_Ki p l e (headSpec ow_dm_X16_takeable ({ frames := 0, cells := 0, slots := 0, locals := 0 })).room s m args below meth c Q A (dC, dI) cX16_takeable .int (St × (St)) (dw_X16 a ac) r) : dj_X16_takeable_0 p l e s m args below meth c Q A dC dI a ac (df_X16_takeable_0 n) r := by
  obtain ⟨hlt, hx, hb, hml, hown, hts, hN, hA, hK⟩ := id C
  intro v0 s0 H locs ls h hP hD hS hl
  unfold df_X16_takeable_0 at h
  refine lv_aload_n hx hb dX16_takeable_0 rfl (lv_at hl 0 rfl) ?_
  refine va_get (D := (dC, dI)) (ci := 17) (v := .ref (a 5)) (C := RX16) (T := TX16) (N := 56) hx hb hts hi_dm_X16_takeable_X16 hown hK hP 0 rfl rfl 13 (by decide) (hts (.fieldLink RX16 22 "TimeMachineModel$Machine" "pending" "[I") (List.mem_of_getElem? (i := 1) rfl)) (fun _ h9 => h9) rfl dX16_takeable_1 ?_
  refine lv_iload_n hx hb dX16_takeable_4 rfl (lv_at hl 1 rfl) ?_
  obtain ⟨i1, h⟩ := nd_ck_e h
  refine va_iald (i := v0) hx hb hK hP 5 4 rfl rfl i1 dX16_takeable_5 ?_
  refine lv_bipush (v := 9) hx hb dX16_takeable_6 (by decide) ?_
  refine lv_ishr hx hb dX16_takeable_8 ?_
  refine lv_iconst (v := 1) hx hb dX16_takeable_9 (by decide) ?_
  refine lv_iand hx hb dX16_takeable_10 ?_
  refine lv_iconst (v := 1) hx hb dX16_takeable_11 (by decide) ?_
  refine lv_icmp_ne (tgt := 18) hx hb dX16_takeable_12 (by decide) (fun c2 => ?_) (fun c2 => ?_)
  · have h := nd_neg h c2
    refine lv_iconst (v := 1) hx hb dX16_takeable_18 (by decide) ?_
    refine lv_istore_n (lv' := [(2, .int 1), (0, .ref (a 0)), (1, .int v0)]) hx hb dX16_takeable_19 rfl hl (by decide) rfl (fun ls hl => ?_)
    exact (db_X16_takeable_20 C K n) (v0) (1) s0 _ _ _ h hP hD hS (lv_sub hl [1, 2, 0] rfl)
  · have h := nd_pos h c2
    refine lv_bipush (v := 9) hx hb dX16_takeable_15 (by decide) ?_
    exact K _ _ _ _ _ _ dX16_takeable_17 rfl (Option.some.inj h).symm hP hD hS
set_option maxHeartbeats 40000000 in
set_option maxRecDepth 100000 in
theorem dm_X16_takeable (l : Launch) (hlt : l.stackTraces = false) (dC : Nat → ClassId) (dI : Nat → Nat → Nat) (a : Nat → Nat) (ac : Nat → ClassId) (n : Nat) (v0 : Int32) (s0 : St × (St)) {r : Int32 × (St × (St))} (h : df_X16_takeable n v0 s0 = some r) (sz : Nat) : Met l yX16_takeable ow_dm_X16_takeable ({ frames := 0, cells := 0, slots := 0, locals := 0 }) (va_Pc [.ref (a 0), .int v0] (fun U => U.heap.size = sz ∧ va_P (dC, dI) vwCl (dw_X16 a ac s0) U.heap ∧ va_K (dC, dI) vwCl (dk_X16 ac) U ∧ va_D (fun _ => True) (dw_X16 a ac s0) ∧ nv_E dI (va_A (dw_X16 a ac s0) sz) U)) (va_Qi (fun x _ => x = r.1) (fun (_ : Unit) t => va_P (dC, dI) vwCl (dw_X16 a ac r.2) t.heap ∧ va_K (dC, dI) vwCl (dk_X16 ac) t ∧ va_D (va_A (dw_X16 a ac s0) sz) (dw_X16 a ac r.2)) (va_A (dw_X16 a ac s0) sz)) 0 0 (va_A (dw_X16 a ac s0) sz) := by
  refine Met.ofW (cc := cX16_takeable) (maxL := 3) (ret := (some .int)) (by decide) rfl ?_
  intro p e s m args below meth c s₁ B hml hv
  obtain ⟨rfl, hsz, hP, hK, hD0, hN⟩ := hv
  have hx := B.exec
  have hb := B.bytes
  have hr := B.returns
  have hts := atoms_spec (ws := ow_dm_X16_takeable) B.pre
  have hown : s.vm.findClass RX16 = some m.cls := findClass_of_methodNamed B.named
  have hlocks := B.notSynchronized
  subst hsz
  have hD := hD0.self (sz := s.heap.size)
  generalize hAe : va_A (dw_X16 a ac s0) s.heap.size = A at hD hN ⊢
  have hA : ∀ q : Nat, s.heap.size ≤ q → A q := fun q h => by rw [← hAe]; exact Or.inr h
  have hl := lv_entry ([.ref (a 0), .int v0]) (n := 3) (Nat.le_of_ble_eq_true rfl)
  rw [lg_entry_eq]
  generalize (lg_sl ([.ref (a 0), .int v0]) ++ List.replicate (3 - (lg_sl ([.ref (a 0), .int v0])).length) Slot.unset).toArray = ls at hl ⊢
  have hl : lv_has ls 3 [(0, .ref (a 0)), (1, .int v0)] := hl
  exact db_X16_takeable_0 (dC := dC) (dI := dI) (a := a) (ac := ac) (n := n) (r := r) ⟨hlt, hx, hb, hml, hown, hts, hN, hA, hK⟩ (fun pc v τ H locs ls d z er hP hD hS => by subst er; exact W.zret (v := v) hx hb hr z (fun t ht hW => ⟨⟨v, (), rfl, rfl, by rw [ht]; exact hP, va_K.moved hW.alike hK, hD⟩, hS.F ht⟩) hS.2.2 d) v0 s0 _ _ _ h hP hD va_S.rf (lv_sub hl [0, 1] rfl)
def ow_dm_X16_settle : List Cond := Cond.code yX16_settle cX16_settle 2 none :: ([Cond.fieldLink RX16 141 "TimeMachineModel$Machine" "current" "I", Cond.methodLink RX16 275 yX16_turn, Cond.instanceMethod yX16_turn, Cond.selects RX16 yX16_turn yX16_turn, Cond.initialized RX16, Cond.fieldLink RX16 13 "TimeMachineModel$Machine" "state" "[I", Cond.methodLink RX16 268 yX16_waitsStill, Cond.instanceMethod yX16_waitsStill, Cond.selects RX16 yX16_waitsStill yX16_waitsStill, Cond.fieldLink RX16 31 "TimeMachineModel$Machine" "calling" "[I", Cond.methodLink RX16 272 yX16_takeable, Cond.instanceMethod yX16_takeable, Cond.selects RX16 yX16_takeable yX16_takeable] ++ (u_ws RX16 TX16 56 ++ (ow_dm_X16_turn ++ (ow_dm_X16_waitsStill ++ (ow_dm_X16_takeable ++ [])))))
theorem gd_dm_X16_settle : ∀ w ∈ ow_dm_X16_settle, (w.onTables && w.keeps) = true ∨ ∃ ty, w = Cond.arrayClass ty := List.forall_mem_cons.mpr ⟨good_of_word rfl, List.forall_mem_append.mpr ⟨fun w h => good_of_word (List.all_eq_true.mp (by decide +kernel) w h), List.forall_mem_append.mpr ⟨gu_X16, List.forall_mem_append.mpr ⟨gd_dm_X16_turn, List.forall_mem_append.mpr ⟨gd_dm_X16_waitsStill, List.forall_mem_append.mpr ⟨gd_dm_X16_takeable, fun _ h => nomatch h⟩⟩⟩⟩⟩⟩
theorem hi_dm_X16_settle_X16 : ∀ w ∈ u_ws RX16 TX16 56, w ∈ ow_dm_X16_settle := fun w h => List.mem_cons_of_mem _ (List.mem_append_right _ (List.mem_append_left _ h))
theorem gi_dm_X16_settle_0 : GoodIn ow_dm_X16_settle (wsV RX16 275 RX16 yX16_turn ow_dm_X16_turn) := goodIn_app (goodIn_of _ (by decide +kernel)) (fun w h => ⟨List.mem_cons_of_mem _ (List.mem_append_right _ (List.mem_append_right _ (List.mem_append_left _ h))), gd_dm_X16_turn w h⟩)
theorem gi_dm_X16_settle_1 : GoodIn ow_dm_X16_settle (wsV RX16 268 RX16 yX16_waitsStill ow_dm_X16_waitsStill) := goodIn_app (goodIn_of _ (by decide +kernel)) (fun w h => ⟨List.mem_cons_of_mem _ (List.mem_append_right _ (List.mem_append_right _ (List.mem_append_right _ (List.mem_append_left _ h)))), gd_dm_X16_waitsStill w h⟩)
theorem gi_dm_X16_settle_2 : GoodIn ow_dm_X16_settle (wsV RX16 272 RX16 yX16_takeable ow_dm_X16_takeable) := goodIn_app (goodIn_of _ (by decide +kernel)) (fun w h => ⟨List.mem_cons_of_mem _ (List.mem_append_right _ (List.mem_append_right _ (List.mem_append_right _ (List.mem_append_right _ (List.mem_append_left _ h))))), gd_dm_X16_takeable w h⟩)
def dj_X16_settle_79 (p : Program) (l : Launch) (e : Env) (s : State) (m : MethodId) (args : Array Value) (below : List Frame) (meth : Method) (c : Code) (Q : State → Prop) (A : Nat → Prop) (dC : Nat → ClassId) (dI : Nat → Nat → Nat) (a : Nat → Nat) (ac : Nat → ClassId) (g : (St × (St)) → Option (St × (St))) (r : St × (St)) : Prop := ∀ (s0 : St × (St)) (H : Heap) (locs : List Loc) (ls : Array Slot), g s0 = some r → va_P (dC, dI) vwCl (dw_X16 a ac s0) H → va_D A (dw_X16 a ac s0) → va_S A s.heap H locs → lv_has ls 2 [(0, .ref (a 0))] → W p l e (headSpec ow_dm_X16_settle ({ frames := 3, cells := 0, slots := 0, locals := 71 })).room s m args below meth c H locs 0 0 Q (F0 m 79 ls [])
def dj_X16_settle_51 (p : Program) (l : Launch) (e : Env) (s : State) (m : MethodId) (args : Array Value) (below : List Frame) (meth : Method) (c : Code) (Q : State → Prop) (A : Nat → Prop) (dC : Nat → ClassId) (dI : Nat → Nat → Nat) (a : Nat → Nat) (ac : Nat → ClassId) (g : Int32 → (St × (St)) → Option (St × (St))) (r : St × (St)) : Prop := ∀ (x1 : Int32) (s0 : St × (St)) (H : Heap) (locs : List Loc) (ls : Array Slot), g x1 s0 = some r → va_P (dC, dI) vwCl (dw_X16 a ac s0) H → va_D A (dw_X16 a ac s0) → va_S A s.heap H locs → lv_has ls 2 [(0, .ref (a 0)), (1, .int x1)] → W p l e (headSpec ow_dm_X16_settle ({ frames := 3, cells := 0, slots := 0, locals := 71 })).room s m args below meth c H locs 0 0 Q (F0 m 51 ls [])
def dj_X16_settle_37 (p : Program) (l : Launch) (e : Env) (s : State) (m : MethodId) (args : Array Value) (below : List Frame) (meth : Method) (c : Code) (Q : State → Prop) (A : Nat → Prop) (dC : Nat → ClassId) (dI : Nat → Nat → Nat) (a : Nat → Nat) (ac : Nat → ClassId) (g : Int32 → (St × (St)) → Option (St × (St))) (r : St × (St)) : Prop := ∀ (x1 : Int32) (s0 : St × (St)) (H : Heap) (locs : List Loc) (ls : Array Slot), g x1 s0 = some r → va_P (dC, dI) vwCl (dw_X16 a ac s0) H → va_D A (dw_X16 a ac s0) → va_S A s.heap H locs → lv_has ls 2 [(0, .ref (a 0)), (1, .int x1)] → W p l e (headSpec ow_dm_X16_settle ({ frames := 3, cells := 0, slots := 0, locals := 71 })).room s m args below meth c H locs 0 0 Q (F0 m 37 ls [])
def dj_X16_settle_2 (p : Program) (l : Launch) (e : Env) (s : State) (m : MethodId) (args : Array Value) (below : List Frame) (meth : Method) (c : Code) (Q : State → Prop) (A : Nat → Prop) (dC : Nat → ClassId) (dI : Nat → Nat → Nat) (a : Nat → Nat) (ac : Nat → ClassId) (g : Int32 → (St × (St)) → Option (St × (St))) (r : St × (St)) : Prop := ∀ (x1 : Int32) (s0 : St × (St)) (H : Heap) (locs : List Loc) (ls : Array Slot), g x1 s0 = some r → va_P (dC, dI) vwCl (dw_X16 a ac s0) H → va_D A (dw_X16 a ac s0) → va_S A s.heap H locs → lv_has ls 2 [(0, .ref (a 0)), (1, .int x1)] → W p l e (headSpec ow_dm_X16_settle ({ frames := 3, cells := 0, slots := 0, locals := 71 })).room s m args below meth c H locs 0 0 Q (F0 m 2 ls [])
def dj_X16_settle_0 (p : Program) (l : Launch) (e : Env) (s : State) (m : MethodId) (args : Array Value) (below : List Frame) (meth : Method) (c : Code) (Q : State → Prop) (A : Nat → Prop) (dC : Nat → ClassId) (dI : Nat → Nat → Nat) (a : Nat → Nat) (ac : Nat → ClassId) (g : (St × (St)) → Option (St × (St))) (r : St × (St)) : Prop := ∀ (s0 : St × (St)) (H : Heap) (locs : List Loc) (ls : Array Slot), g s0 = some r → va_P (dC, dI) vwCl (dw_X16 a ac s0) H → va_D A (dw_X16 a ac s0) → va_S A s.heap H locs → lv_has ls 2 [(0, .ref (a 0))] → W p l e (headSpec ow_dm_X16_settle ({ frames := 3, cells := 0, slots := 0, locals := 71 })).room s m args below meth c H locs 0 0 Q (F0 m 0 ls [])
set_option maxHeartbeats 40000000 in
set_option maxRecDepth 100000 in
theorem db_X16_settle_79 {p : Program} {l : Launch} {e : Env} {s : State} {m : MethodId} {args : Array Value} {below : List Frame} {meth : Method} {c : Code} {Q : State → Prop} {A : Nat → Prop} {dC : Nat → ClassId} {dI : Nat → Nat → Nat} {a : Nat → Nat} {ac : Nat → ClassId} {n : Nat} {r : St × (St)} (C : nd_C p l s m args c A (dC, dI) cX16_settle 2 RX16 ow_dm_X16_settle (dk_X16 ac)) (K : nd_Kv p l e (headSpec ow_dm_X16_settle ({ frames := 3, cells := 0, slots := 0, locals := 71 })).room s m args below meth c Q A (dC, dI) cX16_settle (St × (St)) (dw_X16 a ac) r) : dj_X16_settle_79 p l e s m args below meth c Q A dC dI a ac (df_X16_settle_79 n) r := by
  obtain ⟨hlt, hx, hb, hml, hown, hts, hN, hA, hK⟩ := id C
  intro s0 H locs ls h hP hD hS hl
  unfold df_X16_settle_79 at h
  refine lv_aload_n hx hb dX16_settle_79 rfl (lv_at hl 0 rfl) ?_
  obtain ⟨s4, hq, h⟩ := nd_b1_e h
  have hPc := hP
  have hDc := hD
  have hKc := hK
  have hFc := nd_rs hD hS hA
  refine nd_cVv (As := []) (rest := []) (w' := dw_X16 a ac s4) ⟨hx, hb, hml, hown, hts⟩ (fun sz => dm_X16_turn l hlt dC dI a ac n  s0 hq sz) (cwV 0 hts gi_dm_X16_settle_0 rfl rfl rfl (by decide +kernel) ⟨Nat.le_of_ble_eq_true rfl, Nat.le_of_ble_eq_true rfl⟩) hPc hDc hKc hS hA hN (va_recv hKc hPc (ci := 17) (q0 := 0) rfl rfl) rfl hl.1 rfl (Nat.le_of_ble_eq_true rfl) dX16_settle_80 (fun H locs hP1 hD1 hk1 hS => ?_)
  have hP := hP1
  have hD := hD1.weaken (fun k q _ h => hFc q.1 h)
  exact K _ _ _ _ _ dX16_settle_83 (Option.some.inj h).symm hP hD hS
set_option maxHeartbeats 40000000 in
set_option maxRecDepth 100000 in
theorem db_X16_settle_51 {p : Program} {l : Launch} {e : Env} {s : State} {m : MethodId} {args : Array Value} {below : List Frame} {meth : Method} {c : Code} {Q : State → Prop} {A : Nat → Prop} {dC : Nat → ClassId} {dI : Nat → Nat → Nat} {a : Nat → Nat} {ac : Nat → ClassId} {n : Nat} {r : St × (St)} (C : nd_C p l s m args c A (dC, dI) cX16_settle 2 RX16 ow_dm_X16_settle (dk_X16 ac)) (K : nd_Kv p l e (headSpec ow_dm_X16_settle ({ frames := 3, cells := 0, slots := 0, locals := 71 })).room s m args below meth c Q A (dC, dI) cX16_settle (St × (St)) (dw_X16 a ac) r) {g2 : Int32 → (St × (St)) → Option (St × (St))} (J2 : dj_X16_settle_2 p l e s m args below meth c Q A dC dI a ac g2 r) : dj_X16_settle_51 p l e s m args below meth c Q A dC dI a ac (df_X16_settle_51 n g2) r := by
  obtain ⟨hlt, hx, hb, hml, hown, hts, hN, hA, hK⟩ := id C
  intro x1 s0 H locs ls h hP hD hS hl
  unfold df_X16_settle_51 at h
  obtain ⟨z10, ez10, h⟩ := nd_let_e h
  refine lv_iinc (v := z10) (lv' := [(1, .int z10), (0, .ref (a 0))]) hx hb dX16_settle_51 hl (k := 1) rfl (by rw [ez10]) (by decide) rfl (fun ls hl => ?_)
  refine lv_goto (tgt := 2) hx hb dX16_settle_54 (by decide) ?_
  exact (J2) (z10) s0 _ _ _ h hP hD hS (lv_sub hl [1, 0] rfl)
set_option maxHeartbeats 40000000 in
set_option maxRecDepth 100000 in
theorem db_X16_settle_37 {p : Program} {l : Launch} {e : Env} {s : State} {m : MethodId} {args : Array Value} {below : List Frame} {meth : Method} {c : Code} {Q : State → Prop} {A : Nat → Prop} {dC : Nat → ClassId} {dI : Nat → Nat → Nat} {a : Nat → Nat} {ac : Nat → ClassId} {n : Nat} {r : St × (St)} (C : nd_C p l s m args c A (dC, dI) cX16_settle 2 RX16 ow_dm_X16_settle (dk_X16 ac)) (K : nd_Kv p l e (headSpec ow_dm_X16_settle ({ frames := 3, cells := 0, slots := 0, locals := 71 })).room s m args below meth c Q A (dC, dI) cX16_settle (St × (St)) (dw_X16 a ac) r) {g2 : Int32 → (St × (St)) → Option (St × (St))} (J2 : dj_X16_settle_2 p l e s m args below meth c Q A dC dI a ac g2 r) : dj_X16_settle_37 p l e s m args below meth c Q A dC dI a ac (df_X16_settle_37 n g2) r := by
  obtain ⟨hlt, hx, hb, hml, hown, hts, hN, hA, hK⟩ := id C
  intro x1 s0 H locs ls h hP hD hS hl
  unfold df_X16_settle_37 at h
  refine lv_aload_n hx hb dX16_settle_37 rfl (lv_at hl 0 rfl) ?_
  refine va_get (D := (dC, dI)) (ci := 17) (v := .ref (a 2)) (C := RX16) (T := TX16) (N := 56) hx hb hts hi_dm_X16_settle_X16 hown hK hP 0 rfl rfl 10 (by decide) (hts (.fieldLink RX16 13 "TimeMachineModel$Machine" "state" "[I") (List.mem_of_getElem? (i := 6) rfl)) (fun _ h9 => h9) rfl dX16_settle_38 ?_
  refine lv_iload_n hx hb dX16_settle_41 rfl (lv_at hl 1 rfl) ?_
  refine lv_iconst (v := 1) hx hb dX16_settle_42 (by decide) ?_
  obtain ⟨i15, h⟩ := nd_ck_e h
  refine va_iast (i := x1) (x := 1) hx hb hK hP hD hS 2 1 rfl rfl i15 dX16_settle_43 (fun H locs hP hD hS => ?_)
  obtain ⟨s16, es16, h⟩ := nd_let_e h
  have hP : va_P (dC, dI) vwCl (dw_X16 a ac s16) H := by rw [es16]; exact hP
  have hD : va_D A (dw_X16 a ac s16) := by rw [es16]; exact hD
  refine lv_aload_n hx hb dX16_settle_44 rfl (lv_at hl 0 rfl) ?_
  refine va_get (D := (dC, dI)) (ci := 17) (v := .ref (a 8)) (C := RX16) (T := TX16) (N := 56) hx hb hts hi_dm_X16_settle_X16 hown hK hP 0 rfl rfl 16 (by decide) (hts (.fieldLink RX16 31 "TimeMachineModel$Machine" "calling" "[I") (List.mem_of_getElem? (i := 10) rfl)) (fun _ h9 => h9) rfl dX16_settle_45 ?_
  refine lv_iload_n hx hb dX16_settle_48 rfl (lv_at hl 1 rfl) ?_
  refine lv_iconst (v := (-1)) hx hb dX16_settle_49 (by decide) ?_
  obtain ⟨i17, h⟩ := nd_ck_e h
  refine va_iast (i := x1) (x := (-1)) hx hb hK hP hD hS 8 7 rfl rfl i17 dX16_settle_50 (fun H locs hP hD hS => ?_)
  obtain ⟨s18, es18, h⟩ := nd_let_e h
  have hP : va_P (dC, dI) vwCl (dw_X16 a ac s18) H := by rw [es18]; exact hP
  have hD : va_D A (dw_X16 a ac s18) := by rw [es18]; exact hD
  exact (db_X16_settle_51 C K J2) (x1) s18 _ _ _ h hP hD hS (lv_sub hl [0, 1] rfl)
set_option maxHeartbeats 40000000 in
set_option maxRecDepth 100000 in
theorem dB_X16_settle_2 {p : Program} {l : Launch} {e : Env} {s : State} {m : MethodId} {args : Array Value} {below : List Frame} {meth : Method} {c : Code} {Q : State → Prop} {A : Nat → Prop} {dC : Nat → ClassId} {dI : Nat → Nat → Nat} {a : Nat → Nat} {ac : Nat → ClassId} {n : Nat} {r : St × (St)} (C : nd_C p l s m args c A (dC, dI) cX16_settle 2 RX16 ow_dm_X16_settle (dk_X16 ac)) (K : nd_Kv p l e (headSpec ow_dm_X16_settle ({ frames := 3, cells := 0, slots := 0, locals := 71 })).room s m args below meth c Q A (dC, dI) cX16_settle (St × (St)) (dw_X16 a ac) r) {g2 : Int32 → (St × (St)) → Option (St × (St))} (J2 : dj_X16_settle_2 p l e s m args below meth c Q A dC dI a ac g2 r) : dj_X16_settle_2 p l e s m args below meth c Q A dC dI a ac (dF_X16_settle_2 n g2) r := by
  obtain ⟨hlt, hx, hb, hml, hown, hts, hN, hA, hK⟩ := id C
  intro x1 s0 H locs ls h hP hD hS hl
  unfold dF_X16_settle_2 at h
  refine lv_iload_n hx hb dX16_settle_2 rfl (lv_at hl 1 rfl) ?_
  refine lv_bipush (v := 16) hx hb dX16_settle_3 (by decide) ?_
  refine lv_icmp_ge (tgt := 57) hx hb dX16_settle_5 (by decide) (fun c1 => ?_) (fun c1 => ?_)
  · have h := nd_pos h c1
    refine lv_aload_n hx hb dX16_settle_57 rfl (lv_at hl 0 rfl) ?_
    refine va_get (D := (dC, dI)) (ci := 17) (v := .int (sI s0.1 1)) (C := RX16) (T := TX16) (N := 56) hx hb hts hi_dm_X16_settle_X16 hown hK hP 0 rfl rfl 2 (by decide) (hts (.fieldLink RX16 141 "TimeMachineModel$Machine" "current" "I") (List.mem_of_getElem? (i := 1) rfl)) (fun _ h9 => h9) rfl dX16_settle_58 ?_
    refine lv_iconst (v := (-1)) hx hb dX16_settle_61 (by decide) ?_
    refine lv_icmp_eq (tgt := 79) hx hb dX16_settle_62 (by decide) (fun c2 => ?_) (fun c2 => ?_)
    · have h := nd_pos h c2
      exact (db_X16_settle_79 C K)  s0 _ _ _ h hP hD hS (lv_sub hl [0] rfl)
    · have h := nd_neg h c2
      refine lv_aload_n hx hb dX16_settle_65 rfl (lv_at hl 0 rfl) ?_
      refine va_get (D := (dC, dI)) (ci := 17) (v := .ref (a 2)) (C := RX16) (T := TX16) (N := 56) hx hb hts hi_dm_X16_settle_X16 hown hK hP 0 rfl rfl 10 (by decide) (hts (.fieldLink RX16 13 "TimeMachineModel$Machine" "state" "[I") (List.mem_of_getElem? (i := 6) rfl)) (fun _ h9 => h9) rfl dX16_settle_66 ?_
      refine lv_aload_n hx hb dX16_settle_69 rfl (lv_at hl 0 rfl) ?_
      refine va_get (D := (dC, dI)) (ci := 17) (v := .int (sI s0.1 1)) (C := RX16) (T := TX16) (N := 56) hx hb hts hi_dm_X16_settle_X16 hown hK hP 0 rfl rfl 2 (by decide) (hts (.fieldLink RX16 141 "TimeMachineModel$Machine" "current" "I") (List.mem_of_getElem? (i := 1) rfl)) (fun _ h9 => h9) rfl dX16_settle_70 ?_
      obtain ⟨i6, h⟩ := nd_ck_e h
      refine va_iald (i := (sI s0.1 1)) hx hb hK hP 2 1 rfl rfl i6 dX16_settle_73 ?_
      refine lv_iconst (v := 1) hx hb dX16_settle_74 (by decide) ?_
      refine lv_icmp_ne (tgt := 79) hx hb dX16_settle_75 (by decide) (fun c7 => ?_) (fun c7 => ?_)
      · have h := nd_neg h c7
        exact (db_X16_settle_79 C K)  s0 _ _ _ h hP hD hS (lv_sub hl [0] rfl)
      · have h := nd_pos h c7
        exact K _ _ _ _ _ dX16_settle_78 (Option.some.inj h).symm hP hD hS
  · have h := nd_neg h c1
    refine lv_aload_n hx hb dX16_settle_8 rfl (lv_at hl 0 rfl) ?_
    refine va_get (D := (dC, dI)) (ci := 17) (v := .ref (a 2)) (C := RX16) (T := TX16) (N := 56) hx hb hts hi_dm_X16_settle_X16 hown hK hP 0 rfl rfl 10 (by decide) (hts (.fieldLink RX16 13 "TimeMachineModel$Machine" "state" "[I") (List.mem_of_getElem? (i := 6) rfl)) (fun _ h9 => h9) rfl dX16_settle_9 ?_
    refine lv_iload_n hx hb dX16_settle_12 rfl (lv_at hl 1 rfl) ?_
    obtain ⟨i8, h⟩ := nd_ck_e h
    refine va_iald (i := x1) hx hb hK hP 2 1 rfl rfl i8 dX16_settle_13 ?_
    refine lv_iconst (v := 2) hx hb dX16_settle_14 (by decide) ?_
    refine lv_icmp_ne (tgt := 51) hx hb dX16_settle_15 (by decide) (fun c9 => ?_) (fun c9 => ?_)
    · have h := nd_neg h c9
      exact (db_X16_settle_51 C K J2) (x1) s0 _ _ _ h hP hD hS (lv_sub hl [0, 1] rfl)
    · have h := nd_pos h c9
      refine lv_aload_n hx hb dX16_settle_18 rfl (lv_at hl 0 rfl) ?_
      refine lv_iload_n hx hb dX16_settle_19 rfl (lv_at hl 1 rfl) ?_
      obtain ⟨q11, s12, hq, h⟩ := nd_b2_e h
      have hPc := hP
      have hDc := hD
      have hKc := hK
      have hFc := nd_rs hD hS hA
      refine nd_cVi (As := [.int x1]) (rest := []) (q := q11) (w' := dw_X16 a ac s12) ⟨hx, hb, hml, hown, hts⟩ (fun sz => dm_X16_waitsStill l hlt dC dI a ac n (x1) s0 hq sz) (cwV 1 hts gi_dm_X16_settle_1 rfl rfl rfl (by decide +kernel) ⟨Nat.le_of_ble_eq_true rfl, Nat.le_of_ble_eq_true rfl⟩) hPc hDc hKc hS hA hN (va_recv hKc hPc (ci := 17) (q0 := 0) rfl rfl) rfl hl.1 rfl (Nat.le_of_ble_eq_true rfl) dX16_settle_20 (fun H locs hP1 hD1 hk1 hS => ?_)
      have hP := hP1
      have hD := hD1.weaken (fun k q _ h => hFc q.1 h)
      refine lv_if_eq (tgt := 37) hx hb dX16_settle_23 (by decide) (fun c14 => ?_) (fun c14 => ?_)
      · have h := nd_pos h c14
        exact (db_X16_settle_37 C K J2) (x1) s12 _ _ _ h hP hD hS (lv_sub hl [0, 1] rfl)
      · have h := nd_neg h c14
        refine lv_aload_n hx hb dX16_settle_26 rfl (lv_at hl 0 rfl) ?_
        refine lv_iload_n hx hb dX16_settle_27 rfl (lv_at hl 1 rfl) ?_
        obtain ⟨q19, s20, hq, h⟩ := nd_b2_e h
        have hPc := hP
        have hDc := hD
        have hKc := hK
        have hFc := nd_rs hD hS hA
        refine nd_cVi (As := [.int x1]) (rest := []) (q := q19) (w' := dw_X16 a ac s20) ⟨hx, hb, hml, hown, hts⟩ (fun sz => dm_X16_takeable l hlt dC dI a ac n (x1) s12 hq sz) (cwV 1 hts gi_dm_X16_settle_2 rfl rfl rfl (by decide +kernel) ⟨Nat.le_of_ble_eq_true rfl, Nat.le_of_ble_eq_true rfl⟩) hPc hDc hKc hS hA hN (va_recv hKc hPc (ci := 17) (q0 := 0) rfl rfl) rfl hl.1 rfl (Nat.le_of_ble_eq_true rfl) dX16_settle_28 (fun H locs hP1 hD1 hk1 hS => ?_)
        have hP := hP1
        have hD := hD1.weaken (fun k q _ h => hFc q.1 h)
        refine lv_if_ne (tgt := 37) hx hb dX16_settle_31 (by decide) (fun c22 => ?_) (fun c22 => ?_)
        · have h := nd_neg h c22
          exact (db_X16_settle_37 C K J2) (x1) s20 _ _ _ h hP hD hS (lv_sub hl [0, 1] rfl)
        · have h := nd_pos h c22
          refine lv_goto (tgt := 51) hx hb dX16_settle_34 (by decide) ?_
          exact (db_X16_settle_51 C K J2) (x1) s20 _ _ _ h hP hD hS (lv_sub hl [0, 1] rfl)
set_option maxHeartbeats 40000000 in
set_option maxRecDepth 100000 in
theorem db_X16_settle_2 {p : Program} {l : Launch} {e : Env} {s : State} {m : MethodId} {args : Array Value} {below : List Frame} {meth : Method} {c : Code} {Q : State → Prop} {A : Nat → Prop} {dC : Nat → ClassId} {dI : Nat → Nat → Nat} {a : Nat → Nat} {ac : Nat → ClassId} {n : Nat} {r : St × (St)} (C : nd_C p l s m args c A (dC, dI) cX16_settle 2 RX16 ow_dm_X16_settle (dk_X16 ac)) (K : nd_Kv p l e (headSpec ow_dm_X16_settle ({ frames := 3, cells := 0, slots := 0, locals := 71 })).room s m args below meth c Q A (dC, dI) cX16_settle (St × (St)) (dw_X16 a ac) r) (k : Nat) : dj_X16_settle_2 p l e s m args below meth c Q A dC dI a ac (df_X16_settle_2 n k) r := by
  induction k with
  | zero => intro x1 s0 H locs ls h; exact nomatch (show (none : Option (St × (St))) = some r from h)
  | succ k ih => exact dB_X16_settle_2 C K ih
set_option maxHeartbeats 40000000 in
set_option maxRecDepth 100000 in
theorem db_X16_settle_0 {p : Program} {l : Launch} {e : Env} {s : State} {m : MethodId} {args : Array Value} {below : List Frame} {meth : Method} {c : Code} {Q : State → Prop} {A : Nat → Prop} {dC : Nat → ClassId} {dI : Nat → Nat → Nat} {a : Nat → Nat} {ac : Nat → ClassId} {n : Nat} {r : St × (St)} (C : nd_C p l s m args c A (dC, dI) cX16_settle 2 RX16 ow_dm_X16_settle (dk_X16 ac)) (K : nd_Kv p l e (headSpec ow_dm_X16_settle ({ frames := 3, cells := 0, slots := 0, locals := 71 })).room s m args below meth c Q A (dC, dI) cX16_settle (St × (St)) (dw_X16 a ac) r) : dj_X16_settle_0 p l e s m args below meth c Q A dC dI a ac (df_X16_settle_0 n) r := by
  obtain ⟨hlt, hx, hb, hml, hown, hts, hN, hA, hK⟩ := id C
  intro s0 H locs ls h hP hD hS hl
  unfold df_X16_settle_0 at h
  refine lv_iconst (v := 0) hx hb dX16_settle_0 (by decide) ?_
  refine lv_istore_n (lv' := [(1, .int 0), (0, .ref (a 0))]) hx hb dX16_settle_1 rfl hl (by decide) rfl (fun ls hl => ?_)
  exact (db_X16_settle_2 C K n) (0) s0 _ _ _ h hP hD hS (lv_sub hl [1, 0] rfl)
set_option maxHeartbeats 40000000 in
set_option maxRecDepth 100000 in
theorem dm_X16_settle (l : Launch) (hlt : l.stackTraces = false) (dC : Nat → ClassId) (dI : Nat → Nat → Nat) (a : Nat → Nat) (ac : Nat → ClassId) (n : Nat) (s0 : St × (St)) {r : St × (St)} (h : df_X16_settle n s0 = some r) (sz : Nat) : Met l yX16_settle ow_dm_X16_settle ({ frames := 3, cells := 0, slots := 0, locals := 71 }) (va_Pc [.ref (a 0)] (fun U => U.heap.size = sz ∧ va_P (dC, dI) vwCl (dw_X16 a ac s0) U.heap ∧ va_K (dC, dI) vwCl (dk_X16 ac) U ∧ va_D (fun _ => True) (dw_X16 a ac s0) ∧ nv_E dI (va_A (dw_X16 a ac s0) sz) U)) (va_Qv (fun _ => True) (fun (_ : Unit) t => va_P (dC, dI) vwCl (dw_X16 a ac r) t.heap ∧ va_K (dC, dI) vwCl (dk_X16 ac) t ∧ va_D (va_A (dw_X16 a ac s0) sz) (dw_X16 a ac r)) (va_A (dw_X16 a ac s0) sz)) 0 0 (va_A (dw_X16 a ac s0) sz) := by
  refine Met.ofW (cc := cX16_settle) (maxL := 2) (ret := none) (by decide) rfl ?_
  intro p e s m args below meth c s₁ B hml hv
  obtain ⟨rfl, hsz, hP, hK, hD0, hN⟩ := hv
  have hx := B.exec
  have hb := B.bytes
  have hr := B.returns
  have hts := atoms_spec (ws := ow_dm_X16_settle) B.pre
  have hown : s.vm.findClass RX16 = some m.cls := findClass_of_methodNamed B.named
  have hlocks := B.notSynchronized
  subst hsz
  have hD := hD0.self (sz := s.heap.size)
  generalize hAe : va_A (dw_X16 a ac s0) s.heap.size = A at hD hN ⊢
  have hA : ∀ q : Nat, s.heap.size ≤ q → A q := fun q h => by rw [← hAe]; exact Or.inr h
  have hl := lv_entry ([.ref (a 0)]) (n := 2) (Nat.le_of_ble_eq_true rfl)
  rw [lg_entry_eq]
  generalize (lg_sl ([.ref (a 0)]) ++ List.replicate (2 - (lg_sl ([.ref (a 0)])).length) Slot.unset).toArray = ls at hl ⊢
  have hl : lv_has ls 2 [(0, .ref (a 0))] := hl
  exact db_X16_settle_0 (dC := dC) (dI := dI) (a := a) (ac := ac) (n := n) (r := r) ⟨hlt, hx, hb, hml, hown, hts, hN, hA, hK⟩ (fun pc τ H locs ls d er hP hD hS => by subst er; exact W.vret hx hb hr (fun t ht hW => ⟨⟨(), rfl, trivial, by rw [ht]; exact hP, va_K.moved hW.alike hK, hD⟩, hS.F ht⟩) hS.2.2 d) s0 _ _ _ h hP hD va_S.rf (lv_sub hl [0] rfl)
def ow_dm_X16_begin : List Cond := Cond.code yX16_begin cX16_begin 3 none :: ([Cond.fieldLink RX16 13 "TimeMachineModel$Machine" "state" "[I", Cond.fieldLink RX16 16 "TimeMachineModel$Machine" "parent" "[I", Cond.fieldLink RX16 31 "TimeMachineModel$Machine" "calling" "[I", Cond.fieldLink RX16 19 "TimeMachineModel$Machine" "ending" "[I", Cond.fieldLink RX16 22 "TimeMachineModel$Machine" "pending" "[I", Cond.fieldLink RX16 25 "TimeMachineModel$Machine" "heapBegin" "[I", Cond.fieldLink RX16 28 "TimeMachineModel$Machine" "heapEnd" "[I", Cond.fieldLink RX16 45 "TimeMachineModel$Machine" "place" "[I", Cond.fieldLink RX16 51 "TimeMachineModel$Machine" "savedPlace" "[I", Cond.fieldLink RX16 34 "TimeMachineModel$Machine" "within" "[Z", Cond.fieldLink RX16 38 "TimeMachineModel$Machine" "since" "[J", Cond.constantLong RX16 175 (-1), Cond.fieldLink RX16 54 "TimeMachineModel$Machine" "handler" "[I", Cond.fieldLink RX16 57 "TimeMachineModel$Machine" "descriptor" "[I", Cond.fieldLink RX16 42 "TimeMachineModel$Machine" "x" "[I", Cond.fieldLink RX16 48 "TimeMachineModel$Machine" "saved" "[I"] ++ (u_ws RX16 TX16 56 ++ []))
theorem gd_dm_X16_begin : ∀ w ∈ ow_dm_X16_begin, (w.onTables && w.keeps) = true ∨ ∃ ty, w = Cond.arrayClass ty := List.forall_mem_cons.mpr ⟨good_of_word rfl, List.forall_mem_append.mpr ⟨fun w h => good_of_word (List.all_eq_true.mp (by decide +kernel) w h), List.forall_mem_append.mpr ⟨gu_X16, fun _ h => nomatch h⟩⟩⟩
theorem hi_dm_X16_begin_X16 : ∀ w ∈ u_ws RX16 TX16 56, w ∈ ow_dm_X16_begin := fun w h => List.mem_cons_of_mem _ (List.mem_append_right _ (List.mem_append_left _ h))
def dj_X16_begin_119 (p : Program) (l : Launch) (e : Env) (s : State) (m : MethodId) (args : Array Value) (below : List Frame) (meth : Method) (c : Code) (Q : State → Prop) (A : Nat → Prop) (dC : Nat → ClassId) (dI : Nat → Nat → Nat) (a : Nat → Nat) (ac : Nat → ClassId) (g : Int32 → Int32 → (St × (St)) → Option (St × (St))) (r : St × (St)) : Prop := ∀ (x1 : Int32) (x2 : Int32) (s0 : St × (St)) (H : Heap) (locs : List Loc) (ls : Array Slot), g x1 x2 s0 = some r → va_P (dC, dI) vwCl (dw_X16 a ac s0) H → va_D A (dw_X16 a ac s0) → va_S A s.heap H locs → lv_has ls 3 [(0, .ref (a 0)), (1, .int x1), (2, .int x2)] → W p l e (headSpec ow_dm_X16_begin ({ frames := 0, cells := 0, slots := 0, locals := 0 })).room s m args below meth c H locs 0 0 Q (F0 m 119 ls [])
def dj_X16_begin_81 (p : Program) (l : Launch) (e : Env) (s : State) (m : MethodId) (args : Array Value) (below : List Frame) (meth : Method) (c : Code) (Q : State → Prop) (A : Nat → Prop) (dC : Nat → ClassId) (dI : Nat → Nat → Nat) (a : Nat → Nat) (ac : Nat → ClassId) (g : Int32 → Int32 → (St × (St)) → Option (St × (St))) (r : St × (St)) : Prop := ∀ (x1 : Int32) (x2 : Int32) (s0 : St × (St)) (H : Heap) (locs : List Loc) (ls : Array Slot), g x1 x2 s0 = some r → va_P (dC, dI) vwCl (dw_X16 a ac s0) H → va_D A (dw_X16 a ac s0) → va_S A s.heap H locs → lv_has ls 3 [(0, .ref (a 0)), (1, .int x1), (2, .int x2)] → W p l e (headSpec ow_dm_X16_begin ({ frames := 0, cells := 0, slots := 0, locals := 0 })).room s m args below meth c H locs 0 0 Q (F0 m 81 ls [])
def dj_X16_begin_0 (p : Program) (l : Launch) (e : Env) (s : State) (m : MethodId) (args : Array Value) (below : List Frame) (meth : Method) (c : Code) (Q : State → Prop) (A : Nat → Prop) (dC : Nat → ClassId) (dI : Nat → Nat → Nat) (a : Nat → Nat) (ac : Nat → ClassId) (g : Int32 → (St × (St)) → Option (St × (St))) (r : St × (St)) : Prop := ∀ (v0 : Int32) (s0 : St × (St)) (H : Heap) (locs : List Loc) (ls : Array Slot), g v0 s0 = some r → va_P (dC, dI) vwCl (dw_X16 a ac s0) H → va_D A (dw_X16 a ac s0) → va_S A s.heap H locs → lv_has ls 3 [(0, .ref (a 0)), (1, .int v0)] → W p l e (headSpec ow_dm_X16_begin ({ frames := 0, cells := 0, slots := 0, locals := 0 })).room s m args below meth c H locs 0 0 Q (F0 m 0 ls [])
set_option maxHeartbeats 40000000 in
set_option maxRecDepth 100000 in
theorem dB_X16_begin_119 {p : Program} {l : Launch} {e : Env} {s : State} {m : MethodId} {args : Array Value} {below : List Frame} {meth : Method} {c : Code} {Q : State → Prop} {A : Nat → Prop} {dC : Nat → ClassId} {dI : Nat → Nat → Nat} {a : Nat → Nat} {ac : Nat → ClassId} {n : Nat} {r : St × (St)} (C : nd_C p l s m args c A (dC, dI) cX16_begin 3 RX16 ow_dm_X16_begin (dk_X16 ac)) (K : nd_Kv p l e (headSpec ow_dm_X16_begin ({ frames := 0, cells := 0, slots := 0, locals := 0 })).room s m args below meth c Q A (dC, dI) cX16_begin (St × (St)) (dw_X16 a ac) r) {g119 : Int32 → Int32 → (St × (St)) → Option (St × (St))} (J119 : dj_X16_begin_119 p l e s m args below meth c Q A dC dI a ac g119 r) : dj_X16_begin_119 p l e s m args below meth c Q A dC dI a ac (dF_X16_begin_119 n g119) r := by
  obtain ⟨hlt, hx, hb, hml, hown, hts, hN, hA, hK⟩ := id C
  intro x1 x2 s0 H locs ls h hP hD hS hl
  unfold dF_X16_begin_119 at h
  refine lv_iload_n hx hb dX16_begin_119 rfl (lv_at hl 2 rfl) ?_
  refine lv_bipush (v := 16) hx hb dX16_begin_120 (by decide) ?_
  refine lv_icmp_ge (tgt := 155) hx hb dX16_begin_122 (by decide) (fun c24 => ?_) (fun c24 => ?_)
  · have h := nd_pos h c24
    exact K _ _ _ _ _ dX16_begin_155 (Option.some.inj h).symm hP hD hS
  · have h := nd_neg h c24
    refine lv_aload_n hx hb dX16_begin_125 rfl (lv_at hl 0 rfl) ?_
    refine va_get (D := (dC, dI)) (ci := 17) (v := .ref (a 15)) (C := RX16) (T := TX16) (N := 56) hx hb hts hi_dm_X16_begin_X16 hown hK hP 0 rfl rfl 23 (by decide) (hts (.fieldLink RX16 54 "TimeMachineModel$Machine" "handler" "[I") (List.mem_of_getElem? (i := 13) rfl)) (fun _ h9 => h9) rfl dX16_begin_126 ?_
    refine lv_bipush (v := 16) hx hb dX16_begin_129 (by decide) ?_
    refine lv_iload_n hx hb dX16_begin_131 rfl (lv_at hl 1 rfl) ?_
    refine lv_imul hx hb dX16_begin_132 ?_
    refine lv_iload_n hx hb dX16_begin_133 rfl (lv_at hl 2 rfl) ?_
    refine lv_iadd hx hb dX16_begin_134 ?_
    refine lv_iconst (v := 0) hx hb dX16_begin_135 (by decide) ?_
    obtain ⟨i25, h⟩ := nd_ck_e h
    refine va_iast (i := ((16 * x1) + x2)) (x := 0) hx hb hK hP hD hS 15 14 rfl rfl i25 dX16_begin_136 (fun H locs hP hD hS => ?_)
    obtain ⟨s26, es26, h⟩ := nd_let_e h
    have hP : va_P (dC, dI) vwCl (dw_X16 a ac s26) H := by rw [es26]; exact hP
    have hD : va_D A (dw_X16 a ac s26) := by rw [es26]; exact hD
    refine lv_aload_n hx hb dX16_begin_137 rfl (lv_at hl 0 rfl) ?_
    refine va_get (D := (dC, dI)) (ci := 17) (v := .ref (a 16)) (C := RX16) (T := TX16) (N := 56) hx hb hts hi_dm_X16_begin_X16 hown hK hP 0 rfl rfl 24 (by decide) (hts (.fieldLink RX16 57 "TimeMachineModel$Machine" "descriptor" "[I") (List.mem_of_getElem? (i := 14) rfl)) (fun _ h9 => h9) rfl dX16_begin_138 ?_
    refine lv_bipush (v := 16) hx hb dX16_begin_141 (by decide) ?_
    refine lv_iload_n hx hb dX16_begin_143 rfl (lv_at hl 1 rfl) ?_
    refine lv_imul hx hb dX16_begin_144 ?_
    refine lv_iload_n hx hb dX16_begin_145 rfl (lv_at hl 2 rfl) ?_
    refine lv_iadd hx hb dX16_begin_146 ?_
    refine lv_iconst (v := (-1)) hx hb dX16_begin_147 (by decide) ?_
    obtain ⟨i27, h⟩ := nd_ck_e h
    refine va_iast (i := ((16 * x1) + x2)) (x := (-1)) hx hb hK hP hD hS 16 15 rfl rfl i27 dX16_begin_148 (fun H locs hP hD hS => ?_)
    obtain ⟨s28, es28, h⟩ := nd_let_e h
    have hP : va_P (dC, dI) vwCl (dw_X16 a ac s28) H := by rw [es28]; exact hP
    have hD : va_D A (dw_X16 a ac s28) := by rw [es28]; exact hD
    obtain ⟨z29, ez29, h⟩ := nd_let_e h
    refine lv_iinc (v := z29) (lv' := [(2, .int z29), (0, .ref (a 0)), (1, .int x1)]) hx hb dX16_begin_149 hl (k := 2) rfl (by rw [ez29]) (by decide) rfl (fun ls hl => ?_)
    refine lv_goto (tgt := 119) hx hb dX16_begin_152 (by decide) ?_
    exact (J119) (x1) (z29) s28 _ _ _ h hP hD hS (lv_sub hl [1, 2, 0] rfl)
set_option maxHeartbeats 40000000 in
set_option maxRecDepth 100000 in
theorem db_X16_begin_119 {p : Program} {l : Launch} {e : Env} {s : State} {m : MethodId} {args : Array Value} {below : List Frame} {meth : Method} {c : Code} {Q : State → Prop} {A : Nat → Prop} {dC : Nat → ClassId} {dI : Nat → Nat → Nat} {a : Nat → Nat} {ac : Nat → ClassId} {n : Nat} {r : St × (St)} (C : nd_C p l s m args c A (dC, dI) cX16_begin 3 RX16 ow_dm_X16_begin (dk_X16 ac)) (K : nd_Kv p l e (headSpec ow_dm_X16_begin ({ frames := 0, cells := 0, slots := 0, locals := 0 })).room s m args below meth c Q A (dC, dI) cX16_begin (St × (St)) (dw_X16 a ac) r) (k : Nat) : dj_X16_begin_119 p l e s m args below meth c Q A dC dI a ac (df_X16_begin_119 n k) r := by
  induction k with
  | zero => intro x1 x2 s0 H locs ls h; exact nomatch (show (none : Option (St × (St))) = some r from h)
  | succ k ih => exact dB_X16_begin_119 C K ih
set_option maxHeartbeats 40000000 in
set_option maxRecDepth 100000 in
theorem dB_X16_begin_81 {p : Program} {l : Launch} {e : Env} {s : State} {m : MethodId} {args : Array Value} {below : List Frame} {meth : Method} {c : Code} {Q : State → Prop} {A : Nat → Prop} {dC : Nat → ClassId} {dI : Nat → Nat → Nat} {a : Nat → Nat} {ac : Nat → ClassId} {n : Nat} {r : St × (St)} (C : nd_C p l s m args c A (dC, dI) cX16_begin 3 RX16 ow_dm_X16_begin (dk_X16 ac)) (K : nd_Kv p l e (headSpec ow_dm_X16_begin ({ frames := 0, cells := 0, slots := 0, locals := 0 })).room s m args below meth c Q A (dC, dI) cX16_begin (St × (St)) (dw_X16 a ac) r) {g81 : Int32 → Int32 → (St × (St)) → Option (St × (St))} (J81 : dj_X16_begin_81 p l e s m args below meth c Q A dC dI a ac g81 r) : dj_X16_begin_81 p l e s m args below meth c Q A dC dI a ac (dF_X16_begin_81 n g81) r := by
  obtain ⟨hlt, hx, hb, hml, hown, hts, hN, hA, hK⟩ := id C
  intro x1 x2 s0 H locs ls h hP hD hS hl
  unfold dF_X16_begin_81 at h
  refine lv_iload_n hx hb dX16_begin_81 rfl (lv_at hl 2 rfl) ?_
  refine lv_bipush (v := 32) hx hb dX16_begin_82 (by decide) ?_
  refine lv_icmp_ge (tgt := 117) hx hb dX16_begin_84 (by decide) (fun c23 => ?_) (fun c23 => ?_)
  · have h := nd_pos h c23
    refine lv_iconst (v := 0) hx hb dX16_begin_117 (by decide) ?_
    refine lv_istore_n (lv' := [(2, .int 0), (0, .ref (a 0)), (1, .int x1)]) hx hb dX16_begin_118 rfl hl (by decide) rfl (fun ls hl => ?_)
    exact (db_X16_begin_119 C K n) (x1) (0) s0 _ _ _ h hP hD hS (lv_sub hl [1, 2, 0] rfl)
  · have h := nd_neg h c23
    refine lv_aload_n hx hb dX16_begin_87 rfl (lv_at hl 0 rfl) ?_
    refine va_get (D := (dC, dI)) (ci := 17) (v := .ref (a 11)) (C := RX16) (T := TX16) (N := 56) hx hb hts hi_dm_X16_begin_X16 hown hK hP 0 rfl rfl 19 (by decide) (hts (.fieldLink RX16 42 "TimeMachineModel$Machine" "x" "[I") (List.mem_of_getElem? (i := 15) rfl)) (fun _ h9 => h9) rfl dX16_begin_88 ?_
    refine lv_bipush (v := 32) hx hb dX16_begin_91 (by decide) ?_
    refine lv_iload_n hx hb dX16_begin_93 rfl (lv_at hl 1 rfl) ?_
    refine lv_imul hx hb dX16_begin_94 ?_
    refine lv_iload_n hx hb dX16_begin_95 rfl (lv_at hl 2 rfl) ?_
    refine lv_iadd hx hb dX16_begin_96 ?_
    refine lv_aload_n hx hb dX16_begin_97 rfl (lv_at hl 0 rfl) ?_
    refine va_get (D := (dC, dI)) (ci := 17) (v := .ref (a 13)) (C := RX16) (T := TX16) (N := 56) hx hb hts hi_dm_X16_begin_X16 hown hK hP 0 rfl rfl 21 (by decide) (hts (.fieldLink RX16 48 "TimeMachineModel$Machine" "saved" "[I") (List.mem_of_getElem? (i := 16) rfl)) (fun _ h9 => h9) rfl dX16_begin_98 ?_
    refine lv_bipush (v := 32) hx hb dX16_begin_101 (by decide) ?_
    refine lv_iload_n hx hb dX16_begin_103 rfl (lv_at hl 1 rfl) ?_
    refine lv_imul hx hb dX16_begin_104 ?_
    refine lv_iload_n hx hb dX16_begin_105 rfl (lv_at hl 2 rfl) ?_
    refine lv_iadd hx hb dX16_begin_106 ?_
    refine lv_iconst (v := 0) hx hb dX16_begin_107 (by decide) ?_
    refine lv_dup_x2 hx hb dX16_begin_108 rfl rfl rfl ?_
    obtain ⟨i30, h⟩ := nd_ck_e h
    refine va_iast (i := ((32 * x1) + x2)) (x := 0) hx hb hK hP hD hS 13 12 rfl rfl i30 dX16_begin_109 (fun H locs hP hD hS => ?_)
    obtain ⟨s31, es31, h⟩ := nd_let_e h
    have hP : va_P (dC, dI) vwCl (dw_X16 a ac s31) H := by rw [es31]; exact hP
    have hD : va_D A (dw_X16 a ac s31) := by rw [es31]; exact hD
    obtain ⟨i32, h⟩ := nd_ck_e h
    refine va_iast (i := ((32 * x1) + x2)) (x := 0) hx hb hK hP hD hS 11 10 rfl rfl i32 dX16_begin_110 (fun H locs hP hD hS => ?_)
    obtain ⟨s33, es33, h⟩ := nd_let_e h
    have hP : va_P (dC, dI) vwCl (dw_X16 a ac s33) H := by rw [es33]; exact hP
    have hD : va_D A (dw_X16 a ac s33) := by rw [es33]; exact hD
    obtain ⟨z34, ez34, h⟩ := nd_let_e h
    refine lv_iinc (v := z34) (lv' := [(2, .int z34), (0, .ref (a 0)), (1, .int x1)]) hx hb dX16_begin_111 hl (k := 2) rfl (by rw [ez34]) (by decide) rfl (fun ls hl => ?_)
    refine lv_goto (tgt := 81) hx hb dX16_begin_114 (by decide) ?_
    exact (J81) (x1) (z34) s33 _ _ _ h hP hD hS (lv_sub hl [1, 2, 0] rfl)
set_option maxHeartbeats 40000000 in
set_option maxRecDepth 100000 in
theorem db_X16_begin_81 {p : Program} {l : Launch} {e : Env} {s : State} {m : MethodId} {args : Array Value} {below : List Frame} {meth : Method} {c : Code} {Q : State → Prop} {A : Nat → Prop} {dC : Nat → ClassId} {dI : Nat → Nat → Nat} {a : Nat → Nat} {ac : Nat → ClassId} {n : Nat} {r : St × (St)} (C : nd_C p l s m args c A (dC, dI) cX16_begin 3 RX16 ow_dm_X16_begin (dk_X16 ac)) (K : nd_Kv p l e (headSpec ow_dm_X16_begin ({ frames := 0, cells := 0, slots := 0, locals := 0 })).room s m args below meth c Q A (dC, dI) cX16_begin (St × (St)) (dw_X16 a ac) r) (k : Nat) : dj_X16_begin_81 p l e s m args below meth c Q A dC dI a ac (df_X16_begin_81 n k) r := by
  induction k with
  | zero => intro x1 x2 s0 H locs ls h; exact nomatch (show (none : Option (St × (St))) = some r from h)
  | succ k ih => exact dB_X16_begin_81 C K ih
set_option maxHeartbeats 40000000 in
set_option maxRecDepth 100000 in
theorem db_X16_begin_0 {p : Program} {l : Launch} {e : Env} {s : State} {m : MethodId} {args : Array Value} {below : List Frame} {meth : Method} {c : Code} {Q : State → Prop} {A : Nat → Prop} {dC : Nat → ClassId} {dI : Nat → Nat → Nat} {a : Nat → Nat} {ac : Nat → ClassId} {n : Nat} {r : St × (St)} (C : nd_C p l s m args c A (dC, dI) cX16_begin 3 RX16 ow_dm_X16_begin (dk_X16 ac)) (K : nd_Kv p l e (headSpec ow_dm_X16_begin ({ frames := 0, cells := 0, slots := 0, locals := 0 })).room s m args below meth c Q A (dC, dI) cX16_begin (St × (St)) (dw_X16 a ac) r) : dj_X16_begin_0 p l e s m args below meth c Q A dC dI a ac (df_X16_begin_0 n) r := by
  obtain ⟨hlt, hx, hb, hml, hown, hts, hN, hA, hK⟩ := id C
  intro v0 s0 H locs ls h hP hD hS hl
  unfold df_X16_begin_0 at h
  refine lv_aload_n hx hb dX16_begin_0 rfl (lv_at hl 0 rfl) ?_
  refine va_get (D := (dC, dI)) (ci := 17) (v := .ref (a 2)) (C := RX16) (T := TX16) (N := 56) hx hb hts hi_dm_X16_begin_X16 hown hK hP 0 rfl rfl 10 (by decide) (hts (.fieldLink RX16 13 "TimeMachineModel$Machine" "state" "[I") (List.mem_of_getElem? (i := 1) rfl)) (fun _ h9 => h9) rfl dX16_begin_1 ?_
  refine lv_iload_n hx hb dX16_begin_4 rfl (lv_at hl 1 rfl) ?_
  refine lv_iconst (v := 0) hx hb dX16_begin_5 (by decide) ?_
  obtain ⟨i1, h⟩ := nd_ck_e h
  refine va_iast (i := v0) (x := 0) hx hb hK hP hD hS 2 1 rfl rfl i1 dX16_begin_6 (fun H locs hP hD hS => ?_)
  obtain ⟨s2, es2, h⟩ := nd_let_e h
  have hP : va_P (dC, dI) vwCl (dw_X16 a ac s2) H := by rw [es2]; exact hP
  have hD : va_D A (dw_X16 a ac s2) := by rw [es2]; exact hD
  refine lv_aload_n hx hb dX16_begin_7 rfl (lv_at hl 0 rfl) ?_
  refine va_get (D := (dC, dI)) (ci := 17) (v := .ref (a 3)) (C := RX16) (T := TX16) (N := 56) hx hb hts hi_dm_X16_begin_X16 hown hK hP 0 rfl rfl 11 (by decide) (hts (.fieldLink RX16 16 "TimeMachineModel$Machine" "parent" "[I") (List.mem_of_getElem? (i := 2) rfl)) (fun _ h9 => h9) rfl dX16_begin_8 ?_
  refine lv_iload_n hx hb dX16_begin_11 rfl (lv_at hl 1 rfl) ?_
  refine lv_aload_n hx hb dX16_begin_12 rfl (lv_at hl 0 rfl) ?_
  refine va_get (D := (dC, dI)) (ci := 17) (v := .ref (a 8)) (C := RX16) (T := TX16) (N := 56) hx hb hts hi_dm_X16_begin_X16 hown hK hP 0 rfl rfl 16 (by decide) (hts (.fieldLink RX16 31 "TimeMachineModel$Machine" "calling" "[I") (List.mem_of_getElem? (i := 3) rfl)) (fun _ h9 => h9) rfl dX16_begin_13 ?_
  refine lv_iload_n hx hb dX16_begin_16 rfl (lv_at hl 1 rfl) ?_
  refine lv_iconst (v := (-1)) hx hb dX16_begin_17 (by decide) ?_
  refine lv_dup_x2 hx hb dX16_begin_18 rfl rfl rfl ?_
  obtain ⟨i3, h⟩ := nd_ck_e h
  refine va_iast (i := v0) (x := (-1)) hx hb hK hP hD hS 8 7 rfl rfl i3 dX16_begin_19 (fun H locs hP hD hS => ?_)
  obtain ⟨s4, es4, h⟩ := nd_let_e h
  have hP : va_P (dC, dI) vwCl (dw_X16 a ac s4) H := by rw [es4]; exact hP
  have hD : va_D A (dw_X16 a ac s4) := by rw [es4]; exact hD
  obtain ⟨i5, h⟩ := nd_ck_e h
  refine va_iast (i := v0) (x := (-1)) hx hb hK hP hD hS 3 2 rfl rfl i5 dX16_begin_20 (fun H locs hP hD hS => ?_)
  obtain ⟨s6, es6, h⟩ := nd_let_e h
  have hP : va_P (dC, dI) vwCl (dw_X16 a ac s6) H := by rw [es6]; exact hP
  have hD : va_D A (dw_X16 a ac s6) := by rw [es6]; exact hD
  refine lv_aload_n hx hb dX16_begin_21 rfl (lv_at hl 0 rfl) ?_
  refine va_get (D := (dC, dI)) (ci := 17) (v := .ref (a 4)) (C := RX16) (T := TX16) (N := 56) hx hb hts hi_dm_X16_begin_X16 hown hK hP 0 rfl rfl 12 (by decide) (hts (.fieldLink RX16 19 "TimeMachineModel$Machine" "ending" "[I") (List.mem_of_getElem? (i := 4) rfl)) (fun _ h9 => h9) rfl dX16_begin_22 ?_
  refine lv_iload_n hx hb dX16_begin_25 rfl (lv_at hl 1 rfl) ?_
  refine lv_aload_n hx hb dX16_begin_26 rfl (lv_at hl 0 rfl) ?_
  refine va_get (D := (dC, dI)) (ci := 17) (v := .ref (a 5)) (C := RX16) (T := TX16) (N := 56) hx hb hts hi_dm_X16_begin_X16 hown hK hP 0 rfl rfl 13 (by decide) (hts (.fieldLink RX16 22 "TimeMachineModel$Machine" "pending" "[I") (List.mem_of_getElem? (i := 5) rfl)) (fun _ h9 => h9) rfl dX16_begin_27 ?_
  refine lv_iload_n hx hb dX16_begin_30 rfl (lv_at hl 1 rfl) ?_
  refine lv_aload_n hx hb dX16_begin_31 rfl (lv_at hl 0 rfl) ?_
  refine va_get (D := (dC, dI)) (ci := 17) (v := .ref (a 6)) (C := RX16) (T := TX16) (N := 56) hx hb hts hi_dm_X16_begin_X16 hown hK hP 0 rfl rfl 14 (by decide) (hts (.fieldLink RX16 25 "TimeMachineModel$Machine" "heapBegin" "[I") (List.mem_of_getElem? (i := 6) rfl)) (fun _ h9 => h9) rfl dX16_begin_32 ?_
  refine lv_iload_n hx hb dX16_begin_35 rfl (lv_at hl 1 rfl) ?_
  refine lv_aload_n hx hb dX16_begin_36 rfl (lv_at hl 0 rfl) ?_
  refine va_get (D := (dC, dI)) (ci := 17) (v := .ref (a 7)) (C := RX16) (T := TX16) (N := 56) hx hb hts hi_dm_X16_begin_X16 hown hK hP 0 rfl rfl 15 (by decide) (hts (.fieldLink RX16 28 "TimeMachineModel$Machine" "heapEnd" "[I") (List.mem_of_getElem? (i := 7) rfl)) (fun _ h9 => h9) rfl dX16_begin_37 ?_
  refine lv_iload_n hx hb dX16_begin_40 rfl (lv_at hl 1 rfl) ?_
  refine lv_aload_n hx hb dX16_begin_41 rfl (lv_at hl 0 rfl) ?_
  refine va_get (D := (dC, dI)) (ci := 17) (v := .ref (a 12)) (C := RX16) (T := TX16) (N := 56) hx hb hts hi_dm_X16_begin_X16 hown hK hP 0 rfl rfl 20 (by decide) (hts (.fieldLink RX16 45 "TimeMachineModel$Machine" "place" "[I") (List.mem_of_getElem? (i := 8) rfl)) (fun _ h9 => h9) rfl dX16_begin_42 ?_
  refine lv_iload_n hx hb dX16_begin_45 rfl (lv_at hl 1 rfl) ?_
  refine lv_aload_n hx hb dX16_begin_46 rfl (lv_at hl 0 rfl) ?_
  refine va_get (D := (dC, dI)) (ci := 17) (v := .ref (a 14)) (C := RX16) (T := TX16) (N := 56) hx hb hts hi_dm_X16_begin_X16 hown hK hP 0 rfl rfl 22 (by decide) (hts (.fieldLink RX16 51 "TimeMachineModel$Machine" "savedPlace" "[I") (List.mem_of_getElem? (i := 9) rfl)) (fun _ h9 => h9) rfl dX16_begin_47 ?_
  refine lv_iload_n hx hb dX16_begin_50 rfl (lv_at hl 1 rfl) ?_
  refine lv_iconst (v := 0) hx hb dX16_begin_51 (by decide) ?_
  refine lv_dup_x2 hx hb dX16_begin_52 rfl rfl rfl ?_
  obtain ⟨i7, h⟩ := nd_ck_e h
  refine va_iast (i := v0) (x := 0) hx hb hK hP hD hS 14 13 rfl rfl i7 dX16_begin_53 (fun H locs hP hD hS => ?_)
  obtain ⟨s8, es8, h⟩ := nd_let_e h
  have hP : va_P (dC, dI) vwCl (dw_X16 a ac s8) H := by rw [es8]; exact hP
  have hD : va_D A (dw_X16 a ac s8) := by rw [es8]; exact hD
  refine lv_dup_x2 hx hb dX16_begin_54 rfl rfl rfl ?_
  obtain ⟨i9, h⟩ := nd_ck_e h
  refine va_iast (i := v0) (x := 0) hx hb hK hP hD hS 12 11 rfl rfl i9 dX16_begin_55 (fun H locs hP hD hS => ?_)
  obtain ⟨s10, es10, h⟩ := nd_let_e h
  have hP : va_P (dC, dI) vwCl (dw_X16 a ac s10) H := by rw [es10]; exact hP
  have hD : va_D A (dw_X16 a ac s10) := by rw [es10]; exact hD
  refine lv_dup_x2 hx hb dX16_begin_56 rfl rfl rfl ?_
  obtain ⟨i11, h⟩ := nd_ck_e h
  refine va_iast (i := v0) (x := 0) hx hb hK hP hD hS 7 6 rfl rfl i11 dX16_begin_57 (fun H locs hP hD hS => ?_)
  obtain ⟨s12, es12, h⟩ := nd_let_e h
  have hP : va_P (dC, dI) vwCl (dw_X16 a ac s12) H := by rw [es12]; exact hP
  have hD : va_D A (dw_X16 a ac s12) := by rw [es12]; exact hD
  refine lv_dup_x2 hx hb dX16_begin_58 rfl rfl rfl ?_
  obtain ⟨i13, h⟩ := nd_ck_e h
  refine va_iast (i := v0) (x := 0) hx hb hK hP hD hS 6 5 rfl rfl i13 dX16_begin_59 (fun H locs hP hD hS => ?_)
  obtain ⟨s14, es14, h⟩ := nd_let_e h
  have hP : va_P (dC, dI) vwCl (dw_X16 a ac s14) H := by rw [es14]; exact hP
  have hD : va_D A (dw_X16 a ac s14) := by rw [es14]; exact hD
  refine lv_dup_x2 hx hb dX16_begin_60 rfl rfl rfl ?_
  obtain ⟨i15, h⟩ := nd_ck_e h
  refine va_iast (i := v0) (x := 0) hx hb hK hP hD hS 5 4 rfl rfl i15 dX16_begin_61 (fun H locs hP hD hS => ?_)
  obtain ⟨s16, es16, h⟩ := nd_let_e h
  have hP : va_P (dC, dI) vwCl (dw_X16 a ac s16) H := by rw [es16]; exact hP
  have hD : va_D A (dw_X16 a ac s16) := by rw [es16]; exact hD
  obtain ⟨i17, h⟩ := nd_ck_e h
  refine va_iast (i := v0) (x := 0) hx hb hK hP hD hS 4 3 rfl rfl i17 dX16_begin_62 (fun H locs hP hD hS => ?_)
  obtain ⟨s18, es18, h⟩ := nd_let_e h
  have hP : va_P (dC, dI) vwCl (dw_X16 a ac s18) H := by rw [es18]; exact hP
  have hD : va_D A (dw_X16 a ac s18) := by rw [es18]; exact hD
  refine lv_aload_n hx hb dX16_begin_63 rfl (lv_at hl 0 rfl) ?_
  refine va_get (D := (dC, dI)) (ci := 17) (v := .ref (a 9)) (C := RX16) (T := TX16) (N := 56) hx hb hts hi_dm_X16_begin_X16 hown hK hP 0 rfl rfl 17 (by decide) (hts (.fieldLink RX16 34 "TimeMachineModel$Machine" "within" "[Z") (List.mem_of_getElem? (i := 10) rfl)) (fun _ h9 => h9) rfl dX16_begin_64 ?_
  refine lv_iload_n hx hb dX16_begin_67 rfl (lv_at hl 1 rfl) ?_
  refine lv_iconst (v := 0) hx hb dX16_begin_68 (by decide) ?_
  obtain ⟨i19, h⟩ := nd_ck_e h
  refine va_zast (i := v0) (x := 0) hx hb hK hP hD hS 9 8 rfl rfl i19 dX16_begin_69 (fun H locs hP hD hS => ?_)
  obtain ⟨s20, es20, h⟩ := nd_let_e h
  have hP : va_P (dC, dI) vwCl (dw_X16 a ac s20) H := by rw [es20]; exact hP
  have hD : va_D A (dw_X16 a ac s20) := by rw [es20]; exact hD
  refine lv_aload_n hx hb dX16_begin_70 rfl (lv_at hl 0 rfl) ?_
  refine va_get (D := (dC, dI)) (ci := 17) (v := .ref (a 10)) (C := RX16) (T := TX16) (N := 56) hx hb hts hi_dm_X16_begin_X16 hown hK hP 0 rfl rfl 18 (by decide) (hts (.fieldLink RX16 38 "TimeMachineModel$Machine" "since" "[J") (List.mem_of_getElem? (i := 11) rfl)) (fun _ h9 => h9) rfl dX16_begin_71 ?_
  refine lv_iload_n hx hb dX16_begin_74 rfl (lv_at hl 1 rfl) ?_
  refine lv_ldc2 hx hb hown (hts (.constantLong RX16 175 (-1)) (List.mem_of_getElem? (i := 12) rfl)) dX16_begin_75 ?_
  obtain ⟨i21, h⟩ := nd_ck_e h
  refine va_last (i := v0) (x := (-1)) hx hb hK hP hD hS 10 9 rfl rfl i21 dX16_begin_78 (fun H locs hP hD hS => ?_)
  obtain ⟨s22, es22, h⟩ := nd_let_e h
  have hP : va_P (dC, dI) vwCl (dw_X16 a ac s22) H := by rw [es22]; exact hP
  have hD : va_D A (dw_X16 a ac s22) := by rw [es22]; exact hD
  refine lv_iconst (v := 0) hx hb dX16_begin_79 (by decide) ?_
  refine lv_istore_n (lv' := [(2, .int 0), (0, .ref (a 0)), (1, .int v0)]) hx hb dX16_begin_80 rfl hl (by decide) rfl (fun ls hl => ?_)
  exact (db_X16_begin_81 C K n) (v0) (0) s22 _ _ _ h hP hD hS (lv_sub hl [1, 2, 0] rfl)
set_option maxHeartbeats 40000000 in
set_option maxRecDepth 100000 in
theorem dm_X16_begin (l : Launch) (hlt : l.stackTraces = false) (dC : Nat → ClassId) (dI : Nat → Nat → Nat) (a : Nat → Nat) (ac : Nat → ClassId) (n : Nat) (v0 : Int32) (s0 : St × (St)) {r : St × (St)} (h : df_X16_begin n v0 s0 = some r) (sz : Nat) : Met l yX16_begin ow_dm_X16_begin ({ frames := 0, cells := 0, slots := 0, locals := 0 }) (va_Pc [.ref (a 0), .int v0] (fun U => U.heap.size = sz ∧ va_P (dC, dI) vwCl (dw_X16 a ac s0) U.heap ∧ va_K (dC, dI) vwCl (dk_X16 ac) U ∧ va_D (fun _ => True) (dw_X16 a ac s0) ∧ nv_E dI (va_A (dw_X16 a ac s0) sz) U)) (va_Qv (fun _ => True) (fun (_ : Unit) t => va_P (dC, dI) vwCl (dw_X16 a ac r) t.heap ∧ va_K (dC, dI) vwCl (dk_X16 ac) t ∧ va_D (va_A (dw_X16 a ac s0) sz) (dw_X16 a ac r)) (va_A (dw_X16 a ac s0) sz)) 0 0 (va_A (dw_X16 a ac s0) sz) := by
  refine Met.ofW (cc := cX16_begin) (maxL := 3) (ret := none) (by decide) rfl ?_
  intro p e s m args below meth c s₁ B hml hv
  obtain ⟨rfl, hsz, hP, hK, hD0, hN⟩ := hv
  have hx := B.exec
  have hb := B.bytes
  have hr := B.returns
  have hts := atoms_spec (ws := ow_dm_X16_begin) B.pre
  have hown : s.vm.findClass RX16 = some m.cls := findClass_of_methodNamed B.named
  have hlocks := B.notSynchronized
  subst hsz
  have hD := hD0.self (sz := s.heap.size)
  generalize hAe : va_A (dw_X16 a ac s0) s.heap.size = A at hD hN ⊢
  have hA : ∀ q : Nat, s.heap.size ≤ q → A q := fun q h => by rw [← hAe]; exact Or.inr h
  have hl := lv_entry ([.ref (a 0), .int v0]) (n := 3) (Nat.le_of_ble_eq_true rfl)
  rw [lg_entry_eq]
  generalize (lg_sl ([.ref (a 0), .int v0]) ++ List.replicate (3 - (lg_sl ([.ref (a 0), .int v0])).length) Slot.unset).toArray = ls at hl ⊢
  have hl : lv_has ls 3 [(0, .ref (a 0)), (1, .int v0)] := hl
  exact db_X16_begin_0 (dC := dC) (dI := dI) (a := a) (ac := ac) (n := n) (r := r) ⟨hlt, hx, hb, hml, hown, hts, hN, hA, hK⟩ (fun pc τ H locs ls d er hP hD hS => by subst er; exact W.vret hx hb hr (fun t ht hW => ⟨⟨(), rfl, trivial, by rw [ht]; exact hP, va_K.moved hW.alike hK, hD⟩, hS.F ht⟩) hS.2.2 d) v0 s0 _ _ _ h hP hD va_S.rf (lv_sub hl [0, 1] rfl)
def ow_dm_X16_boot : List Cond := Cond.code yX16_boot cX16_boot 3 none :: ([Cond.fieldLink RX16 122 "TimeMachineModel$Machine" "typed" "I", Cond.fieldLink RX16 126 "TimeMachineModel$Machine" "waitingWords" "I", Cond.fieldLink RX16 129 "TimeMachineModel$Machine" "used" "I", Cond.fieldLink RX16 132 "TimeMachineModel$Machine" "count" "I", Cond.fieldLink RX16 135 "TimeMachineModel$Machine" "reserved" "I", Cond.fieldLink RX16 138 "TimeMachineModel$Machine" "ticked" "I", Cond.fieldLink RX16 141 "TimeMachineModel$Machine" "current" "I", Cond.fieldLink RX16 144 "TimeMachineModel$Machine" "last" "I", Cond.fieldLink RX16 147 "TimeMachineModel$Machine" "shown" "J", Cond.fieldLink RX16 151 "TimeMachineModel$Machine" "clock" "J", Cond.fieldLink RX16 154 "TimeMachineModel$Machine" "retired" "J", Cond.fieldLink RX16 157 "TimeMachineModel$Machine" "watched" "I", Cond.fieldLink RX16 13 "TimeMachineModel$Machine" "state" "[I", Cond.methodLink RX16 164 yX16_load, Cond.instanceMethod yX16_load, Cond.selects RX16 yX16_load yX16_load, Cond.initialized RX16, Cond.methodLink RX16 168 yX16_opening, Cond.instanceMethod yX16_opening, Cond.selects RX16 yX16_opening yX16_opening, Cond.fieldLink RX16 57 "TimeMachineModel$Machine" "descriptor" "[I", Cond.methodLink RX16 172 yX16_settle, Cond.instanceMethod yX16_settle, Cond.selects RX16 yX16_settle yX16_settle, Cond.fieldLink RX16 88 "TimeMachineModel$Machine" "isFile" "[Z", Cond.fieldLink RX16 91 "TimeMachineModel$Machine" "isNamed" "[Z", Cond.fieldLink RX16 85 "TimeMachineModel$Machine" "isPipe" "[Z", Cond.fieldLink RX16 73 "TimeMachineModel$Machine" "kind" "[I", Cond.methodLink RX16 160 yX16_begin, Cond.instanceMethod yX16_begin, Cond.selects RX16 yX16_begin yX16_begin, Cond.fieldLink RX16 64 "TimeMachineModel$Machine" "frame" "[I", Cond.fieldLink RX16 70 "TimeMachineModel$Machine" "holders" "[I"] ++ (u_ws RX16 TX16 56 ++ (ow_dm_X16_load ++ (ow_dm_X16_opening ++ (ow_dm_X16_settle ++ (ow_dm_X16_begin ++ []))))))
theorem gd_dm_X16_boot : ∀ w ∈ ow_dm_X16_boot, (w.onTables && w.keeps) = true ∨ ∃ ty, w = Cond.arrayClass ty := List.forall_mem_cons.mpr ⟨good_of_word rfl, List.forall_mem_append.mpr ⟨fun w h => good_of_word (List.all_eq_true.mp (by decide +kernel) w h), List.forall_mem_append.mpr ⟨gu_X16, List.forall_mem_append.mpr ⟨gd_dm_X16_load, List.forall_mem_append.mpr ⟨gd_dm_X16_opening, List.forall_mem_append.mpr ⟨gd_dm_X16_settle, List.forall_mem_append.mpr ⟨gd_dm_X16_begin, fun _ h => nomatch h⟩⟩⟩⟩⟩⟩⟩
theorem hi_dm_X16_boot_X16 : ∀ w ∈ u_ws RX16 TX16 56, w ∈ ow_dm_X16_boot := fun w h => List.mem_cons_of_mem _ (List.mem_append_right _ (List.mem_append_left _ h))
theorem gi_dm_X16_boot_0 : GoodIn ow_dm_X16_boot (wsV RX16 164 RX16 yX16_load ow_dm_X16_load) := goodIn_app (goodIn_of _ (by decide +kernel)) (fun w h => ⟨List.mem_cons_of_mem _ (List.mem_append_right _ (List.mem_append_right _ (List.mem_append_left _ h))), gd_dm_X16_load w h⟩)
theorem gi_dm_X16_boot_1 : GoodIn ow_dm_X16_boot (wsV RX16 168 RX16 yX16_opening ow_dm_X16_opening) := goodIn_app (goodIn_of _ (by decide +kernel)) (fun w h => ⟨List.mem_cons_of_mem _ (List.mem_append_right _ (List.mem_append_right _ (List.mem_append_right _ (List.mem_append_left _ h)))), gd_dm_X16_opening w h⟩)
theorem gi_dm_X16_boot_2 : GoodIn ow_dm_X16_boot (wsV RX16 172 RX16 yX16_settle ow_dm_X16_settle) := goodIn_app (goodIn_of _ (by decide +kernel)) (fun w h => ⟨List.mem_cons_of_mem _ (List.mem_append_right _ (List.mem_append_right _ (List.mem_append_right _ (List.mem_append_right _ (List.mem_append_left _ h))))), gd_dm_X16_settle w h⟩)
theorem gi_dm_X16_boot_3 : GoodIn ow_dm_X16_boot (wsV RX16 160 RX16 yX16_begin ow_dm_X16_begin) := goodIn_app (goodIn_of _ (by decide +kernel)) (fun w h => ⟨List.mem_cons_of_mem _ (List.mem_append_right _ (List.mem_append_right _ (List.mem_append_right _ (List.mem_append_right _ (List.mem_append_right _ (List.mem_append_left _ h)))))), gd_dm_X16_begin w h⟩)
def dj_X16_boot_153 (p : Program) (l : Launch) (e : Env) (s : State) (m : MethodId) (args : Array Value) (below : List Frame) (meth : Method) (c : Code) (Q : State → Prop) (A : Nat → Prop) (dC : Nat → ClassId) (dI : Nat → Nat → Nat) (a : Nat → Nat) (ac : Nat → ClassId) (g : Int32 → Int32 → (St × (St)) → Option (St × (St))) (r : St × (St)) : Prop := ∀ (x1 : Int32) (x2 : Int32) (s0 : St × (St)) (H : Heap) (locs : List Loc) (ls : Array Slot), g x1 x2 s0 = some r → va_P (dC, dI) vwCl (dw_X16 a ac s0) H → va_D A (dw_X16 a ac s0) → va_S A s.heap H locs → lv_has ls 3 [(0, .ref (a 0)), (1, .int x1), (2, .int x2)] → W p l e (headSpec ow_dm_X16_boot ({ frames := 4, cells := 0, slots := 0, locals := 92 })).room s m args below meth c H locs 0 0 Q (F0 m 153 ls [])
def dj_X16_boot_132 (p : Program) (l : Launch) (e : Env) (s : State) (m : MethodId) (args : Array Value) (below : List Frame) (meth : Method) (c : Code) (Q : State → Prop) (A : Nat → Prop) (dC : Nat → ClassId) (dI : Nat → Nat → Nat) (a : Nat → Nat) (ac : Nat → ClassId) (g : Int32 → Int32 → (St × (St)) → Option (St × (St))) (r : St × (St)) : Prop := ∀ (x1 : Int32) (x2 : Int32) (s0 : St × (St)) (H : Heap) (locs : List Loc) (ls : Array Slot), g x1 x2 s0 = some r → va_P (dC, dI) vwCl (dw_X16 a ac s0) H → va_D A (dw_X16 a ac s0) → va_S A s.heap H locs → lv_has ls 3 [(0, .ref (a 0)), (1, .int x1), (2, .int x2)] → W p l e (headSpec ow_dm_X16_boot ({ frames := 4, cells := 0, slots := 0, locals := 92 })).room s m args below meth c H locs 0 0 Q (F0 m 132 ls [])
def dj_X16_boot_111 (p : Program) (l : Launch) (e : Env) (s : State) (m : MethodId) (args : Array Value) (below : List Frame) (meth : Method) (c : Code) (Q : State → Prop) (A : Nat → Prop) (dC : Nat → ClassId) (dI : Nat → Nat → Nat) (a : Nat → Nat) (ac : Nat → ClassId) (g : Int32 → Int32 → (St × (St)) → Option (St × (St))) (r : St × (St)) : Prop := ∀ (x1 : Int32) (x2 : Int32) (s0 : St × (St)) (H : Heap) (locs : List Loc) (ls : Array Slot), g x1 x2 s0 = some r → va_P (dC, dI) vwCl (dw_X16 a ac s0) H → va_D A (dw_X16 a ac s0) → va_S A s.heap H locs → lv_has ls 3 [(0, .ref (a 0)), (1, .int x1), (2, .int x2)] → W p l e (headSpec ow_dm_X16_boot ({ frames := 4, cells := 0, slots := 0, locals := 92 })).room s m args below meth c H locs 0 0 Q (F0 m 111 ls [])
def dj_X16_boot_92 (p : Program) (l : Launch) (e : Env) (s : State) (m : MethodId) (args : Array Value) (below : List Frame) (meth : Method) (c : Code) (Q : State → Prop) (A : Nat → Prop) (dC : Nat → ClassId) (dI : Nat → Nat → Nat) (a : Nat → Nat) (ac : Nat → ClassId) (g : Int32 → Int32 → (St × (St)) → Option (St × (St))) (r : St × (St)) : Prop := ∀ (x1 : Int32) (x2 : Int32) (s0 : St × (St)) (H : Heap) (locs : List Loc) (ls : Array Slot), g x1 x2 s0 = some r → va_P (dC, dI) vwCl (dw_X16 a ac s0) H → va_D A (dw_X16 a ac s0) → va_S A s.heap H locs → lv_has ls 3 [(0, .ref (a 0)), (1, .int x1), (2, .int x2)] → W p l e (headSpec ow_dm_X16_boot ({ frames := 4, cells := 0, slots := 0, locals := 92 })).room s m args below meth c H locs 0 0 Q (F0 m 92 ls [])
def dj_X16_boot_63 (p : Program) (l : Launch) (e : Env) (s : State) (m : MethodId) (args : Array Value) (below : List Frame) (meth : Method) (c : Code) (Q : State → Prop) (A : Nat → Prop) (dC : Nat → ClassId) (dI : Nat → Nat → Nat) (a : Nat → Nat) (ac : Nat → ClassId) (g : Int32 → Int32 → (St × (St)) → Option (St × (St))) (r : St × (St)) : Prop := ∀ (x1 : Int32) (x2 : Int32) (s0 : St × (St)) (H : Heap) (locs : List Loc) (ls : Array Slot), g x1 x2 s0 = some r → va_P (dC, dI) vwCl (dw_X16 a ac s0) H → va_D A (dw_X16 a ac s0) → va_S A s.heap H locs → lv_has ls 3 [(0, .ref (a 0)), (1, .int x1), (2, .int x2)] → W p l e (headSpec ow_dm_X16_boot ({ frames := 4, cells := 0, slots := 0, locals := 92 })).room s m args below meth c H locs 0 0 Q (F0 m 63 ls [])
def dj_X16_boot_0 (p : Program) (l : Launch) (e : Env) (s : State) (m : MethodId) (args : Array Value) (below : List Frame) (meth : Method) (c : Code) (Q : State → Prop) (A : Nat → Prop) (dC : Nat → ClassId) (dI : Nat → Nat → Nat) (a : Nat → Nat) (ac : Nat → ClassId) (g : Int32 → (St × (St)) → Option (St × (St))) (r : St × (St)) : Prop := ∀ (v0 : Int32) (s0 : St × (St)) (H : Heap) (locs : List Loc) (ls : Array Slot), g v0 s0 = some r → va_P (dC, dI) vwCl (dw_X16 a ac s0) H → va_D A (dw_X16 a ac s0) → va_S A s.heap H locs → lv_has ls 3 [(0, .ref (a 0)), (1, .int v0)] → W p l e (headSpec ow_dm_X16_boot ({ frames := 4, cells := 0, slots := 0, locals := 92 })).room s m args below meth c H locs 0 0 Q (F0 m 0 ls [])
set_option maxHeartbeats 40000000 in
set_option maxRecDepth 100000 in
theorem dB_X16_boot_153 {p : Program} {l : Launch} {e : Env} {s : State} {m : MethodId} {args : Array Value} {below : List Frame} {meth : Method} {c : Code} {Q : State → Prop} {A : Nat → Prop} {dC : Nat → ClassId} {dI : Nat → Nat → Nat} {a : Nat → Nat} {ac : Nat → ClassId} {n : Nat} {r : St × (St)} (C : nd_C p l s m args c A (dC, dI) cX16_boot 3 RX16 ow_dm_X16_boot (dk_X16 ac)) (K : nd_Kv p l e (headSpec ow_dm_X16_boot ({ frames := 4, cells := 0, slots := 0, locals := 92 })).room s m args below meth c Q A (dC, dI) cX16_boot (St × (St)) (dw_X16 a ac) r) {g153 : Int32 → Int32 → (St × (St)) → Option (St × (St))} (J153 : dj_X16_boot_153 p l e s m args below meth c Q A dC dI a ac g153 r) : dj_X16_boot_153 p l e s m args below meth c Q A dC dI a ac (dF_X16_boot_153 n g153) r := by
  obtain ⟨hlt, hx, hb, hml, hown, hts, hN, hA, hK⟩ := id C
  intro x1 x2 s0 H locs ls h hP hD hS hl
  unfold dF_X16_boot_153 at h
  refine lv_iload_n hx hb dX16_boot_153 rfl (lv_at hl 2 rfl) ?_
  refine lv_bipush (v := 16) hx hb dX16_boot_154 (by decide) ?_
  refine lv_icmp_ge (tgt := 179) hx hb dX16_boot_156 (by decide) (fun c17 => ?_) (fun c17 => ?_)
  · have h := nd_pos h c17
    refine lv_aload_n hx hb dX16_boot_179 rfl (lv_at hl 0 rfl) ?_
    refine va_get (D := (dC, dI)) (ci := 17) (v := .ref (a 2)) (C := RX16) (T := TX16) (N := 56) hx hb hts hi_dm_X16_boot_X16 hown hK hP 0 rfl rfl 10 (by decide) (hts (.fieldLink RX16 13 "TimeMachineModel$Machine" "state" "[I") (List.mem_of_getElem? (i := 13) rfl)) (fun _ h9 => h9) rfl dX16_boot_180 ?_
    refine lv_iconst (v := 0) hx hb dX16_boot_183 (by decide) ?_
    refine lv_iconst (v := 1) hx hb dX16_boot_184 (by decide) ?_
    refine va_iast (i := 0) (x := 1) hx hb hK hP hD hS 2 1 rfl rfl (vp_in_iff.mpr ⟨by decide, by decide⟩) dX16_boot_185 (fun H locs hP hD hS => ?_)
    obtain ⟨s18, es18, h⟩ := nd_let_e h
    have hP : va_P (dC, dI) vwCl (dw_X16 a ac s18) H := by rw [es18]; exact hP
    have hD : va_D A (dw_X16 a ac s18) := by rw [es18]; exact hD
    refine lv_aload_n hx hb dX16_boot_186 rfl (lv_at hl 0 rfl) ?_
    refine lv_iconst (v := 0) hx hb dX16_boot_187 (by decide) ?_
    refine lv_iload_n hx hb dX16_boot_188 rfl (lv_at hl 1 rfl) ?_
    obtain ⟨s20, hq, h⟩ := nd_b1_e h
    have hPc := hP
    have hDc := hD
    have hKc := hK
    have hFc := nd_rs hD hS hA
    refine nd_cVv (As := [.int 0, .int x1]) (rest := []) (w' := dw_X16 a ac s20) ⟨hx, hb, hml, hown, hts⟩ (fun sz => dm_X16_load l hlt dC dI a ac n (0) (x1) s18 hq sz) (cwV 2 hts gi_dm_X16_boot_0 rfl rfl rfl (by decide +kernel) ⟨Nat.le_of_ble_eq_true rfl, Nat.le_of_ble_eq_true rfl⟩) hPc hDc hKc hS hA hN (va_recv hKc hPc (ci := 17) (q0 := 0) rfl rfl) rfl hl.1 rfl (Nat.le_of_ble_eq_true rfl) dX16_boot_189 (fun H locs hP1 hD1 hk1 hS => ?_)
    have hP := hP1
    have hD := hD1.weaken (fun k q _ h => hFc q.1 h)
    refine lv_aload_n hx hb dX16_boot_192 rfl (lv_at hl 0 rfl) ?_
    refine lv_iconst (v := 4) hx hb dX16_boot_193 (by decide) ?_
    refine lv_iconst (v := 0) hx hb dX16_boot_194 (by decide) ?_
    refine lv_iconst (v := 3) hx hb dX16_boot_195 (by decide) ?_
    obtain ⟨q22, s23, hq, h⟩ := nd_b2_e h
    have hPc := hP
    have hDc := hD
    have hKc := hK
    have hFc := nd_rs hD hS hA
    refine nd_cVi (As := [.int 4, .int 0, .int 3]) (rest := []) (q := q22) (w' := dw_X16 a ac s23) ⟨hx, hb, hml, hown, hts⟩ (fun sz => dm_X16_opening l hlt dC dI a ac n (4) (0) (3) s20 hq sz) (cwV 3 hts gi_dm_X16_boot_1 rfl rfl rfl (by decide +kernel) ⟨Nat.le_of_ble_eq_true rfl, Nat.le_of_ble_eq_true rfl⟩) hPc hDc hKc hS hA hN (va_recv hKc hPc (ci := 17) (q0 := 0) rfl rfl) rfl hl.1 rfl (Nat.le_of_ble_eq_true rfl) dX16_boot_196 (fun H locs hP1 hD1 hk1 hS => ?_)
    have hP := hP1
    have hD := hD1.weaken (fun k q _ h => hFc q.1 h)
    refine lv_istore_n (lv' := [(2, .int q22), (0, .ref (a 0)), (1, .int x1)]) hx hb dX16_boot_199 rfl hl (by decide) rfl (fun ls hl => ?_)
    refine lv_aload_n hx hb dX16_boot_200 rfl (lv_at hl 1 rfl) ?_
    refine va_get (D := (dC, dI)) (ci := 17) (v := .ref (a 16)) (C := RX16) (T := TX16) (N := 56) hx hb hts hi_dm_X16_boot_X16 hown hK hP 0 rfl rfl 24 (by decide) (hts (.fieldLink RX16 57 "TimeMachineModel$Machine" "descriptor" "[I") (List.mem_of_getElem? (i := 21) rfl)) (fun _ h9 => h9) rfl dX16_boot_201 ?_
    refine lv_iconst (v := 0) hx hb dX16_boot_204 (by decide) ?_
    refine lv_aload_n hx hb dX16_boot_205 rfl (lv_at hl 1 rfl) ?_
    refine va_get (D := (dC, dI)) (ci := 17) (v := .ref (a 16)) (C := RX16) (T := TX16) (N := 56) hx hb hts hi_dm_X16_boot_X16 hown hK hP 0 rfl rfl 24 (by decide) (hts (.fieldLink RX16 57 "TimeMachineModel$Machine" "descriptor" "[I") (List.mem_of_getElem? (i := 21) rfl)) (fun _ h9 => h9) rfl dX16_boot_206 ?_
    refine lv_iconst (v := 1) hx hb dX16_boot_209 (by decide) ?_
    refine lv_iload_n hx hb dX16_boot_210 rfl (lv_at hl 0 rfl) ?_
    refine lv_dup_x2 hx hb dX16_boot_211 rfl rfl rfl ?_
    refine va_iast (i := 1) (x := q22) hx hb hK hP hD hS 16 15 rfl rfl (vp_in_iff.mpr ⟨by decide, by decide⟩) dX16_boot_212 (fun H locs hP hD hS => ?_)
    obtain ⟨s25, es25, h⟩ := nd_let_e h
    have hP : va_P (dC, dI) vwCl (dw_X16 a ac s25) H := by rw [es25]; exact hP
    have hD : va_D A (dw_X16 a ac s25) := by rw [es25]; exact hD
    refine va_iast (i := 0) (x := q22) hx hb hK hP hD hS 16 15 rfl rfl (vp_in_iff.mpr ⟨by decide, by decide⟩) dX16_boot_213 (fun H locs hP hD hS => ?_)
    obtain ⟨s26, es26, h⟩ := nd_let_e h
    have hP : va_P (dC, dI) vwCl (dw_X16 a ac s26) H := by rw [es26]; exact hP
    have hD : va_D A (dw_X16 a ac s26) := by rw [es26]; exact hD
    refine lv_aload_n hx hb dX16_boot_214 rfl (lv_at hl 1 rfl) ?_
    obtain ⟨s28, hq, h⟩ := nd_b1_e h
    have hPc := hP
    have hDc := hD
    have hKc := hK
    have hFc := nd_rs hD hS hA
    refine nd_cVv (As := []) (rest := []) (w' := dw_X16 a ac s28) ⟨hx, hb, hml, hown, hts⟩ (fun sz => dm_X16_settle l hlt dC dI a ac n  s26 hq sz) (cwV 0 hts gi_dm_X16_boot_2 rfl rfl rfl (by decide +kernel) ⟨Nat.le_of_ble_eq_true rfl, Nat.le_of_ble_eq_true rfl⟩) hPc hDc hKc hS hA hN (va_recv hKc hPc (ci := 17) (q0 := 0) rfl rfl) rfl hl.1 rfl (Nat.le_of_ble_eq_true rfl) dX16_boot_215 (fun H locs hP1 hD1 hk1 hS => ?_)
    have hP := hP1
    have hD := hD1.weaken (fun k q _ h => hFc q.1 h)
    exact K _ _ _ _ _ dX16_boot_218 (Option.some.inj h).symm hP hD hS
  · have h := nd_neg h c17
    refine lv_aload_n hx hb dX16_boot_159 rfl (lv_at hl 0 rfl) ?_
    refine va_get (D := (dC, dI)) (ci := 17) (v := .ref (a 26)) (C := RX16) (T := TX16) (N := 56) hx hb hts hi_dm_X16_boot_X16 hown hK hP 0 rfl rfl 35 (by decide) (hts (.fieldLink RX16 88 "TimeMachineModel$Machine" "isFile" "[Z") (List.mem_of_getElem? (i := 25) rfl)) (fun _ h9 => h9) rfl dX16_boot_160 ?_
    refine lv_iload_n hx hb dX16_boot_163 rfl (lv_at hl 2 rfl) ?_
    refine lv_aload_n hx hb dX16_boot_164 rfl (lv_at hl 0 rfl) ?_
    refine va_get (D := (dC, dI)) (ci := 17) (v := .ref (a 27)) (C := RX16) (T := TX16) (N := 56) hx hb hts hi_dm_X16_boot_X16 hown hK hP 0 rfl rfl 36 (by decide) (hts (.fieldLink RX16 91 "TimeMachineModel$Machine" "isNamed" "[Z") (List.mem_of_getElem? (i := 26) rfl)) (fun _ h9 => h9) rfl dX16_boot_165 ?_
    refine lv_iload_n hx hb dX16_boot_168 rfl (lv_at hl 2 rfl) ?_
    refine lv_iconst (v := 0) hx hb dX16_boot_169 (by decide) ?_
    refine lv_dup_x2 hx hb dX16_boot_170 rfl rfl rfl ?_
    obtain ⟨i30, h⟩ := nd_ck_e h
    refine va_zast (i := x2) (x := 0) hx hb hK hP hD hS 27 26 rfl rfl i30 dX16_boot_171 (fun H locs hP hD hS => ?_)
    obtain ⟨s31, es31, h⟩ := nd_let_e h
    have hP : va_P (dC, dI) vwCl (dw_X16 a ac s31) H := by rw [es31]; exact hP
    have hD : va_D A (dw_X16 a ac s31) := by rw [es31]; exact hD
    obtain ⟨i32, h⟩ := nd_ck_e h
    refine va_zast (i := x2) (x := 0) hx hb hK hP hD hS 26 25 rfl rfl i32 dX16_boot_172 (fun H locs hP hD hS => ?_)
    obtain ⟨s33, es33, h⟩ := nd_let_e h
    have hP : va_P (dC, dI) vwCl (dw_X16 a ac s33) H := by rw [es33]; exact hP
    have hD : va_D A (dw_X16 a ac s33) := by rw [es33]; exact hD
    obtain ⟨z34, ez34, h⟩ := nd_let_e h
    refine lv_iinc (v := z34) (lv' := [(2, .int z34), (0, .ref (a 0)), (1, .int x1)]) hx hb dX16_boot_173 hl (k := 2) rfl (by rw [ez34]) (by decide) rfl (fun ls hl => ?_)
    refine lv_goto (tgt := 153) hx hb dX16_boot_176 (by decide) ?_
    exact (J153) (x1) (z34) s33 _ _ _ h hP hD hS (lv_sub hl [1, 2, 0] rfl)
set_option maxHeartbeats 40000000 in
set_option maxRecDepth 100000 in
theorem db_X16_boot_153 {p : Program} {l : Launch} {e : Env} {s : State} {m : MethodId} {args : Array Value} {below : List Frame} {meth : Method} {c : Code} {Q : State → Prop} {A : Nat → Prop} {dC : Nat → ClassId} {dI : Nat → Nat → Nat} {a : Nat → Nat} {ac : Nat → ClassId} {n : Nat} {r : St × (St)} (C : nd_C p l s m args c A (dC, dI) cX16_boot 3 RX16 ow_dm_X16_boot (dk_X16 ac)) (K : nd_Kv p l e (headSpec ow_dm_X16_boot ({ frames := 4, cells := 0, slots := 0, locals := 92 })).room s m args below meth c Q A (dC, dI) cX16_boot (St × (St)) (dw_X16 a ac) r) (k : Nat) : dj_X16_boot_153 p l e s m args below meth c Q A dC dI a ac (df_X16_boot_153 n k) r := by
  induction k with
  | zero => intro x1 x2 s0 H locs ls h; exact nomatch (show (none : Option (St × (St))) = some r from h)
  | succ k ih => exact dB_X16_boot_153 C K ih
set_option maxHeartbeats 40000000 in
set_option maxRecDepth 100000 in
theorem dB_X16_boot_132 {p : Program} {l : Launch} {e : Env} {s : State} {m : MethodId} {args : Array Value} {below : List Frame} {meth : Method} {c : Code} {Q : State → Prop} {A : Nat → Prop} {dC : Nat → ClassId} {dI : Nat → Nat → Nat} {a : Nat → Nat} {ac : Nat → ClassId} {n : Nat} {r : St × (St)} (C : nd_C p l s m args c A (dC, dI) cX16_boot 3 RX16 ow_dm_X16_boot (dk_X16 ac)) (K : nd_Kv p l e (headSpec ow_dm_X16_boot ({ frames := 4, cells := 0, slots := 0, locals := 92 })).room s m args below meth c Q A (dC, dI) cX16_boot (St × (St)) (dw_X16 a ac) r) {g132 : Int32 → Int32 → (St × (St)) → Option (St × (St))} (J132 : dj_X16_boot_132 p l e s m args below meth c Q A dC dI a ac g132 r) : dj_X16_boot_132 p l e s m args below meth c Q A dC dI a ac (dF_X16_boot_132 n g132) r := by
  obtain ⟨hlt, hx, hb, hml, hown, hts, hN, hA, hK⟩ := id C
  intro x1 x2 s0 H locs ls h hP hD hS hl
  unfold dF_X16_boot_132 at h
  refine lv_iload_n hx hb dX16_boot_132 rfl (lv_at hl 2 rfl) ?_
  refine lv_bipush (v := 8) hx hb dX16_boot_133 (by decide) ?_
  refine lv_icmp_ge (tgt := 151) hx hb dX16_boot_135 (by decide) (fun c16 => ?_) (fun c16 => ?_)
  · have h := nd_pos h c16
    refine lv_iconst (v := 0) hx hb dX16_boot_151 (by decide) ?_
    refine lv_istore_n (lv' := [(2, .int 0), (0, .ref (a 0)), (1, .int x1)]) hx hb dX16_boot_152 rfl hl (by decide) rfl (fun ls hl => ?_)
    exact (db_X16_boot_153 C K n) (x1) (0) s0 _ _ _ h hP hD hS (lv_sub hl [1, 2, 0] rfl)
  · have h := nd_neg h c16
    refine lv_aload_n hx hb dX16_boot_138 rfl (lv_at hl 0 rfl) ?_
    refine va_get (D := (dC, dI)) (ci := 17) (v := .ref (a 25)) (C := RX16) (T := TX16) (N := 56) hx hb hts hi_dm_X16_boot_X16 hown hK hP 0 rfl rfl 34 (by decide) (hts (.fieldLink RX16 85 "TimeMachineModel$Machine" "isPipe" "[Z") (List.mem_of_getElem? (i := 27) rfl)) (fun _ h9 => h9) rfl dX16_boot_139 ?_
    refine lv_iload_n hx hb dX16_boot_142 rfl (lv_at hl 2 rfl) ?_
    refine lv_iconst (v := 0) hx hb dX16_boot_143 (by decide) ?_
    obtain ⟨i35, h⟩ := nd_ck_e h
    refine va_zast (i := x2) (x := 0) hx hb hK hP hD hS 25 24 rfl rfl i35 dX16_boot_144 (fun H locs hP hD hS => ?_)
    obtain ⟨s36, es36, h⟩ := nd_let_e h
    have hP : va_P (dC, dI) vwCl (dw_X16 a ac s36) H := by rw [es36]; exact hP
    have hD : va_D A (dw_X16 a ac s36) := by rw [es36]; exact hD
    obtain ⟨z37, ez37, h⟩ := nd_let_e h
    refine lv_iinc (v := z37) (lv' := [(2, .int z37), (0, .ref (a 0)), (1, .int x1)]) hx hb dX16_boot_145 hl (k := 2) rfl (by rw [ez37]) (by decide) rfl (fun ls hl => ?_)
    refine lv_goto (tgt := 132) hx hb dX16_boot_148 (by decide) ?_
    exact (J132) (x1) (z37) s36 _ _ _ h hP hD hS (lv_sub hl [1, 2, 0] rfl)
set_option maxHeartbeats 40000000 in
set_option maxRecDepth 100000 in
theorem db_X16_boot_132 {p : Program} {l : Launch} {e : Env} {s : State} {m : MethodId} {args : Array Value} {below : List Frame} {meth : Method} {c : Code} {Q : State → Prop} {A : Nat → Prop} {dC : Nat → ClassId} {dI : Nat → Nat → Nat} {a : Nat → Nat} {ac : Nat → ClassId} {n : Nat} {r : St × (St)} (C : nd_C p l s m args c A (dC, dI) cX16_boot 3 RX16 ow_dm_X16_boot (dk_X16 ac)) (K : nd_Kv p l e (headSpec ow_dm_X16_boot ({ frames := 4, cells := 0, slots := 0, locals := 92 })).room s m args below meth c Q A (dC, dI) cX16_boot (St × (St)) (dw_X16 a ac) r) (k : Nat) : dj_X16_boot_132 p l e s m args below meth c Q A dC dI a ac (df_X16_boot_132 n k) r := by
  induction k with
  | zero => intro x1 x2 s0 H locs ls h; exact nomatch (show (none : Option (St × (St))) = some r from h)
  | succ k ih => exact dB_X16_boot_132 C K ih
set_option maxHeartbeats 40000000 in
set_option maxRecDepth 100000 in
theorem dB_X16_boot_111 {p : Program} {l : Launch} {e : Env} {s : State} {m : MethodId} {args : Array Value} {below : List Frame} {meth : Method} {c : Code} {Q : State → Prop} {A : Nat → Prop} {dC : Nat → ClassId} {dI : Nat → Nat → Nat} {a : Nat → Nat} {ac : Nat → ClassId} {n : Nat} {r : St × (St)} (C : nd_C p l s m args c A (dC, dI) cX16_boot 3 RX16 ow_dm_X16_boot (dk_X16 ac)) (K : nd_Kv p l e (headSpec ow_dm_X16_boot ({ frames := 4, cells := 0, slots := 0, locals := 92 })).room s m args below meth c Q A (dC, dI) cX16_boot (St × (St)) (dw_X16 a ac) r) {g111 : Int32 → Int32 → (St × (St)) → Option (St × (St))} (J111 : dj_X16_boot_111 p l e s m args below meth c Q A dC dI a ac g111 r) : dj_X16_boot_111 p l e s m args below meth c Q A dC dI a ac (dF_X16_boot_111 n g111) r := by
  obtain ⟨hlt, hx, hb, hml, hown, hts, hN, hA, hK⟩ := id C
  intro x1 x2 s0 H locs ls h hP hD hS hl
  unfold dF_X16_boot_111 at h
  refine lv_iload_n hx hb dX16_boot_111 rfl (lv_at hl 2 rfl) ?_
  refine lv_bipush (v := 48) hx hb dX16_boot_112 (by decide) ?_
  refine lv_icmp_ge (tgt := 130) hx hb dX16_boot_114 (by decide) (fun c15 => ?_) (fun c15 => ?_)
  · have h := nd_pos h c15
    refine lv_iconst (v := 0) hx hb dX16_boot_130 (by decide) ?_
    refine lv_istore_n (lv' := [(2, .int 0), (0, .ref (a 0)), (1, .int x1)]) hx hb dX16_boot_131 rfl hl (by decide) rfl (fun ls hl => ?_)
    exact (db_X16_boot_132 C K n) (x1) (0) s0 _ _ _ h hP hD hS (lv_sub hl [1, 2, 0] rfl)
  · have h := nd_neg h c15
    refine lv_aload_n hx hb dX16_boot_117 rfl (lv_at hl 0 rfl) ?_
    refine va_get (D := (dC, dI)) (ci := 17) (v := .ref (a 21)) (C := RX16) (T := TX16) (N := 56) hx hb hts hi_dm_X16_boot_X16 hown hK hP 0 rfl rfl 30 (by decide) (hts (.fieldLink RX16 73 "TimeMachineModel$Machine" "kind" "[I") (List.mem_of_getElem? (i := 28) rfl)) (fun _ h9 => h9) rfl dX16_boot_118 ?_
    refine lv_iload_n hx hb dX16_boot_121 rfl (lv_at hl 2 rfl) ?_
    refine lv_iconst (v := 0) hx hb dX16_boot_122 (by decide) ?_
    obtain ⟨i38, h⟩ := nd_ck_e h
    refine va_iast (i := x2) (x := 0) hx hb hK hP hD hS 21 20 rfl rfl i38 dX16_boot_123 (fun H locs hP hD hS => ?_)
    obtain ⟨s39, es39, h⟩ := nd_let_e h
    have hP : va_P (dC, dI) vwCl (dw_X16 a ac s39) H := by rw [es39]; exact hP
    have hD : va_D A (dw_X16 a ac s39) := by rw [es39]; exact hD
    obtain ⟨z40, ez40, h⟩ := nd_let_e h
    refine lv_iinc (v := z40) (lv' := [(2, .int z40), (0, .ref (a 0)), (1, .int x1)]) hx hb dX16_boot_124 hl (k := 2) rfl (by rw [ez40]) (by decide) rfl (fun ls hl => ?_)
    refine lv_goto (tgt := 111) hx hb dX16_boot_127 (by decide) ?_
    exact (J111) (x1) (z40) s39 _ _ _ h hP hD hS (lv_sub hl [1, 2, 0] rfl)
set_option maxHeartbeats 40000000 in
set_option maxRecDepth 100000 in
theorem db_X16_boot_111 {p : Program} {l : Launch} {e : Env} {s : State} {m : MethodId} {args : Array Value} {below : List Frame} {meth : Method} {c : Code} {Q : State → Prop} {A : Nat → Prop} {dC : Nat → ClassId} {dI : Nat → Nat → Nat} {a : Nat → Nat} {ac : Nat → ClassId} {n : Nat} {r : St × (St)} (C : nd_C p l s m args c A (dC, dI) cX16_boot 3 RX16 ow_dm_X16_boot (dk_X16 ac)) (K : nd_Kv p l e (headSpec ow_dm_X16_boot ({ frames := 4, cells := 0, slots := 0, locals := 92 })).room s m args below meth c Q A (dC, dI) cX16_boot (St × (St)) (dw_X16 a ac) r) (k : Nat) : dj_X16_boot_111 p l e s m args below meth c Q A dC dI a ac (df_X16_boot_111 n k) r := by
  induction k with
  | zero => intro x1 x2 s0 H locs ls h; exact nomatch (show (none : Option (St × (St))) = some r from h)
  | succ k ih => exact dB_X16_boot_111 C K ih
set_option maxHeartbeats 40000000 in
set_option maxRecDepth 100000 in
theorem dB_X16_boot_92 {p : Program} {l : Launch} {e : Env} {s : State} {m : MethodId} {args : Array Value} {below : List Frame} {meth : Method} {c : Code} {Q : State → Prop} {A : Nat → Prop} {dC : Nat → ClassId} {dI : Nat → Nat → Nat} {a : Nat → Nat} {ac : Nat → ClassId} {n : Nat} {r : St × (St)} (C : nd_C p l s m args c A (dC, dI) cX16_boot 3 RX16 ow_dm_X16_boot (dk_X16 ac)) (K : nd_Kv p l e (headSpec ow_dm_X16_boot ({ frames := 4, cells := 0, slots := 0, locals := 92 })).room s m args below meth c Q A (dC, dI) cX16_boot (St × (St)) (dw_X16 a ac) r) {g92 : Int32 → Int32 → (St × (St)) → Option (St × (St))} (J92 : dj_X16_boot_92 p l e s m args below meth c Q A dC dI a ac g92 r) : dj_X16_boot_92 p l e s m args below meth c Q A dC dI a ac (dF_X16_boot_92 n g92) r := by
  obtain ⟨hlt, hx, hb, hml, hown, hts, hN, hA, hK⟩ := id C
  intro x1 x2 s0 H locs ls h hP hD hS hl
  unfold dF_X16_boot_92 at h
  refine lv_iload_n hx hb dX16_boot_92 rfl (lv_at hl 2 rfl) ?_
  refine lv_bipush (v := 16) hx hb dX16_boot_93 (by decide) ?_
  refine lv_icmp_ge (tgt := 109) hx hb dX16_boot_95 (by decide) (fun c14 => ?_) (fun c14 => ?_)
  · have h := nd_pos h c14
    refine lv_iconst (v := 0) hx hb dX16_boot_109 (by decide) ?_
    refine lv_istore_n (lv' := [(2, .int 0), (0, .ref (a 0)), (1, .int x1)]) hx hb dX16_boot_110 rfl hl (by decide) rfl (fun ls hl => ?_)
    exact (db_X16_boot_111 C K n) (x1) (0) s0 _ _ _ h hP hD hS (lv_sub hl [1, 2, 0] rfl)
  · have h := nd_neg h c14
    refine lv_aload_n hx hb dX16_boot_98 rfl (lv_at hl 0 rfl) ?_
    refine lv_iload_n hx hb dX16_boot_99 rfl (lv_at hl 2 rfl) ?_
    obtain ⟨s42, hq, h⟩ := nd_b1_e h
    have hPc := hP
    have hDc := hD
    have hKc := hK
    have hFc := nd_rs hD hS hA
    refine nd_cVv (As := [.int x2]) (rest := []) (w' := dw_X16 a ac s42) ⟨hx, hb, hml, hown, hts⟩ (fun sz => dm_X16_begin l hlt dC dI a ac n (x2) s0 hq sz) (cwV 1 hts gi_dm_X16_boot_3 rfl rfl rfl (by decide +kernel) ⟨Nat.le_of_ble_eq_true rfl, Nat.le_of_ble_eq_true rfl⟩) hPc hDc hKc hS hA hN (va_recv hKc hPc (ci := 17) (q0 := 0) rfl rfl) rfl hl.1 rfl (Nat.le_of_ble_eq_true rfl) dX16_boot_100 (fun H locs hP1 hD1 hk1 hS => ?_)
    have hP := hP1
    have hD := hD1.weaken (fun k q _ h => hFc q.1 h)
    obtain ⟨z44, ez44, h⟩ := nd_let_e h
    refine lv_iinc (v := z44) (lv' := [(2, .int z44), (0, .ref (a 0)), (1, .int x1)]) hx hb dX16_boot_103 hl (k := 2) rfl (by rw [ez44]) (by decide) rfl (fun ls hl => ?_)
    refine lv_goto (tgt := 92) hx hb dX16_boot_106 (by decide) ?_
    exact (J92) (x1) (z44) s42 _ _ _ h hP hD hS (lv_sub hl [1, 2, 0] rfl)
set_option maxHeartbeats 40000000 in
set_option maxRecDepth 100000 in
theorem db_X16_boot_92 {p : Program} {l : Launch} {e : Env} {s : State} {m : MethodId} {args : Array Value} {below : List Frame} {meth : Method} {c : Code} {Q : State → Prop} {A : Nat → Prop} {dC : Nat → ClassId} {dI : Nat → Nat → Nat} {a : Nat → Nat} {ac : Nat → ClassId} {n : Nat} {r : St × (St)} (C : nd_C p l s m args c A (dC, dI) cX16_boot 3 RX16 ow_dm_X16_boot (dk_X16 ac)) (K : nd_Kv p l e (headSpec ow_dm_X16_boot ({ frames := 4, cells := 0, slots := 0, locals := 92 })).room s m args below meth c Q A (dC, dI) cX16_boot (St × (St)) (dw_X16 a ac) r) (k : Nat) : dj_X16_boot_92 p l e s m args below meth c Q A dC dI a ac (df_X16_boot_92 n k) r := by
  induction k with
  | zero => intro x1 x2 s0 H locs ls h; exact nomatch (show (none : Option (St × (St))) = some r from h)
  | succ k ih => exact dB_X16_boot_92 C K ih
set_option maxHeartbeats 40000000 in
set_option maxRecDepth 100000 in
theorem dB_X16_boot_63 {p : Program} {l : Launch} {e : Env} {s : State} {m : MethodId} {args : Array Value} {below : List Frame} {meth : Method} {c : Code} {Q : State → Prop} {A : Nat → Prop} {dC : Nat → ClassId} {dI : Nat → Nat → Nat} {a : Nat → Nat} {ac : Nat → ClassId} {n : Nat} {r : St × (St)} (C : nd_C p l s m args c A (dC, dI) cX16_boot 3 RX16 ow_dm_X16_boot (dk_X16 ac)) (K : nd_Kv p l e (headSpec ow_dm_X16_boot ({ frames := 4, cells := 0, slots := 0, locals := 92 })).room s m args below meth c Q A (dC, dI) cX16_boot (St × (St)) (dw_X16 a ac) r) {g63 : Int32 → Int32 → (St × (St)) → Option (St × (St))} (J63 : dj_X16_boot_63 p l e s m args below meth c Q A dC dI a ac g63 r) : dj_X16_boot_63 p l e s m args below meth c Q A dC dI a ac (dF_X16_boot_63 n g63) r := by
  obtain ⟨hlt, hx, hb, hml, hown, hts, hN, hA, hK⟩ := id C
  intro x1 x2 s0 H locs ls h hP hD hS hl
  unfold dF_X16_boot_63 at h
  refine lv_iload_n hx hb dX16_boot_63 rfl (lv_at hl 2 rfl) ?_
  refine lv_sipush (v := 1024) hx hb dX16_boot_64 (by decide) ?_
  refine lv_icmp_ge (tgt := 90) hx hb dX16_boot_67 (by decide) (fun c13 => ?_) (fun c13 => ?_)
  · have h := nd_pos h c13
    refine lv_iconst (v := 0) hx hb dX16_boot_90 (by decide) ?_
    refine lv_istore_n (lv' := [(2, .int 0), (0, .ref (a 0)), (1, .int x1)]) hx hb dX16_boot_91 rfl hl (by decide) rfl (fun ls hl => ?_)
    exact (db_X16_boot_92 C K n) (x1) (0) s0 _ _ _ h hP hD hS (lv_sub hl [1, 2, 0] rfl)
  · have h := nd_neg h c13
    refine lv_aload_n hx hb dX16_boot_70 rfl (lv_at hl 0 rfl) ?_
    refine va_get (D := (dC, dI)) (ci := 17) (v := .ref (a 18)) (C := RX16) (T := TX16) (N := 56) hx hb hts hi_dm_X16_boot_X16 hown hK hP 0 rfl rfl 26 (by decide) (hts (.fieldLink RX16 64 "TimeMachineModel$Machine" "frame" "[I") (List.mem_of_getElem? (i := 32) rfl)) (fun _ h9 => h9) rfl dX16_boot_71 ?_
    refine lv_iload_n hx hb dX16_boot_74 rfl (lv_at hl 2 rfl) ?_
    refine lv_iconst (v := (-1)) hx hb dX16_boot_75 (by decide) ?_
    obtain ⟨i45, h⟩ := nd_ck_e h
    refine va_iast (i := x2) (x := (-1)) hx hb hK hP hD hS 18 17 rfl rfl i45 dX16_boot_76 (fun H locs hP hD hS => ?_)
    obtain ⟨s46, es46, h⟩ := nd_let_e h
    have hP : va_P (dC, dI) vwCl (dw_X16 a ac s46) H := by rw [es46]; exact hP
    have hD : va_D A (dw_X16 a ac s46) := by rw [es46]; exact hD
    refine lv_aload_n hx hb dX16_boot_77 rfl (lv_at hl 0 rfl) ?_
    refine va_get (D := (dC, dI)) (ci := 17) (v := .ref (a 20)) (C := RX16) (T := TX16) (N := 56) hx hb hts hi_dm_X16_boot_X16 hown hK hP 0 rfl rfl 28 (by decide) (hts (.fieldLink RX16 70 "TimeMachineModel$Machine" "holders" "[I") (List.mem_of_getElem? (i := 33) rfl)) (fun _ h9 => h9) rfl dX16_boot_78 ?_
    refine lv_iload_n hx hb dX16_boot_81 rfl (lv_at hl 2 rfl) ?_
    refine lv_iconst (v := 0) hx hb dX16_boot_82 (by decide) ?_
    obtain ⟨i47, h⟩ := nd_ck_e h
    refine va_iast (i := x2) (x := 0) hx hb hK hP hD hS 20 19 rfl rfl i47 dX16_boot_83 (fun H locs hP hD hS => ?_)
    obtain ⟨s48, es48, h⟩ := nd_let_e h
    have hP : va_P (dC, dI) vwCl (dw_X16 a ac s48) H := by rw [es48]; exact hP
    have hD : va_D A (dw_X16 a ac s48) := by rw [es48]; exact hD
    obtain ⟨z49, ez49, h⟩ := nd_let_e h
    refine lv_iinc (v := z49) (lv' := [(2, .int z49), (0, .ref (a 0)), (1, .int x1)]) hx hb dX16_boot_84 hl (k := 2) rfl (by rw [ez49]) (by decide) rfl (fun ls hl => ?_)
    refine lv_goto (tgt := 63) hx hb dX16_boot_87 (by decide) ?_
    exact (J63) (x1) (z49) s48 _ _ _ h hP hD hS (lv_sub hl [1, 2, 0] rfl)
set_option maxHeartbeats 40000000 in
set_option maxRecDepth 100000 in
theorem db_X16_boot_63 {p : Program} {l : Launch} {e : Env} {s : State} {m : MethodId} {args : Array Value} {below : List Frame} {meth : Method} {c : Code} {Q : State → Prop} {A : Nat → Prop} {dC : Nat → ClassId} {dI : Nat → Nat → Nat} {a : Nat → Nat} {ac : Nat → ClassId} {n : Nat} {r : St × (St)} (C : nd_C p l s m args c A (dC, dI) cX16_boot 3 RX16 ow_dm_X16_boot (dk_X16 ac)) (K : nd_Kv p l e (headSpec ow_dm_X16_boot ({ frames := 4, cells := 0, slots := 0, locals := 92 })).room s m args below meth c Q A (dC, dI) cX16_boot (St × (St)) (dw_X16 a ac) r) (k : Nat) : dj_X16_boot_63 p l e s m args below meth c Q A dC dI a ac (df_X16_boot_63 n k) r := by
  induction k with
  | zero => intro x1 x2 s0 H locs ls h; exact nomatch (show (none : Option (St × (St))) = some r from h)
  | succ k ih => exact dB_X16_boot_63 C K ih
set_option maxHeartbeats 40000000 in
set_option maxRecDepth 100000 in
theorem db_X16_boot_0 {p : Program} {l : Launch} {e : Env} {s : State} {m : MethodId} {args : Array Value} {below : List Frame} {meth : Method} {c : Code} {Q : State → Prop} {A : Nat → Prop} {dC : Nat → ClassId} {dI : Nat → Nat → Nat} {a : Nat → Nat} {ac : Nat → ClassId} {n : Nat} {r : St × (St)} (C : nd_C p l s m args c A (dC, dI) cX16_boot 3 RX16 ow_dm_X16_boot (dk_X16 ac)) (K : nd_Kv p l e (headSpec ow_dm_X16_boot ({ frames := 4, cells := 0, slots := 0, locals := 92 })).room s m args below meth c Q A (dC, dI) cX16_boot (St × (St)) (dw_X16 a ac) r) : dj_X16_boot_0 p l e s m args below meth c Q A dC dI a ac (df_X16_boot_0 n) r := by
  obtain ⟨hlt, hx, hb, hml, hown, hts, hN, hA, hK⟩ := id C
  intro v0 s0 H locs ls h hP hD hS hl
  unfold df_X16_boot_0 at h
  refine lv_aload_n hx hb dX16_boot_0 rfl (lv_at hl 0 rfl) ?_
  refine lv_aload_n hx hb dX16_boot_1 rfl (lv_at hl 0 rfl) ?_
  refine lv_aload_n hx hb dX16_boot_2 rfl (lv_at hl 0 rfl) ?_
  refine lv_aload_n hx hb dX16_boot_3 rfl (lv_at hl 0 rfl) ?_
  refine lv_iconst (v := 0) hx hb dX16_boot_4 (by decide) ?_
  refine lv_dup_x1 hx hb dX16_boot_5 rfl rfl ?_
  refine va_put (D := (dC, dI)) (ci := 17) (v := .int 0) (ty := .int) (C := RX16) (T := TX16) (N := 56) hx hb hts hi_dm_X16_boot_X16 tyX16 tyX16_ok nmX16 hown hK hP hD hS 0 rfl rfl 42 (by decide) (hts (.fieldLink RX16 122 "TimeMachineModel$Machine" "typed" "I") (List.mem_of_getElem? (i := 1) rfl)) (fun _ h9 => h9) rfl (by decide +kernel) rfl rfl (Nat.le_of_ble_eq_true rfl) dX16_boot_6 (fun H locs hP hD hS => ?_)
  obtain ⟨s1, es1, h⟩ := nd_let_e h
  have hP : va_P (dC, dI) vwCl (dw_X16 a ac s1) H := by rw [es1]; exact hP
  have hD : va_D A (dw_X16 a ac s1) := by rw [es1]; exact hD
  refine lv_dup_x1 hx hb dX16_boot_9 rfl rfl ?_
  refine va_put (D := (dC, dI)) (ci := 17) (v := .int 0) (ty := .int) (C := RX16) (T := TX16) (N := 56) hx hb hts hi_dm_X16_boot_X16 tyX16 tyX16_ok nmX16 hown hK hP hD hS 0 rfl rfl 9 (by decide) (hts (.fieldLink RX16 126 "TimeMachineModel$Machine" "waitingWords" "I") (List.mem_of_getElem? (i := 2) rfl)) (fun _ h9 => h9) rfl (by decide +kernel) rfl rfl (Nat.le_of_ble_eq_true rfl) dX16_boot_10 (fun H locs hP hD hS => ?_)
  obtain ⟨s2, es2, h⟩ := nd_let_e h
  have hP : va_P (dC, dI) vwCl (dw_X16 a ac s2) H := by rw [es2]; exact hP
  have hD : va_D A (dw_X16 a ac s2) := by rw [es2]; exact hD
  refine lv_dup_x1 hx hb dX16_boot_13 rfl rfl ?_
  refine va_put (D := (dC, dI)) (ci := 17) (v := .int 0) (ty := .int) (C := RX16) (T := TX16) (N := 56) hx hb hts hi_dm_X16_boot_X16 tyX16 tyX16_ok nmX16 hown hK hP hD hS 0 rfl rfl 29 (by decide) (hts (.fieldLink RX16 129 "TimeMachineModel$Machine" "used" "I") (List.mem_of_getElem? (i := 3) rfl)) (fun _ h9 => h9) rfl (by decide +kernel) rfl rfl (Nat.le_of_ble_eq_true rfl) dX16_boot_14 (fun H locs hP hD hS => ?_)
  obtain ⟨s3, es3, h⟩ := nd_let_e h
  have hP : va_P (dC, dI) vwCl (dw_X16 a ac s3) H := by rw [es3]; exact hP
  have hD : va_D A (dw_X16 a ac s3) := by rw [es3]; exact hD
  refine va_put (D := (dC, dI)) (ci := 17) (v := .int 0) (ty := .int) (C := RX16) (T := TX16) (N := 56) hx hb hts hi_dm_X16_boot_X16 tyX16 tyX16_ok nmX16 hown hK hP hD hS 0 rfl rfl 1 (by decide) (hts (.fieldLink RX16 132 "TimeMachineModel$Machine" "count" "I") (List.mem_of_getElem? (i := 4) rfl)) (fun _ h9 => h9) rfl (by decide +kernel) rfl rfl (Nat.le_of_ble_eq_true rfl) dX16_boot_17 (fun H locs hP hD hS => ?_)
  obtain ⟨s4, es4, h⟩ := nd_let_e h
  have hP : va_P (dC, dI) vwCl (dw_X16 a ac s4) H := by rw [es4]; exact hP
  have hD : va_D A (dw_X16 a ac s4) := by rw [es4]; exact hD
  refine lv_aload_n hx hb dX16_boot_20 rfl (lv_at hl 0 rfl) ?_
  refine lv_aload_n hx hb dX16_boot_21 rfl (lv_at hl 0 rfl) ?_
  refine lv_aload_n hx hb dX16_boot_22 rfl (lv_at hl 0 rfl) ?_
  refine lv_iconst (v := (-1)) hx hb dX16_boot_23 (by decide) ?_
  refine lv_dup_x1 hx hb dX16_boot_24 rfl rfl ?_
  refine va_put (D := (dC, dI)) (ci := 17) (v := .int (-1)) (ty := .int) (C := RX16) (T := TX16) (N := 56) hx hb hts hi_dm_X16_boot_X16 tyX16 tyX16_ok nmX16 hown hK hP hD hS 0 rfl rfl 5 (by decide) (hts (.fieldLink RX16 135 "TimeMachineModel$Machine" "reserved" "I") (List.mem_of_getElem? (i := 5) rfl)) (fun _ h9 => h9) rfl (by decide +kernel) rfl rfl (Nat.le_of_ble_eq_true rfl) dX16_boot_25 (fun H locs hP hD hS => ?_)
  obtain ⟨s5, es5, h⟩ := nd_let_e h
  have hP : va_P (dC, dI) vwCl (dw_X16 a ac s5) H := by rw [es5]; exact hP
  have hD : va_D A (dw_X16 a ac s5) := by rw [es5]; exact hD
  refine lv_dup_x1 hx hb dX16_boot_28 rfl rfl ?_
  refine va_put (D := (dC, dI)) (ci := 17) (v := .int (-1)) (ty := .int) (C := RX16) (T := TX16) (N := 56) hx hb hts hi_dm_X16_boot_X16 tyX16 tyX16_ok nmX16 hown hK hP hD hS 0 rfl rfl 4 (by decide) (hts (.fieldLink RX16 138 "TimeMachineModel$Machine" "ticked" "I") (List.mem_of_getElem? (i := 6) rfl)) (fun _ h9 => h9) rfl (by decide +kernel) rfl rfl (Nat.le_of_ble_eq_true rfl) dX16_boot_29 (fun H locs hP hD hS => ?_)
  obtain ⟨s6, es6, h⟩ := nd_let_e h
  have hP : va_P (dC, dI) vwCl (dw_X16 a ac s6) H := by rw [es6]; exact hP
  have hD : va_D A (dw_X16 a ac s6) := by rw [es6]; exact hD
  refine va_put (D := (dC, dI)) (ci := 17) (v := .int (-1)) (ty := .int) (C := RX16) (T := TX16) (N := 56) hx hb hts hi_dm_X16_boot_X16 tyX16 tyX16_ok nmX16 hown hK hP hD hS 0 rfl rfl 2 (by decide) (hts (.fieldLink RX16 141 "TimeMachineModel$Machine" "current" "I") (List.mem_of_getElem? (i := 7) rfl)) (fun _ h9 => h9) rfl (by decide +kernel) rfl rfl (Nat.le_of_ble_eq_true rfl) dX16_boot_32 (fun H locs hP hD hS => ?_)
  obtain ⟨s7, es7, h⟩ := nd_let_e h
  have hP : va_P (dC, dI) vwCl (dw_X16 a ac s7) H := by rw [es7]; exact hP
  have hD : va_D A (dw_X16 a ac s7) := by rw [es7]; exact hD
  refine lv_aload_n hx hb dX16_boot_35 rfl (lv_at hl 0 rfl) ?_
  refine lv_bipush (v := 15) hx hb dX16_boot_36 (by decide) ?_
  refine va_put (D := (dC, dI)) (ci := 17) (v := .int 15) (ty := .int) (C := RX16) (T := TX16) (N := 56) hx hb hts hi_dm_X16_boot_X16 tyX16 tyX16_ok nmX16 hown hK hP hD hS 0 rfl rfl 3 (by decide) (hts (.fieldLink RX16 144 "TimeMachineModel$Machine" "last" "I") (List.mem_of_getElem? (i := 8) rfl)) (fun _ h9 => h9) rfl (by decide +kernel) rfl rfl (Nat.le_of_ble_eq_true rfl) dX16_boot_38 (fun H locs hP hD hS => ?_)
  obtain ⟨s8, es8, h⟩ := nd_let_e h
  have hP : va_P (dC, dI) vwCl (dw_X16 a ac s8) H := by rw [es8]; exact hP
  have hD : va_D A (dw_X16 a ac s8) := by rw [es8]; exact hD
  refine lv_aload_n hx hb dX16_boot_41 rfl (lv_at hl 0 rfl) ?_
  refine lv_aload_n hx hb dX16_boot_42 rfl (lv_at hl 0 rfl) ?_
  refine lv_aload_n hx hb dX16_boot_43 rfl (lv_at hl 0 rfl) ?_
  refine lv_lconst (v := 0) hx hb dX16_boot_44 (by decide) ?_
  refine lv_dup2_x1_2 hx hb dX16_boot_45 rfl rfl ?_
  refine va_put (D := (dC, dI)) (ci := 17) (v := .long 0) (ty := .long) (C := RX16) (T := TX16) (N := 56) hx hb hts hi_dm_X16_boot_X16 tyX16 tyX16_ok nmX16 hown hK hP hD hS 0 rfl rfl 45 (by decide) (hts (.fieldLink RX16 147 "TimeMachineModel$Machine" "shown" "J") (List.mem_of_getElem? (i := 9) rfl)) (fun _ h9 => h9) rfl (by decide +kernel) rfl rfl (Nat.le_of_ble_eq_true rfl) dX16_boot_46 (fun H locs hP hD hS => ?_)
  obtain ⟨s9, es9, h⟩ := nd_let_e h
  have hP : va_P (dC, dI) vwCl (dw_X16 a ac s9) H := by rw [es9]; exact hP
  have hD : va_D A (dw_X16 a ac s9) := by rw [es9]; exact hD
  refine lv_dup2_x1_2 hx hb dX16_boot_49 rfl rfl ?_
  refine va_put (D := (dC, dI)) (ci := 17) (v := .long 0) (ty := .long) (C := RX16) (T := TX16) (N := 56) hx hb hts hi_dm_X16_boot_X16 tyX16 tyX16_ok nmX16 hown hK hP hD hS 0 rfl rfl 7 (by decide) (hts (.fieldLink RX16 151 "TimeMachineModel$Machine" "clock" "J") (List.mem_of_getElem? (i := 10) rfl)) (fun _ h9 => h9) rfl (by decide +kernel) rfl rfl (Nat.le_of_ble_eq_true rfl) dX16_boot_50 (fun H locs hP hD hS => ?_)
  obtain ⟨s10, es10, h⟩ := nd_let_e h
  have hP : va_P (dC, dI) vwCl (dw_X16 a ac s10) H := by rw [es10]; exact hP
  have hD : va_D A (dw_X16 a ac s10) := by rw [es10]; exact hD
  refine va_put (D := (dC, dI)) (ci := 17) (v := .long 0) (ty := .long) (C := RX16) (T := TX16) (N := 56) hx hb hts hi_dm_X16_boot_X16 tyX16 tyX16_ok nmX16 hown hK hP hD hS 0 rfl rfl 6 (by decide) (hts (.fieldLink RX16 154 "TimeMachineModel$Machine" "retired" "J") (List.mem_of_getElem? (i := 11) rfl)) (fun _ h9 => h9) rfl (by decide +kernel) rfl rfl (Nat.le_of_ble_eq_true rfl) dX16_boot_53 (fun H locs hP hD hS => ?_)
  obtain ⟨s11, es11, h⟩ := nd_let_e h
  have hP : va_P (dC, dI) vwCl (dw_X16 a ac s11) H := by rw [es11]; exact hP
  have hD : va_D A (dw_X16 a ac s11) := by rw [es11]; exact hD
  refine lv_aload_n hx hb dX16_boot_56 rfl (lv_at hl 0 rfl) ?_
  refine lv_iconst (v := (-1)) hx hb dX16_boot_57 (by decide) ?_
  refine va_put (D := (dC, dI)) (ci := 17) (v := .int (-1)) (ty := .int) (C := RX16) (T := TX16) (N := 56) hx hb hts hi_dm_X16_boot_X16 tyX16 tyX16_ok nmX16 hown hK hP hD hS 0 rfl rfl 53 (by decide) (hts (.fieldLink RX16 157 "TimeMachineModel$Machine" "watched" "I") (List.mem_of_getElem? (i := 12) rfl)) (fun _ h9 => h9) rfl (by decide +kernel) rfl rfl (Nat.le_of_ble_eq_true rfl) dX16_boot_58 (fun H locs hP hD hS => ?_)
  obtain ⟨s12, es12, h⟩ := nd_let_e h
  have hP : va_P (dC, dI) vwCl (dw_X16 a ac s12) H := by rw [es12]; exact hP
  have hD : va_D A (dw_X16 a ac s12) := by rw [es12]; exact hD
  refine lv_iconst (v := 0) hx hb dX16_boot_61 (by decide) ?_
  refine lv_istore_n (lv' := [(2, .int 0), (0, .ref (a 0)), (1, .int v0)]) hx hb dX16_boot_62 rfl hl (by decide) rfl (fun ls hl => ?_)
  exact (db_X16_boot_63 C K n) (v0) (0) s12 _ _ _ h hP hD hS (lv_sub hl [1, 2, 0] rfl)
set_option maxHeartbeats 40000000 in
set_option maxRecDepth 100000 in
theorem dm_X16_boot (l : Launch) (hlt : l.stackTraces = false) (dC : Nat → ClassId) (dI : Nat → Nat → Nat) (a : Nat → Nat) (ac : Nat → ClassId) (n : Nat) (v0 : Int32) (s0 : St × (St)) {r : St × (St)} (h : df_X16_boot n v0 s0 = some r) (sz : Nat) : Met l yX16_boot ow_dm_X16_boot ({ frames := 4, cells := 0, slots := 0, locals := 92 }) (va_Pc [.ref (a 0), .int v0] (fun U => U.heap.size = sz ∧ va_P (dC, dI) vwCl (dw_X16 a ac s0) U.heap ∧ va_K (dC, dI) vwCl (dk_X16 ac) U ∧ va_D (fun _ => True) (dw_X16 a ac s0) ∧ nv_E dI (va_A (dw_X16 a ac s0) sz) U)) (va_Qv (fun _ => True) (fun (_ : Unit) t => va_P (dC, dI) vwCl (dw_X16 a ac r) t.heap ∧ va_K (dC, dI) vwCl (dk_X16 ac) t ∧ va_D (va_A (dw_X16 a ac s0) sz) (dw_X16 a ac r)) (va_A (dw_X16 a ac s0) sz)) 0 0 (va_A (dw_X16 a ac s0) sz) := by
  refine Met.ofW (cc := cX16_boot) (maxL := 3) (ret := none) (by decide) rfl ?_
  intro p e s m args below meth c s₁ B hml hv
  obtain ⟨rfl, hsz, hP, hK, hD0, hN⟩ := hv
  have hx := B.exec
  have hb := B.bytes
  have hr := B.returns
  have hts := atoms_spec (ws := ow_dm_X16_boot) B.pre
  have hown : s.vm.findClass RX16 = some m.cls := findClass_of_methodNamed B.named
  have hlocks := B.notSynchronized
  subst hsz
  have hD := hD0.self (sz := s.heap.size)
  generalize hAe : va_A (dw_X16 a ac s0) s.heap.size = A at hD hN ⊢
  have hA : ∀ q : Nat, s.heap.size ≤ q → A q := fun q h => by rw [← hAe]; exact Or.inr h
  have hl := lv_entry ([.ref (a 0), .int v0]) (n := 3) (Nat.le_of_ble_eq_true rfl)
  rw [lg_entry_eq]
  generalize (lg_sl ([.ref (a 0), .int v0]) ++ List.replicate (3 - (lg_sl ([.ref (a 0), .int v0])).length) Slot.unset).toArray = ls at hl ⊢
  have hl : lv_has ls 3 [(0, .ref (a 0)), (1, .int v0)] := hl
  exact db_X16_boot_0 (dC := dC) (dI := dI) (a := a) (ac := ac) (n := n) (r := r) ⟨hlt, hx, hb, hml, hown, hts, hN, hA, hK⟩ (fun pc τ H locs ls d er hP hD hS => by subst er; exact W.vret hx hb hr (fun t ht hW => ⟨⟨(), rfl, trivial, by rw [ht]; exact hP, va_K.moved hW.alike hK, hD⟩, hS.F ht⟩) hS.2.2 d) v0 s0 _ _ _ h hP hD va_S.rf (lv_sub hl [0, 1] rfl)
def ow_dm_X16_pagesOf : List Cond := Cond.code yX16_pagesOf cX16_pagesOf 2 (some .int) :: ([Cond.fieldLink RX16 118 "TimeMachineModel$Machine" "programs" "LTimeMachineModel$Programs;", Cond.methodLink RX16 182 yX17_dataSize, Cond.instanceMethod yX17_dataSize, Cond.selects RX17 yX17_dataSize yX17_dataSize, Cond.initialized RX17] ++ (u_ws RX16 TX16 56 ++ (u_ws RX17 TX17 5 ++ (ow_dm_X17_dataSize ++ []))))
theorem gd_dm_X16_pagesOf : ∀ w ∈ ow_dm_X16_pagesOf, (w.onTables && w.keeps) = true ∨ ∃ ty, w = Cond.arrayClass ty := List.forall_mem_cons.mpr ⟨good_of_word rfl, List.forall_mem_append.mpr ⟨fun w h => good_of_word (List.all_eq_true.mp (by decide +kernel) w h), List.forall_mem_append.mpr ⟨gu_X16, List.forall_mem_append.mpr ⟨gu_X17, List.forall_mem_append.mpr ⟨gd_dm_X17_dataSize, fun _ h => nomatch h⟩⟩⟩⟩⟩
theorem hi_dm_X16_pagesOf_X16 : ∀ w ∈ u_ws RX16 TX16 56, w ∈ ow_dm_X16_pagesOf := fun w h => List.mem_cons_of_mem _ (List.mem_append_right _ (List.mem_append_left _ h))
theorem hi_dm_X16_pagesOf_X17 : ∀ w ∈ u_ws RX17 TX17 5, w ∈ ow_dm_X16_pagesOf := fun w h => List.mem_cons_of_mem _ (List.mem_append_right _ (List.mem_append_right _ (List.mem_append_left _ h)))
theorem gi_dm_X16_pagesOf_0 : GoodIn ow_dm_X16_pagesOf (wsV RX16 182 RX17 yX17_dataSize ow_dm_X17_dataSize) := goodIn_app (goodIn_of _ (by decide +kernel)) (fun w h => ⟨List.mem_cons_of_mem _ (List.mem_append_right _ (List.mem_append_right _ (List.mem_append_right _ (List.mem_append_left _ h)))), gd_dm_X17_dataSize w h⟩)
def dj_X16_pagesOf_0 (p : Program) (l : Launch) (e : Env) (s : State) (m : MethodId) (args : Array Value) (below : List Frame) (meth : Method) (c : Code) (Q : State → Prop) (A : Nat → Prop) (dC : Nat → ClassId) (dI : Nat → Nat → Nat) (a : Nat → Nat) (ac : Nat → ClassId) (g : Int32 → (St × (St)) → Option (Int32 × (St × (St)))) (r : Int32 × (St × (St))) : Prop := ∀ (v0 : Int32) (s0 : St × (St)) (H : Heap) (locs : List Loc) (ls : Array Slot), g v0 s0 = some r → va_P (dC, dI) vwCl (dw_X16 a ac s0) H → va_D A (dw_X16 a ac s0) → va_S A s.heap H locs → lv_has ls 2 [(0, .ref (a 0)), (1, .int v0)] → W p l e (headSpec ow_dm_X16_pagesOf ({ frames := 1, cells := 0, slots := 0, locals := 21 })).room s m args below meth c H locs 0 0 Q (F0 m 0 ls [])
set_option maxHeartbeats 40000000 in
set_option maxRecDepth 100000 in
theorem db_X16_pagesOf_0 {p : Program} {l : Launch} {e : Env} {s : State} {m : MethodId} {args : Array Value} {below : List Frame} {meth : Method} {c : Code} {Q : State → Prop} {A : Nat → Prop} {dC : Nat → ClassId} {dI : Nat → Nat → Nat} {a : Nat → Nat} {ac : Nat → ClassId} {n : Nat} {r : Int32 × (St × (St))} (C : nd_C p l s m args c A (dC, dI) cX16_pagesOf 2 RX16 ow_dm_X16_pagesOf (dk_X16 ac)) (K : nd_Ki p l e (headSpec ow_dm_X16_pagesOf ({ frames := 1, cells := 0, slots := 0, locals := 21 })).room s m args below meth c Q A (dC, dI) cX16_pagesOf .int (St × (St)) (dw_X16 a ac) r) : dj_X16_pagesOf_0 p l e s m args below meth c Q A dC dI a ac (df_X16_pagesOf_0 n) r := by
  obtain ⟨hlt, hx, hb, hml, hown, hts, hN, hA, hK⟩ := id C
  intro v0 s0 H locs ls h hP hD hS hl
  unfold df_X16_pagesOf_0 at h
  refine lv_aload_n hx hb dX16_pagesOf_0 rfl (lv_at hl 0 rfl) ?_
  refine va_get (D := (dC, dI)) (ci := 17) (v := .ref (a 36)) (C := RX16) (T := TX16) (N := 56) hx hb hts hi_dm_X16_pagesOf_X16 hown hK hP 0 rfl rfl 0 (by decide) (hts (.fieldLink RX16 118 "TimeMachineModel$Machine" "programs" "LTimeMachineModel$Programs;") (List.mem_of_getElem? (i := 1) rfl)) (fun _ h9 => h9) rfl dX16_pagesOf_1 ?_
  refine va_getN (D := (dC, dI)) (ci := 18) (v := .ref (a 38)) (C := RX17) (T := TX17) (N := 5) hx hb hts hi_dm_X16_pagesOf_X17 hown hK hP 36 rfl rfl 1 (by decide) (va_Nw.use rfl (hN.1 ("TimeMachineModel$Machine", 177, "TimeMachineModel$Programs", "textSize", "[I", "TimeMachineModel") (by decide))) (fun _ h9 => h9) rfl dX16_pagesOf_4 ?_
  refine lv_iload_n hx hb dX16_pagesOf_7 rfl (lv_at hl 1 rfl) ?_
  obtain ⟨i1, h⟩ := nd_ck_e h
  refine va_iald (i := v0) hx hb hK hP 38 36 rfl rfl i1 dX16_pagesOf_8 ?_
  refine lv_sipush (v := 1023) hx hb dX16_pagesOf_9 (by decide) ?_
  refine lv_iadd hx hb dX16_pagesOf_12 ?_
  refine lv_sipush (v := 1024) hx hb dX16_pagesOf_13 (by decide) ?_
  refine lv_idiv hx hb dX16_pagesOf_16 (by decide) ?_
  refine lv_aload_n hx hb dX16_pagesOf_17 rfl (lv_at hl 0 rfl) ?_
  refine va_get (D := (dC, dI)) (ci := 17) (v := .ref (a 36)) (C := RX16) (T := TX16) (N := 56) hx hb hts hi_dm_X16_pagesOf_X16 hown hK hP 0 rfl rfl 0 (by decide) (hts (.fieldLink RX16 118 "TimeMachineModel$Machine" "programs" "LTimeMachineModel$Programs;") (List.mem_of_getElem? (i := 1) rfl)) (fun _ h9 => h9) rfl dX16_pagesOf_18 ?_
  refine lv_iload_n hx hb dX16_pagesOf_21 rfl (lv_at hl 1 rfl) ?_
  obtain ⟨q2, s3, hq, h⟩ := nd_b2_e h
  have hPc := dp_X16_36 hP
  have hDc := dd_X16_36 hD
  have hKc := dy_X16_36 hK
  have hFc := nd_rs hDc hS hA
  have hzA : ∀ q : Nat, H.size ≤ q → A q := fun q h => hA q (Nat.le_trans hS.1 h)
  refine nd_cVi (As := [.int v0]) (rest := [.int ((((sR s0.2 1 (Int32.toNatClampNeg v0)) + 1023) : Int32) / 1024)]) (q := q2) (w' := dw_X17 (fun k => a (k + 36)) (fun k => ac (k + 36)) s3) ⟨hx, hb, hml, hown, hts⟩ (fun sz => dm_X17_dataSize l hlt dC dI (fun k => a (k + 36)) (fun k => ac (k + 36)) n (v0) s0.2 hq sz) (cwV 1 hts gi_dm_X16_pagesOf_0 rfl rfl rfl (by decide +kernel) ⟨Nat.le_of_ble_eq_true rfl, Nat.le_of_ble_eq_true rfl⟩) hPc hDc hKc hS hA hN (va_recv hKc hPc (ci := 18) (q0 := 0) rfl rfl) rfl hl.1 rfl (Nat.le_of_ble_eq_true rfl) dX16_pagesOf_22 (fun H locs hP1 hD1 hk1 hS => ?_)
  obtain ⟨hP, hD⟩ := dn_X16_36 hP hD hzA hk1 hP1 hD1
  obtain ⟨s5, es5, h⟩ := nd_let_e h
  have hP : va_P (dC, dI) vwCl (dw_X16 a ac s5) H := by rw [es5]; exact hP
  have hD : va_D A (dw_X16 a ac s5) := by rw [es5]; exact hD
  refine lv_sipush (v := 1023) hx hb dX16_pagesOf_25 (by decide) ?_
  refine lv_iadd hx hb dX16_pagesOf_28 ?_
  refine lv_sipush (v := 1024) hx hb dX16_pagesOf_29 (by decide) ?_
  refine lv_idiv hx hb dX16_pagesOf_32 (by decide) ?_
  refine lv_iadd hx hb dX16_pagesOf_33 ?_
  refine lv_iconst (v := 4) hx hb dX16_pagesOf_34 (by decide) ?_
  refine lv_iadd hx hb dX16_pagesOf_35 ?_
  exact K _ _ _ _ _ _ dX16_pagesOf_36 rfl (Option.some.inj h).symm hP hD hS
set_option maxHeartbeats 40000000 in
set_option maxRecDepth 100000 in
theorem dm_X16_pagesOf (l : Launch) (hlt : l.stackTraces = false) (dC : Nat → ClassId) (dI : Nat → Nat → Nat) (a : Nat → Nat) (ac : Nat → ClassId) (n : Nat) (v0 : Int32) (s0 : St × (St)) {r : Int32 × (St × (St))} (h : df_X16_pagesOf n v0 s0 = some r) (sz : Nat) : Met l yX16_pagesOf ow_dm_X16_pagesOf ({ frames := 1, cells := 0, slots := 0, locals := 21 }) (va_Pc [.ref (a 0), .int v0] (fun U => U.heap.size = sz ∧ va_P (dC, dI) vwCl (dw_X16 a ac s0) U.heap ∧ va_K (dC, dI) vwCl (dk_X16 ac) U ∧ va_D (fun _ => True) (dw_X16 a ac s0) ∧ nv_E dI (va_A (dw_X16 a ac s0) sz) U)) (va_Qi (fun x _ => x = r.1) (fun (_ : Unit) t => va_P (dC, dI) vwCl (dw_X16 a ac r.2) t.heap ∧ va_K (dC, dI) vwCl (dk_X16 ac) t ∧ va_D (va_A (dw_X16 a ac s0) sz) (dw_X16 a ac r.2)) (va_A (dw_X16 a ac s0) sz)) 0 0 (va_A (dw_X16 a ac s0) sz) := by
  refine Met.ofW (cc := cX16_pagesOf) (maxL := 2) (ret := (some .int)) (by decide) rfl ?_
  intro p e s m args below meth c s₁ B hml hv
  obtain ⟨rfl, hsz, hP, hK, hD0, hN⟩ := hv
  have hx := B.exec
  have hb := B.bytes
  have hr := B.returns
  have hts := atoms_spec (ws := ow_dm_X16_pagesOf) B.pre
  have hown : s.vm.findClass RX16 = some m.cls := findClass_of_methodNamed B.named
  have hlocks := B.notSynchronized
  subst hsz
  have hD := hD0.self (sz := s.heap.size)
  generalize hAe : va_A (dw_X16 a ac s0) s.heap.size = A at hD hN ⊢
  have hA : ∀ q : Nat, s.heap.size ≤ q → A q := fun q h => by rw [← hAe]; exact Or.inr h
  have hl := lv_entry ([.ref (a 0), .int v0]) (n := 2) (Nat.le_of_ble_eq_true rfl)
  rw [lg_entry_eq]
  generalize (lg_sl ([.ref (a 0), .int v0]) ++ List.replicate (2 - (lg_sl ([.ref (a 0), .int v0])).length) Slot.unset).toArray = ls at hl ⊢
  have hl : lv_has ls 2 [(0, .ref (a 0)), (1, .int v0)] := hl
  exact db_X16_pagesOf_0 (dC := dC) (dI := dI) (a := a) (ac := ac) (n := n) (r := r) ⟨hlt, hx, hb, hml, hown, hts, hN, hA, hK⟩ (fun pc v τ H locs ls d z er hP hD hS => by subst er; exact W.zret (v := v) hx hb hr z (fun t ht hW => ⟨⟨v, (), rfl, rfl, by rw [ht]; exact hP, va_K.moved hW.alike hK, hD⟩, hS.F ht⟩) hS.2.2 d) v0 s0 _ _ _ h hP hD va_S.rf (lv_sub hl [0, 1] rfl)
def ow_dm_X16_leave : List Cond := Cond.code yX16_leave cX16_leave 3 none :: ([Cond.fieldLink RX16 64 "TimeMachineModel$Machine" "frame" "[I", Cond.fieldLink RX16 70 "TimeMachineModel$Machine" "holders" "[I", Cond.fieldLink RX16 129 "TimeMachineModel$Machine" "used" "I"] ++ (u_ws RX16 TX16 56 ++ []))
theorem gd_dm_X16_leave : ∀ w ∈ ow_dm_X16_leave, (w.onTables && w.keeps) = true ∨ ∃ ty, w = Cond.arrayClass ty := List.forall_mem_cons.mpr ⟨good_of_word rfl, List.forall_mem_append.mpr ⟨fun w h => good_of_word (List.all_eq_true.mp (by decide +kernel) w h), List.forall_mem_append.mpr ⟨gu_X16, fun _ h => nomatch h⟩⟩⟩
theorem hi_dm_X16_leave_X16 : ∀ w ∈ u_ws RX16 TX16 56, w ∈ ow_dm_X16_leave := fun w h => List.mem_cons_of_mem _ (List.mem_append_right _ (List.mem_append_left _ h))
def dj_X16_leave_49 (p : Program) (l : Launch) (e : Env) (s : State) (m : MethodId) (args : Array Value) (below : List Frame) (meth : Method) (c : Code) (Q : State → Prop) (A : Nat → Prop) (dC : Nat → ClassId) (dI : Nat → Nat → Nat) (a : Nat → Nat) (ac : Nat → ClassId) (g : (St × (St)) → Option (St × (St))) (r : St × (St)) : Prop := ∀ (s0 : St × (St)) (H : Heap) (locs : List Loc) (ls : Array Slot), g s0 = some r → va_P (dC, dI) vwCl (dw_X16 a ac s0) H → va_D A (dw_X16 a ac s0) → va_S A s.heap H locs → lv_has ls 3 [] → W p l e (headSpec ow_dm_X16_leave ({ frames := 0, cells := 0, slots := 0, locals := 0 })).room s m args below meth c H locs 0 0 Q (F0 m 49 ls [])
def dj_X16_leave_0 (p : Program) (l : Launch) (e : Env) (s : State) (m : MethodId) (args : Array Value) (below : List Frame) (meth : Method) (c : Code) (Q : State → Prop) (A : Nat → Prop) (dC : Nat → ClassId) (dI : Nat → Nat → Nat) (a : Nat → Nat) (ac : Nat → ClassId) (g : Int32 → (St × (St)) → Option (St × (St))) (r : St × (St)) : Prop := ∀ (v0 : Int32) (s0 : St × (St)) (H : Heap) (locs : List Loc) (ls : Array Slot), g v0 s0 = some r → va_P (dC, dI) vwCl (dw_X16 a ac s0) H → va_D A (dw_X16 a ac s0) → va_S A s.heap H locs → lv_has ls 3 [(0, .ref (a 0)), (1, .int v0)] → W p l e (headSpec ow_dm_X16_leave ({ frames := 0, cells := 0, slots := 0, locals := 0 })).room s m args below meth c H locs 0 0 Q (F0 m 0 ls [])
set_option maxHeartbeats 40000000 in
set_option maxRecDepth 100000 in
theorem db_X16_leave_49 {p : Program} {l : Launch} {e : Env} {s : State} {m : MethodId} {args : Array Value} {below : List Frame} {meth : Method} {c : Code} {Q : State → Prop} {A : Nat → Prop} {dC : Nat → ClassId} {dI : Nat → Nat → Nat} {a : Nat → Nat} {ac : Nat → ClassId} {n : Nat} {r : St × (St)} (C : nd_C p l s m args c A (dC, dI) cX16_leave 3 RX16 ow_dm_X16_leave (dk_X16 ac)) (K : nd_Kv p l e (headSpec ow_dm_X16_leave ({ frames := 0, cells := 0, slots := 0, locals := 0 })).room s m args below meth c Q A (dC, dI) cX16_leave (St × (St)) (dw_X16 a ac) r) : dj_X16_leave_49 p l e s m args below meth c Q A dC dI a ac (df_X16_leave_49 n) r := by
  obtain ⟨hlt, hx, hb, hml, hown, hts, hN, hA, hK⟩ := id C
  intro s0 H locs ls h hP hD hS hl
  unfold df_X16_leave_49 at h
  exact K _ _ _ _ _ dX16_leave_49 (Option.some.inj h).symm hP hD hS
set_option maxHeartbeats 40000000 in
set_option maxRecDepth 100000 in
theorem db_X16_leave_0 {p : Program} {l : Launch} {e : Env} {s : State} {m : MethodId} {args : Array Value} {below : List Frame} {meth : Method} {c : Code} {Q : State → Prop} {A : Nat → Prop} {dC : Nat → ClassId} {dI : Nat → Nat → Nat} {a : Nat → Nat} {ac : Nat → ClassId} {n : Nat} {r : St × (St)} (C : nd_C p l s m args c A (dC, dI) cX16_leave 3 RX16 ow_dm_X16_leave (dk_X16 ac)) (K : nd_Kv p l e (headSpec ow_dm_X16_leave ({ frames := 0, cells := 0, slots := 0, locals := 0 })).room s m args below meth c Q A (dC, dI) cX16_leave (St × (St)) (dw_X16 a ac) r) : dj_X16_leave_0 p l e s m args below meth c Q A dC dI a ac (df_X16_leave_0 n) r := by
  obtain ⟨hlt, hx, hb, hml, hown, hts, hN, hA, hK⟩ := id C
  intro v0 s0 H locs ls h hP hD hS hl
  unfold df_X16_leave_0 at h
  refine lv_aload_n hx hb dX16_leave_0 rfl (lv_at hl 0 rfl) ?_
  refine va_get (D := (dC, dI)) (ci := 17) (v := .ref (a 18)) (C := RX16) (T := TX16) (N := 56) hx hb hts hi_dm_X16_leave_X16 hown hK hP 0 rfl rfl 26 (by decide) (hts (.fieldLink RX16 64 "TimeMachineModel$Machine" "frame" "[I") (List.mem_of_getElem? (i := 1) rfl)) (fun _ h9 => h9) rfl dX16_leave_1 ?_
  refine lv_iload_n hx hb dX16_leave_4 rfl (lv_at hl 1 rfl) ?_
  obtain ⟨i1, h⟩ := nd_ck_e h
  refine va_iald (i := v0) hx hb hK hP 18 17 rfl rfl i1 dX16_leave_5 ?_
  refine lv_topi (fun z2 ez2 => ?_)
  have h := nd_at h ez2
  refine lv_istore_n (lv' := [(2, .int z2), (0, .ref (a 0)), (1, .int v0)]) hx hb dX16_leave_6 rfl hl (by decide) rfl (fun ls hl => ?_)
  refine lv_iload_n hx hb dX16_leave_7 rfl (lv_at hl 0 rfl) ?_
  refine lv_iconst (v := (-1)) hx hb dX16_leave_8 (by decide) ?_
  refine lv_icmp_ne (tgt := 13) hx hb dX16_leave_9 (by decide) (fun c3 => ?_) (fun c3 => ?_)
  · have h := nd_neg h c3
    refine lv_aload_n hx hb dX16_leave_13 rfl (lv_at hl 1 rfl) ?_
    refine va_get (D := (dC, dI)) (ci := 17) (v := .ref (a 18)) (C := RX16) (T := TX16) (N := 56) hx hb hts hi_dm_X16_leave_X16 hown hK hP 0 rfl rfl 26 (by decide) (hts (.fieldLink RX16 64 "TimeMachineModel$Machine" "frame" "[I") (List.mem_of_getElem? (i := 1) rfl)) (fun _ h9 => h9) rfl dX16_leave_14 ?_
    refine lv_iload_n hx hb dX16_leave_17 rfl (lv_at hl 2 rfl) ?_
    refine lv_iconst (v := (-1)) hx hb dX16_leave_18 (by decide) ?_
    obtain ⟨i4, h⟩ := nd_ck_e h
    refine va_iast (i := v0) (x := (-1)) hx hb hK hP hD hS 18 17 rfl rfl i4 dX16_leave_19 (fun H locs hP hD hS => ?_)
    obtain ⟨s5, es5, h⟩ := nd_let_e h
    have hP : va_P (dC, dI) vwCl (dw_X16 a ac s5) H := by rw [es5]; exact hP
    have hD : va_D A (dw_X16 a ac s5) := by rw [es5]; exact hD
    refine lv_aload_n hx hb dX16_leave_20 rfl (lv_at hl 1 rfl) ?_
    refine va_get (D := (dC, dI)) (ci := 17) (v := .ref (a 20)) (C := RX16) (T := TX16) (N := 56) hx hb hts hi_dm_X16_leave_X16 hown hK hP 0 rfl rfl 28 (by decide) (hts (.fieldLink RX16 70 "TimeMachineModel$Machine" "holders" "[I") (List.mem_of_getElem? (i := 2) rfl)) (fun _ h9 => h9) rfl dX16_leave_21 ?_
    refine lv_iload_n hx hb dX16_leave_24 rfl (lv_at hl 0 rfl) ?_
    refine lv_dup2_11 hx hb dX16_leave_25 rfl rfl ?_
    obtain ⟨i6, h⟩ := nd_ck_e h
    refine va_iald (i := z2) hx hb hK hP 20 19 rfl rfl i6 dX16_leave_26 ?_
    refine lv_iconst (v := 1) hx hb dX16_leave_27 (by decide) ?_
    refine lv_isub hx hb dX16_leave_28 ?_
    obtain ⟨i7, h⟩ := nd_ck_e h
    refine va_iast (i := z2) (x := ((sR s5.1 18 (Int32.toNatClampNeg z2)) - 1)) hx hb hK hP hD hS 20 19 rfl rfl i7 dX16_leave_29 (fun H locs hP hD hS => ?_)
    obtain ⟨s8, es8, h⟩ := nd_let_e h
    have hP : va_P (dC, dI) vwCl (dw_X16 a ac s8) H := by rw [es8]; exact hP
    have hD : va_D A (dw_X16 a ac s8) := by rw [es8]; exact hD
    refine lv_aload_n hx hb dX16_leave_30 rfl (lv_at hl 1 rfl) ?_
    refine va_get (D := (dC, dI)) (ci := 17) (v := .ref (a 20)) (C := RX16) (T := TX16) (N := 56) hx hb hts hi_dm_X16_leave_X16 hown hK hP 0 rfl rfl 28 (by decide) (hts (.fieldLink RX16 70 "TimeMachineModel$Machine" "holders" "[I") (List.mem_of_getElem? (i := 2) rfl)) (fun _ h9 => h9) rfl dX16_leave_31 ?_
    refine lv_iload_n hx hb dX16_leave_34 rfl (lv_at hl 0 rfl) ?_
    obtain ⟨i9, h⟩ := nd_ck_e h
    refine va_iald (i := z2) hx hb hK hP 20 19 rfl rfl i9 dX16_leave_35 ?_
    refine lv_if_ne (tgt := 49) hx hb dX16_leave_36 (by decide) (fun c10 => ?_) (fun c10 => ?_)
    · have h := nd_neg h c10
      exact (db_X16_leave_49 C K)  s8 _ _ _ h hP hD hS (lv_sub hl [] rfl)
    · have h := nd_pos h c10
      refine lv_aload_n hx hb dX16_leave_39 rfl (lv_at hl 1 rfl) ?_
      refine lv_dup hx hb dX16_leave_40 rfl ?_
      refine va_get (D := (dC, dI)) (ci := 17) (v := .int (sI s8.1 6)) (C := RX16) (T := TX16) (N := 56) hx hb hts hi_dm_X16_leave_X16 hown hK hP 0 rfl rfl 29 (by decide) (hts (.fieldLink RX16 129 "TimeMachineModel$Machine" "used" "I") (List.mem_of_getElem? (i := 3) rfl)) (fun _ h9 => h9) rfl dX16_leave_41 ?_
      refine lv_iconst (v := 1) hx hb dX16_leave_44 (by decide) ?_
      refine lv_isub hx hb dX16_leave_45 ?_
      refine va_put (D := (dC, dI)) (ci := 17) (v := .int ((sI s8.1 6) - 1)) (ty := .int) (C := RX16) (T := TX16) (N := 56) hx hb hts hi_dm_X16_leave_X16 tyX16 tyX16_ok nmX16 hown hK hP hD hS 0 rfl rfl 29 (by decide) (hts (.fieldLink RX16 129 "TimeMachineModel$Machine" "used" "I") (List.mem_of_getElem? (i := 3) rfl)) (fun _ h9 => h9) rfl (by decide +kernel) rfl rfl (Nat.le_of_ble_eq_true rfl) dX16_leave_46 (fun H locs hP hD hS => ?_)
      obtain ⟨s11, es11, h⟩ := nd_let_e h
      have hP : va_P (dC, dI) vwCl (dw_X16 a ac s11) H := by rw [es11]; exact hP
      have hD : va_D A (dw_X16 a ac s11) := by rw [es11]; exact hD
      exact (db_X16_leave_49 C K)  s11 _ _ _ h hP hD hS (lv_sub hl [] rfl)
  · have h := nd_pos h c3
    exact K _ _ _ _ _ dX16_leave_12 (Option.some.inj h).symm hP hD hS
set_option maxHeartbeats 40000000 in
set_option maxRecDepth 100000 in
theorem dm_X16_leave (l : Launch) (hlt : l.stackTraces = false) (dC : Nat → ClassId) (dI : Nat → Nat → Nat) (a : Nat → Nat) (ac : Nat → ClassId) (n : Nat) (v0 : Int32) (s0 : St × (St)) {r : St × (St)} (h : df_X16_leave n v0 s0 = some r) (sz : Nat) : Met l yX16_leave ow_dm_X16_leave ({ frames := 0, cells := 0, slots := 0, locals := 0 }) (va_Pc [.ref (a 0), .int v0] (fun U => U.heap.size = sz ∧ va_P (dC, dI) vwCl (dw_X16 a ac s0) U.heap ∧ va_K (dC, dI) vwCl (dk_X16 ac) U ∧ va_D (fun _ => True) (dw_X16 a ac s0) ∧ nv_E dI (va_A (dw_X16 a ac s0) sz) U)) (va_Qv (fun _ => True) (fun (_ : Unit) t => va_P (dC, dI) vwCl (dw_X16 a ac r) t.heap ∧ va_K (dC, dI) vwCl (dk_X16 ac) t ∧ va_D (va_A (dw_X16 a ac s0) sz) (dw_X16 a ac r)) (va_A (dw_X16 a ac s0) sz)) 0 0 (va_A (dw_X16 a ac s0) sz) := by
  refine Met.ofW (cc := cX16_leave) (maxL := 3) (ret := none) (by decide) rfl ?_
  intro p e s m args below meth c s₁ B hml hv
  obtain ⟨rfl, hsz, hP, hK, hD0, hN⟩ := hv
  have hx := B.exec
  have hb := B.bytes
  have hr := B.returns
  have hts := atoms_spec (ws := ow_dm_X16_leave) B.pre
  have hown : s.vm.findClass RX16 = some m.cls := findClass_of_methodNamed B.named
  have hlocks := B.notSynchronized
  subst hsz
  have hD := hD0.self (sz := s.heap.size)
  generalize hAe : va_A (dw_X16 a ac s0) s.heap.size = A at hD hN ⊢
  have hA : ∀ q : Nat, s.heap.size ≤ q → A q := fun q h => by rw [← hAe]; exact Or.inr h
  have hl := lv_entry ([.ref (a 0), .int v0]) (n := 3) (Nat.le_of_ble_eq_true rfl)
  rw [lg_entry_eq]
  generalize (lg_sl ([.ref (a 0), .int v0]) ++ List.replicate (3 - (lg_sl ([.ref (a 0), .int v0])).length) Slot.unset).toArray = ls at hl ⊢
  have hl : lv_has ls 3 [(0, .ref (a 0)), (1, .int v0)] := hl
  exact db_X16_leave_0 (dC := dC) (dI := dI) (a := a) (ac := ac) (n := n) (r := r) ⟨hlt, hx, hb, hml, hown, hts, hN, hA, hK⟩ (fun pc τ H locs ls d er hP hD hS => by subst er; exact W.vret hx hb hr (fun t ht hW => ⟨⟨(), rfl, trivial, by rw [ht]; exact hP, va_K.moved hW.alike hK, hD⟩, hS.F ht⟩) hS.2.2 d) v0 s0 _ _ _ h hP hD va_S.rf (lv_sub hl [0, 1] rfl)
def ow_dm_X16_leaveAll : List Cond := Cond.code yX16_leaveAll cX16_leaveAll 3 none :: ([Cond.methodLink RX16 211 yX16_leave, Cond.instanceMethod yX16_leave, Cond.selects RX16 yX16_leave yX16_leave, Cond.initialized RX16] ++ (ow_dm_X16_leave ++ []))
theorem gd_dm_X16_leaveAll : ∀ w ∈ ow_dm_X16_leaveAll, (w.onTables && w.keeps) = true ∨ ∃ ty, w = Cond.arrayClass ty := List.forall_mem_cons.mpr ⟨good_of_word rfl, List.forall_mem_append.mpr ⟨fun w h => good_of_word (List.all_eq_true.mp (by decide +kernel) w h), List.forall_mem_append.mpr ⟨gd_dm_X16_leave, fun _ h => nomatch h⟩⟩⟩
theorem gi_dm_X16_leaveAll_0 : GoodIn ow_dm_X16_leaveAll (wsV RX16 211 RX16 yX16_leave ow_dm_X16_leave) := goodIn_app (goodIn_of _ (by decide +kernel)) (fun w h => ⟨List.mem_cons_of_mem _ (List.mem_append_right _ (List.mem_append_left _ h)), gd_dm_X16_leave w h⟩)
def dj_X16_leaveAll_2 (p : Program) (l : Launch) (e : Env) (s : State) (m : MethodId) (args : Array Value) (below : List Frame) (meth : Method) (c : Code) (Q : State → Prop) (A : Nat → Prop) (dC : Nat → ClassId) (dI : Nat → Nat → Nat) (a : Nat → Nat) (ac : Nat → ClassId) (g : Int32 → Int32 → (St × (St)) → Option (St × (St))) (r : St × (St)) : Prop := ∀ (x1 : Int32) (x2 : Int32) (s0 : St × (St)) (H : Heap) (locs : List Loc) (ls : Array Slot), g x1 x2 s0 = some r → va_P (dC, dI) vwCl (dw_X16 a ac s0) H → va_D A (dw_X16 a ac s0) → va_S A s.heap H locs → lv_has ls 3 [(0, .ref (a 0)), (1, .int x1), (2, .int x2)] → W p l e (headSpec ow_dm_X16_leaveAll ({ frames := 1, cells := 0, slots := 0, locals := 22 })).room s m args below meth c H locs 0 0 Q (F0 m 2 ls [])
def dj_X16_leaveAll_0 (p : Program) (l : Launch) (e : Env) (s : State) (m : MethodId) (args : Array Value) (below : List Frame) (meth : Method) (c : Code) (Q : State → Prop) (A : Nat → Prop) (dC : Nat → ClassId) (dI : Nat → Nat → Nat) (a : Nat → Nat) (ac : Nat → ClassId) (g : Int32 → (St × (St)) → Option (St × (St))) (r : St × (St)) : Prop := ∀ (v0 : Int32) (s0 : St × (St)) (H : Heap) (locs : List Loc) (ls : Array Slot), g v0 s0 = some r → va_P (dC, dI) vwCl (dw_X16 a ac s0) H → va_D A (dw_X16 a ac s0) → va_S A s.heap H locs → lv_has ls 3 [(0, .ref (a 0)), (1, .int v0)] → W p l e (headSpec ow_dm_X16_leaveAll ({ frames := 1, cells := 0, slots := 0, locals := 22 })).room s m args below meth c H locs 0 0 Q (F0 m 0 ls [])
set_option maxHeartbeats 40000000 in
set_option maxRecDepth 100000 in
theorem dB_X16_leaveAll_2 {p : Program} {l : Launch} {e : Env} {s : State} {m : MethodId} {args : Array Value} {below : List Frame} {meth : Method} {c : Code} {Q : State → Prop} {A : Nat → Prop} {dC : Nat → ClassId} {dI : Nat → Nat → Nat} {a : Nat → Nat} {ac : Nat → ClassId} {n : Nat} {r : St × (St)} (C : nd_C p l s m args c A (dC, dI) cX16_leaveAll 3 RX16 ow_dm_X16_leaveAll (dk_X16 ac)) (K : nd_Kv p l e (headSpec ow_dm_X16_leaveAll ({ frames := 1, cells := 0, slots := 0, locals := 22 })).room s m args below meth c Q A (dC, dI) cX16_leaveAll (St × (St)) (dw_X16 a ac) r) {g2 : Int32 → Int32 → (St × (St)) → Option (St × (St))} (J2 : dj_X16_leaveAll_2 p l e s m args below meth c Q A dC dI a ac g2 r) : dj_X16_leaveAll_2 p l e s m args below meth c Q A dC dI a ac (dF_X16_leaveAll_2 n g2) r := by
  obtain ⟨hlt, hx, hb, hml, hown, hts, hN, hA, hK⟩ := id C
  intro x1 x2 s0 H locs ls h hP hD hS hl
  unfold dF_X16_leaveAll_2 at h
  refine lv_iload_n hx hb dX16_leaveAll_2 rfl (lv_at hl 2 rfl) ?_
  refine lv_bipush (v := 64) hx hb dX16_leaveAll_3 (by decide) ?_
  refine lv_icmp_ge (tgt := 24) hx hb dX16_leaveAll_5 (by decide) (fun c1 => ?_) (fun c1 => ?_)
  · have h := nd_pos h c1
    exact K _ _ _ _ _ dX16_leaveAll_24 (Option.some.inj h).symm hP hD hS
  · have h := nd_neg h c1
    refine lv_aload_n hx hb dX16_leaveAll_8 rfl (lv_at hl 0 rfl) ?_
    refine lv_bipush (v := 64) hx hb dX16_leaveAll_9 (by decide) ?_
    refine lv_iload_n hx hb dX16_leaveAll_11 rfl (lv_at hl 1 rfl) ?_
    refine lv_imul hx hb dX16_leaveAll_12 ?_
    refine lv_iload_n hx hb dX16_leaveAll_13 rfl (lv_at hl 2 rfl) ?_
    refine lv_iadd hx hb dX16_leaveAll_14 ?_
    obtain ⟨s3, hq, h⟩ := nd_b1_e h
    have hPc := hP
    have hDc := hD
    have hKc := hK
    have hFc := nd_rs hD hS hA
    refine nd_cVv (As := [.int ((64 * x1) + x2)]) (rest := []) (w' := dw_X16 a ac s3) ⟨hx, hb, hml, hown, hts⟩ (fun sz => dm_X16_leave l hlt dC dI a ac n (((64 * x1) + x2)) s0 hq sz) (cwV 1 hts gi_dm_X16_leaveAll_0 rfl rfl rfl (by decide +kernel) ⟨Nat.le_of_ble_eq_true rfl, Nat.le_of_ble_eq_true rfl⟩) hPc hDc hKc hS hA hN (va_recv hKc hPc (ci := 17) (q0 := 0) rfl rfl) rfl hl.1 rfl (Nat.le_of_ble_eq_true rfl) dX16_leaveAll_15 (fun H locs hP1 hD1 hk1 hS => ?_)
    have hP := hP1
    have hD := hD1.weaken (fun k q _ h => hFc q.1 h)
    obtain ⟨z5, ez5, h⟩ := nd_let_e h
    refine lv_iinc (v := z5) (lv' := [(2, .int z5), (0, .ref (a 0)), (1, .int x1)]) hx hb dX16_leaveAll_18 hl (k := 2) rfl (by rw [ez5]) (by decide) rfl (fun ls hl => ?_)
    refine lv_goto (tgt := 2) hx hb dX16_leaveAll_21 (by decide) ?_
    exact (J2) (x1) (z5) s3 _ _ _ h hP hD hS (lv_sub hl [1, 2, 0] rfl)
set_option maxHeartbeats 40000000 in
set_option maxRecDepth 100000 in
theorem db_X16_leaveAll_2 {p : Program} {l : Launch} {e : Env} {s : State} {m : MethodId} {args : Array Value} {below : List Frame} {meth : Method} {c : Code} {Q : State → Prop} {A : Nat → Prop} {dC : Nat → ClassId} {dI : Nat → Nat → Nat} {a : Nat → Nat} {ac : Nat → ClassId} {n : Nat} {r : St × (St)} (C : nd_C p l s m args c A (dC, dI) cX16_leaveAll 3 RX16 ow_dm_X16_leaveAll (dk_X16 ac)) (K : nd_Kv p l e (headSpec ow_dm_X16_leaveAll ({ frames := 1, cells := 0, slots := 0, locals := 22 })).room s m args below meth c Q A (dC, dI) cX16_leaveAll (St × (St)) (dw_X16 a ac) r) (k : Nat) : dj_X16_leaveAll_2 p l e s m args below meth c Q A dC dI a ac (df_X16_leaveAll_2 n k) r := by
  induction k with
  | zero => intro x1 x2 s0 H locs ls h; exact nomatch (show (none : Option (St × (St))) = some r from h)
  | succ k ih => exact dB_X16_leaveAll_2 C K ih
set_option maxHeartbeats 40000000 in
set_option maxRecDepth 100000 in
theorem db_X16_leaveAll_0 {p : Program} {l : Launch} {e : Env} {s : State} {m : MethodId} {args : Array Value} {below : List Frame} {meth : Method} {c : Code} {Q : State → Prop} {A : Nat → Prop} {dC : Nat → ClassId} {dI : Nat → Nat → Nat} {a : Nat → Nat} {ac : Nat → ClassId} {n : Nat} {r : St × (St)} (C : nd_C p l s m args c A (dC, dI) cX16_leaveAll 3 RX16 ow_dm_X16_leaveAll (dk_X16 ac)) (K : nd_Kv p l e (headSpec ow_dm_X16_leaveAll ({ frames := 1, cells := 0, slots := 0, locals := 22 })).room s m args below meth c Q A (dC, dI) cX16_leaveAll (St × (St)) (dw_X16 a ac) r) : dj_X16_leaveAll_0 p l e s m args below meth c Q A dC dI a ac (df_X16_leaveAll_0 n) r := by
  obtain ⟨hlt, hx, hb, hml, hown, hts, hN, hA, hK⟩ := id C
  intro v0 s0 H locs ls h hP hD hS hl
  unfold df_X16_leaveAll_0 at h
  refine lv_iconst (v := 0) hx hb dX16_leaveAll_0 (by decide) ?_
  refine lv_istore_n (lv' := [(2, .int 0), (0, .ref (a 0)), (1, .int v0)]) hx hb dX16_leaveAll_1 rfl hl (by decide) rfl (fun ls hl => ?_)
  exact (db_X16_leaveAll_2 C K n) (v0) (0) s0 _ _ _ h hP hD hS (lv_sub hl [1, 2, 0] rfl)
set_option maxHeartbeats 40000000 in
set_option maxRecDepth 100000 in
theorem dm_X16_leaveAll (l : Launch) (hlt : l.stackTraces = false) (dC : Nat → ClassId) (dI : Nat → Nat → Nat) (a : Nat → Nat) (ac : Nat → ClassId) (n : Nat) (v0 : Int32) (s0 : St × (St)) {r : St × (St)} (h : df_X16_leaveAll n v0 s0 = some r) (sz : Nat) : Met l yX16_leaveAll ow_dm_X16_leaveAll ({ frames := 1, cells := 0, slots := 0, locals := 22 }) (va_Pc [.ref (a 0), .int v0] (fun U => U.heap.size = sz ∧ va_P (dC, dI) vwCl (dw_X16 a ac s0) U.heap ∧ va_K (dC, dI) vwCl (dk_X16 ac) U ∧ va_D (fun _ => True) (dw_X16 a ac s0) ∧ nv_E dI (va_A (dw_X16 a ac s0) sz) U)) (va_Qv (fun _ => True) (fun (_ : Unit) t => va_P (dC, dI) vwCl (dw_X16 a ac r) t.heap ∧ va_K (dC, dI) vwCl (dk_X16 ac) t ∧ va_D (va_A (dw_X16 a ac s0) sz) (dw_X16 a ac r)) (va_A (dw_X16 a ac s0) sz)) 0 0 (va_A (dw_X16 a ac s0) sz) := by
  refine Met.ofW (cc := cX16_leaveAll) (maxL := 3) (ret := none) (by decide) rfl ?_
  intro p e s m args below meth c s₁ B hml hv
  obtain ⟨rfl, hsz, hP, hK, hD0, hN⟩ := hv
  have hx := B.exec
  have hb := B.bytes
  have hr := B.returns
  have hts := atoms_spec (ws := ow_dm_X16_leaveAll) B.pre
  have hown : s.vm.findClass RX16 = some m.cls := findClass_of_methodNamed B.named
  have hlocks := B.notSynchronized
  subst hsz
  have hD := hD0.self (sz := s.heap.size)
  generalize hAe : va_A (dw_X16 a ac s0) s.heap.size = A at hD hN ⊢
  have hA : ∀ q : Nat, s.heap.size ≤ q → A q := fun q h => by rw [← hAe]; exact Or.inr h
  have hl := lv_entry ([.ref (a 0), .int v0]) (n := 3) (Nat.le_of_ble_eq_true rfl)
  rw [lg_entry_eq]
  generalize (lg_sl ([.ref (a 0), .int v0]) ++ List.replicate (3 - (lg_sl ([.ref (a 0), .int v0])).length) Slot.unset).toArray = ls at hl ⊢
  have hl : lv_has ls 3 [(0, .ref (a 0)), (1, .int v0)] := hl
  exact db_X16_leaveAll_0 (dC := dC) (dI := dI) (a := a) (ac := ac) (n := n) (r := r) ⟨hlt, hx, hb, hml, hown, hts, hN, hA, hK⟩ (fun pc τ H locs ls d er hP hD hS => by subst er; exact W.vret hx hb hr (fun t ht hW => ⟨⟨(), rfl, trivial, by rw [ht]; exact hP, va_K.moved hW.alike hK, hD⟩, hS.F ht⟩) hS.2.2 d) v0 s0 _ _ _ h hP hD va_S.rf (lv_sub hl [0, 1] rfl)
def ow_dm_X16_isThere : List Cond := Cond.code yX16_isThere cX16_isThere 3 (some .boolean) :: ([Cond.constant RX16 186 (65536), Cond.fieldLink RX16 64 "TimeMachineModel$Machine" "frame" "[I"] ++ (u_ws RX16 TX16 56 ++ []))
theorem gd_dm_X16_isThere : ∀ w ∈ ow_dm_X16_isThere, (w.onTables && w.keeps) = true ∨ ∃ ty, w = Cond.arrayClass ty := List.forall_mem_cons.mpr ⟨good_of_word rfl, List.forall_mem_append.mpr ⟨fun w h => good_of_word (List.all_eq_true.mp (by decide +kernel) w h), List.forall_mem_append.mpr ⟨gu_X16, fun _ h => nomatch h⟩⟩⟩
theorem hi_dm_X16_isThere_X16 : ∀ w ∈ u_ws RX16 TX16 56, w ∈ ow_dm_X16_isThere := fun w h => List.mem_cons_of_mem _ (List.mem_append_right _ (List.mem_append_left _ h))
def dj_X16_isThere_34 (p : Program) (l : Launch) (e : Env) (s : State) (m : MethodId) (args : Array Value) (below : List Frame) (meth : Method) (c : Code) (Q : State → Prop) (A : Nat → Prop) (dC : Nat → ClassId) (dI : Nat → Nat → Nat) (a : Nat → Nat) (ac : Nat → ClassId) (g : Int32 → (St × (St)) → Option (Int32 × (St × (St)))) (r : Int32 × (St × (St))) : Prop := ∀ (y0 : Int32) (s0 : St × (St)) (H : Heap) (locs : List Loc) (ls : Array Slot), g y0 s0 = some r → va_P (dC, dI) vwCl (dw_X16 a ac s0) H → va_D A (dw_X16 a ac s0) → va_S A s.heap H locs → lv_has ls 3 [] → W p l e (headSpec ow_dm_X16_isThere ({ frames := 0, cells := 0, slots := 0, locals := 0 })).room s m args below meth c H locs 0 0 Q (F0 m 34 ls [.int y0])
def dj_X16_isThere_33 (p : Program) (l : Launch) (e : Env) (s : State) (m : MethodId) (args : Array Value) (below : List Frame) (meth : Method) (c : Code) (Q : State → Prop) (A : Nat → Prop) (dC : Nat → ClassId) (dI : Nat → Nat → Nat) (a : Nat → Nat) (ac : Nat → ClassId) (g : (St × (St)) → Option (Int32 × (St × (St)))) (r : Int32 × (St × (St))) : Prop := ∀ (s0 : St × (St)) (H : Heap) (locs : List Loc) (ls : Array Slot), g s0 = some r → va_P (dC, dI) vwCl (dw_X16 a ac s0) H → va_D A (dw_X16 a ac s0) → va_S A s.heap H locs → lv_has ls 3 [] → W p l e (headSpec ow_dm_X16_isThere ({ frames := 0, cells := 0, slots := 0, locals := 0 })).room s m args below meth c H locs 0 0 Q (F0 m 33 ls [])
def dj_X16_isThere_0 (p : Program) (l : Launch) (e : Env) (s : State) (m : MethodId) (args : Array Value) (below : List Frame) (meth : Method) (c : Code) (Q : State → Prop) (A : Nat → Prop) (dC : Nat → ClassId) (dI : Nat → Nat → Nat) (a : Nat → Nat) (ac : Nat → ClassId) (g : Int32 → Int32 → (St × (St)) → Option (Int32 × (St × (St)))) (r : Int32 × (St × (St))) : Prop := ∀ (v0 : Int32) (v1 : Int32) (s0 : St × (St)) (H : Heap) (locs : List Loc) (ls : Array Slot), g v0 v1 s0 = some r → va_P (dC, dI) vwCl (dw_X16 a ac s0) H → va_D A (dw_X16 a ac s0) → va_S A s.heap H locs → lv_has ls 3 [(0, .ref (a 0)), (1, .int v0), (2, .int v1)] → W p l e (headSpec ow_dm_X16_isThere ({ frames := 0, cells := 0, slots := 0, locals := 0 })).room s m args below meth c H locs 0 0 Q (F0 m 0 ls [])
set_option maxHeartbeats 40000000 in
set_option maxRecDepth 100000 in
theorem db_X16_isThere_34 {p : Program} {l : Launch} {e : Env} {s : State} {m : MethodId} {args : Array Value} {below : List Frame} {meth : Method} {c : Code} {Q : State → Prop} {A : Nat → Prop} {dC : Nat → ClassId} {dI : Nat → Nat → Nat} {a : Nat → Nat} {ac : Nat → ClassId} {n : Nat} {r : Int32 × (St × (St))} (C : nd_C p l s m args c A (dC, dI) cX16_isThere 3 RX16 ow_dm_X16_isThere (dk_X16 ac)) (K : nd_Ki p l e (headSpec ow_dm_X16_isThere ({ frames := 0, cells := 0, slots := 0, locals := 0 })).room s m args below meth c Q A (dC, dI) cX16_isThere .boolean (St × (St)) (dw_X16 a ac) r) : dj_X16_isThere_34 p l e s m args below meth c Q A dC dI a ac (df_X16_isThere_34 n) r := by
  obtain ⟨hlt, hx, hb, hml, hown, hts, hN, hA, hK⟩ := id C
  intro y0 s0 H locs ls h hP hD hS hl
  unfold df_X16_isThere_34 at h
  obtain ⟨n2, h⟩ := nd_z_e ⟨_, rfl⟩ h
  exact K _ _ _ _ _ _ dX16_isThere_34 n2 (Option.some.inj h).symm hP hD hS
set_option maxHeartbeats 40000000 in
set_option maxRecDepth 100000 in
theorem db_X16_isThere_33 {p : Program} {l : Launch} {e : Env} {s : State} {m : MethodId} {args : Array Value} {below : List Frame} {meth : Method} {c : Code} {Q : State → Prop} {A : Nat → Prop} {dC : Nat → ClassId} {dI : Nat → Nat → Nat} {a : Nat → Nat} {ac : Nat → ClassId} {n : Nat} {r : Int32 × (St × (St))} (C : nd_C p l s m args c A (dC, dI) cX16_isThere 3 RX16 ow_dm_X16_isThere (dk_X16 ac)) (K : nd_Ki p l e (headSpec ow_dm_X16_isThere ({ frames := 0, cells := 0, slots := 0, locals := 0 })).room s m args below meth c Q A (dC, dI) cX16_isThere .boolean (St × (St)) (dw_X16 a ac) r) : dj_X16_isThere_33 p l e s m args below meth c Q A dC dI a ac (df_X16_isThere_33 n) r := by
  obtain ⟨hlt, hx, hb, hml, hown, hts, hN, hA, hK⟩ := id C
  intro s0 H locs ls h hP hD hS hl
  unfold df_X16_isThere_33 at h
  refine lv_iconst (v := 0) hx hb dX16_isThere_33 (by decide) ?_
  exact (db_X16_isThere_34 C K) (0) s0 _ _ _ h hP hD hS (lv_sub hl [] rfl)
set_option maxHeartbeats 40000000 in
set_option maxRecDepth 100000 in
theorem db_X16_isThere_0 {p : Program} {l : Launch} {e : Env} {s : State} {m : MethodId} {args : Array Value} {below : List Frame} {meth : Method} {c : Code} {Q : State → Prop} {A : Nat → Prop} {dC : Nat → ClassId} {dI : Nat → Nat → Nat} {a : Nat → Nat} {ac : Nat → ClassId} {n : Nat} {r : Int32 × (St × (St))} (C : nd_C p l s m args c A (dC, dI) cX16_isThere 3 RX16 ow_dm_X16_isThere (dk_X16 ac)) (K : nd_Ki p l e (headSpec ow_dm_X16_isThere ({ frames := 0, cells := 0, slots := 0, locals := 0 })).room s m args below meth c Q A (dC, dI) cX16_isThere .boolean (St × (St)) (dw_X16 a ac) r) : dj_X16_isThere_0 p l e s m args below meth c Q A dC dI a ac (df_X16_isThere_0 n) r := by
  obtain ⟨hlt, hx, hb, hml, hown, hts, hN, hA, hK⟩ := id C
  intro v0 v1 s0 H locs ls h hP hD hS hl
  unfold df_X16_isThere_0 at h
  refine lv_iload_n hx hb dX16_isThere_0 rfl (lv_at hl 2 rfl) ?_
  refine lv_if_lt (tgt := 33) hx hb dX16_isThere_1 (by decide) (fun c1 => ?_) (fun c1 => ?_)
  · have h := nd_pos h c1
    exact (db_X16_isThere_33 C K)  s0 _ _ _ h hP hD hS (lv_sub hl [] rfl)
  · have h := nd_neg h c1
    refine lv_iload_n hx hb dX16_isThere_4 rfl (lv_at hl 2 rfl) ?_
    refine lv_ldc hx hb hown (hts (.constant RX16 186 (65536)) (List.mem_of_getElem? (i := 1) rfl)) dX16_isThere_5 ?_
    refine lv_icmp_ge (tgt := 33) hx hb dX16_isThere_7 (by decide) (fun c3 => ?_) (fun c3 => ?_)
    · have h := nd_pos h c3
      exact (db_X16_isThere_33 C K)  s0 _ _ _ h hP hD hS (lv_sub hl [] rfl)
    · have h := nd_neg h c3
      refine lv_aload_n hx hb dX16_isThere_10 rfl (lv_at hl 0 rfl) ?_
      refine va_get (D := (dC, dI)) (ci := 17) (v := .ref (a 18)) (C := RX16) (T := TX16) (N := 56) hx hb hts hi_dm_X16_isThere_X16 hown hK hP 0 rfl rfl 26 (by decide) (hts (.fieldLink RX16 64 "TimeMachineModel$Machine" "frame" "[I") (List.mem_of_getElem? (i := 2) rfl)) (fun _ h9 => h9) rfl dX16_isThere_11 ?_
      refine lv_bipush (v := 64) hx hb dX16_isThere_14 (by decide) ?_
      refine lv_iload_n hx hb dX16_isThere_16 rfl (lv_at hl 1 rfl) ?_
      refine lv_imul hx hb dX16_isThere_17 ?_
      refine lv_iload_n hx hb dX16_isThere_18 rfl (lv_at hl 2 rfl) ?_
      refine lv_sipush (v := 1024) hx hb dX16_isThere_19 (by decide) ?_
      refine lv_idiv hx hb dX16_isThere_22 (by decide) ?_
      refine lv_iadd hx hb dX16_isThere_23 ?_
      obtain ⟨i4, h⟩ := nd_ck_e h
      refine va_iald (i := ((64 * v0) + ((v1 : Int32) / 1024))) hx hb hK hP 18 17 rfl rfl i4 dX16_isThere_24 ?_
      refine lv_iconst (v := (-1)) hx hb dX16_isThere_25 (by decide) ?_
      refine lv_icmp_eq (tgt := 33) hx hb dX16_isThere_26 (by decide) (fun c5 => ?_) (fun c5 => ?_)
      · have h := nd_pos h c5
        exact (db_X16_isThere_33 C K)  s0 _ _ _ h hP hD hS (lv_sub hl [] rfl)
      · have h := nd_neg h c5
        refine lv_iconst (v := 1) hx hb dX16_isThere_29 (by decide) ?_
        refine lv_goto (tgt := 34) hx hb dX16_isThere_30 (by decide) ?_
        exact (db_X16_isThere_34 C K) (1) s0 _ _ _ h hP hD hS (lv_sub hl [] rfl)
set_option maxHeartbeats 40000000 in
set_option maxRecDepth 100000 in
theorem dm_X16_isThere (l : Launch) (hlt : l.stackTraces = false) (dC : Nat → ClassId) (dI : Nat → Nat → Nat) (a : Nat → Nat) (ac : Nat → ClassId) (n : Nat) (v0 : Int32) (v1 : Int32) (s0 : St × (St)) {r : Int32 × (St × (St))} (h : df_X16_isThere n v0 v1 s0 = some r) (sz : Nat) : Met l yX16_isThere ow_dm_X16_isThere ({ frames := 0, cells := 0, slots := 0, locals := 0 }) (va_Pc [.ref (a 0), .int v0, .int v1] (fun U => U.heap.size = sz ∧ va_P (dC, dI) vwCl (dw_X16 a ac s0) U.heap ∧ va_K (dC, dI) vwCl (dk_X16 ac) U ∧ va_D (fun _ => True) (dw_X16 a ac s0) ∧ nv_E dI (va_A (dw_X16 a ac s0) sz) U)) (va_Qi (fun x _ => x = r.1) (fun (_ : Unit) t => va_P (dC, dI) vwCl (dw_X16 a ac r.2) t.heap ∧ va_K (dC, dI) vwCl (dk_X16 ac) t ∧ va_D (va_A (dw_X16 a ac s0) sz) (dw_X16 a ac r.2)) (va_A (dw_X16 a ac s0) sz)) 0 0 (va_A (dw_X16 a ac s0) sz) := by
  refine Met.ofW (cc := cX16_isThere) (maxL := 3) (ret := (some .boolean)) (by decide) rfl ?_
  intro p e s m args below meth c s₁ B hml hv
  obtain ⟨rfl, hsz, hP, hK, hD0, hN⟩ := hv
  have hx := B.exec
  have hb := B.bytes
  have hr := B.returns
  have hts := atoms_spec (ws := ow_dm_X16_isThere) B.pre
  have hown : s.vm.findClass RX16 = some m.cls := findClass_of_methodNamed B.named
  have hlocks := B.notSynchronized
  subst hsz
  have hD := hD0.self (sz := s.heap.size)
  generalize hAe : va_A (dw_X16 a ac s0) s.heap.size = A at hD hN ⊢
  have hA : ∀ q : Nat, s.heap.size ≤ q → A q := fun q h => by rw [← hAe]; exact Or.inr h
  have hl := lv_entry ([.ref (a 0), .int v0, .int v1]) (n := 3) (Nat.le_of_ble_eq_true rfl)
  rw [lg_entry_eq]
  generalize (lg_sl ([.ref (a 0), .int v0, .int v1]) ++ List.replicate (3 - (lg_sl ([.ref (a 0), .int v0, .int v1])).length) Slot.unset).toArray = ls at hl ⊢
  have hl : lv_has ls 3 [(0, .ref (a 0)), (1, .int v0), (2, .int v1)] := hl
  exact db_X16_isThere_0 (dC := dC) (dI := dI) (a := a) (ac := ac) (n := n) (r := r) ⟨hlt, hx, hb, hml, hown, hts, hN, hA, hK⟩ (fun pc v τ H locs ls d z er hP hD hS => by subst er; exact W.zret (v := v) hx hb hr z (fun t ht hW => ⟨⟨v, (), rfl, rfl, by rw [ht]; exact hP, va_K.moved hW.alike hK, hD⟩, hS.F ht⟩) hS.2.2 d) v0 v1 s0 _ _ _ h hP hD va_S.rf (lv_sub hl [0, 1, 2] rfl)
def ow_dm_X16_may : List Cond := Cond.code yX16_may cX16_may 4 (some .boolean) :: ([Cond.methodLink RX16 214 yX16_isThere, Cond.instanceMethod yX16_isThere, Cond.selects RX16 yX16_isThere yX16_isThere, Cond.initialized RX16, Cond.fieldLink RX16 67 "TimeMachineModel$Machine" "rights" "[I"] ++ (u_ws RX16 TX16 56 ++ (ow_dm_X16_isThere ++ [])))
theorem gd_dm_X16_may : ∀ w ∈ ow_dm_X16_may, (w.onTables && w.keeps) = true ∨ ∃ ty, w = Cond.arrayClass ty := List.forall_mem_cons.mpr ⟨good_of_word rfl, List.forall_mem_append.mpr ⟨fun w h => good_of_word (List.all_eq_true.mp (by decide +kernel) w h), List.forall_mem_append.mpr ⟨gu_X16, List.forall_mem_append.mpr ⟨gd_dm_X16_isThere, fun _ h => nomatch h⟩⟩⟩⟩
theorem hi_dm_X16_may_X16 : ∀ w ∈ u_ws RX16 TX16 56, w ∈ ow_dm_X16_may := fun w h => List.mem_cons_of_mem _ (List.mem_append_right _ (List.mem_append_left _ h))
theorem gi_dm_X16_may_0 : GoodIn ow_dm_X16_may (wsV RX16 214 RX16 yX16_isThere ow_dm_X16_isThere) := goodIn_app (goodIn_of _ (by decide +kernel)) (fun w h => ⟨List.mem_cons_of_mem _ (List.mem_append_right _ (List.mem_append_right _ (List.mem_append_left _ h))), gd_dm_X16_isThere w h⟩)
def dj_X16_may_34 (p : Program) (l : Launch) (e : Env) (s : State) (m : MethodId) (args : Array Value) (below : List Frame) (meth : Method) (c : Code) (Q : State → Prop) (A : Nat → Prop) (dC : Nat → ClassId) (dI : Nat → Nat → Nat) (a : Nat → Nat) (ac : Nat → ClassId) (g : Int32 → (St × (St)) → Option (Int32 × (St × (St)))) (r : Int32 × (St × (St))) : Prop := ∀ (y0 : Int32) (s0 : St × (St)) (H : Heap) (locs : List Loc) (ls : Array Slot), g y0 s0 = some r → va_P (dC, dI) vwCl (dw_X16 a ac s0) H → va_D A (dw_X16 a ac s0) → va_S A s.heap H locs → lv_has ls 4 [] → W p l e (headSpec ow_dm_X16_may ({ frames := 1, cells := 0, slots := 0, locals := 22 })).room s m args below meth c H locs 0 0 Q (F0 m 34 ls [.int y0])
def dj_X16_may_33 (p : Program) (l : Launch) (e : Env) (s : State) (m : MethodId) (args : Array Value) (below : List Frame) (meth : Method) (c : Code) (Q : State → Prop) (A : Nat → Prop) (dC : Nat → ClassId) (dI : Nat → Nat → Nat) (a : Nat → Nat) (ac : Nat → ClassId) (g : (St × (St)) → Option (Int32 × (St × (St)))) (r : Int32 × (St × (St))) : Prop := ∀ (s0 : St × (St)) (H : Heap) (locs : List Loc) (ls : Array Slot), g s0 = some r → va_P (dC, dI) vwCl (dw_X16 a ac s0) H → va_D A (dw_X16 a ac s0) → va_S A s.heap H locs → lv_has ls 4 [] → W p l e (headSpec ow_dm_X16_may ({ frames := 1, cells := 0, slots := 0, locals := 22 })).room s m args below meth c H locs 0 0 Q (F0 m 33 ls [])
def dj_X16_may_0 (p : Program) (l : Launch) (e : Env) (s : State) (m : MethodId) (args : Array Value) (below : List Frame) (meth : Method) (c : Code) (Q : State → Prop) (A : Nat → Prop) (dC : Nat → ClassId) (dI : Nat → Nat → Nat) (a : Nat → Nat) (ac : Nat → ClassId) (g : Int32 → Int32 → Int32 → (St × (St)) → Option (Int32 × (St × (St)))) (r : Int32 × (St × (St))) : Prop := ∀ (v0 : Int32) (v1 : Int32) (v2 : Int32) (s0 : St × (St)) (H : Heap) (locs : List Loc) (ls : Array Slot), g v0 v1 v2 s0 = some r → va_P (dC, dI) vwCl (dw_X16 a ac s0) H → va_D A (dw_X16 a ac s0) → va_S A s.heap H locs → lv_has ls 4 [(0, .ref (a 0)), (1, .int v0), (2, .int v1), (3, .int v2)] → W p l e (headSpec ow_dm_X16_may ({ frames := 1, cells := 0, slots := 0, locals := 22 })).room s m args below meth c H locs 0 0 Q (F0 m 0 ls [])
set_option maxHeartbeats 40000000 in
set_option maxRecDepth 100000 in
theorem db_X16_may_34 {p : Program} {l : Launch} {e : Env} {s : State} {m : MethodId} {args : Array Value} {below : List Frame} {meth : Method} {c : Code} {Q : State → Prop} {A : Nat → Prop} {dC : Nat → ClassId} {dI : Nat → Nat → Nat} {a : Nat → Nat} {ac : Nat → ClassId} {n : Nat} {r : Int32 × (St × (St))} (C : nd_C p l s m args c A (dC, dI) cX16_may 4 RX16 ow_dm_X16_may (dk_X16 ac)) (K : nd_Ki p l e (headSpec ow_dm_X16_may ({ frames := 1, cells := 0, slots := 0, locals := 22 })).room s m args below meth c Q A (dC, dI) cX16_may .boolean (St × (St)) (dw_X16 a ac) r) : dj_X16_may_34 p l e s m args below meth c Q A dC dI a ac (df_X16_may_34 n) r := by
  obtain ⟨hlt, hx, hb, hml, hown, hts, hN, hA, hK⟩ := id C
  intro y0 s0 H locs ls h hP hD hS hl
  unfold df_X16_may_34 at h
  obtain ⟨n5, h⟩ := nd_z_e ⟨_, rfl⟩ h
  exact K _ _ _ _ _ _ dX16_may_34 n5 (Option.some.inj h).symm hP hD hS
set_option maxHeartbeats 40000000 in
set_option maxRecDepth 100000 in
theorem db_X16_may_33 {p : Program} {l : Launch} {e : Env} {s : State} {m : MethodId} {args : Array Value} {below : List Frame} {meth : Method} {c : Code} {Q : State → Prop} {A : Nat → Prop} {dC : Nat → ClassId} {dI : Nat → Nat → Nat} {a : Nat → Nat} {ac : Nat → ClassId} {n : Nat} {r : Int32 × (St × (St))} (C : nd_C p l s m args c A (dC, dI) cX16_may 4 RX16 ow_dm_X16_may (dk_X16 ac)) (K : nd_Ki p l e (headSpec ow_dm_X16_may ({ frames := 1, cells := 0, slots := 0, locals := 22 })).room s m args below meth c Q A (dC, dI) cX16_may .boolean (St × (St)) (dw_X16 a ac) r) : dj_X16_may_33 p l e s m args below meth c Q A dC dI a ac (df_X16_may_33 n) r := by
  obtain ⟨hlt, hx, hb, hml, hown, hts, hN, hA, hK⟩ := id C
  intro s0 H locs ls h hP hD hS hl
  unfold df_X16_may_33 at h
  refine lv_iconst (v := 0) hx hb dX16_may_33 (by decide) ?_
  exact (db_X16_may_34 C K) (0) s0 _ _ _ h hP hD hS (lv_sub hl [] rfl)
set_option maxHeartbeats 40000000 in
set_option maxRecDepth 100000 in
theorem db_X16_may_0 {p : Program} {l : Launch} {e : Env} {s : State} {m : MethodId} {args : Array Value} {below : List Frame} {meth : Method} {c : Code} {Q : State → Prop} {A : Nat → Prop} {dC : Nat → ClassId} {dI : Nat → Nat → Nat} {a : Nat → Nat} {ac : Nat → ClassId} {n : Nat} {r : Int32 × (St × (St))} (C : nd_C p l s m args c A (dC, dI) cX16_may 4 RX16 ow_dm_X16_may (dk_X16 ac)) (K : nd_Ki p l e (headSpec ow_dm_X16_may ({ frames := 1, cells := 0, slots := 0, locals := 22 })).room s m args below meth c Q A (dC, dI) cX16_may .boolean (St × (St)) (dw_X16 a ac) r) : dj_X16_may_0 p l e s m args below meth c Q A dC dI a ac (df_X16_may_0 n) r := by
  obtain ⟨hlt, hx, hb, hml, hown, hts, hN, hA, hK⟩ := id C
  intro v0 v1 v2 s0 H locs ls h hP hD hS hl
  unfold df_X16_may_0 at h
  refine lv_aload_n hx hb dX16_may_0 rfl (lv_at hl 0 rfl) ?_
  refine lv_iload_n hx hb dX16_may_1 rfl (lv_at hl 1 rfl) ?_
  refine lv_iload_n hx hb dX16_may_2 rfl (lv_at hl 2 rfl) ?_
  obtain ⟨q1, s2, hq, h⟩ := nd_b2_e h
  have hPc := hP
  have hDc := hD
  have hKc := hK
  have hFc := nd_rs hD hS hA
  refine nd_cVi (As := [.int v0, .int v1]) (rest := []) (q := q1) (w' := dw_X16 a ac s2) ⟨hx, hb, hml, hown, hts⟩ (fun sz => dm_X16_isThere l hlt dC dI a ac n (v0) (v1) s0 hq sz) (cwV 2 hts gi_dm_X16_may_0 rfl rfl rfl (by decide +kernel) ⟨Nat.le_of_ble_eq_true rfl, Nat.le_of_ble_eq_true rfl⟩) hPc hDc hKc hS hA hN (va_recv hKc hPc (ci := 17) (q0 := 0) rfl rfl) rfl hl.1 rfl (Nat.le_of_ble_eq_true rfl) dX16_may_3 (fun H locs hP1 hD1 hk1 hS => ?_)
  have hP := hP1
  have hD := hD1.weaken (fun k q _ h => hFc q.1 h)
  refine lv_if_eq (tgt := 33) hx hb dX16_may_6 (by decide) (fun c4 => ?_) (fun c4 => ?_)
  · have h := nd_pos h c4
    exact (db_X16_may_33 C K)  s2 _ _ _ h hP hD hS (lv_sub hl [] rfl)
  · have h := nd_neg h c4
    refine lv_aload_n hx hb dX16_may_9 rfl (lv_at hl 0 rfl) ?_
    refine va_get (D := (dC, dI)) (ci := 17) (v := .ref (a 19)) (C := RX16) (T := TX16) (N := 56) hx hb hts hi_dm_X16_may_X16 hown hK hP 0 rfl rfl 27 (by decide) (hts (.fieldLink RX16 67 "TimeMachineModel$Machine" "rights" "[I") (List.mem_of_getElem? (i := 5) rfl)) (fun _ h9 => h9) rfl dX16_may_10 ?_
    refine lv_bipush (v := 64) hx hb dX16_may_13 (by decide) ?_
    refine lv_iload_n hx hb dX16_may_15 rfl (lv_at hl 1 rfl) ?_
    refine lv_imul hx hb dX16_may_16 ?_
    refine lv_iload_n hx hb dX16_may_17 rfl (lv_at hl 2 rfl) ?_
    refine lv_sipush (v := 1024) hx hb dX16_may_18 (by decide) ?_
    refine lv_idiv hx hb dX16_may_21 (by decide) ?_
    refine lv_iadd hx hb dX16_may_22 ?_
    obtain ⟨i6, h⟩ := nd_ck_e h
    refine va_iald (i := ((64 * v0) + ((v1 : Int32) / 1024))) hx hb hK hP 19 18 rfl rfl i6 dX16_may_23 ?_
    refine lv_iload_n hx hb dX16_may_24 rfl (lv_at hl 3 rfl) ?_
    refine lv_iand hx hb dX16_may_25 ?_
    refine lv_if_le (tgt := 33) hx hb dX16_may_26 (by decide) (fun c7 => ?_) (fun c7 => ?_)
    · have h := nd_pos h c7
      exact (db_X16_may_33 C K)  s2 _ _ _ h hP hD hS (lv_sub hl [] rfl)
    · have h := nd_neg h c7
      refine lv_iconst (v := 1) hx hb dX16_may_29 (by decide) ?_
      refine lv_goto (tgt := 34) hx hb dX16_may_30 (by decide) ?_
      exact (db_X16_may_34 C K) (1) s2 _ _ _ h hP hD hS (lv_sub hl [] rfl)
set_option maxHeartbeats 40000000 in
set_option maxRecDepth 100000 in
theorem dm_X16_may (l : Launch) (hlt : l.stackTraces = false) (dC : Nat → ClassId) (dI : Nat → Nat → Nat) (a : Nat → Nat) (ac : Nat → ClassId) (n : Nat) (v0 : Int32) (v1 : Int32) (v2 : Int32) (s0 : St × (St)) {r : Int32 × (St × (St))} (h : df_X16_may n v0 v1 v2 s0 = some r) (sz : Nat) : Met l yX16_may ow_dm_X16_may ({ frames := 1, cells := 0, slots := 0, locals := 22 }) (va_Pc [.ref (a 0), .int v0, .int v1, .int v2] (fun U => U.heap.size = sz ∧ va_P (dC, dI) vwCl (dw_X16 a ac s0) U.heap ∧ va_K (dC, dI) vwCl (dk_X16 ac) U ∧ va_D (fun _ => True) (dw_X16 a ac s0) ∧ nv_E dI (va_A (dw_X16 a ac s0) sz) U)) (va_Qi (fun x _ => x = r.1) (fun (_ : Unit) t => va_P (dC, dI) vwCl (dw_X16 a ac r.2) t.heap ∧ va_K (dC, dI) vwCl (dk_X16 ac) t ∧ va_D (va_A (dw_X16 a ac s0) sz) (dw_X16 a ac r.2)) (va_A (dw_X16 a ac s0) sz)) 0 0 (va_A (dw_X16 a ac s0) sz) := by
  refine Met.ofW (cc := cX16_may) (maxL := 4) (ret := (some .boolean)) (by decide) rfl ?_
  intro p e s m args below meth c s₁ B hml hv
  obtain ⟨rfl, hsz, hP, hK, hD0, hN⟩ := hv
  have hx := B.exec
  have hb := B.bytes
  have hr := B.returns
  have hts := atoms_spec (ws := ow_dm_X16_may) B.pre
  have hown : s.vm.findClass RX16 = some m.cls := findClass_of_methodNamed B.named
  have hlocks := B.notSynchronized
  subst hsz
  have hD := hD0.self (sz := s.heap.size)
  generalize hAe : va_A (dw_X16 a ac s0) s.heap.size = A at hD hN ⊢
  have hA : ∀ q : Nat, s.heap.size ≤ q → A q := fun q h => by rw [← hAe]; exact Or.inr h
  have hl := lv_entry ([.ref (a 0), .int v0, .int v1, .int v2]) (n := 4) (Nat.le_of_ble_eq_true rfl)
  rw [lg_entry_eq]
  generalize (lg_sl ([.ref (a 0), .int v0, .int v1, .int v2]) ++ List.replicate (4 - (lg_sl ([.ref (a 0), .int v0, .int v1, .int v2])).length) Slot.unset).toArray = ls at hl ⊢
  have hl : lv_has ls 4 [(0, .ref (a 0)), (1, .int v0), (2, .int v1), (3, .int v2)] := hl
  exact db_X16_may_0 (dC := dC) (dI := dI) (a := a) (ac := ac) (n := n) (r := r) ⟨hlt, hx, hb, hml, hown, hts, hN, hA, hK⟩ (fun pc v τ H locs ls d z er hP hD hS => by subst er; exact W.zret (v := v) hx hb hr z (fun t ht hW => ⟨⟨v, (), rfl, rfl, by rw [ht]; exact hP, va_K.moved hW.alike hK, hD⟩, hS.F ht⟩) hS.2.2 d) v0 v1 v2 s0 _ _ _ h hP hD va_S.rf (lv_sub hl [0, 1, 2, 3] rfl)
def ow_dm_X16_mayAll : List Cond := Cond.code yX16_mayAll cX16_mayAll 7 (some .boolean) :: ([Cond.methodLink RX16 218 yX16_may, Cond.instanceMethod yX16_may, Cond.selects RX16 yX16_may yX16_may, Cond.initialized RX16] ++ (ow_dm_X16_may ++ []))
theorem gd_dm_X16_mayAll : ∀ w ∈ ow_dm_X16_mayAll, (w.onTables && w.keeps) = true ∨ ∃ ty, w = Cond.arrayClass ty := List.forall_mem_cons.mpr ⟨good_of_word rfl, List.forall_mem_append.mpr ⟨fun w h => good_of_word (List.all_eq_true.mp (by decide +kernel) w h), List.forall_mem_append.mpr ⟨gd_dm_X16_may, fun _ h => nomatch h⟩⟩⟩
theorem gi_dm_X16_mayAll_0 : GoodIn ow_dm_X16_mayAll (wsV RX16 218 RX16 yX16_may ow_dm_X16_may) := goodIn_app (goodIn_of _ (by decide +kernel)) (fun w h => ⟨List.mem_cons_of_mem _ (List.mem_append_right _ (List.mem_append_left _ h)), gd_dm_X16_may w h⟩)
def dj_X16_mayAll_36 (p : Program) (l : Launch) (e : Env) (s : State) (m : MethodId) (args : Array Value) (below : List Frame) (meth : Method) (c : Code) (Q : State → Prop) (A : Nat → Prop) (dC : Nat → ClassId) (dI : Nat → Nat → Nat) (a : Nat → Nat) (ac : Nat → ClassId) (g : Int32 → (St × (St)) → Option (Int32 × (St × (St)))) (r : Int32 × (St × (St))) : Prop := ∀ (x5 : Int32) (s0 : St × (St)) (H : Heap) (locs : List Loc) (ls : Array Slot), g x5 s0 = some r → va_P (dC, dI) vwCl (dw_X16 a ac s0) H → va_D A (dw_X16 a ac s0) → va_S A s.heap H locs → lv_has ls 7 [(5, .int x5)] → W p l e (headSpec ow_dm_X16_mayAll ({ frames := 2, cells := 0, slots := 0, locals := 45 })).room s m args below meth c H locs 0 0 Q (F0 m 36 ls [])
def dj_X16_mayAll_6 (p : Program) (l : Launch) (e : Env) (s : State) (m : MethodId) (args : Array Value) (below : List Frame) (meth : Method) (c : Code) (Q : State → Prop) (A : Nat → Prop) (dC : Nat → ClassId) (dI : Nat → Nat → Nat) (a : Nat → Nat) (ac : Nat → ClassId) (g : Int32 → Int32 → Int32 → Int32 → Int32 → Int32 → (St × (St)) → Option (Int32 × (St × (St)))) (r : Int32 × (St × (St))) : Prop := ∀ (x1 : Int32) (x2 : Int32) (x3 : Int32) (x4 : Int32) (x5 : Int32) (x6 : Int32) (s0 : St × (St)) (H : Heap) (locs : List Loc) (ls : Array Slot), g x1 x2 x3 x4 x5 x6 s0 = some r → va_P (dC, dI) vwCl (dw_X16 a ac s0) H → va_D A (dw_X16 a ac s0) → va_S A s.heap H locs → lv_has ls 7 [(0, .ref (a 0)), (1, .int x1), (2, .int x2), (3, .int x3), (4, .int x4), (5, .int x5), (6, .int x6)] → W p l e (headSpec ow_dm_X16_mayAll ({ frames := 2, cells := 0, slots := 0, locals := 45 })).room s m args below meth c H locs 0 0 Q (F0 m 6 ls [])
def dj_X16_mayAll_0 (p : Program) (l : Launch) (e : Env) (s : State) (m : MethodId) (args : Array Value) (below : List Frame) (meth : Method) (c : Code) (Q : State → Prop) (A : Nat → Prop) (dC : Nat → ClassId) (dI : Nat → Nat → Nat) (a : Nat → Nat) (ac : Nat → ClassId) (g : Int32 → Int32 → Int32 → Int32 → (St × (St)) → Option (Int32 × (St × (St)))) (r : Int32 × (St × (St))) : Prop := ∀ (v0 : Int32) (v1 : Int32) (v2 : Int32) (v3 : Int32) (s0 : St × (St)) (H : Heap) (locs : List Loc) (ls : Array Slot), g v0 v1 v2 v3 s0 = some r → va_P (dC, dI) vwCl (dw_X16 a ac s0) H → va_D A (dw_X16 a ac s0) → va_S A s.heap H locs → lv_has ls 7 [(0, .ref (a 0)), (1, .int v0), (2, .int v1), (3, .int v2), (4, .int v3)] → W p l e (headSpec ow_dm_X16_mayAll ({ frames := 2, cells := 0, slots := 0, locals := 45 })).room s m args below meth c H locs 0 0 Q (F0 m 0 ls [])
set_option maxHeartbeats 40000000 in
set_option maxRecDepth 100000 in
theorem db_X16_mayAll_36 {p : Program} {l : Launch} {e : Env} {s : State} {m : MethodId} {args : Array Value} {below : List Frame} {meth : Method} {c : Code} {Q : State → Prop} {A : Nat → Prop} {dC : Nat → ClassId} {dI : Nat → Nat → Nat} {a : Nat → Nat} {ac : Nat → ClassId} {n : Nat} {r : Int32 × (St × (St))} (C : nd_C p l s m args c A (dC, dI) cX16_mayAll 7 RX16 ow_dm_X16_mayAll (dk_X16 ac)) (K : nd_Ki p l e (headSpec ow_dm_X16_mayAll ({ frames := 2, cells := 0, slots := 0, locals := 45 })).room s m args below meth c Q A (dC, dI) cX16_mayAll .boolean (St × (St)) (dw_X16 a ac) r) : dj_X16_mayAll_36 p l e s m args below meth c Q A dC dI a ac (df_X16_mayAll_36 n) r := by
  obtain ⟨hlt, hx, hb, hml, hown, hts, hN, hA, hK⟩ := id C
  intro x5 s0 H locs ls h hP hD hS hl
  unfold df_X16_mayAll_36 at h
  refine lv_iload hx hb dX16_mayAll_36 (lv_at hl 0 rfl) ?_
  obtain ⟨n2, h⟩ := nd_z_e ⟨_, rfl⟩ h
  exact K _ _ _ _ _ _ dX16_mayAll_38 n2 (Option.some.inj h).symm hP hD hS
set_option maxHeartbeats 40000000 in
set_option maxRecDepth 100000 in
theorem dB_X16_mayAll_6 {p : Program} {l : Launch} {e : Env} {s : State} {m : MethodId} {args : Array Value} {below : List Frame} {meth : Method} {c : Code} {Q : State → Prop} {A : Nat → Prop} {dC : Nat → ClassId} {dI : Nat → Nat → Nat} {a : Nat → Nat} {ac : Nat → ClassId} {n : Nat} {r : Int32 × (St × (St))} (C : nd_C p l s m args c A (dC, dI) cX16_mayAll 7 RX16 ow_dm_X16_mayAll (dk_X16 ac)) (K : nd_Ki p l e (headSpec ow_dm_X16_mayAll ({ frames := 2, cells := 0, slots := 0, locals := 45 })).room s m args below meth c Q A (dC, dI) cX16_mayAll .boolean (St × (St)) (dw_X16 a ac) r) {g6 : Int32 → Int32 → Int32 → Int32 → Int32 → Int32 → (St × (St)) → Option (Int32 × (St × (St)))} (J6 : dj_X16_mayAll_6 p l e s m args below meth c Q A dC dI a ac g6 r) : dj_X16_mayAll_6 p l e s m args below meth c Q A dC dI a ac (dF_X16_mayAll_6 n g6) r := by
  obtain ⟨hlt, hx, hb, hml, hown, hts, hN, hA, hK⟩ := id C
  intro x1 x2 x3 x4 x5 x6 s0 H locs ls h hP hD hS hl
  unfold dF_X16_mayAll_6 at h
  refine lv_iload hx hb dX16_mayAll_6 (lv_at hl 6 rfl) ?_
  refine lv_iload_n hx hb dX16_mayAll_8 rfl (lv_at hl 3 rfl) ?_
  refine lv_icmp_ge (tgt := 36) hx hb dX16_mayAll_9 (by decide) (fun c1 => ?_) (fun c1 => ?_)
  · have h := nd_pos h c1
    exact (db_X16_mayAll_36 C K) (x5) s0 _ _ _ h hP hD hS (lv_sub hl [5] rfl)
  · have h := nd_neg h c1
    refine lv_iload hx hb dX16_mayAll_12 (lv_at hl 5 rfl) ?_
    refine lv_if_eq (tgt := 36) hx hb dX16_mayAll_14 (by decide) (fun c3 => ?_) (fun c3 => ?_)
    · have h := nd_pos h c3
      exact (db_X16_mayAll_36 C K) (x5) s0 _ _ _ h hP hD hS (lv_sub hl [5] rfl)
    · have h := nd_neg h c3
      refine lv_aload_n hx hb dX16_mayAll_17 rfl (lv_at hl 0 rfl) ?_
      refine lv_iload_n hx hb dX16_mayAll_18 rfl (lv_at hl 1 rfl) ?_
      refine lv_iload_n hx hb dX16_mayAll_19 rfl (lv_at hl 2 rfl) ?_
      refine lv_iload hx hb dX16_mayAll_20 (lv_at hl 6 rfl) ?_
      refine lv_iadd hx hb dX16_mayAll_22 ?_
      refine lv_iload hx hb dX16_mayAll_23 (lv_at hl 4 rfl) ?_
      obtain ⟨q4, s5, hq, h⟩ := nd_b2_e h
      have hPc := hP
      have hDc := hD
      have hKc := hK
      have hFc := nd_rs hD hS hA
      refine nd_cVi (As := [.int x1, .int (x2 + x6), .int x4]) (rest := []) (q := q4) (w' := dw_X16 a ac s5) ⟨hx, hb, hml, hown, hts⟩ (fun sz => dm_X16_may l hlt dC dI a ac n (x1) ((x2 + x6)) (x4) s0 hq sz) (cwV 3 hts gi_dm_X16_mayAll_0 rfl rfl rfl (by decide +kernel) ⟨Nat.le_of_ble_eq_true rfl, Nat.le_of_ble_eq_true rfl⟩) hPc hDc hKc hS hA hN (va_recv hKc hPc (ci := 17) (q0 := 0) rfl rfl) rfl hl.1 rfl (Nat.le_of_ble_eq_true rfl) dX16_mayAll_25 (fun H locs hP1 hD1 hk1 hS => ?_)
      have hP := hP1
      have hD := hD1.weaken (fun k q _ h => hFc q.1 h)
      refine lv_istore (lv' := [(5, .int q4), (0, .ref (a 0)), (1, .int x1), (2, .int x2), (3, .int x3), (4, .int x4), (6, .int x6)]) hx hb dX16_mayAll_28 hl (by decide) rfl (fun ls hl => ?_)
      obtain ⟨z7, ez7, h⟩ := nd_let_e h
      refine lv_iinc (v := z7) (lv' := [(6, .int z7), (5, .int q4), (0, .ref (a 0)), (1, .int x1), (2, .int x2), (3, .int x3), (4, .int x4)]) hx hb dX16_mayAll_30 hl (k := 6) rfl (by rw [ez7]) (by decide) rfl (fun ls hl => ?_)
      refine lv_goto (tgt := 6) hx hb dX16_mayAll_33 (by decide) ?_
      exact (J6) (x1) (x2) (x3) (x4) (q4) (z7) s5 _ _ _ h hP hD hS (lv_sub hl [2, 3, 4, 5, 6, 1, 0] rfl)
set_option maxHeartbeats 40000000 in
set_option maxRecDepth 100000 in
theorem db_X16_mayAll_6 {p : Program} {l : Launch} {e : Env} {s : State} {m : MethodId} {args : Array Value} {below : List Frame} {meth : Method} {c : Code} {Q : State → Prop} {A : Nat → Prop} {dC : Nat → ClassId} {dI : Nat → Nat → Nat} {a : Nat → Nat} {ac : Nat → ClassId} {n : Nat} {r : Int32 × (St × (St))} (C : nd_C p l s m args c A (dC, dI) cX16_mayAll 7 RX16 ow_dm_X16_mayAll (dk_X16 ac)) (K : nd_Ki p l e (headSpec ow_dm_X16_mayAll ({ frames := 2, cells := 0, slots := 0, locals := 45 })).room s m args below meth c Q A (dC, dI) cX16_mayAll .boolean (St × (St)) (dw_X16 a ac) r) (k : Nat) : dj_X16_mayAll_6 p l e s m args below meth c Q A dC dI a ac (df_X16_mayAll_6 n k) r := by
  induction k with
  | zero => intro x1 x2 x3 x4 x5 x6 s0 H locs ls h; exact nomatch (show (none : Option (Int32 × (St × (St)))) = some r from h)
  | succ k ih => exact dB_X16_mayAll_6 C K ih
set_option maxHeartbeats 40000000 in
set_option maxRecDepth 100000 in
theorem db_X16_mayAll_0 {p : Program} {l : Launch} {e : Env} {s : State} {m : MethodId} {args : Array Value} {below : List Frame} {meth : Method} {c : Code} {Q : State → Prop} {A : Nat → Prop} {dC : Nat → ClassId} {dI : Nat → Nat → Nat} {a : Nat → Nat} {ac : Nat → ClassId} {n : Nat} {r : Int32 × (St × (St))} (C : nd_C p l s m args c A (dC, dI) cX16_mayAll 7 RX16 ow_dm_X16_mayAll (dk_X16 ac)) (K : nd_Ki p l e (headSpec ow_dm_X16_mayAll ({ frames := 2, cells := 0, slots := 0, locals := 45 })).room s m args below meth c Q A (dC, dI) cX16_mayAll .boolean (St × (St)) (dw_X16 a ac) r) : dj_X16_mayAll_0 p l e s m args below meth c Q A dC dI a ac (df_X16_mayAll_0 n) r := by
  obtain ⟨hlt, hx, hb, hml, hown, hts, hN, hA, hK⟩ := id C
  intro v0 v1 v2 v3 s0 H locs ls h hP hD hS hl
  unfold df_X16_mayAll_0 at h
  refine lv_iconst (v := 1) hx hb dX16_mayAll_0 (by decide) ?_
  refine lv_istore (lv' := [(5, .int 1), (0, .ref (a 0)), (1, .int v0), (2, .int v1), (3, .int v2), (4, .int v3)]) hx hb dX16_mayAll_1 hl (by decide) rfl (fun ls hl => ?_)
  refine lv_iconst (v := 0) hx hb dX16_mayAll_3 (by decide) ?_
  refine lv_istore (lv' := [(6, .int 0), (5, .int 1), (0, .ref (a 0)), (1, .int v0), (2, .int v1), (3, .int v2), (4, .int v3)]) hx hb dX16_mayAll_4 hl (by decide) rfl (fun ls hl => ?_)
  exact (db_X16_mayAll_6 C K n) (v0) (v1) (v2) (v3) (1) (0) s0 _ _ _ h hP hD hS (lv_sub hl [2, 3, 4, 5, 6, 1, 0] rfl)
set_option maxHeartbeats 40000000 in
set_option maxRecDepth 100000 in
theorem dm_X16_mayAll (l : Launch) (hlt : l.stackTraces = false) (dC : Nat → ClassId) (dI : Nat → Nat → Nat) (a : Nat → Nat) (ac : Nat → ClassId) (n : Nat) (v0 : Int32) (v1 : Int32) (v2 : Int32) (v3 : Int32) (s0 : St × (St)) {r : Int32 × (St × (St))} (h : df_X16_mayAll n v0 v1 v2 v3 s0 = some r) (sz : Nat) : Met l yX16_mayAll ow_dm_X16_mayAll ({ frames := 2, cells := 0, slots := 0, locals := 45 }) (va_Pc [.ref (a 0), .int v0, .int v1, .int v2, .int v3] (fun U => U.heap.size = sz ∧ va_P (dC, dI) vwCl (dw_X16 a ac s0) U.heap ∧ va_K (dC, dI) vwCl (dk_X16 ac) U ∧ va_D (fun _ => True) (dw_X16 a ac s0) ∧ nv_E dI (va_A (dw_X16 a ac s0) sz) U)) (va_Qi (fun x _ => x = r.1) (fun (_ : Unit) t => va_P (dC, dI) vwCl (dw_X16 a ac r.2) t.heap ∧ va_K (dC, dI) vwCl (dk_X16 ac) t ∧ va_D (va_A (dw_X16 a ac s0) sz) (dw_X16 a ac r.2)) (va_A (dw_X16 a ac s0) sz)) 0 0 (va_A (dw_X16 a ac s0) sz) := by
  refine Met.ofW (cc := cX16_mayAll) (maxL := 7) (ret := (some .boolean)) (by decide) rfl ?_
  intro p e s m args below meth c s₁ B hml hv
  obtain ⟨rfl, hsz, hP, hK, hD0, hN⟩ := hv
  have hx := B.exec
  have hb := B.bytes
  have hr := B.returns
  have hts := atoms_spec (ws := ow_dm_X16_mayAll) B.pre
  have hown : s.vm.findClass RX16 = some m.cls := findClass_of_methodNamed B.named
  have hlocks := B.notSynchronized
  subst hsz
  have hD := hD0.self (sz := s.heap.size)
  generalize hAe : va_A (dw_X16 a ac s0) s.heap.size = A at hD hN ⊢
  have hA : ∀ q : Nat, s.heap.size ≤ q → A q := fun q h => by rw [← hAe]; exact Or.inr h
  have hl := lv_entry ([.ref (a 0), .int v0, .int v1, .int v2, .int v3]) (n := 7) (Nat.le_of_ble_eq_true rfl)
  rw [lg_entry_eq]
  generalize (lg_sl ([.ref (a 0), .int v0, .int v1, .int v2, .int v3]) ++ List.replicate (7 - (lg_sl ([.ref (a 0), .int v0, .int v1, .int v2, .int v3])).length) Slot.unset).toArray = ls at hl ⊢
  have hl : lv_has ls 7 [(0, .ref (a 0)), (1, .int v0), (2, .int v1), (3, .int v2), (4, .int v3)] := hl
  exact db_X16_mayAll_0 (dC := dC) (dI := dI) (a := a) (ac := ac) (n := n) (r := r) ⟨hlt, hx, hb, hml, hown, hts, hN, hA, hK⟩ (fun pc v τ H locs ls d z er hP hD hS => by subst er; exact W.zret (v := v) hx hb hr z (fun t ht hW => ⟨⟨v, (), rfl, rfl, by rw [ht]; exact hP, va_K.moved hW.alike hK, hD⟩, hS.F ht⟩) hS.2.2 d) v0 v1 v2 v3 s0 _ _ _ h hP hD va_S.rf (lv_sub hl [0, 1, 2, 3, 4] rfl)
def ow_dm_X16_wanted : List Cond := Cond.code yX16_wanted cX16_wanted 8 (some .int) :: ([Cond.fieldLink RX16 70 "TimeMachineModel$Machine" "holders" "[I", Cond.fieldLink RX16 64 "TimeMachineModel$Machine" "frame" "[I"] ++ (u_ws RX16 TX16 56 ++ []))
theorem gd_dm_X16_wanted : ∀ w ∈ ow_dm_X16_wanted, (w.onTables && w.keeps) = true ∨ ∃ ty, w = Cond.arrayClass ty := List.forall_mem_cons.mpr ⟨good_of_word rfl, List.forall_mem_append.mpr ⟨fun w h => good_of_word (List.all_eq_true.mp (by decide +kernel) w h), List.forall_mem_append.mpr ⟨gu_X16, fun _ h => nomatch h⟩⟩⟩
theorem hi_dm_X16_wanted_X16 : ∀ w ∈ u_ws RX16 TX16 56, w ∈ ow_dm_X16_wanted := fun w h => List.mem_cons_of_mem _ (List.mem_append_right _ (List.mem_append_left _ h))
def dj_X16_wanted_80 (p : Program) (l : Launch) (e : Env) (s : State) (m : MethodId) (args : Array Value) (below : List Frame) (meth : Method) (c : Code) (Q : State → Prop) (A : Nat → Prop) (dC : Nat → ClassId) (dI : Nat → Nat → Nat) (a : Nat → Nat) (ac : Nat → ClassId) (g : Int32 → Int32 → Int32 → Int32 → Int32 → (St × (St)) → Option (Int32 × (St × (St)))) (r : Int32 × (St × (St))) : Prop := ∀ (x1 : Int32) (x2 : Int32) (x3 : Int32) (x5 : Int32) (y0 : Int32) (s0 : St × (St)) (H : Heap) (locs : List Loc) (ls : Array Slot), g x1 x2 x3 x5 y0 s0 = some r → va_P (dC, dI) vwCl (dw_X16 a ac s0) H → va_D A (dw_X16 a ac s0) → va_S A s.heap H locs → lv_has ls 8 [(0, .ref (a 0)), (1, .int x1), (2, .int x2), (3, .int x3), (5, .int x5)] → W p l e (headSpec ow_dm_X16_wanted ({ frames := 0, cells := 0, slots := 0, locals := 0 })).room s m args below meth c H locs 0 0 Q (F0 m 80 ls [.int y0])
def dj_X16_wanted_78 (p : Program) (l : Launch) (e : Env) (s : State) (m : MethodId) (args : Array Value) (below : List Frame) (meth : Method) (c : Code) (Q : State → Prop) (A : Nat → Prop) (dC : Nat → ClassId) (dI : Nat → Nat → Nat) (a : Nat → Nat) (ac : Nat → ClassId) (g : Int32 → Int32 → Int32 → Int32 → Int32 → (St × (St)) → Option (Int32 × (St × (St)))) (r : Int32 × (St × (St))) : Prop := ∀ (x1 : Int32) (x2 : Int32) (x3 : Int32) (x4 : Int32) (x5 : Int32) (s0 : St × (St)) (H : Heap) (locs : List Loc) (ls : Array Slot), g x1 x2 x3 x4 x5 s0 = some r → va_P (dC, dI) vwCl (dw_X16 a ac s0) H → va_D A (dw_X16 a ac s0) → va_S A s.heap H locs → lv_has ls 8 [(0, .ref (a 0)), (1, .int x1), (2, .int x2), (3, .int x3), (4, .int x4), (5, .int x5)] → W p l e (headSpec ow_dm_X16_wanted ({ frames := 0, cells := 0, slots := 0, locals := 0 })).room s m args below meth c H locs 0 0 Q (F0 m 78 ls [])
def dj_X16_wanted_48 (p : Program) (l : Launch) (e : Env) (s : State) (m : MethodId) (args : Array Value) (below : List Frame) (meth : Method) (c : Code) (Q : State → Prop) (A : Nat → Prop) (dC : Nat → ClassId) (dI : Nat → Nat → Nat) (a : Nat → Nat) (ac : Nat → ClassId) (g : Int32 → Int32 → Int32 → Int32 → Int32 → Int32 → Int32 → (St × (St)) → Option (Int32 × (St × (St)))) (r : Int32 × (St × (St))) : Prop := ∀ (x1 : Int32) (x2 : Int32) (x3 : Int32) (x4 : Int32) (x5 : Int32) (x6 : Int32) (y0 : Int32) (s0 : St × (St)) (H : Heap) (locs : List Loc) (ls : Array Slot), g x1 x2 x3 x4 x5 x6 y0 s0 = some r → va_P (dC, dI) vwCl (dw_X16 a ac s0) H → va_D A (dw_X16 a ac s0) → va_S A s.heap H locs → lv_has ls 8 [(0, .ref (a 0)), (1, .int x1), (2, .int x2), (3, .int x3), (4, .int x4), (5, .int x5), (6, .int x6)] → W p l e (headSpec ow_dm_X16_wanted ({ frames := 0, cells := 0, slots := 0, locals := 0 })).room s m args below meth c H locs 0 0 Q (F0 m 48 ls [.int y0])
def dj_X16_wanted_43 (p : Program) (l : Launch) (e : Env) (s : State) (m : MethodId) (args : Array Value) (below : List Frame) (meth : Method) (c : Code) (Q : State → Prop) (A : Nat → Prop) (dC : Nat → ClassId) (dI : Nat → Nat → Nat) (a : Nat → Nat) (ac : Nat → ClassId) (g : Int32 → Int32 → Int32 → Int32 → Int32 → Int32 → (St × (St)) → Option (Int32 × (St × (St)))) (r : Int32 × (St × (St))) : Prop := ∀ (x1 : Int32) (x2 : Int32) (x3 : Int32) (x4 : Int32) (x5 : Int32) (x6 : Int32) (s0 : St × (St)) (H : Heap) (locs : List Loc) (ls : Array Slot), g x1 x2 x3 x4 x5 x6 s0 = some r → va_P (dC, dI) vwCl (dw_X16 a ac s0) H → va_D A (dw_X16 a ac s0) → va_S A s.heap H locs → lv_has ls 8 [(0, .ref (a 0)), (1, .int x1), (2, .int x2), (3, .int x3), (4, .int x4), (5, .int x5), (6, .int x6)] → W p l e (headSpec ow_dm_X16_wanted ({ frames := 0, cells := 0, slots := 0, locals := 0 })).room s m args below meth c H locs 0 0 Q (F0 m 43 ls [])
def dj_X16_wanted_6 (p : Program) (l : Launch) (e : Env) (s : State) (m : MethodId) (args : Array Value) (below : List Frame) (meth : Method) (c : Code) (Q : State → Prop) (A : Nat → Prop) (dC : Nat → ClassId) (dI : Nat → Nat → Nat) (a : Nat → Nat) (ac : Nat → ClassId) (g : Int32 → Int32 → Int32 → Int32 → Int32 → (St × (St)) → Option (Int32 × (St × (St)))) (r : Int32 × (St × (St))) : Prop := ∀ (x1 : Int32) (x2 : Int32) (x3 : Int32) (x4 : Int32) (x5 : Int32) (s0 : St × (St)) (H : Heap) (locs : List Loc) (ls : Array Slot), g x1 x2 x3 x4 x5 s0 = some r → va_P (dC, dI) vwCl (dw_X16 a ac s0) H → va_D A (dw_X16 a ac s0) → va_S A s.heap H locs → lv_has ls 8 [(0, .ref (a 0)), (1, .int x1), (2, .int x2), (3, .int x3), (4, .int x4), (5, .int x5)] → W p l e (headSpec ow_dm_X16_wanted ({ frames := 0, cells := 0, slots := 0, locals := 0 })).room s m args below meth c H locs 0 0 Q (F0 m 6 ls [])
def dj_X16_wanted_0 (p : Program) (l : Launch) (e : Env) (s : State) (m : MethodId) (args : Array Value) (below : List Frame) (meth : Method) (c : Code) (Q : State → Prop) (A : Nat → Prop) (dC : Nat → ClassId) (dI : Nat → Nat → Nat) (a : Nat → Nat) (ac : Nat → ClassId) (g : Int32 → Int32 → Int32 → (St × (St)) → Option (Int32 × (St × (St)))) (r : Int32 × (St × (St))) : Prop := ∀ (v0 : Int32) (v1 : Int32) (v2 : Int32) (s0 : St × (St)) (H : Heap) (locs : List Loc) (ls : Array Slot), g v0 v1 v2 s0 = some r → va_P (dC, dI) vwCl (dw_X16 a ac s0) H → va_D A (dw_X16 a ac s0) → va_S A s.heap H locs → lv_has ls 8 [(0, .ref (a 0)), (1, .int v0), (2, .int v1), (3, .int v2)] → W p l e (headSpec ow_dm_X16_wanted ({ frames := 0, cells := 0, slots := 0, locals := 0 })).room s m args below meth c H locs 0 0 Q (F0 m 0 ls [])
set_option maxHeartbeats 40000000 in
set_option maxRecDepth 100000 in
theorem db_X16_wanted_80 {p : Program} {l : Launch} {e : Env} {s : State} {m : MethodId} {args : Array Value} {below : List Frame} {meth : Method} {c : Code} {Q : State → Prop} {A : Nat → Prop} {dC : Nat → ClassId} {dI : Nat → Nat → Nat} {a : Nat → Nat} {ac : Nat → ClassId} {n : Nat} {r : Int32 × (St × (St))} (C : nd_C p l s m args c A (dC, dI) cX16_wanted 8 RX16 ow_dm_X16_wanted (dk_X16 ac)) (K : nd_Ki p l e (headSpec ow_dm_X16_wanted ({ frames := 0, cells := 0, slots := 0, locals := 0 })).room s m args below meth c Q A (dC, dI) cX16_wanted .int (St × (St)) (dw_X16 a ac) r) {g6 : Int32 → Int32 → Int32 → Int32 → Int32 → (St × (St)) → Option (Int32 × (St × (St)))} (J6 : dj_X16_wanted_6 p l e s m args below meth c Q A dC dI a ac g6 r) : dj_X16_wanted_80 p l e s m args below meth c Q A dC dI a ac (df_X16_wanted_80 n g6) r := by
  obtain ⟨hlt, hx, hb, hml, hown, hts, hN, hA, hK⟩ := id C
  intro x1 x2 x3 x5 y0 s0 H locs ls h hP hD hS hl
  unfold df_X16_wanted_80 at h
  refine lv_istore (lv' := [(4, .int y0), (0, .ref (a 0)), (1, .int x1), (2, .int x2), (3, .int x3), (5, .int x5)]) hx hb dX16_wanted_80 hl (by decide) rfl (fun ls hl => ?_)
  obtain ⟨z5, ez5, h⟩ := nd_let_e h
  refine lv_iinc (v := z5) (lv' := [(5, .int z5), (4, .int y0), (0, .ref (a 0)), (1, .int x1), (2, .int x2), (3, .int x3)]) hx hb dX16_wanted_82 hl (k := 5) rfl (by rw [ez5]) (by decide) rfl (fun ls hl => ?_)
  refine lv_goto (tgt := 6) hx hb dX16_wanted_85 (by decide) ?_
  exact (J6) (x1) (x2) (x3) (y0) (z5) s0 _ _ _ h hP hD hS (lv_sub hl [2, 3, 4, 5, 1, 0] rfl)
set_option maxHeartbeats 40000000 in
set_option maxRecDepth 100000 in
theorem db_X16_wanted_78 {p : Program} {l : Launch} {e : Env} {s : State} {m : MethodId} {args : Array Value} {below : List Frame} {meth : Method} {c : Code} {Q : State → Prop} {A : Nat → Prop} {dC : Nat → ClassId} {dI : Nat → Nat → Nat} {a : Nat → Nat} {ac : Nat → ClassId} {n : Nat} {r : Int32 × (St × (St))} (C : nd_C p l s m args c A (dC, dI) cX16_wanted 8 RX16 ow_dm_X16_wanted (dk_X16 ac)) (K : nd_Ki p l e (headSpec ow_dm_X16_wanted ({ frames := 0, cells := 0, slots := 0, locals := 0 })).room s m args below meth c Q A (dC, dI) cX16_wanted .int (St × (St)) (dw_X16 a ac) r) {g6 : Int32 → Int32 → Int32 → Int32 → Int32 → (St × (St)) → Option (Int32 × (St × (St)))} (J6 : dj_X16_wanted_6 p l e s m args below meth c Q A dC dI a ac g6 r) : dj_X16_wanted_78 p l e s m args below meth c Q A dC dI a ac (df_X16_wanted_78 n g6) r := by
  obtain ⟨hlt, hx, hb, hml, hown, hts, hN, hA, hK⟩ := id C
  intro x1 x2 x3 x4 x5 s0 H locs ls h hP hD hS hl
  unfold df_X16_wanted_78 at h
  refine lv_iload hx hb dX16_wanted_78 (lv_at hl 4 rfl) ?_
  exact (db_X16_wanted_80 C K J6) (x1) (x2) (x3) (x5) (x4) s0 _ _ _ h hP hD hS (lv_sub hl [0, 1, 2, 3, 5] rfl)
set_option maxHeartbeats 40000000 in
set_option maxRecDepth 100000 in
theorem db_X16_wanted_48 {p : Program} {l : Launch} {e : Env} {s : State} {m : MethodId} {args : Array Value} {below : List Frame} {meth : Method} {c : Code} {Q : State → Prop} {A : Nat → Prop} {dC : Nat → ClassId} {dI : Nat → Nat → Nat} {a : Nat → Nat} {ac : Nat → ClassId} {n : Nat} {r : Int32 × (St × (St))} (C : nd_C p l s m args c A (dC, dI) cX16_wanted 8 RX16 ow_dm_X16_wanted (dk_X16 ac)) (K : nd_Ki p l e (headSpec ow_dm_X16_wanted ({ frames := 0, cells := 0, slots := 0, locals := 0 })).room s m args below meth c Q A (dC, dI) cX16_wanted .int (St × (St)) (dw_X16 a ac) r) {g6 : Int32 → Int32 → Int32 → Int32 → Int32 → (St × (St)) → Option (Int32 × (St × (St)))} (J6 : dj_X16_wanted_6 p l e s m args below meth c Q A dC dI a ac g6 r) : dj_X16_wanted_48 p l e s m args below meth c Q A dC dI a ac (df_X16_wanted_48 n g6) r := by
  obtain ⟨hlt, hx, hb, hml, hown, hts, hN, hA, hK⟩ := id C
  intro x1 x2 x3 x4 x5 x6 y0 s0 H locs ls h hP hD hS hl
  unfold df_X16_wanted_48 at h
  refine lv_istore (lv' := [(7, .int y0), (0, .ref (a 0)), (1, .int x1), (2, .int x2), (3, .int x3), (4, .int x4), (5, .int x5), (6, .int x6)]) hx hb dX16_wanted_48 hl (by decide) rfl (fun ls hl => ?_)
  refine lv_iload hx hb dX16_wanted_50 (lv_at hl 0 rfl) ?_
  refine lv_if_eq (tgt := 78) hx hb dX16_wanted_52 (by decide) (fun c4 => ?_) (fun c4 => ?_)
  · have h := nd_pos h c4
    exact (db_X16_wanted_78 C K J6) (x1) (x2) (x3) (x4) (x5) s0 _ _ _ h hP hD hS (lv_sub hl [1, 2, 3, 4, 5, 6] rfl)
  · have h := nd_neg h c4
    refine lv_aload_n hx hb dX16_wanted_55 rfl (lv_at hl 1 rfl) ?_
    refine va_get (D := (dC, dI)) (ci := 17) (v := .ref (a 20)) (C := RX16) (T := TX16) (N := 56) hx hb hts hi_dm_X16_wanted_X16 hown hK hP 0 rfl rfl 28 (by decide) (hts (.fieldLink RX16 70 "TimeMachineModel$Machine" "holders" "[I") (List.mem_of_getElem? (i := 1) rfl)) (fun _ h9 => h9) rfl dX16_wanted_56 ?_
    refine lv_aload_n hx hb dX16_wanted_59 rfl (lv_at hl 1 rfl) ?_
    refine va_get (D := (dC, dI)) (ci := 17) (v := .ref (a 18)) (C := RX16) (T := TX16) (N := 56) hx hb hts hi_dm_X16_wanted_X16 hown hK hP 0 rfl rfl 26 (by decide) (hts (.fieldLink RX16 64 "TimeMachineModel$Machine" "frame" "[I") (List.mem_of_getElem? (i := 2) rfl)) (fun _ h9 => h9) rfl dX16_wanted_60 ?_
    refine lv_iload hx hb dX16_wanted_63 (lv_at hl 7 rfl) ?_
    obtain ⟨i6, h⟩ := nd_ck_e h
    refine va_iald (i := x6) hx hb hK hP 18 17 rfl rfl i6 dX16_wanted_65 ?_
    obtain ⟨i7, h⟩ := nd_ck_e h
    refine va_iald (i := (sR s0.1 16 (Int32.toNatClampNeg x6))) hx hb hK hP 20 19 rfl rfl i7 dX16_wanted_66 ?_
    refine lv_iconst (v := 1) hx hb dX16_wanted_67 (by decide) ?_
    refine lv_icmp_le (tgt := 78) hx hb dX16_wanted_68 (by decide) (fun c8 => ?_) (fun c8 => ?_)
    · have h := nd_pos h c8
      exact (db_X16_wanted_78 C K J6) (x1) (x2) (x3) (x4) (x5) s0 _ _ _ h hP hD hS (lv_sub hl [1, 2, 3, 4, 5, 6] rfl)
    · have h := nd_neg h c8
      refine lv_iload hx hb dX16_wanted_71 (lv_at hl 5 rfl) ?_
      refine lv_iconst (v := 1) hx hb dX16_wanted_73 (by decide) ?_
      refine lv_iadd hx hb dX16_wanted_74 ?_
      refine lv_goto (tgt := 80) hx hb dX16_wanted_75 (by decide) ?_
      exact (db_X16_wanted_80 C K J6) (x1) (x2) (x3) (x5) ((x4 + 1)) s0 _ _ _ h hP hD hS (lv_sub hl [1, 2, 3, 4, 6] rfl)
set_option maxHeartbeats 40000000 in
set_option maxRecDepth 100000 in
theorem db_X16_wanted_43 {p : Program} {l : Launch} {e : Env} {s : State} {m : MethodId} {args : Array Value} {below : List Frame} {meth : Method} {c : Code} {Q : State → Prop} {A : Nat → Prop} {dC : Nat → ClassId} {dI : Nat → Nat → Nat} {a : Nat → Nat} {ac : Nat → ClassId} {n : Nat} {r : Int32 × (St × (St))} (C : nd_C p l s m args c A (dC, dI) cX16_wanted 8 RX16 ow_dm_X16_wanted (dk_X16 ac)) (K : nd_Ki p l e (headSpec ow_dm_X16_wanted ({ frames := 0, cells := 0, slots := 0, locals := 0 })).room s m args below meth c Q A (dC, dI) cX16_wanted .int (St × (St)) (dw_X16 a ac) r) {g6 : Int32 → Int32 → Int32 → Int32 → Int32 → (St × (St)) → Option (Int32 × (St × (St)))} (J6 : dj_X16_wanted_6 p l e s m args below meth c Q A dC dI a ac g6 r) : dj_X16_wanted_43 p l e s m args below meth c Q A dC dI a ac (df_X16_wanted_43 n g6) r := by
  obtain ⟨hlt, hx, hb, hml, hown, hts, hN, hA, hK⟩ := id C
  intro x1 x2 x3 x4 x5 x6 s0 H locs ls h hP hD hS hl
  unfold df_X16_wanted_43 at h
  refine lv_iconst (v := 1) hx hb dX16_wanted_43 (by decide) ?_
  refine lv_goto (tgt := 48) hx hb dX16_wanted_44 (by decide) ?_
  exact (db_X16_wanted_48 C K J6) (x1) (x2) (x3) (x4) (x5) (x6) (1) s0 _ _ _ h hP hD hS (lv_sub hl [0, 1, 2, 3, 4, 5, 6] rfl)
set_option maxHeartbeats 40000000 in
set_option maxRecDepth 100000 in
theorem dB_X16_wanted_6 {p : Program} {l : Launch} {e : Env} {s : State} {m : MethodId} {args : Array Value} {below : List Frame} {meth : Method} {c : Code} {Q : State → Prop} {A : Nat → Prop} {dC : Nat → ClassId} {dI : Nat → Nat → Nat} {a : Nat → Nat} {ac : Nat → ClassId} {n : Nat} {r : Int32 × (St × (St))} (C : nd_C p l s m args c A (dC, dI) cX16_wanted 8 RX16 ow_dm_X16_wanted (dk_X16 ac)) (K : nd_Ki p l e (headSpec ow_dm_X16_wanted ({ frames := 0, cells := 0, slots := 0, locals := 0 })).room s m args below meth c Q A (dC, dI) cX16_wanted .int (St × (St)) (dw_X16 a ac) r) {g6 : Int32 → Int32 → Int32 → Int32 → Int32 → (St × (St)) → Option (Int32 × (St × (St)))} (J6 : dj_X16_wanted_6 p l e s m args below meth c Q A dC dI a ac g6 r) : dj_X16_wanted_6 p l e s m args below meth c Q A dC dI a ac (dF_X16_wanted_6 n g6) r := by
  obtain ⟨hlt, hx, hb, hml, hown, hts, hN, hA, hK⟩ := id C
  intro x1 x2 x3 x4 x5 s0 H locs ls h hP hD hS hl
  unfold dF_X16_wanted_6 at h
  refine lv_iload hx hb dX16_wanted_6 (lv_at hl 5 rfl) ?_
  refine lv_iload_n hx hb dX16_wanted_8 rfl (lv_at hl 3 rfl) ?_
  refine lv_icmp_ge (tgt := 88) hx hb dX16_wanted_9 (by decide) (fun c1 => ?_) (fun c1 => ?_)
  · have h := nd_pos h c1
    refine lv_iload hx hb dX16_wanted_88 (lv_at hl 4 rfl) ?_
    exact K _ _ _ _ _ _ dX16_wanted_90 rfl (Option.some.inj h).symm hP hD hS
  · have h := nd_neg h c1
    refine lv_bipush (v := 64) hx hb dX16_wanted_12 (by decide) ?_
    refine lv_iload_n hx hb dX16_wanted_14 rfl (lv_at hl 1 rfl) ?_
    refine lv_imul hx hb dX16_wanted_15 ?_
    refine lv_iload_n hx hb dX16_wanted_16 rfl (lv_at hl 2 rfl) ?_
    refine lv_iload hx hb dX16_wanted_17 (lv_at hl 5 rfl) ?_
    refine lv_iadd hx hb dX16_wanted_19 ?_
    refine lv_sipush (v := 1024) hx hb dX16_wanted_20 (by decide) ?_
    refine lv_idiv hx hb dX16_wanted_23 (by decide) ?_
    refine lv_iadd hx hb dX16_wanted_24 ?_
    refine lv_topi (fun z2 ez2 => ?_)
    have h := nd_at h ez2
    refine lv_istore (lv' := [(6, .int z2), (0, .ref (a 0)), (1, .int x1), (2, .int x2), (3, .int x3), (4, .int x4), (5, .int x5)]) hx hb dX16_wanted_25 hl (by decide) rfl (fun ls hl => ?_)
    refine lv_iload hx hb dX16_wanted_27 (lv_at hl 6 rfl) ?_
    refine lv_if_eq (tgt := 43) hx hb dX16_wanted_29 (by decide) (fun c3 => ?_) (fun c3 => ?_)
    · have h := nd_pos h c3
      exact (db_X16_wanted_43 C K J6) (x1) (x2) (x3) (x4) (x5) (z2) s0 _ _ _ h hP hD hS (lv_sub hl [1, 2, 3, 4, 5, 6, 0] rfl)
    · have h := nd_neg h c3
      refine lv_iload_n hx hb dX16_wanted_32 rfl (lv_at hl 3 rfl) ?_
      refine lv_iload hx hb dX16_wanted_33 (lv_at hl 6 rfl) ?_
      refine lv_iadd hx hb dX16_wanted_35 ?_
      refine lv_sipush (v := 1024) hx hb dX16_wanted_36 (by decide) ?_
      refine lv_irem hx hb dX16_wanted_39 (by decide) ?_
      refine lv_if_ne (tgt := 47) hx hb dX16_wanted_40 (by decide) (fun c9 => ?_) (fun c9 => ?_)
      · have h := nd_neg h c9
        refine lv_iconst (v := 0) hx hb dX16_wanted_47 (by decide) ?_
        exact (db_X16_wanted_48 C K J6) (x1) (x2) (x3) (x4) (x5) (z2) (0) s0 _ _ _ h hP hD hS (lv_sub hl [1, 2, 3, 4, 5, 6, 0] rfl)
      · have h := nd_pos h c9
        exact (db_X16_wanted_43 C K J6) (x1) (x2) (x3) (x4) (x5) (z2) s0 _ _ _ h hP hD hS (lv_sub hl [1, 2, 3, 4, 5, 6, 0] rfl)
set_option maxHeartbeats 40000000 in
set_option maxRecDepth 100000 in
theorem db_X16_wanted_6 {p : Program} {l : Launch} {e : Env} {s : State} {m : MethodId} {args : Array Value} {below : List Frame} {meth : Method} {c : Code} {Q : State → Prop} {A : Nat → Prop} {dC : Nat → ClassId} {dI : Nat → Nat → Nat} {a : Nat → Nat} {ac : Nat → ClassId} {n : Nat} {r : Int32 × (St × (St))} (C : nd_C p l s m args c A (dC, dI) cX16_wanted 8 RX16 ow_dm_X16_wanted (dk_X16 ac)) (K : nd_Ki p l e (headSpec ow_dm_X16_wanted ({ frames := 0, cells := 0, slots := 0, locals := 0 })).room s m args below meth c Q A (dC, dI) cX16_wanted .int (St × (St)) (dw_X16 a ac) r) (k : Nat) : dj_X16_wanted_6 p l e s m args below meth c Q A dC dI a ac (df_X16_wanted_6 n k) r := by
  induction k with
  | zero => intro x1 x2 x3 x4 x5 s0 H locs ls h; exact nomatch (show (none : Option (Int32 × (St × (St)))) = some r from h)
  | succ k ih => exact dB_X16_wanted_6 C K ih

