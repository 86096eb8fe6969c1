set_option maxHeartbeats 40000000 in
set_option maxRecDepth 100000 in
theorem db_X13_isAlike_0 {p : Program} {l : Launch} {e : Env} {s : State} {m : MethodId} {args : Array Value} {below : List Frame} {meth : Method} {c : Code} {Q : State → Prop} {A : Nat → Prop} {dC : Nat → ClassId} {dI : Nat → Nat → Nat} {a : Nat → Nat} {ac : Nat → ClassId} {n : Nat} {r : Int32 × (St)} (C : nd_C p l s m args c A (dC, dI) cX13_isAlike 5 RX13 ow_dm_X13_isAlike (dk_X13 ac)) (K : nd_Ki p l e (headSpec ow_dm_X13_isAlike ({ frames := 2, cells := 0, slots := 0, locals := 40 })).room s m args below meth c Q A (dC, dI) cX13_isAlike .boolean (St) (dw_X13 a ac) r) : dj_X13_isAlike_0 p l e s m args below meth c Q A dC dI a ac (df_X13_isAlike_0 n) r := by
  obtain ⟨hlt, hx, hb, hml, hown, hts, hN, hA, hK⟩ := id C
  intro v0 v1 v2 s0 H locs ls h hP hD hS hl
  unfold df_X13_isAlike_0 at h
  refine lv_iload_n hx hb dX13_isAlike_0 rfl (lv_at hl 1 rfl) ?_
  refine lv_istore (lv' := [(4, .int v0), (0, .ref (a 0)), (1, .int v0), (2, .int v1), (3, .int v2)]) hx hb dX13_isAlike_1 hl (by decide) rfl (fun ls hl => ?_)
  exact (db_X13_isAlike_3 C K n) (v0) (v1) (v2) (v0) s0 _ _ _ h hP hD hS (lv_sub hl [1, 2, 3, 4, 0] rfl)
set_option maxHeartbeats 40000000 in
set_option maxRecDepth 100000 in
theorem dm_X13_isAlike (l : Launch) (hlt : l.stackTraces = false) (dC : Nat → ClassId) (dI : Nat → Nat → Nat) (a : Nat → Nat) (ac : Nat → ClassId) (n : Nat) (v0 : Int32) (v1 : Int32) (v2 : Int32) (s0 : St) {r : Int32 × (St)} (h : df_X13_isAlike n v0 v1 v2 s0 = some r) (sz : Nat) : Met l yX13_isAlike ow_dm_X13_isAlike ({ frames := 2, cells := 0, slots := 0, locals := 40 }) (va_Pc [.ref (a 0), .int v0, .int v1, .int v2] (fun U => U.heap.size = sz ∧ va_P (dC, dI) vwCl (dw_X13 a ac s0) U.heap ∧ va_K (dC, dI) vwCl (dk_X13 ac) U ∧ va_D (fun _ => True) (dw_X13 a ac s0) ∧ nv_E (va_A (dw_X13 a ac s0) sz) U)) (va_Qi (fun x _ => x = r.1) (fun (_ : Unit) t => va_P (dC, dI) vwCl (dw_X13 a ac r.2) t.heap ∧ va_K (dC, dI) vwCl (dk_X13 ac) t ∧ va_D (va_A (dw_X13 a ac s0) sz) (dw_X13 a ac r.2)) (va_A (dw_X13 a ac s0) sz)) 0 0 (va_A (dw_X13 a ac s0) sz) := by
  refine Met.ofW (cc := cX13_isAlike) (maxL := 5) (ret := (some .boolean)) (by decide) rfl ?_
  intro p e s m args below meth c s₁ B hml hv
  obtain ⟨rfl, hsz, hP, hK, hD0, hN⟩ := hv
  have hx := B.exec
  have hb := B.bytes
  have hr := B.returns
  have hts := atoms_spec (ws := ow_dm_X13_isAlike) B.pre
  have hown : s.vm.findClass RX13 = some m.cls := findClass_of_methodNamed B.named
  have hlocks := B.notSynchronized
  subst hsz
  have hD := hD0.self (sz := s.heap.size)
  generalize hAe : va_A (dw_X13 a ac s0) s.heap.size = A at hD hN ⊢
  have hA : ∀ q : Nat, s.heap.size ≤ q → A q := fun q h => by rw [← hAe]; exact Or.inr h
  have hl := lv_entry ([.ref (a 0), .int v0, .int v1, .int v2]) (n := 5) (Nat.le_of_ble_eq_true rfl)
  rw [lg_entry_eq]
  generalize (lg_sl ([.ref (a 0), .int v0, .int v1, .int v2]) ++ List.replicate (5 - (lg_sl ([.ref (a 0), .int v0, .int v1, .int v2])).length) Slot.unset).toArray = ls at hl ⊢
  have hl : lv_has ls 5 [(0, .ref (a 0)), (1, .int v0), (2, .int v1), (3, .int v2)] := hl
  exact db_X13_isAlike_0 (dC := dC) (dI := dI) (a := a) (ac := ac) (n := n) (r := r) ⟨hlt, hx, hb, hml, hown, hts, hN, hA, hK⟩ (fun pc v τ H locs ls d z er hP hD hS => by subst er; exact W.zret (v := v) hx hb hr z (fun t ht hW => ⟨⟨v, (), rfl, rfl, by rw [ht]; exact hP, va_K.moved hW.alike hK, hD⟩, hS.F ht⟩) hS.2.2 d) v0 v1 v2 s0 _ _ _ h hP hD va_S.rf (lv_sub hl [0, 1, 2, 3] rfl)
def ow_dm_X13_find : List Cond := .code yX13_find cX13_find 4 (some .int) :: ([.fieldLink RX13 439 "TimeMachineModel$Assembler" "labels" "I", .fieldLink RX13 337 "TimeMachineModel$Assembler" "label" "[I", .constant RX13 442 (131071), .methodLink RX13 443 yX13_isAlike, .instanceMethod yX13_isAlike, .selects RX13 yX13_isAlike yX13_isAlike, .initialized RX13] ++ (u_ws RX13 TX13 37 ++ (ow_dm_X13_isAlike ++ [])))
theorem gd_dm_X13_find : ∀ w ∈ ow_dm_X13_find, (w.onTables && w.keeps) = true ∨ ∃ ty, w = Cond.arrayClass ty := List.forall_mem_cons.mpr ⟨good_of_word rfl, List.forall_mem_append.mpr ⟨fun w h => good_of_word (List.all_eq_true.mp (by decide +kernel) w h), List.forall_mem_append.mpr ⟨gu_X13, List.forall_mem_append.mpr ⟨gd_dm_X13_isAlike, fun _ h => nomatch h⟩⟩⟩⟩
theorem hi_dm_X13_find_X13 : ∀ w ∈ u_ws RX13 TX13 37, w ∈ ow_dm_X13_find := fun w h => List.mem_cons_of_mem _ (List.mem_append_right _ (List.mem_append_left _ h))
theorem gi_dm_X13_find_0 : GoodIn ow_dm_X13_find (wsV RX13 443 RX13 yX13_isAlike ow_dm_X13_isAlike) := goodIn_app (goodIn_of _ (by decide +kernel)) (fun w h => ⟨List.mem_cons_of_mem _ (List.mem_append_right _ (List.mem_append_right _ (List.mem_append_left _ h))), gd_dm_X13_isAlike w h⟩)
def dj_X13_find_44 (p : Program) (l : Launch) (e : Env) (s : State) (m : MethodId) (args : Array Value) (below : List Frame) (meth : Method) (c : Code) (Q : State → Prop) (A : Nat → Prop) (dC : Nat → ClassId) (dI : Nat → Nat → Nat) (a : Nat → Nat) (ac : Nat → ClassId) (g : Int32 → Int32 → Int32 → (St) → Option (Int32 × (St))) (r : Int32 × (St)) : Prop := ∀ (x1 : Int32) (x2 : Int32) (x3 : Int32) (s0 : St) (H : Heap) (locs : List Loc) (ls : Array Slot), g x1 x2 x3 s0 = some r → va_P (dC, dI) vwCl (dw_X13 a ac s0) H → va_D A (dw_X13 a ac s0) → va_S A s.heap H locs → lv_has ls 4 [(0, .ref (a 0)), (1, .int x1), (2, .int x2), (3, .int x3)] → W p l e (headSpec ow_dm_X13_find ({ frames := 3, cells := 0, slots := 0, locals := 64 })).room s m args below meth c H locs 0 0 Q (F0 m 44 ls [])
def dj_X13_find_2 (p : Program) (l : Launch) (e : Env) (s : State) (m : MethodId) (args : Array Value) (below : List Frame) (meth : Method) (c : Code) (Q : State → Prop) (A : Nat → Prop) (dC : Nat → ClassId) (dI : Nat → Nat → Nat) (a : Nat → Nat) (ac : Nat → ClassId) (g : Int32 → Int32 → Int32 → (St) → Option (Int32 × (St))) (r : Int32 × (St)) : Prop := ∀ (x1 : Int32) (x2 : Int32) (x3 : Int32) (s0 : St) (H : Heap) (locs : List Loc) (ls : Array Slot), g x1 x2 x3 s0 = some r → va_P (dC, dI) vwCl (dw_X13 a ac s0) H → va_D A (dw_X13 a ac s0) → va_S A s.heap H locs → lv_has ls 4 [(0, .ref (a 0)), (1, .int x1), (2, .int x2), (3, .int x3)] → W p l e (headSpec ow_dm_X13_find ({ frames := 3, cells := 0, slots := 0, locals := 64 })).room s m args below meth c H locs 0 0 Q (F0 m 2 ls [])
def dj_X13_find_0 (p : Program) (l : Launch) (e : Env) (s : State) (m : MethodId) (args : Array Value) (below : List Frame) (meth : Method) (c : Code) (Q : State → Prop) (A : Nat → Prop) (dC : Nat → ClassId) (dI : Nat → Nat → Nat) (a : Nat → Nat) (ac : Nat → ClassId) (g : Int32 → Int32 → (St) → Option (Int32 × (St))) (r : Int32 × (St)) : Prop := ∀ (v0 : Int32) (v1 : Int32) (s0 : St) (H : Heap) (locs : List Loc) (ls : Array Slot), g v0 v1 s0 = some r → va_P (dC, dI) vwCl (dw_X13 a ac s0) H → va_D A (dw_X13 a ac s0) → va_S A s.heap H locs → lv_has ls 4 [(0, .ref (a 0)), (1, .int v0), (2, .int v1)] → W p l e (headSpec ow_dm_X13_find ({ frames := 3, cells := 0, slots := 0, locals := 64 })).room s m args below meth c H locs 0 0 Q (F0 m 0 ls [])
set_option maxHeartbeats 40000000 in
set_option maxRecDepth 100000 in
theorem db_X13_find_44 {p : Program} {l : Launch} {e : Env} {s : State} {m : MethodId} {args : Array Value} {below : List Frame} {meth : Method} {c : Code} {Q : State → Prop} {A : Nat → Prop} {dC : Nat → ClassId} {dI : Nat → Nat → Nat} {a : Nat → Nat} {ac : Nat → ClassId} {n : Nat} {r : Int32 × (St)} (C : nd_C p l s m args c A (dC, dI) cX13_find 4 RX13 ow_dm_X13_find (dk_X13 ac)) (K : nd_Ki p l e (headSpec ow_dm_X13_find ({ frames := 3, cells := 0, slots := 0, locals := 64 })).room s m args below meth c Q A (dC, dI) cX13_find .int (St) (dw_X13 a ac) r) {g2 : Int32 → Int32 → Int32 → (St) → Option (Int32 × (St))} (J2 : dj_X13_find_2 p l e s m args below meth c Q A dC dI a ac g2 r) : dj_X13_find_44 p l e s m args below meth c Q A dC dI a ac (df_X13_find_44 n g2) r := by
  obtain ⟨hlt, hx, hb, hml, hown, hts, hN, hA, hK⟩ := id C
  intro x1 x2 x3 s0 H locs ls h hP hD hS hl
  unfold df_X13_find_44 at h
  obtain ⟨z4, ez4, h⟩ := nd_let_e h
  refine lv_iinc (v := z4) (lv' := [(3, .int z4), (0, .ref (a 0)), (1, .int x1), (2, .int x2)]) hx hb dX13_find_44 hl (k := 3) rfl (by rw [ez4]) (by decide) rfl (fun ls hl => ?_)
  refine lv_goto (tgt := 2) hx hb dX13_find_47 (by decide) ?_
  exact (J2) (x1) (x2) (z4) s0 _ _ _ h hP hD hS (lv_sub hl [1, 2, 3, 0] rfl)
set_option maxHeartbeats 40000000 in
set_option maxRecDepth 100000 in
theorem dB_X13_find_2 {p : Program} {l : Launch} {e : Env} {s : State} {m : MethodId} {args : Array Value} {below : List Frame} {meth : Method} {c : Code} {Q : State → Prop} {A : Nat → Prop} {dC : Nat → ClassId} {dI : Nat → Nat → Nat} {a : Nat → Nat} {ac : Nat → ClassId} {n : Nat} {r : Int32 × (St)} (C : nd_C p l s m args c A (dC, dI) cX13_find 4 RX13 ow_dm_X13_find (dk_X13 ac)) (K : nd_Ki p l e (headSpec ow_dm_X13_find ({ frames := 3, cells := 0, slots := 0, locals := 64 })).room s m args below meth c Q A (dC, dI) cX13_find .int (St) (dw_X13 a ac) r) {g2 : Int32 → Int32 → Int32 → (St) → Option (Int32 × (St))} (J2 : dj_X13_find_2 p l e s m args below meth c Q A dC dI a ac g2 r) : dj_X13_find_2 p l e s m args below meth c Q A dC dI a ac (dF_X13_find_2 n g2) r := by
  obtain ⟨hlt, hx, hb, hml, hown, hts, hN, hA, hK⟩ := id C
  intro x1 x2 x3 s0 H locs ls h hP hD hS hl
  unfold dF_X13_find_2 at h
  refine lv_iload_n hx hb dX13_find_2 rfl (lv_at hl 3 rfl) ?_
  refine lv_aload_n hx hb dX13_find_3 rfl (lv_at hl 0 rfl) ?_
  refine va_get (D := (dC, dI)) (ci := 14) (v := .int (sI s0 3)) (C := RX13) (T := TX13) (N := 37) hx hb hts hi_dm_X13_find_X13 hown hK hP 0 rfl rfl 10 (by decide) (hts (.fieldLink RX13 439 "TimeMachineModel$Assembler" "labels" "I") (List.mem_of_getElem? (i := 1) rfl)) (fun _ h9 => h9) rfl dX13_find_4 ?_
  refine lv_icmp_ge (tgt := 50) hx hb dX13_find_7 (by decide) (fun c1 => ?_) (fun c1 => ?_)
  · have h := nd_pos h c1
    refine lv_iconst (v := (-1)) hx hb dX13_find_50 (by decide) ?_
    exact K _ _ _ _ _ _ dX13_find_51 rfl (Option.some.inj h).symm hP hD hS
  · have h := nd_neg h c1
    refine lv_aload_n hx hb dX13_find_10 rfl (lv_at hl 0 rfl) ?_
    refine va_get (D := (dC, dI)) (ci := 14) (v := .ref (a 8)) (C := RX13) (T := TX13) (N := 37) hx hb hts hi_dm_X13_find_X13 hown hK hP 0 rfl rfl 11 (by decide) (hts (.fieldLink RX13 337 "TimeMachineModel$Assembler" "label" "[I") (List.mem_of_getElem? (i := 2) rfl)) (fun _ h9 => h9) rfl dX13_find_11 ?_
    refine lv_iload_n hx hb dX13_find_14 rfl (lv_at hl 3 rfl) ?_
    obtain ⟨i2, h⟩ := nd_ck_e h
    refine va_iald (i := x3) hx hb hK hP 8 7 rfl rfl i2 dX13_find_15 ?_
    refine lv_bipush (v := 17) hx hb dX13_find_16 (by decide) ?_
    refine lv_ishr hx hb dX13_find_18 ?_
    refine lv_iconst (v := 3) hx hb dX13_find_19 (by decide) ?_
    refine lv_icmp_ge (tgt := 44) hx hb dX13_find_20 (by decide) (fun c3 => ?_) (fun c3 => ?_)
    · have h := nd_pos h c3
      exact (db_X13_find_44 C K J2) (x1) (x2) (x3) s0 _ _ _ h hP hD hS (lv_sub hl [0, 1, 2, 3] rfl)
    · have h := nd_neg h c3
      refine lv_aload_n hx hb dX13_find_23 rfl (lv_at hl 0 rfl) ?_
      refine lv_iload_n hx hb dX13_find_24 rfl (lv_at hl 1 rfl) ?_
      refine lv_iload_n hx hb dX13_find_25 rfl (lv_at hl 2 rfl) ?_
      refine lv_aload_n hx hb dX13_find_26 rfl (lv_at hl 0 rfl) ?_
      refine va_get (D := (dC, dI)) (ci := 14) (v := .ref (a 8)) (C := RX13) (T := TX13) (N := 37) hx hb hts hi_dm_X13_find_X13 hown hK hP 0 rfl rfl 11 (by decide) (hts (.fieldLink RX13 337 "TimeMachineModel$Assembler" "label" "[I") (List.mem_of_getElem? (i := 2) rfl)) (fun _ h9 => h9) rfl dX13_find_27 ?_
      refine lv_iload_n hx hb dX13_find_30 rfl (lv_at hl 3 rfl) ?_
      obtain ⟨i5, h⟩ := nd_ck_e h
      refine va_iald (i := x3) hx hb hK hP 8 7 rfl rfl i5 dX13_find_31 ?_
      refine lv_ldcw hx hb hown (hts (.constant RX13 442 (131071)) (List.mem_of_getElem? (i := 3) rfl)) dX13_find_32 ?_
      refine lv_iand hx hb dX13_find_35 ?_
      obtain ⟨q6, s7, hq, h⟩ := nd_b2_e h
      have hPc := hP
      have hDc := hD
      have hKc := hK
      have hFc := nd_rs hD hS hA
      refine nd_cVi (As := [.int x1, .int x2, .int ((sR s0 6 (Int32.toNatClampNeg x3)) &&& 131071)]) (rest := []) (q := q6) (w' := dw_X13 a ac s7) ⟨hx, hb, hml, hown, hts⟩ (fun sz => dm_X13_isAlike l hlt dC dI a ac n (x1) (x2) (((sR s0 6 (Int32.toNatClampNeg x3)) &&& 131071)) s0 hq sz) (cwV 3 hts gi_dm_X13_find_0 rfl rfl rfl (by decide +kernel) ⟨Nat.le_of_ble_eq_true rfl, Nat.le_of_ble_eq_true rfl⟩) hPc hDc hKc hS hA hN (va_recv hKc hPc (ci := 14) (q0 := 0) rfl rfl) rfl hl.1 rfl (Nat.le_of_ble_eq_true rfl) dX13_find_36 (fun H locs hP1 hD1 hk1 hS => ?_)
      have hP := hP1
      have hD := hD1.weaken (fun k q _ h => hFc q.1 h)
      refine lv_if_eq (tgt := 44) hx hb dX13_find_39 (by decide) (fun c9 => ?_) (fun c9 => ?_)
      · have h := nd_pos h c9
        exact (db_X13_find_44 C K J2) (x1) (x2) (x3) s7 _ _ _ h hP hD hS (lv_sub hl [0, 1, 2, 3] rfl)
      · have h := nd_neg h c9
        refine lv_iload_n hx hb dX13_find_42 rfl (lv_at hl 3 rfl) ?_
        exact K _ _ _ _ _ _ dX13_find_43 rfl (Option.some.inj h).symm hP hD hS
set_option maxHeartbeats 40000000 in
set_option maxRecDepth 100000 in
theorem db_X13_find_2 {p : Program} {l : Launch} {e : Env} {s : State} {m : MethodId} {args : Array Value} {below : List Frame} {meth : Method} {c : Code} {Q : State → Prop} {A : Nat → Prop} {dC : Nat → ClassId} {dI : Nat → Nat → Nat} {a : Nat → Nat} {ac : Nat → ClassId} {n : Nat} {r : Int32 × (St)} (C : nd_C p l s m args c A (dC, dI) cX13_find 4 RX13 ow_dm_X13_find (dk_X13 ac)) (K : nd_Ki p l e (headSpec ow_dm_X13_find ({ frames := 3, cells := 0, slots := 0, locals := 64 })).room s m args below meth c Q A (dC, dI) cX13_find .int (St) (dw_X13 a ac) r) (k : Nat) : dj_X13_find_2 p l e s m args below meth c Q A dC dI a ac (df_X13_find_2 n k) r := by
  induction k with
  | zero => intro x1 x2 x3 s0 H locs ls h; exact nomatch (show (none : Option (Int32 × (St))) = some r from h)
  | succ k ih => exact dB_X13_find_2 C K ih
set_option maxHeartbeats 40000000 in
set_option maxRecDepth 100000 in
theorem db_X13_find_0 {p : Program} {l : Launch} {e : Env} {s : State} {m : MethodId} {args : Array Value} {below : List Frame} {meth : Method} {c : Code} {Q : State → Prop} {A : Nat → Prop} {dC : Nat → ClassId} {dI : Nat → Nat → Nat} {a : Nat → Nat} {ac : Nat → ClassId} {n : Nat} {r : Int32 × (St)} (C : nd_C p l s m args c A (dC, dI) cX13_find 4 RX13 ow_dm_X13_find (dk_X13 ac)) (K : nd_Ki p l e (headSpec ow_dm_X13_find ({ frames := 3, cells := 0, slots := 0, locals := 64 })).room s m args below meth c Q A (dC, dI) cX13_find .int (St) (dw_X13 a ac) r) : dj_X13_find_0 p l e s m args below meth c Q A dC dI a ac (df_X13_find_0 n) r := by
  obtain ⟨hlt, hx, hb, hml, hown, hts, hN, hA, hK⟩ := id C
  intro v0 v1 s0 H locs ls h hP hD hS hl
  unfold df_X13_find_0 at h
  refine lv_iconst (v := 0) hx hb dX13_find_0 (by decide) ?_
  refine lv_istore_n (lv' := [(3, .int 0), (0, .ref (a 0)), (1, .int v0), (2, .int v1)]) hx hb dX13_find_1 rfl hl (by decide) rfl (fun ls hl => ?_)
  exact (db_X13_find_2 C K n) (v0) (v1) (0) s0 _ _ _ h hP hD hS (lv_sub hl [1, 2, 3, 0] rfl)
set_option maxHeartbeats 40000000 in
set_option maxRecDepth 100000 in
theorem dm_X13_find (l : Launch) (hlt : l.stackTraces = false) (dC : Nat → ClassId) (dI : Nat → Nat → Nat) (a : Nat → Nat) (ac : Nat → ClassId) (n : Nat) (v0 : Int32) (v1 : Int32) (s0 : St) {r : Int32 × (St)} (h : df_X13_find n v0 v1 s0 = some r) (sz : Nat) : Met l yX13_find ow_dm_X13_find ({ frames := 3, cells := 0, slots := 0, locals := 64 }) (va_Pc [.ref (a 0), .int v0, .int v1] (fun U => U.heap.size = sz ∧ va_P (dC, dI) vwCl (dw_X13 a ac s0) U.heap ∧ va_K (dC, dI) vwCl (dk_X13 ac) U ∧ va_D (fun _ => True) (dw_X13 a ac s0) ∧ nv_E (va_A (dw_X13 a ac s0) sz) U)) (va_Qi (fun x _ => x = r.1) (fun (_ : Unit) t => va_P (dC, dI) vwCl (dw_X13 a ac r.2) t.heap ∧ va_K (dC, dI) vwCl (dk_X13 ac) t ∧ va_D (va_A (dw_X13 a ac s0) sz) (dw_X13 a ac r.2)) (va_A (dw_X13 a ac s0) sz)) 0 0 (va_A (dw_X13 a ac s0) sz) := by
  refine Met.ofW (cc := cX13_find) (maxL := 4) (ret := (some .int)) (by decide) rfl ?_
  intro p e s m args below meth c s₁ B hml hv
  obtain ⟨rfl, hsz, hP, hK, hD0, hN⟩ := hv
  have hx := B.exec
  have hb := B.bytes
  have hr := B.returns
  have hts := atoms_spec (ws := ow_dm_X13_find) B.pre
  have hown : s.vm.findClass RX13 = some m.cls := findClass_of_methodNamed B.named
  have hlocks := B.notSynchronized
  subst hsz
  have hD := hD0.self (sz := s.heap.size)
  generalize hAe : va_A (dw_X13 a ac s0) s.heap.size = A at hD hN ⊢
  have hA : ∀ q : Nat, s.heap.size ≤ q → A q := fun q h => by rw [← hAe]; exact Or.inr h
  have hl := lv_entry ([.ref (a 0), .int v0, .int v1]) (n := 4) (Nat.le_of_ble_eq_true rfl)
  rw [lg_entry_eq]
  generalize (lg_sl ([.ref (a 0), .int v0, .int v1]) ++ List.replicate (4 - (lg_sl ([.ref (a 0), .int v0, .int v1])).length) Slot.unset).toArray = ls at hl ⊢
  have hl : lv_has ls 4 [(0, .ref (a 0)), (1, .int v0), (2, .int v1)] := hl
  exact db_X13_find_0 (dC := dC) (dI := dI) (a := a) (ac := ac) (n := n) (r := r) ⟨hlt, hx, hb, hml, hown, hts, hN, hA, hK⟩ (fun pc v τ H locs ls d z er hP hD hS => by subst er; exact W.zret (v := v) hx hb hr z (fun t ht hW => ⟨⟨v, (), rfl, rfl, by rw [ht]; exact hP, va_K.moved hW.alike hK, hD⟩, hS.F ht⟩) hS.2.2 d) v0 v1 s0 _ _ _ h hP hD va_S.rf (lv_sub hl [0, 1, 2] rfl)
def ow_dm_X13_define : List Cond := .code yX13_define cX13_define 5 none :: ([.fieldLink RX13 337 "TimeMachineModel$Assembler" "label" "[I", .fieldLink RX13 439 "TimeMachineModel$Assembler" "labels" "I", .fieldLink RX13 340 "TimeMachineModel$Assembler" "where" "[I"] ++ (u_ws RX13 TX13 37 ++ []))
theorem gd_dm_X13_define : ∀ w ∈ ow_dm_X13_define, (w.onTables && w.keeps) = true ∨ ∃ ty, w = Cond.arrayClass ty := List.forall_mem_cons.mpr ⟨good_of_word rfl, List.forall_mem_append.mpr ⟨fun w h => good_of_word (List.all_eq_true.mp (by decide +kernel) w h), List.forall_mem_append.mpr ⟨gu_X13, fun _ h => nomatch h⟩⟩⟩
theorem hi_dm_X13_define_X13 : ∀ w ∈ u_ws RX13 TX13 37, w ∈ ow_dm_X13_define := fun w h => List.mem_cons_of_mem _ (List.mem_append_right _ (List.mem_append_left _ h))
def dj_X13_define_0 (p : Program) (l : Launch) (e : Env) (s : State) (m : MethodId) (args : Array Value) (below : List Frame) (meth : Method) (c : Code) (Q : State → Prop) (A : Nat → Prop) (dC : Nat → ClassId) (dI : Nat → Nat → Nat) (a : Nat → Nat) (ac : Nat → ClassId) (g : Int32 → Int32 → Int32 → Int32 → (St) → Option (St)) (r : St) : Prop := ∀ (v0 : Int32) (v1 : Int32) (v2 : Int32) (v3 : Int32) (s0 : St) (H : Heap) (locs : List Loc) (ls : Array Slot), g v0 v1 v2 v3 s0 = some r → va_P (dC, dI) vwCl (dw_X13 a ac s0) H → va_D A (dw_X13 a ac s0) → va_S A s.heap H locs → lv_has ls 5 [(0, .ref (a 0)), (1, .int v0), (2, .int v1), (3, .int v2), (4, .int v3)] → W p l e (headSpec ow_dm_X13_define ({ frames := 0, cells := 0, slots := 0, locals := 0 })).room s m args below meth c H locs 0 0 Q (F0 m 0 ls [])
set_option maxHeartbeats 40000000 in
set_option maxRecDepth 100000 in
theorem db_X13_define_0 {p : Program} {l : Launch} {e : Env} {s : State} {m : MethodId} {args : Array Value} {below : List Frame} {meth : Method} {c : Code} {Q : State → Prop} {A : Nat → Prop} {dC : Nat → ClassId} {dI : Nat → Nat → Nat} {a : Nat → Nat} {ac : Nat → ClassId} {n : Nat} {r : St} (C : nd_C p l s m args c A (dC, dI) cX13_define 5 RX13 ow_dm_X13_define (dk_X13 ac)) (K : nd_Kv p l e (headSpec ow_dm_X13_define ({ frames := 0, cells := 0, slots := 0, locals := 0 })).room s m args below meth c Q A (dC, dI) cX13_define (St) (dw_X13 a ac) r) : dj_X13_define_0 p l e s m args below meth c Q A dC dI a ac (df_X13_define_0 n) r := by
  obtain ⟨hlt, hx, hb, hml, hown, hts, hN, hA, hK⟩ := id C
  intro v0 v1 v2 v3 s0 H locs ls h hP hD hS hl
  unfold df_X13_define_0 at h
  refine lv_aload_n hx hb dX13_define_0 rfl (lv_at hl 0 rfl) ?_
  refine va_get (D := (dC, dI)) (ci := 14) (v := .ref (a 8)) (C := RX13) (T := TX13) (N := 37) hx hb hts hi_dm_X13_define_X13 hown hK hP 0 rfl rfl 11 (by decide) (hts (.fieldLink RX13 337 "TimeMachineModel$Assembler" "label" "[I") (List.mem_of_getElem? (i := 1) rfl)) (fun _ h9 => h9) rfl dX13_define_1 ?_
  refine lv_aload_n hx hb dX13_define_4 rfl (lv_at hl 0 rfl) ?_
  refine va_get (D := (dC, dI)) (ci := 14) (v := .int (sI s0 3)) (C := RX13) (T := TX13) (N := 37) hx hb hts hi_dm_X13_define_X13 hown hK hP 0 rfl rfl 10 (by decide) (hts (.fieldLink RX13 439 "TimeMachineModel$Assembler" "labels" "I") (List.mem_of_getElem? (i := 2) rfl)) (fun _ h9 => h9) rfl dX13_define_5 ?_
  refine lv_iload_n hx hb dX13_define_8 rfl (lv_at hl 1 rfl) ?_
  refine lv_iload_n hx hb dX13_define_9 rfl (lv_at hl 3 rfl) ?_
  refine lv_bipush (v := 17) hx hb dX13_define_10 (by decide) ?_
  refine lv_ishl hx hb dX13_define_12 ?_
  refine lv_ior hx hb dX13_define_13 ?_
  obtain ⟨i1, h⟩ := nd_ck_e h
  refine va_iast (i := (sI s0 3)) (x := (v0 ||| ((v2 : Int32) <<< ((17 : Int32) &&& 31)))) hx hb hK hP hD hS 8 7 rfl rfl i1 dX13_define_14 (fun H locs hP hD hS => ?_)
  obtain ⟨s2, es2, h⟩ := nd_let_e h
  have hP : va_P (dC, dI) vwCl (dw_X13 a ac s2) H := by rw [es2]; exact hP
  have hD : va_D A (dw_X13 a ac s2) := by rw [es2]; exact hD
  refine lv_aload_n hx hb dX13_define_15 rfl (lv_at hl 0 rfl) ?_
  refine va_get (D := (dC, dI)) (ci := 14) (v := .ref (a 9)) (C := RX13) (T := TX13) (N := 37) hx hb hts hi_dm_X13_define_X13 hown hK hP 0 rfl rfl 12 (by decide) (hts (.fieldLink RX13 340 "TimeMachineModel$Assembler" "where" "[I") (List.mem_of_getElem? (i := 3) rfl)) (fun _ h9 => h9) rfl dX13_define_16 ?_
  refine lv_aload_n hx hb dX13_define_19 rfl (lv_at hl 0 rfl) ?_
  refine va_get (D := (dC, dI)) (ci := 14) (v := .int (sI s2 3)) (C := RX13) (T := TX13) (N := 37) hx hb hts hi_dm_X13_define_X13 hown hK hP 0 rfl rfl 10 (by decide) (hts (.fieldLink RX13 439 "TimeMachineModel$Assembler" "labels" "I") (List.mem_of_getElem? (i := 2) rfl)) (fun _ h9 => h9) rfl dX13_define_20 ?_
  refine lv_iload hx hb dX13_define_23 (lv_at hl 4 rfl) ?_
  obtain ⟨i3, h⟩ := nd_ck_e h
  refine va_iast (i := (sI s2 3)) (x := v3) hx hb hK hP hD hS 9 8 rfl rfl i3 dX13_define_25 (fun H locs hP hD hS => ?_)
  obtain ⟨s4, es4, h⟩ := nd_let_e h
  have hP : va_P (dC, dI) vwCl (dw_X13 a ac s4) H := by rw [es4]; exact hP
  have hD : va_D A (dw_X13 a ac s4) := by rw [es4]; exact hD
  refine lv_aload_n hx hb dX13_define_26 rfl (lv_at hl 0 rfl) ?_
  refine lv_dup hx hb dX13_define_27 rfl ?_
  refine va_get (D := (dC, dI)) (ci := 14) (v := .int (sI s4 3)) (C := RX13) (T := TX13) (N := 37) hx hb hts hi_dm_X13_define_X13 hown hK hP 0 rfl rfl 10 (by decide) (hts (.fieldLink RX13 439 "TimeMachineModel$Assembler" "labels" "I") (List.mem_of_getElem? (i := 2) rfl)) (fun _ h9 => h9) rfl dX13_define_28 ?_
  refine lv_iconst (v := 1) hx hb dX13_define_31 (by decide) ?_
  refine lv_iadd hx hb dX13_define_32 ?_
  refine va_put (D := (dC, dI)) (ci := 14) (v := .int ((sI s4 3) + 1)) (ty := .int) (C := RX13) (T := TX13) (N := 37) hx hb hts hi_dm_X13_define_X13 tyX13 tyX13_ok nmX13 hown hK hP hD hS 0 rfl rfl 10 (by decide) (hts (.fieldLink RX13 439 "TimeMachineModel$Assembler" "labels" "I") (List.mem_of_getElem? (i := 2) rfl)) (fun _ h9 => h9) rfl (by decide +kernel) rfl rfl (Nat.le_of_ble_eq_true rfl) dX13_define_33 (fun H locs hP hD hS => ?_)
  obtain ⟨s5, es5, h⟩ := nd_let_e h
  have hP : va_P (dC, dI) vwCl (dw_X13 a ac s5) H := by rw [es5]; exact hP
  have hD : va_D A (dw_X13 a ac s5) := by rw [es5]; exact hD
  exact K _ _ _ _ _ dX13_define_36 (Option.some.inj h).symm hP hD hS
set_option maxHeartbeats 40000000 in
set_option maxRecDepth 100000 in
theorem dm_X13_define (l : Launch) (hlt : l.stackTraces = false) (dC : Nat → ClassId) (dI : Nat → Nat → Nat) (a : Nat → Nat) (ac : Nat → ClassId) (n : Nat) (v0 : Int32) (v1 : Int32) (v2 : Int32) (v3 : Int32) (s0 : St) {r : St} (h : df_X13_define n v0 v1 v2 v3 s0 = some r) (sz : Nat) : Met l yX13_define ow_dm_X13_define ({ frames := 0, cells := 0, slots := 0, locals := 0 }) (va_Pc [.ref (a 0), .int v0, .int v1, .int v2, .int v3] (fun U => U.heap.size = sz ∧ va_P (dC, dI) vwCl (dw_X13 a ac s0) U.heap ∧ va_K (dC, dI) vwCl (dk_X13 ac) U ∧ va_D (fun _ => True) (dw_X13 a ac s0) ∧ nv_E (va_A (dw_X13 a ac s0) sz) U)) (va_Qv (fun _ => True) (fun (_ : Unit) t => va_P (dC, dI) vwCl (dw_X13 a ac r) t.heap ∧ va_K (dC, dI) vwCl (dk_X13 ac) t ∧ va_D (va_A (dw_X13 a ac s0) sz) (dw_X13 a ac r)) (va_A (dw_X13 a ac s0) sz)) 0 0 (va_A (dw_X13 a ac s0) sz) := by
  refine Met.ofW (cc := cX13_define) (maxL := 5) (ret := none) (by decide) rfl ?_
  intro p e s m args below meth c s₁ B hml hv
  obtain ⟨rfl, hsz, hP, hK, hD0, hN⟩ := hv
  have hx := B.exec
  have hb := B.bytes
  have hr := B.returns
  have hts := atoms_spec (ws := ow_dm_X13_define) B.pre
  have hown : s.vm.findClass RX13 = some m.cls := findClass_of_methodNamed B.named
  have hlocks := B.notSynchronized
  subst hsz
  have hD := hD0.self (sz := s.heap.size)
  generalize hAe : va_A (dw_X13 a ac s0) s.heap.size = A at hD hN ⊢
  have hA : ∀ q : Nat, s.heap.size ≤ q → A q := fun q h => by rw [← hAe]; exact Or.inr h
  have hl := lv_entry ([.ref (a 0), .int v0, .int v1, .int v2, .int v3]) (n := 5) (Nat.le_of_ble_eq_true rfl)
  rw [lg_entry_eq]
  generalize (lg_sl ([.ref (a 0), .int v0, .int v1, .int v2, .int v3]) ++ List.replicate (5 - (lg_sl ([.ref (a 0), .int v0, .int v1, .int v2, .int v3])).length) Slot.unset).toArray = ls at hl ⊢
  have hl : lv_has ls 5 [(0, .ref (a 0)), (1, .int v0), (2, .int v1), (3, .int v2), (4, .int v3)] := hl
  exact db_X13_define_0 (dC := dC) (dI := dI) (a := a) (ac := ac) (n := n) (r := r) ⟨hlt, hx, hb, hml, hown, hts, hN, hA, hK⟩ (fun pc τ H locs ls d er hP hD hS => by subst er; exact W.vret hx hb hr (fun t ht hW => ⟨⟨(), rfl, trivial, by rw [ht]; exact hP, va_K.moved hW.alike hK, hD⟩, hS.F ht⟩) hS.2.2 d) v0 v1 v2 v3 s0 _ _ _ h hP hD va_S.rf (lv_sub hl [0, 1, 2, 3, 4] rfl)
def ow_dm_X13_base : List Cond := .code yX13_base cX13_base 1 (some .int) :: ([.fieldLink RX13 447 "TimeMachineModel$Assembler" "textSize" "I"] ++ (u_ws RX13 TX13 37 ++ []))
theorem gd_dm_X13_base : ∀ w ∈ ow_dm_X13_base, (w.onTables && w.keeps) = true ∨ ∃ ty, w = Cond.arrayClass ty := List.forall_mem_cons.mpr ⟨good_of_word rfl, List.forall_mem_append.mpr ⟨fun w h => good_of_word (List.all_eq_true.mp (by decide +kernel) w h), List.forall_mem_append.mpr ⟨gu_X13, fun _ h => nomatch h⟩⟩⟩
theorem hi_dm_X13_base_X13 : ∀ w ∈ u_ws RX13 TX13 37, w ∈ ow_dm_X13_base := fun w h => List.mem_cons_of_mem _ (List.mem_append_right _ (List.mem_append_left _ h))
def dj_X13_base_0 (p : Program) (l : Launch) (e : Env) (s : State) (m : MethodId) (args : Array Value) (below : List Frame) (meth : Method) (c : Code) (Q : State → Prop) (A : Nat → Prop) (dC : Nat → ClassId) (dI : Nat → Nat → Nat) (a : Nat → Nat) (ac : Nat → ClassId) (g : (St) → Option (Int32 × (St))) (r : Int32 × (St)) : Prop := ∀ (s0 : St) (H : Heap) (locs : List Loc) (ls : Array Slot), g s0 = some r → va_P (dC, dI) vwCl (dw_X13 a ac s0) H → va_D A (dw_X13 a ac s0) → va_S A s.heap H locs → lv_has ls 1 [(0, .ref (a 0))] → W p l e (headSpec ow_dm_X13_base ({ frames := 0, cells := 0, slots := 0, locals := 0 })).room s m args below meth c H locs 0 0 Q (F0 m 0 ls [])
set_option maxHeartbeats 40000000 in
set_option maxRecDepth 100000 in
theorem db_X13_base_0 {p : Program} {l : Launch} {e : Env} {s : State} {m : MethodId} {args : Array Value} {below : List Frame} {meth : Method} {c : Code} {Q : State → Prop} {A : Nat → Prop} {dC : Nat → ClassId} {dI : Nat → Nat → Nat} {a : Nat → Nat} {ac : Nat → ClassId} {n : Nat} {r : Int32 × (St)} (C : nd_C p l s m args c A (dC, dI) cX13_base 1 RX13 ow_dm_X13_base (dk_X13 ac)) (K : nd_Ki p l e (headSpec ow_dm_X13_base ({ frames := 0, cells := 0, slots := 0, locals := 0 })).room s m args below meth c Q A (dC, dI) cX13_base .int (St) (dw_X13 a ac) r) : dj_X13_base_0 p l e s m args below meth c Q A dC dI a ac (df_X13_base_0 n) r := by
  obtain ⟨hlt, hx, hb, hml, hown, hts, hN, hA, hK⟩ := id C
  intro s0 H locs ls h hP hD hS hl
  unfold df_X13_base_0 at h
  refine lv_aload_n hx hb dX13_base_0 rfl (lv_at hl 0 rfl) ?_
  refine va_get (D := (dC, dI)) (ci := 14) (v := .int (sI s0 4)) (C := RX13) (T := TX13) (N := 37) hx hb hts hi_dm_X13_base_X13 hown hK hP 0 rfl rfl 13 (by decide) (hts (.fieldLink RX13 447 "TimeMachineModel$Assembler" "textSize" "I") (List.mem_of_getElem? (i := 1) rfl)) (fun _ h9 => h9) rfl dX13_base_1 ?_
  refine lv_sipush (v := 1023) hx hb dX13_base_4 (by decide) ?_
  refine lv_iadd hx hb dX13_base_7 ?_
  refine lv_sipush (v := 1024) hx hb dX13_base_8 (by decide) ?_
  refine lv_idiv hx hb dX13_base_11 (by decide) ?_
  refine lv_sipush (v := 1024) hx hb dX13_base_12 (by decide) ?_
  refine lv_imul hx hb dX13_base_15 ?_
  exact K _ _ _ _ _ _ dX13_base_16 rfl (Option.some.inj h).symm hP hD hS
set_option maxHeartbeats 40000000 in
set_option maxRecDepth 100000 in
theorem dm_X13_base (l : Launch) (hlt : l.stackTraces = false) (dC : Nat → ClassId) (dI : Nat → Nat → Nat) (a : Nat → Nat) (ac : Nat → ClassId) (n : Nat) (s0 : St) {r : Int32 × (St)} (h : df_X13_base n s0 = some r) (sz : Nat) : Met l yX13_base ow_dm_X13_base ({ frames := 0, cells := 0, slots := 0, locals := 0 }) (va_Pc [.ref (a 0)] (fun U => U.heap.size = sz ∧ va_P (dC, dI) vwCl (dw_X13 a ac s0) U.heap ∧ va_K (dC, dI) vwCl (dk_X13 ac) U ∧ va_D (fun _ => True) (dw_X13 a ac s0) ∧ nv_E (va_A (dw_X13 a ac s0) sz) U)) (va_Qi (fun x _ => x = r.1) (fun (_ : Unit) t => va_P (dC, dI) vwCl (dw_X13 a ac r.2) t.heap ∧ va_K (dC, dI) vwCl (dk_X13 ac) t ∧ va_D (va_A (dw_X13 a ac s0) sz) (dw_X13 a ac r.2)) (va_A (dw_X13 a ac s0) sz)) 0 0 (va_A (dw_X13 a ac s0) sz) := by
  refine Met.ofW (cc := cX13_base) (maxL := 1) (ret := (some .int)) (by decide) rfl ?_
  intro p e s m args below meth c s₁ B hml hv
  obtain ⟨rfl, hsz, hP, hK, hD0, hN⟩ := hv
  have hx := B.exec
  have hb := B.bytes
  have hr := B.returns
  have hts := atoms_spec (ws := ow_dm_X13_base) B.pre
  have hown : s.vm.findClass RX13 = some m.cls := findClass_of_methodNamed B.named
  have hlocks := B.notSynchronized
  subst hsz
  have hD := hD0.self (sz := s.heap.size)
  generalize hAe : va_A (dw_X13 a ac s0) s.heap.size = A at hD hN ⊢
  have hA : ∀ q : Nat, s.heap.size ≤ q → A q := fun q h => by rw [← hAe]; exact Or.inr h
  have hl := lv_entry ([.ref (a 0)]) (n := 1) (Nat.le_of_ble_eq_true rfl)
  rw [lg_entry_eq]
  generalize (lg_sl ([.ref (a 0)]) ++ List.replicate (1 - (lg_sl ([.ref (a 0)])).length) Slot.unset).toArray = ls at hl ⊢
  have hl : lv_has ls 1 [(0, .ref (a 0))] := hl
  exact db_X13_base_0 (dC := dC) (dI := dI) (a := a) (ac := ac) (n := n) (r := r) ⟨hlt, hx, hb, hml, hown, hts, hN, hA, hK⟩ (fun pc v τ H locs ls d z er hP hD hS => by subst er; exact W.zret (v := v) hx hb hr z (fun t ht hW => ⟨⟨v, (), rfl, rfl, by rw [ht]; exact hP, va_K.moved hW.alike hK, hD⟩, hS.F ht⟩) hS.2.2 d) s0 _ _ _ h hP hD va_S.rf (lv_sub hl [0] rfl)
def ow_dm_X13_valueOf : List Cond := .code yX13_valueOf cX13_valueOf 3 (some .int) :: ([.fieldLink RX13 337 "TimeMachineModel$Assembler" "label" "[I", .methodLink RX13 450 yX13_base, .instanceMethod yX13_base, .selects RX13 yX13_base yX13_base, .initialized RX13, .fieldLink RX13 340 "TimeMachineModel$Assembler" "where" "[I"] ++ (u_ws RX13 TX13 37 ++ (ow_dm_X13_base ++ [])))
theorem gd_dm_X13_valueOf : ∀ w ∈ ow_dm_X13_valueOf, (w.onTables && w.keeps) = true ∨ ∃ ty, w = Cond.arrayClass ty := List.forall_mem_cons.mpr ⟨good_of_word rfl, List.forall_mem_append.mpr ⟨fun w h => good_of_word (List.all_eq_true.mp (by decide +kernel) w h), List.forall_mem_append.mpr ⟨gu_X13, List.forall_mem_append.mpr ⟨gd_dm_X13_base, fun _ h => nomatch h⟩⟩⟩⟩
theorem hi_dm_X13_valueOf_X13 : ∀ w ∈ u_ws RX13 TX13 37, w ∈ ow_dm_X13_valueOf := fun w h => List.mem_cons_of_mem _ (List.mem_append_right _ (List.mem_append_left _ h))
theorem gi_dm_X13_valueOf_0 : GoodIn ow_dm_X13_valueOf (wsV RX13 450 RX13 yX13_base ow_dm_X13_base) := goodIn_app (goodIn_of _ (by decide +kernel)) (fun w h => ⟨List.mem_cons_of_mem _ (List.mem_append_right _ (List.mem_append_right _ (List.mem_append_left _ h))), gd_dm_X13_base w h⟩)
def dj_X13_valueOf_54 (p : Program) (l : Launch) (e : Env) (s : State) (m : MethodId) (args : Array Value) (below : List Frame) (meth : Method) (c : Code) (Q : State → Prop) (A : Nat → Prop) (dC : Nat → ClassId) (dI : Nat → Nat → Nat) (a : Nat → Nat) (ac : Nat → ClassId) (g : Int32 → (St) → Option (Int32 × (St))) (r : Int32 × (St)) : Prop := ∀ (y0 : Int32) (s0 : St) (H : Heap) (locs : List Loc) (ls : Array Slot), g y0 s0 = some r → va_P (dC, dI) vwCl (dw_X13 a ac s0) H → va_D A (dw_X13 a ac s0) → va_S A s.heap H locs → lv_has ls 3 [] → W p l e (headSpec ow_dm_X13_valueOf ({ frames := 1, cells := 0, slots := 0, locals := 20 })).room s m args below meth c H locs 0 0 Q (F0 m 54 ls [.int y0])
def dj_X13_valueOf_34 (p : Program) (l : Launch) (e : Env) (s : State) (m : MethodId) (args : Array Value) (below : List Frame) (meth : Method) (c : Code) (Q : State → Prop) (A : Nat → Prop) (dC : Nat → ClassId) (dI : Nat → Nat → Nat) (a : Nat → Nat) (ac : Nat → ClassId) (g : Int32 → (St) → Option (Int32 × (St))) (r : Int32 × (St)) : Prop := ∀ (x1 : Int32) (s0 : St) (H : Heap) (locs : List Loc) (ls : Array Slot), g x1 s0 = some r → va_P (dC, dI) vwCl (dw_X13 a ac s0) H → va_D A (dw_X13 a ac s0) → va_S A s.heap H locs → lv_has ls 3 [(0, .ref (a 0)), (1, .int x1)] → W p l e (headSpec ow_dm_X13_valueOf ({ frames := 1, cells := 0, slots := 0, locals := 20 })).room s m args below meth c H locs 0 0 Q (F0 m 34 ls [])
def dj_X13_valueOf_0 (p : Program) (l : Launch) (e : Env) (s : State) (m : MethodId) (args : Array Value) (below : List Frame) (meth : Method) (c : Code) (Q : State → Prop) (A : Nat → Prop) (dC : Nat → ClassId) (dI : Nat → Nat → Nat) (a : Nat → Nat) (ac : Nat → ClassId) (g : Int32 → (St) → Option (Int32 × (St))) (r : Int32 × (St)) : Prop := ∀ (v0 : Int32) (s0 : St) (H : Heap) (locs : List Loc) (ls : Array Slot), g v0 s0 = some r → va_P (dC, dI) vwCl (dw_X13 a ac s0) H → va_D A (dw_X13 a ac s0) → va_S A s.heap H locs → lv_has ls 3 [(0, .ref (a 0)), (1, .int v0)] → W p l e (headSpec ow_dm_X13_valueOf ({ frames := 1, cells := 0, slots := 0, locals := 20 })).room s m args below meth c H locs 0 0 Q (F0 m 0 ls [])
set_option maxHeartbeats 40000000 in
set_option maxRecDepth 100000 in
theorem db_X13_valueOf_54 {p : Program} {l : Launch} {e : Env} {s : State} {m : MethodId} {args : Array Value} {below : List Frame} {meth : Method} {c : Code} {Q : State → Prop} {A : Nat → Prop} {dC : Nat → ClassId} {dI : Nat → Nat → Nat} {a : Nat → Nat} {ac : Nat → ClassId} {n : Nat} {r : Int32 × (St)} (C : nd_C p l s m args c A (dC, dI) cX13_valueOf 3 RX13 ow_dm_X13_valueOf (dk_X13 ac)) (K : nd_Ki p l e (headSpec ow_dm_X13_valueOf ({ frames := 1, cells := 0, slots := 0, locals := 20 })).room s m args below meth c Q A (dC, dI) cX13_valueOf .int (St) (dw_X13 a ac) r) : dj_X13_valueOf_54 p l e s m args below meth c Q A dC dI a ac (df_X13_valueOf_54 n) r := by
  obtain ⟨hlt, hx, hb, hml, hown, hts, hN, hA, hK⟩ := id C
  intro y0 s0 H locs ls h hP hD hS hl
  unfold df_X13_valueOf_54 at h
  exact K _ _ _ _ _ _ dX13_valueOf_54 rfl (Option.some.inj h).symm hP hD hS
set_option maxHeartbeats 40000000 in
set_option maxRecDepth 100000 in
theorem db_X13_valueOf_34 {p : Program} {l : Launch} {e : Env} {s : State} {m : MethodId} {args : Array Value} {below : List Frame} {meth : Method} {c : Code} {Q : State → Prop} {A : Nat → Prop} {dC : Nat → ClassId} {dI : Nat → Nat → Nat} {a : Nat → Nat} {ac : Nat → ClassId} {n : Nat} {r : Int32 × (St)} (C : nd_C p l s m args c A (dC, dI) cX13_valueOf 3 RX13 ow_dm_X13_valueOf (dk_X13 ac)) (K : nd_Ki p l e (headSpec ow_dm_X13_valueOf ({ frames := 1, cells := 0, slots := 0, locals := 20 })).room s m args below meth c Q A (dC, dI) cX13_valueOf .int (St) (dw_X13 a ac) r) : dj_X13_valueOf_34 p l e s m args below meth c Q A dC dI a ac (df_X13_valueOf_34 n) r := by
  obtain ⟨hlt, hx, hb, hml, hown, hts, hN, hA, hK⟩ := id C
  intro x1 s0 H locs ls h hP hD hS hl
  unfold df_X13_valueOf_34 at h
  refine lv_aload_n hx hb dX13_valueOf_34 rfl (lv_at hl 0 rfl) ?_
  obtain ⟨q5, s6, hq, h⟩ := nd_b2_e h
  have hPc := hP
  have hDc := hD
  have hKc := hK
  have hFc := nd_rs hD hS hA
  refine nd_cVi (As := []) (rest := []) (q := q5) (w' := dw_X13 a ac s6) ⟨hx, hb, hml, hown, hts⟩ (fun sz => dm_X13_base l hlt dC dI a ac n  s0 hq sz) (cwV 0 hts gi_dm_X13_valueOf_0 rfl rfl rfl (by decide +kernel) ⟨Nat.le_of_ble_eq_true rfl, Nat.le_of_ble_eq_true rfl⟩) hPc hDc hKc hS hA hN (va_recv hKc hPc (ci := 14) (q0 := 0) rfl rfl) rfl hl.1 rfl (Nat.le_of_ble_eq_true rfl) dX13_valueOf_35 (fun H locs hP1 hD1 hk1 hS => ?_)
  have hP := hP1
  have hD := hD1.weaken (fun k q _ h => hFc q.1 h)
  refine lv_aload_n hx hb dX13_valueOf_38 rfl (lv_at hl 0 rfl) ?_
  refine va_get (D := (dC, dI)) (ci := 14) (v := .ref (a 9)) (C := RX13) (T := TX13) (N := 37) hx hb hts hi_dm_X13_valueOf_X13 hown hK hP 0 rfl rfl 12 (by decide) (hts (.fieldLink RX13 340 "TimeMachineModel$Assembler" "where" "[I") (List.mem_of_getElem? (i := 6) rfl)) (fun _ h9 => h9) rfl dX13_valueOf_39 ?_
  refine lv_iload_n hx hb dX13_valueOf_42 rfl (lv_at hl 1 rfl) ?_
  obtain ⟨i8, h⟩ := nd_ck_e h
  refine va_iald (i := x1) hx hb hK hP 9 8 rfl rfl i8 dX13_valueOf_43 ?_
  refine lv_iadd hx hb dX13_valueOf_44 ?_
  refine lv_goto (tgt := 54) hx hb dX13_valueOf_45 (by decide) ?_
  exact (db_X13_valueOf_54 C K) ((q5 + (sR s6 7 (Int32.toNatClampNeg x1)))) s6 _ _ _ h hP hD hS (lv_sub hl [] rfl)
set_option maxHeartbeats 40000000 in
set_option maxRecDepth 100000 in
theorem db_X13_valueOf_0 {p : Program} {l : Launch} {e : Env} {s : State} {m : MethodId} {args : Array Value} {below : List Frame} {meth : Method} {c : Code} {Q : State → Prop} {A : Nat → Prop} {dC : Nat → ClassId} {dI : Nat → Nat → Nat} {a : Nat → Nat} {ac : Nat → ClassId} {n : Nat} {r : Int32 × (St)} (C : nd_C p l s m args c A (dC, dI) cX13_valueOf 3 RX13 ow_dm_X13_valueOf (dk_X13 ac)) (K : nd_Ki p l e (headSpec ow_dm_X13_valueOf ({ frames := 1, cells := 0, slots := 0, locals := 20 })).room s m args below meth c Q A (dC, dI) cX13_valueOf .int (St) (dw_X13 a ac) r) : dj_X13_valueOf_0 p l e s m args below meth c Q A dC dI a ac (df_X13_valueOf_0 n) r := by
  obtain ⟨hlt, hx, hb, hml, hown, hts, hN, hA, hK⟩ := id C
  intro v0 s0 H locs ls h hP hD hS hl
  unfold df_X13_valueOf_0 at h
  refine lv_aload_n hx hb dX13_valueOf_0 rfl (lv_at hl 0 rfl) ?_
  refine va_get (D := (dC, dI)) (ci := 14) (v := .ref (a 8)) (C := RX13) (T := TX13) (N := 37) hx hb hts hi_dm_X13_valueOf_X13 hown hK hP 0 rfl rfl 11 (by decide) (hts (.fieldLink RX13 337 "TimeMachineModel$Assembler" "label" "[I") (List.mem_of_getElem? (i := 1) rfl)) (fun _ h9 => h9) rfl dX13_valueOf_1 ?_
  refine lv_iload_n hx hb dX13_valueOf_4 rfl (lv_at hl 1 rfl) ?_
  obtain ⟨i1, h⟩ := nd_ck_e h
  refine va_iald (i := v0) hx hb hK hP 8 7 rfl rfl i1 dX13_valueOf_5 ?_
  refine lv_bipush (v := 17) hx hb dX13_valueOf_6 (by decide) ?_
  refine lv_ishr hx hb dX13_valueOf_8 ?_
  refine lv_topi (fun z2 ez2 => ?_)
  have h := nd_at h ez2
  refine lv_istore_n (lv' := [(2, .int z2), (0, .ref (a 0)), (1, .int v0)]) hx hb dX13_valueOf_9 rfl hl (by decide) rfl (fun ls hl => ?_)
  refine lv_iload_n hx hb dX13_valueOf_10 rfl (lv_at hl 0 rfl) ?_
  refine lv_iconst (v := 2) hx hb dX13_valueOf_11 (by decide) ?_
  refine lv_icmp_ne (tgt := 24) hx hb dX13_valueOf_12 (by decide) (fun c3 => ?_) (fun c3 => ?_)
  · have h := nd_neg h c3
    refine lv_iload_n hx hb dX13_valueOf_24 rfl (lv_at hl 0 rfl) ?_
    refine lv_iconst (v := 1) hx hb dX13_valueOf_25 (by decide) ?_
    refine lv_icmp_eq (tgt := 34) hx hb dX13_valueOf_26 (by decide) (fun c4 => ?_) (fun c4 => ?_)
    · have h := nd_pos h c4
      exact (db_X13_valueOf_34 C K) (v0) s0 _ _ _ h hP hD hS (lv_sub hl [1, 2] rfl)
    · have h := nd_neg h c4
      refine lv_iload_n hx hb dX13_valueOf_29 rfl (lv_at hl 0 rfl) ?_
      refine lv_iconst (v := 4) hx hb dX13_valueOf_30 (by decide) ?_
      refine lv_icmp_ne (tgt := 48) hx hb dX13_valueOf_31 (by decide) (fun c9 => ?_) (fun c9 => ?_)
      · have h := nd_neg h c9
        refine lv_aload_n hx hb dX13_valueOf_48 rfl (lv_at hl 1 rfl) ?_
        refine va_get (D := (dC, dI)) (ci := 14) (v := .ref (a 9)) (C := RX13) (T := TX13) (N := 37) hx hb hts hi_dm_X13_valueOf_X13 hown hK hP 0 rfl rfl 12 (by decide) (hts (.fieldLink RX13 340 "TimeMachineModel$Assembler" "where" "[I") (List.mem_of_getElem? (i := 6) rfl)) (fun _ h9 => h9) rfl dX13_valueOf_49 ?_
        refine lv_iload_n hx hb dX13_valueOf_52 rfl (lv_at hl 2 rfl) ?_
        obtain ⟨i10, h⟩ := nd_ck_e h
        refine va_iald (i := v0) hx hb hK hP 9 8 rfl rfl i10 dX13_valueOf_53 ?_
        exact (db_X13_valueOf_54 C K) ((sR s0 7 (Int32.toNatClampNeg v0))) s0 _ _ _ h hP hD hS (lv_sub hl [] rfl)
      · have h := nd_pos h c9
        exact (db_X13_valueOf_34 C K) (v0) s0 _ _ _ h hP hD hS (lv_sub hl [1, 2] rfl)
  · have h := nd_pos h c3
    refine lv_aload_n hx hb dX13_valueOf_15 rfl (lv_at hl 1 rfl) ?_
    refine va_get (D := (dC, dI)) (ci := 14) (v := .ref (a 9)) (C := RX13) (T := TX13) (N := 37) hx hb hts hi_dm_X13_valueOf_X13 hown hK hP 0 rfl rfl 12 (by decide) (hts (.fieldLink RX13 340 "TimeMachineModel$Assembler" "where" "[I") (List.mem_of_getElem? (i := 6) rfl)) (fun _ h9 => h9) rfl dX13_valueOf_16 ?_
    refine lv_iload_n hx hb dX13_valueOf_19 rfl (lv_at hl 2 rfl) ?_
    obtain ⟨i11, h⟩ := nd_ck_e h
    refine va_iald (i := v0) hx hb hK hP 9 8 rfl rfl i11 dX13_valueOf_20 ?_
    refine lv_goto (tgt := 54) hx hb dX13_valueOf_21 (by decide) ?_
    exact (db_X13_valueOf_54 C K) ((sR s0 7 (Int32.toNatClampNeg v0))) s0 _ _ _ h hP hD hS (lv_sub hl [] rfl)
set_option maxHeartbeats 40000000 in
set_option maxRecDepth 100000 in
theorem dm_X13_valueOf (l : Launch) (hlt : l.stackTraces = false) (dC : Nat → ClassId) (dI : Nat → Nat → Nat) (a : Nat → Nat) (ac : Nat → ClassId) (n : Nat) (v0 : Int32) (s0 : St) {r : Int32 × (St)} (h : df_X13_valueOf n v0 s0 = some r) (sz : Nat) : Met l yX13_valueOf ow_dm_X13_valueOf ({ frames := 1, cells := 0, slots := 0, locals := 20 }) (va_Pc [.ref (a 0), .int v0] (fun U => U.heap.size = sz ∧ va_P (dC, dI) vwCl (dw_X13 a ac s0) U.heap ∧ va_K (dC, dI) vwCl (dk_X13 ac) U ∧ va_D (fun _ => True) (dw_X13 a ac s0) ∧ nv_E (va_A (dw_X13 a ac s0) sz) U)) (va_Qi (fun x _ => x = r.1) (fun (_ : Unit) t => va_P (dC, dI) vwCl (dw_X13 a ac r.2) t.heap ∧ va_K (dC, dI) vwCl (dk_X13 ac) t ∧ va_D (va_A (dw_X13 a ac s0) sz) (dw_X13 a ac r.2)) (va_A (dw_X13 a ac s0) sz)) 0 0 (va_A (dw_X13 a ac s0) sz) := by
  refine Met.ofW (cc := cX13_valueOf) (maxL := 3) (ret := (some .int)) (by decide) rfl ?_
  intro p e s m args below meth c s₁ B hml hv
  obtain ⟨rfl, hsz, hP, hK, hD0, hN⟩ := hv
  have hx := B.exec
  have hb := B.bytes
  have hr := B.returns
  have hts := atoms_spec (ws := ow_dm_X13_valueOf) B.pre
  have hown : s.vm.findClass RX13 = some m.cls := findClass_of_methodNamed B.named
  have hlocks := B.notSynchronized
  subst hsz
  have hD := hD0.self (sz := s.heap.size)
  generalize hAe : va_A (dw_X13 a ac s0) s.heap.size = A at hD hN ⊢
  have hA : ∀ q : Nat, s.heap.size ≤ q → A q := fun q h => by rw [← hAe]; exact Or.inr h
  have hl := lv_entry ([.ref (a 0), .int v0]) (n := 3) (Nat.le_of_ble_eq_true rfl)
  rw [lg_entry_eq]
  generalize (lg_sl ([.ref (a 0), .int v0]) ++ List.replicate (3 - (lg_sl ([.ref (a 0), .int v0])).length) Slot.unset).toArray = ls at hl ⊢
  have hl : lv_has ls 3 [(0, .ref (a 0)), (1, .int v0)] := hl
  exact db_X13_valueOf_0 (dC := dC) (dI := dI) (a := a) (ac := ac) (n := n) (r := r) ⟨hlt, hx, hb, hml, hown, hts, hN, hA, hK⟩ (fun pc v τ H locs ls d z er hP hD hS => by subst er; exact W.zret (v := v) hx hb hr z (fun t ht hW => ⟨⟨v, (), rfl, rfl, by rw [ht]; exact hP, va_K.moved hW.alike hK, hD⟩, hS.F ht⟩) hS.2.2 d) v0 s0 _ _ _ h hP hD va_S.rf (lv_sub hl [0, 1] rfl)
def ow_dm_X13_near : List Cond := .code yX13_near cX13_near 7 (some .int) :: ([.fieldLink RX13 328 "TimeMachineModel$Assembler" "place" "[I", .fieldLink RX13 454 "TimeMachineModel$Assembler" "current" "I", .constant RX13 442 (131071), .fieldLink RX13 439 "TimeMachineModel$Assembler" "labels" "I", .fieldLink RX13 457 "TimeMachineModel$Assembler" "missing" "Z", .methodLink RX13 461 yX13_valueOf, .instanceMethod yX13_valueOf, .selects RX13 yX13_valueOf yX13_valueOf, .initialized RX13, .fieldLink RX13 337 "TimeMachineModel$Assembler" "label" "[I", .fieldLink RX13 324 "TimeMachineModel$Assembler" "text" "[C"] ++ (u_ws RX13 TX13 37 ++ (ow_dm_X13_valueOf ++ [])))
theorem gd_dm_X13_near : ∀ w ∈ ow_dm_X13_near, (w.onTables && w.keeps) = true ∨ ∃ ty, w = Cond.arrayClass ty := List.forall_mem_cons.mpr ⟨good_of_word rfl, List.forall_mem_append.mpr ⟨fun w h => good_of_word (List.all_eq_true.mp (by decide +kernel) w h), List.forall_mem_append.mpr ⟨gu_X13, List.forall_mem_append.mpr ⟨gd_dm_X13_valueOf, fun _ h => nomatch h⟩⟩⟩⟩
theorem hi_dm_X13_near_X13 : ∀ w ∈ u_ws RX13 TX13 37, w ∈ ow_dm_X13_near := fun w h => List.mem_cons_of_mem _ (List.mem_append_right _ (List.mem_append_left _ h))
theorem gi_dm_X13_near_0 : GoodIn ow_dm_X13_near (wsV RX13 461 RX13 yX13_valueOf ow_dm_X13_valueOf) := goodIn_app (goodIn_of _ (by decide +kernel)) (fun w h => ⟨List.mem_cons_of_mem _ (List.mem_append_right _ (List.mem_append_right _ (List.mem_append_left _ h))), gd_dm_X13_valueOf w h⟩)
def dj_X13_near_143 (p : Program) (l : Launch) (e : Env) (s : State) (m : MethodId) (args : Array Value) (below : List Frame) (meth : Method) (c : Code) (Q : State → Prop) (A : Nat → Prop) (dC : Nat → ClassId) (dI : Nat → Nat → Nat) (a : Nat → Nat) (ac : Nat → ClassId) (g : Int32 → (St) → Option (Int32 × (St))) (r : Int32 × (St)) : Prop := ∀ (y0 : Int32) (s0 : St) (H : Heap) (locs : List Loc) (ls : Array Slot), g y0 s0 = some r → va_P (dC, dI) vwCl (dw_X13 a ac s0) H → va_D A (dw_X13 a ac s0) → va_S A s.heap H locs → lv_has ls 7 [] → W p l e (headSpec ow_dm_X13_near ({ frames := 2, cells := 0, slots := 0, locals := 42 })).room s m args below meth c H locs 0 0 Q (F0 m 143 ls [.int y0])
def dj_X13_near_125 (p : Program) (l : Launch) (e : Env) (s : State) (m : MethodId) (args : Array Value) (below : List Frame) (meth : Method) (c : Code) (Q : State → Prop) (A : Nat → Prop) (dC : Nat → ClassId) (dI : Nat → Nat → Nat) (a : Nat → Nat) (ac : Nat → ClassId) (g : Int32 → Int32 → (St) → Option (Int32 × (St))) (r : Int32 × (St)) : Prop := ∀ (x4 : Int32) (y1 : Int32) (s0 : St) (H : Heap) (locs : List Loc) (ls : Array Slot), g x4 y1 s0 = some r → va_P (dC, dI) vwCl (dw_X13 a ac s0) H → va_D A (dw_X13 a ac s0) → va_S A s.heap H locs → lv_has ls 7 [(0, .ref (a 0)), (4, .int x4)] → W p l e (headSpec ow_dm_X13_near ({ frames := 2, cells := 0, slots := 0, locals := 42 })).room s m args below meth c H locs 0 0 Q (F0 m 125 ls [.int y1, .ref (a 0)])
def dj_X13_near_120 (p : Program) (l : Launch) (e : Env) (s : State) (m : MethodId) (args : Array Value) (below : List Frame) (meth : Method) (c : Code) (Q : State → Prop) (A : Nat → Prop) (dC : Nat → ClassId) (dI : Nat → Nat → Nat) (a : Nat → Nat) (ac : Nat → ClassId) (g : Int32 → (St) → Option (Int32 × (St))) (r : Int32 × (St)) : Prop := ∀ (x4 : Int32) (s0 : St) (H : Heap) (locs : List Loc) (ls : Array Slot), g x4 s0 = some r → va_P (dC, dI) vwCl (dw_X13 a ac s0) H → va_D A (dw_X13 a ac s0) → va_S A s.heap H locs → lv_has ls 7 [(0, .ref (a 0)), (4, .int x4)] → W p l e (headSpec ow_dm_X13_near ({ frames := 2, cells := 0, slots := 0, locals := 42 })).room s m args below meth c H locs 0 0 Q (F0 m 120 ls [.ref (a 0)])
def dj_X13_near_101 (p : Program) (l : Launch) (e : Env) (s : State) (m : MethodId) (args : Array Value) (below : List Frame) (meth : Method) (c : Code) (Q : State → Prop) (A : Nat → Prop) (dC : Nat → ClassId) (dI : Nat → Nat → Nat) (a : Nat → Nat) (ac : Nat → ClassId) (g : Int32 → Int32 → Int32 → Int32 → Int32 → (St) → Option (Int32 × (St))) (r : Int32 × (St)) : Prop := ∀ (x1 : Int32) (x2 : Int32) (x3 : Int32) (x4 : Int32) (x5 : Int32) (s0 : St) (H : Heap) (locs : List Loc) (ls : Array Slot), g x1 x2 x3 x4 x5 s0 = some r → va_P (dC, dI) vwCl (dw_X13 a ac s0) H → va_D A (dw_X13 a ac s0) → va_S A s.heap H locs → lv_has ls 7 [(0, .ref (a 0)), (1, .int x1), (2, .int x2), (3, .int x3), (4, .int x4), (5, .int x5)] → W p l e (headSpec ow_dm_X13_near ({ frames := 2, cells := 0, slots := 0, locals := 42 })).room s m args below meth c H locs 0 0 Q (F0 m 101 ls [])
def dj_X13_near_97 (p : Program) (l : Launch) (e : Env) (s : State) (m : MethodId) (args : Array Value) (below : List Frame) (meth : Method) (c : Code) (Q : State → Prop) (A : Nat → Prop) (dC : Nat → ClassId) (dI : Nat → Nat → Nat) (a : Nat → Nat) (ac : Nat → ClassId) (g : Int32 → Int32 → Int32 → Int32 → (St) → Option (Int32 × (St))) (r : Int32 × (St)) : Prop := ∀ (x1 : Int32) (x2 : Int32) (x3 : Int32) (x5 : Int32) (s0 : St) (H : Heap) (locs : List Loc) (ls : Array Slot), g x1 x2 x3 x5 s0 = some r → va_P (dC, dI) vwCl (dw_X13 a ac s0) H → va_D A (dw_X13 a ac s0) → va_S A s.heap H locs → lv_has ls 7 [(0, .ref (a 0)), (1, .int x1), (2, .int x2), (3, .int x3), (5, .int x5)] → W p l e (headSpec ow_dm_X13_near ({ frames := 2, cells := 0, slots := 0, locals := 42 })).room s m args below meth c H locs 0 0 Q (F0 m 97 ls [])
def dj_X13_near_82 (p : Program) (l : Launch) (e : Env) (s : State) (m : MethodId) (args : Array Value) (below : List Frame) (meth : Method) (c : Code) (Q : State → Prop) (A : Nat → Prop) (dC : Nat → ClassId) (dI : Nat → Nat → Nat) (a : Nat → Nat) (ac : Nat → ClassId) (g : Int32 → Int32 → Int32 → Int32 → Int32 → Int32 → Int32 → (St) → Option (Int32 × (St))) (r : Int32 × (St)) : Prop := ∀ (x1 : Int32) (x2 : Int32) (x3 : Int32) (x4 : Int32) (x5 : Int32) (y0 : Int32) (y1 : Int32) (s0 : St) (H : Heap) (locs : List Loc) (ls : Array Slot), g x1 x2 x3 x4 x5 y0 y1 s0 = some r → va_P (dC, dI) vwCl (dw_X13 a ac s0) H → va_D A (dw_X13 a ac s0) → va_S A s.heap H locs → lv_has ls 7 [(0, .ref (a 0)), (1, .int x1), (2, .int x2), (3, .int x3), (4, .int x4), (5, .int x5)] → W p l e (headSpec ow_dm_X13_near ({ frames := 2, cells := 0, slots := 0, locals := 42 })).room s m args below meth c H locs 0 0 Q (F0 m 82 ls [.int y1, .int y0])
def dj_X13_near_20 (p : Program) (l : Launch) (e : Env) (s : State) (m : MethodId) (args : Array Value) (below : List Frame) (meth : Method) (c : Code) (Q : State → Prop) (A : Nat → Prop) (dC : Nat → ClassId) (dI : Nat → Nat → Nat) (a : Nat → Nat) (ac : Nat → ClassId) (g : Int32 → Int32 → Int32 → Int32 → Int32 → (St) → Option (Int32 × (St))) (r : Int32 × (St)) : Prop := ∀ (x1 : Int32) (x2 : Int32) (x3 : Int32) (x4 : Int32) (x5 : Int32) (s0 : St) (H : Heap) (locs : List Loc) (ls : Array Slot), g x1 x2 x3 x4 x5 s0 = some r → va_P (dC, dI) vwCl (dw_X13 a ac s0) H → va_D A (dw_X13 a ac s0) → va_S A s.heap H locs → lv_has ls 7 [(0, .ref (a 0)), (1, .int x1), (2, .int x2), (3, .int x3), (4, .int x4), (5, .int x5)] → W p l e (headSpec ow_dm_X13_near ({ frames := 2, cells := 0, slots := 0, locals := 42 })).room s m args below meth c H locs 0 0 Q (F0 m 20 ls [])
def dj_X13_near_0 (p : Program) (l : Launch) (e : Env) (s : State) (m : MethodId) (args : Array Value) (below : List Frame) (meth : Method) (c : Code) (Q : State → Prop) (A : Nat → Prop) (dC : Nat → ClassId) (dI : Nat → Nat → Nat) (a : Nat → Nat) (ac : Nat → ClassId) (g : Int32 → Int32 → (St) → Option (Int32 × (St))) (r : Int32 × (St)) : Prop := ∀ (v0 : Int32) (v1 : Int32) (s0 : St) (H : Heap) (locs : List Loc) (ls : Array Slot), g v0 v1 s0 = some r → va_P (dC, dI) vwCl (dw_X13 a ac s0) H → va_D A (dw_X13 a ac s0) → va_S A s.heap H locs → lv_has ls 7 [(0, .ref (a 0)), (1, .int v0), (2, .int v1)] → W p l e (headSpec ow_dm_X13_near ({ frames := 2, cells := 0, slots := 0, locals := 42 })).room s m args below meth c H locs 0 0 Q (F0 m 0 ls [])
set_option maxHeartbeats 40000000 in
set_option maxRecDepth 100000 in
theorem db_X13_near_143 {p : Program} {l : Launch} {e : Env} {s : State} {m : MethodId} {args : Array Value} {below : List Frame} {meth : Method} {c : Code} {Q : State → Prop} {A : Nat → Prop} {dC : Nat → ClassId} {dI : Nat → Nat → Nat} {a : Nat → Nat} {ac : Nat → ClassId} {n : Nat} {r : Int32 × (St)} (C : nd_C p l s m args c A (dC, dI) cX13_near 7 RX13 ow_dm_X13_near (dk_X13 ac)) (K : nd_Ki p l e (headSpec ow_dm_X13_near ({ frames := 2, cells := 0, slots := 0, locals := 42 })).room s m args below meth c Q A (dC, dI) cX13_near .int (St) (dw_X13 a ac) r) : dj_X13_near_143 p l e s m args below meth c Q A dC dI a ac (df_X13_near_143 n) r := by
  obtain ⟨hlt, hx, hb, hml, hown, hts, hN, hA, hK⟩ := id C
  intro y0 s0 H locs ls h hP hD hS hl
  unfold df_X13_near_143 at h
  exact K _ _ _ _ _ _ dX13_near_143 rfl (Option.some.inj h).symm hP hD hS
set_option maxHeartbeats 40000000 in
set_option maxRecDepth 100000 in
theorem db_X13_near_125 {p : Program} {l : Launch} {e : Env} {s : State} {m : MethodId} {args : Array Value} {below : List Frame} {meth : Method} {c : Code} {Q : State → Prop} {A : Nat → Prop} {dC : Nat → ClassId} {dI : Nat → Nat → Nat} {a : Nat → Nat} {ac : Nat → ClassId} {n : Nat} {r : Int32 × (St)} (C : nd_C p l s m args c A (dC, dI) cX13_near 7 RX13 ow_dm_X13_near (dk_X13 ac)) (K : nd_Ki p l e (headSpec ow_dm_X13_near ({ frames := 2, cells := 0, slots := 0, locals := 42 })).room s m args below meth c Q A (dC, dI) cX13_near .int (St) (dw_X13 a ac) r) : dj_X13_near_125 p l e s m args below meth c Q A dC dI a ac (df_X13_near_125 n) r := by
  obtain ⟨hlt, hx, hb, hml, hown, hts, hN, hA, hK⟩ := id C
  intro x4 y1 s0 H locs ls h hP hD hS hl
  unfold df_X13_near_125 at h
  obtain ⟨n5, h⟩ := nd_f_e h
  obtain ⟨n6, h⟩ := nd_z_e ⟨_, rfl⟩ h
  refine va_put (D := (dC, dI)) (ci := 14) (v := .int y1) (ty := .boolean) (C := RX13) (T := TX13) (N := 37) hx hb hts hi_dm_X13_near_X13 tyX13 tyX13_ok nmX13 hown hK hP hD hS 0 rfl rfl 31 (by decide) (hts (.fieldLink RX13 457 "TimeMachineModel$Assembler" "missing" "Z") (List.mem_of_getElem? (i := 5) rfl)) (fun _ h9 => h9) rfl (by decide +kernel) n6 n5 (Nat.le_of_ble_eq_true rfl) dX13_near_125 (fun H locs hP hD hS => ?_)
  obtain ⟨s7, es7, h⟩ := nd_let_e h
  have hP : va_P (dC, dI) vwCl (dw_X13 a ac s7) H := by rw [es7]; exact hP
  have hD : va_D A (dw_X13 a ac s7) := by rw [es7]; exact hD
  refine lv_iload hx hb dX13_near_128 (lv_at hl 1 rfl) ?_
  refine lv_if_ge (tgt := 137) hx hb dX13_near_130 (by decide) (fun c8 => ?_) (fun c8 => ?_)
  · have h := nd_pos h c8
    refine lv_aload_n hx hb dX13_near_137 rfl (lv_at hl 0 rfl) ?_
    refine lv_iload hx hb dX13_near_138 (lv_at hl 1 rfl) ?_
    obtain ⟨q9, s10, hq, h⟩ := nd_b2_e h
    have hPc := hP
    have hDc := hD
    have hKc := hK
    have hFc := nd_rs hD hS hA
    refine nd_cVi (As := [.int x4]) (rest := []) (q := q9) (w' := dw_X13 a ac s10) ⟨hx, hb, hml, hown, hts⟩ (fun sz => dm_X13_valueOf l hlt dC dI a ac n (x4) s7 hq sz) (cwV 1 hts gi_dm_X13_near_0 rfl rfl rfl (by decide +kernel) ⟨Nat.le_of_ble_eq_true rfl, Nat.le_of_ble_eq_true rfl⟩) hPc hDc hKc hS hA hN (va_recv hKc hPc (ci := 14) (q0 := 0) rfl rfl) rfl hl.1 rfl (Nat.le_of_ble_eq_true rfl) dX13_near_140 (fun H locs hP1 hD1 hk1 hS => ?_)
    have hP := hP1
    have hD := hD1.weaken (fun k q _ h => hFc q.1 h)
    exact (db_X13_near_143 C K) (q9) s10 _ _ _ h hP hD hS (lv_sub hl [] rfl)
  · have h := nd_neg h c8
    refine lv_iconst (v := 0) hx hb dX13_near_133 (by decide) ?_
    refine lv_goto (tgt := 143) hx hb dX13_near_134 (by decide) ?_
    exact (db_X13_near_143 C K) (0) s7 _ _ _ h hP hD hS (lv_sub hl [] rfl)
set_option maxHeartbeats 40000000 in
set_option maxRecDepth 100000 in
theorem db_X13_near_120 {p : Program} {l : Launch} {e : Env} {s : State} {m : MethodId} {args : Array Value} {below : List Frame} {meth : Method} {c : Code} {Q : State → Prop} {A : Nat → Prop} {dC : Nat → ClassId} {dI : Nat → Nat → Nat} {a : Nat → Nat} {ac : Nat → ClassId} {n : Nat} {r : Int32 × (St)} (C : nd_C p l s m args c A (dC, dI) cX13_near 7 RX13 ow_dm_X13_near (dk_X13 ac)) (K : nd_Ki p l e (headSpec ow_dm_X13_near ({ frames := 2, cells := 0, slots := 0, locals := 42 })).room s m args below meth c Q A (dC, dI) cX13_near .int (St) (dw_X13 a ac) r) : dj_X13_near_120 p l e s m args below meth c Q A dC dI a ac (df_X13_near_120 n) r := by
  obtain ⟨hlt, hx, hb, hml, hown, hts, hN, hA, hK⟩ := id C
  intro x4 s0 H locs ls h hP hD hS hl
  unfold df_X13_near_120 at h
  refine lv_iconst (v := 1) hx hb dX13_near_120 (by decide) ?_
  refine lv_goto (tgt := 125) hx hb dX13_near_121 (by decide) ?_
  exact (db_X13_near_125 C K) (x4) (1) s0 _ _ _ h hP hD hS (lv_sub hl [0, 1] rfl)
set_option maxHeartbeats 40000000 in
set_option maxRecDepth 100000 in
theorem db_X13_near_101 {p : Program} {l : Launch} {e : Env} {s : State} {m : MethodId} {args : Array Value} {below : List Frame} {meth : Method} {c : Code} {Q : State → Prop} {A : Nat → Prop} {dC : Nat → ClassId} {dI : Nat → Nat → Nat} {a : Nat → Nat} {ac : Nat → ClassId} {n : Nat} {r : Int32 × (St)} (C : nd_C p l s m args c A (dC, dI) cX13_near 7 RX13 ow_dm_X13_near (dk_X13 ac)) (K : nd_Ki p l e (headSpec ow_dm_X13_near ({ frames := 2, cells := 0, slots := 0, locals := 42 })).room s m args below meth c Q A (dC, dI) cX13_near .int (St) (dw_X13 a ac) r) {g20 : Int32 → Int32 → Int32 → Int32 → Int32 → (St) → Option (Int32 × (St))} (J20 : dj_X13_near_20 p l e s m args below meth c Q A dC dI a ac g20 r) : dj_X13_near_101 p l e s m args below meth c Q A dC dI a ac (df_X13_near_101 n g20) r := by
  obtain ⟨hlt, hx, hb, hml, hown, hts, hN, hA, hK⟩ := id C
  intro x1 x2 x3 x4 x5 s0 H locs ls h hP hD hS hl
  unfold df_X13_near_101 at h
  obtain ⟨z17, ez17, h⟩ := nd_let_e h
  refine lv_iinc (v := z17) (lv' := [(5, .int z17), (0, .ref (a 0)), (1, .int x1), (2, .int x2), (3, .int x3), (4, .int x4)]) hx hb dX13_near_101 hl (k := 5) rfl (by rw [ez17]) (by decide) rfl (fun ls hl => ?_)
  refine lv_goto (tgt := 20) hx hb dX13_near_104 (by decide) ?_
  exact (J20) (x1) (x2) (x3) (x4) (z17) s0 _ _ _ h hP hD hS (lv_sub hl [1, 2, 3, 4, 5, 0] rfl)
set_option maxHeartbeats 40000000 in
set_option maxRecDepth 100000 in
theorem db_X13_near_97 {p : Program} {l : Launch} {e : Env} {s : State} {m : MethodId} {args : Array Value} {below : List Frame} {meth : Method} {c : Code} {Q : State → Prop} {A : Nat → Prop} {dC : Nat → ClassId} {dI : Nat → Nat → Nat} {a : Nat → Nat} {ac : Nat → ClassId} {n : Nat} {r : Int32 × (St)} (C : nd_C p l s m args c A (dC, dI) cX13_near 7 RX13 ow_dm_X13_near (dk_X13 ac)) (K : nd_Ki p l e (headSpec ow_dm_X13_near ({ frames := 2, cells := 0, slots := 0, locals := 42 })).room s m args below meth c Q A (dC, dI) cX13_near .int (St) (dw_X13 a ac) r) {g20 : Int32 → Int32 → Int32 → Int32 → Int32 → (St) → Option (Int32 × (St))} (J20 : dj_X13_near_20 p l e s m args below meth c Q A dC dI a ac g20 r) : dj_X13_near_97 p l e s m args below meth c Q A dC dI a ac (df_X13_near_97 n g20) r := by
  obtain ⟨hlt, hx, hb, hml, hown, hts, hN, hA, hK⟩ := id C
  intro x1 x2 x3 x5 s0 H locs ls h hP hD hS hl
  unfold df_X13_near_97 at h
  refine lv_iload hx hb dX13_near_97 (lv_at hl 4 rfl) ?_
  refine lv_istore (lv' := [(4, .int x5), (0, .ref (a 0)), (1, .int x1), (2, .int x2), (3, .int x3), (5, .int x5)]) hx hb dX13_near_99 hl (by decide) rfl (fun ls hl => ?_)
  exact (db_X13_near_101 C K J20) (x1) (x2) (x3) (x5) (x5) s0 _ _ _ h hP hD hS (lv_sub hl [1, 2, 3, 4, 0, 5] rfl)
set_option maxHeartbeats 40000000 in
set_option maxRecDepth 100000 in
theorem db_X13_near_82 {p : Program} {l : Launch} {e : Env} {s : State} {m : MethodId} {args : Array Value} {below : List Frame} {meth : Method} {c : Code} {Q : State → Prop} {A : Nat → Prop} {dC : Nat → ClassId} {dI : Nat → Nat → Nat} {a : Nat → Nat} {ac : Nat → ClassId} {n : Nat} {r : Int32 × (St)} (C : nd_C p l s m args c A (dC, dI) cX13_near 7 RX13 ow_dm_X13_near (dk_X13 ac)) (K : nd_Ki p l e (headSpec ow_dm_X13_near ({ frames := 2, cells := 0, slots := 0, locals := 42 })).room s m args below meth c Q A (dC, dI) cX13_near .int (St) (dw_X13 a ac) r) {g20 : Int32 → Int32 → Int32 → Int32 → Int32 → (St) → Option (Int32 × (St))} (J20 : dj_X13_near_20 p l e s m args below meth c Q A dC dI a ac g20 r) : dj_X13_near_82 p l e s m args below meth c Q A dC dI a ac (df_X13_near_82 n g20) r := by
  obtain ⟨hlt, hx, hb, hml, hown, hts, hN, hA, hK⟩ := id C
  intro x1 x2 x3 x4 x5 y0 y1 s0 H locs ls h hP hD hS hl
  unfold df_X13_near_82 at h
  refine lv_icmp_ne (tgt := 101) hx hb dX13_near_82 (by decide) (fun c21 => ?_) (fun c21 => ?_)
  · have h := nd_neg h c21
    exact (db_X13_near_101 C K J20) (x1) (x2) (x3) (x4) (x5) s0 _ _ _ h hP hD hS (lv_sub hl [0, 1, 2, 3, 4, 5] rfl)
  · have h := nd_pos h c21
    refine lv_iload_n hx hb dX13_near_85 rfl (lv_at hl 2 rfl) ?_
    refine lv_if_eq (tgt := 97) hx hb dX13_near_86 (by decide) (fun c22 => ?_) (fun c22 => ?_)
    · have h := nd_pos h c22
      exact (db_X13_near_97 C K J20) (x1) (x2) (x3) (x5) s0 _ _ _ h hP hD hS (lv_sub hl [0, 1, 2, 3, 5] rfl)
    · have h := nd_neg h c22
      refine lv_iload hx hb dX13_near_89 (lv_at hl 4 rfl) ?_
      refine lv_if_lt (tgt := 97) hx hb dX13_near_91 (by decide) (fun c23 => ?_) (fun c23 => ?_)
      · have h := nd_pos h c23
        exact (db_X13_near_97 C K J20) (x1) (x2) (x3) (x5) s0 _ _ _ h hP hD hS (lv_sub hl [0, 1, 2, 3, 5] rfl)
      · have h := nd_neg h c23
        refine lv_goto (tgt := 101) hx hb dX13_near_94 (by decide) ?_
        exact (db_X13_near_101 C K J20) (x1) (x2) (x3) (x4) (x5) s0 _ _ _ h hP hD hS (lv_sub hl [0, 1, 2, 3, 4, 5] rfl)
set_option maxHeartbeats 40000000 in
set_option maxRecDepth 100000 in
theorem dB_X13_near_20 {p : Program} {l : Launch} {e : Env} {s : State} {m : MethodId} {args : Array Value} {below : List Frame} {meth : Method} {c : Code} {Q : State → Prop} {A : Nat → Prop} {dC : Nat → ClassId} {dI : Nat → Nat → Nat} {a : Nat → Nat} {ac : Nat → ClassId} {n : Nat} {r : Int32 × (St)} (C : nd_C p l s m args c A (dC, dI) cX13_near 7 RX13 ow_dm_X13_near (dk_X13 ac)) (K : nd_Ki p l e (headSpec ow_dm_X13_near ({ frames := 2, cells := 0, slots := 0, locals := 42 })).room s m args below meth c Q A (dC, dI) cX13_near .int (St) (dw_X13 a ac) r) {g20 : Int32 → Int32 → Int32 → Int32 → Int32 → (St) → Option (Int32 × (St))} (J20 : dj_X13_near_20 p l e s m args below meth c Q A dC dI a ac g20 r) : dj_X13_near_20 p l e s m args below meth c Q A dC dI a ac (dF_X13_near_20 n g20) r := by
  obtain ⟨hlt, hx, hb, hml, hown, hts, hN, hA, hK⟩ := id C
  intro x1 x2 x3 x4 x5 s0 H locs ls h hP hD hS hl
  unfold dF_X13_near_20 at h
  refine lv_iload hx hb dX13_near_20 (lv_at hl 5 rfl) ?_
  refine lv_aload_n hx hb dX13_near_22 rfl (lv_at hl 0 rfl) ?_
  refine va_get (D := (dC, dI)) (ci := 14) (v := .int (sI s0 3)) (C := RX13) (T := TX13) (N := 37) hx hb hts hi_dm_X13_near_X13 hown hK hP 0 rfl rfl 10 (by decide) (hts (.fieldLink RX13 439 "TimeMachineModel$Assembler" "labels" "I") (List.mem_of_getElem? (i := 4) rfl)) (fun _ h9 => h9) rfl dX13_near_23 ?_
  refine lv_icmp_ge (tgt := 107) hx hb dX13_near_26 (by decide) (fun c3 => ?_) (fun c3 => ?_)
  · have h := nd_pos h c3
    refine lv_aload_n hx hb dX13_near_107 rfl (lv_at hl 0 rfl) ?_
    refine lv_aload_n hx hb dX13_near_108 rfl (lv_at hl 0 rfl) ?_
    refine va_get (D := (dC, dI)) (ci := 14) (v := .int (sI s0 21)) (C := RX13) (T := TX13) (N := 37) hx hb hts hi_dm_X13_near_X13 hown hK hP 0 rfl rfl 31 (by decide) (hts (.fieldLink RX13 457 "TimeMachineModel$Assembler" "missing" "Z") (List.mem_of_getElem? (i := 5) rfl)) (fun _ h9 => h9) rfl dX13_near_109 ?_
    refine lv_if_ne (tgt := 120) hx hb dX13_near_112 (by decide) (fun c4 => ?_) (fun c4 => ?_)
    · have h := nd_neg h c4
      exact (db_X13_near_120 C K) (x4) s0 _ _ _ h hP hD hS (lv_sub hl [0, 4] rfl)
    · have h := nd_pos h c4
      refine lv_iload hx hb dX13_near_115 (lv_at hl 4 rfl) ?_
      refine lv_if_ge (tgt := 124) hx hb dX13_near_117 (by decide) (fun c12 => ?_) (fun c12 => ?_)
      · have h := nd_pos h c12
        refine lv_iconst (v := 0) hx hb dX13_near_124 (by decide) ?_
        exact (db_X13_near_125 C K) (x4) (0) s0 _ _ _ h hP hD hS (lv_sub hl [0, 4] rfl)
      · have h := nd_neg h c12
        exact (db_X13_near_120 C K) (x4) s0 _ _ _ h hP hD hS (lv_sub hl [0, 4] rfl)
  · have h := nd_neg h c3
    refine lv_aload_n hx hb dX13_near_29 rfl (lv_at hl 0 rfl) ?_
    refine va_get (D := (dC, dI)) (ci := 14) (v := .ref (a 8)) (C := RX13) (T := TX13) (N := 37) hx hb hts hi_dm_X13_near_X13 hown hK hP 0 rfl rfl 11 (by decide) (hts (.fieldLink RX13 337 "TimeMachineModel$Assembler" "label" "[I") (List.mem_of_getElem? (i := 10) rfl)) (fun _ h9 => h9) rfl dX13_near_30 ?_
    refine lv_iload hx hb dX13_near_33 (lv_at hl 5 rfl) ?_
    obtain ⟨i13, h⟩ := nd_ck_e h
    refine va_iald (i := x5) hx hb hK hP 8 7 rfl rfl i13 dX13_near_35 ?_
    refine lv_ldcw hx hb hown (hts (.constant RX13 442 (131071)) (List.mem_of_getElem? (i := 3) rfl)) dX13_near_36 ?_
    refine lv_iand hx hb dX13_near_39 ?_
    refine lv_topi (fun z14 ez14 => ?_)
    have h := nd_at h ez14
    refine lv_istore (lv' := [(6, .int z14), (0, .ref (a 0)), (1, .int x1), (2, .int x2), (3, .int x3), (4, .int x4), (5, .int x5)]) hx hb dX13_near_40 hl (by decide) rfl (fun ls hl => ?_)
    refine lv_aload_n hx hb dX13_near_42 rfl (lv_at hl 1 rfl) ?_
    refine va_get (D := (dC, dI)) (ci := 14) (v := .ref (a 8)) (C := RX13) (T := TX13) (N := 37) hx hb hts hi_dm_X13_near_X13 hown hK hP 0 rfl rfl 11 (by decide) (hts (.fieldLink RX13 337 "TimeMachineModel$Assembler" "label" "[I") (List.mem_of_getElem? (i := 10) rfl)) (fun _ h9 => h9) rfl dX13_near_43 ?_
    refine lv_iload hx hb dX13_near_46 (lv_at hl 6 rfl) ?_
    obtain ⟨i15, h⟩ := nd_ck_e h
    refine va_iald (i := x5) hx hb hK hP 8 7 rfl rfl i15 dX13_near_48 ?_
    refine lv_bipush (v := 17) hx hb dX13_near_49 (by decide) ?_
    refine lv_ishr hx hb dX13_near_51 ?_
    refine lv_iconst (v := 3) hx hb dX13_near_52 (by decide) ?_
    refine lv_icmp_lt (tgt := 101) hx hb dX13_near_53 (by decide) (fun c16 => ?_) (fun c16 => ?_)
    · have h := nd_pos h c16
      exact (db_X13_near_101 C K J20) (x1) (x2) (x3) (x4) (x5) s0 _ _ _ h hP hD hS (lv_sub hl [1, 2, 3, 4, 5, 6] rfl)
    · have h := nd_neg h c16
      refine lv_aload_n hx hb dX13_near_56 rfl (lv_at hl 1 rfl) ?_
      refine va_get (D := (dC, dI)) (ci := 14) (v := .ref (a 4)) (C := RX13) (T := TX13) (N := 37) hx hb hts hi_dm_X13_near_X13 hown hK hP 0 rfl rfl 3 (by decide) (hts (.fieldLink RX13 324 "TimeMachineModel$Assembler" "text" "[C") (List.mem_of_getElem? (i := 11) rfl)) (fun _ h9 => h9) rfl dX13_near_57 ?_
      refine lv_iload hx hb dX13_near_60 (lv_at hl 0 rfl) ?_
      obtain ⟨i18, h⟩ := nd_ck_e h
      refine va_cald (i := z14) hx hb hK hP 4 3 rfl rfl i18 dX13_near_62 ?_
      refine lv_bipush (v := 48) hx hb dX13_near_63 (by decide) ?_
      refine lv_isub hx hb dX13_near_65 ?_
      refine lv_iload_n hx hb dX13_near_66 rfl (lv_at hl 2 rfl) ?_
      refine lv_icmp_ne (tgt := 101) hx hb dX13_near_67 (by decide) (fun c19 => ?_) (fun c19 => ?_)
      · have h := nd_neg h c19
        exact (db_X13_near_101 C K J20) (x1) (x2) (x3) (x4) (x5) s0 _ _ _ h hP hD hS (lv_sub hl [1, 2, 3, 4, 5, 6] rfl)
      · have h := nd_pos h c19
        refine lv_iload_n hx hb dX13_near_70 rfl (lv_at hl 3 rfl) ?_
        refine lv_iload hx hb dX13_near_71 (lv_at hl 0 rfl) ?_
        refine lv_iload_n hx hb dX13_near_73 rfl (lv_at hl 4 rfl) ?_
        refine lv_icmp_le (tgt := 81) hx hb dX13_near_74 (by decide) (fun c20 => ?_) (fun c20 => ?_)
        · have h := nd_pos h c20
          refine lv_iconst (v := 0) hx hb dX13_near_81 (by decide) ?_
          exact (db_X13_near_82 C K J20) (x1) (x2) (x3) (x4) (x5) (x2) (0) s0 _ _ _ h hP hD hS (lv_sub hl [1, 2, 3, 4, 5, 6] rfl)
        · have h := nd_neg h c20
          refine lv_iconst (v := 1) hx hb dX13_near_77 (by decide) ?_
          refine lv_goto (tgt := 82) hx hb dX13_near_78 (by decide) ?_
          exact (db_X13_near_82 C K J20) (x1) (x2) (x3) (x4) (x5) (x2) (1) s0 _ _ _ h hP hD hS (lv_sub hl [1, 2, 3, 4, 5, 6] rfl)
set_option maxHeartbeats 40000000 in
set_option maxRecDepth 100000 in
theorem db_X13_near_20 {p : Program} {l : Launch} {e : Env} {s : State} {m : MethodId} {args : Array Value} {below : List Frame} {meth : Method} {c : Code} {Q : State → Prop} {A : Nat → Prop} {dC : Nat → ClassId} {dI : Nat → Nat → Nat} {a : Nat → Nat} {ac : Nat → ClassId} {n : Nat} {r : Int32 × (St)} (C : nd_C p l s m args c A (dC, dI) cX13_near 7 RX13 ow_dm_X13_near (dk_X13 ac)) (K : nd_Ki p l e (headSpec ow_dm_X13_near ({ frames := 2, cells := 0, slots := 0, locals := 42 })).room s m args below meth c Q A (dC, dI) cX13_near .int (St) (dw_X13 a ac) r) (k : Nat) : dj_X13_near_20 p l e s m args below meth c Q A dC dI a ac (df_X13_near_20 n k) r := by
  induction k with
  | zero => intro x1 x2 x3 x4 x5 s0 H locs ls h; exact nomatch (show (none : Option (Int32 × (St))) = some r from h)
  | succ k ih => exact dB_X13_near_20 C K ih
set_option maxHeartbeats 40000000 in
set_option maxRecDepth 100000 in
theorem db_X13_near_0 {p : Program} {l : Launch} {e : Env} {s : State} {m : MethodId} {args : Array Value} {below : List Frame} {meth : Method} {c : Code} {Q : State → Prop} {A : Nat → Prop} {dC : Nat → ClassId} {dI : Nat → Nat → Nat} {a : Nat → Nat} {ac : Nat → ClassId} {n : Nat} {r : Int32 × (St)} (C : nd_C p l s m args c A (dC, dI) cX13_near 7 RX13 ow_dm_X13_near (dk_X13 ac)) (K : nd_Ki p l e (headSpec ow_dm_X13_near ({ frames := 2, cells := 0, slots := 0, locals := 42 })).room s m args below meth c Q A (dC, dI) cX13_near .int (St) (dw_X13 a ac) r) : dj_X13_near_0 p l e s m args below meth c Q A dC dI a ac (df_X13_near_0 n) r := by
  obtain ⟨hlt, hx, hb, hml, hown, hts, hN, hA, hK⟩ := id C
  intro v0 v1 s0 H locs ls h hP hD hS hl
  unfold df_X13_near_0 at h
  refine lv_aload_n hx hb dX13_near_0 rfl (lv_at hl 0 rfl) ?_
  refine va_get (D := (dC, dI)) (ci := 14) (v := .ref (a 5)) (C := RX13) (T := TX13) (N := 37) hx hb hts hi_dm_X13_near_X13 hown hK hP 0 rfl rfl 7 (by decide) (hts (.fieldLink RX13 328 "TimeMachineModel$Assembler" "place" "[I") (List.mem_of_getElem? (i := 1) rfl)) (fun _ h9 => h9) rfl dX13_near_1 ?_
  refine lv_aload_n hx hb dX13_near_4 rfl (lv_at hl 0 rfl) ?_
  refine va_get (D := (dC, dI)) (ci := 14) (v := .int (sI s0 16)) (C := RX13) (T := TX13) (N := 37) hx hb hts hi_dm_X13_near_X13 hown hK hP 0 rfl rfl 25 (by decide) (hts (.fieldLink RX13 454 "TimeMachineModel$Assembler" "current" "I") (List.mem_of_getElem? (i := 2) rfl)) (fun _ h9 => h9) rfl dX13_near_5 ?_
  obtain ⟨i1, h⟩ := nd_ck_e h
  refine va_iald (i := (sI s0 16)) hx hb hK hP 5 4 rfl rfl i1 dX13_near_8 ?_
  refine lv_ldcw hx hb hown (hts (.constant RX13 442 (131071)) (List.mem_of_getElem? (i := 3) rfl)) dX13_near_9 ?_
  refine lv_iand hx hb dX13_near_12 ?_
  refine lv_topi (fun z2 ez2 => ?_)
  have h := nd_at h ez2
  refine lv_istore_n (lv' := [(3, .int z2), (0, .ref (a 0)), (1, .int v0), (2, .int v1)]) hx hb dX13_near_13 rfl hl (by decide) rfl (fun ls hl => ?_)
  refine lv_iconst (v := (-1)) hx hb dX13_near_14 (by decide) ?_
  refine lv_istore (lv' := [(4, .int (-1)), (3, .int z2), (0, .ref (a 0)), (1, .int v0), (2, .int v1)]) hx hb dX13_near_15 hl (by decide) rfl (fun ls hl => ?_)
  refine lv_iconst (v := 0) hx hb dX13_near_17 (by decide) ?_
  refine lv_istore (lv' := [(5, .int 0), (4, .int (-1)), (3, .int z2), (0, .ref (a 0)), (1, .int v0), (2, .int v1)]) hx hb dX13_near_18 hl (by decide) rfl (fun ls hl => ?_)
  exact (db_X13_near_20 C K n) (v0) (v1) (z2) ((-1)) (0) s0 _ _ _ h hP hD hS (lv_sub hl [3, 4, 5, 2, 1, 0] rfl)
set_option maxHeartbeats 40000000 in
set_option maxRecDepth 100000 in
theorem dm_X13_near (l : Launch) (hlt : l.stackTraces = false) (dC : Nat → ClassId) (dI : Nat → Nat → Nat) (a : Nat → Nat) (ac : Nat → ClassId) (n : Nat) (v0 : Int32) (v1 : Int32) (s0 : St) {r : Int32 × (St)} (h : df_X13_near n v0 v1 s0 = some r) (sz : Nat) : Met l yX13_near ow_dm_X13_near ({ frames := 2, cells := 0, slots := 0, locals := 42 }) (va_Pc [.ref (a 0), .int v0, .int v1] (fun U => U.heap.size = sz ∧ va_P (dC, dI) vwCl (dw_X13 a ac s0) U.heap ∧ va_K (dC, dI) vwCl (dk_X13 ac) U ∧ va_D (fun _ => True) (dw_X13 a ac s0) ∧ nv_E (va_A (dw_X13 a ac s0) sz) U)) (va_Qi (fun x _ => x = r.1) (fun (_ : Unit) t => va_P (dC, dI) vwCl (dw_X13 a ac r.2) t.heap ∧ va_K (dC, dI) vwCl (dk_X13 ac) t ∧ va_D (va_A (dw_X13 a ac s0) sz) (dw_X13 a ac r.2)) (va_A (dw_X13 a ac s0) sz)) 0 0 (va_A (dw_X13 a ac s0) sz) := by
  refine Met.ofW (cc := cX13_near) (maxL := 7) (ret := (some .int)) (by decide) rfl ?_
  intro p e s m args below meth c s₁ B hml hv
  obtain ⟨rfl, hsz, hP, hK, hD0, hN⟩ := hv
  have hx := B.exec
  have hb := B.bytes
  have hr := B.returns
  have hts := atoms_spec (ws := ow_dm_X13_near) B.pre
  have hown : s.vm.findClass RX13 = some m.cls := findClass_of_methodNamed B.named
  have hlocks := B.notSynchronized
  subst hsz
  have hD := hD0.self (sz := s.heap.size)
  generalize hAe : va_A (dw_X13 a ac s0) s.heap.size = A at hD hN ⊢
  have hA : ∀ q : Nat, s.heap.size ≤ q → A q := fun q h => by rw [← hAe]; exact Or.inr h
  have hl := lv_entry ([.ref (a 0), .int v0, .int v1]) (n := 7) (Nat.le_of_ble_eq_true rfl)
  rw [lg_entry_eq]
  generalize (lg_sl ([.ref (a 0), .int v0, .int v1]) ++ List.replicate (7 - (lg_sl ([.ref (a 0), .int v0, .int v1])).length) Slot.unset).toArray = ls at hl ⊢
  have hl : lv_has ls 7 [(0, .ref (a 0)), (1, .int v0), (2, .int v1)] := hl
  exact db_X13_near_0 (dC := dC) (dI := dI) (a := a) (ac := ac) (n := n) (r := r) ⟨hlt, hx, hb, hml, hown, hts, hN, hA, hK⟩ (fun pc v τ H locs ls d z er hP hD hS => by subst er; exact W.zret (v := v) hx hb hr z (fun t ht hW => ⟨⟨v, (), rfl, rfl, by rw [ht]; exact hP, va_K.moved hW.alike hK, hD⟩, hS.F ht⟩) hS.2.2 d) v0 v1 s0 _ _ _ h hP hD va_S.rf (lv_sub hl [0, 1, 2] rfl)
def ow_dm_X13_sign : List Cond := .code yX13_sign cX13_sign 2 none :: ([.fieldLink RX13 344 "TimeMachineModel$Assembler" "pile" "[I", .fieldLink RX13 464 "TimeMachineModel$Assembler" "signs" "I"] ++ (u_ws RX13 TX13 37 ++ []))
theorem gd_dm_X13_sign : ∀ w ∈ ow_dm_X13_sign, (w.onTables && w.keeps) = true ∨ ∃ ty, w = Cond.arrayClass ty := List.forall_mem_cons.mpr ⟨good_of_word rfl, List.forall_mem_append.mpr ⟨fun w h => good_of_word (List.all_eq_true.mp (by decide +kernel) w h), List.forall_mem_append.mpr ⟨gu_X13, fun _ h => nomatch h⟩⟩⟩
theorem hi_dm_X13_sign_X13 : ∀ w ∈ u_ws RX13 TX13 37, w ∈ ow_dm_X13_sign := fun w h => List.mem_cons_of_mem _ (List.mem_append_right _ (List.mem_append_left _ h))
def dj_X13_sign_0 (p : Program) (l : Launch) (e : Env) (s : State) (m : MethodId) (args : Array Value) (below : List Frame) (meth : Method) (c : Code) (Q : State → Prop) (A : Nat → Prop) (dC : Nat → ClassId) (dI : Nat → Nat → Nat) (a : Nat → Nat) (ac : Nat → ClassId) (g : Int32 → (St) → Option (St)) (r : St) : Prop := ∀ (v0 : Int32) (s0 : St) (H : Heap) (locs : List Loc) (ls : Array Slot), g v0 s0 = some r → va_P (dC, dI) vwCl (dw_X13 a ac s0) H → va_D A (dw_X13 a ac s0) → va_S A s.heap H locs → lv_has ls 2 [(0, .ref (a 0)), (1, .int v0)] → W p l e (headSpec ow_dm_X13_sign ({ frames := 0, cells := 0, slots := 0, locals := 0 })).room s m args below meth c H locs 0 0 Q (F0 m 0 ls [])
set_option maxHeartbeats 40000000 in
set_option maxRecDepth 100000 in
theorem db_X13_sign_0 {p : Program} {l : Launch} {e : Env} {s : State} {m : MethodId} {args : Array Value} {below : List Frame} {meth : Method} {c : Code} {Q : State → Prop} {A : Nat → Prop} {dC : Nat → ClassId} {dI : Nat → Nat → Nat} {a : Nat → Nat} {ac : Nat → ClassId} {n : Nat} {r : St} (C : nd_C p l s m args c A (dC, dI) cX13_sign 2 RX13 ow_dm_X13_sign (dk_X13 ac)) (K : nd_Kv p l e (headSpec ow_dm_X13_sign ({ frames := 0, cells := 0, slots := 0, locals := 0 })).room s m args below meth c Q A (dC, dI) cX13_sign (St) (dw_X13 a ac) r) : dj_X13_sign_0 p l e s m args below meth c Q A dC dI a ac (df_X13_sign_0 n) r := by
  obtain ⟨hlt, hx, hb, hml, hown, hts, hN, hA, hK⟩ := id C
  intro v0 s0 H locs ls h hP hD hS hl
  unfold df_X13_sign_0 at h
  refine lv_aload_n hx hb dX13_sign_0 rfl (lv_at hl 0 rfl) ?_
  refine va_get (D := (dC, dI)) (ci := 14) (v := .ref (a 10)) (C := RX13) (T := TX13) (N := 37) hx hb hts hi_dm_X13_sign_X13 hown hK hP 0 rfl rfl 34 (by decide) (hts (.fieldLink RX13 344 "TimeMachineModel$Assembler" "pile" "[I") (List.mem_of_getElem? (i := 1) rfl)) (fun _ h9 => h9) rfl dX13_sign_1 ?_
  refine lv_aload_n hx hb dX13_sign_4 rfl (lv_at hl 0 rfl) ?_
  refine va_get (D := (dC, dI)) (ci := 14) (v := .int (sI s0 24)) (C := RX13) (T := TX13) (N := 37) hx hb hts hi_dm_X13_sign_X13 hown hK hP 0 rfl rfl 35 (by decide) (hts (.fieldLink RX13 464 "TimeMachineModel$Assembler" "signs" "I") (List.mem_of_getElem? (i := 2) rfl)) (fun _ h9 => h9) rfl dX13_sign_5 ?_
  refine lv_iload_n hx hb dX13_sign_8 rfl (lv_at hl 1 rfl) ?_
  obtain ⟨i1, h⟩ := nd_ck_e h
  refine va_iast (i := (sI s0 24)) (x := v0) hx hb hK hP hD hS 10 9 rfl rfl i1 dX13_sign_9 (fun H locs hP hD hS => ?_)
  obtain ⟨s2, es2, h⟩ := nd_let_e h
  have hP : va_P (dC, dI) vwCl (dw_X13 a ac s2) H := by rw [es2]; exact hP
  have hD : va_D A (dw_X13 a ac s2) := by rw [es2]; exact hD
  refine lv_aload_n hx hb dX13_sign_10 rfl (lv_at hl 0 rfl) ?_
  refine lv_dup hx hb dX13_sign_11 rfl ?_
  refine va_get (D := (dC, dI)) (ci := 14) (v := .int (sI s2 24)) (C := RX13) (T := TX13) (N := 37) hx hb hts hi_dm_X13_sign_X13 hown hK hP 0 rfl rfl 35 (by decide) (hts (.fieldLink RX13 464 "TimeMachineModel$Assembler" "signs" "I") (List.mem_of_getElem? (i := 2) rfl)) (fun _ h9 => h9) rfl dX13_sign_12 ?_
  refine lv_iconst (v := 1) hx hb dX13_sign_15 (by decide) ?_
  refine lv_iadd hx hb dX13_sign_16 ?_
  refine va_put (D := (dC, dI)) (ci := 14) (v := .int ((sI s2 24) + 1)) (ty := .int) (C := RX13) (T := TX13) (N := 37) hx hb hts hi_dm_X13_sign_X13 tyX13 tyX13_ok nmX13 hown hK hP hD hS 0 rfl rfl 35 (by decide) (hts (.fieldLink RX13 464 "TimeMachineModel$Assembler" "signs" "I") (List.mem_of_getElem? (i := 2) rfl)) (fun _ h9 => h9) rfl (by decide +kernel) rfl rfl (Nat.le_of_ble_eq_true rfl) dX13_sign_17 (fun H locs hP hD hS => ?_)
  obtain ⟨s3, es3, h⟩ := nd_let_e h
  have hP : va_P (dC, dI) vwCl (dw_X13 a ac s3) H := by rw [es3]; exact hP
  have hD : va_D A (dw_X13 a ac s3) := by rw [es3]; exact hD
  exact K _ _ _ _ _ dX13_sign_20 (Option.some.inj h).symm hP hD hS
set_option maxHeartbeats 40000000 in
set_option maxRecDepth 100000 in
theorem dm_X13_sign (l : Launch) (hlt : l.stackTraces = false) (dC : Nat → ClassId) (dI : Nat → Nat → Nat) (a : Nat → Nat) (ac : Nat → ClassId) (n : Nat) (v0 : Int32) (s0 : St) {r : St} (h : df_X13_sign n v0 s0 = some r) (sz : Nat) : Met l yX13_sign ow_dm_X13_sign ({ frames := 0, cells := 0, slots := 0, locals := 0 }) (va_Pc [.ref (a 0), .int v0] (fun U => U.heap.size = sz ∧ va_P (dC, dI) vwCl (dw_X13 a ac s0) U.heap ∧ va_K (dC, dI) vwCl (dk_X13 ac) U ∧ va_D (fun _ => True) (dw_X13 a ac s0) ∧ nv_E (va_A (dw_X13 a ac s0) sz) U)) (va_Qv (fun _ => True) (fun (_ : Unit) t => va_P (dC, dI) vwCl (dw_X13 a ac r) t.heap ∧ va_K (dC, dI) vwCl (dk_X13 ac) t ∧ va_D (va_A (dw_X13 a ac s0) sz) (dw_X13 a ac r)) (va_A (dw_X13 a ac s0) sz)) 0 0 (va_A (dw_X13 a ac s0) sz) := by
  refine Met.ofW (cc := cX13_sign) (maxL := 2) (ret := none) (by decide) rfl ?_
  intro p e s m args below meth c s₁ B hml hv
  obtain ⟨rfl, hsz, hP, hK, hD0, hN⟩ := hv
  have hx := B.exec
  have hb := B.bytes
  have hr := B.returns
  have hts := atoms_spec (ws := ow_dm_X13_sign) B.pre
  have hown : s.vm.findClass RX13 = some m.cls := findClass_of_methodNamed B.named
  have hlocks := B.notSynchronized
  subst hsz
  have hD := hD0.self (sz := s.heap.size)
  generalize hAe : va_A (dw_X13 a ac s0) s.heap.size = A at hD hN ⊢
  have hA : ∀ q : Nat, s.heap.size ≤ q → A q := fun q h => by rw [← hAe]; exact Or.inr h
  have hl := lv_entry ([.ref (a 0), .int v0]) (n := 2) (Nat.le_of_ble_eq_true rfl)
  rw [lg_entry_eq]
  generalize (lg_sl ([.ref (a 0), .int v0]) ++ List.replicate (2 - (lg_sl ([.ref (a 0), .int v0])).length) Slot.unset).toArray = ls at hl ⊢
  have hl : lv_has ls 2 [(0, .ref (a 0)), (1, .int v0)] := hl
  exact db_X13_sign_0 (dC := dC) (dI := dI) (a := a) (ac := ac) (n := n) (r := r) ⟨hlt, hx, hb, hml, hown, hts, hN, hA, hK⟩ (fun pc τ H locs ls d er hP hD hS => by subst er; exact W.vret hx hb hr (fun t ht hW => ⟨⟨(), rfl, trivial, by rw [ht]; exact hP, va_K.moved hW.alike hK, hD⟩, hS.F ht⟩) hS.2.2 d) v0 s0 _ _ _ h hP hD va_S.rf (lv_sub hl [0, 1] rfl)
def ow_dm_X13_value : List Cond := .code yX13_value cX13_value 2 none :: ([.fieldLink RX13 467 "TimeMachineModel$Assembler" "values" "I", .fieldLink RX13 344 "TimeMachineModel$Assembler" "pile" "[I"] ++ (u_ws RX13 TX13 37 ++ []))
theorem gd_dm_X13_value : ∀ w ∈ ow_dm_X13_value, (w.onTables && w.keeps) = true ∨ ∃ ty, w = Cond.arrayClass ty := List.forall_mem_cons.mpr ⟨good_of_word rfl, List.forall_mem_append.mpr ⟨fun w h => good_of_word (List.all_eq_true.mp (by decide +kernel) w h), List.forall_mem_append.mpr ⟨gu_X13, fun _ h => nomatch h⟩⟩⟩
theorem hi_dm_X13_value_X13 : ∀ w ∈ u_ws RX13 TX13 37, w ∈ ow_dm_X13_value := fun w h => List.mem_cons_of_mem _ (List.mem_append_right _ (List.mem_append_left _ h))
def dj_X13_value_0 (p : Program) (l : Launch) (e : Env) (s : State) (m : MethodId) (args : Array Value) (below : List Frame) (meth : Method) (c : Code) (Q : State → Prop) (A : Nat → Prop) (dC : Nat → ClassId) (dI : Nat → Nat → Nat) (a : Nat → Nat) (ac : Nat → ClassId) (g : Int32 → (St) → Option (St)) (r : St) : Prop := ∀ (v0 : Int32) (s0 : St) (H : Heap) (locs : List Loc) (ls : Array Slot), g v0 s0 = some r → va_P (dC, dI) vwCl (dw_X13 a ac s0) H → va_D A (dw_X13 a ac s0) → va_S A s.heap H locs → lv_has ls 2 [(0, .ref (a 0)), (1, .int v0)] → W p l e (headSpec ow_dm_X13_value ({ frames := 0, cells := 0, slots := 0, locals := 0 })).room s m args below meth c H locs 0 0 Q (F0 m 0 ls [])
set_option maxHeartbeats 40000000 in
set_option maxRecDepth 100000 in
theorem db_X13_value_0 {p : Program} {l : Launch} {e : Env} {s : State} {m : MethodId} {args : Array Value} {below : List Frame} {meth : Method} {c : Code} {Q : State → Prop} {A : Nat → Prop} {dC : Nat → ClassId} {dI : Nat → Nat → Nat} {a : Nat → Nat} {ac : Nat → ClassId} {n : Nat} {r : St} (C : nd_C p l s m args c A (dC, dI) cX13_value 2 RX13 ow_dm_X13_value (dk_X13 ac)) (K : nd_Kv p l e (headSpec ow_dm_X13_value ({ frames := 0, cells := 0, slots := 0, locals := 0 })).room s m args below meth c Q A (dC, dI) cX13_value (St) (dw_X13 a ac) r) : dj_X13_value_0 p l e s m args below meth c Q A dC dI a ac (df_X13_value_0 n) r := by
  obtain ⟨hlt, hx, hb, hml, hown, hts, hN, hA, hK⟩ := id C
  intro v0 s0 H locs ls h hP hD hS hl
  unfold df_X13_value_0 at h
  refine lv_aload_n hx hb dX13_value_0 rfl (lv_at hl 0 rfl) ?_
  refine lv_dup hx hb dX13_value_1 rfl ?_
  refine va_get (D := (dC, dI)) (ci := 14) (v := .int (sI s0 25)) (C := RX13) (T := TX13) (N := 37) hx hb hts hi_dm_X13_value_X13 hown hK hP 0 rfl rfl 36 (by decide) (hts (.fieldLink RX13 467 "TimeMachineModel$Assembler" "values" "I") (List.mem_of_getElem? (i := 1) rfl)) (fun _ h9 => h9) rfl dX13_value_2 ?_
  refine lv_iconst (v := 1) hx hb dX13_value_5 (by decide) ?_
  refine lv_isub hx hb dX13_value_6 ?_
  refine va_put (D := (dC, dI)) (ci := 14) (v := .int ((sI s0 25) - 1)) (ty := .int) (C := RX13) (T := TX13) (N := 37) hx hb hts hi_dm_X13_value_X13 tyX13 tyX13_ok nmX13 hown hK hP hD hS 0 rfl rfl 36 (by decide) (hts (.fieldLink RX13 467 "TimeMachineModel$Assembler" "values" "I") (List.mem_of_getElem? (i := 1) rfl)) (fun _ h9 => h9) rfl (by decide +kernel) rfl rfl (Nat.le_of_ble_eq_true rfl) dX13_value_7 (fun H locs hP hD hS => ?_)
  obtain ⟨s1, es1, h⟩ := nd_let_e h
  have hP : va_P (dC, dI) vwCl (dw_X13 a ac s1) H := by rw [es1]; exact hP
  have hD : va_D A (dw_X13 a ac s1) := by rw [es1]; exact hD
  refine lv_aload_n hx hb dX13_value_10 rfl (lv_at hl 0 rfl) ?_
  refine va_get (D := (dC, dI)) (ci := 14) (v := .ref (a 10)) (C := RX13) (T := TX13) (N := 37) hx hb hts hi_dm_X13_value_X13 hown hK hP 0 rfl rfl 34 (by decide) (hts (.fieldLink RX13 344 "TimeMachineModel$Assembler" "pile" "[I") (List.mem_of_getElem? (i := 2) rfl)) (fun _ h9 => h9) rfl dX13_value_11 ?_
  refine lv_aload_n hx hb dX13_value_14 rfl (lv_at hl 0 rfl) ?_
  refine va_get (D := (dC, dI)) (ci := 14) (v := .int (sI s1 25)) (C := RX13) (T := TX13) (N := 37) hx hb hts hi_dm_X13_value_X13 hown hK hP 0 rfl rfl 36 (by decide) (hts (.fieldLink RX13 467 "TimeMachineModel$Assembler" "values" "I") (List.mem_of_getElem? (i := 1) rfl)) (fun _ h9 => h9) rfl dX13_value_15 ?_
  refine lv_iload_n hx hb dX13_value_18 rfl (lv_at hl 1 rfl) ?_
  obtain ⟨i2, h⟩ := nd_ck_e h
  refine va_iast (i := (sI s1 25)) (x := v0) hx hb hK hP hD hS 10 9 rfl rfl i2 dX13_value_19 (fun H locs hP hD hS => ?_)
  obtain ⟨s3, es3, h⟩ := nd_let_e h
  have hP : va_P (dC, dI) vwCl (dw_X13 a ac s3) H := by rw [es3]; exact hP
  have hD : va_D A (dw_X13 a ac s3) := by rw [es3]; exact hD
  exact K _ _ _ _ _ dX13_value_20 (Option.some.inj h).symm hP hD hS
set_option maxHeartbeats 40000000 in
set_option maxRecDepth 100000 in
theorem dm_X13_value (l : Launch) (hlt : l.stackTraces = false) (dC : Nat → ClassId) (dI : Nat → Nat → Nat) (a : Nat → Nat) (ac : Nat → ClassId) (n : Nat) (v0 : Int32) (s0 : St) {r : St} (h : df_X13_value n v0 s0 = some r) (sz : Nat) : Met l yX13_value ow_dm_X13_value ({ frames := 0, cells := 0, slots := 0, locals := 0 }) (va_Pc [.ref (a 0), .int v0] (fun U => U.heap.size = sz ∧ va_P (dC, dI) vwCl (dw_X13 a ac s0) U.heap ∧ va_K (dC, dI) vwCl (dk_X13 ac) U ∧ va_D (fun _ => True) (dw_X13 a ac s0) ∧ nv_E (va_A (dw_X13 a ac s0) sz) U)) (va_Qv (fun _ => True) (fun (_ : Unit) t => va_P (dC, dI) vwCl (dw_X13 a ac r) t.heap ∧ va_K (dC, dI) vwCl (dk_X13 ac) t ∧ va_D (va_A (dw_X13 a ac s0) sz) (dw_X13 a ac r)) (va_A (dw_X13 a ac s0) sz)) 0 0 (va_A (dw_X13 a ac s0) sz) := by
  refine Met.ofW (cc := cX13_value) (maxL := 2) (ret := none) (by decide) rfl ?_
  intro p e s m args below meth c s₁ B hml hv
  obtain ⟨rfl, hsz, hP, hK, hD0, hN⟩ := hv
  have hx := B.exec
  have hb := B.bytes
  have hr := B.returns
  have hts := atoms_spec (ws := ow_dm_X13_value) B.pre
  have hown : s.vm.findClass RX13 = some m.cls := findClass_of_methodNamed B.named
  have hlocks := B.notSynchronized
  subst hsz
  have hD := hD0.self (sz := s.heap.size)
  generalize hAe : va_A (dw_X13 a ac s0) s.heap.size = A at hD hN ⊢
  have hA : ∀ q : Nat, s.heap.size ≤ q → A q := fun q h => by rw [← hAe]; exact Or.inr h
  have hl := lv_entry ([.ref (a 0), .int v0]) (n := 2) (Nat.le_of_ble_eq_true rfl)
  rw [lg_entry_eq]
  generalize (lg_sl ([.ref (a 0), .int v0]) ++ List.replicate (2 - (lg_sl ([.ref (a 0), .int v0])).length) Slot.unset).toArray = ls at hl ⊢
  have hl : lv_has ls 2 [(0, .ref (a 0)), (1, .int v0)] := hl
  exact db_X13_value_0 (dC := dC) (dI := dI) (a := a) (ac := ac) (n := n) (r := r) ⟨hlt, hx, hb, hml, hown, hts, hN, hA, hK⟩ (fun pc τ H locs ls d er hP hD hS => by subst er; exact W.vret hx hb hr (fun t ht hW => ⟨⟨(), rfl, trivial, by rw [ht]; exact hP, va_K.moved hW.alike hK, hD⟩, hS.F ht⟩) hS.2.2 d) v0 s0 _ _ _ h hP hD va_S.rf (lv_sub hl [0, 1] rfl)
def ow_dm_X13_rank : List Cond := .code yX13_rank cX13_rank 1 (some .int) :: ([] ++ [])
theorem gd_dm_X13_rank : ∀ w ∈ ow_dm_X13_rank, (w.onTables && w.keeps) = true ∨ ∃ ty, w = Cond.arrayClass ty := List.forall_mem_cons.mpr ⟨good_of_word rfl, List.forall_mem_append.mpr ⟨fun w h => good_of_word (List.all_eq_true.mp (by decide +kernel) w h), fun _ h => nomatch h⟩⟩
def dj_X13_rank_86 (p : Program) (l : Launch) (e : Env) (s : State) (m : MethodId) (args : Array Value) (below : List Frame) (meth : Method) (c : Code) (Q : State → Prop) (A : Nat → Prop) (dC : Nat → ClassId) (dI : Nat → Nat → Nat) (a : Nat → Nat) (ac : Nat → ClassId) (g : Int32 → (Unit) → Option (Int32 × (Unit))) (r : Int32 × (Unit)) : Prop := ∀ (y0 : Int32) (s0 : Unit) (H : Heap) (locs : List Loc) (ls : Array Slot), g y0 s0 = some r → va_P (dC, dI) vwCl (dw_P a ac s0) H → va_D A (dw_P a ac s0) → va_S A s.heap H locs → lv_has ls 1 [] → W p l e (headSpec ow_dm_X13_rank ({ frames := 0, cells := 0, slots := 0, locals := 0 })).room s m args below meth c H locs 0 0 Q (F0 m 86 ls [.int y0])
def dj_X13_rank_18 (p : Program) (l : Launch) (e : Env) (s : State) (m : MethodId) (args : Array Value) (below : List Frame) (meth : Method) (c : Code) (Q : State → Prop) (A : Nat → Prop) (dC : Nat → ClassId) (dI : Nat → Nat → Nat) (a : Nat → Nat) (ac : Nat → ClassId) (g : (Unit) → Option (Int32 × (Unit))) (r : Int32 × (Unit)) : Prop := ∀ (s0 : Unit) (H : Heap) (locs : List Loc) (ls : Array Slot), g s0 = some r → va_P (dC, dI) vwCl (dw_P a ac s0) H → va_D A (dw_P a ac s0) → va_S A s.heap H locs → lv_has ls 1 [] → W p l e (headSpec ow_dm_X13_rank ({ frames := 0, cells := 0, slots := 0, locals := 0 })).room s m args below meth c H locs 0 0 Q (F0 m 18 ls [])
def dj_X13_rank_35 (p : Program) (l : Launch) (e : Env) (s : State) (m : MethodId) (args : Array Value) (below : List Frame) (meth : Method) (c : Code) (Q : State → Prop) (A : Nat → Prop) (dC : Nat → ClassId) (dI : Nat → Nat → Nat) (a : Nat → Nat) (ac : Nat → ClassId) (g : (Unit) → Option (Int32 × (Unit))) (r : Int32 × (Unit)) : Prop := ∀ (s0 : Unit) (H : Heap) (locs : List Loc) (ls : Array Slot), g s0 = some r → va_P (dC, dI) vwCl (dw_P a ac s0) H → va_D A (dw_P a ac s0) → va_S A s.heap H locs → lv_has ls 1 [] → W p l e (headSpec ow_dm_X13_rank ({ frames := 0, cells := 0, slots := 0, locals := 0 })).room s m args below meth c H locs 0 0 Q (F0 m 35 ls [])
def dj_X13_rank_51 (p : Program) (l : Launch) (e : Env) (s : State) (m : MethodId) (args : Array Value) (below : List Frame) (meth : Method) (c : Code) (Q : State → Prop) (A : Nat → Prop) (dC : Nat → ClassId) (dI : Nat → Nat → Nat) (a : Nat → Nat) (ac : Nat → ClassId) (g : (Unit) → Option (Int32 × (Unit))) (r : Int32 × (Unit)) : Prop := ∀ (s0 : Unit) (H : Heap) (locs : List Loc) (ls : Array Slot), g s0 = some r → va_P (dC, dI) vwCl (dw_P a ac s0) H → va_D A (dw_P a ac s0) → va_S A s.heap H locs → lv_has ls 1 [] → W p l e (headSpec ow_dm_X13_rank ({ frames := 0, cells := 0, slots := 0, locals := 0 })).room s m args below meth c H locs 0 0 Q (F0 m 51 ls [])
def dj_X13_rank_0 (p : Program) (l : Launch) (e : Env) (s : State) (m : MethodId) (args : Array Value) (below : List Frame) (meth : Method) (c : Code) (Q : State → Prop) (A : Nat → Prop) (dC : Nat → ClassId) (dI : Nat → Nat → Nat) (a : Nat → Nat) (ac : Nat → ClassId) (g : Int32 → (Unit) → Option (Int32 × (Unit))) (r : Int32 × (Unit)) : Prop := ∀ (v0 : Int32) (s0 : Unit) (H : Heap) (locs : List Loc) (ls : Array Slot), g v0 s0 = some r → va_P (dC, dI) vwCl (dw_P a ac s0) H → va_D A (dw_P a ac s0) → va_S A s.heap H locs → lv_has ls 1 [(0, .int v0)] → W p l e (headSpec ow_dm_X13_rank ({ frames := 0, cells := 0, slots := 0, locals := 0 })).room s m args below meth c H locs 0 0 Q (F0 m 0 ls [])
set_option maxHeartbeats 40000000 in
set_option maxRecDepth 100000 in
theorem db_X13_rank_86 {p : Program} {l : Launch} {e : Env} {s : State} {m : MethodId} {args : Array Value} {below : List Frame} {meth : Method} {c : Code} {Q : State → Prop} {A : Nat → Prop} {dC : Nat → ClassId} {dI : Nat → Nat → Nat} {a : Nat → Nat} {ac : Nat → ClassId} {n : Nat} {r : Int32 × (Unit)} (C : nd_C p l s m args c A (dC, dI) cX13_rank 1 RX13 ow_dm_X13_rank (dk_P ac)) (K : nd_Ki p l e (headSpec ow_dm_X13_rank ({ frames := 0, cells := 0, slots := 0, locals := 0 })).room s m args below meth c Q A (dC, dI) cX13_rank .int (Unit) (dw_P a ac) r) : dj_X13_rank_86 p l e s m args below meth c Q A dC dI a ac (df_X13_rank_86 n) r := by
  obtain ⟨hlt, hx, hb, hml, hown, hts, hN, hA, hK⟩ := id C
  intro y0 s0 H locs ls h hP hD hS hl
  unfold df_X13_rank_86 at h
  exact K _ _ _ _ _ _ dX13_rank_86 rfl (Option.some.inj h).symm hP hD hS
set_option maxHeartbeats 40000000 in
set_option maxRecDepth 100000 in
theorem db_X13_rank_18 {p : Program} {l : Launch} {e : Env} {s : State} {m : MethodId} {args : Array Value} {below : List Frame} {meth : Method} {c : Code} {Q : State → Prop} {A : Nat → Prop} {dC : Nat → ClassId} {dI : Nat → Nat → Nat} {a : Nat → Nat} {ac : Nat → ClassId} {n : Nat} {r : Int32 × (Unit)} (C : nd_C p l s m args c A (dC, dI) cX13_rank 1 RX13 ow_dm_X13_rank (dk_P ac)) (K : nd_Ki p l e (headSpec ow_dm_X13_rank ({ frames := 0, cells := 0, slots := 0, locals := 0 })).room s m args below meth c Q A (dC, dI) cX13_rank .int (Unit) (dw_P a ac) r) : dj_X13_rank_18 p l e s m args below meth c Q A dC dI a ac (df_X13_rank_18 n) r := by
  obtain ⟨hlt, hx, hb, hml, hown, hts, hN, hA, hK⟩ := id C
  intro s0 H locs ls h hP hD hS hl
  unfold df_X13_rank_18 at h
  refine lv_bipush (v := 6) hx hb dX13_rank_18 (by decide) ?_
  refine lv_goto (tgt := 86) hx hb dX13_rank_20 (by decide) ?_
  exact (db_X13_rank_86 C K) (6) s0 _ _ _ h hP hD hS (lv_sub hl [] rfl)
set_option maxHeartbeats 40000000 in
set_option maxRecDepth 100000 in
theorem db_X13_rank_35 {p : Program} {l : Launch} {e : Env} {s : State} {m : MethodId} {args : Array Value} {below : List Frame} {meth : Method} {c : Code} {Q : State → Prop} {A : Nat → Prop} {dC : Nat → ClassId} {dI : Nat → Nat → Nat} {a : Nat → Nat} {ac : Nat → ClassId} {n : Nat} {r : Int32 × (Unit)} (C : nd_C p l s m args c A (dC, dI) cX13_rank 1 RX13 ow_dm_X13_rank (dk_P ac)) (K : nd_Ki p l e (headSpec ow_dm_X13_rank ({ frames := 0, cells := 0, slots := 0, locals := 0 })).room s m args below meth c Q A (dC, dI) cX13_rank .int (Unit) (dw_P a ac) r) : dj_X13_rank_35 p l e s m args below meth c Q A dC dI a ac (df_X13_rank_35 n) r := by
  obtain ⟨hlt, hx, hb, hml, hown, hts, hN, hA, hK⟩ := id C
  intro s0 H locs ls h hP hD hS hl
  unfold df_X13_rank_35 at h
  refine lv_iconst (v := 5) hx hb dX13_rank_35 (by decide) ?_
  refine lv_goto (tgt := 86) hx hb dX13_rank_36 (by decide) ?_
  exact (db_X13_rank_86 C K) (5) s0 _ _ _ h hP hD hS (lv_sub hl [] rfl)
set_option maxHeartbeats 40000000 in
set_option maxRecDepth 100000 in
theorem db_X13_rank_51 {p : Program} {l : Launch} {e : Env} {s : State} {m : MethodId} {args : Array Value} {below : List Frame} {meth : Method} {c : Code} {Q : State → Prop} {A : Nat → Prop} {dC : Nat → ClassId} {dI : Nat → Nat → Nat} {a : Nat → Nat} {ac : Nat → ClassId} {n : Nat} {r : Int32 × (Unit)} (C : nd_C p l s m args c A (dC, dI) cX13_rank 1 RX13 ow_dm_X13_rank (dk_P ac)) (K : nd_Ki p l e (headSpec ow_dm_X13_rank ({ frames := 0, cells := 0, slots := 0, locals := 0 })).room s m args below meth c Q A (dC, dI) cX13_rank .int (Unit) (dw_P a ac) r) : dj_X13_rank_51 p l e s m args below meth c Q A dC dI a ac (df_X13_rank_51 n) r := by
  obtain ⟨hlt, hx, hb, hml, hown, hts, hN, hA, hK⟩ := id C
  intro s0 H locs ls h hP hD hS hl
  unfold df_X13_rank_51 at h
  refine lv_iconst (v := 4) hx hb dX13_rank_51 (by decide) ?_
  refine lv_goto (tgt := 86) hx hb dX13_rank_52 (by decide) ?_
  exact (db_X13_rank_86 C K) (4) s0 _ _ _ h hP hD hS (lv_sub hl [] rfl)
set_option maxHeartbeats 40000000 in
set_option maxRecDepth 100000 in
theorem db_X13_rank_0 {p : Program} {l : Launch} {e : Env} {s : State} {m : MethodId} {args : Array Value} {below : List Frame} {meth : Method} {c : Code} {Q : State → Prop} {A : Nat → Prop} {dC : Nat → ClassId} {dI : Nat → Nat → Nat} {a : Nat → Nat} {ac : Nat → ClassId} {n : Nat} {r : Int32 × (Unit)} (C : nd_C p l s m args c A (dC, dI) cX13_rank 1 RX13 ow_dm_X13_rank (dk_P ac)) (K : nd_Ki p l e (headSpec ow_dm_X13_rank ({ frames := 0, cells := 0, slots := 0, locals := 0 })).room s m args below meth c Q A (dC, dI) cX13_rank .int (Unit) (dw_P a ac) r) : dj_X13_rank_0 p l e s m args below meth c Q A dC dI a ac (df_X13_rank_0 n) r := by
  obtain ⟨hlt, hx, hb, hml, hown, hts, hN, hA, hK⟩ := id C
  intro v0 s0 H locs ls h hP hD hS hl
  unfold df_X13_rank_0 at h
  refine lv_iload_n hx hb dX13_rank_0 rfl (lv_at hl 0 rfl) ?_
  refine lv_bipush (v := 42) hx hb dX13_rank_1 (by decide) ?_
  refine lv_icmp_eq (tgt := 18) hx hb dX13_rank_3 (by decide) (fun c1 => ?_) (fun c1 => ?_)
  · have h := nd_pos h c1
    exact (db_X13_rank_18 C K)  s0 _ _ _ h hP hD hS (lv_sub hl [] rfl)
  · have h := nd_neg h c1
    refine lv_iload_n hx hb dX13_rank_6 rfl (lv_at hl 0 rfl) ?_
    refine lv_bipush (v := 47) hx hb dX13_rank_7 (by decide) ?_
    refine lv_icmp_eq (tgt := 18) hx hb dX13_rank_9 (by decide) (fun c2 => ?_) (fun c2 => ?_)
    · have h := nd_pos h c2
      exact (db_X13_rank_18 C K)  s0 _ _ _ h hP hD hS (lv_sub hl [] rfl)
    · have h := nd_neg h c2
      refine lv_iload_n hx hb dX13_rank_12 rfl (lv_at hl 0 rfl) ?_
      refine lv_bipush (v := 37) hx hb dX13_rank_13 (by decide) ?_
      refine lv_icmp_ne (tgt := 23) hx hb dX13_rank_15 (by decide) (fun c3 => ?_) (fun c3 => ?_)
      · have h := nd_neg h c3
        refine lv_iload_n hx hb dX13_rank_23 rfl (lv_at hl 0 rfl) ?_
        refine lv_bipush (v := 43) hx hb dX13_rank_24 (by decide) ?_
        refine lv_icmp_eq (tgt := 35) hx hb dX13_rank_26 (by decide) (fun c4 => ?_) (fun c4 => ?_)
        · have h := nd_pos h c4
          exact (db_X13_rank_35 C K)  s0 _ _ _ h hP hD hS (lv_sub hl [] rfl)
        · have h := nd_neg h c4
          refine lv_iload_n hx hb dX13_rank_29 rfl (lv_at hl 0 rfl) ?_
          refine lv_bipush (v := 45) hx hb dX13_rank_30 (by decide) ?_
          refine lv_icmp_ne (tgt := 39) hx hb dX13_rank_32 (by decide) (fun c5 => ?_) (fun c5 => ?_)
          · have h := nd_neg h c5
            refine lv_iload_n hx hb dX13_rank_39 rfl (lv_at hl 0 rfl) ?_
            refine lv_bipush (v := 6) hx hb dX13_rank_40 (by decide) ?_
            refine lv_icmp_eq (tgt := 51) hx hb dX13_rank_42 (by decide) (fun c6 => ?_) (fun c6 => ?_)
            · have h := nd_pos h c6
              exact (db_X13_rank_51 C K)  s0 _ _ _ h hP hD hS (lv_sub hl [] rfl)
            · have h := nd_neg h c6
              refine lv_iload_n hx hb dX13_rank_45 rfl (lv_at hl 0 rfl) ?_
              refine lv_bipush (v := 7) hx hb dX13_rank_46 (by decide) ?_
              refine lv_icmp_ne (tgt := 55) hx hb dX13_rank_48 (by decide) (fun c7 => ?_) (fun c7 => ?_)
              · have h := nd_neg h c7
                refine lv_iload_n hx hb dX13_rank_55 rfl (lv_at hl 0 rfl) ?_
                refine lv_bipush (v := 38) hx hb dX13_rank_56 (by decide) ?_
                refine lv_icmp_ne (tgt := 65) hx hb dX13_rank_58 (by decide) (fun c8 => ?_) (fun c8 => ?_)
                · have h := nd_neg h c8
                  refine lv_iload_n hx hb dX13_rank_65 rfl (lv_at hl 0 rfl) ?_
                  refine lv_bipush (v := 94) hx hb dX13_rank_66 (by decide) ?_
                  refine lv_icmp_ne (tgt := 75) hx hb dX13_rank_68 (by decide) (fun c9 => ?_) (fun c9 => ?_)
                  · have h := nd_neg h c9
                    refine lv_iload_n hx hb dX13_rank_75 rfl (lv_at hl 0 rfl) ?_
                    refine lv_bipush (v := 124) hx hb dX13_rank_76 (by decide) ?_
                    refine lv_icmp_ne (tgt := 85) hx hb dX13_rank_78 (by decide) (fun c10 => ?_) (fun c10 => ?_)
                    · have h := nd_neg h c10
                      refine lv_iconst (v := 0) hx hb dX13_rank_85 (by decide) ?_
                      exact (db_X13_rank_86 C K) (0) s0 _ _ _ h hP hD hS (lv_sub hl [] rfl)
                    · have h := nd_pos h c10
                      refine lv_iconst (v := 1) hx hb dX13_rank_81 (by decide) ?_
                      refine lv_goto (tgt := 86) hx hb dX13_rank_82 (by decide) ?_
                      exact (db_X13_rank_86 C K) (1) s0 _ _ _ h hP hD hS (lv_sub hl [] rfl)
                  · have h := nd_pos h c9
                    refine lv_iconst (v := 2) hx hb dX13_rank_71 (by decide) ?_
                    refine lv_goto (tgt := 86) hx hb dX13_rank_72 (by decide) ?_
                    exact (db_X13_rank_86 C K) (2) s0 _ _ _ h hP hD hS (lv_sub hl [] rfl)
                · have h := nd_pos h c8
                  refine lv_iconst (v := 3) hx hb dX13_rank_61 (by decide) ?_
                  refine lv_goto (tgt := 86) hx hb dX13_rank_62 (by decide) ?_
                  exact (db_X13_rank_86 C K) (3) s0 _ _ _ h hP hD hS (lv_sub hl [] rfl)
              · have h := nd_pos h c7
                exact (db_X13_rank_51 C K)  s0 _ _ _ h hP hD hS (lv_sub hl [] rfl)
          · have h := nd_pos h c5
            exact (db_X13_rank_35 C K)  s0 _ _ _ h hP hD hS (lv_sub hl [] rfl)
      · have h := nd_pos h c3
        exact (db_X13_rank_18 C K)  s0 _ _ _ h hP hD hS (lv_sub hl [] rfl)
set_option maxHeartbeats 40000000 in
set_option maxRecDepth 100000 in
theorem dm_X13_rank (l : Launch) (hlt : l.stackTraces = false) (dC : Nat → ClassId) (dI : Nat → Nat → Nat) (a : Nat → Nat) (ac : Nat → ClassId) (n : Nat) (v0 : Int32) (s0 : Unit) {r : Int32 × (Unit)} (h : df_X13_rank n v0 s0 = some r) (sz : Nat) : Met l yX13_rank ow_dm_X13_rank ({ frames := 0, cells := 0, slots := 0, locals := 0 }) (va_Pc [.int v0] (fun U => U.heap.size = sz ∧ va_P (dC, dI) vwCl (dw_P a ac s0) U.heap ∧ va_K (dC, dI) vwCl (dk_P ac) U ∧ va_D (fun _ => True) (dw_P a ac s0) ∧ nv_E (va_A (dw_P a ac s0) sz) U)) (va_Qi (fun x _ => x = r.1) (fun (_ : Unit) t => va_P (dC, dI) vwCl (dw_P a ac r.2) t.heap ∧ va_K (dC, dI) vwCl (dk_P ac) t ∧ va_D (va_A (dw_P a ac s0) sz) (dw_P a ac r.2)) (va_A (dw_P a ac s0) sz)) 0 0 (va_A (dw_P a ac s0) sz) := by
  refine Met.ofW (cc := cX13_rank) (maxL := 1) (ret := (some .int)) (by decide) rfl ?_
  intro p e s m args below meth c s₁ B hml hv
  obtain ⟨rfl, hsz, hP, hK, hD0, hN⟩ := hv
  have hx := B.exec
  have hb := B.bytes
  have hr := B.returns
  have hts := atoms_spec (ws := ow_dm_X13_rank) B.pre
  have hown : s.vm.findClass RX13 = some m.cls := findClass_of_methodNamed B.named
  have hlocks := B.notSynchronized
  subst hsz
  have hD := hD0.self (sz := s.heap.size)
  generalize hAe : va_A (dw_P a ac s0) s.heap.size = A at hD hN ⊢
  have hA : ∀ q : Nat, s.heap.size ≤ q → A q := fun q h => by rw [← hAe]; exact Or.inr h
  have hl := lv_entry ([.int v0]) (n := 1) (Nat.le_of_ble_eq_true rfl)
  rw [lg_entry_eq]
  generalize (lg_sl ([.int v0]) ++ List.replicate (1 - (lg_sl ([.int v0])).length) Slot.unset).toArray = ls at hl ⊢
  have hl : lv_has ls 1 [(0, .int v0)] := hl
  exact db_X13_rank_0 (dC := dC) (dI := dI) (a := a) (ac := ac) (n := n) (r := r) ⟨hlt, hx, hb, hml, hown, hts, hN, hA, hK⟩ (fun pc v τ H locs ls d z er hP hD hS => by subst er; exact W.zret (v := v) hx hb hr z (fun t ht hW => ⟨⟨v, (), rfl, rfl, by rw [ht]; exact hP, va_K.moved hW.alike hK, hD⟩, hS.F ht⟩) hS.2.2 d) v0 s0 _ _ _ h hP hD va_S.rf (lv_sub hl [0] rfl)
def ow_dm_X13_worked : List Cond := .code yX13_worked cX13_worked 4 (some .int) :: ([.fieldLink RX13 470 "TimeMachineModel$Assembler" "divided" "Z"] ++ (u_ws RX13 TX13 37 ++ []))
theorem gd_dm_X13_worked : ∀ w ∈ ow_dm_X13_worked, (w.onTables && w.keeps) = true ∨ ∃ ty, w = Cond.arrayClass ty := List.forall_mem_cons.mpr ⟨good_of_word rfl, List.forall_mem_append.mpr ⟨fun w h => good_of_word (List.all_eq_true.mp (by decide +kernel) w h), List.forall_mem_append.mpr ⟨gu_X13, fun _ h => nomatch h⟩⟩⟩
theorem hi_dm_X13_worked_X13 : ∀ w ∈ u_ws RX13 TX13 37, w ∈ ow_dm_X13_worked := fun w h => List.mem_cons_of_mem _ (List.mem_append_right _ (List.mem_append_left _ h))
def dj_X13_worked_157 (p : Program) (l : Launch) (e : Env) (s : State) (m : MethodId) (args : Array Value) (below : List Frame) (meth : Method) (c : Code) (Q : State → Prop) (A : Nat → Prop) (dC : Nat → ClassId) (dI : Nat → Nat → Nat) (a : Nat → Nat) (ac : Nat → ClassId) (g : Int32 → (St) → Option (Int32 × (St))) (r : Int32 × (St)) : Prop := ∀ (y0 : Int32) (s0 : St) (H : Heap) (locs : List Loc) (ls : Array Slot), g y0 s0 = some r → va_P (dC, dI) vwCl (dw_X13 a ac s0) H → va_D A (dw_X13 a ac s0) → va_S A s.heap H locs → lv_has ls 4 [] → W p l e (headSpec ow_dm_X13_worked ({ frames := 0, cells := 0, slots := 0, locals := 0 })).room s m args below meth c H locs 0 0 Q (F0 m 157 ls [.int y0])
def dj_X13_worked_131 (p : Program) (l : Launch) (e : Env) (s : State) (m : MethodId) (args : Array Value) (below : List Frame) (meth : Method) (c : Code) (Q : State → Prop) (A : Nat → Prop) (dC : Nat → ClassId) (dI : Nat → Nat → Nat) (a : Nat → Nat) (ac : Nat → ClassId) (g : Int32 → Int32 → Int32 → Int32 → (St) → Option (Int32 × (St))) (r : Int32 × (St)) : Prop := ∀ (x1 : Int32) (x2 : Int32) (x3 : Int32) (y1 : Int32) (s0 : St) (H : Heap) (locs : List Loc) (ls : Array Slot), g x1 x2 x3 y1 s0 = some r → va_P (dC, dI) vwCl (dw_X13 a ac s0) H → va_D A (dw_X13 a ac s0) → va_S A s.heap H locs → lv_has ls 4 [(1, .int x1), (2, .int x2), (3, .int x3)] → W p l e (headSpec ow_dm_X13_worked ({ frames := 0, cells := 0, slots := 0, locals := 0 })).room s m args below meth c H locs 0 0 Q (F0 m 131 ls [.int y1, .ref (a 0)])
def dj_X13_worked_126 (p : Program) (l : Launch) (e : Env) (s : State) (m : MethodId) (args : Array Value) (below : List Frame) (meth : Method) (c : Code) (Q : State → Prop) (A : Nat → Prop) (dC : Nat → ClassId) (dI : Nat → Nat → Nat) (a : Nat → Nat) (ac : Nat → ClassId) (g : Int32 → Int32 → Int32 → (St) → Option (Int32 × (St))) (r : Int32 × (St)) : Prop := ∀ (x1 : Int32) (x2 : Int32) (x3 : Int32) (s0 : St) (H : Heap) (locs : List Loc) (ls : Array Slot), g x1 x2 x3 s0 = some r → va_P (dC, dI) vwCl (dw_X13 a ac s0) H → va_D A (dw_X13 a ac s0) → va_S A s.heap H locs → lv_has ls 4 [(1, .int x1), (2, .int x2), (3, .int x3)] → W p l e (headSpec ow_dm_X13_worked ({ frames := 0, cells := 0, slots := 0, locals := 0 })).room s m args below meth c H locs 0 0 Q (F0 m 126 ls [.ref (a 0)])
def dj_X13_worked_0 (p : Program) (l : Launch) (e : Env) (s : State) (m : MethodId) (args : Array Value) (below : List Frame) (meth : Method) (c : Code) (Q : State → Prop) (A : Nat → Prop) (dC : Nat → ClassId) (dI : Nat → Nat → Nat) (a : Nat → Nat) (ac : Nat → ClassId) (g : Int32 → Int32 → Int32 → (St) → Option (Int32 × (St))) (r : Int32 × (St)) : Prop := ∀ (v0 : Int32) (v1 : Int32) (v2 : Int32) (s0 : St) (H : Heap) (locs : List Loc) (ls : Array Slot), g v0 v1 v2 s0 = some r → va_P (dC, dI) vwCl (dw_X13 a ac s0) H → va_D A (dw_X13 a ac s0) → va_S A s.heap H locs → lv_has ls 4 [(0, .ref (a 0)), (1, .int v0), (2, .int v1), (3, .int v2)] → W p l e (headSpec ow_dm_X13_worked ({ frames := 0, cells := 0, slots := 0, locals := 0 })).room s m args below meth c H locs 0 0 Q (F0 m 0 ls [])
set_option maxHeartbeats 40000000 in
set_option maxRecDepth 100000 in
theorem db_X13_worked_157 {p : Program} {l : Launch} {e : Env} {s : State} {m : MethodId} {args : Array Value} {below : List Frame} {meth : Method} {c : Code} {Q : State → Prop} {A : Nat → Prop} {dC : Nat → ClassId} {dI : Nat → Nat → Nat} {a : Nat → Nat} {ac : Nat → ClassId} {n : Nat} {r : Int32 × (St)} (C : nd_C p l s m args c A (dC, dI) cX13_worked 4 RX13 ow_dm_X13_worked (dk_X13 ac)) (K : nd_Ki p l e (headSpec ow_dm_X13_worked ({ frames := 0, cells := 0, slots := 0, locals := 0 })).room s m args below meth c Q A (dC, dI) cX13_worked .int (St) (dw_X13 a ac) r) : dj_X13_worked_157 p l e s m args below meth c Q A dC dI a ac (df_X13_worked_157 n) r := by
  obtain ⟨hlt, hx, hb, hml, hown, hts, hN, hA, hK⟩ := id C
  intro y0 s0 H locs ls h hP hD hS hl
  unfold df_X13_worked_157 at h
  exact K _ _ _ _ _ _ dX13_worked_157 rfl (Option.some.inj h).symm hP hD hS
set_option maxHeartbeats 40000000 in
set_option maxRecDepth 100000 in
theorem db_X13_worked_131 {p : Program} {l : Launch} {e : Env} {s : State} {m : MethodId} {args : Array Value} {below : List Frame} {meth : Method} {c : Code} {Q : State → Prop} {A : Nat → Prop} {dC : Nat → ClassId} {dI : Nat → Nat → Nat} {a : Nat → Nat} {ac : Nat → ClassId} {n : Nat} {r : Int32 × (St)} (C : nd_C p l s m args c A (dC, dI) cX13_worked 4 RX13 ow_dm_X13_worked (dk_X13 ac)) (K : nd_Ki p l e (headSpec ow_dm_X13_worked ({ frames := 0, cells := 0, slots := 0, locals := 0 })).room s m args below meth c Q A (dC, dI) cX13_worked .int (St) (dw_X13 a ac) r) : dj_X13_worked_131 p l e s m args below meth c Q A dC dI a ac (df_X13_worked_131 n) r := by
  obtain ⟨hlt, hx, hb, hml, hown, hts, hN, hA, hK⟩ := id C
  intro x1 x2 x3 y1 s0 H locs ls h hP hD hS hl
  unfold df_X13_worked_131 at h
  obtain ⟨n10, h⟩ := nd_f_e h
  obtain ⟨n11, h⟩ := nd_z_e ⟨_, rfl⟩ h
  refine va_put (D := (dC, dI)) (ci := 14) (v := .int y1) (ty := .boolean) (C := RX13) (T := TX13) (N := 37) hx hb hts hi_dm_X13_worked_X13 tyX13 tyX13_ok nmX13 hown hK hP hD hS 0 rfl rfl 32 (by decide) (hts (.fieldLink RX13 470 "TimeMachineModel$Assembler" "divided" "Z") (List.mem_of_getElem? (i := 1) rfl)) (fun _ h9 => h9) rfl (by decide +kernel) n11 n10 (Nat.le_of_ble_eq_true rfl) dX13_worked_131 (fun H locs hP hD hS => ?_)
  obtain ⟨s12, es12, h⟩ := nd_let_e h
  have hP : va_P (dC, dI) vwCl (dw_X13 a ac s12) H := by rw [es12]; exact hP
  have hD : va_D A (dw_X13 a ac s12) := by rw [es12]; exact hD
  refine lv_iload_n hx hb dX13_worked_134 rfl (lv_at hl 2 rfl) ?_
  refine lv_if_ne (tgt := 142) hx hb dX13_worked_135 (by decide) (fun c13 => ?_) (fun c13 => ?_)
  · have h := nd_neg h c13
    refine lv_iload_n hx hb dX13_worked_142 rfl (lv_at hl 0 rfl) ?_
    refine lv_bipush (v := 47) hx hb dX13_worked_143 (by decide) ?_
    refine lv_icmp_ne (tgt := 154) hx hb dX13_worked_145 (by decide) (fun c14 => ?_) (fun c14 => ?_)
    · have h := nd_neg h c14
      refine lv_iload_n hx hb dX13_worked_154 rfl (lv_at hl 1 rfl) ?_
      refine lv_iload_n hx hb dX13_worked_155 rfl (lv_at hl 2 rfl) ?_
      obtain ⟨i15, h⟩ := nd_nz_e h
      refine lv_irem hx hb dX13_worked_156 i15 ?_
      exact (db_X13_worked_157 C K) (((x2 : Int32) - x2 / x3 * x3)) s12 _ _ _ h hP hD hS (lv_sub hl [] rfl)
    · have h := nd_pos h c14
      refine lv_iload_n hx hb dX13_worked_148 rfl (lv_at hl 1 rfl) ?_
      refine lv_iload_n hx hb dX13_worked_149 rfl (lv_at hl 2 rfl) ?_
      obtain ⟨i16, h⟩ := nd_nz_e h
      refine lv_idiv hx hb dX13_worked_150 i16 ?_
      refine lv_goto (tgt := 157) hx hb dX13_worked_151 (by decide) ?_
      exact (db_X13_worked_157 C K) (((x2 : Int32) / x3)) s12 _ _ _ h hP hD hS (lv_sub hl [] rfl)
  · have h := nd_pos h c13
    refine lv_iconst (v := 0) hx hb dX13_worked_138 (by decide) ?_
    refine lv_goto (tgt := 157) hx hb dX13_worked_139 (by decide) ?_
    exact (db_X13_worked_157 C K) (0) s12 _ _ _ h hP hD hS (lv_sub hl [] rfl)
set_option maxHeartbeats 40000000 in
set_option maxRecDepth 100000 in
theorem db_X13_worked_126 {p : Program} {l : Launch} {e : Env} {s : State} {m : MethodId} {args : Array Value} {below : List Frame} {meth : Method} {c : Code} {Q : State → Prop} {A : Nat → Prop} {dC : Nat → ClassId} {dI : Nat → Nat → Nat} {a : Nat → Nat} {ac : Nat → ClassId} {n : Nat} {r : Int32 × (St)} (C : nd_C p l s m args c A (dC, dI) cX13_worked 4 RX13 ow_dm_X13_worked (dk_X13 ac)) (K : nd_Ki p l e (headSpec ow_dm_X13_worked ({ frames := 0, cells := 0, slots := 0, locals := 0 })).room s m args below meth c Q A (dC, dI) cX13_worked .int (St) (dw_X13 a ac) r) : dj_X13_worked_126 p l e s m args below meth c Q A dC dI a ac (df_X13_worked_126 n) r := by
  obtain ⟨hlt, hx, hb, hml, hown, hts, hN, hA, hK⟩ := id C
  intro x1 x2 x3 s0 H locs ls h hP hD hS hl
  unfold df_X13_worked_126 at h
  refine lv_iconst (v := 1) hx hb dX13_worked_126 (by decide) ?_
  refine lv_goto (tgt := 131) hx hb dX13_worked_127 (by decide) ?_
  exact (db_X13_worked_131 C K) (x1) (x2) (x3) (1) s0 _ _ _ h hP hD hS (lv_sub hl [0, 1, 2] rfl)
set_option maxHeartbeats 40000000 in
set_option maxRecDepth 100000 in
theorem db_X13_worked_0 {p : Program} {l : Launch} {e : Env} {s : State} {m : MethodId} {args : Array Value} {below : List Frame} {meth : Method} {c : Code} {Q : State → Prop} {A : Nat → Prop} {dC : Nat → ClassId} {dI : Nat → Nat → Nat} {a : Nat → Nat} {ac : Nat → ClassId} {n : Nat} {r : Int32 × (St)} (C : nd_C p l s m args c A (dC, dI) cX13_worked 4 RX13 ow_dm_X13_worked (dk_X13 ac)) (K : nd_Ki p l e (headSpec ow_dm_X13_worked ({ frames := 0, cells := 0, slots := 0, locals := 0 })).room s m args below meth c Q A (dC, dI) cX13_worked .int (St) (dw_X13 a ac) r) : dj_X13_worked_0 p l e s m args below meth c Q A dC dI a ac (df_X13_worked_0 n) r := by
  obtain ⟨hlt, hx, hb, hml, hown, hts, hN, hA, hK⟩ := id C
  intro v0 v1 v2 s0 H locs ls h hP hD hS hl
  unfold df_X13_worked_0 at h
  refine lv_iload_n hx hb dX13_worked_0 rfl (lv_at hl 1 rfl) ?_
  by_cases c1 : v0 = 6
  · have h := nd_pos h c1
    refine lv_lookup (off := 87) (tgt := 88) hx hb dX13_worked_1 (by decide) (by rw [c1]; decide) (by decide) ?_
    refine lv_iload_n hx hb dX13_worked_88 rfl (lv_at hl 2 rfl) ?_
    refine lv_iload_n hx hb dX13_worked_89 rfl (lv_at hl 3 rfl) ?_
    refine lv_bipush (v := 31) hx hb dX13_worked_90 (by decide) ?_
    refine lv_iand hx hb dX13_worked_92 ?_
    refine lv_ishl hx hb dX13_worked_93 ?_
    exact K _ _ _ _ _ _ dX13_worked_94 rfl (Option.some.inj h).symm hP hD hS
  have h := nd_neg h c1
  by_cases c2 : v0 = 7
  · have h := nd_pos h c2
    refine lv_lookup (off := 94) (tgt := 95) hx hb dX13_worked_1 (by decide) (by rw [c2]; decide) (by decide) ?_
    refine lv_iload_n hx hb dX13_worked_95 rfl (lv_at hl 2 rfl) ?_
    refine lv_iload_n hx hb dX13_worked_96 rfl (lv_at hl 3 rfl) ?_
    refine lv_bipush (v := 31) hx hb dX13_worked_97 (by decide) ?_
    refine lv_iand hx hb dX13_worked_99 ?_
    refine lv_ishr hx hb dX13_worked_100 ?_
    exact K _ _ _ _ _ _ dX13_worked_101 rfl (Option.some.inj h).symm hP hD hS
  have h := nd_neg h c2
  by_cases c3 : v0 = 38
  · have h := nd_pos h c3
    refine lv_lookup (off := 101) (tgt := 102) hx hb dX13_worked_1 (by decide) (by rw [c3]; decide) (by decide) ?_
    refine lv_iload_n hx hb dX13_worked_102 rfl (lv_at hl 2 rfl) ?_
    refine lv_iload_n hx hb dX13_worked_103 rfl (lv_at hl 3 rfl) ?_
    refine lv_iand hx hb dX13_worked_104 ?_
    exact K _ _ _ _ _ _ dX13_worked_105 rfl (Option.some.inj h).symm hP hD hS
  have h := nd_neg h c3
  by_cases c4 : v0 = 42
  · have h := nd_pos h c4
    refine lv_lookup (off := 75) (tgt := 76) hx hb dX13_worked_1 (by decide) (by rw [c4]; decide) (by decide) ?_
    refine lv_iload_n hx hb dX13_worked_76 rfl (lv_at hl 2 rfl) ?_
    refine lv_iload_n hx hb dX13_worked_77 rfl (lv_at hl 3 rfl) ?_
    refine lv_imul hx hb dX13_worked_78 ?_
    exact K _ _ _ _ _ _ dX13_worked_79 rfl (Option.some.inj h).symm hP hD hS
  have h := nd_neg h c4
  by_cases c5 : v0 = 43
  · have h := nd_pos h c5
    refine lv_lookup (off := 79) (tgt := 80) hx hb dX13_worked_1 (by decide) (by rw [c5]; decide) (by decide) ?_
    refine lv_iload_n hx hb dX13_worked_80 rfl (lv_at hl 2 rfl) ?_
    refine lv_iload_n hx hb dX13_worked_81 rfl (lv_at hl 3 rfl) ?_
    refine lv_iadd hx hb dX13_worked_82 ?_
    exact K _ _ _ _ _ _ dX13_worked_83 rfl (Option.some.inj h).symm hP hD hS
  have h := nd_neg h c5
  by_cases c6 : v0 = 45
  · have h := nd_pos h c6
    refine lv_lookup (off := 83) (tgt := 84) hx hb dX13_worked_1 (by decide) (by rw [c6]; decide) (by decide) ?_
    refine lv_iload_n hx hb dX13_worked_84 rfl (lv_at hl 2 rfl) ?_
    refine lv_iload_n hx hb dX13_worked_85 rfl (lv_at hl 3 rfl) ?_
    refine lv_isub hx hb dX13_worked_86 ?_
    exact K _ _ _ _ _ _ dX13_worked_87 rfl (Option.some.inj h).symm hP hD hS
  have h := nd_neg h c6
  by_cases c7 : v0 = 94
  · have h := nd_pos h c7
    refine lv_lookup (off := 105) (tgt := 106) hx hb dX13_worked_1 (by decide) (by rw [c7]; decide) (by decide) ?_
    refine lv_iload_n hx hb dX13_worked_106 rfl (lv_at hl 2 rfl) ?_
    refine lv_iload_n hx hb dX13_worked_107 rfl (lv_at hl 3 rfl) ?_
    refine lv_ixor hx hb dX13_worked_108 ?_
    exact K _ _ _ _ _ _ dX13_worked_109 rfl (Option.some.inj h).symm hP hD hS
  have h := nd_neg h c7
  by_cases c8 : v0 = 124
  · have h := nd_pos h c8
    refine lv_lookup (off := 109) (tgt := 110) hx hb dX13_worked_1 (by decide) (by rw [c8]; decide) (by decide) ?_
    refine lv_iload_n hx hb dX13_worked_110 rfl (lv_at hl 2 rfl) ?_
    refine lv_iload_n hx hb dX13_worked_111 rfl (lv_at hl 3 rfl) ?_
    refine lv_ior hx hb dX13_worked_112 ?_
    exact K _ _ _ _ _ _ dX13_worked_113 rfl (Option.some.inj h).symm hP hD hS
  have h := nd_neg h c8
  refine lv_lookup (off := 113) (tgt := 114) hx hb dX13_worked_1 (by decide) (show Op.lookupswitch.offset [(6, 87), (7, 94), (38, 101), (42, 75), (43, 79), (45, 83), (94, 105), (124, 109)] 113 (v0 : Int32).toInt = 113 by rw [lv_osw c1 (by decide), lv_osw c2 (by decide), lv_osw c3 (by decide), lv_osw c4 (by decide), lv_osw c5 (by decide), lv_osw c6 (by decide), lv_osw c7 (by decide), lv_osw c8 (by decide)] <;> rfl) (by decide) ?_
  refine lv_aload_n hx hb dX13_worked_114 rfl (lv_at hl 0 rfl) ?_
  refine lv_aload_n hx hb dX13_worked_115 rfl (lv_at hl 0 rfl) ?_
  refine va_get (D := (dC, dI)) (ci := 14) (v := .int (sI s0 22)) (C := RX13) (T := TX13) (N := 37) hx hb hts hi_dm_X13_worked_X13 hown hK hP 0 rfl rfl 32 (by decide) (hts (.fieldLink RX13 470 "TimeMachineModel$Assembler" "divided" "Z") (List.mem_of_getElem? (i := 1) rfl)) (fun _ h9 => h9) rfl dX13_worked_116 ?_
  refine lv_if_ne (tgt := 126) hx hb dX13_worked_119 (by decide) (fun c9 => ?_) (fun c9 => ?_)
  · have h := nd_neg h c9
    exact (db_X13_worked_126 C K) (v0) (v1) (v2) s0 _ _ _ h hP hD hS (lv_sub hl [1, 2, 3] rfl)
  · have h := nd_pos h c9
    refine lv_iload_n hx hb dX13_worked_122 rfl (lv_at hl 3 rfl) ?_
    refine lv_if_ne (tgt := 130) hx hb dX13_worked_123 (by decide) (fun c17 => ?_) (fun c17 => ?_)
    · have h := nd_neg h c17
      refine lv_iconst (v := 0) hx hb dX13_worked_130 (by decide) ?_
      exact (db_X13_worked_131 C K) (v0) (v1) (v2) (0) s0 _ _ _ h hP hD hS (lv_sub hl [1, 2, 3] rfl)
    · have h := nd_pos h c17
      exact (db_X13_worked_126 C K) (v0) (v1) (v2) s0 _ _ _ h hP hD hS (lv_sub hl [1, 2, 3] rfl)
set_option maxHeartbeats 40000000 in
set_option maxRecDepth 100000 in
theorem dm_X13_worked (l : Launch) (hlt : l.stackTraces = false) (dC : Nat → ClassId) (dI : Nat → Nat → Nat) (a : Nat → Nat) (ac : Nat → ClassId) (n : Nat) (v0 : Int32) (v1 : Int32) (v2 : Int32) (s0 : St) {r : Int32 × (St)} (h : df_X13_worked n v0 v1 v2 s0 = some r) (sz : Nat) : Met l yX13_worked ow_dm_X13_worked ({ frames := 0, cells := 0, slots := 0, locals := 0 }) (va_Pc [.ref (a 0), .int v0, .int v1, .int v2] (fun U => U.heap.size = sz ∧ va_P (dC, dI) vwCl (dw_X13 a ac s0) U.heap ∧ va_K (dC, dI) vwCl (dk_X13 ac) U ∧ va_D (fun _ => True) (dw_X13 a ac s0) ∧ nv_E (va_A (dw_X13 a ac s0) sz) U)) (va_Qi (fun x _ => x = r.1) (fun (_ : Unit) t => va_P (dC, dI) vwCl (dw_X13 a ac r.2) t.heap ∧ va_K (dC, dI) vwCl (dk_X13 ac) t ∧ va_D (va_A (dw_X13 a ac s0) sz) (dw_X13 a ac r.2)) (va_A (dw_X13 a ac s0) sz)) 0 0 (va_A (dw_X13 a ac s0) sz) := by
  refine Met.ofW (cc := cX13_worked) (maxL := 4) (ret := (some .int)) (by decide) rfl ?_
  intro p e s m args below meth c s₁ B hml hv
  obtain ⟨rfl, hsz, hP, hK, hD0, hN⟩ := hv
  have hx := B.exec
  have hb := B.bytes
  have hr := B.returns
  have hts := atoms_spec (ws := ow_dm_X13_worked) B.pre
  have hown : s.vm.findClass RX13 = some m.cls := findClass_of_methodNamed B.named
  have hlocks := B.notSynchronized
  subst hsz
  have hD := hD0.self (sz := s.heap.size)
  generalize hAe : va_A (dw_X13 a ac s0) s.heap.size = A at hD hN ⊢
  have hA : ∀ q : Nat, s.heap.size ≤ q → A q := fun q h => by rw [← hAe]; exact Or.inr h
  have hl := lv_entry ([.ref (a 0), .int v0, .int v1, .int v2]) (n := 4) (Nat.le_of_ble_eq_true rfl)
  rw [lg_entry_eq]
  generalize (lg_sl ([.ref (a 0), .int v0, .int v1, .int v2]) ++ List.replicate (4 - (lg_sl ([.ref (a 0), .int v0, .int v1, .int v2])).length) Slot.unset).toArray = ls at hl ⊢
  have hl : lv_has ls 4 [(0, .ref (a 0)), (1, .int v0), (2, .int v1), (3, .int v2)] := hl
  exact db_X13_worked_0 (dC := dC) (dI := dI) (a := a) (ac := ac) (n := n) (r := r) ⟨hlt, hx, hb, hml, hown, hts, hN, hA, hK⟩ (fun pc v τ H locs ls d z er hP hD hS => by subst er; exact W.zret (v := v) hx hb hr z (fun t ht hW => ⟨⟨v, (), rfl, rfl, by rw [ht]; exact hP, va_K.moved hW.alike hK, hD⟩, hS.F ht⟩) hS.2.2 d) v0 v1 v2 s0 _ _ _ h hP hD va_S.rf (lv_sub hl [0, 1, 2, 3] rfl)
def ow_dm_X13_join : List Cond := .code yX13_join cX13_join 2 none :: ([.fieldLink RX13 464 "TimeMachineModel$Assembler" "signs" "I", .fieldLink RX13 344 "TimeMachineModel$Assembler" "pile" "[I", .fieldLink RX13 467 "TimeMachineModel$Assembler" "values" "I", .methodLink RX13 473 yX13_worked, .instanceMethod yX13_worked, .selects RX13 yX13_worked yX13_worked, .initialized RX13] ++ (u_ws RX13 TX13 37 ++ (ow_dm_X13_worked ++ [])))
theorem gd_dm_X13_join : ∀ w ∈ ow_dm_X13_join, (w.onTables && w.keeps) = true ∨ ∃ ty, w = Cond.arrayClass ty := List.forall_mem_cons.mpr ⟨good_of_word rfl, List.forall_mem_append.mpr ⟨fun w h => good_of_word (List.all_eq_true.mp (by decide +kernel) w h), List.forall_mem_append.mpr ⟨gu_X13, List.forall_mem_append.mpr ⟨gd_dm_X13_worked, fun _ h => nomatch h⟩⟩⟩⟩
theorem hi_dm_X13_join_X13 : ∀ w ∈ u_ws RX13 TX13 37, w ∈ ow_dm_X13_join := fun w h => List.mem_cons_of_mem _ (List.mem_append_right _ (List.mem_append_left _ h))
theorem gi_dm_X13_join_0 : GoodIn ow_dm_X13_join (wsV RX13 473 RX13 yX13_worked ow_dm_X13_worked) := goodIn_app (goodIn_of _ (by decide +kernel)) (fun w h => ⟨List.mem_cons_of_mem _ (List.mem_append_right _ (List.mem_append_right _ (List.mem_append_left _ h))), gd_dm_X13_worked w h⟩)
def dj_X13_join_0 (p : Program) (l : Launch) (e : Env) (s : State) (m : MethodId) (args : Array Value) (below : List Frame) (meth : Method) (c : Code) (Q : State → Prop) (A : Nat → Prop) (dC : Nat → ClassId) (dI : Nat → Nat → Nat) (a : Nat → Nat) (ac : Nat → ClassId) (g : (St) → Option (St)) (r : St) : Prop := ∀ (s0 : St) (H : Heap) (locs : List Loc) (ls : Array Slot), g s0 = some r → va_P (dC, dI) vwCl (dw_X13 a ac s0) H → va_D A (dw_X13 a ac s0) → va_S A s.heap H locs → lv_has ls 2 [(0, .ref (a 0))] → W p l e (headSpec ow_dm_X13_join ({ frames := 1, cells := 0, slots := 0, locals := 23 })).room s m args below meth c H locs 0 0 Q (F0 m 0 ls [])
set_option maxHeartbeats 40000000 in
set_option maxRecDepth 100000 in
theorem db_X13_join_0 {p : Program} {l : Launch} {e : Env} {s : State} {m : MethodId} {args : Array Value} {below : List Frame} {meth : Method} {c : Code} {Q : State → Prop} {A : Nat → Prop} {dC : Nat → ClassId} {dI : Nat → Nat → Nat} {a : Nat → Nat} {ac : Nat → ClassId} {n : Nat} {r : St} (C : nd_C p l s m args c A (dC, dI) cX13_join 2 RX13 ow_dm_X13_join (dk_X13 ac)) (K : nd_Kv p l e (headSpec ow_dm_X13_join ({ frames := 1, cells := 0, slots := 0, locals := 23 })).room s m args below meth c Q A (dC, dI) cX13_join (St) (dw_X13 a ac) r) : dj_X13_join_0 p l e s m args below meth c Q A dC dI a ac (df_X13_join_0 n) r := by
  obtain ⟨hlt, hx, hb, hml, hown, hts, hN, hA, hK⟩ := id C
  intro s0 H locs ls h hP hD hS hl
  unfold df_X13_join_0 at h
  refine lv_aload_n hx hb dX13_join_0 rfl (lv_at hl 0 rfl) ?_
  refine lv_dup hx hb dX13_join_1 rfl ?_
  refine va_get (D := (dC, dI)) (ci := 14) (v := .int (sI s0 24)) (C := RX13) (T := TX13) (N := 37) hx hb hts hi_dm_X13_join_X13 hown hK hP 0 rfl rfl 35 (by decide) (hts (.fieldLink RX13 464 "TimeMachineModel$Assembler" "signs" "I") (List.mem_of_getElem? (i := 1) rfl)) (fun _ h9 => h9) rfl dX13_join_2 ?_
  refine lv_iconst (v := 1) hx hb dX13_join_5 (by decide) ?_
  refine lv_isub hx hb dX13_join_6 ?_
  refine va_put (D := (dC, dI)) (ci := 14) (v := .int ((sI s0 24) - 1)) (ty := .int) (C := RX13) (T := TX13) (N := 37) hx hb hts hi_dm_X13_join_X13 tyX13 tyX13_ok nmX13 hown hK hP hD hS 0 rfl rfl 35 (by decide) (hts (.fieldLink RX13 464 "TimeMachineModel$Assembler" "signs" "I") (List.mem_of_getElem? (i := 1) rfl)) (fun _ h9 => h9) rfl (by decide +kernel) rfl rfl (Nat.le_of_ble_eq_true rfl) dX13_join_7 (fun H locs hP hD hS => ?_)
  obtain ⟨s1, es1, h⟩ := nd_let_e h
  have hP : va_P (dC, dI) vwCl (dw_X13 a ac s1) H := by rw [es1]; exact hP
  have hD : va_D A (dw_X13 a ac s1) := by rw [es1]; exact hD
  refine lv_aload_n hx hb dX13_join_10 rfl (lv_at hl 0 rfl) ?_
  refine va_get (D := (dC, dI)) (ci := 14) (v := .ref (a 10)) (C := RX13) (T := TX13) (N := 37) hx hb hts hi_dm_X13_join_X13 hown hK hP 0 rfl rfl 34 (by decide) (hts (.fieldLink RX13 344 "TimeMachineModel$Assembler" "pile" "[I") (List.mem_of_getElem? (i := 2) rfl)) (fun _ h9 => h9) rfl dX13_join_11 ?_
  refine lv_aload_n hx hb dX13_join_14 rfl (lv_at hl 0 rfl) ?_
  refine va_get (D := (dC, dI)) (ci := 14) (v := .int (sI s1 25)) (C := RX13) (T := TX13) (N := 37) hx hb hts hi_dm_X13_join_X13 hown hK hP 0 rfl rfl 36 (by decide) (hts (.fieldLink RX13 467 "TimeMachineModel$Assembler" "values" "I") (List.mem_of_getElem? (i := 3) rfl)) (fun _ h9 => h9) rfl dX13_join_15 ?_
  obtain ⟨i2, h⟩ := nd_ck_e h
  refine va_iald (i := (sI s1 25)) hx hb hK hP 10 9 rfl rfl i2 dX13_join_18 ?_
  refine lv_topi (fun z3 ez3 => ?_)
  have h := nd_at h ez3
  refine lv_istore_n (lv' := [(1, .int z3), (0, .ref (a 0))]) hx hb dX13_join_19 rfl hl (by decide) rfl (fun ls hl => ?_)
  refine lv_aload_n hx hb dX13_join_20 rfl (lv_at hl 1 rfl) ?_
  refine lv_dup hx hb dX13_join_21 rfl ?_
  refine va_get (D := (dC, dI)) (ci := 14) (v := .int (sI s1 25)) (C := RX13) (T := TX13) (N := 37) hx hb hts hi_dm_X13_join_X13 hown hK hP 0 rfl rfl 36 (by decide) (hts (.fieldLink RX13 467 "TimeMachineModel$Assembler" "values" "I") (List.mem_of_getElem? (i := 3) rfl)) (fun _ h9 => h9) rfl dX13_join_22 ?_
  refine lv_iconst (v := 1) hx hb dX13_join_25 (by decide) ?_
  refine lv_iadd hx hb dX13_join_26 ?_
  refine va_put (D := (dC, dI)) (ci := 14) (v := .int ((sI s1 25) + 1)) (ty := .int) (C := RX13) (T := TX13) (N := 37) hx hb hts hi_dm_X13_join_X13 tyX13 tyX13_ok nmX13 hown hK hP hD hS 0 rfl rfl 36 (by decide) (hts (.fieldLink RX13 467 "TimeMachineModel$Assembler" "values" "I") (List.mem_of_getElem? (i := 3) rfl)) (fun _ h9 => h9) rfl (by decide +kernel) rfl rfl (Nat.le_of_ble_eq_true rfl) dX13_join_27 (fun H locs hP hD hS => ?_)
  obtain ⟨s4, es4, h⟩ := nd_let_e h
  have hP : va_P (dC, dI) vwCl (dw_X13 a ac s4) H := by rw [es4]; exact hP
  have hD : va_D A (dw_X13 a ac s4) := by rw [es4]; exact hD
  refine lv_aload_n hx hb dX13_join_30 rfl (lv_at hl 1 rfl) ?_
  refine va_get (D := (dC, dI)) (ci := 14) (v := .ref (a 10)) (C := RX13) (T := TX13) (N := 37) hx hb hts hi_dm_X13_join_X13 hown hK hP 0 rfl rfl 34 (by decide) (hts (.fieldLink RX13 344 "TimeMachineModel$Assembler" "pile" "[I") (List.mem_of_getElem? (i := 2) rfl)) (fun _ h9 => h9) rfl dX13_join_31 ?_
  refine lv_aload_n hx hb dX13_join_34 rfl (lv_at hl 1 rfl) ?_
  refine va_get (D := (dC, dI)) (ci := 14) (v := .int (sI s4 25)) (C := RX13) (T := TX13) (N := 37) hx hb hts hi_dm_X13_join_X13 hown hK hP 0 rfl rfl 36 (by decide) (hts (.fieldLink RX13 467 "TimeMachineModel$Assembler" "values" "I") (List.mem_of_getElem? (i := 3) rfl)) (fun _ h9 => h9) rfl dX13_join_35 ?_
  refine lv_aload_n hx hb dX13_join_38 rfl (lv_at hl 1 rfl) ?_
  refine lv_aload_n hx hb dX13_join_39 rfl (lv_at hl 1 rfl) ?_
  refine va_get (D := (dC, dI)) (ci := 14) (v := .ref (a 10)) (C := RX13) (T := TX13) (N := 37) hx hb hts hi_dm_X13_join_X13 hown hK hP 0 rfl rfl 34 (by decide) (hts (.fieldLink RX13 344 "TimeMachineModel$Assembler" "pile" "[I") (List.mem_of_getElem? (i := 2) rfl)) (fun _ h9 => h9) rfl dX13_join_40 ?_
  refine lv_aload_n hx hb dX13_join_43 rfl (lv_at hl 1 rfl) ?_
  refine va_get (D := (dC, dI)) (ci := 14) (v := .int (sI s4 24)) (C := RX13) (T := TX13) (N := 37) hx hb hts hi_dm_X13_join_X13 hown hK hP 0 rfl rfl 35 (by decide) (hts (.fieldLink RX13 464 "TimeMachineModel$Assembler" "signs" "I") (List.mem_of_getElem? (i := 1) rfl)) (fun _ h9 => h9) rfl dX13_join_44 ?_
  obtain ⟨i5, h⟩ := nd_ck_e h
  refine va_iald (i := (sI s4 24)) hx hb hK hP 10 9 rfl rfl i5 dX13_join_47 ?_
  refine lv_aload_n hx hb dX13_join_48 rfl (lv_at hl 1 rfl) ?_
  refine va_get (D := (dC, dI)) (ci := 14) (v := .ref (a 10)) (C := RX13) (T := TX13) (N := 37) hx hb hts hi_dm_X13_join_X13 hown hK hP 0 rfl rfl 34 (by decide) (hts (.fieldLink RX13 344 "TimeMachineModel$Assembler" "pile" "[I") (List.mem_of_getElem? (i := 2) rfl)) (fun _ h9 => h9) rfl dX13_join_49 ?_
  refine lv_aload_n hx hb dX13_join_52 rfl (lv_at hl 1 rfl) ?_
  refine va_get (D := (dC, dI)) (ci := 14) (v := .int (sI s4 25)) (C := RX13) (T := TX13) (N := 37) hx hb hts hi_dm_X13_join_X13 hown hK hP 0 rfl rfl 36 (by decide) (hts (.fieldLink RX13 467 "TimeMachineModel$Assembler" "values" "I") (List.mem_of_getElem? (i := 3) rfl)) (fun _ h9 => h9) rfl dX13_join_53 ?_
  obtain ⟨i6, h⟩ := nd_ck_e h
  refine va_iald (i := (sI s4 25)) hx hb hK hP 10 9 rfl rfl i6 dX13_join_56 ?_
  refine lv_iload_n hx hb dX13_join_57 rfl (lv_at hl 0 rfl) ?_
  obtain ⟨q7, s8, hq, h⟩ := nd_b2_e h
  have hPc := hP
  have hDc := hD
  have hKc := hK
  have hFc := nd_rs hD hS hA
  refine nd_cVi (As := [.int (sR s4 8 (Int32.toNatClampNeg (sI s4 24))), .int (sR s4 8 (Int32.toNatClampNeg (sI s4 25))), .int z3]) (rest := [.int (sI s4 25), .ref (a 10)]) (q := q7) (w' := dw_X13 a ac s8) ⟨hx, hb, hml, hown, hts⟩ (fun sz => dm_X13_worked l hlt dC dI a ac n ((sR s4 8 (Int32.toNatClampNeg (sI s4 24)))) ((sR s4 8 (Int32.toNatClampNeg (sI s4 25)))) (z3) s4 hq sz) (cwV 3 hts gi_dm_X13_join_0 rfl rfl rfl (by decide +kernel) ⟨Nat.le_of_ble_eq_true rfl, Nat.le_of_ble_eq_true rfl⟩) hPc hDc hKc hS hA hN (va_recv hKc hPc (ci := 14) (q0 := 0) rfl rfl) rfl hl.1 rfl (Nat.le_of_ble_eq_true rfl) dX13_join_58 (fun H locs hP1 hD1 hk1 hS => ?_)
  have hP := hP1
  have hD := hD1.weaken (fun k q _ h => hFc q.1 h)
  obtain ⟨i10, h⟩ := nd_ck_e h
  refine va_iast (i := (sI s4 25)) (x := q7) hx hb hK hP hD hS 10 9 rfl rfl i10 dX13_join_61 (fun H locs hP hD hS => ?_)
  obtain ⟨s11, es11, h⟩ := nd_let_e h
  have hP : va_P (dC, dI) vwCl (dw_X13 a ac s11) H := by rw [es11]; exact hP
  have hD : va_D A (dw_X13 a ac s11) := by rw [es11]; exact hD
  exact K _ _ _ _ _ dX13_join_62 (Option.some.inj h).symm hP hD hS
set_option maxHeartbeats 40000000 in
set_option maxRecDepth 100000 in
theorem dm_X13_join (l : Launch) (hlt : l.stackTraces = false) (dC : Nat → ClassId) (dI : Nat → Nat → Nat) (a : Nat → Nat) (ac : Nat → ClassId) (n : Nat) (s0 : St) {r : St} (h : df_X13_join n s0 = some r) (sz : Nat) : Met l yX13_join ow_dm_X13_join ({ frames := 1, cells := 0, slots := 0, locals := 23 }) (va_Pc [.ref (a 0)] (fun U => U.heap.size = sz ∧ va_P (dC, dI) vwCl (dw_X13 a ac s0) U.heap ∧ va_K (dC, dI) vwCl (dk_X13 ac) U ∧ va_D (fun _ => True) (dw_X13 a ac s0) ∧ nv_E (va_A (dw_X13 a ac s0) sz) U)) (va_Qv (fun _ => True) (fun (_ : Unit) t => va_P (dC, dI) vwCl (dw_X13 a ac r) t.heap ∧ va_K (dC, dI) vwCl (dk_X13 ac) t ∧ va_D (va_A (dw_X13 a ac s0) sz) (dw_X13 a ac r)) (va_A (dw_X13 a ac s0) sz)) 0 0 (va_A (dw_X13 a ac s0) sz) := by
  refine Met.ofW (cc := cX13_join) (maxL := 2) (ret := none) (by decide) rfl ?_
  intro p e s m args below meth c s₁ B hml hv
  obtain ⟨rfl, hsz, hP, hK, hD0, hN⟩ := hv
  have hx := B.exec
  have hb := B.bytes
  have hr := B.returns
  have hts := atoms_spec (ws := ow_dm_X13_join) B.pre
  have hown : s.vm.findClass RX13 = some m.cls := findClass_of_methodNamed B.named
  have hlocks := B.notSynchronized
  subst hsz
  have hD := hD0.self (sz := s.heap.size)
  generalize hAe : va_A (dw_X13 a ac s0) s.heap.size = A at hD hN ⊢
  have hA : ∀ q : Nat, s.heap.size ≤ q → A q := fun q h => by rw [← hAe]; exact Or.inr h
  have hl := lv_entry ([.ref (a 0)]) (n := 2) (Nat.le_of_ble_eq_true rfl)
  rw [lg_entry_eq]
  generalize (lg_sl ([.ref (a 0)]) ++ List.replicate (2 - (lg_sl ([.ref (a 0)])).length) Slot.unset).toArray = ls at hl ⊢
  have hl : lv_has ls 2 [(0, .ref (a 0))] := hl
  exact db_X13_join_0 (dC := dC) (dI := dI) (a := a) (ac := ac) (n := n) (r := r) ⟨hlt, hx, hb, hml, hown, hts, hN, hA, hK⟩ (fun pc τ H locs ls d er hP hD hS => by subst er; exact W.vret hx hb hr (fun t ht hW => ⟨⟨(), rfl, trivial, by rw [ht]; exact hP, va_K.moved hW.alike hK, hD⟩, hS.F ht⟩) hS.2.2 d) s0 _ _ _ h hP hD va_S.rf (lv_sub hl [0] rfl)
def ow_dm_X13_bind : List Cond := .code yX13_bind cX13_bind 4 none :: ([.fieldLink RX13 464 "TimeMachineModel$Assembler" "signs" "I", .fieldLink RX13 344 "TimeMachineModel$Assembler" "pile" "[I", .fieldLink RX13 467 "TimeMachineModel$Assembler" "values" "I"] ++ (u_ws RX13 TX13 37 ++ []))
theorem gd_dm_X13_bind : ∀ w ∈ ow_dm_X13_bind, (w.onTables && w.keeps) = true ∨ ∃ ty, w = Cond.arrayClass ty := List.forall_mem_cons.mpr ⟨good_of_word rfl, List.forall_mem_append.mpr ⟨fun w h => good_of_word (List.all_eq_true.mp (by decide +kernel) w h), List.forall_mem_append.mpr ⟨gu_X13, fun _ h => nomatch h⟩⟩⟩
theorem hi_dm_X13_bind_X13 : ∀ w ∈ u_ws RX13 TX13 37, w ∈ ow_dm_X13_bind := fun w h => List.mem_cons_of_mem _ (List.mem_append_right _ (List.mem_append_left _ h))
def dj_X13_bind_124 (p : Program) (l : Launch) (e : Env) (s : State) (m : MethodId) (args : Array Value) (below : List Frame) (meth : Method) (c : Code) (Q : State → Prop) (A : Nat → Prop) (dC : Nat → ClassId) (dI : Nat → Nat → Nat) (a : Nat → Nat) (ac : Nat → ClassId) (g : (St) → Option (St)) (r : St) : Prop := ∀ (s0 : St) (H : Heap) (locs : List Loc) (ls : Array Slot), g s0 = some r → va_P (dC, dI) vwCl (dw_X13 a ac s0) H → va_D A (dw_X13 a ac s0) → va_S A s.heap H locs → lv_has ls 4 [] → W p l e (headSpec ow_dm_X13_bind ({ frames := 0, cells := 0, slots := 0, locals := 0 })).room s m args below meth c H locs 0 0 Q (F0 m 124 ls [])
def dj_X13_bind_110 (p : Program) (l : Launch) (e : Env) (s : State) (m : MethodId) (args : Array Value) (below : List Frame) (meth : Method) (c : Code) (Q : State → Prop) (A : Nat → Prop) (dC : Nat → ClassId) (dI : Nat → Nat → Nat) (a : Nat → Nat) (ac : Nat → ClassId) (g : Int32 → Int32 → Int32 → (St) → Option (St)) (r : St) : Prop := ∀ (x1 : Int32) (y1 : Int32) (y2 : Int32) (s0 : St) (H : Heap) (locs : List Loc) (ls : Array Slot), g x1 y1 y2 s0 = some r → va_P (dC, dI) vwCl (dw_X13 a ac s0) H → va_D A (dw_X13 a ac s0) → va_S A s.heap H locs → lv_has ls 4 [(0, .ref (a 0)), (1, .int x1)] → W p l e (headSpec ow_dm_X13_bind ({ frames := 0, cells := 0, slots := 0, locals := 0 })).room s m args below meth c H locs 0 0 Q (F0 m 110 ls [.int y2, .int y1, .ref (a 10)])
def dj_X13_bind_50 (p : Program) (l : Launch) (e : Env) (s : State) (m : MethodId) (args : Array Value) (below : List Frame) (meth : Method) (c : Code) (Q : State → Prop) (A : Nat → Prop) (dC : Nat → ClassId) (dI : Nat → Nat → Nat) (a : Nat → Nat) (ac : Nat → ClassId) (g : Int32 → Int32 → Int32 → (St) → Option (St)) (r : St) : Prop := ∀ (x2 : Int32) (x3 : Int32) (y0 : Int32) (s0 : St) (H : Heap) (locs : List Loc) (ls : Array Slot), g x2 x3 y0 s0 = some r → va_P (dC, dI) vwCl (dw_X13 a ac s0) H → va_D A (dw_X13 a ac s0) → va_S A s.heap H locs → lv_has ls 4 [(0, .ref (a 0)), (2, .int x2), (3, .int x3)] → W p l e (headSpec ow_dm_X13_bind ({ frames := 0, cells := 0, slots := 0, locals := 0 })).room s m args below meth c H locs 0 0 Q (F0 m 50 ls [.int y0])
def dj_X13_bind_49 (p : Program) (l : Launch) (e : Env) (s : State) (m : MethodId) (args : Array Value) (below : List Frame) (meth : Method) (c : Code) (Q : State → Prop) (A : Nat → Prop) (dC : Nat → ClassId) (dI : Nat → Nat → Nat) (a : Nat → Nat) (ac : Nat → ClassId) (g : Int32 → Int32 → (St) → Option (St)) (r : St) : Prop := ∀ (x2 : Int32) (x3 : Int32) (s0 : St) (H : Heap) (locs : List Loc) (ls : Array Slot), g x2 x3 s0 = some r → va_P (dC, dI) vwCl (dw_X13 a ac s0) H → va_D A (dw_X13 a ac s0) → va_S A s.heap H locs → lv_has ls 4 [(0, .ref (a 0)), (2, .int x2), (3, .int x3)] → W p l e (headSpec ow_dm_X13_bind ({ frames := 0, cells := 0, slots := 0, locals := 0 })).room s m args below meth c H locs 0 0 Q (F0 m 49 ls [])
def dj_X13_bind_2 (p : Program) (l : Launch) (e : Env) (s : State) (m : MethodId) (args : Array Value) (below : List Frame) (meth : Method) (c : Code) (Q : State → Prop) (A : Nat → Prop) (dC : Nat → ClassId) (dI : Nat → Nat → Nat) (a : Nat → Nat) (ac : Nat → ClassId) (g : Int32 → (St) → Option (St)) (r : St) : Prop := ∀ (x1 : Int32) (s0 : St) (H : Heap) (locs : List Loc) (ls : Array Slot), g x1 s0 = some r → va_P (dC, dI) vwCl (dw_X13 a ac s0) H → va_D A (dw_X13 a ac s0) → va_S A s.heap H locs → lv_has ls 4 [(0, .ref (a 0)), (1, .int x1)] → W p l e (headSpec ow_dm_X13_bind ({ frames := 0, cells := 0, slots := 0, locals := 0 })).room s m args below meth c H locs 0 0 Q (F0 m 2 ls [])
def dj_X13_bind_0 (p : Program) (l : Launch) (e : Env) (s : State) (m : MethodId) (args : Array Value) (below : List Frame) (meth : Method) (c : Code) (Q : State → Prop) (A : Nat → Prop) (dC : Nat → ClassId) (dI : Nat → Nat → Nat) (a : Nat → Nat) (ac : Nat → ClassId) (g : (St) → Option (St)) (r : St) : Prop := ∀ (s0 : St) (H : Heap) (locs : List Loc) (ls : Array Slot), g s0 = some r → va_P (dC, dI) vwCl (dw_X13 a ac s0) H → va_D A (dw_X13 a ac s0) → va_S A s.heap H locs → lv_has ls 4 [(0, .ref (a 0))] → W p l e (headSpec ow_dm_X13_bind ({ frames := 0, cells := 0, slots := 0, locals := 0 })).room s m args below meth c H locs 0 0 Q (F0 m 0 ls [])
set_option maxHeartbeats 40000000 in
set_option maxRecDepth 100000 in
theorem db_X13_bind_124 {p : Program} {l : Launch} {e : Env} {s : State} {m : MethodId} {args : Array Value} {below : List Frame} {meth : Method} {c : Code} {Q : State → Prop} {A : Nat → Prop} {dC : Nat → ClassId} {dI : Nat → Nat → Nat} {a : Nat → Nat} {ac : Nat → ClassId} {n : Nat} {r : St} (C : nd_C p l s m args c A (dC, dI) cX13_bind 4 RX13 ow_dm_X13_bind (dk_X13 ac)) (K : nd_Kv p l e (headSpec ow_dm_X13_bind ({ frames := 0, cells := 0, slots := 0, locals := 0 })).room s m args below meth c Q A (dC, dI) cX13_bind (St) (dw_X13 a ac) r) : dj_X13_bind_124 p l e s m args below meth c Q A dC dI a ac (df_X13_bind_124 n) r := by
  obtain ⟨hlt, hx, hb, hml, hown, hts, hN, hA, hK⟩ := id C
  intro s0 H locs ls h hP hD hS hl
  unfold df_X13_bind_124 at h
  exact K _ _ _ _ _ dX13_bind_124 (Option.some.inj h).symm hP hD hS
set_option maxHeartbeats 40000000 in
set_option maxRecDepth 100000 in
theorem db_X13_bind_110 {p : Program} {l : Launch} {e : Env} {s : State} {m : MethodId} {args : Array Value} {below : List Frame} {meth : Method} {c : Code} {Q : State → Prop} {A : Nat → Prop} {dC : Nat → ClassId} {dI : Nat → Nat → Nat} {a : Nat → Nat} {ac : Nat → ClassId} {n : Nat} {r : St} (C : nd_C p l s m args c A (dC, dI) cX13_bind 4 RX13 ow_dm_X13_bind (dk_X13 ac)) (K : nd_Kv p l e (headSpec ow_dm_X13_bind ({ frames := 0, cells := 0, slots := 0, locals := 0 })).room s m args below meth c Q A (dC, dI) cX13_bind (St) (dw_X13 a ac) r) {g2 : Int32 → (St) → Option (St)} (J2 : dj_X13_bind_2 p l e s m args below meth c Q A dC dI a ac g2 r) : dj_X13_bind_110 p l e s m args below meth c Q A dC dI a ac (df_X13_bind_110 n g2) r := by
  obtain ⟨hlt, hx, hb, hml, hown, hts, hN, hA, hK⟩ := id C
  intro x1 y1 y2 s0 H locs ls h hP hD hS hl
  unfold df_X13_bind_110 at h
  obtain ⟨i12, h⟩ := nd_ck_e h
  refine va_iast (i := y1) (x := y2) hx hb hK hP hD hS 10 9 rfl rfl i12 dX13_bind_110 (fun H locs hP hD hS => ?_)
  obtain ⟨s13, es13, h⟩ := nd_let_e h
  have hP : va_P (dC, dI) vwCl (dw_X13 a ac s13) H := by rw [es13]; exact hP
  have hD : va_D A (dw_X13 a ac s13) := by rw [es13]; exact hD
  refine lv_aload_n hx hb dX13_bind_111 rfl (lv_at hl 0 rfl) ?_
  refine lv_dup hx hb dX13_bind_112 rfl ?_
  refine va_get (D := (dC, dI)) (ci := 14) (v := .int (sI s13 24)) (C := RX13) (T := TX13) (N := 37) hx hb hts hi_dm_X13_bind_X13 hown hK hP 0 rfl rfl 35 (by decide) (hts (.fieldLink RX13 464 "TimeMachineModel$Assembler" "signs" "I") (List.mem_of_getElem? (i := 1) rfl)) (fun _ h9 => h9) rfl dX13_bind_113 ?_
  refine lv_iconst (v := 1) hx hb dX13_bind_116 (by decide) ?_
  refine lv_isub hx hb dX13_bind_117 ?_
  refine va_put (D := (dC, dI)) (ci := 14) (v := .int ((sI s13 24) - 1)) (ty := .int) (C := RX13) (T := TX13) (N := 37) hx hb hts hi_dm_X13_bind_X13 tyX13 tyX13_ok nmX13 hown hK hP hD hS 0 rfl rfl 35 (by decide) (hts (.fieldLink RX13 464 "TimeMachineModel$Assembler" "signs" "I") (List.mem_of_getElem? (i := 1) rfl)) (fun _ h9 => h9) rfl (by decide +kernel) rfl rfl (Nat.le_of_ble_eq_true rfl) dX13_bind_118 (fun H locs hP hD hS => ?_)
  obtain ⟨s14, es14, h⟩ := nd_let_e h
  have hP : va_P (dC, dI) vwCl (dw_X13 a ac s14) H := by rw [es14]; exact hP
  have hD : va_D A (dw_X13 a ac s14) := by rw [es14]; exact hD
  refine lv_goto (tgt := 2) hx hb dX13_bind_121 (by decide) ?_
  exact (J2) (x1) s14 _ _ _ h hP hD hS (lv_sub hl [0, 1] rfl)
set_option maxHeartbeats 40000000 in
set_option maxRecDepth 100000 in
theorem db_X13_bind_50 {p : Program} {l : Launch} {e : Env} {s : State} {m : MethodId} {args : Array Value} {below : List Frame} {meth : Method} {c : Code} {Q : State → Prop} {A : Nat → Prop} {dC : Nat → ClassId} {dI : Nat → Nat → Nat} {a : Nat → Nat} {ac : Nat → ClassId} {n : Nat} {r : St} (C : nd_C p l s m args c A (dC, dI) cX13_bind 4 RX13 ow_dm_X13_bind (dk_X13 ac)) (K : nd_Kv p l e (headSpec ow_dm_X13_bind ({ frames := 0, cells := 0, slots := 0, locals := 0 })).room s m args below meth c Q A (dC, dI) cX13_bind (St) (dw_X13 a ac) r) {g2 : Int32 → (St) → Option (St)} (J2 : dj_X13_bind_2 p l e s m args below meth c Q A dC dI a ac g2 r) : dj_X13_bind_50 p l e s m args below meth c Q A dC dI a ac (df_X13_bind_50 n g2) r := by
  obtain ⟨hlt, hx, hb, hml, hown, hts, hN, hA, hK⟩ := id C
  intro x2 x3 y0 s0 H locs ls h hP hD hS hl
  unfold df_X13_bind_50 at h
  refine lv_istore_n (lv' := [(1, .int y0), (0, .ref (a 0)), (2, .int x2), (3, .int x3)]) hx hb dX13_bind_50 rfl hl (by decide) rfl (fun ls hl => ?_)
  refine lv_iload_n hx hb dX13_bind_51 rfl (lv_at hl 0 rfl) ?_
  refine lv_if_ne (tgt := 58) hx hb dX13_bind_52 (by decide) (fun c8 => ?_) (fun c8 => ?_)
  · have h := nd_neg h c8
    refine lv_aload_n hx hb dX13_bind_58 rfl (lv_at hl 1 rfl) ?_
    refine va_get (D := (dC, dI)) (ci := 14) (v := .ref (a 10)) (C := RX13) (T := TX13) (N := 37) hx hb hts hi_dm_X13_bind_X13 hown hK hP 0 rfl rfl 34 (by decide) (hts (.fieldLink RX13 344 "TimeMachineModel$Assembler" "pile" "[I") (List.mem_of_getElem? (i := 2) rfl)) (fun _ h9 => h9) rfl dX13_bind_59 ?_
    refine lv_aload_n hx hb dX13_bind_62 rfl (lv_at hl 1 rfl) ?_
    refine va_get (D := (dC, dI)) (ci := 14) (v := .int (sI s0 25)) (C := RX13) (T := TX13) (N := 37) hx hb hts hi_dm_X13_bind_X13 hown hK hP 0 rfl rfl 36 (by decide) (hts (.fieldLink RX13 467 "TimeMachineModel$Assembler" "values" "I") (List.mem_of_getElem? (i := 3) rfl)) (fun _ h9 => h9) rfl dX13_bind_63 ?_
    refine lv_iload_n hx hb dX13_bind_66 rfl (lv_at hl 2 rfl) ?_
    refine lv_iconst (v := 2) hx hb dX13_bind_67 (by decide) ?_
    refine lv_icmp_ne (tgt := 76) hx hb dX13_bind_68 (by decide) (fun c9 => ?_) (fun c9 => ?_)
    · have h := nd_neg h c9
      refine lv_iload_n hx hb dX13_bind_76 rfl (lv_at hl 2 rfl) ?_
      refine lv_iconst (v := 3) hx hb dX13_bind_77 (by decide) ?_
      refine lv_icmp_ne (tgt := 87) hx hb dX13_bind_78 (by decide) (fun c10 => ?_) (fun c10 => ?_)
      · have h := nd_neg h c10
        refine lv_iload_n hx hb dX13_bind_87 rfl (lv_at hl 2 rfl) ?_
        refine lv_iconst (v := 4) hx hb dX13_bind_88 (by decide) ?_
        refine lv_icmp_ne (tgt := 103) hx hb dX13_bind_89 (by decide) (fun c11 => ?_) (fun c11 => ?_)
        · have h := nd_neg h c11
          refine lv_iload_n hx hb dX13_bind_103 rfl (lv_at hl 3 rfl) ?_
          refine lv_bipush (v := 20) hx hb dX13_bind_104 (by decide) ?_
          refine lv_ishl hx hb dX13_bind_106 ?_
          refine lv_bipush (v := 20) hx hb dX13_bind_107 (by decide) ?_
          refine lv_ishr hx hb dX13_bind_109 ?_
          exact (db_X13_bind_110 C K J2) (y0) ((sI s0 25)) (((((x3 : Int32) <<< ((20 : Int32) &&& 31)) : Int32) >>> ((20 : Int32) &&& 31))) s0 _ _ _ h hP hD hS (lv_sub hl [1, 0] rfl)
        · have h := nd_pos h c11
          refine lv_iload_n hx hb dX13_bind_92 rfl (lv_at hl 3 rfl) ?_
          refine lv_sipush (v := 2048) hx hb dX13_bind_93 (by decide) ?_
          refine lv_iadd hx hb dX13_bind_96 ?_
          refine lv_bipush (v := 12) hx hb dX13_bind_97 (by decide) ?_
          refine lv_iushr hx hb dX13_bind_99 rfl ?_
          refine lv_goto (tgt := 110) hx hb dX13_bind_100 (by decide) ?_
          exact (db_X13_bind_110 C K J2) (y0) ((sI s0 25)) (((((x3 + 2048) : Int32).toUInt32 >>> ((12 : Int32).toUInt32 &&& Int32.toUInt32 31)).toInt32)) s0 _ _ _ h hP hD hS (lv_sub hl [1, 0] rfl)
      · have h := nd_pos h c10
        refine lv_iload_n hx hb dX13_bind_81 rfl (lv_at hl 3 rfl) ?_
        refine lv_iconst (v := (-1)) hx hb dX13_bind_82 (by decide) ?_
        refine lv_ixor hx hb dX13_bind_83 ?_
        refine lv_goto (tgt := 110) hx hb dX13_bind_84 (by decide) ?_
        exact (db_X13_bind_110 C K J2) (y0) ((sI s0 25)) ((x3 ^^^ (-1))) s0 _ _ _ h hP hD hS (lv_sub hl [1, 0] rfl)
    · have h := nd_pos h c9
      refine lv_iload_n hx hb dX13_bind_71 rfl (lv_at hl 3 rfl) ?_
      refine lv_ineg hx hb dX13_bind_72 ?_
      refine lv_goto (tgt := 110) hx hb dX13_bind_73 (by decide) ?_
      exact (db_X13_bind_110 C K J2) (y0) ((sI s0 25)) ((-x3)) s0 _ _ _ h hP hD hS (lv_sub hl [1, 0] rfl)
  · have h := nd_pos h c8
    refine lv_goto (tgt := 2) hx hb dX13_bind_55 (by decide) ?_
    exact (J2) (y0) s0 _ _ _ h hP hD hS (lv_sub hl [1, 0] rfl)
set_option maxHeartbeats 40000000 in
set_option maxRecDepth 100000 in
theorem db_X13_bind_49 {p : Program} {l : Launch} {e : Env} {s : State} {m : MethodId} {args : Array Value} {below : List Frame} {meth : Method} {c : Code} {Q : State → Prop} {A : Nat → Prop} {dC : Nat → ClassId} {dI : Nat → Nat → Nat} {a : Nat → Nat} {ac : Nat → ClassId} {n : Nat} {r : St} (C : nd_C p l s m args c A (dC, dI) cX13_bind 4 RX13 ow_dm_X13_bind (dk_X13 ac)) (K : nd_Kv p l e (headSpec ow_dm_X13_bind ({ frames := 0, cells := 0, slots := 0, locals := 0 })).room s m args below meth c Q A (dC, dI) cX13_bind (St) (dw_X13 a ac) r) {g2 : Int32 → (St) → Option (St)} (J2 : dj_X13_bind_2 p l e s m args below meth c Q A dC dI a ac g2 r) : dj_X13_bind_49 p l e s m args below meth c Q A dC dI a ac (df_X13_bind_49 n g2) r := by
  obtain ⟨hlt, hx, hb, hml, hown, hts, hN, hA, hK⟩ := id C
  intro x2 x3 s0 H locs ls h hP hD hS hl
  unfold df_X13_bind_49 at h
  refine lv_iconst (v := 0) hx hb dX13_bind_49 (by decide) ?_
  exact (db_X13_bind_50 C K J2) (x2) (x3) (0) s0 _ _ _ h hP hD hS (lv_sub hl [0, 1, 2] rfl)
set_option maxHeartbeats 40000000 in
set_option maxRecDepth 100000 in
theorem dB_X13_bind_2 {p : Program} {l : Launch} {e : Env} {s : State} {m : MethodId} {args : Array Value} {below : List Frame} {meth : Method} {c : Code} {Q : State → Prop} {A : Nat → Prop} {dC : Nat → ClassId} {dI : Nat → Nat → Nat} {a : Nat → Nat} {ac : Nat → ClassId} {n : Nat} {r : St} (C : nd_C p l s m args c A (dC, dI) cX13_bind 4 RX13 ow_dm_X13_bind (dk_X13 ac)) (K : nd_Kv p l e (headSpec ow_dm_X13_bind ({ frames := 0, cells := 0, slots := 0, locals := 0 })).room s m args below meth c Q A (dC, dI) cX13_bind (St) (dw_X13 a ac) r) {g2 : Int32 → (St) → Option (St)} (J2 : dj_X13_bind_2 p l e s m args below meth c Q A dC dI a ac g2 r) : dj_X13_bind_2 p l e s m args below meth c Q A dC dI a ac (dF_X13_bind_2 n g2) r := by
  obtain ⟨hlt, hx, hb, hml, hown, hts, hN, hA, hK⟩ := id C
  intro x1 s0 H locs ls h hP hD hS hl
  unfold dF_X13_bind_2 at h
  refine lv_iload_n hx hb dX13_bind_2 rfl (lv_at hl 1 rfl) ?_
  refine lv_if_eq (tgt := 124) hx hb dX13_bind_3 (by decide) (fun c1 => ?_) (fun c1 => ?_)
  · have h := nd_pos h c1
    exact (db_X13_bind_124 C K)  s0 _ _ _ h hP hD hS (lv_sub hl [] rfl)
  · have h := nd_neg h c1
    refine lv_aload_n hx hb dX13_bind_6 rfl (lv_at hl 0 rfl) ?_
    refine va_get (D := (dC, dI)) (ci := 14) (v := .int (sI s0 24)) (C := RX13) (T := TX13) (N := 37) hx hb hts hi_dm_X13_bind_X13 hown hK hP 0 rfl rfl 35 (by decide) (hts (.fieldLink RX13 464 "TimeMachineModel$Assembler" "signs" "I") (List.mem_of_getElem? (i := 1) rfl)) (fun _ h9 => h9) rfl dX13_bind_7 ?_
    refine lv_if_le (tgt := 124) hx hb dX13_bind_10 (by decide) (fun c2 => ?_) (fun c2 => ?_)
    · have h := nd_pos h c2
      exact (db_X13_bind_124 C K)  s0 _ _ _ h hP hD hS (lv_sub hl [] rfl)
    · have h := nd_neg h c2
      refine lv_aload_n hx hb dX13_bind_13 rfl (lv_at hl 0 rfl) ?_
      refine va_get (D := (dC, dI)) (ci := 14) (v := .ref (a 10)) (C := RX13) (T := TX13) (N := 37) hx hb hts hi_dm_X13_bind_X13 hown hK hP 0 rfl rfl 34 (by decide) (hts (.fieldLink RX13 344 "TimeMachineModel$Assembler" "pile" "[I") (List.mem_of_getElem? (i := 2) rfl)) (fun _ h9 => h9) rfl dX13_bind_14 ?_
      refine lv_aload_n hx hb dX13_bind_17 rfl (lv_at hl 0 rfl) ?_
      refine va_get (D := (dC, dI)) (ci := 14) (v := .int (sI s0 24)) (C := RX13) (T := TX13) (N := 37) hx hb hts hi_dm_X13_bind_X13 hown hK hP 0 rfl rfl 35 (by decide) (hts (.fieldLink RX13 464 "TimeMachineModel$Assembler" "signs" "I") (List.mem_of_getElem? (i := 1) rfl)) (fun _ h9 => h9) rfl dX13_bind_18 ?_
      refine lv_iconst (v := 1) hx hb dX13_bind_21 (by decide) ?_
      refine lv_isub hx hb dX13_bind_22 ?_
      obtain ⟨i3, h⟩ := nd_ck_e h
      refine va_iald (i := ((sI s0 24) - 1)) hx hb hK hP 10 9 rfl rfl i3 dX13_bind_23 ?_
      refine lv_topi (fun z4 ez4 => ?_)
      have h := nd_at h ez4
      refine lv_istore_n (lv' := [(2, .int z4), (0, .ref (a 0)), (1, .int x1)]) hx hb dX13_bind_24 rfl hl (by decide) rfl (fun ls hl => ?_)
      refine lv_aload_n hx hb dX13_bind_25 rfl (lv_at hl 1 rfl) ?_
      refine va_get (D := (dC, dI)) (ci := 14) (v := .ref (a 10)) (C := RX13) (T := TX13) (N := 37) hx hb hts hi_dm_X13_bind_X13 hown hK hP 0 rfl rfl 34 (by decide) (hts (.fieldLink RX13 344 "TimeMachineModel$Assembler" "pile" "[I") (List.mem_of_getElem? (i := 2) rfl)) (fun _ h9 => h9) rfl dX13_bind_26 ?_
      refine lv_aload_n hx hb dX13_bind_29 rfl (lv_at hl 1 rfl) ?_
      refine va_get (D := (dC, dI)) (ci := 14) (v := .int (sI s0 25)) (C := RX13) (T := TX13) (N := 37) hx hb hts hi_dm_X13_bind_X13 hown hK hP 0 rfl rfl 36 (by decide) (hts (.fieldLink RX13 467 "TimeMachineModel$Assembler" "values" "I") (List.mem_of_getElem? (i := 3) rfl)) (fun _ h9 => h9) rfl dX13_bind_30 ?_
      obtain ⟨i5, h⟩ := nd_ck_e h
      refine va_iald (i := (sI s0 25)) hx hb hK hP 10 9 rfl rfl i5 dX13_bind_33 ?_
      refine lv_topi (fun z6 ez6 => ?_)
      have h := nd_at h ez6
      refine lv_istore_n (lv' := [(3, .int z6), (2, .int z4), (0, .ref (a 0)), (1, .int x1)]) hx hb dX13_bind_34 rfl hl (by decide) rfl (fun ls hl => ?_)
      refine lv_iload_n hx hb dX13_bind_35 rfl (lv_at hl 1 rfl) ?_
      refine lv_iconst (v := 1) hx hb dX13_bind_36 (by decide) ?_
      refine lv_icmp_le (tgt := 49) hx hb dX13_bind_37 (by decide) (fun c7 => ?_) (fun c7 => ?_)
      · have h := nd_pos h c7
        exact (db_X13_bind_49 C K J2) (z4) (z6) s0 _ _ _ h hP hD hS (lv_sub hl [2, 1, 0] rfl)
      · have h := nd_neg h c7
        refine lv_iload_n hx hb dX13_bind_40 rfl (lv_at hl 1 rfl) ?_
        refine lv_iconst (v := 5) hx hb dX13_bind_41 (by decide) ?_
        refine lv_icmp_gt (tgt := 49) hx hb dX13_bind_42 (by decide) (fun c15 => ?_) (fun c15 => ?_)
        · have h := nd_pos h c15
          exact (db_X13_bind_49 C K J2) (z4) (z6) s0 _ _ _ h hP hD hS (lv_sub hl [2, 1, 0] rfl)
        · have h := nd_neg h c15
          refine lv_iconst (v := 1) hx hb dX13_bind_45 (by decide) ?_
          refine lv_goto (tgt := 50) hx hb dX13_bind_46 (by decide) ?_
          exact (db_X13_bind_50 C K J2) (z4) (z6) (1) s0 _ _ _ h hP hD hS (lv_sub hl [2, 1, 0] rfl)
set_option maxHeartbeats 40000000 in
set_option maxRecDepth 100000 in
theorem db_X13_bind_2 {p : Program} {l : Launch} {e : Env} {s : State} {m : MethodId} {args : Array Value} {below : List Frame} {meth : Method} {c : Code} {Q : State → Prop} {A : Nat → Prop} {dC : Nat → ClassId} {dI : Nat → Nat → Nat} {a : Nat → Nat} {ac : Nat → ClassId} {n : Nat} {r : St} (C : nd_C p l s m args c A (dC, dI) cX13_bind 4 RX13 ow_dm_X13_bind (dk_X13 ac)) (K : nd_Kv p l e (headSpec ow_dm_X13_bind ({ frames := 0, cells := 0, slots := 0, locals := 0 })).room s m args below meth c Q A (dC, dI) cX13_bind (St) (dw_X13 a ac) r) (k : Nat) : dj_X13_bind_2 p l e s m args below meth c Q A dC dI a ac (df_X13_bind_2 n k) r := by
  induction k with
  | zero => intro x1 s0 H locs ls h; exact nomatch (show (none : Option (St)) = some r from h)
  | succ k ih => exact dB_X13_bind_2 C K ih
set_option maxHeartbeats 40000000 in
set_option maxRecDepth 100000 in
theorem db_X13_bind_0 {p : Program} {l : Launch} {e : Env} {s : State} {m : MethodId} {args : Array Value} {below : List Frame} {meth : Method} {c : Code} {Q : State → Prop} {A : Nat → Prop} {dC : Nat → ClassId} {dI : Nat → Nat → Nat} {a : Nat → Nat} {ac : Nat → ClassId} {n : Nat} {r : St} (C : nd_C p l s m args c A (dC, dI) cX13_bind 4 RX13 ow_dm_X13_bind (dk_X13 ac)) (K : nd_Kv p l e (headSpec ow_dm_X13_bind ({ frames := 0, cells := 0, slots := 0, locals := 0 })).room s m args below meth c Q A (dC, dI) cX13_bind (St) (dw_X13 a ac) r) : dj_X13_bind_0 p l e s m args below meth c Q A dC dI a ac (df_X13_bind_0 n) r := by
  obtain ⟨hlt, hx, hb, hml, hown, hts, hN, hA, hK⟩ := id C
  intro s0 H locs ls h hP hD hS hl
  unfold df_X13_bind_0 at h
  refine lv_iconst (v := 1) hx hb dX13_bind_0 (by decide) ?_
  refine lv_istore_n (lv' := [(1, .int 1), (0, .ref (a 0))]) hx hb dX13_bind_1 rfl hl (by decide) rfl (fun ls hl => ?_)
  exact (db_X13_bind_2 C K n) (1) s0 _ _ _ h hP hD hS (lv_sub hl [1, 0] rfl)
set_option maxHeartbeats 40000000 in
set_option maxRecDepth 100000 in
theorem dm_X13_bind (l : Launch) (hlt : l.stackTraces = false) (dC : Nat → ClassId) (dI : Nat → Nat → Nat) (a : Nat → Nat) (ac : Nat → ClassId) (n : Nat) (s0 : St) {r : St} (h : df_X13_bind n s0 = some r) (sz : Nat) : Met l yX13_bind ow_dm_X13_bind ({ frames := 0, cells := 0, slots := 0, locals := 0 }) (va_Pc [.ref (a 0)] (fun U => U.heap.size = sz ∧ va_P (dC, dI) vwCl (dw_X13 a ac s0) U.heap ∧ va_K (dC, dI) vwCl (dk_X13 ac) U ∧ va_D (fun _ => True) (dw_X13 a ac s0) ∧ nv_E (va_A (dw_X13 a ac s0) sz) U)) (va_Qv (fun _ => True) (fun (_ : Unit) t => va_P (dC, dI) vwCl (dw_X13 a ac r) t.heap ∧ va_K (dC, dI) vwCl (dk_X13 ac) t ∧ va_D (va_A (dw_X13 a ac s0) sz) (dw_X13 a ac r)) (va_A (dw_X13 a ac s0) sz)) 0 0 (va_A (dw_X13 a ac s0) sz) := by
  refine Met.ofW (cc := cX13_bind) (maxL := 4) (ret := none) (by decide) rfl ?_
  intro p e s m args below meth c s₁ B hml hv
  obtain ⟨rfl, hsz, hP, hK, hD0, hN⟩ := hv
  have hx := B.exec
  have hb := B.bytes
  have hr := B.returns
  have hts := atoms_spec (ws := ow_dm_X13_bind) B.pre
  have hown : s.vm.findClass RX13 = some m.cls := findClass_of_methodNamed B.named
  have hlocks := B.notSynchronized
  subst hsz
  have hD := hD0.self (sz := s.heap.size)
  generalize hAe : va_A (dw_X13 a ac s0) s.heap.size = A at hD hN ⊢
  have hA : ∀ q : Nat, s.heap.size ≤ q → A q := fun q h => by rw [← hAe]; exact Or.inr h
  have hl := lv_entry ([.ref (a 0)]) (n := 4) (Nat.le_of_ble_eq_true rfl)
  rw [lg_entry_eq]
  generalize (lg_sl ([.ref (a 0)]) ++ List.replicate (4 - (lg_sl ([.ref (a 0)])).length) Slot.unset).toArray = ls at hl ⊢
  have hl : lv_has ls 4 [(0, .ref (a 0))] := hl
  exact db_X13_bind_0 (dC := dC) (dI := dI) (a := a) (ac := ac) (n := n) (r := r) ⟨hlt, hx, hb, hml, hown, hts, hN, hA, hK⟩ (fun pc τ H locs ls d er hP hD hS => by subst er; exact W.vret hx hb hr (fun t ht hW => ⟨⟨(), rfl, trivial, by rw [ht]; exact hP, va_K.moved hW.alike hK, hD⟩, hS.F ht⟩) hS.2.2 d) s0 _ _ _ h hP hD va_S.rf (lv_sub hl [0] rfl)
def ow_dm_X13_name : List Cond := .code yX13_name cX13_name 4 none :: ([.fieldLink RX13 371 "TimeMachineModel$Assembler" "to" "I", .fieldLink RX13 368 "TimeMachineModel$Assembler" "from" "I", .fieldLink RX13 483 "TimeMachineModel$Assembler" "loose" "Z", .fieldLink RX13 457 "TimeMachineModel$Assembler" "missing" "Z", .methodLink RX13 461 yX13_valueOf, .instanceMethod yX13_valueOf, .selects RX13 yX13_valueOf yX13_valueOf, .initialized RX13, .methodLink RX13 489 yX13_value, .instanceMethod yX13_value, .selects RX13 yX13_value yX13_value, .fieldLink RX13 486 "TimeMachineModel$Assembler" "address" "I", .fieldLink RX13 337 "TimeMachineModel$Assembler" "label" "[I", .methodLink RX13 477 yX13_register, .instanceMethod yX13_register, .selects RX13 yX13_register yX13_register, .methodLink RX13 480 yX13_find, .instanceMethod yX13_find, .selects RX13 yX13_find yX13_find, .fieldLink RX13 324 "TimeMachineModel$Assembler" "text" "[C"] ++ (u_ws RX13 TX13 37 ++ (ow_dm_X13_valueOf ++ (ow_dm_X13_value ++ (ow_dm_X13_register ++ (ow_dm_X13_find ++ []))))))
theorem gd_dm_X13_name : ∀ w ∈ ow_dm_X13_name, (w.onTables && w.keeps) = true ∨ ∃ ty, w = Cond.arrayClass ty := List.forall_mem_cons.mpr ⟨good_of_word rfl, List.forall_mem_append.mpr ⟨fun w h => good_of_word (List.all_eq_true.mp (by decide +kernel) w h), List.forall_mem_append.mpr ⟨gu_X13, List.forall_mem_append.mpr ⟨gd_dm_X13_valueOf, List.forall_mem_append.mpr ⟨gd_dm_X13_value, List.forall_mem_append.mpr ⟨gd_dm_X13_register, List.forall_mem_append.mpr ⟨gd_dm_X13_find, fun _ h => nomatch h⟩⟩⟩⟩⟩⟩⟩
theorem hi_dm_X13_name_X13 : ∀ w ∈ u_ws RX13 TX13 37, w ∈ ow_dm_X13_name := fun w h => List.mem_cons_of_mem _ (List.mem_append_right _ (List.mem_append_left _ h))
theorem gi_dm_X13_name_0 : GoodIn ow_dm_X13_name (wsV RX13 461 RX13 yX13_valueOf ow_dm_X13_valueOf) := goodIn_app (goodIn_of _ (by decide +kernel)) (fun w h => ⟨List.mem_cons_of_mem _ (List.mem_append_right _ (List.mem_append_right _ (List.mem_append_left _ h))), gd_dm_X13_valueOf w h⟩)
theorem gi_dm_X13_name_1 : GoodIn ow_dm_X13_name (wsV RX13 489 RX13 yX13_value ow_dm_X13_value) := goodIn_app (goodIn_of _ (by decide +kernel)) (fun w h => ⟨List.mem_cons_of_mem _ (List.mem_append_right _ (List.mem_append_right _ (List.mem_append_right _ (List.mem_append_left _ h)))), gd_dm_X13_value w h⟩)
theorem gi_dm_X13_name_2 : GoodIn ow_dm_X13_name (wsV RX13 477 RX13 yX13_register ow_dm_X13_register) := goodIn_app (goodIn_of _ (by decide +kernel)) (fun w h => ⟨List.mem_cons_of_mem _ (List.mem_append_right _ (List.mem_append_right _ (List.mem_append_right _ (List.mem_append_right _ (List.mem_append_left _ h))))), gd_dm_X13_register w h⟩)
theorem gi_dm_X13_name_3 : GoodIn ow_dm_X13_name (wsV RX13 480 RX13 yX13_find ow_dm_X13_find) := goodIn_app (goodIn_of _ (by decide +kernel)) (fun w h => ⟨List.mem_cons_of_mem _ (List.mem_append_right _ (List.mem_append_right _ (List.mem_append_right _ (List.mem_append_right _ (List.mem_append_right _ (List.mem_append_left _ h)))))), gd_dm_X13_find w h⟩)
def dj_X13_name_161 (p : Program) (l : Launch) (e : Env) (s : State) (m : MethodId) (args : Array Value) (below : List Frame) (meth : Method) (c : Code) (Q : State → Prop) (A : Nat → Prop) (dC : Nat → ClassId) (dI : Nat → Nat → Nat) (a : Nat → Nat) (ac : Nat → ClassId) (g : Int32 → (St) → Option (St)) (r : St) : Prop := ∀ (y1 : Int32) (s0 : St) (H : Heap) (locs : List Loc) (ls : Array Slot), g y1 s0 = some r → va_P (dC, dI) vwCl (dw_X13 a ac s0) H → va_D A (dw_X13 a ac s0) → va_S A s.heap H locs → lv_has ls 4 [] → W p l e (headSpec ow_dm_X13_name ({ frames := 4, cells := 0, slots := 0, locals := 87 })).room s m args below meth c H locs 0 0 Q (F0 m 161 ls [.int y1, .ref (a 0)])
def dj_X13_name_133 (p : Program) (l : Launch) (e : Env) (s : State) (m : MethodId) (args : Array Value) (below : List Frame) (meth : Method) (c : Code) (Q : State → Prop) (A : Nat → Prop) (dC : Nat → ClassId) (dI : Nat → Nat → Nat) (a : Nat → Nat) (ac : Nat → ClassId) (g : Int32 → Int32 → Int32 → (St) → Option (St)) (r : St) : Prop := ∀ (x1 : Int32) (x2 : Int32) (y1 : Int32) (s0 : St) (H : Heap) (locs : List Loc) (ls : Array Slot), g x1 x2 y1 s0 = some r → va_P (dC, dI) vwCl (dw_X13 a ac s0) H → va_D A (dw_X13 a ac s0) → va_S A s.heap H locs → lv_has ls 4 [(0, .ref (a 0)), (1, .int x1), (2, .int x2)] → W p l e (headSpec ow_dm_X13_name ({ frames := 4, cells := 0, slots := 0, locals := 87 })).room s m args below meth c H locs 0 0 Q (F0 m 133 ls [.int y1, .ref (a 0)])
def dj_X13_name_128 (p : Program) (l : Launch) (e : Env) (s : State) (m : MethodId) (args : Array Value) (below : List Frame) (meth : Method) (c : Code) (Q : State → Prop) (A : Nat → Prop) (dC : Nat → ClassId) (dI : Nat → Nat → Nat) (a : Nat → Nat) (ac : Nat → ClassId) (g : Int32 → Int32 → (St) → Option (St)) (r : St) : Prop := ∀ (x1 : Int32) (x2 : Int32) (s0 : St) (H : Heap) (locs : List Loc) (ls : Array Slot), g x1 x2 s0 = some r → va_P (dC, dI) vwCl (dw_X13 a ac s0) H → va_D A (dw_X13 a ac s0) → va_S A s.heap H locs → lv_has ls 4 [(0, .ref (a 0)), (1, .int x1), (2, .int x2)] → W p l e (headSpec ow_dm_X13_name ({ frames := 4, cells := 0, slots := 0, locals := 87 })).room s m args below meth c H locs 0 0 Q (F0 m 128 ls [.ref (a 0)])
def dj_X13_name_132 (p : Program) (l : Launch) (e : Env) (s : State) (m : MethodId) (args : Array Value) (below : List Frame) (meth : Method) (c : Code) (Q : State → Prop) (A : Nat → Prop) (dC : Nat → ClassId) (dI : Nat → Nat → Nat) (a : Nat → Nat) (ac : Nat → ClassId) (g : Int32 → Int32 → (St) → Option (St)) (r : St) : Prop := ∀ (x1 : Int32) (x2 : Int32) (s0 : St) (H : Heap) (locs : List Loc) (ls : Array Slot), g x1 x2 s0 = some r → va_P (dC, dI) vwCl (dw_X13 a ac s0) H → va_D A (dw_X13 a ac s0) → va_S A s.heap H locs → lv_has ls 4 [(0, .ref (a 0)), (1, .int x1), (2, .int x2)] → W p l e (headSpec ow_dm_X13_name ({ frames := 4, cells := 0, slots := 0, locals := 87 })).room s m args below meth c H locs 0 0 Q (F0 m 132 ls [.ref (a 0)])
def dj_X13_name_109 (p : Program) (l : Launch) (e : Env) (s : State) (m : MethodId) (args : Array Value) (below : List Frame) (meth : Method) (c : Code) (Q : State → Prop) (A : Nat → Prop) (dC : Nat → ClassId) (dI : Nat → Nat → Nat) (a : Nat → Nat) (ac : Nat → ClassId) (g : Int32 → Int32 → Int32 → (St) → Option (St)) (r : St) : Prop := ∀ (x1 : Int32) (x2 : Int32) (y1 : Int32) (s0 : St) (H : Heap) (locs : List Loc) (ls : Array Slot), g x1 x2 y1 s0 = some r → va_P (dC, dI) vwCl (dw_X13 a ac s0) H → va_D A (dw_X13 a ac s0) → va_S A s.heap H locs → lv_has ls 4 [(0, .ref (a 0)), (1, .int x1), (2, .int x2)] → W p l e (headSpec ow_dm_X13_name ({ frames := 4, cells := 0, slots := 0, locals := 87 })).room s m args below meth c H locs 0 0 Q (F0 m 109 ls [.int y1, .ref (a 0)])
def dj_X13_name_104 (p : Program) (l : Launch) (e : Env) (s : State) (m : MethodId) (args : Array Value) (below : List Frame) (meth : Method) (c : Code) (Q : State → Prop) (A : Nat → Prop) (dC : Nat → ClassId) (dI : Nat → Nat → Nat) (a : Nat → Nat) (ac : Nat → ClassId) (g : Int32 → Int32 → (St) → Option (St)) (r : St) : Prop := ∀ (x1 : Int32) (x2 : Int32) (s0 : St) (H : Heap) (locs : List Loc) (ls : Array Slot), g x1 x2 s0 = some r → va_P (dC, dI) vwCl (dw_X13 a ac s0) H → va_D A (dw_X13 a ac s0) → va_S A s.heap H locs → lv_has ls 4 [(0, .ref (a 0)), (1, .int x1), (2, .int x2)] → W p l e (headSpec ow_dm_X13_name ({ frames := 4, cells := 0, slots := 0, locals := 87 })).room s m args below meth c H locs 0 0 Q (F0 m 104 ls [.ref (a 0)])
def dj_X13_name_91 (p : Program) (l : Launch) (e : Env) (s : State) (m : MethodId) (args : Array Value) (below : List Frame) (meth : Method) (c : Code) (Q : State → Prop) (A : Nat → Prop) (dC : Nat → ClassId) (dI : Nat → Nat → Nat) (a : Nat → Nat) (ac : Nat → ClassId) (g : Int32 → Int32 → Int32 → (St) → Option (St)) (r : St) : Prop := ∀ (x1 : Int32) (x2 : Int32) (y0 : Int32) (s0 : St) (H : Heap) (locs : List Loc) (ls : Array Slot), g x1 x2 y0 s0 = some r → va_P (dC, dI) vwCl (dw_X13 a ac s0) H → va_D A (dw_X13 a ac s0) → va_S A s.heap H locs → lv_has ls 4 [(0, .ref (a 0)), (1, .int x1), (2, .int x2)] → W p l e (headSpec ow_dm_X13_name ({ frames := 4, cells := 0, slots := 0, locals := 87 })).room s m args below meth c H locs 0 0 Q (F0 m 91 ls [.int y0])
def dj_X13_name_90 (p : Program) (l : Launch) (e : Env) (s : State) (m : MethodId) (args : Array Value) (below : List Frame) (meth : Method) (c : Code) (Q : State → Prop) (A : Nat → Prop) (dC : Nat → ClassId) (dI : Nat → Nat → Nat) (a : Nat → Nat) (ac : Nat → ClassId) (g : Int32 → Int32 → (St) → Option (St)) (r : St) : Prop := ∀ (x1 : Int32) (x2 : Int32) (s0 : St) (H : Heap) (locs : List Loc) (ls : Array Slot), g x1 x2 s0 = some r → va_P (dC, dI) vwCl (dw_X13 a ac s0) H → va_D A (dw_X13 a ac s0) → va_S A s.heap H locs → lv_has ls 4 [(0, .ref (a 0)), (1, .int x1), (2, .int x2)] → W p l e (headSpec ow_dm_X13_name ({ frames := 4, cells := 0, slots := 0, locals := 87 })).room s m args below meth c H locs 0 0 Q (F0 m 90 ls [])
def dj_X13_name_68 (p : Program) (l : Launch) (e : Env) (s : State) (m : MethodId) (args : Array Value) (below : List Frame) (meth : Method) (c : Code) (Q : State → Prop) (A : Nat → Prop) (dC : Nat → ClassId) (dI : Nat → Nat → Nat) (a : Nat → Nat) (ac : Nat → ClassId) (g : Int32 → Int32 → (St) → Option (St)) (r : St) : Prop := ∀ (x1 : Int32) (y0 : Int32) (s0 : St) (H : Heap) (locs : List Loc) (ls : Array Slot), g x1 y0 s0 = some r → va_P (dC, dI) vwCl (dw_X13 a ac s0) H → va_D A (dw_X13 a ac s0) → va_S A s.heap H locs → lv_has ls 4 [(0, .ref (a 0)), (1, .int x1)] → W p l e (headSpec ow_dm_X13_name ({ frames := 4, cells := 0, slots := 0, locals := 87 })).room s m args below meth c H locs 0 0 Q (F0 m 68 ls [.int y0])
def dj_X13_name_52 (p : Program) (l : Launch) (e : Env) (s : State) (m : MethodId) (args : Array Value) (below : List Frame) (meth : Method) (c : Code) (Q : State → Prop) (A : Nat → Prop) (dC : Nat → ClassId) (dI : Nat → Nat → Nat) (a : Nat → Nat) (ac : Nat → ClassId) (g : Int32 → (St) → Option (St)) (r : St) : Prop := ∀ (x1 : Int32) (s0 : St) (H : Heap) (locs : List Loc) (ls : Array Slot), g x1 s0 = some r → va_P (dC, dI) vwCl (dw_X13 a ac s0) H → va_D A (dw_X13 a ac s0) → va_S A s.heap H locs → lv_has ls 4 [(0, .ref (a 0)), (1, .int x1)] → W p l e (headSpec ow_dm_X13_name ({ frames := 4, cells := 0, slots := 0, locals := 87 })).room s m args below meth c H locs 0 0 Q (F0 m 52 ls [])
def dj_X13_name_32 (p : Program) (l : Launch) (e : Env) (s : State) (m : MethodId) (args : Array Value) (below : List Frame) (meth : Method) (c : Code) (Q : State → Prop) (A : Nat → Prop) (dC : Nat → ClassId) (dI : Nat → Nat → Nat) (a : Nat → Nat) (ac : Nat → ClassId) (g : Int32 → (St) → Option (St)) (r : St) : Prop := ∀ (y0 : Int32) (s0 : St) (H : Heap) (locs : List Loc) (ls : Array Slot), g y0 s0 = some r → va_P (dC, dI) vwCl (dw_X13 a ac s0) H → va_D A (dw_X13 a ac s0) → va_S A s.heap H locs → lv_has ls 4 [(0, .ref (a 0))] → W p l e (headSpec ow_dm_X13_name ({ frames := 4, cells := 0, slots := 0, locals := 87 })).room s m args below meth c H locs 0 0 Q (F0 m 32 ls [.int y0])
def dj_X13_name_31 (p : Program) (l : Launch) (e : Env) (s : State) (m : MethodId) (args : Array Value) (below : List Frame) (meth : Method) (c : Code) (Q : State → Prop) (A : Nat → Prop) (dC : Nat → ClassId) (dI : Nat → Nat → Nat) (a : Nat → Nat) (ac : Nat → ClassId) (g : (St) → Option (St)) (r : St) : Prop := ∀ (s0 : St) (H : Heap) (locs : List Loc) (ls : Array Slot), g s0 = some r → va_P (dC, dI) vwCl (dw_X13 a ac s0) H → va_D A (dw_X13 a ac s0) → va_S A s.heap H locs → lv_has ls 4 [(0, .ref (a 0))] → W p l e (headSpec ow_dm_X13_name ({ frames := 4, cells := 0, slots := 0, locals := 87 })).room s m args below meth c H locs 0 0 Q (F0 m 31 ls [])
def dj_X13_name_0 (p : Program) (l : Launch) (e : Env) (s : State) (m : MethodId) (args : Array Value) (below : List Frame) (meth : Method) (c : Code) (Q : State → Prop) (A : Nat → Prop) (dC : Nat → ClassId) (dI : Nat → Nat → Nat) (a : Nat → Nat) (ac : Nat → ClassId) (g : (St) → Option (St)) (r : St) : Prop := ∀ (s0 : St) (H : Heap) (locs : List Loc) (ls : Array Slot), g s0 = some r → va_P (dC, dI) vwCl (dw_X13 a ac s0) H → va_D A (dw_X13 a ac s0) → va_S A s.heap H locs → lv_has ls 4 [(0, .ref (a 0))] → W p l e (headSpec ow_dm_X13_name ({ frames := 4, cells := 0, slots := 0, locals := 87 })).room s m args below meth c H locs 0 0 Q (F0 m 0 ls [])
set_option maxHeartbeats 40000000 in
set_option maxRecDepth 100000 in
theorem db_X13_name_161 {p : Program} {l : Launch} {e : Env} {s : State} {m : MethodId} {args : Array Value} {below : List Frame} {meth : Method} {c : Code} {Q : State → Prop} {A : Nat → Prop} {dC : Nat → ClassId} {dI : Nat → Nat → Nat} {a : Nat → Nat} {ac : Nat → ClassId} {n : Nat} {r : St} (C : nd_C p l s m args c A (dC, dI) cX13_name 4 RX13 ow_dm_X13_name (dk_X13 ac)) (K : nd_Kv p l e (headSpec ow_dm_X13_name ({ frames := 4, cells := 0, slots := 0, locals := 87 })).room s m args below meth c Q A (dC, dI) cX13_name (St) (dw_X13 a ac) r) : dj_X13_name_161 p l e s m args below meth c Q A dC dI a ac (df_X13_name_161 n) r := by
  obtain ⟨hlt, hx, hb, hml, hown, hts, hN, hA, hK⟩ := id C
  intro y1 s0 H locs ls h hP hD hS hl
  unfold df_X13_name_161 at h
  obtain ⟨s18, hq, h⟩ := nd_b1_e h
  have hPc := hP
  have hDc := hD
  have hKc := hK
  have hFc := nd_rs hD hS hA
  refine nd_cVv (As := [.int y1]) (rest := []) (w' := dw_X13 a ac s18) ⟨hx, hb, hml, hown, hts⟩ (fun sz => dm_X13_value l hlt dC dI a ac n (y1) s0 hq sz) (cwV 1 hts gi_dm_X13_name_1 rfl rfl rfl (by decide +kernel) ⟨Nat.le_of_ble_eq_true rfl, Nat.le_of_ble_eq_true rfl⟩) hPc hDc hKc hS hA hN (va_recv hKc hPc (ci := 14) (q0 := 0) rfl rfl) rfl hl.1 rfl (Nat.le_of_ble_eq_true rfl) dX13_name_161 (fun H locs hP1 hD1 hk1 hS => ?_)
  have hP := hP1
  have hD := hD1.weaken (fun k q _ h => hFc q.1 h)
  exact K _ _ _ _ _ dX13_name_164 (Option.some.inj h).symm hP hD hS
