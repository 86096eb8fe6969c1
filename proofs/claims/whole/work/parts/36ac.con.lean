set_option maxHeartbeats 40000000 in
set_option maxRecDepth 100000 in
theorem db_X6_framesFor_0 {p : Program} {l : Launch} {e : Env} {s : State} {m : MethodId} {args : Array Value} {below : List Frame} {meth : Method} {c : Code} {Q : State → Prop} {A : Nat → Prop} {dC : Nat → ClassId} {dI : Nat → Nat → Nat} {a : Nat → Nat} {ac : Nat → ClassId} {n : Nat} {r : Int32 × (St × (St))} (C : nd_C p l s m args c A (dC, dI) cX6_framesFor 7 RX6 ow_dm_X6_framesFor (dk_X6 ac)) (K : nd_Ki p l e (headSpec ow_dm_X6_framesFor ({ frames := 0, cells := 0, slots := 0, locals := 0 })).room s m args below meth c Q A (dC, dI) cX6_framesFor .int (St × (St)) (dw_X6 a ac) r) : dj_X6_framesFor_0 p l e s m args below meth c Q A dC dI a ac (df_X6_framesFor_0 n) r := by
  obtain ⟨hlt, hx, hb, hml, hown, hts, hN, hA, hK⟩ := id C
  intro v0 v1 v2 s0 H locs ls h hP hD hS hl
  unfold df_X6_framesFor_0 at h
  refine lv_iload_n hx hb dX6_framesFor_0 rfl (lv_at hl 3 rfl) ?_
  refine lv_if_gt (tgt := 6) hx hb dX6_framesFor_1 (by decide) (fun c1 => ?_) (fun c1 => ?_)
  · have h := nd_pos h c1
    refine lv_iload_n hx hb dX6_framesFor_6 rfl (lv_at hl 1 rfl) ?_
    refine lv_bipush (v := 6) hx hb dX6_framesFor_7 (by decide) ?_
    refine lv_ishl hx hb dX6_framesFor_9 ?_
    refine lv_iload_n hx hb dX6_framesFor_10 rfl (lv_at hl 2 rfl) ?_
    refine lv_bipush (v := 10) hx hb dX6_framesFor_11 (by decide) ?_
    refine lv_iushr hx hb dX6_framesFor_13 rfl ?_
    refine lv_bipush (v := 63) hx hb dX6_framesFor_14 (by decide) ?_
    refine lv_iand hx hb dX6_framesFor_16 ?_
    refine lv_ior hx hb dX6_framesFor_17 ?_
    refine lv_topi (fun z2 ez2 => ?_)
    have h := nd_at h ez2
    refine lv_istore (lv' := [(4, .int z2), (0, .ref (a 0)), (1, .int v0), (2, .int v1), (3, .int v2)]) hx hb dX6_framesFor_18 hl (by decide) rfl (fun ls hl => ?_)
    refine lv_iload_n hx hb dX6_framesFor_20 rfl (lv_at hl 2 rfl) ?_
    refine lv_bipush (v := 6) hx hb dX6_framesFor_21 (by decide) ?_
    refine lv_ishl hx hb dX6_framesFor_23 ?_
    refine lv_iload_n hx hb dX6_framesFor_24 rfl (lv_at hl 3 rfl) ?_
    refine lv_iload_n hx hb dX6_framesFor_25 rfl (lv_at hl 4 rfl) ?_
    refine lv_iadd hx hb dX6_framesFor_26 ?_
    refine lv_iconst (v := 1) hx hb dX6_framesFor_27 (by decide) ?_
    refine lv_isub hx hb dX6_framesFor_28 ?_
    refine lv_bipush (v := 10) hx hb dX6_framesFor_29 (by decide) ?_
    refine lv_iushr hx hb dX6_framesFor_31 rfl ?_
    refine lv_bipush (v := 63) hx hb dX6_framesFor_32 (by decide) ?_
    refine lv_iand hx hb dX6_framesFor_34 ?_
    refine lv_ior hx hb dX6_framesFor_35 ?_
    refine lv_topi (fun z3 ez3 => ?_)
    have h := nd_at h ez3
    refine lv_istore (lv' := [(5, .int z3), (4, .int z2), (0, .ref (a 0)), (1, .int v0), (2, .int v1), (3, .int v2)]) hx hb dX6_framesFor_36 hl (by decide) rfl (fun ls hl => ?_)
    refine lv_aload_n hx hb dX6_framesFor_38 rfl (lv_at hl 2 rfl) ?_
    refine va_get (D := (dC, dI)) (ci := 7) (v := .ref (a 2)) (C := RX6) (T := TX6) (N := 20) hx hb hts hi_dm_X6_framesFor_X6 hown hK hP 0 rfl rfl 1 (by decide) (hts (.fieldLink RX6 14 "TimeMachine$Machine" "users" "[I") (List.mem_of_getElem? (i := 1) rfl)) (fun _ h9 => h9) rfl dX6_framesFor_39 ?_
    refine lv_aload_n hx hb dX6_framesFor_42 rfl (lv_at hl 2 rfl) ?_
    refine va_get (D := (dC, dI)) (ci := 7) (v := .ref (a 3)) (C := RX6) (T := TX6) (N := 20) hx hb hts hi_dm_X6_framesFor_X6 hown hK hP 0 rfl rfl 2 (by decide) (hts (.fieldLink RX6 17 "TimeMachine$Machine" "page" "[I") (List.mem_of_getElem? (i := 2) rfl)) (fun _ h9 => h9) rfl dX6_framesFor_43 ?_
    refine lv_iload hx hb dX6_framesFor_46 (lv_at hl 1 rfl) ?_
    obtain ⟨i4, h⟩ := nd_ck_e h
    refine va_iald (i := z2) hx hb hK hP 3 2 rfl rfl i4 dX6_framesFor_48 ?_
    refine lv_iconst (v := 3) hx hb dX6_framesFor_49 (by decide) ?_
    refine lv_ishr hx hb dX6_framesFor_50 ?_
    obtain ⟨i5, h⟩ := nd_ck_e h
    refine va_iald (i := (((sR s0.1 2 (Int32.toNatClampNeg z2)) : Int32) >>> ((3 : Int32) &&& 31))) hx hb hK hP 2 1 rfl rfl i5 dX6_framesFor_51 ?_
    refine lv_iconst (v := 1) hx hb dX6_framesFor_52 (by decide) ?_
    refine lv_icmp_le (tgt := 60) hx hb dX6_framesFor_53 (by decide) (fun c6 => ?_) (fun c6 => ?_)
    · have h := nd_pos h c6
      refine lv_iconst (v := 0) hx hb dX6_framesFor_60 (by decide) ?_
      exact (db_X6_framesFor_61 C K) (z2) (z3) (0) s0 _ _ _ h hP hD hS (lv_sub hl [2, 1, 0] rfl)
    · have h := nd_neg h c6
      refine lv_iconst (v := 1) hx hb dX6_framesFor_56 (by decide) ?_
      refine lv_goto (tgt := 61) hx hb dX6_framesFor_57 (by decide) ?_
      exact (db_X6_framesFor_61 C K) (z2) (z3) (1) s0 _ _ _ h hP hD hS (lv_sub hl [2, 1, 0] rfl)
  · have h := nd_neg h c1
    refine lv_iconst (v := 0) hx hb dX6_framesFor_4 (by decide) ?_
    exact K _ _ _ _ _ _ dX6_framesFor_5 rfl (Option.some.inj h).symm hP hD hS
set_option maxHeartbeats 40000000 in
set_option maxRecDepth 100000 in
theorem dm_X6_framesFor (l : Launch) (hlt : l.stackTraces = false) (dC : Nat → ClassId) (dI : Nat → Nat → Nat) (a : Nat → Nat) (ac : Nat → ClassId) (n : Nat) (v0 : Int32) (v1 : Int32) (v2 : Int32) (s0 : St × (St)) {r : Int32 × (St × (St))} (h : df_X6_framesFor n v0 v1 v2 s0 = some r) (sz : Nat) : Met l yX6_framesFor ow_dm_X6_framesFor ({ frames := 0, cells := 0, slots := 0, locals := 0 }) (va_Pc [.ref (a 0), .int v0, .int v1, .int v2] (fun U => U.heap.size = sz ∧ va_P (dC, dI) vwCl (dw_X6 a ac s0) U.heap ∧ va_K (dC, dI) vwCl (dk_X6 ac) U ∧ va_D (fun _ => True) (dw_X6 a ac s0) ∧ nv_E dI (va_A (dw_X6 a ac s0) sz) U)) (va_Qi (fun x _ => x = r.1) (fun (_ : Unit) t => va_P (dC, dI) vwCl (dw_X6 a ac r.2) t.heap ∧ va_K (dC, dI) vwCl (dk_X6 ac) t ∧ va_D (va_A (dw_X6 a ac s0) sz) (dw_X6 a ac r.2)) (va_A (dw_X6 a ac s0) sz)) 0 0 (va_A (dw_X6 a ac s0) sz) := by
  refine Met.ofW (cc := cX6_framesFor) (maxL := 7) (ret := (some .int)) (by decide) rfl ?_
  intro p e s m args below meth c s₁ B hml hv
  obtain ⟨rfl, hsz, hP, hK, hD0, hN⟩ := hv
  have hx := B.exec
  have hb := B.bytes
  have hr := B.returns
  have hts := atoms_spec (ws := ow_dm_X6_framesFor) B.pre
  have hown : s.vm.findClass RX6 = some m.cls := findClass_of_methodNamed B.named
  have hlocks := B.notSynchronized
  subst hsz
  have hD := hD0.self (sz := s.heap.size)
  generalize hAe : va_A (dw_X6 a ac s0) s.heap.size = A at hD hN ⊢
  have hA : ∀ q : Nat, s.heap.size ≤ q → A q := fun q h => by rw [← hAe]; exact Or.inr h
  have hl := lv_entry ([.ref (a 0), .int v0, .int v1, .int v2]) (n := 7) (Nat.le_of_ble_eq_true rfl)
  rw [lg_entry_eq]
  generalize (lg_sl ([.ref (a 0), .int v0, .int v1, .int v2]) ++ List.replicate (7 - (lg_sl ([.ref (a 0), .int v0, .int v1, .int v2])).length) Slot.unset).toArray = ls at hl ⊢
  have hl : lv_has ls 7 [(0, .ref (a 0)), (1, .int v0), (2, .int v1), (3, .int v2)] := hl
  exact db_X6_framesFor_0 (dC := dC) (dI := dI) (a := a) (ac := ac) (n := n) (r := r) ⟨hlt, hx, hb, hml, hown, hts, hN, hA, hK⟩ (fun pc v τ H locs ls d z er hP hD hS => by subst er; exact W.zret (v := v) hx hb hr z (fun t ht hW => ⟨⟨v, (), rfl, rfl, by rw [ht]; exact hP, va_K.moved hW.alike hK, hD⟩, hS.F ht⟩) hS.2.2 d) v0 v1 v2 s0 _ _ _ h hP hD va_S.rf (lv_sub hl [0, 1, 2, 3] rfl)
def ow_dm_X6_dropPage : List Cond := Cond.code yX6_dropPage cX6_dropPage 4 none :: ([Cond.fieldLink RX6 17 "TimeMachine$Machine" "page" "[I", Cond.fieldLink RX6 14 "TimeMachine$Machine" "users" "[I", Cond.fieldLink RX6 52 "TimeMachine$Machine" "framesUsed" "I"] ++ (u_ws RX6 TX6 20 ++ []))
theorem gd_dm_X6_dropPage : ∀ w ∈ ow_dm_X6_dropPage, (w.onTables && w.keeps) = true ∨ ∃ ty, w = Cond.arrayClass ty := List.forall_mem_cons.mpr ⟨good_of_word rfl, List.forall_mem_append.mpr ⟨fun w h => good_of_word (List.all_eq_true.mp (by decide +kernel) w h), List.forall_mem_append.mpr ⟨gu_X6, fun _ h => nomatch h⟩⟩⟩
theorem hi_dm_X6_dropPage_X6 : ∀ w ∈ u_ws RX6 TX6 20, w ∈ ow_dm_X6_dropPage := fun w h => List.mem_cons_of_mem _ (List.mem_append_right _ (List.mem_append_left _ h))
def dj_X6_dropPage_67 (p : Program) (l : Launch) (e : Env) (s : State) (m : MethodId) (args : Array Value) (below : List Frame) (meth : Method) (c : Code) (Q : State → Prop) (A : Nat → Prop) (dC : Nat → ClassId) (dI : Nat → Nat → Nat) (a : Nat → Nat) (ac : Nat → ClassId) (g : (St × (St)) → Option (St × (St))) (r : St × (St)) : Prop := ∀ (s0 : St × (St)) (H : Heap) (locs : List Loc) (ls : Array Slot), g s0 = some r → va_P (dC, dI) vwCl (dw_X6 a ac s0) H → va_D A (dw_X6 a ac s0) → va_S A s.heap H locs → lv_has ls 4 [] → W p l e (headSpec ow_dm_X6_dropPage ({ frames := 0, cells := 0, slots := 0, locals := 0 })).room s m args below meth c H locs 0 0 Q (F0 m 67 ls [])
def dj_X6_dropPage_0 (p : Program) (l : Launch) (e : Env) (s : State) (m : MethodId) (args : Array Value) (below : List Frame) (meth : Method) (c : Code) (Q : State → Prop) (A : Nat → Prop) (dC : Nat → ClassId) (dI : Nat → Nat → Nat) (a : Nat → Nat) (ac : Nat → ClassId) (g : Int32 → Int32 → (St × (St)) → Option (St × (St))) (r : St × (St)) : Prop := ∀ (v0 : Int32) (v1 : Int32) (s0 : St × (St)) (H : Heap) (locs : List Loc) (ls : Array Slot), g v0 v1 s0 = some r → va_P (dC, dI) vwCl (dw_X6 a ac s0) H → va_D A (dw_X6 a ac s0) → va_S A s.heap H locs → lv_has ls 4 [(0, .ref (a 0)), (1, .int v0), (2, .int v1)] → W p l e (headSpec ow_dm_X6_dropPage ({ frames := 0, cells := 0, slots := 0, locals := 0 })).room s m args below meth c H locs 0 0 Q (F0 m 0 ls [])
set_option maxHeartbeats 40000000 in
set_option maxRecDepth 100000 in
theorem db_X6_dropPage_67 {p : Program} {l : Launch} {e : Env} {s : State} {m : MethodId} {args : Array Value} {below : List Frame} {meth : Method} {c : Code} {Q : State → Prop} {A : Nat → Prop} {dC : Nat → ClassId} {dI : Nat → Nat → Nat} {a : Nat → Nat} {ac : Nat → ClassId} {n : Nat} {r : St × (St)} (C : nd_C p l s m args c A (dC, dI) cX6_dropPage 4 RX6 ow_dm_X6_dropPage (dk_X6 ac)) (K : nd_Kv p l e (headSpec ow_dm_X6_dropPage ({ frames := 0, cells := 0, slots := 0, locals := 0 })).room s m args below meth c Q A (dC, dI) cX6_dropPage (St × (St)) (dw_X6 a ac) r) : dj_X6_dropPage_67 p l e s m args below meth c Q A dC dI a ac (df_X6_dropPage_67 n) r := by
  obtain ⟨hlt, hx, hb, hml, hown, hts, hN, hA, hK⟩ := id C
  intro s0 H locs ls h hP hD hS hl
  unfold df_X6_dropPage_67 at h
  exact K _ _ _ _ _ dX6_dropPage_67 (Option.some.inj h).symm hP hD hS
set_option maxHeartbeats 40000000 in
set_option maxRecDepth 100000 in
theorem db_X6_dropPage_0 {p : Program} {l : Launch} {e : Env} {s : State} {m : MethodId} {args : Array Value} {below : List Frame} {meth : Method} {c : Code} {Q : State → Prop} {A : Nat → Prop} {dC : Nat → ClassId} {dI : Nat → Nat → Nat} {a : Nat → Nat} {ac : Nat → ClassId} {n : Nat} {r : St × (St)} (C : nd_C p l s m args c A (dC, dI) cX6_dropPage 4 RX6 ow_dm_X6_dropPage (dk_X6 ac)) (K : nd_Kv p l e (headSpec ow_dm_X6_dropPage ({ frames := 0, cells := 0, slots := 0, locals := 0 })).room s m args below meth c Q A (dC, dI) cX6_dropPage (St × (St)) (dw_X6 a ac) r) : dj_X6_dropPage_0 p l e s m args below meth c Q A dC dI a ac (df_X6_dropPage_0 n) r := by
  obtain ⟨hlt, hx, hb, hml, hown, hts, hN, hA, hK⟩ := id C
  intro v0 v1 s0 H locs ls h hP hD hS hl
  unfold df_X6_dropPage_0 at h
  refine lv_aload_n hx hb dX6_dropPage_0 rfl (lv_at hl 0 rfl) ?_
  refine va_get (D := (dC, dI)) (ci := 7) (v := .ref (a 3)) (C := RX6) (T := TX6) (N := 20) hx hb hts hi_dm_X6_dropPage_X6 hown hK hP 0 rfl rfl 2 (by decide) (hts (.fieldLink RX6 17 "TimeMachine$Machine" "page" "[I") (List.mem_of_getElem? (i := 1) rfl)) (fun _ h9 => h9) rfl dX6_dropPage_1 ?_
  refine lv_iload_n hx hb dX6_dropPage_4 rfl (lv_at hl 1 rfl) ?_
  refine lv_bipush (v := 6) hx hb dX6_dropPage_5 (by decide) ?_
  refine lv_ishl hx hb dX6_dropPage_7 ?_
  refine lv_iload_n hx hb dX6_dropPage_8 rfl (lv_at hl 2 rfl) ?_
  refine lv_bipush (v := 63) hx hb dX6_dropPage_9 (by decide) ?_
  refine lv_iand hx hb dX6_dropPage_11 ?_
  refine lv_ior hx hb dX6_dropPage_12 ?_
  obtain ⟨i1, h⟩ := nd_ck_e h
  refine va_iald (i := (((v0 : Int32) <<< ((6 : Int32) &&& 31)) ||| (v1 &&& 63))) hx hb hK hP 3 2 rfl rfl i1 dX6_dropPage_13 ?_
  refine lv_topi (fun z2 ez2 => ?_)
  have h := nd_at h ez2
  refine lv_istore_n (lv' := [(3, .int z2), (0, .ref (a 0)), (1, .int v0), (2, .int v1)]) hx hb dX6_dropPage_14 rfl hl (by decide) rfl (fun ls hl => ?_)
  refine lv_iload_n hx hb dX6_dropPage_15 rfl (lv_at hl 0 rfl) ?_
  refine lv_if_eq (tgt := 67) hx hb dX6_dropPage_16 (by decide) (fun c3 => ?_) (fun c3 => ?_)
  · have h := nd_pos h c3
    exact (db_X6_dropPage_67 C K)  s0 _ _ _ h hP hD hS (lv_sub hl [] rfl)
  · have h := nd_neg h c3
    refine lv_aload_n hx hb dX6_dropPage_19 rfl (lv_at hl 1 rfl) ?_
    refine va_get (D := (dC, dI)) (ci := 7) (v := .ref (a 3)) (C := RX6) (T := TX6) (N := 20) hx hb hts hi_dm_X6_dropPage_X6 hown hK hP 0 rfl rfl 2 (by decide) (hts (.fieldLink RX6 17 "TimeMachine$Machine" "page" "[I") (List.mem_of_getElem? (i := 1) rfl)) (fun _ h9 => h9) rfl dX6_dropPage_20 ?_
    refine lv_iload_n hx hb dX6_dropPage_23 rfl (lv_at hl 2 rfl) ?_
    refine lv_bipush (v := 6) hx hb dX6_dropPage_24 (by decide) ?_
    refine lv_ishl hx hb dX6_dropPage_26 ?_
    refine lv_iload_n hx hb dX6_dropPage_27 rfl (lv_at hl 3 rfl) ?_
    refine lv_bipush (v := 63) hx hb dX6_dropPage_28 (by decide) ?_
    refine lv_iand hx hb dX6_dropPage_30 ?_
    refine lv_ior hx hb dX6_dropPage_31 ?_
    refine lv_iconst (v := 0) hx hb dX6_dropPage_32 (by decide) ?_
    obtain ⟨i4, h⟩ := nd_ck_e h
    refine va_iast (i := (((v0 : Int32) <<< ((6 : Int32) &&& 31)) ||| (v1 &&& 63))) (x := 0) hx hb hK hP hD hS 3 2 rfl rfl i4 dX6_dropPage_33 (fun H locs hP hD hS => ?_)
    obtain ⟨s5, es5, h⟩ := nd_let_e h
    have hP : va_P (dC, dI) vwCl (dw_X6 a ac s5) H := by rw [es5]; exact hP
    have hD : va_D A (dw_X6 a ac s5) := by rw [es5]; exact hD
    refine lv_aload_n hx hb dX6_dropPage_34 rfl (lv_at hl 1 rfl) ?_
    refine va_get (D := (dC, dI)) (ci := 7) (v := .ref (a 2)) (C := RX6) (T := TX6) (N := 20) hx hb hts hi_dm_X6_dropPage_X6 hown hK hP 0 rfl rfl 1 (by decide) (hts (.fieldLink RX6 14 "TimeMachine$Machine" "users" "[I") (List.mem_of_getElem? (i := 2) rfl)) (fun _ h9 => h9) rfl dX6_dropPage_35 ?_
    refine lv_iload_n hx hb dX6_dropPage_38 rfl (lv_at hl 0 rfl) ?_
    refine lv_iconst (v := 3) hx hb dX6_dropPage_39 (by decide) ?_
    refine lv_ishr hx hb dX6_dropPage_40 ?_
    refine lv_dup2_11 hx hb dX6_dropPage_41 rfl rfl ?_
    obtain ⟨i6, h⟩ := nd_ck_e h
    refine va_iald (i := ((z2 : Int32) >>> ((3 : Int32) &&& 31))) hx hb hK hP 2 1 rfl rfl i6 dX6_dropPage_42 ?_
    refine lv_iconst (v := 1) hx hb dX6_dropPage_43 (by decide) ?_
    refine lv_isub hx hb dX6_dropPage_44 ?_
    obtain ⟨i7, h⟩ := nd_ck_e h
    refine va_iast (i := ((z2 : Int32) >>> ((3 : Int32) &&& 31))) (x := ((sR s5.1 1 (Int32.toNatClampNeg ((z2 : Int32) >>> ((3 : Int32) &&& 31)))) - 1)) hx hb hK hP hD hS 2 1 rfl rfl i7 dX6_dropPage_45 (fun H locs hP hD hS => ?_)
    obtain ⟨s8, es8, h⟩ := nd_let_e h
    have hP : va_P (dC, dI) vwCl (dw_X6 a ac s8) H := by rw [es8]; exact hP
    have hD : va_D A (dw_X6 a ac s8) := by rw [es8]; exact hD
    refine lv_aload_n hx hb dX6_dropPage_46 rfl (lv_at hl 1 rfl) ?_
    refine va_get (D := (dC, dI)) (ci := 7) (v := .ref (a 2)) (C := RX6) (T := TX6) (N := 20) hx hb hts hi_dm_X6_dropPage_X6 hown hK hP 0 rfl rfl 1 (by decide) (hts (.fieldLink RX6 14 "TimeMachine$Machine" "users" "[I") (List.mem_of_getElem? (i := 2) rfl)) (fun _ h9 => h9) rfl dX6_dropPage_47 ?_
    refine lv_iload_n hx hb dX6_dropPage_50 rfl (lv_at hl 0 rfl) ?_
    refine lv_iconst (v := 3) hx hb dX6_dropPage_51 (by decide) ?_
    refine lv_ishr hx hb dX6_dropPage_52 ?_
    obtain ⟨i9, h⟩ := nd_ck_e h
    refine va_iald (i := ((z2 : Int32) >>> ((3 : Int32) &&& 31))) hx hb hK hP 2 1 rfl rfl i9 dX6_dropPage_53 ?_
    refine lv_if_ne (tgt := 67) hx hb dX6_dropPage_54 (by decide) (fun c10 => ?_) (fun c10 => ?_)
    · have h := nd_neg h c10
      exact (db_X6_dropPage_67 C K)  s8 _ _ _ h hP hD hS (lv_sub hl [] rfl)
    · have h := nd_pos h c10
      refine lv_aload_n hx hb dX6_dropPage_57 rfl (lv_at hl 1 rfl) ?_
      refine lv_dup hx hb dX6_dropPage_58 rfl ?_
      refine va_get (D := (dC, dI)) (ci := 7) (v := .int (sI s8.1 0)) (C := RX6) (T := TX6) (N := 20) hx hb hts hi_dm_X6_dropPage_X6 hown hK hP 0 rfl rfl 3 (by decide) (hts (.fieldLink RX6 52 "TimeMachine$Machine" "framesUsed" "I") (List.mem_of_getElem? (i := 3) rfl)) (fun _ h9 => h9) rfl dX6_dropPage_59 ?_
      refine lv_iconst (v := 1) hx hb dX6_dropPage_62 (by decide) ?_
      refine lv_isub hx hb dX6_dropPage_63 ?_
      refine va_put (D := (dC, dI)) (ci := 7) (v := .int ((sI s8.1 0) - 1)) (ty := .int) (C := RX6) (T := TX6) (N := 20) hx hb hts hi_dm_X6_dropPage_X6 tyX6 tyX6_ok nmX6 hown hK hP hD hS 0 rfl rfl 3 (by decide) (hts (.fieldLink RX6 52 "TimeMachine$Machine" "framesUsed" "I") (List.mem_of_getElem? (i := 3) rfl)) (fun _ h9 => h9) rfl (by decide +kernel) rfl rfl (Nat.le_of_ble_eq_true rfl) dX6_dropPage_64 (fun H locs hP hD hS => ?_)
      obtain ⟨s11, es11, h⟩ := nd_let_e h
      have hP : va_P (dC, dI) vwCl (dw_X6 a ac s11) H := by rw [es11]; exact hP
      have hD : va_D A (dw_X6 a ac s11) := by rw [es11]; exact hD
      exact (db_X6_dropPage_67 C K)  s11 _ _ _ h hP hD hS (lv_sub hl [] rfl)
set_option maxHeartbeats 40000000 in
set_option maxRecDepth 100000 in
theorem dm_X6_dropPage (l : Launch) (hlt : l.stackTraces = false) (dC : Nat → ClassId) (dI : Nat → Nat → Nat) (a : Nat → Nat) (ac : Nat → ClassId) (n : Nat) (v0 : Int32) (v1 : Int32) (s0 : St × (St)) {r : St × (St)} (h : df_X6_dropPage n v0 v1 s0 = some r) (sz : Nat) : Met l yX6_dropPage ow_dm_X6_dropPage ({ frames := 0, cells := 0, slots := 0, locals := 0 }) (va_Pc [.ref (a 0), .int v0, .int v1] (fun U => U.heap.size = sz ∧ va_P (dC, dI) vwCl (dw_X6 a ac s0) U.heap ∧ va_K (dC, dI) vwCl (dk_X6 ac) U ∧ va_D (fun _ => True) (dw_X6 a ac s0) ∧ nv_E dI (va_A (dw_X6 a ac s0) sz) U)) (va_Qv (fun _ => True) (fun (_ : Unit) t => va_P (dC, dI) vwCl (dw_X6 a ac r) t.heap ∧ va_K (dC, dI) vwCl (dk_X6 ac) t ∧ va_D (va_A (dw_X6 a ac s0) sz) (dw_X6 a ac r)) (va_A (dw_X6 a ac s0) sz)) 0 0 (va_A (dw_X6 a ac s0) sz) := by
  refine Met.ofW (cc := cX6_dropPage) (maxL := 4) (ret := none) (by decide) rfl ?_
  intro p e s m args below meth c s₁ B hml hv
  obtain ⟨rfl, hsz, hP, hK, hD0, hN⟩ := hv
  have hx := B.exec
  have hb := B.bytes
  have hr := B.returns
  have hts := atoms_spec (ws := ow_dm_X6_dropPage) B.pre
  have hown : s.vm.findClass RX6 = some m.cls := findClass_of_methodNamed B.named
  have hlocks := B.notSynchronized
  subst hsz
  have hD := hD0.self (sz := s.heap.size)
  generalize hAe : va_A (dw_X6 a ac s0) s.heap.size = A at hD hN ⊢
  have hA : ∀ q : Nat, s.heap.size ≤ q → A q := fun q h => by rw [← hAe]; exact Or.inr h
  have hl := lv_entry ([.ref (a 0), .int v0, .int v1]) (n := 4) (Nat.le_of_ble_eq_true rfl)
  rw [lg_entry_eq]
  generalize (lg_sl ([.ref (a 0), .int v0, .int v1]) ++ List.replicate (4 - (lg_sl ([.ref (a 0), .int v0, .int v1])).length) Slot.unset).toArray = ls at hl ⊢
  have hl : lv_has ls 4 [(0, .ref (a 0)), (1, .int v0), (2, .int v1)] := hl
  exact db_X6_dropPage_0 (dC := dC) (dI := dI) (a := a) (ac := ac) (n := n) (r := r) ⟨hlt, hx, hb, hml, hown, hts, hN, hA, hK⟩ (fun pc τ H locs ls d er hP hD hS => by subst er; exact W.vret hx hb hr (fun t ht hW => ⟨⟨(), rfl, trivial, by rw [ht]; exact hP, va_K.moved hW.alike hK, hD⟩, hS.F ht⟩) hS.2.2 d) v0 v1 s0 _ _ _ h hP hD va_S.rf (lv_sub hl [0, 1, 2] rfl)
def ow_dm_X6_dropPages : List Cond := Cond.code yX6_dropPages cX6_dropPages 3 none :: ([Cond.methodLink RX6 113 yX6_dropPage, Cond.instanceMethod yX6_dropPage, Cond.selects RX6 yX6_dropPage yX6_dropPage, Cond.initialized RX6] ++ (ow_dm_X6_dropPage ++ []))
theorem gd_dm_X6_dropPages : ∀ w ∈ ow_dm_X6_dropPages, (w.onTables && w.keeps) = true ∨ ∃ ty, w = Cond.arrayClass ty := List.forall_mem_cons.mpr ⟨good_of_word rfl, List.forall_mem_append.mpr ⟨fun w h => good_of_word (List.all_eq_true.mp (by decide +kernel) w h), List.forall_mem_append.mpr ⟨gd_dm_X6_dropPage, fun _ h => nomatch h⟩⟩⟩
theorem gi_dm_X6_dropPages_0 : GoodIn ow_dm_X6_dropPages (wsV RX6 113 RX6 yX6_dropPage ow_dm_X6_dropPage) := goodIn_app (goodIn_of _ (by decide +kernel)) (fun w h => ⟨List.mem_cons_of_mem _ (List.mem_append_right _ (List.mem_append_left _ h)), gd_dm_X6_dropPage w h⟩)
def dj_X6_dropPages_2 (p : Program) (l : Launch) (e : Env) (s : State) (m : MethodId) (args : Array Value) (below : List Frame) (meth : Method) (c : Code) (Q : State → Prop) (A : Nat → Prop) (dC : Nat → ClassId) (dI : Nat → Nat → Nat) (a : Nat → Nat) (ac : Nat → ClassId) (g : Int32 → Int32 → (St × (St)) → Option (St × (St))) (r : St × (St)) : Prop := ∀ (x1 : Int32) (x2 : Int32) (s0 : St × (St)) (H : Heap) (locs : List Loc) (ls : Array Slot), g x1 x2 s0 = some r → va_P (dC, dI) vwCl (dw_X6 a ac s0) H → va_D A (dw_X6 a ac s0) → va_S A s.heap H locs → lv_has ls 3 [(0, .ref (a 0)), (1, .int x1), (2, .int x2)] → W p l e (headSpec ow_dm_X6_dropPages ({ frames := 1, cells := 0, slots := 0, locals := 23 })).room s m args below meth c H locs 0 0 Q (F0 m 2 ls [])
def dj_X6_dropPages_0 (p : Program) (l : Launch) (e : Env) (s : State) (m : MethodId) (args : Array Value) (below : List Frame) (meth : Method) (c : Code) (Q : State → Prop) (A : Nat → Prop) (dC : Nat → ClassId) (dI : Nat → Nat → Nat) (a : Nat → Nat) (ac : Nat → ClassId) (g : Int32 → (St × (St)) → Option (St × (St))) (r : St × (St)) : Prop := ∀ (v0 : Int32) (s0 : St × (St)) (H : Heap) (locs : List Loc) (ls : Array Slot), g v0 s0 = some r → va_P (dC, dI) vwCl (dw_X6 a ac s0) H → va_D A (dw_X6 a ac s0) → va_S A s.heap H locs → lv_has ls 3 [(0, .ref (a 0)), (1, .int v0)] → W p l e (headSpec ow_dm_X6_dropPages ({ frames := 1, cells := 0, slots := 0, locals := 23 })).room s m args below meth c H locs 0 0 Q (F0 m 0 ls [])
set_option maxHeartbeats 40000000 in
set_option maxRecDepth 100000 in
theorem dB_X6_dropPages_2 {p : Program} {l : Launch} {e : Env} {s : State} {m : MethodId} {args : Array Value} {below : List Frame} {meth : Method} {c : Code} {Q : State → Prop} {A : Nat → Prop} {dC : Nat → ClassId} {dI : Nat → Nat → Nat} {a : Nat → Nat} {ac : Nat → ClassId} {n : Nat} {r : St × (St)} (C : nd_C p l s m args c A (dC, dI) cX6_dropPages 3 RX6 ow_dm_X6_dropPages (dk_X6 ac)) (K : nd_Kv p l e (headSpec ow_dm_X6_dropPages ({ frames := 1, cells := 0, slots := 0, locals := 23 })).room s m args below meth c Q A (dC, dI) cX6_dropPages (St × (St)) (dw_X6 a ac) r) {g2 : Int32 → Int32 → (St × (St)) → Option (St × (St))} (J2 : dj_X6_dropPages_2 p l e s m args below meth c Q A dC dI a ac g2 r) : dj_X6_dropPages_2 p l e s m args below meth c Q A dC dI a ac (dF_X6_dropPages_2 n g2) r := by
  obtain ⟨hlt, hx, hb, hml, hown, hts, hN, hA, hK⟩ := id C
  intro x1 x2 s0 H locs ls h hP hD hS hl
  unfold dF_X6_dropPages_2 at h
  refine lv_iload_n hx hb dX6_dropPages_2 rfl (lv_at hl 2 rfl) ?_
  refine lv_bipush (v := 64) hx hb dX6_dropPages_3 (by decide) ?_
  refine lv_icmp_ge (tgt := 20) hx hb dX6_dropPages_5 (by decide) (fun c1 => ?_) (fun c1 => ?_)
  · have h := nd_pos h c1
    exact K _ _ _ _ _ dX6_dropPages_20 (Option.some.inj h).symm hP hD hS
  · have h := nd_neg h c1
    refine lv_aload_n hx hb dX6_dropPages_8 rfl (lv_at hl 0 rfl) ?_
    refine lv_iload_n hx hb dX6_dropPages_9 rfl (lv_at hl 1 rfl) ?_
    refine lv_iload_n hx hb dX6_dropPages_10 rfl (lv_at hl 2 rfl) ?_
    obtain ⟨s3, hq, h⟩ := nd_b1_e h
    have hPc := hP
    have hDc := hD
    have hKc := hK
    have hFc := nd_rs hD hS hA
    refine nd_cVv (As := [.int x1, .int x2]) (rest := []) (w' := dw_X6 a ac s3) ⟨hx, hb, hml, hown, hts⟩ (fun sz => dm_X6_dropPage l hlt dC dI a ac n (x1) (x2) s0 hq sz) (cwV 2 hts gi_dm_X6_dropPages_0 rfl rfl rfl (by decide +kernel) ⟨Nat.le_of_ble_eq_true rfl, Nat.le_of_ble_eq_true rfl⟩) hPc hDc hKc hS hA hN (va_recv hKc hPc (ci := 7) (q0 := 0) rfl rfl) rfl hl.1 rfl (Nat.le_of_ble_eq_true rfl) dX6_dropPages_11 (fun H locs hP1 hD1 hk1 hS => ?_)
    have hP := hP1
    have hD := hD1.weaken (fun k q _ h => hFc q.1 h)
    obtain ⟨z5, ez5, h⟩ := nd_let_e h
    refine lv_iinc (v := z5) (lv' := [(2, .int z5), (0, .ref (a 0)), (1, .int x1)]) hx hb dX6_dropPages_14 hl (k := 2) rfl (by rw [ez5]) (by decide) rfl (fun ls hl => ?_)
    refine lv_goto (tgt := 2) hx hb dX6_dropPages_17 (by decide) ?_
    exact (J2) (x1) (z5) s3 _ _ _ h hP hD hS (lv_sub hl [1, 2, 0] rfl)
set_option maxHeartbeats 40000000 in
set_option maxRecDepth 100000 in
theorem db_X6_dropPages_2 {p : Program} {l : Launch} {e : Env} {s : State} {m : MethodId} {args : Array Value} {below : List Frame} {meth : Method} {c : Code} {Q : State → Prop} {A : Nat → Prop} {dC : Nat → ClassId} {dI : Nat → Nat → Nat} {a : Nat → Nat} {ac : Nat → ClassId} {n : Nat} {r : St × (St)} (C : nd_C p l s m args c A (dC, dI) cX6_dropPages 3 RX6 ow_dm_X6_dropPages (dk_X6 ac)) (K : nd_Kv p l e (headSpec ow_dm_X6_dropPages ({ frames := 1, cells := 0, slots := 0, locals := 23 })).room s m args below meth c Q A (dC, dI) cX6_dropPages (St × (St)) (dw_X6 a ac) r) (k : Nat) : dj_X6_dropPages_2 p l e s m args below meth c Q A dC dI a ac (df_X6_dropPages_2 n k) r := by
  induction k with
  | zero => intro x1 x2 s0 H locs ls h; exact nomatch (show (none : Option (St × (St))) = some r from h)
  | succ k ih => exact dB_X6_dropPages_2 C K ih
set_option maxHeartbeats 40000000 in
set_option maxRecDepth 100000 in
theorem db_X6_dropPages_0 {p : Program} {l : Launch} {e : Env} {s : State} {m : MethodId} {args : Array Value} {below : List Frame} {meth : Method} {c : Code} {Q : State → Prop} {A : Nat → Prop} {dC : Nat → ClassId} {dI : Nat → Nat → Nat} {a : Nat → Nat} {ac : Nat → ClassId} {n : Nat} {r : St × (St)} (C : nd_C p l s m args c A (dC, dI) cX6_dropPages 3 RX6 ow_dm_X6_dropPages (dk_X6 ac)) (K : nd_Kv p l e (headSpec ow_dm_X6_dropPages ({ frames := 1, cells := 0, slots := 0, locals := 23 })).room s m args below meth c Q A (dC, dI) cX6_dropPages (St × (St)) (dw_X6 a ac) r) : dj_X6_dropPages_0 p l e s m args below meth c Q A dC dI a ac (df_X6_dropPages_0 n) r := by
  obtain ⟨hlt, hx, hb, hml, hown, hts, hN, hA, hK⟩ := id C
  intro v0 s0 H locs ls h hP hD hS hl
  unfold df_X6_dropPages_0 at h
  refine lv_iconst (v := 0) hx hb dX6_dropPages_0 (by decide) ?_
  refine lv_istore_n (lv' := [(2, .int 0), (0, .ref (a 0)), (1, .int v0)]) hx hb dX6_dropPages_1 rfl hl (by decide) rfl (fun ls hl => ?_)
  exact (db_X6_dropPages_2 C K n) (v0) (0) s0 _ _ _ h hP hD hS (lv_sub hl [1, 2, 0] rfl)
set_option maxHeartbeats 40000000 in
set_option maxRecDepth 100000 in
theorem dm_X6_dropPages (l : Launch) (hlt : l.stackTraces = false) (dC : Nat → ClassId) (dI : Nat → Nat → Nat) (a : Nat → Nat) (ac : Nat → ClassId) (n : Nat) (v0 : Int32) (s0 : St × (St)) {r : St × (St)} (h : df_X6_dropPages n v0 s0 = some r) (sz : Nat) : Met l yX6_dropPages ow_dm_X6_dropPages ({ frames := 1, cells := 0, slots := 0, locals := 23 }) (va_Pc [.ref (a 0), .int v0] (fun U => U.heap.size = sz ∧ va_P (dC, dI) vwCl (dw_X6 a ac s0) U.heap ∧ va_K (dC, dI) vwCl (dk_X6 ac) U ∧ va_D (fun _ => True) (dw_X6 a ac s0) ∧ nv_E dI (va_A (dw_X6 a ac s0) sz) U)) (va_Qv (fun _ => True) (fun (_ : Unit) t => va_P (dC, dI) vwCl (dw_X6 a ac r) t.heap ∧ va_K (dC, dI) vwCl (dk_X6 ac) t ∧ va_D (va_A (dw_X6 a ac s0) sz) (dw_X6 a ac r)) (va_A (dw_X6 a ac s0) sz)) 0 0 (va_A (dw_X6 a ac s0) sz) := by
  refine Met.ofW (cc := cX6_dropPages) (maxL := 3) (ret := none) (by decide) rfl ?_
  intro p e s m args below meth c s₁ B hml hv
  obtain ⟨rfl, hsz, hP, hK, hD0, hN⟩ := hv
  have hx := B.exec
  have hb := B.bytes
  have hr := B.returns
  have hts := atoms_spec (ws := ow_dm_X6_dropPages) B.pre
  have hown : s.vm.findClass RX6 = some m.cls := findClass_of_methodNamed B.named
  have hlocks := B.notSynchronized
  subst hsz
  have hD := hD0.self (sz := s.heap.size)
  generalize hAe : va_A (dw_X6 a ac s0) s.heap.size = A at hD hN ⊢
  have hA : ∀ q : Nat, s.heap.size ≤ q → A q := fun q h => by rw [← hAe]; exact Or.inr h
  have hl := lv_entry ([.ref (a 0), .int v0]) (n := 3) (Nat.le_of_ble_eq_true rfl)
  rw [lg_entry_eq]
  generalize (lg_sl ([.ref (a 0), .int v0]) ++ List.replicate (3 - (lg_sl ([.ref (a 0), .int v0])).length) Slot.unset).toArray = ls at hl ⊢
  have hl : lv_has ls 3 [(0, .ref (a 0)), (1, .int v0)] := hl
  exact db_X6_dropPages_0 (dC := dC) (dI := dI) (a := a) (ac := ac) (n := n) (r := r) ⟨hlt, hx, hb, hml, hown, hts, hN, hA, hK⟩ (fun pc τ H locs ls d er hP hD hS => by subst er; exact W.vret hx hb hr (fun t ht hW => ⟨⟨(), rfl, trivial, by rw [ht]; exact hP, va_K.moved hW.alike hK, hD⟩, hS.F ht⟩) hS.2.2 d) v0 s0 _ _ _ h hP hD va_S.rf (lv_sub hl [0, 1] rfl)
def ow_dm_X6_pagesOf : List Cond := Cond.code yX6_pagesOf cX6_pagesOf 4 (some .int) :: ([Cond.fieldLink RX6 17 "TimeMachine$Machine" "page" "[I"] ++ (u_ws RX6 TX6 20 ++ []))
theorem gd_dm_X6_pagesOf : ∀ w ∈ ow_dm_X6_pagesOf, (w.onTables && w.keeps) = true ∨ ∃ ty, w = Cond.arrayClass ty := List.forall_mem_cons.mpr ⟨good_of_word rfl, List.forall_mem_append.mpr ⟨fun w h => good_of_word (List.all_eq_true.mp (by decide +kernel) w h), List.forall_mem_append.mpr ⟨gu_X6, fun _ h => nomatch h⟩⟩⟩
theorem hi_dm_X6_pagesOf_X6 : ∀ w ∈ u_ws RX6 TX6 20, w ∈ ow_dm_X6_pagesOf := fun w h => List.mem_cons_of_mem _ (List.mem_append_right _ (List.mem_append_left _ h))
def dj_X6_pagesOf_27 (p : Program) (l : Launch) (e : Env) (s : State) (m : MethodId) (args : Array Value) (below : List Frame) (meth : Method) (c : Code) (Q : State → Prop) (A : Nat → Prop) (dC : Nat → ClassId) (dI : Nat → Nat → Nat) (a : Nat → Nat) (ac : Nat → ClassId) (g : Int32 → Int32 → Int32 → (St × (St)) → Option (Int32 × (St × (St)))) (r : Int32 × (St × (St))) : Prop := ∀ (x1 : Int32) (x2 : Int32) (x3 : Int32) (s0 : St × (St)) (H : Heap) (locs : List Loc) (ls : Array Slot), g x1 x2 x3 s0 = some r → va_P (dC, dI) vwCl (dw_X6 a ac s0) H → va_D A (dw_X6 a ac s0) → va_S A s.heap H locs → lv_has ls 4 [(0, .ref (a 0)), (1, .int x1), (2, .int x2), (3, .int x3)] → W p l e (headSpec ow_dm_X6_pagesOf ({ frames := 0, cells := 0, slots := 0, locals := 0 })).room s m args below meth c H locs 0 0 Q (F0 m 27 ls [])
def dj_X6_pagesOf_4 (p : Program) (l : Launch) (e : Env) (s : State) (m : MethodId) (args : Array Value) (below : List Frame) (meth : Method) (c : Code) (Q : State → Prop) (A : Nat → Prop) (dC : Nat → ClassId) (dI : Nat → Nat → Nat) (a : Nat → Nat) (ac : Nat → ClassId) (g : Int32 → Int32 → Int32 → (St × (St)) → Option (Int32 × (St × (St)))) (r : Int32 × (St × (St))) : Prop := ∀ (x1 : Int32) (x2 : Int32) (x3 : Int32) (s0 : St × (St)) (H : Heap) (locs : List Loc) (ls : Array Slot), g x1 x2 x3 s0 = some r → va_P (dC, dI) vwCl (dw_X6 a ac s0) H → va_D A (dw_X6 a ac s0) → va_S A s.heap H locs → lv_has ls 4 [(0, .ref (a 0)), (1, .int x1), (2, .int x2), (3, .int x3)] → W p l e (headSpec ow_dm_X6_pagesOf ({ frames := 0, cells := 0, slots := 0, locals := 0 })).room s m args below meth c H locs 0 0 Q (F0 m 4 ls [])
def dj_X6_pagesOf_0 (p : Program) (l : Launch) (e : Env) (s : State) (m : MethodId) (args : Array Value) (below : List Frame) (meth : Method) (c : Code) (Q : State → Prop) (A : Nat → Prop) (dC : Nat → ClassId) (dI : Nat → Nat → Nat) (a : Nat → Nat) (ac : Nat → ClassId) (g : Int32 → (St × (St)) → Option (Int32 × (St × (St)))) (r : Int32 × (St × (St))) : Prop := ∀ (v0 : Int32) (s0 : St × (St)) (H : Heap) (locs : List Loc) (ls : Array Slot), g v0 s0 = some r → va_P (dC, dI) vwCl (dw_X6 a ac s0) H → va_D A (dw_X6 a ac s0) → va_S A s.heap H locs → lv_has ls 4 [(0, .ref (a 0)), (1, .int v0)] → W p l e (headSpec ow_dm_X6_pagesOf ({ frames := 0, cells := 0, slots := 0, locals := 0 })).room s m args below meth c H locs 0 0 Q (F0 m 0 ls [])
set_option maxHeartbeats 40000000 in
set_option maxRecDepth 100000 in
theorem db_X6_pagesOf_27 {p : Program} {l : Launch} {e : Env} {s : State} {m : MethodId} {args : Array Value} {below : List Frame} {meth : Method} {c : Code} {Q : State → Prop} {A : Nat → Prop} {dC : Nat → ClassId} {dI : Nat → Nat → Nat} {a : Nat → Nat} {ac : Nat → ClassId} {n : Nat} {r : Int32 × (St × (St))} (C : nd_C p l s m args c A (dC, dI) cX6_pagesOf 4 RX6 ow_dm_X6_pagesOf (dk_X6 ac)) (K : nd_Ki p l e (headSpec ow_dm_X6_pagesOf ({ frames := 0, cells := 0, slots := 0, locals := 0 })).room s m args below meth c Q A (dC, dI) cX6_pagesOf .int (St × (St)) (dw_X6 a ac) r) {g4 : Int32 → Int32 → Int32 → (St × (St)) → Option (Int32 × (St × (St)))} (J4 : dj_X6_pagesOf_4 p l e s m args below meth c Q A dC dI a ac g4 r) : dj_X6_pagesOf_27 p l e s m args below meth c Q A dC dI a ac (df_X6_pagesOf_27 n g4) r := by
  obtain ⟨hlt, hx, hb, hml, hown, hts, hN, hA, hK⟩ := id C
  intro x1 x2 x3 s0 H locs ls h hP hD hS hl
  unfold df_X6_pagesOf_27 at h
  obtain ⟨z4, ez4, h⟩ := nd_let_e h
  refine lv_iinc (v := z4) (lv' := [(3, .int z4), (0, .ref (a 0)), (1, .int x1), (2, .int x2)]) hx hb dX6_pagesOf_27 hl (k := 3) rfl (by rw [ez4]) (by decide) rfl (fun ls hl => ?_)
  refine lv_goto (tgt := 4) hx hb dX6_pagesOf_30 (by decide) ?_
  exact (J4) (x1) (x2) (z4) s0 _ _ _ h hP hD hS (lv_sub hl [1, 2, 3, 0] rfl)
set_option maxHeartbeats 40000000 in
set_option maxRecDepth 100000 in
theorem dB_X6_pagesOf_4 {p : Program} {l : Launch} {e : Env} {s : State} {m : MethodId} {args : Array Value} {below : List Frame} {meth : Method} {c : Code} {Q : State → Prop} {A : Nat → Prop} {dC : Nat → ClassId} {dI : Nat → Nat → Nat} {a : Nat → Nat} {ac : Nat → ClassId} {n : Nat} {r : Int32 × (St × (St))} (C : nd_C p l s m args c A (dC, dI) cX6_pagesOf 4 RX6 ow_dm_X6_pagesOf (dk_X6 ac)) (K : nd_Ki p l e (headSpec ow_dm_X6_pagesOf ({ frames := 0, cells := 0, slots := 0, locals := 0 })).room s m args below meth c Q A (dC, dI) cX6_pagesOf .int (St × (St)) (dw_X6 a ac) r) {g4 : Int32 → Int32 → Int32 → (St × (St)) → Option (Int32 × (St × (St)))} (J4 : dj_X6_pagesOf_4 p l e s m args below meth c Q A dC dI a ac g4 r) : dj_X6_pagesOf_4 p l e s m args below meth c Q A dC dI a ac (dF_X6_pagesOf_4 n g4) r := by
  obtain ⟨hlt, hx, hb, hml, hown, hts, hN, hA, hK⟩ := id C
  intro x1 x2 x3 s0 H locs ls h hP hD hS hl
  unfold dF_X6_pagesOf_4 at h
  refine lv_iload_n hx hb dX6_pagesOf_4 rfl (lv_at hl 3 rfl) ?_
  refine lv_bipush (v := 64) hx hb dX6_pagesOf_5 (by decide) ?_
  refine lv_icmp_ge (tgt := 33) hx hb dX6_pagesOf_7 (by decide) (fun c1 => ?_) (fun c1 => ?_)
  · have h := nd_pos h c1
    refine lv_iload_n hx hb dX6_pagesOf_33 rfl (lv_at hl 2 rfl) ?_
    exact K _ _ _ _ _ _ dX6_pagesOf_34 rfl (Option.some.inj h).symm hP hD hS
  · have h := nd_neg h c1
    refine lv_aload_n hx hb dX6_pagesOf_10 rfl (lv_at hl 0 rfl) ?_
    refine va_get (D := (dC, dI)) (ci := 7) (v := .ref (a 3)) (C := RX6) (T := TX6) (N := 20) hx hb hts hi_dm_X6_pagesOf_X6 hown hK hP 0 rfl rfl 2 (by decide) (hts (.fieldLink RX6 17 "TimeMachine$Machine" "page" "[I") (List.mem_of_getElem? (i := 1) rfl)) (fun _ h9 => h9) rfl dX6_pagesOf_11 ?_
    refine lv_iload_n hx hb dX6_pagesOf_14 rfl (lv_at hl 1 rfl) ?_
    refine lv_bipush (v := 6) hx hb dX6_pagesOf_15 (by decide) ?_
    refine lv_ishl hx hb dX6_pagesOf_17 ?_
    refine lv_iload_n hx hb dX6_pagesOf_18 rfl (lv_at hl 3 rfl) ?_
    refine lv_ior hx hb dX6_pagesOf_19 ?_
    obtain ⟨i2, h⟩ := nd_ck_e h
    refine va_iald (i := (((x1 : Int32) <<< ((6 : Int32) &&& 31)) ||| x3)) hx hb hK hP 3 2 rfl rfl i2 dX6_pagesOf_20 ?_
    refine lv_if_eq (tgt := 27) hx hb dX6_pagesOf_21 (by decide) (fun c3 => ?_) (fun c3 => ?_)
    · have h := nd_pos h c3
      exact (db_X6_pagesOf_27 C K J4) (x1) (x2) (x3) s0 _ _ _ h hP hD hS (lv_sub hl [0, 1, 2, 3] rfl)
    · have h := nd_neg h c3
      obtain ⟨z5, ez5, h⟩ := nd_let_e h
      refine lv_iinc (v := z5) (lv' := [(2, .int z5), (0, .ref (a 0)), (1, .int x1), (3, .int x3)]) hx hb dX6_pagesOf_24 hl (k := 2) rfl (by rw [ez5]) (by decide) rfl (fun ls hl => ?_)
      exact (db_X6_pagesOf_27 C K J4) (x1) (z5) (x3) s0 _ _ _ h hP hD hS (lv_sub hl [1, 2, 0, 3] rfl)
set_option maxHeartbeats 40000000 in
set_option maxRecDepth 100000 in
theorem db_X6_pagesOf_4 {p : Program} {l : Launch} {e : Env} {s : State} {m : MethodId} {args : Array Value} {below : List Frame} {meth : Method} {c : Code} {Q : State → Prop} {A : Nat → Prop} {dC : Nat → ClassId} {dI : Nat → Nat → Nat} {a : Nat → Nat} {ac : Nat → ClassId} {n : Nat} {r : Int32 × (St × (St))} (C : nd_C p l s m args c A (dC, dI) cX6_pagesOf 4 RX6 ow_dm_X6_pagesOf (dk_X6 ac)) (K : nd_Ki p l e (headSpec ow_dm_X6_pagesOf ({ frames := 0, cells := 0, slots := 0, locals := 0 })).room s m args below meth c Q A (dC, dI) cX6_pagesOf .int (St × (St)) (dw_X6 a ac) r) (k : Nat) : dj_X6_pagesOf_4 p l e s m args below meth c Q A dC dI a ac (df_X6_pagesOf_4 n k) r := by
  induction k with
  | zero => intro x1 x2 x3 s0 H locs ls h; exact nomatch (show (none : Option (Int32 × (St × (St)))) = some r from h)
  | succ k ih => exact dB_X6_pagesOf_4 C K ih
set_option maxHeartbeats 40000000 in
set_option maxRecDepth 100000 in
theorem db_X6_pagesOf_0 {p : Program} {l : Launch} {e : Env} {s : State} {m : MethodId} {args : Array Value} {below : List Frame} {meth : Method} {c : Code} {Q : State → Prop} {A : Nat → Prop} {dC : Nat → ClassId} {dI : Nat → Nat → Nat} {a : Nat → Nat} {ac : Nat → ClassId} {n : Nat} {r : Int32 × (St × (St))} (C : nd_C p l s m args c A (dC, dI) cX6_pagesOf 4 RX6 ow_dm_X6_pagesOf (dk_X6 ac)) (K : nd_Ki p l e (headSpec ow_dm_X6_pagesOf ({ frames := 0, cells := 0, slots := 0, locals := 0 })).room s m args below meth c Q A (dC, dI) cX6_pagesOf .int (St × (St)) (dw_X6 a ac) r) : dj_X6_pagesOf_0 p l e s m args below meth c Q A dC dI a ac (df_X6_pagesOf_0 n) r := by
  obtain ⟨hlt, hx, hb, hml, hown, hts, hN, hA, hK⟩ := id C
  intro v0 s0 H locs ls h hP hD hS hl
  unfold df_X6_pagesOf_0 at h
  refine lv_iconst (v := 0) hx hb dX6_pagesOf_0 (by decide) ?_
  refine lv_istore_n (lv' := [(2, .int 0), (0, .ref (a 0)), (1, .int v0)]) hx hb dX6_pagesOf_1 rfl hl (by decide) rfl (fun ls hl => ?_)
  refine lv_iconst (v := 0) hx hb dX6_pagesOf_2 (by decide) ?_
  refine lv_istore_n (lv' := [(3, .int 0), (2, .int 0), (0, .ref (a 0)), (1, .int v0)]) hx hb dX6_pagesOf_3 rfl hl (by decide) rfl (fun ls hl => ?_)
  exact (db_X6_pagesOf_4 C K n) (v0) (0) (0) s0 _ _ _ h hP hD hS (lv_sub hl [2, 3, 1, 0] rfl)
set_option maxHeartbeats 40000000 in
set_option maxRecDepth 100000 in
theorem dm_X6_pagesOf (l : Launch) (hlt : l.stackTraces = false) (dC : Nat → ClassId) (dI : Nat → Nat → Nat) (a : Nat → Nat) (ac : Nat → ClassId) (n : Nat) (v0 : Int32) (s0 : St × (St)) {r : Int32 × (St × (St))} (h : df_X6_pagesOf n v0 s0 = some r) (sz : Nat) : Met l yX6_pagesOf ow_dm_X6_pagesOf ({ frames := 0, cells := 0, slots := 0, locals := 0 }) (va_Pc [.ref (a 0), .int v0] (fun U => U.heap.size = sz ∧ va_P (dC, dI) vwCl (dw_X6 a ac s0) U.heap ∧ va_K (dC, dI) vwCl (dk_X6 ac) U ∧ va_D (fun _ => True) (dw_X6 a ac s0) ∧ nv_E dI (va_A (dw_X6 a ac s0) sz) U)) (va_Qi (fun x _ => x = r.1) (fun (_ : Unit) t => va_P (dC, dI) vwCl (dw_X6 a ac r.2) t.heap ∧ va_K (dC, dI) vwCl (dk_X6 ac) t ∧ va_D (va_A (dw_X6 a ac s0) sz) (dw_X6 a ac r.2)) (va_A (dw_X6 a ac s0) sz)) 0 0 (va_A (dw_X6 a ac s0) sz) := by
  refine Met.ofW (cc := cX6_pagesOf) (maxL := 4) (ret := (some .int)) (by decide) rfl ?_
  intro p e s m args below meth c s₁ B hml hv
  obtain ⟨rfl, hsz, hP, hK, hD0, hN⟩ := hv
  have hx := B.exec
  have hb := B.bytes
  have hr := B.returns
  have hts := atoms_spec (ws := ow_dm_X6_pagesOf) B.pre
  have hown : s.vm.findClass RX6 = some m.cls := findClass_of_methodNamed B.named
  have hlocks := B.notSynchronized
  subst hsz
  have hD := hD0.self (sz := s.heap.size)
  generalize hAe : va_A (dw_X6 a ac s0) s.heap.size = A at hD hN ⊢
  have hA : ∀ q : Nat, s.heap.size ≤ q → A q := fun q h => by rw [← hAe]; exact Or.inr h
  have hl := lv_entry ([.ref (a 0), .int v0]) (n := 4) (Nat.le_of_ble_eq_true rfl)
  rw [lg_entry_eq]
  generalize (lg_sl ([.ref (a 0), .int v0]) ++ List.replicate (4 - (lg_sl ([.ref (a 0), .int v0])).length) Slot.unset).toArray = ls at hl ⊢
  have hl : lv_has ls 4 [(0, .ref (a 0)), (1, .int v0)] := hl
  exact db_X6_pagesOf_0 (dC := dC) (dI := dI) (a := a) (ac := ac) (n := n) (r := r) ⟨hlt, hx, hb, hml, hown, hts, hN, hA, hK⟩ (fun pc v τ H locs ls d z er hP hD hS => by subst er; exact W.zret (v := v) hx hb hr z (fun t ht hW => ⟨⟨v, (), rfl, rfl, by rw [ht]; exact hP, va_K.moved hW.alike hK, hD⟩, hS.F ht⟩) hS.2.2 d) v0 s0 _ _ _ h hP hD va_S.rf (lv_sub hl [0, 1] rfl)
def ow_dm_X6_pagesFor : List Cond := Cond.code yX6_pagesFor cX6_pagesFor 1 (some .int) :: ([Cond.methodLink RX6 117 yX8_textPages, Cond.instanceMethod yX8_textPages, Cond.selects RX8 yX8_textPages yX8_textPages, Cond.initialized RX8, Cond.methodLink RX6 123 yX8_dataPages, Cond.instanceMethod yX8_dataPages, Cond.selects RX8 yX8_dataPages yX8_dataPages] ++ (ow_dm_X8_textPages ++ (ow_dm_X8_dataPages ++ [])))
theorem gd_dm_X6_pagesFor : ∀ w ∈ ow_dm_X6_pagesFor, (w.onTables && w.keeps) = true ∨ ∃ ty, w = Cond.arrayClass ty := List.forall_mem_cons.mpr ⟨good_of_word rfl, List.forall_mem_append.mpr ⟨fun w h => good_of_word (List.all_eq_true.mp (by decide +kernel) w h), List.forall_mem_append.mpr ⟨gd_dm_X8_textPages, List.forall_mem_append.mpr ⟨gd_dm_X8_dataPages, fun _ h => nomatch h⟩⟩⟩⟩
theorem gi_dm_X6_pagesFor_0 : GoodIn ow_dm_X6_pagesFor (wsV RX6 117 RX8 yX8_textPages ow_dm_X8_textPages) := goodIn_app (goodIn_of _ (by decide +kernel)) (fun w h => ⟨List.mem_cons_of_mem _ (List.mem_append_right _ (List.mem_append_left _ h)), gd_dm_X8_textPages w h⟩)
theorem gi_dm_X6_pagesFor_1 : GoodIn ow_dm_X6_pagesFor (wsV RX6 123 RX8 yX8_dataPages ow_dm_X8_dataPages) := goodIn_app (goodIn_of _ (by decide +kernel)) (fun w h => ⟨List.mem_cons_of_mem _ (List.mem_append_right _ (List.mem_append_right _ (List.mem_append_left _ h))), gd_dm_X8_dataPages w h⟩)
def dj_X6_pagesFor_0 (p : Program) (l : Launch) (e : Env) (s : State) (m : MethodId) (args : Array Value) (below : List Frame) (meth : Method) (c : Code) (Q : State → Prop) (A : Nat → Prop) (dC : Nat → ClassId) (dI : Nat → Nat → Nat) (a : Nat → Nat) (ac : Nat → ClassId) (g : (St) → Option (Int32 × (St))) (r : Int32 × (St)) : Prop := ∀ (s0 : St) (H : Heap) (locs : List Loc) (ls : Array Slot), g s0 = some r → va_P (dC, dI) vwCl (dw_X8 a ac s0) H → va_D A (dw_X8 a ac s0) → va_S A s.heap H locs → lv_has ls 1 [(0, .ref (a 0))] → W p l e (headSpec ow_dm_X6_pagesFor ({ frames := 1, cells := 0, slots := 0, locals := 20 })).room s m args below meth c H locs 0 0 Q (F0 m 0 ls [])
set_option maxHeartbeats 40000000 in
set_option maxRecDepth 100000 in
theorem db_X6_pagesFor_0 {p : Program} {l : Launch} {e : Env} {s : State} {m : MethodId} {args : Array Value} {below : List Frame} {meth : Method} {c : Code} {Q : State → Prop} {A : Nat → Prop} {dC : Nat → ClassId} {dI : Nat → Nat → Nat} {a : Nat → Nat} {ac : Nat → ClassId} {n : Nat} {r : Int32 × (St)} (C : nd_C p l s m args c A (dC, dI) cX6_pagesFor 1 RX6 ow_dm_X6_pagesFor (dk_X8 ac)) (K : nd_Ki p l e (headSpec ow_dm_X6_pagesFor ({ frames := 1, cells := 0, slots := 0, locals := 20 })).room s m args below meth c Q A (dC, dI) cX6_pagesFor .int (St) (dw_X8 a ac) r) : dj_X6_pagesFor_0 p l e s m args below meth c Q A dC dI a ac (df_X6_pagesFor_0 n) r := by
  obtain ⟨hlt, hx, hb, hml, hown, hts, hN, hA, hK⟩ := id C
  intro s0 H locs ls h hP hD hS hl
  unfold df_X6_pagesFor_0 at h
  refine lv_aload_n hx hb dX6_pagesFor_0 rfl (lv_at hl 0 rfl) ?_
  obtain ⟨q1, s2, hq, h⟩ := nd_b2_e h
  have hPc := hP
  have hDc := hD
  have hKc := hK
  have hFc := nd_rs hD hS hA
  refine nd_cVi (As := []) (rest := []) (q := q1) (w' := dw_X8 a ac s2) ⟨hx, hb, hml, hown, hts⟩ (fun sz => dm_X8_textPages l hlt dC dI a ac n  s0 hq sz) (cwV 0 hts gi_dm_X6_pagesFor_0 rfl rfl rfl (by decide +kernel) ⟨Nat.le_of_ble_eq_true rfl, Nat.le_of_ble_eq_true rfl⟩) hPc hDc hKc hS hA hN (va_recv hKc hPc (ci := 9) (q0 := 0) rfl rfl) rfl hl.1 rfl (Nat.le_of_ble_eq_true rfl) dX6_pagesFor_1 (fun H locs hP1 hD1 hk1 hS => ?_)
  have hP := hP1
  have hD := hD1.weaken (fun k q _ h => hFc q.1 h)
  refine lv_aload_n hx hb dX6_pagesFor_4 rfl (lv_at hl 0 rfl) ?_
  obtain ⟨q4, s5, hq, h⟩ := nd_b2_e h
  have hPc := hP
  have hDc := hD
  have hKc := hK
  have hFc := nd_rs hD hS hA
  refine nd_cVi (As := []) (rest := [.int q1]) (q := q4) (w' := dw_X8 a ac s5) ⟨hx, hb, hml, hown, hts⟩ (fun sz => dm_X8_dataPages l hlt dC dI a ac n  s2 hq sz) (cwV 0 hts gi_dm_X6_pagesFor_1 rfl rfl rfl (by decide +kernel) ⟨Nat.le_of_ble_eq_true rfl, Nat.le_of_ble_eq_true rfl⟩) hPc hDc hKc hS hA hN (va_recv hKc hPc (ci := 9) (q0 := 0) rfl rfl) rfl hl.1 rfl (Nat.le_of_ble_eq_true rfl) dX6_pagesFor_5 (fun H locs hP1 hD1 hk1 hS => ?_)
  have hP := hP1
  have hD := hD1.weaken (fun k q _ h => hFc q.1 h)
  refine lv_iadd hx hb dX6_pagesFor_8 ?_
  refine lv_iconst (v := 4) hx hb dX6_pagesFor_9 (by decide) ?_
  refine lv_iadd hx hb dX6_pagesFor_10 ?_
  exact K _ _ _ _ _ _ dX6_pagesFor_11 rfl (Option.some.inj h).symm hP hD hS
set_option maxHeartbeats 40000000 in
set_option maxRecDepth 100000 in
theorem dm_X6_pagesFor (l : Launch) (hlt : l.stackTraces = false) (dC : Nat → ClassId) (dI : Nat → Nat → Nat) (a : Nat → Nat) (ac : Nat → ClassId) (n : Nat) (s0 : St) {r : Int32 × (St)} (h : df_X6_pagesFor n s0 = some r) (sz : Nat) : Met l yX6_pagesFor ow_dm_X6_pagesFor ({ frames := 1, cells := 0, slots := 0, locals := 20 }) (va_Pc [.ref (a 0)] (fun U => U.heap.size = sz ∧ va_P (dC, dI) vwCl (dw_X8 a ac s0) U.heap ∧ va_K (dC, dI) vwCl (dk_X8 ac) U ∧ va_D (fun _ => True) (dw_X8 a ac s0) ∧ nv_E dI (va_A (dw_X8 a ac s0) sz) U)) (va_Qi (fun x _ => x = r.1) (fun (_ : Unit) t => va_P (dC, dI) vwCl (dw_X8 a ac r.2) t.heap ∧ va_K (dC, dI) vwCl (dk_X8 ac) t ∧ va_D (va_A (dw_X8 a ac s0) sz) (dw_X8 a ac r.2)) (va_A (dw_X8 a ac s0) sz)) 0 0 (va_A (dw_X8 a ac s0) sz) := by
  refine Met.ofW (cc := cX6_pagesFor) (maxL := 1) (ret := (some .int)) (by decide) rfl ?_
  intro p e s m args below meth c s₁ B hml hv
  obtain ⟨rfl, hsz, hP, hK, hD0, hN⟩ := hv
  have hx := B.exec
  have hb := B.bytes
  have hr := B.returns
  have hts := atoms_spec (ws := ow_dm_X6_pagesFor) B.pre
  have hown : s.vm.findClass RX6 = some m.cls := findClass_of_methodNamed B.named
  have hlocks := B.notSynchronized
  subst hsz
  have hD := hD0.self (sz := s.heap.size)
  generalize hAe : va_A (dw_X8 a ac s0) s.heap.size = A at hD hN ⊢
  have hA : ∀ q : Nat, s.heap.size ≤ q → A q := fun q h => by rw [← hAe]; exact Or.inr h
  have hl := lv_entry ([.ref (a 0)]) (n := 1) (Nat.le_of_ble_eq_true rfl)
  rw [lg_entry_eq]
  generalize (lg_sl ([.ref (a 0)]) ++ List.replicate (1 - (lg_sl ([.ref (a 0)])).length) Slot.unset).toArray = ls at hl ⊢
  have hl : lv_has ls 1 [(0, .ref (a 0))] := hl
  exact db_X6_pagesFor_0 (dC := dC) (dI := dI) (a := a) (ac := ac) (n := n) (r := r) ⟨hlt, hx, hb, hml, hown, hts, hN, hA, hK⟩ (fun pc v τ H locs ls d z er hP hD hS => by subst er; exact W.zret (v := v) hx hb hr z (fun t ht hW => ⟨⟨v, (), rfl, rfl, by rw [ht]; exact hP, va_K.moved hW.alike hK, hD⟩, hS.F ht⟩) hS.2.2 d) s0 _ _ _ h hP hD va_S.rf (lv_sub hl [0] rfl)
def ow_dm_X6_takeable : List Cond := Cond.code yX6_takeable cX6_takeable 3 (some .int) :: ([Cond.fieldLink RX6 29 "TimeMachine$Machine" "self" "[I", Cond.methodLink RX6 150 yJ6_numberOfTrailingZeros_0f7a4, Cond.static yJ6_numberOfTrailingZeros_0f7a4, Cond.initialized RJ6] ++ (u_ws RX6 TX6 20 ++ (ow_dm_J6_numberOfTrailingZeros_0f7a4 ++ [])))
theorem gd_dm_X6_takeable : ∀ w ∈ ow_dm_X6_takeable, (w.onTables && w.keeps) = true ∨ ∃ ty, w = Cond.arrayClass ty := List.forall_mem_cons.mpr ⟨good_of_word rfl, List.forall_mem_append.mpr ⟨fun w h => good_of_word (List.all_eq_true.mp (by decide +kernel) w h), List.forall_mem_append.mpr ⟨gu_X6, List.forall_mem_append.mpr ⟨gd_dm_J6_numberOfTrailingZeros_0f7a4, fun _ h => nomatch h⟩⟩⟩⟩
theorem hi_dm_X6_takeable_X6 : ∀ w ∈ u_ws RX6 TX6 20, w ∈ ow_dm_X6_takeable := fun w h => List.mem_cons_of_mem _ (List.mem_append_right _ (List.mem_append_left _ h))
theorem gi_dm_X6_takeable_0 : GoodIn ow_dm_X6_takeable (va_wsS RX6 150 yJ6_numberOfTrailingZeros_0f7a4 ow_dm_J6_numberOfTrailingZeros_0f7a4) := goodIn_app (goodIn_of _ (by decide +kernel)) (fun w h => ⟨List.mem_cons_of_mem _ (List.mem_append_right _ (List.mem_append_right _ (List.mem_append_left _ h))), gd_dm_J6_numberOfTrailingZeros_0f7a4 w h⟩)
def dj_X6_takeable_55 (p : Program) (l : Launch) (e : Env) (s : State) (m : MethodId) (args : Array Value) (below : List Frame) (meth : Method) (c : Code) (Q : State → Prop) (A : Nat → Prop) (dC : Nat → ClassId) (dI : Nat → Nat → Nat) (a : Nat → Nat) (ac : Nat → ClassId) (g : Int32 → (St × (St)) → Option (Int32 × (St × (St)))) (r : Int32 × (St × (St))) : Prop := ∀ (y0 : Int32) (s0 : St × (St)) (H : Heap) (locs : List Loc) (ls : Array Slot), g y0 s0 = some r → va_P (dC, dI) vwCl (dw_X6 a ac s0) H → va_D A (dw_X6 a ac s0) → va_S A s.heap H locs → lv_has ls 3 [] → W p l e (headSpec ow_dm_X6_takeable ({ frames := 1, cells := 0, slots := 0, locals := 21 })).room s m args below meth c H locs 0 0 Q (F0 m 55 ls [.int y0])
def dj_X6_takeable_32 (p : Program) (l : Launch) (e : Env) (s : State) (m : MethodId) (args : Array Value) (below : List Frame) (meth : Method) (c : Code) (Q : State → Prop) (A : Nat → Prop) (dC : Nat → ClassId) (dI : Nat → Nat → Nat) (a : Nat → Nat) (ac : Nat → ClassId) (g : Int32 → (St × (St)) → Option (Int32 × (St × (St)))) (r : Int32 × (St × (St))) : Prop := ∀ (x2 : Int32) (s0 : St × (St)) (H : Heap) (locs : List Loc) (ls : Array Slot), g x2 s0 = some r → va_P (dC, dI) vwCl (dw_X6 a ac s0) H → va_D A (dw_X6 a ac s0) → va_S A s.heap H locs → lv_has ls 3 [(2, .int x2)] → W p l e (headSpec ow_dm_X6_takeable ({ frames := 1, cells := 0, slots := 0, locals := 21 })).room s m args below meth c H locs 0 0 Q (F0 m 32 ls [])
def dj_X6_takeable_0 (p : Program) (l : Launch) (e : Env) (s : State) (m : MethodId) (args : Array Value) (below : List Frame) (meth : Method) (c : Code) (Q : State → Prop) (A : Nat → Prop) (dC : Nat → ClassId) (dI : Nat → Nat → Nat) (a : Nat → Nat) (ac : Nat → ClassId) (g : Int32 → (St × (St)) → Option (Int32 × (St × (St)))) (r : Int32 × (St × (St))) : Prop := ∀ (v0 : Int32) (s0 : St × (St)) (H : Heap) (locs : List Loc) (ls : Array Slot), g v0 s0 = some r → va_P (dC, dI) vwCl (dw_X6 a ac s0) H → va_D A (dw_X6 a ac s0) → va_S A s.heap H locs → lv_has ls 3 [(0, .ref (a 0)), (1, .int v0)] → W p l e (headSpec ow_dm_X6_takeable ({ frames := 1, cells := 0, slots := 0, locals := 21 })).room s m args below meth c H locs 0 0 Q (F0 m 0 ls [])
set_option maxHeartbeats 40000000 in
set_option maxRecDepth 100000 in
theorem db_X6_takeable_55 {p : Program} {l : Launch} {e : Env} {s : State} {m : MethodId} {args : Array Value} {below : List Frame} {meth : Method} {c : Code} {Q : State → Prop} {A : Nat → Prop} {dC : Nat → ClassId} {dI : Nat → Nat → Nat} {a : Nat → Nat} {ac : Nat → ClassId} {n : Nat} {r : Int32 × (St × (St))} (C : nd_C p l s m args c A (dC, dI) cX6_takeable 3 RX6 ow_dm_X6_takeable (dk_X6 ac)) (K : nd_Ki p l e (headSpec ow_dm_X6_takeable ({ frames := 1, cells := 0, slots := 0, locals := 21 })).room s m args below meth c Q A (dC, dI) cX6_takeable .int (St × (St)) (dw_X6 a ac) r) : dj_X6_takeable_55 p l e s m args below meth c Q A dC dI a ac (df_X6_takeable_55 n) r := by
  obtain ⟨hlt, hx, hb, hml, hown, hts, hN, hA, hK⟩ := id C
  intro y0 s0 H locs ls h hP hD hS hl
  unfold df_X6_takeable_55 at h
  exact K _ _ _ _ _ _ dX6_takeable_55 rfl (Option.some.inj h).symm hP hD hS
set_option maxHeartbeats 40000000 in
set_option maxRecDepth 100000 in
theorem db_X6_takeable_32 {p : Program} {l : Launch} {e : Env} {s : State} {m : MethodId} {args : Array Value} {below : List Frame} {meth : Method} {c : Code} {Q : State → Prop} {A : Nat → Prop} {dC : Nat → ClassId} {dI : Nat → Nat → Nat} {a : Nat → Nat} {ac : Nat → ClassId} {n : Nat} {r : Int32 × (St × (St))} (C : nd_C p l s m args c A (dC, dI) cX6_takeable 3 RX6 ow_dm_X6_takeable (dk_X6 ac)) (K : nd_Ki p l e (headSpec ow_dm_X6_takeable ({ frames := 1, cells := 0, slots := 0, locals := 21 })).room s m args below meth c Q A (dC, dI) cX6_takeable .int (St × (St)) (dw_X6 a ac) r) : dj_X6_takeable_32 p l e s m args below meth c Q A dC dI a ac (df_X6_takeable_32 n) r := by
  obtain ⟨hlt, hx, hb, hml, hown, hts, hN, hA, hK⟩ := id C
  intro x2 s0 H locs ls h hP hD hS hl
  unfold df_X6_takeable_32 at h
  refine lv_iload_n hx hb dX6_takeable_32 rfl (lv_at hl 0 rfl) ?_
  refine lv_sipush (v := 512) hx hb dX6_takeable_33 (by decide) ?_
  refine lv_iand hx hb dX6_takeable_36 ?_
  refine lv_if_eq (tgt := 43) hx hb dX6_takeable_37 (by decide) (fun c5 => ?_) (fun c5 => ?_)
  · have h := nd_pos h c5
    refine lv_iload_n hx hb dX6_takeable_43 rfl (lv_at hl 0 rfl) ?_
    refine lv_if_ne (tgt := 51) hx hb dX6_takeable_44 (by decide) (fun c6 => ?_) (fun c6 => ?_)
    · have h := nd_neg h c6
      refine lv_iload_n hx hb dX6_takeable_51 rfl (lv_at hl 0 rfl) ?_
      obtain ⟨q7, s8, hq, h⟩ := nd_b2_e h
      have hPc : va_P (dC, dI) vwCl (dw_P a ac ()) H := nd_p0
      have hDc : va_D A (dw_P a ac ()) := nd_d0
      have hKc : va_K (dC, dI) vwCl (dk_P ac) s := nd_y0 hK
      have hFc : ∀ q, va_A (dw_P a ac ()) H.size q → A q := nd_r0 hS hA
      refine nd_cSi (As := [.int x2]) (rest := []) (q := q7) (w' := dw_P a ac s8) ⟨hx, hb, hml, hown, hts⟩ (fun sz => dm_J6_numberOfTrailingZeros_0f7a4 l hlt dC dI a ac n (x2) () hq sz) (va_cwS 1 hts gi_dm_X6_takeable_0 rfl rfl rfl (by decide +kernel) ⟨Nat.le_of_ble_eq_true rfl, Nat.le_of_ble_eq_true rfl⟩) hPc hDc hKc hS hA hN rfl hl.1 rfl (Nat.le_of_ble_eq_true rfl) dX6_takeable_52 (fun H locs hP1 hD1 hk1 hS => ?_)
      have hP := nd_n0 hP hk1
      exact (db_X6_takeable_55 C K) (q7) s0 _ _ _ h hP hD hS (lv_sub hl [] rfl)
    · have h := nd_pos h c6
      refine lv_iconst (v := 0) hx hb dX6_takeable_47 (by decide) ?_
      refine lv_goto (tgt := 55) hx hb dX6_takeable_48 (by decide) ?_
      exact (db_X6_takeable_55 C K) (0) s0 _ _ _ h hP hD hS (lv_sub hl [] rfl)
  · have h := nd_neg h c5
    refine lv_bipush (v := 9) hx hb dX6_takeable_40 (by decide) ?_
    exact K _ _ _ _ _ _ dX6_takeable_42 rfl (Option.some.inj h).symm hP hD hS
set_option maxHeartbeats 40000000 in
set_option maxRecDepth 100000 in
theorem db_X6_takeable_0 {p : Program} {l : Launch} {e : Env} {s : State} {m : MethodId} {args : Array Value} {below : List Frame} {meth : Method} {c : Code} {Q : State → Prop} {A : Nat → Prop} {dC : Nat → ClassId} {dI : Nat → Nat → Nat} {a : Nat → Nat} {ac : Nat → ClassId} {n : Nat} {r : Int32 × (St × (St))} (C : nd_C p l s m args c A (dC, dI) cX6_takeable 3 RX6 ow_dm_X6_takeable (dk_X6 ac)) (K : nd_Ki p l e (headSpec ow_dm_X6_takeable ({ frames := 1, cells := 0, slots := 0, locals := 21 })).room s m args below meth c Q A (dC, dI) cX6_takeable .int (St × (St)) (dw_X6 a ac) r) : dj_X6_takeable_0 p l e s m args below meth c Q A dC dI a ac (df_X6_takeable_0 n) r := by
  obtain ⟨hlt, hx, hb, hml, hown, hts, hN, hA, hK⟩ := id C
  intro v0 s0 H locs ls h hP hD hS hl
  unfold df_X6_takeable_0 at h
  refine lv_aload_n hx hb dX6_takeable_0 rfl (lv_at hl 0 rfl) ?_
  refine va_get (D := (dC, dI)) (ci := 7) (v := .ref (a 7)) (C := RX6) (T := TX6) (N := 20) hx hb hts hi_dm_X6_takeable_X6 hown hK hP 0 rfl rfl 7 (by decide) (hts (.fieldLink RX6 29 "TimeMachine$Machine" "self" "[I") (List.mem_of_getElem? (i := 1) rfl)) (fun _ h9 => h9) rfl dX6_takeable_1 ?_
  refine lv_iload_n hx hb dX6_takeable_4 rfl (lv_at hl 1 rfl) ?_
  refine lv_bipush (v := 7) hx hb dX6_takeable_5 (by decide) ?_
  refine lv_imul hx hb dX6_takeable_7 ?_
  refine lv_iconst (v := 3) hx hb dX6_takeable_8 (by decide) ?_
  refine lv_iadd hx hb dX6_takeable_9 ?_
  obtain ⟨i1, h⟩ := nd_ck_e h
  refine va_iald (i := ((v0 * 7) + 3)) hx hb hK hP 7 6 rfl rfl i1 dX6_takeable_10 ?_
  refine lv_topi (fun z2 ez2 => ?_)
  have h := nd_at h ez2
  refine lv_istore_n (lv' := [(2, .int z2), (0, .ref (a 0)), (1, .int v0)]) hx hb dX6_takeable_11 rfl hl (by decide) rfl (fun ls hl => ?_)
  refine lv_aload_n hx hb dX6_takeable_12 rfl (lv_at hl 1 rfl) ?_
  refine va_get (D := (dC, dI)) (ci := 7) (v := .ref (a 7)) (C := RX6) (T := TX6) (N := 20) hx hb hts hi_dm_X6_takeable_X6 hown hK hP 0 rfl rfl 7 (by decide) (hts (.fieldLink RX6 29 "TimeMachine$Machine" "self" "[I") (List.mem_of_getElem? (i := 1) rfl)) (fun _ h9 => h9) rfl dX6_takeable_13 ?_
  refine lv_iload_n hx hb dX6_takeable_16 rfl (lv_at hl 2 rfl) ?_
  refine lv_bipush (v := 7) hx hb dX6_takeable_17 (by decide) ?_
  refine lv_imul hx hb dX6_takeable_19 ?_
  refine lv_iconst (v := 4) hx hb dX6_takeable_20 (by decide) ?_
  refine lv_iadd hx hb dX6_takeable_21 ?_
  obtain ⟨i3, h⟩ := nd_ck_e h
  refine va_iald (i := ((v0 * 7) + 4)) hx hb hK hP 7 6 rfl rfl i3 dX6_takeable_22 ?_
  refine lv_if_eq (tgt := 32) hx hb dX6_takeable_23 (by decide) (fun c4 => ?_) (fun c4 => ?_)
  · have h := nd_pos h c4
    exact (db_X6_takeable_32 C K) (z2) s0 _ _ _ h hP hD hS (lv_sub hl [0] rfl)
  · have h := nd_neg h c4
    refine lv_iload_n hx hb dX6_takeable_26 rfl (lv_at hl 0 rfl) ?_
    refine lv_sipush (v := 512) hx hb dX6_takeable_27 (by decide) ?_
    refine lv_iand hx hb dX6_takeable_30 ?_
    refine lv_topi (fun z10 ez10 => ?_)
    have h := nd_at h ez10
    refine lv_istore_n (lv' := [(2, .int z10), (0, .ref (a 0)), (1, .int v0)]) hx hb dX6_takeable_31 rfl hl (by decide) rfl (fun ls hl => ?_)
    exact (db_X6_takeable_32 C K) (z10) s0 _ _ _ h hP hD hS (lv_sub hl [0] rfl)
set_option maxHeartbeats 40000000 in
set_option maxRecDepth 100000 in
theorem dm_X6_takeable (l : Launch) (hlt : l.stackTraces = false) (dC : Nat → ClassId) (dI : Nat → Nat → Nat) (a : Nat → Nat) (ac : Nat → ClassId) (n : Nat) (v0 : Int32) (s0 : St × (St)) {r : Int32 × (St × (St))} (h : df_X6_takeable n v0 s0 = some r) (sz : Nat) : Met l yX6_takeable ow_dm_X6_takeable ({ frames := 1, cells := 0, slots := 0, locals := 21 }) (va_Pc [.ref (a 0), .int v0] (fun U => U.heap.size = sz ∧ va_P (dC, dI) vwCl (dw_X6 a ac s0) U.heap ∧ va_K (dC, dI) vwCl (dk_X6 ac) U ∧ va_D (fun _ => True) (dw_X6 a ac s0) ∧ nv_E dI (va_A (dw_X6 a ac s0) sz) U)) (va_Qi (fun x _ => x = r.1) (fun (_ : Unit) t => va_P (dC, dI) vwCl (dw_X6 a ac r.2) t.heap ∧ va_K (dC, dI) vwCl (dk_X6 ac) t ∧ va_D (va_A (dw_X6 a ac s0) sz) (dw_X6 a ac r.2)) (va_A (dw_X6 a ac s0) sz)) 0 0 (va_A (dw_X6 a ac s0) sz) := by
  refine Met.ofW (cc := cX6_takeable) (maxL := 3) (ret := (some .int)) (by decide) rfl ?_
  intro p e s m args below meth c s₁ B hml hv
  obtain ⟨rfl, hsz, hP, hK, hD0, hN⟩ := hv
  have hx := B.exec
  have hb := B.bytes
  have hr := B.returns
  have hts := atoms_spec (ws := ow_dm_X6_takeable) B.pre
  have hown : s.vm.findClass RX6 = some m.cls := findClass_of_methodNamed B.named
  have hlocks := B.notSynchronized
  subst hsz
  have hD := hD0.self (sz := s.heap.size)
  generalize hAe : va_A (dw_X6 a ac s0) s.heap.size = A at hD hN ⊢
  have hA : ∀ q : Nat, s.heap.size ≤ q → A q := fun q h => by rw [← hAe]; exact Or.inr h
  have hl := lv_entry ([.ref (a 0), .int v0]) (n := 3) (Nat.le_of_ble_eq_true rfl)
  rw [lg_entry_eq]
  generalize (lg_sl ([.ref (a 0), .int v0]) ++ List.replicate (3 - (lg_sl ([.ref (a 0), .int v0])).length) Slot.unset).toArray = ls at hl ⊢
  have hl : lv_has ls 3 [(0, .ref (a 0)), (1, .int v0)] := hl
  exact db_X6_takeable_0 (dC := dC) (dI := dI) (a := a) (ac := ac) (n := n) (r := r) ⟨hlt, hx, hb, hml, hown, hts, hN, hA, hK⟩ (fun pc v τ H locs ls d z er hP hD hS => by subst er; exact W.zret (v := v) hx hb hr z (fun t ht hW => ⟨⟨v, (), rfl, rfl, by rw [ht]; exact hP, va_K.moved hW.alike hK, hD⟩, hS.F ht⟩) hS.2.2 d) v0 s0 _ _ _ h hP hD va_S.rf (lv_sub hl [0, 1] rfl)
def ow_dm_X6_processesThere : List Cond := Cond.code yX6_processesThere cX6_processesThere 3 (some .int) :: ([Cond.methodLink RX6 156 yX6_status, Cond.instanceMethod yX6_status, Cond.selects RX6 yX6_status yX6_status, Cond.initialized RX6] ++ (ow_dm_X6_status ++ []))
theorem gd_dm_X6_processesThere : ∀ w ∈ ow_dm_X6_processesThere, (w.onTables && w.keeps) = true ∨ ∃ ty, w = Cond.arrayClass ty := List.forall_mem_cons.mpr ⟨good_of_word rfl, List.forall_mem_append.mpr ⟨fun w h => good_of_word (List.all_eq_true.mp (by decide +kernel) w h), List.forall_mem_append.mpr ⟨gd_dm_X6_status, fun _ h => nomatch h⟩⟩⟩
theorem gi_dm_X6_processesThere_0 : GoodIn ow_dm_X6_processesThere (wsV RX6 156 RX6 yX6_status ow_dm_X6_status) := goodIn_app (goodIn_of _ (by decide +kernel)) (fun w h => ⟨List.mem_cons_of_mem _ (List.mem_append_right _ (List.mem_append_left _ h)), gd_dm_X6_status w h⟩)
def dj_X6_processesThere_21 (p : Program) (l : Launch) (e : Env) (s : State) (m : MethodId) (args : Array Value) (below : List Frame) (meth : Method) (c : Code) (Q : State → Prop) (A : Nat → Prop) (dC : Nat → ClassId) (dI : Nat → Nat → Nat) (a : Nat → Nat) (ac : Nat → ClassId) (g : Int32 → Int32 → (St × (St)) → Option (Int32 × (St × (St)))) (r : Int32 × (St × (St))) : Prop := ∀ (x1 : Int32) (x2 : Int32) (s0 : St × (St)) (H : Heap) (locs : List Loc) (ls : Array Slot), g x1 x2 s0 = some r → va_P (dC, dI) vwCl (dw_X6 a ac s0) H → va_D A (dw_X6 a ac s0) → va_S A s.heap H locs → lv_has ls 3 [(0, .ref (a 0)), (1, .int x1), (2, .int x2)] → W p l e (headSpec ow_dm_X6_processesThere ({ frames := 1, cells := 0, slots := 0, locals := 21 })).room s m args below meth c H locs 0 0 Q (F0 m 21 ls [])
def dj_X6_processesThere_4 (p : Program) (l : Launch) (e : Env) (s : State) (m : MethodId) (args : Array Value) (below : List Frame) (meth : Method) (c : Code) (Q : State → Prop) (A : Nat → Prop) (dC : Nat → ClassId) (dI : Nat → Nat → Nat) (a : Nat → Nat) (ac : Nat → ClassId) (g : Int32 → Int32 → (St × (St)) → Option (Int32 × (St × (St)))) (r : Int32 × (St × (St))) : Prop := ∀ (x1 : Int32) (x2 : Int32) (s0 : St × (St)) (H : Heap) (locs : List Loc) (ls : Array Slot), g x1 x2 s0 = some r → va_P (dC, dI) vwCl (dw_X6 a ac s0) H → va_D A (dw_X6 a ac s0) → va_S A s.heap H locs → lv_has ls 3 [(0, .ref (a 0)), (1, .int x1), (2, .int x2)] → W p l e (headSpec ow_dm_X6_processesThere ({ frames := 1, cells := 0, slots := 0, locals := 21 })).room s m args below meth c H locs 0 0 Q (F0 m 4 ls [])
def dj_X6_processesThere_0 (p : Program) (l : Launch) (e : Env) (s : State) (m : MethodId) (args : Array Value) (below : List Frame) (meth : Method) (c : Code) (Q : State → Prop) (A : Nat → Prop) (dC : Nat → ClassId) (dI : Nat → Nat → Nat) (a : Nat → Nat) (ac : Nat → ClassId) (g : (St × (St)) → Option (Int32 × (St × (St)))) (r : Int32 × (St × (St))) : Prop := ∀ (s0 : St × (St)) (H : Heap) (locs : List Loc) (ls : Array Slot), g s0 = some r → va_P (dC, dI) vwCl (dw_X6 a ac s0) H → va_D A (dw_X6 a ac s0) → va_S A s.heap H locs → lv_has ls 3 [(0, .ref (a 0))] → W p l e (headSpec ow_dm_X6_processesThere ({ frames := 1, cells := 0, slots := 0, locals := 21 })).room s m args below meth c H locs 0 0 Q (F0 m 0 ls [])
set_option maxHeartbeats 40000000 in
set_option maxRecDepth 100000 in
theorem db_X6_processesThere_21 {p : Program} {l : Launch} {e : Env} {s : State} {m : MethodId} {args : Array Value} {below : List Frame} {meth : Method} {c : Code} {Q : State → Prop} {A : Nat → Prop} {dC : Nat → ClassId} {dI : Nat → Nat → Nat} {a : Nat → Nat} {ac : Nat → ClassId} {n : Nat} {r : Int32 × (St × (St))} (C : nd_C p l s m args c A (dC, dI) cX6_processesThere 3 RX6 ow_dm_X6_processesThere (dk_X6 ac)) (K : nd_Ki p l e (headSpec ow_dm_X6_processesThere ({ frames := 1, cells := 0, slots := 0, locals := 21 })).room s m args below meth c Q A (dC, dI) cX6_processesThere .int (St × (St)) (dw_X6 a ac) r) {g4 : Int32 → Int32 → (St × (St)) → Option (Int32 × (St × (St)))} (J4 : dj_X6_processesThere_4 p l e s m args below meth c Q A dC dI a ac g4 r) : dj_X6_processesThere_21 p l e s m args below meth c Q A dC dI a ac (df_X6_processesThere_21 n g4) r := by
  obtain ⟨hlt, hx, hb, hml, hown, hts, hN, hA, hK⟩ := id C
  intro x1 x2 s0 H locs ls h hP hD hS hl
  unfold df_X6_processesThere_21 at h
  obtain ⟨z6, ez6, h⟩ := nd_let_e h
  refine lv_iinc (v := z6) (lv' := [(2, .int z6), (0, .ref (a 0)), (1, .int x1)]) hx hb dX6_processesThere_21 hl (k := 2) rfl (by rw [ez6]) (by decide) rfl (fun ls hl => ?_)
  refine lv_goto (tgt := 4) hx hb dX6_processesThere_24 (by decide) ?_
  exact (J4) (x1) (z6) s0 _ _ _ h hP hD hS (lv_sub hl [1, 2, 0] rfl)
set_option maxHeartbeats 40000000 in
set_option maxRecDepth 100000 in
theorem dB_X6_processesThere_4 {p : Program} {l : Launch} {e : Env} {s : State} {m : MethodId} {args : Array Value} {below : List Frame} {meth : Method} {c : Code} {Q : State → Prop} {A : Nat → Prop} {dC : Nat → ClassId} {dI : Nat → Nat → Nat} {a : Nat → Nat} {ac : Nat → ClassId} {n : Nat} {r : Int32 × (St × (St))} (C : nd_C p l s m args c A (dC, dI) cX6_processesThere 3 RX6 ow_dm_X6_processesThere (dk_X6 ac)) (K : nd_Ki p l e (headSpec ow_dm_X6_processesThere ({ frames := 1, cells := 0, slots := 0, locals := 21 })).room s m args below meth c Q A (dC, dI) cX6_processesThere .int (St × (St)) (dw_X6 a ac) r) {g4 : Int32 → Int32 → (St × (St)) → Option (Int32 × (St × (St)))} (J4 : dj_X6_processesThere_4 p l e s m args below meth c Q A dC dI a ac g4 r) : dj_X6_processesThere_4 p l e s m args below meth c Q A dC dI a ac (dF_X6_processesThere_4 n g4) r := by
  obtain ⟨hlt, hx, hb, hml, hown, hts, hN, hA, hK⟩ := id C
  intro x1 x2 s0 H locs ls h hP hD hS hl
  unfold dF_X6_processesThere_4 at h
  refine lv_iload_n hx hb dX6_processesThere_4 rfl (lv_at hl 2 rfl) ?_
  refine lv_bipush (v := 16) hx hb dX6_processesThere_5 (by decide) ?_
  refine lv_icmp_ge (tgt := 27) hx hb dX6_processesThere_7 (by decide) (fun c1 => ?_) (fun c1 => ?_)
  · have h := nd_pos h c1
    refine lv_iload_n hx hb dX6_processesThere_27 rfl (lv_at hl 1 rfl) ?_
    exact K _ _ _ _ _ _ dX6_processesThere_28 rfl (Option.some.inj h).symm hP hD hS
  · have h := nd_neg h c1
    refine lv_aload_n hx hb dX6_processesThere_10 rfl (lv_at hl 0 rfl) ?_
    refine lv_iload_n hx hb dX6_processesThere_11 rfl (lv_at hl 2 rfl) ?_
    obtain ⟨q2, s3, hq, h⟩ := nd_b2_e h
    have hPc := hP
    have hDc := hD
    have hKc := hK
    have hFc := nd_rs hD hS hA
    refine nd_cVi (As := [.int x2]) (rest := []) (q := q2) (w' := dw_X6 a ac s3) ⟨hx, hb, hml, hown, hts⟩ (fun sz => dm_X6_status l hlt dC dI a ac n (x2) s0 hq sz) (cwV 1 hts gi_dm_X6_processesThere_0 rfl rfl rfl (by decide +kernel) ⟨Nat.le_of_ble_eq_true rfl, Nat.le_of_ble_eq_true rfl⟩) hPc hDc hKc hS hA hN (va_recv hKc hPc (ci := 7) (q0 := 0) rfl rfl) rfl hl.1 rfl (Nat.le_of_ble_eq_true rfl) dX6_processesThere_12 (fun H locs hP1 hD1 hk1 hS => ?_)
    have hP := hP1
    have hD := hD1.weaken (fun k q _ h => hFc q.1 h)
    refine lv_if_eq (tgt := 21) hx hb dX6_processesThere_15 (by decide) (fun c5 => ?_) (fun c5 => ?_)
    · have h := nd_pos h c5
      exact (db_X6_processesThere_21 C K J4) (x1) (x2) s3 _ _ _ h hP hD hS (lv_sub hl [0, 1, 2] rfl)
    · have h := nd_neg h c5
      obtain ⟨z7, ez7, h⟩ := nd_let_e h
      refine lv_iinc (v := z7) (lv' := [(1, .int z7), (0, .ref (a 0)), (2, .int x2)]) hx hb dX6_processesThere_18 hl (k := 1) rfl (by rw [ez7]) (by decide) rfl (fun ls hl => ?_)
      exact (db_X6_processesThere_21 C K J4) (z7) (x2) s3 _ _ _ h hP hD hS (lv_sub hl [1, 0, 2] rfl)
set_option maxHeartbeats 40000000 in
set_option maxRecDepth 100000 in
theorem db_X6_processesThere_4 {p : Program} {l : Launch} {e : Env} {s : State} {m : MethodId} {args : Array Value} {below : List Frame} {meth : Method} {c : Code} {Q : State → Prop} {A : Nat → Prop} {dC : Nat → ClassId} {dI : Nat → Nat → Nat} {a : Nat → Nat} {ac : Nat → ClassId} {n : Nat} {r : Int32 × (St × (St))} (C : nd_C p l s m args c A (dC, dI) cX6_processesThere 3 RX6 ow_dm_X6_processesThere (dk_X6 ac)) (K : nd_Ki p l e (headSpec ow_dm_X6_processesThere ({ frames := 1, cells := 0, slots := 0, locals := 21 })).room s m args below meth c Q A (dC, dI) cX6_processesThere .int (St × (St)) (dw_X6 a ac) r) (k : Nat) : dj_X6_processesThere_4 p l e s m args below meth c Q A dC dI a ac (df_X6_processesThere_4 n k) r := by
  induction k with
  | zero => intro x1 x2 s0 H locs ls h; exact nomatch (show (none : Option (Int32 × (St × (St)))) = some r from h)
  | succ k ih => exact dB_X6_processesThere_4 C K ih
set_option maxHeartbeats 40000000 in
set_option maxRecDepth 100000 in
theorem db_X6_processesThere_0 {p : Program} {l : Launch} {e : Env} {s : State} {m : MethodId} {args : Array Value} {below : List Frame} {meth : Method} {c : Code} {Q : State → Prop} {A : Nat → Prop} {dC : Nat → ClassId} {dI : Nat → Nat → Nat} {a : Nat → Nat} {ac : Nat → ClassId} {n : Nat} {r : Int32 × (St × (St))} (C : nd_C p l s m args c A (dC, dI) cX6_processesThere 3 RX6 ow_dm_X6_processesThere (dk_X6 ac)) (K : nd_Ki p l e (headSpec ow_dm_X6_processesThere ({ frames := 1, cells := 0, slots := 0, locals := 21 })).room s m args below meth c Q A (dC, dI) cX6_processesThere .int (St × (St)) (dw_X6 a ac) r) : dj_X6_processesThere_0 p l e s m args below meth c Q A dC dI a ac (df_X6_processesThere_0 n) r := by
  obtain ⟨hlt, hx, hb, hml, hown, hts, hN, hA, hK⟩ := id C
  intro s0 H locs ls h hP hD hS hl
  unfold df_X6_processesThere_0 at h
  refine lv_iconst (v := 0) hx hb dX6_processesThere_0 (by decide) ?_
  refine lv_istore_n (lv' := [(1, .int 0), (0, .ref (a 0))]) hx hb dX6_processesThere_1 rfl hl (by decide) rfl (fun ls hl => ?_)
  refine lv_iconst (v := 0) hx hb dX6_processesThere_2 (by decide) ?_
  refine lv_istore_n (lv' := [(2, .int 0), (1, .int 0), (0, .ref (a 0))]) hx hb dX6_processesThere_3 rfl hl (by decide) rfl (fun ls hl => ?_)
  exact (db_X6_processesThere_4 C K n) (0) (0) s0 _ _ _ h hP hD hS (lv_sub hl [2, 1, 0] rfl)
set_option maxHeartbeats 40000000 in
set_option maxRecDepth 100000 in
theorem dm_X6_processesThere (l : Launch) (hlt : l.stackTraces = false) (dC : Nat → ClassId) (dI : Nat → Nat → Nat) (a : Nat → Nat) (ac : Nat → ClassId) (n : Nat) (s0 : St × (St)) {r : Int32 × (St × (St))} (h : df_X6_processesThere n s0 = some r) (sz : Nat) : Met l yX6_processesThere ow_dm_X6_processesThere ({ frames := 1, cells := 0, slots := 0, locals := 21 }) (va_Pc [.ref (a 0)] (fun U => U.heap.size = sz ∧ va_P (dC, dI) vwCl (dw_X6 a ac s0) U.heap ∧ va_K (dC, dI) vwCl (dk_X6 ac) U ∧ va_D (fun _ => True) (dw_X6 a ac s0) ∧ nv_E dI (va_A (dw_X6 a ac s0) sz) U)) (va_Qi (fun x _ => x = r.1) (fun (_ : Unit) t => va_P (dC, dI) vwCl (dw_X6 a ac r.2) t.heap ∧ va_K (dC, dI) vwCl (dk_X6 ac) t ∧ va_D (va_A (dw_X6 a ac s0) sz) (dw_X6 a ac r.2)) (va_A (dw_X6 a ac s0) sz)) 0 0 (va_A (dw_X6 a ac s0) sz) := by
  refine Met.ofW (cc := cX6_processesThere) (maxL := 3) (ret := (some .int)) (by decide) rfl ?_
  intro p e s m args below meth c s₁ B hml hv
  obtain ⟨rfl, hsz, hP, hK, hD0, hN⟩ := hv
  have hx := B.exec
  have hb := B.bytes
  have hr := B.returns
  have hts := atoms_spec (ws := ow_dm_X6_processesThere) B.pre
  have hown : s.vm.findClass RX6 = some m.cls := findClass_of_methodNamed B.named
  have hlocks := B.notSynchronized
  subst hsz
  have hD := hD0.self (sz := s.heap.size)
  generalize hAe : va_A (dw_X6 a ac s0) s.heap.size = A at hD hN ⊢
  have hA : ∀ q : Nat, s.heap.size ≤ q → A q := fun q h => by rw [← hAe]; exact Or.inr h
  have hl := lv_entry ([.ref (a 0)]) (n := 3) (Nat.le_of_ble_eq_true rfl)
  rw [lg_entry_eq]
  generalize (lg_sl ([.ref (a 0)]) ++ List.replicate (3 - (lg_sl ([.ref (a 0)])).length) Slot.unset).toArray = ls at hl ⊢
  have hl : lv_has ls 3 [(0, .ref (a 0))] := hl
  exact db_X6_processesThere_0 (dC := dC) (dI := dI) (a := a) (ac := ac) (n := n) (r := r) ⟨hlt, hx, hb, hml, hown, hts, hN, hA, hK⟩ (fun pc v τ H locs ls d z er hP hD hS => by subst er; exact W.zret (v := v) hx hb hr z (fun t ht hW => ⟨⟨v, (), rfl, rfl, by rw [ht]; exact hP, va_K.moved hW.alike hK, hD⟩, hS.F ht⟩) hS.2.2 d) s0 _ _ _ h hP hD va_S.rf (lv_sub hl [0] rfl)
def ow_dm_X6_leastChild : List Cond := Cond.code yX6_leastChild cX6_leastChild 5 (some .int) :: ([Cond.fieldLink RX6 29 "TimeMachine$Machine" "self" "[I"] ++ (u_ws RX6 TX6 20 ++ []))
theorem gd_dm_X6_leastChild : ∀ w ∈ ow_dm_X6_leastChild, (w.onTables && w.keeps) = true ∨ ∃ ty, w = Cond.arrayClass ty := List.forall_mem_cons.mpr ⟨good_of_word rfl, List.forall_mem_append.mpr ⟨fun w h => good_of_word (List.all_eq_true.mp (by decide +kernel) w h), List.forall_mem_append.mpr ⟨gu_X6, fun _ h => nomatch h⟩⟩⟩
theorem hi_dm_X6_leastChild_X6 : ∀ w ∈ u_ws RX6 TX6 20, w ∈ ow_dm_X6_leastChild := fun w h => List.mem_cons_of_mem _ (List.mem_append_right _ (List.mem_append_left _ h))
def dj_X6_leastChild_53 (p : Program) (l : Launch) (e : Env) (s : State) (m : MethodId) (args : Array Value) (below : List Frame) (meth : Method) (c : Code) (Q : State → Prop) (A : Nat → Prop) (dC : Nat → ClassId) (dI : Nat → Nat → Nat) (a : Nat → Nat) (ac : Nat → ClassId) (g : Int32 → Int32 → Int32 → (St × (St)) → Option (Int32 × (St × (St)))) (r : Int32 × (St × (St))) : Prop := ∀ (x1 : Int32) (x2 : Int32) (x3 : Int32) (s0 : St × (St)) (H : Heap) (locs : List Loc) (ls : Array Slot), g x1 x2 x3 s0 = some r → va_P (dC, dI) vwCl (dw_X6 a ac s0) H → va_D A (dw_X6 a ac s0) → va_S A s.heap H locs → lv_has ls 5 [(0, .ref (a 0)), (1, .int x1), (2, .int x2), (3, .int x3)] → W p l e (headSpec ow_dm_X6_leastChild ({ frames := 0, cells := 0, slots := 0, locals := 0 })).room s m args below meth c H locs 0 0 Q (F0 m 53 ls [])
def dj_X6_leastChild_51 (p : Program) (l : Launch) (e : Env) (s : State) (m : MethodId) (args : Array Value) (below : List Frame) (meth : Method) (c : Code) (Q : State → Prop) (A : Nat → Prop) (dC : Nat → ClassId) (dI : Nat → Nat → Nat) (a : Nat → Nat) (ac : Nat → ClassId) (g : Int32 → (St × (St)) → Option (Int32 × (St × (St)))) (r : Int32 × (St × (St))) : Prop := ∀ (x3 : Int32) (s0 : St × (St)) (H : Heap) (locs : List Loc) (ls : Array Slot), g x3 s0 = some r → va_P (dC, dI) vwCl (dw_X6 a ac s0) H → va_D A (dw_X6 a ac s0) → va_S A s.heap H locs → lv_has ls 5 [(3, .int x3)] → W p l e (headSpec ow_dm_X6_leastChild ({ frames := 0, cells := 0, slots := 0, locals := 0 })).room s m args below meth c H locs 0 0 Q (F0 m 51 ls [])
def dj_X6_leastChild_2 (p : Program) (l : Launch) (e : Env) (s : State) (m : MethodId) (args : Array Value) (below : List Frame) (meth : Method) (c : Code) (Q : State → Prop) (A : Nat → Prop) (dC : Nat → ClassId) (dI : Nat → Nat → Nat) (a : Nat → Nat) (ac : Nat → ClassId) (g : Int32 → Int32 → Int32 → (St × (St)) → Option (Int32 × (St × (St)))) (r : Int32 × (St × (St))) : Prop := ∀ (x1 : Int32) (x2 : Int32) (x3 : Int32) (s0 : St × (St)) (H : Heap) (locs : List Loc) (ls : Array Slot), g x1 x2 x3 s0 = some r → va_P (dC, dI) vwCl (dw_X6 a ac s0) H → va_D A (dw_X6 a ac s0) → va_S A s.heap H locs → lv_has ls 5 [(0, .ref (a 0)), (1, .int x1), (2, .int x2), (3, .int x3)] → W p l e (headSpec ow_dm_X6_leastChild ({ frames := 0, cells := 0, slots := 0, locals := 0 })).room s m args below meth c H locs 0 0 Q (F0 m 2 ls [])
def dj_X6_leastChild_0 (p : Program) (l : Launch) (e : Env) (s : State) (m : MethodId) (args : Array Value) (below : List Frame) (meth : Method) (c : Code) (Q : State → Prop) (A : Nat → Prop) (dC : Nat → ClassId) (dI : Nat → Nat → Nat) (a : Nat → Nat) (ac : Nat → ClassId) (g : Int32 → Int32 → (St × (St)) → Option (Int32 × (St × (St)))) (r : Int32 × (St × (St))) : Prop := ∀ (v0 : Int32) (v1 : Int32) (s0 : St × (St)) (H : Heap) (locs : List Loc) (ls : Array Slot), g v0 v1 s0 = some r → va_P (dC, dI) vwCl (dw_X6 a ac s0) H → va_D A (dw_X6 a ac s0) → va_S A s.heap H locs → lv_has ls 5 [(0, .ref (a 0)), (1, .int v0), (2, .int v1)] → W p l e (headSpec ow_dm_X6_leastChild ({ frames := 0, cells := 0, slots := 0, locals := 0 })).room s m args below meth c H locs 0 0 Q (F0 m 0 ls [])
set_option maxHeartbeats 40000000 in
set_option maxRecDepth 100000 in
theorem db_X6_leastChild_53 {p : Program} {l : Launch} {e : Env} {s : State} {m : MethodId} {args : Array Value} {below : List Frame} {meth : Method} {c : Code} {Q : State → Prop} {A : Nat → Prop} {dC : Nat → ClassId} {dI : Nat → Nat → Nat} {a : Nat → Nat} {ac : Nat → ClassId} {n : Nat} {r : Int32 × (St × (St))} (C : nd_C p l s m args c A (dC, dI) cX6_leastChild 5 RX6 ow_dm_X6_leastChild (dk_X6 ac)) (K : nd_Ki p l e (headSpec ow_dm_X6_leastChild ({ frames := 0, cells := 0, slots := 0, locals := 0 })).room s m args below meth c Q A (dC, dI) cX6_leastChild .int (St × (St)) (dw_X6 a ac) r) {g2 : Int32 → Int32 → Int32 → (St × (St)) → Option (Int32 × (St × (St)))} (J2 : dj_X6_leastChild_2 p l e s m args below meth c Q A dC dI a ac g2 r) : dj_X6_leastChild_53 p l e s m args below meth c Q A dC dI a ac (df_X6_leastChild_53 n g2) r := by
  obtain ⟨hlt, hx, hb, hml, hown, hts, hN, hA, hK⟩ := id C
  intro x1 x2 x3 s0 H locs ls h hP hD hS hl
  unfold df_X6_leastChild_53 at h
  obtain ⟨z5, ez5, h⟩ := nd_let_e h
  refine lv_iinc (v := z5) (lv' := [(3, .int z5), (0, .ref (a 0)), (1, .int x1), (2, .int x2)]) hx hb dX6_leastChild_53 hl (k := 3) rfl (by rw [ez5]) (by decide) rfl (fun ls hl => ?_)
  refine lv_goto (tgt := 2) hx hb dX6_leastChild_56 (by decide) ?_
  exact (J2) (x1) (x2) (z5) s0 _ _ _ h hP hD hS (lv_sub hl [1, 2, 3, 0] rfl)
set_option maxHeartbeats 40000000 in
set_option maxRecDepth 100000 in
theorem db_X6_leastChild_51 {p : Program} {l : Launch} {e : Env} {s : State} {m : MethodId} {args : Array Value} {below : List Frame} {meth : Method} {c : Code} {Q : State → Prop} {A : Nat → Prop} {dC : Nat → ClassId} {dI : Nat → Nat → Nat} {a : Nat → Nat} {ac : Nat → ClassId} {n : Nat} {r : Int32 × (St × (St))} (C : nd_C p l s m args c A (dC, dI) cX6_leastChild 5 RX6 ow_dm_X6_leastChild (dk_X6 ac)) (K : nd_Ki p l e (headSpec ow_dm_X6_leastChild ({ frames := 0, cells := 0, slots := 0, locals := 0 })).room s m args below meth c Q A (dC, dI) cX6_leastChild .int (St × (St)) (dw_X6 a ac) r) : dj_X6_leastChild_51 p l e s m args below meth c Q A dC dI a ac (df_X6_leastChild_51 n) r := by
  obtain ⟨hlt, hx, hb, hml, hown, hts, hN, hA, hK⟩ := id C
  intro x3 s0 H locs ls h hP hD hS hl
  unfold df_X6_leastChild_51 at h
  refine lv_iload_n hx hb dX6_leastChild_51 rfl (lv_at hl 0 rfl) ?_
  exact K _ _ _ _ _ _ dX6_leastChild_52 rfl (Option.some.inj h).symm hP hD hS
set_option maxHeartbeats 40000000 in
set_option maxRecDepth 100000 in
theorem dB_X6_leastChild_2 {p : Program} {l : Launch} {e : Env} {s : State} {m : MethodId} {args : Array Value} {below : List Frame} {meth : Method} {c : Code} {Q : State → Prop} {A : Nat → Prop} {dC : Nat → ClassId} {dI : Nat → Nat → Nat} {a : Nat → Nat} {ac : Nat → ClassId} {n : Nat} {r : Int32 × (St × (St))} (C : nd_C p l s m args c A (dC, dI) cX6_leastChild 5 RX6 ow_dm_X6_leastChild (dk_X6 ac)) (K : nd_Ki p l e (headSpec ow_dm_X6_leastChild ({ frames := 0, cells := 0, slots := 0, locals := 0 })).room s m args below meth c Q A (dC, dI) cX6_leastChild .int (St × (St)) (dw_X6 a ac) r) {g2 : Int32 → Int32 → Int32 → (St × (St)) → Option (Int32 × (St × (St)))} (J2 : dj_X6_leastChild_2 p l e s m args below meth c Q A dC dI a ac g2 r) : dj_X6_leastChild_2 p l e s m args below meth c Q A dC dI a ac (dF_X6_leastChild_2 n g2) r := by
  obtain ⟨hlt, hx, hb, hml, hown, hts, hN, hA, hK⟩ := id C
  intro x1 x2 x3 s0 H locs ls h hP hD hS hl
  unfold dF_X6_leastChild_2 at h
  refine lv_iload_n hx hb dX6_leastChild_2 rfl (lv_at hl 3 rfl) ?_
  refine lv_bipush (v := 16) hx hb dX6_leastChild_3 (by decide) ?_
  refine lv_icmp_ge (tgt := 59) hx hb dX6_leastChild_5 (by decide) (fun c1 => ?_) (fun c1 => ?_)
  · have h := nd_pos h c1
    refine lv_iconst (v := (-1)) hx hb dX6_leastChild_59 (by decide) ?_
    exact K _ _ _ _ _ _ dX6_leastChild_60 rfl (Option.some.inj h).symm hP hD hS
  · have h := nd_neg h c1
    refine lv_aload_n hx hb dX6_leastChild_8 rfl (lv_at hl 0 rfl) ?_
    refine va_get (D := (dC, dI)) (ci := 7) (v := .ref (a 7)) (C := RX6) (T := TX6) (N := 20) hx hb hts hi_dm_X6_leastChild_X6 hown hK hP 0 rfl rfl 7 (by decide) (hts (.fieldLink RX6 29 "TimeMachine$Machine" "self" "[I") (List.mem_of_getElem? (i := 1) rfl)) (fun _ h9 => h9) rfl dX6_leastChild_9 ?_
    refine lv_iload_n hx hb dX6_leastChild_12 rfl (lv_at hl 3 rfl) ?_
    refine lv_bipush (v := 7) hx hb dX6_leastChild_13 (by decide) ?_
    refine lv_imul hx hb dX6_leastChild_15 ?_
    refine lv_iconst (v := 0) hx hb dX6_leastChild_16 (by decide) ?_
    refine lv_iadd hx hb dX6_leastChild_17 ?_
    obtain ⟨i2, h⟩ := nd_ck_e h
    refine va_iald (i := ((x3 * 7) + 0)) hx hb hK hP 7 6 rfl rfl i2 dX6_leastChild_18 ?_
    refine lv_topi (fun z3 ez3 => ?_)
    have h := nd_at h ez3
    refine lv_istore (lv' := [(4, .int z3), (0, .ref (a 0)), (1, .int x1), (2, .int x2), (3, .int x3)]) hx hb dX6_leastChild_19 hl (by decide) rfl (fun ls hl => ?_)
    refine lv_iload hx hb dX6_leastChild_21 (lv_at hl 0 rfl) ?_
    refine lv_if_eq (tgt := 53) hx hb dX6_leastChild_23 (by decide) (fun c4 => ?_) (fun c4 => ?_)
    · have h := nd_pos h c4
      exact (db_X6_leastChild_53 C K J2) (x1) (x2) (x3) s0 _ _ _ h hP hD hS (lv_sub hl [1, 2, 3, 4] rfl)
    · have h := nd_neg h c4
      refine lv_aload_n hx hb dX6_leastChild_26 rfl (lv_at hl 1 rfl) ?_
      refine va_get (D := (dC, dI)) (ci := 7) (v := .ref (a 7)) (C := RX6) (T := TX6) (N := 20) hx hb hts hi_dm_X6_leastChild_X6 hown hK hP 0 rfl rfl 7 (by decide) (hts (.fieldLink RX6 29 "TimeMachine$Machine" "self" "[I") (List.mem_of_getElem? (i := 1) rfl)) (fun _ h9 => h9) rfl dX6_leastChild_27 ?_
      refine lv_iload_n hx hb dX6_leastChild_30 rfl (lv_at hl 4 rfl) ?_
      refine lv_bipush (v := 7) hx hb dX6_leastChild_31 (by decide) ?_
      refine lv_imul hx hb dX6_leastChild_33 ?_
      refine lv_iconst (v := 1) hx hb dX6_leastChild_34 (by decide) ?_
      refine lv_iadd hx hb dX6_leastChild_35 ?_
      obtain ⟨i6, h⟩ := nd_ck_e h
      refine va_iald (i := ((x3 * 7) + 1)) hx hb hK hP 7 6 rfl rfl i6 dX6_leastChild_36 ?_
      refine lv_iload_n hx hb dX6_leastChild_37 rfl (lv_at hl 2 rfl) ?_
      refine lv_icmp_ne (tgt := 53) hx hb dX6_leastChild_38 (by decide) (fun c7 => ?_) (fun c7 => ?_)
      · have h := nd_neg h c7
        exact (db_X6_leastChild_53 C K J2) (x1) (x2) (x3) s0 _ _ _ h hP hD hS (lv_sub hl [1, 2, 3, 4] rfl)
      · have h := nd_pos h c7
        refine lv_iload_n hx hb dX6_leastChild_41 rfl (lv_at hl 3 rfl) ?_
        refine lv_if_ne (tgt := 51) hx hb dX6_leastChild_42 (by decide) (fun c8 => ?_) (fun c8 => ?_)
        · have h := nd_neg h c8
          exact (db_X6_leastChild_51 C K) (x3) s0 _ _ _ h hP hD hS (lv_sub hl [4] rfl)
        · have h := nd_pos h c8
          refine lv_iload hx hb dX6_leastChild_45 (lv_at hl 0 rfl) ?_
          refine lv_iconst (v := 3) hx hb dX6_leastChild_47 (by decide) ?_
          refine lv_icmp_ne (tgt := 53) hx hb dX6_leastChild_48 (by decide) (fun c9 => ?_) (fun c9 => ?_)
          · have h := nd_neg h c9
            exact (db_X6_leastChild_53 C K J2) (x1) (x2) (x3) s0 _ _ _ h hP hD hS (lv_sub hl [1, 2, 3, 4] rfl)
          · have h := nd_pos h c9
            exact (db_X6_leastChild_51 C K) (x3) s0 _ _ _ h hP hD hS (lv_sub hl [4] rfl)
set_option maxHeartbeats 40000000 in
set_option maxRecDepth 100000 in
theorem db_X6_leastChild_2 {p : Program} {l : Launch} {e : Env} {s : State} {m : MethodId} {args : Array Value} {below : List Frame} {meth : Method} {c : Code} {Q : State → Prop} {A : Nat → Prop} {dC : Nat → ClassId} {dI : Nat → Nat → Nat} {a : Nat → Nat} {ac : Nat → ClassId} {n : Nat} {r : Int32 × (St × (St))} (C : nd_C p l s m args c A (dC, dI) cX6_leastChild 5 RX6 ow_dm_X6_leastChild (dk_X6 ac)) (K : nd_Ki p l e (headSpec ow_dm_X6_leastChild ({ frames := 0, cells := 0, slots := 0, locals := 0 })).room s m args below meth c Q A (dC, dI) cX6_leastChild .int (St × (St)) (dw_X6 a ac) r) (k : Nat) : dj_X6_leastChild_2 p l e s m args below meth c Q A dC dI a ac (df_X6_leastChild_2 n k) r := by
  induction k with
  | zero => intro x1 x2 x3 s0 H locs ls h; exact nomatch (show (none : Option (Int32 × (St × (St)))) = some r from h)
  | succ k ih => exact dB_X6_leastChild_2 C K ih
set_option maxHeartbeats 40000000 in
set_option maxRecDepth 100000 in
theorem db_X6_leastChild_0 {p : Program} {l : Launch} {e : Env} {s : State} {m : MethodId} {args : Array Value} {below : List Frame} {meth : Method} {c : Code} {Q : State → Prop} {A : Nat → Prop} {dC : Nat → ClassId} {dI : Nat → Nat → Nat} {a : Nat → Nat} {ac : Nat → ClassId} {n : Nat} {r : Int32 × (St × (St))} (C : nd_C p l s m args c A (dC, dI) cX6_leastChild 5 RX6 ow_dm_X6_leastChild (dk_X6 ac)) (K : nd_Ki p l e (headSpec ow_dm_X6_leastChild ({ frames := 0, cells := 0, slots := 0, locals := 0 })).room s m args below meth c Q A (dC, dI) cX6_leastChild .int (St × (St)) (dw_X6 a ac) r) : dj_X6_leastChild_0 p l e s m args below meth c Q A dC dI a ac (df_X6_leastChild_0 n) r := by
  obtain ⟨hlt, hx, hb, hml, hown, hts, hN, hA, hK⟩ := id C
  intro v0 v1 s0 H locs ls h hP hD hS hl
  unfold df_X6_leastChild_0 at h
  refine lv_iconst (v := 0) hx hb dX6_leastChild_0 (by decide) ?_
  refine lv_istore_n (lv' := [(3, .int 0), (0, .ref (a 0)), (1, .int v0), (2, .int v1)]) hx hb dX6_leastChild_1 rfl hl (by decide) rfl (fun ls hl => ?_)
  exact (db_X6_leastChild_2 C K n) (v0) (v1) (0) s0 _ _ _ h hP hD hS (lv_sub hl [1, 2, 3, 0] rfl)
set_option maxHeartbeats 40000000 in
set_option maxRecDepth 100000 in
theorem dm_X6_leastChild (l : Launch) (hlt : l.stackTraces = false) (dC : Nat → ClassId) (dI : Nat → Nat → Nat) (a : Nat → Nat) (ac : Nat → ClassId) (n : Nat) (v0 : Int32) (v1 : Int32) (s0 : St × (St)) {r : Int32 × (St × (St))} (h : df_X6_leastChild n v0 v1 s0 = some r) (sz : Nat) : Met l yX6_leastChild ow_dm_X6_leastChild ({ frames := 0, cells := 0, slots := 0, locals := 0 }) (va_Pc [.ref (a 0), .int v0, .int v1] (fun U => U.heap.size = sz ∧ va_P (dC, dI) vwCl (dw_X6 a ac s0) U.heap ∧ va_K (dC, dI) vwCl (dk_X6 ac) U ∧ va_D (fun _ => True) (dw_X6 a ac s0) ∧ nv_E dI (va_A (dw_X6 a ac s0) sz) U)) (va_Qi (fun x _ => x = r.1) (fun (_ : Unit) t => va_P (dC, dI) vwCl (dw_X6 a ac r.2) t.heap ∧ va_K (dC, dI) vwCl (dk_X6 ac) t ∧ va_D (va_A (dw_X6 a ac s0) sz) (dw_X6 a ac r.2)) (va_A (dw_X6 a ac s0) sz)) 0 0 (va_A (dw_X6 a ac s0) sz) := by
  refine Met.ofW (cc := cX6_leastChild) (maxL := 5) (ret := (some .int)) (by decide) rfl ?_
  intro p e s m args below meth c s₁ B hml hv
  obtain ⟨rfl, hsz, hP, hK, hD0, hN⟩ := hv
  have hx := B.exec
  have hb := B.bytes
  have hr := B.returns
  have hts := atoms_spec (ws := ow_dm_X6_leastChild) B.pre
  have hown : s.vm.findClass RX6 = some m.cls := findClass_of_methodNamed B.named
  have hlocks := B.notSynchronized
  subst hsz
  have hD := hD0.self (sz := s.heap.size)
  generalize hAe : va_A (dw_X6 a ac s0) s.heap.size = A at hD hN ⊢
  have hA : ∀ q : Nat, s.heap.size ≤ q → A q := fun q h => by rw [← hAe]; exact Or.inr h
  have hl := lv_entry ([.ref (a 0), .int v0, .int v1]) (n := 5) (Nat.le_of_ble_eq_true rfl)
  rw [lg_entry_eq]
  generalize (lg_sl ([.ref (a 0), .int v0, .int v1]) ++ List.replicate (5 - (lg_sl ([.ref (a 0), .int v0, .int v1])).length) Slot.unset).toArray = ls at hl ⊢
  have hl : lv_has ls 5 [(0, .ref (a 0)), (1, .int v0), (2, .int v1)] := hl
  exact db_X6_leastChild_0 (dC := dC) (dI := dI) (a := a) (ac := ac) (n := n) (r := r) ⟨hlt, hx, hb, hml, hown, hts, hN, hA, hK⟩ (fun pc v τ H locs ls d z er hP hD hS => by subst er; exact W.zret (v := v) hx hb hr z (fun t ht hW => ⟨⟨v, (), rfl, rfl, by rw [ht]; exact hP, va_K.moved hW.alike hK, hD⟩, hS.F ht⟩) hS.2.2 d) v0 v1 s0 _ _ _ h hP hD va_S.rf (lv_sub hl [0, 1, 2] rfl)
def ow_dm_X6_finish : List Cond := Cond.code yX6_finish cX6_finish 4 none :: ([Cond.methodLink RX6 168 yX6_dropPages, Cond.instanceMethod yX6_dropPages, Cond.selects RX6 yX6_dropPages yX6_dropPages, Cond.initialized RX6, Cond.fieldLink RX6 29 "TimeMachine$Machine" "self" "[I", Cond.methodLink RX6 56 yX6_makeAbsent, Cond.instanceMethod yX6_makeAbsent, Cond.selects RX6 yX6_makeAbsent yX6_makeAbsent, Cond.methodLink RX6 156 yX6_status, Cond.instanceMethod yX6_status, Cond.selects RX6 yX6_status yX6_status, Cond.fieldLink RX6 42 "TimeMachine$Machine" "things" "LTimeMachine$Things;", Cond.methodLink RX6 165 yX10_close, Cond.instanceMethod yX10_close, Cond.selects RX10 yX10_close yX10_close, Cond.initialized RX10] ++ (u_ws RX6 TX6 20 ++ (ow_dm_X6_dropPages ++ (ow_dm_X6_makeAbsent ++ (ow_dm_X6_status ++ (ow_dm_X10_close ++ []))))))
theorem gd_dm_X6_finish : ∀ w ∈ ow_dm_X6_finish, (w.onTables && w.keeps) = true ∨ ∃ ty, w = Cond.arrayClass ty := List.forall_mem_cons.mpr ⟨good_of_word rfl, List.forall_mem_append.mpr ⟨fun w h => good_of_word (List.all_eq_true.mp (by decide +kernel) w h), List.forall_mem_append.mpr ⟨gu_X6, List.forall_mem_append.mpr ⟨gd_dm_X6_dropPages, List.forall_mem_append.mpr ⟨gd_dm_X6_makeAbsent, List.forall_mem_append.mpr ⟨gd_dm_X6_status, List.forall_mem_append.mpr ⟨gd_dm_X10_close, fun _ h => nomatch h⟩⟩⟩⟩⟩⟩⟩
theorem hi_dm_X6_finish_X6 : ∀ w ∈ u_ws RX6 TX6 20, w ∈ ow_dm_X6_finish := fun w h => List.mem_cons_of_mem _ (List.mem_append_right _ (List.mem_append_left _ h))
theorem gi_dm_X6_finish_0 : GoodIn ow_dm_X6_finish (wsV RX6 168 RX6 yX6_dropPages ow_dm_X6_dropPages) := goodIn_app (goodIn_of _ (by decide +kernel)) (fun w h => ⟨List.mem_cons_of_mem _ (List.mem_append_right _ (List.mem_append_right _ (List.mem_append_left _ h))), gd_dm_X6_dropPages w h⟩)
theorem gi_dm_X6_finish_1 : GoodIn ow_dm_X6_finish (wsV RX6 56 RX6 yX6_makeAbsent ow_dm_X6_makeAbsent) := goodIn_app (goodIn_of _ (by decide +kernel)) (fun w h => ⟨List.mem_cons_of_mem _ (List.mem_append_right _ (List.mem_append_right _ (List.mem_append_right _ (List.mem_append_left _ h)))), gd_dm_X6_makeAbsent w h⟩)
theorem gi_dm_X6_finish_2 : GoodIn ow_dm_X6_finish (wsV RX6 156 RX6 yX6_status ow_dm_X6_status) := goodIn_app (goodIn_of _ (by decide +kernel)) (fun w h => ⟨List.mem_cons_of_mem _ (List.mem_append_right _ (List.mem_append_right _ (List.mem_append_right _ (List.mem_append_right _ (List.mem_append_left _ h))))), gd_dm_X6_status w h⟩)
theorem gi_dm_X6_finish_3 : GoodIn ow_dm_X6_finish (wsV RX6 165 RX10 yX10_close ow_dm_X10_close) := goodIn_app (goodIn_of _ (by decide +kernel)) (fun w h => ⟨List.mem_cons_of_mem _ (List.mem_append_right _ (List.mem_append_right _ (List.mem_append_right _ (List.mem_append_right _ (List.mem_append_right _ (List.mem_append_left _ h)))))), gd_dm_X10_close w h⟩)
def dj_X6_finish_155 (p : Program) (l : Launch) (e : Env) (s : State) (m : MethodId) (args : Array Value) (below : List Frame) (meth : Method) (c : Code) (Q : State → Prop) (A : Nat → Prop) (dC : Nat → ClassId) (dI : Nat → Nat → Nat) (a : Nat → Nat) (ac : Nat → ClassId) (g : (St × (St)) → Option (St × (St))) (r : St × (St)) : Prop := ∀ (s0 : St × (St)) (H : Heap) (locs : List Loc) (ls : Array Slot), g s0 = some r → va_P (dC, dI) vwCl (dw_X6 a ac s0) H → va_D A (dw_X6 a ac s0) → va_S A s.heap H locs → lv_has ls 4 [] → W p l e (headSpec ow_dm_X6_finish ({ frames := 2, cells := 0, slots := 0, locals := 46 })).room s m args below meth c H locs 0 0 Q (F0 m 155 ls [])
def dj_X6_finish_88 (p : Program) (l : Launch) (e : Env) (s : State) (m : MethodId) (args : Array Value) (below : List Frame) (meth : Method) (c : Code) (Q : State → Prop) (A : Nat → Prop) (dC : Nat → ClassId) (dI : Nat → Nat → Nat) (a : Nat → Nat) (ac : Nat → ClassId) (g : Int32 → Int32 → Int32 → (St × (St)) → Option (St × (St))) (r : St × (St)) : Prop := ∀ (x1 : Int32) (x2 : Int32) (x3 : Int32) (s0 : St × (St)) (H : Heap) (locs : List Loc) (ls : Array Slot), g x1 x2 x3 s0 = some r → va_P (dC, dI) vwCl (dw_X6 a ac s0) H → va_D A (dw_X6 a ac s0) → va_S A s.heap H locs → lv_has ls 4 [(0, .ref (a 0)), (1, .int x1), (2, .int x2), (3, .int x3)] → W p l e (headSpec ow_dm_X6_finish ({ frames := 2, cells := 0, slots := 0, locals := 46 })).room s m args below meth c H locs 0 0 Q (F0 m 88 ls [])
def dj_X6_finish_30 (p : Program) (l : Launch) (e : Env) (s : State) (m : MethodId) (args : Array Value) (below : List Frame) (meth : Method) (c : Code) (Q : State → Prop) (A : Nat → Prop) (dC : Nat → ClassId) (dI : Nat → Nat → Nat) (a : Nat → Nat) (ac : Nat → ClassId) (g : Int32 → Int32 → Int32 → (St × (St)) → Option (St × (St))) (r : St × (St)) : Prop := ∀ (x1 : Int32) (x2 : Int32) (x3 : Int32) (s0 : St × (St)) (H : Heap) (locs : List Loc) (ls : Array Slot), g x1 x2 x3 s0 = some r → va_P (dC, dI) vwCl (dw_X6 a ac s0) H → va_D A (dw_X6 a ac s0) → va_S A s.heap H locs → lv_has ls 4 [(0, .ref (a 0)), (1, .int x1), (2, .int x2), (3, .int x3)] → W p l e (headSpec ow_dm_X6_finish ({ frames := 2, cells := 0, slots := 0, locals := 46 })).room s m args below meth c H locs 0 0 Q (F0 m 30 ls [])
def dj_X6_finish_2 (p : Program) (l : Launch) (e : Env) (s : State) (m : MethodId) (args : Array Value) (below : List Frame) (meth : Method) (c : Code) (Q : State → Prop) (A : Nat → Prop) (dC : Nat → ClassId) (dI : Nat → Nat → Nat) (a : Nat → Nat) (ac : Nat → ClassId) (g : Int32 → Int32 → Int32 → (St × (St)) → Option (St × (St))) (r : St × (St)) : Prop := ∀ (x1 : Int32) (x2 : Int32) (x3 : Int32) (s0 : St × (St)) (H : Heap) (locs : List Loc) (ls : Array Slot), g x1 x2 x3 s0 = some r → va_P (dC, dI) vwCl (dw_X6 a ac s0) H → va_D A (dw_X6 a ac s0) → va_S A s.heap H locs → lv_has ls 4 [(0, .ref (a 0)), (1, .int x1), (2, .int x2), (3, .int x3)] → W p l e (headSpec ow_dm_X6_finish ({ frames := 2, cells := 0, slots := 0, locals := 46 })).room s m args below meth c H locs 0 0 Q (F0 m 2 ls [])
def dj_X6_finish_0 (p : Program) (l : Launch) (e : Env) (s : State) (m : MethodId) (args : Array Value) (below : List Frame) (meth : Method) (c : Code) (Q : State → Prop) (A : Nat → Prop) (dC : Nat → ClassId) (dI : Nat → Nat → Nat) (a : Nat → Nat) (ac : Nat → ClassId) (g : Int32 → Int32 → (St × (St)) → Option (St × (St))) (r : St × (St)) : Prop := ∀ (v0 : Int32) (v1 : Int32) (s0 : St × (St)) (H : Heap) (locs : List Loc) (ls : Array Slot), g v0 v1 s0 = some r → va_P (dC, dI) vwCl (dw_X6 a ac s0) H → va_D A (dw_X6 a ac s0) → va_S A s.heap H locs → lv_has ls 4 [(0, .ref (a 0)), (1, .int v0), (2, .int v1)] → W p l e (headSpec ow_dm_X6_finish ({ frames := 2, cells := 0, slots := 0, locals := 46 })).room s m args below meth c H locs 0 0 Q (F0 m 0 ls [])
set_option maxHeartbeats 40000000 in
set_option maxRecDepth 100000 in
theorem db_X6_finish_155 {p : Program} {l : Launch} {e : Env} {s : State} {m : MethodId} {args : Array Value} {below : List Frame} {meth : Method} {c : Code} {Q : State → Prop} {A : Nat → Prop} {dC : Nat → ClassId} {dI : Nat → Nat → Nat} {a : Nat → Nat} {ac : Nat → ClassId} {n : Nat} {r : St × (St)} (C : nd_C p l s m args c A (dC, dI) cX6_finish 4 RX6 ow_dm_X6_finish (dk_X6 ac)) (K : nd_Kv p l e (headSpec ow_dm_X6_finish ({ frames := 2, cells := 0, slots := 0, locals := 46 })).room s m args below meth c Q A (dC, dI) cX6_finish (St × (St)) (dw_X6 a ac) r) : dj_X6_finish_155 p l e s m args below meth c Q A dC dI a ac (df_X6_finish_155 n) r := by
  obtain ⟨hlt, hx, hb, hml, hown, hts, hN, hA, hK⟩ := id C
  intro s0 H locs ls h hP hD hS hl
  unfold df_X6_finish_155 at h
  exact K _ _ _ _ _ dX6_finish_155 (Option.some.inj h).symm hP hD hS
set_option maxHeartbeats 40000000 in
set_option maxRecDepth 100000 in
theorem db_X6_finish_88 {p : Program} {l : Launch} {e : Env} {s : State} {m : MethodId} {args : Array Value} {below : List Frame} {meth : Method} {c : Code} {Q : State → Prop} {A : Nat → Prop} {dC : Nat → ClassId} {dI : Nat → Nat → Nat} {a : Nat → Nat} {ac : Nat → ClassId} {n : Nat} {r : St × (St)} (C : nd_C p l s m args c A (dC, dI) cX6_finish 4 RX6 ow_dm_X6_finish (dk_X6 ac)) (K : nd_Kv p l e (headSpec ow_dm_X6_finish ({ frames := 2, cells := 0, slots := 0, locals := 46 })).room s m args below meth c Q A (dC, dI) cX6_finish (St × (St)) (dw_X6 a ac) r) {g30 : Int32 → Int32 → Int32 → (St × (St)) → Option (St × (St))} (J30 : dj_X6_finish_30 p l e s m args below meth c Q A dC dI a ac g30 r) : dj_X6_finish_88 p l e s m args below meth c Q A dC dI a ac (df_X6_finish_88 n g30) r := by
  obtain ⟨hlt, hx, hb, hml, hown, hts, hN, hA, hK⟩ := id C
  intro x1 x2 x3 s0 H locs ls h hP hD hS hl
  unfold df_X6_finish_88 at h
  obtain ⟨z22, ez22, h⟩ := nd_let_e h
  refine lv_iinc (v := z22) (lv' := [(3, .int z22), (0, .ref (a 0)), (1, .int x1), (2, .int x2)]) hx hb dX6_finish_88 hl (k := 3) rfl (by rw [ez22]) (by decide) rfl (fun ls hl => ?_)
  refine lv_goto (tgt := 30) hx hb dX6_finish_91 (by decide) ?_
  exact (J30) (x1) (x2) (z22) s0 _ _ _ h hP hD hS (lv_sub hl [1, 2, 3, 0] rfl)
set_option maxHeartbeats 40000000 in
set_option maxRecDepth 100000 in
theorem dB_X6_finish_30 {p : Program} {l : Launch} {e : Env} {s : State} {m : MethodId} {args : Array Value} {below : List Frame} {meth : Method} {c : Code} {Q : State → Prop} {A : Nat → Prop} {dC : Nat → ClassId} {dI : Nat → Nat → Nat} {a : Nat → Nat} {ac : Nat → ClassId} {n : Nat} {r : St × (St)} (C : nd_C p l s m args c A (dC, dI) cX6_finish 4 RX6 ow_dm_X6_finish (dk_X6 ac)) (K : nd_Kv p l e (headSpec ow_dm_X6_finish ({ frames := 2, cells := 0, slots := 0, locals := 46 })).room s m args below meth c Q A (dC, dI) cX6_finish (St × (St)) (dw_X6 a ac) r) {g30 : Int32 → Int32 → Int32 → (St × (St)) → Option (St × (St))} (J30 : dj_X6_finish_30 p l e s m args below meth c Q A dC dI a ac g30 r) : dj_X6_finish_30 p l e s m args below meth c Q A dC dI a ac (dF_X6_finish_30 n g30) r := by
  obtain ⟨hlt, hx, hb, hml, hown, hts, hN, hA, hK⟩ := id C
  intro x1 x2 x3 s0 H locs ls h hP hD hS hl
  unfold dF_X6_finish_30 at h
  refine lv_iload_n hx hb dX6_finish_30 rfl (lv_at hl 3 rfl) ?_
  refine lv_bipush (v := 16) hx hb dX6_finish_31 (by decide) ?_
  refine lv_icmp_ge (tgt := 94) hx hb dX6_finish_33 (by decide) (fun c5 => ?_) (fun c5 => ?_)
  · have h := nd_pos h c5
    refine lv_aload_n hx hb dX6_finish_94 rfl (lv_at hl 0 rfl) ?_
    refine va_get (D := (dC, dI)) (ci := 7) (v := .ref (a 7)) (C := RX6) (T := TX6) (N := 20) hx hb hts hi_dm_X6_finish_X6 hown hK hP 0 rfl rfl 7 (by decide) (hts (.fieldLink RX6 29 "TimeMachine$Machine" "self" "[I") (List.mem_of_getElem? (i := 5) rfl)) (fun _ h9 => h9) rfl dX6_finish_95 ?_
    refine lv_iload_n hx hb dX6_finish_98 rfl (lv_at hl 1 rfl) ?_
    refine lv_bipush (v := 7) hx hb dX6_finish_99 (by decide) ?_
    refine lv_imul hx hb dX6_finish_101 ?_
    refine lv_iconst (v := 1) hx hb dX6_finish_102 (by decide) ?_
    refine lv_iadd hx hb dX6_finish_103 ?_
    obtain ⟨i6, h⟩ := nd_ck_e h
    refine va_iald (i := ((x1 * 7) + 1)) hx hb hK hP 7 6 rfl rfl i6 dX6_finish_104 ?_
    refine lv_topi (fun z7 ez7 => ?_)
    have h := nd_at h ez7
    refine lv_istore_n (lv' := [(3, .int z7), (0, .ref (a 0)), (1, .int x1), (2, .int x2)]) hx hb dX6_finish_105 rfl hl (by decide) rfl (fun ls hl => ?_)
    refine lv_aload_n hx hb dX6_finish_106 rfl (lv_at hl 1 rfl) ?_
    refine lv_iload_n hx hb dX6_finish_107 rfl (lv_at hl 2 rfl) ?_
    obtain ⟨s9, hq, h⟩ := nd_b1_e h
    have hPc := hP
    have hDc := hD
    have hKc := hK
    have hFc := nd_rs hD hS hA
    refine nd_cVv (As := [.int x1]) (rest := []) (w' := dw_X6 a ac s9) ⟨hx, hb, hml, hown, hts⟩ (fun sz => dm_X6_makeAbsent l hlt dC dI a ac n (x1) s0 hq sz) (cwV 1 hts gi_dm_X6_finish_1 rfl rfl rfl (by decide +kernel) ⟨Nat.le_of_ble_eq_true rfl, Nat.le_of_ble_eq_true rfl⟩) hPc hDc hKc hS hA hN (va_recv hKc hPc (ci := 7) (q0 := 0) rfl rfl) rfl hl.1 rfl (Nat.le_of_ble_eq_true rfl) dX6_finish_108 (fun H locs hP1 hD1 hk1 hS => ?_)
    have hP := hP1
    have hD := hD1.weaken (fun k q _ h => hFc q.1 h)
    refine lv_iload_n hx hb dX6_finish_111 rfl (lv_at hl 0 rfl) ?_
    refine lv_if_lt (tgt := 155) hx hb dX6_finish_112 (by decide) (fun c11 => ?_) (fun c11 => ?_)
    · have h := nd_pos h c11
      exact (db_X6_finish_155 C K)  s9 _ _ _ h hP hD hS (lv_sub hl [] rfl)
    · have h := nd_neg h c11
      refine lv_aload_n hx hb dX6_finish_115 rfl (lv_at hl 1 rfl) ?_
      refine va_get (D := (dC, dI)) (ci := 7) (v := .ref (a 7)) (C := RX6) (T := TX6) (N := 20) hx hb hts hi_dm_X6_finish_X6 hown hK hP 0 rfl rfl 7 (by decide) (hts (.fieldLink RX6 29 "TimeMachine$Machine" "self" "[I") (List.mem_of_getElem? (i := 5) rfl)) (fun _ h9 => h9) rfl dX6_finish_116 ?_
      refine lv_iload_n hx hb dX6_finish_119 rfl (lv_at hl 2 rfl) ?_
      refine lv_bipush (v := 7) hx hb dX6_finish_120 (by decide) ?_
      refine lv_imul hx hb dX6_finish_122 ?_
      refine lv_iconst (v := 0) hx hb dX6_finish_123 (by decide) ?_
      refine lv_iadd hx hb dX6_finish_124 ?_
      refine lv_iconst (v := 3) hx hb dX6_finish_125 (by decide) ?_
      obtain ⟨i12, h⟩ := nd_ck_e h
      refine va_iast (i := ((x1 * 7) + 0)) (x := 3) hx hb hK hP hD hS 7 6 rfl rfl i12 dX6_finish_126 (fun H locs hP hD hS => ?_)
      obtain ⟨s13, es13, h⟩ := nd_let_e h
      have hP : va_P (dC, dI) vwCl (dw_X6 a ac s13) H := by rw [es13]; exact hP
      have hD : va_D A (dw_X6 a ac s13) := by rw [es13]; exact hD
      refine lv_aload_n hx hb dX6_finish_127 rfl (lv_at hl 1 rfl) ?_
      refine va_get (D := (dC, dI)) (ci := 7) (v := .ref (a 7)) (C := RX6) (T := TX6) (N := 20) hx hb hts hi_dm_X6_finish_X6 hown hK hP 0 rfl rfl 7 (by decide) (hts (.fieldLink RX6 29 "TimeMachine$Machine" "self" "[I") (List.mem_of_getElem? (i := 5) rfl)) (fun _ h9 => h9) rfl dX6_finish_128 ?_
      refine lv_iload_n hx hb dX6_finish_131 rfl (lv_at hl 2 rfl) ?_
      refine lv_bipush (v := 7) hx hb dX6_finish_132 (by decide) ?_
      refine lv_imul hx hb dX6_finish_134 ?_
      refine lv_iconst (v := 1) hx hb dX6_finish_135 (by decide) ?_
      refine lv_iadd hx hb dX6_finish_136 ?_
      refine lv_iload_n hx hb dX6_finish_137 rfl (lv_at hl 0 rfl) ?_
      obtain ⟨i14, h⟩ := nd_ck_e h
      refine va_iast (i := ((x1 * 7) + 1)) (x := z7) hx hb hK hP hD hS 7 6 rfl rfl i14 dX6_finish_138 (fun H locs hP hD hS => ?_)
      obtain ⟨s15, es15, h⟩ := nd_let_e h
      have hP : va_P (dC, dI) vwCl (dw_X6 a ac s15) H := by rw [es15]; exact hP
      have hD : va_D A (dw_X6 a ac s15) := by rw [es15]; exact hD
      refine lv_aload_n hx hb dX6_finish_139 rfl (lv_at hl 1 rfl) ?_
      refine va_get (D := (dC, dI)) (ci := 7) (v := .ref (a 7)) (C := RX6) (T := TX6) (N := 20) hx hb hts hi_dm_X6_finish_X6 hown hK hP 0 rfl rfl 7 (by decide) (hts (.fieldLink RX6 29 "TimeMachine$Machine" "self" "[I") (List.mem_of_getElem? (i := 5) rfl)) (fun _ h9 => h9) rfl dX6_finish_140 ?_
      refine lv_iload_n hx hb dX6_finish_143 rfl (lv_at hl 2 rfl) ?_
      refine lv_bipush (v := 7) hx hb dX6_finish_144 (by decide) ?_
      refine lv_imul hx hb dX6_finish_146 ?_
      refine lv_iconst (v := 2) hx hb dX6_finish_147 (by decide) ?_
      refine lv_iadd hx hb dX6_finish_148 ?_
      refine lv_iload_n hx hb dX6_finish_149 rfl (lv_at hl 3 rfl) ?_
      refine lv_sipush (v := 255) hx hb dX6_finish_150 (by decide) ?_
      refine lv_iand hx hb dX6_finish_153 ?_
      obtain ⟨i16, h⟩ := nd_ck_e h
      refine va_iast (i := ((x1 * 7) + 2)) (x := (x2 &&& 255)) hx hb hK hP hD hS 7 6 rfl rfl i16 dX6_finish_154 (fun H locs hP hD hS => ?_)
      obtain ⟨s17, es17, h⟩ := nd_let_e h
      have hP : va_P (dC, dI) vwCl (dw_X6 a ac s17) H := by rw [es17]; exact hP
      have hD : va_D A (dw_X6 a ac s17) := by rw [es17]; exact hD
      exact (db_X6_finish_155 C K)  s17 _ _ _ h hP hD hS (lv_sub hl [] rfl)
  · have h := nd_neg h c5
    refine lv_aload_n hx hb dX6_finish_36 rfl (lv_at hl 0 rfl) ?_
    refine lv_iload_n hx hb dX6_finish_37 rfl (lv_at hl 3 rfl) ?_
    obtain ⟨q18, s19, hq, h⟩ := nd_b2_e h
    have hPc := hP
    have hDc := hD
    have hKc := hK
    have hFc := nd_rs hD hS hA
    refine nd_cVi (As := [.int x3]) (rest := []) (q := q18) (w' := dw_X6 a ac s19) ⟨hx, hb, hml, hown, hts⟩ (fun sz => dm_X6_status l hlt dC dI a ac n (x3) s0 hq sz) (cwV 1 hts gi_dm_X6_finish_2 rfl rfl rfl (by decide +kernel) ⟨Nat.le_of_ble_eq_true rfl, Nat.le_of_ble_eq_true rfl⟩) hPc hDc hKc hS hA hN (va_recv hKc hPc (ci := 7) (q0 := 0) rfl rfl) rfl hl.1 rfl (Nat.le_of_ble_eq_true rfl) dX6_finish_38 (fun H locs hP1 hD1 hk1 hS => ?_)
    have hP := hP1
    have hD := hD1.weaken (fun k q _ h => hFc q.1 h)
    refine lv_if_eq (tgt := 88) hx hb dX6_finish_41 (by decide) (fun c21 => ?_) (fun c21 => ?_)
    · have h := nd_pos h c21
      exact (db_X6_finish_88 C K J30) (x1) (x2) (x3) s19 _ _ _ h hP hD hS (lv_sub hl [0, 1, 2, 3] rfl)
    · have h := nd_neg h c21
      refine lv_aload_n hx hb dX6_finish_44 rfl (lv_at hl 0 rfl) ?_
      refine va_get (D := (dC, dI)) (ci := 7) (v := .ref (a 7)) (C := RX6) (T := TX6) (N := 20) hx hb hts hi_dm_X6_finish_X6 hown hK hP 0 rfl rfl 7 (by decide) (hts (.fieldLink RX6 29 "TimeMachine$Machine" "self" "[I") (List.mem_of_getElem? (i := 5) rfl)) (fun _ h9 => h9) rfl dX6_finish_45 ?_
      refine lv_iload_n hx hb dX6_finish_48 rfl (lv_at hl 3 rfl) ?_
      refine lv_bipush (v := 7) hx hb dX6_finish_49 (by decide) ?_
      refine lv_imul hx hb dX6_finish_51 ?_
      refine lv_iconst (v := 1) hx hb dX6_finish_52 (by decide) ?_
      refine lv_iadd hx hb dX6_finish_53 ?_
      obtain ⟨i23, h⟩ := nd_ck_e h
      refine va_iald (i := ((x3 * 7) + 1)) hx hb hK hP 7 6 rfl rfl i23 dX6_finish_54 ?_
      refine lv_iload_n hx hb dX6_finish_55 rfl (lv_at hl 1 rfl) ?_
      refine lv_icmp_ne (tgt := 88) hx hb dX6_finish_56 (by decide) (fun c24 => ?_) (fun c24 => ?_)
      · have h := nd_neg h c24
        exact (db_X6_finish_88 C K J30) (x1) (x2) (x3) s19 _ _ _ h hP hD hS (lv_sub hl [0, 1, 2, 3] rfl)
      · have h := nd_pos h c24
        refine lv_aload_n hx hb dX6_finish_59 rfl (lv_at hl 0 rfl) ?_
        refine lv_iload_n hx hb dX6_finish_60 rfl (lv_at hl 3 rfl) ?_
        obtain ⟨q25, s26, hq, h⟩ := nd_b2_e h
        have hPc := hP
        have hDc := hD
        have hKc := hK
        have hFc := nd_rs hD hS hA
        refine nd_cVi (As := [.int x3]) (rest := []) (q := q25) (w' := dw_X6 a ac s26) ⟨hx, hb, hml, hown, hts⟩ (fun sz => dm_X6_status l hlt dC dI a ac n (x3) s19 hq sz) (cwV 1 hts gi_dm_X6_finish_2 rfl rfl rfl (by decide +kernel) ⟨Nat.le_of_ble_eq_true rfl, Nat.le_of_ble_eq_true rfl⟩) hPc hDc hKc hS hA hN (va_recv hKc hPc (ci := 7) (q0 := 0) rfl rfl) rfl hl.1 rfl (Nat.le_of_ble_eq_true rfl) dX6_finish_61 (fun H locs hP1 hD1 hk1 hS => ?_)
        have hP := hP1
        have hD := hD1.weaken (fun k q _ h => hFc q.1 h)
        refine lv_iconst (v := 3) hx hb dX6_finish_64 (by decide) ?_
        refine lv_icmp_ne (tgt := 76) hx hb dX6_finish_65 (by decide) (fun c28 => ?_) (fun c28 => ?_)
        · have h := nd_neg h c28
          refine lv_aload_n hx hb dX6_finish_76 rfl (lv_at hl 0 rfl) ?_
          refine va_get (D := (dC, dI)) (ci := 7) (v := .ref (a 7)) (C := RX6) (T := TX6) (N := 20) hx hb hts hi_dm_X6_finish_X6 hown hK hP 0 rfl rfl 7 (by decide) (hts (.fieldLink RX6 29 "TimeMachine$Machine" "self" "[I") (List.mem_of_getElem? (i := 5) rfl)) (fun _ h9 => h9) rfl dX6_finish_77 ?_
          refine lv_iload_n hx hb dX6_finish_80 rfl (lv_at hl 3 rfl) ?_
          refine lv_bipush (v := 7) hx hb dX6_finish_81 (by decide) ?_
          refine lv_imul hx hb dX6_finish_83 ?_
          refine lv_iconst (v := 1) hx hb dX6_finish_84 (by decide) ?_
          refine lv_iadd hx hb dX6_finish_85 ?_
          refine lv_iconst (v := (-1)) hx hb dX6_finish_86 (by decide) ?_
          obtain ⟨i29, h⟩ := nd_ck_e h
          refine va_iast (i := ((x3 * 7) + 1)) (x := (-1)) hx hb hK hP hD hS 7 6 rfl rfl i29 dX6_finish_87 (fun H locs hP hD hS => ?_)
          obtain ⟨s30, es30, h⟩ := nd_let_e h
          have hP : va_P (dC, dI) vwCl (dw_X6 a ac s30) H := by rw [es30]; exact hP
          have hD : va_D A (dw_X6 a ac s30) := by rw [es30]; exact hD
          exact (db_X6_finish_88 C K J30) (x1) (x2) (x3) s30 _ _ _ h hP hD hS (lv_sub hl [0, 1, 2, 3] rfl)
        · have h := nd_pos h c28
          refine lv_aload_n hx hb dX6_finish_68 rfl (lv_at hl 0 rfl) ?_
          refine lv_iload_n hx hb dX6_finish_69 rfl (lv_at hl 3 rfl) ?_
          obtain ⟨s32, hq, h⟩ := nd_b1_e h
          have hPc := hP
          have hDc := hD
          have hKc := hK
          have hFc := nd_rs hD hS hA
          refine nd_cVv (As := [.int x3]) (rest := []) (w' := dw_X6 a ac s32) ⟨hx, hb, hml, hown, hts⟩ (fun sz => dm_X6_makeAbsent l hlt dC dI a ac n (x3) s26 hq sz) (cwV 1 hts gi_dm_X6_finish_1 rfl rfl rfl (by decide +kernel) ⟨Nat.le_of_ble_eq_true rfl, Nat.le_of_ble_eq_true rfl⟩) hPc hDc hKc hS hA hN (va_recv hKc hPc (ci := 7) (q0 := 0) rfl rfl) rfl hl.1 rfl (Nat.le_of_ble_eq_true rfl) dX6_finish_70 (fun H locs hP1 hD1 hk1 hS => ?_)
          have hP := hP1
          have hD := hD1.weaken (fun k q _ h => hFc q.1 h)
          refine lv_goto (tgt := 88) hx hb dX6_finish_73 (by decide) ?_
          exact (db_X6_finish_88 C K J30) (x1) (x2) (x3) s32 _ _ _ h hP hD hS (lv_sub hl [0, 1, 2, 3] rfl)
set_option maxHeartbeats 40000000 in
set_option maxRecDepth 100000 in
theorem db_X6_finish_30 {p : Program} {l : Launch} {e : Env} {s : State} {m : MethodId} {args : Array Value} {below : List Frame} {meth : Method} {c : Code} {Q : State → Prop} {A : Nat → Prop} {dC : Nat → ClassId} {dI : Nat → Nat → Nat} {a : Nat → Nat} {ac : Nat → ClassId} {n : Nat} {r : St × (St)} (C : nd_C p l s m args c A (dC, dI) cX6_finish 4 RX6 ow_dm_X6_finish (dk_X6 ac)) (K : nd_Kv p l e (headSpec ow_dm_X6_finish ({ frames := 2, cells := 0, slots := 0, locals := 46 })).room s m args below meth c Q A (dC, dI) cX6_finish (St × (St)) (dw_X6 a ac) r) (k : Nat) : dj_X6_finish_30 p l e s m args below meth c Q A dC dI a ac (df_X6_finish_30 n k) r := by
  induction k with
  | zero => intro x1 x2 x3 s0 H locs ls h; exact nomatch (show (none : Option (St × (St))) = some r from h)
  | succ k ih => exact dB_X6_finish_30 C K ih
set_option maxHeartbeats 40000000 in
set_option maxRecDepth 100000 in
theorem dB_X6_finish_2 {p : Program} {l : Launch} {e : Env} {s : State} {m : MethodId} {args : Array Value} {below : List Frame} {meth : Method} {c : Code} {Q : State → Prop} {A : Nat → Prop} {dC : Nat → ClassId} {dI : Nat → Nat → Nat} {a : Nat → Nat} {ac : Nat → ClassId} {n : Nat} {r : St × (St)} (C : nd_C p l s m args c A (dC, dI) cX6_finish 4 RX6 ow_dm_X6_finish (dk_X6 ac)) (K : nd_Kv p l e (headSpec ow_dm_X6_finish ({ frames := 2, cells := 0, slots := 0, locals := 46 })).room s m args below meth c Q A (dC, dI) cX6_finish (St × (St)) (dw_X6 a ac) r) {g2 : Int32 → Int32 → Int32 → (St × (St)) → Option (St × (St))} (J2 : dj_X6_finish_2 p l e s m args below meth c Q A dC dI a ac g2 r) : dj_X6_finish_2 p l e s m args below meth c Q A dC dI a ac (dF_X6_finish_2 n g2) r := by
  obtain ⟨hlt, hx, hb, hml, hown, hts, hN, hA, hK⟩ := id C
  intro x1 x2 x3 s0 H locs ls h hP hD hS hl
  unfold dF_X6_finish_2 at h
  refine lv_iload_n hx hb dX6_finish_2 rfl (lv_at hl 3 rfl) ?_
  refine lv_bipush (v := 16) hx hb dX6_finish_3 (by decide) ?_
  refine lv_icmp_ge (tgt := 23) hx hb dX6_finish_5 (by decide) (fun c1 => ?_) (fun c1 => ?_)
  · have h := nd_pos h c1
    refine lv_aload_n hx hb dX6_finish_23 rfl (lv_at hl 0 rfl) ?_
    refine lv_iload_n hx hb dX6_finish_24 rfl (lv_at hl 1 rfl) ?_
    obtain ⟨s3, hq, h⟩ := nd_b1_e h
    have hPc := hP
    have hDc := hD
    have hKc := hK
    have hFc := nd_rs hD hS hA
    refine nd_cVv (As := [.int x1]) (rest := []) (w' := dw_X6 a ac s3) ⟨hx, hb, hml, hown, hts⟩ (fun sz => dm_X6_dropPages l hlt dC dI a ac n (x1) s0 hq sz) (cwV 1 hts gi_dm_X6_finish_0 rfl rfl rfl (by decide +kernel) ⟨Nat.le_of_ble_eq_true rfl, Nat.le_of_ble_eq_true rfl⟩) hPc hDc hKc hS hA hN (va_recv hKc hPc (ci := 7) (q0 := 0) rfl rfl) rfl hl.1 rfl (Nat.le_of_ble_eq_true rfl) dX6_finish_25 (fun H locs hP1 hD1 hk1 hS => ?_)
    have hP := hP1
    have hD := hD1.weaken (fun k q _ h => hFc q.1 h)
    refine lv_iconst (v := 0) hx hb dX6_finish_28 (by decide) ?_
    refine lv_istore_n (lv' := [(3, .int 0), (0, .ref (a 0)), (1, .int x1), (2, .int x2)]) hx hb dX6_finish_29 rfl hl (by decide) rfl (fun ls hl => ?_)
    exact (db_X6_finish_30 C K n) (x1) (x2) (0) s3 _ _ _ h hP hD hS (lv_sub hl [1, 2, 3, 0] rfl)
  · have h := nd_neg h c1
    refine lv_aload_n hx hb dX6_finish_8 rfl (lv_at hl 0 rfl) ?_
    refine va_get (D := (dC, dI)) (ci := 7) (v := .ref (a 10)) (C := RX6) (T := TX6) (N := 20) hx hb hts hi_dm_X6_finish_X6 hown hK hP 0 rfl rfl 11 (by decide) (hts (.fieldLink RX6 42 "TimeMachine$Machine" "things" "LTimeMachine$Things;") (List.mem_of_getElem? (i := 12) rfl)) (fun _ h9 => h9) rfl dX6_finish_9 ?_
    refine lv_iload_n hx hb dX6_finish_12 rfl (lv_at hl 1 rfl) ?_
    refine lv_iload_n hx hb dX6_finish_13 rfl (lv_at hl 3 rfl) ?_
    obtain ⟨s35, hq, h⟩ := nd_b1_e h
    have hPc := dp_X6_10 hP
    have hDc := dd_X6_10 hD
    have hKc := dy_X6_10 hK
    have hFc := nd_rs hDc hS hA
    have hzA : ∀ q : Nat, H.size ≤ q → A q := fun q h => hA q (Nat.le_trans hS.1 h)
    refine nd_cVv (As := [.int x1, .int x3]) (rest := []) (w' := dw_X10 (fun k => a (k + 10)) (fun k => ac (k + 10)) s35) ⟨hx, hb, hml, hown, hts⟩ (fun sz => dm_X10_close l hlt dC dI (fun k => a (k + 10)) (fun k => ac (k + 10)) n (x1) (x3) s0.2 hq sz) (cwV 2 hts gi_dm_X6_finish_3 rfl rfl rfl (by decide +kernel) ⟨Nat.le_of_ble_eq_true rfl, Nat.le_of_ble_eq_true rfl⟩) hPc hDc hKc hS hA hN (va_recv hKc hPc (ci := 11) (q0 := 0) rfl rfl) rfl hl.1 rfl (Nat.le_of_ble_eq_true rfl) dX6_finish_14 (fun H locs hP1 hD1 hk1 hS => ?_)
    obtain ⟨hP, hD⟩ := dn_X6_10 hP hD hzA hk1 hP1 hD1
    obtain ⟨s37, es37, h⟩ := nd_let_e h
    have hP : va_P (dC, dI) vwCl (dw_X6 a ac s37) H := by rw [es37]; exact hP
    have hD : va_D A (dw_X6 a ac s37) := by rw [es37]; exact hD
    obtain ⟨z38, ez38, h⟩ := nd_let_e h
    refine lv_iinc (v := z38) (lv' := [(3, .int z38), (0, .ref (a 0)), (1, .int x1), (2, .int x2)]) hx hb dX6_finish_17 hl (k := 3) rfl (by rw [ez38]) (by decide) rfl (fun ls hl => ?_)
    refine lv_goto (tgt := 2) hx hb dX6_finish_20 (by decide) ?_
    exact (J2) (x1) (x2) (z38) s37 _ _ _ h hP hD hS (lv_sub hl [1, 2, 3, 0] rfl)
set_option maxHeartbeats 40000000 in
set_option maxRecDepth 100000 in
theorem db_X6_finish_2 {p : Program} {l : Launch} {e : Env} {s : State} {m : MethodId} {args : Array Value} {below : List Frame} {meth : Method} {c : Code} {Q : State → Prop} {A : Nat → Prop} {dC : Nat → ClassId} {dI : Nat → Nat → Nat} {a : Nat → Nat} {ac : Nat → ClassId} {n : Nat} {r : St × (St)} (C : nd_C p l s m args c A (dC, dI) cX6_finish 4 RX6 ow_dm_X6_finish (dk_X6 ac)) (K : nd_Kv p l e (headSpec ow_dm_X6_finish ({ frames := 2, cells := 0, slots := 0, locals := 46 })).room s m args below meth c Q A (dC, dI) cX6_finish (St × (St)) (dw_X6 a ac) r) (k : Nat) : dj_X6_finish_2 p l e s m args below meth c Q A dC dI a ac (df_X6_finish_2 n k) r := by
  induction k with
  | zero => intro x1 x2 x3 s0 H locs ls h; exact nomatch (show (none : Option (St × (St))) = some r from h)
  | succ k ih => exact dB_X6_finish_2 C K ih
set_option maxHeartbeats 40000000 in
set_option maxRecDepth 100000 in
theorem db_X6_finish_0 {p : Program} {l : Launch} {e : Env} {s : State} {m : MethodId} {args : Array Value} {below : List Frame} {meth : Method} {c : Code} {Q : State → Prop} {A : Nat → Prop} {dC : Nat → ClassId} {dI : Nat → Nat → Nat} {a : Nat → Nat} {ac : Nat → ClassId} {n : Nat} {r : St × (St)} (C : nd_C p l s m args c A (dC, dI) cX6_finish 4 RX6 ow_dm_X6_finish (dk_X6 ac)) (K : nd_Kv p l e (headSpec ow_dm_X6_finish ({ frames := 2, cells := 0, slots := 0, locals := 46 })).room s m args below meth c Q A (dC, dI) cX6_finish (St × (St)) (dw_X6 a ac) r) : dj_X6_finish_0 p l e s m args below meth c Q A dC dI a ac (df_X6_finish_0 n) r := by
  obtain ⟨hlt, hx, hb, hml, hown, hts, hN, hA, hK⟩ := id C
  intro v0 v1 s0 H locs ls h hP hD hS hl
  unfold df_X6_finish_0 at h
  refine lv_iconst (v := 0) hx hb dX6_finish_0 (by decide) ?_
  refine lv_istore_n (lv' := [(3, .int 0), (0, .ref (a 0)), (1, .int v0), (2, .int v1)]) hx hb dX6_finish_1 rfl hl (by decide) rfl (fun ls hl => ?_)
  exact (db_X6_finish_2 C K n) (v0) (v1) (0) s0 _ _ _ h hP hD hS (lv_sub hl [1, 2, 3, 0] rfl)
set_option maxHeartbeats 40000000 in
set_option maxRecDepth 100000 in
theorem dm_X6_finish (l : Launch) (hlt : l.stackTraces = false) (dC : Nat → ClassId) (dI : Nat → Nat → Nat) (a : Nat → Nat) (ac : Nat → ClassId) (n : Nat) (v0 : Int32) (v1 : Int32) (s0 : St × (St)) {r : St × (St)} (h : df_X6_finish n v0 v1 s0 = some r) (sz : Nat) : Met l yX6_finish ow_dm_X6_finish ({ frames := 2, cells := 0, slots := 0, locals := 46 }) (va_Pc [.ref (a 0), .int v0, .int v1] (fun U => U.heap.size = sz ∧ va_P (dC, dI) vwCl (dw_X6 a ac s0) U.heap ∧ va_K (dC, dI) vwCl (dk_X6 ac) U ∧ va_D (fun _ => True) (dw_X6 a ac s0) ∧ nv_E dI (va_A (dw_X6 a ac s0) sz) U)) (va_Qv (fun _ => True) (fun (_ : Unit) t => va_P (dC, dI) vwCl (dw_X6 a ac r) t.heap ∧ va_K (dC, dI) vwCl (dk_X6 ac) t ∧ va_D (va_A (dw_X6 a ac s0) sz) (dw_X6 a ac r)) (va_A (dw_X6 a ac s0) sz)) 0 0 (va_A (dw_X6 a ac s0) sz) := by
  refine Met.ofW (cc := cX6_finish) (maxL := 4) (ret := none) (by decide) rfl ?_
  intro p e s m args below meth c s₁ B hml hv
  obtain ⟨rfl, hsz, hP, hK, hD0, hN⟩ := hv
  have hx := B.exec
  have hb := B.bytes
  have hr := B.returns
  have hts := atoms_spec (ws := ow_dm_X6_finish) B.pre
  have hown : s.vm.findClass RX6 = some m.cls := findClass_of_methodNamed B.named
  have hlocks := B.notSynchronized
  subst hsz
  have hD := hD0.self (sz := s.heap.size)
  generalize hAe : va_A (dw_X6 a ac s0) s.heap.size = A at hD hN ⊢
  have hA : ∀ q : Nat, s.heap.size ≤ q → A q := fun q h => by rw [← hAe]; exact Or.inr h
  have hl := lv_entry ([.ref (a 0), .int v0, .int v1]) (n := 4) (Nat.le_of_ble_eq_true rfl)
  rw [lg_entry_eq]
  generalize (lg_sl ([.ref (a 0), .int v0, .int v1]) ++ List.replicate (4 - (lg_sl ([.ref (a 0), .int v0, .int v1])).length) Slot.unset).toArray = ls at hl ⊢
  have hl : lv_has ls 4 [(0, .ref (a 0)), (1, .int v0), (2, .int v1)] := hl
  exact db_X6_finish_0 (dC := dC) (dI := dI) (a := a) (ac := ac) (n := n) (r := r) ⟨hlt, hx, hb, hml, hown, hts, hN, hA, hK⟩ (fun pc τ H locs ls d er hP hD hS => by subst er; exact W.vret hx hb hr (fun t ht hW => ⟨⟨(), rfl, trivial, by rw [ht]; exact hP, va_K.moved hW.alike hK, hD⟩, hS.F ht⟩) hS.2.2 d) v0 v1 s0 _ _ _ h hP hD va_S.rf (lv_sub hl [0, 1, 2] rfl)
def ow_dm_X6_fork : List Cond := Cond.code yX6_fork cX6_fork 4 none :: ([Cond.methodLink RX6 56 yX6_makeAbsent, Cond.instanceMethod yX6_makeAbsent, Cond.selects RX6 yX6_makeAbsent yX6_makeAbsent, Cond.initialized RX6, Cond.fieldLink RX6 20 "TimeMachine$Machine" "reg" "[I", Cond.methodLink RX6 95 arraycopyName, .native arraycopyName, Cond.static arraycopyName, Cond.initialized "java/lang/System", Cond.fieldLink RX6 23 "TimeMachine$Machine" "saved" "[I", Cond.fieldLink RX6 26 "TimeMachine$Machine" "handler" "[I", Cond.fieldLink RX6 17 "TimeMachine$Machine" "page" "[I", Cond.fieldLink RX6 29 "TimeMachine$Machine" "self" "[I", Cond.fieldLink RX6 32 "TimeMachine$Machine" "sleep" "[J", Cond.constantLong RX6 146 (-1), Cond.fieldLink RX6 14 "TimeMachine$Machine" "users" "[I"] ++ (u_ws RX6 TX6 20 ++ (ow_dm_X6_makeAbsent ++ [])))
theorem gd_dm_X6_fork : ∀ w ∈ ow_dm_X6_fork, (w.onTables && w.keeps) = true ∨ ∃ ty, w = Cond.arrayClass ty := List.forall_mem_cons.mpr ⟨good_of_word rfl, List.forall_mem_append.mpr ⟨fun w h => good_of_word (List.all_eq_true.mp (by decide +kernel) w h), List.forall_mem_append.mpr ⟨gu_X6, List.forall_mem_append.mpr ⟨gd_dm_X6_makeAbsent, fun _ h => nomatch h⟩⟩⟩⟩
theorem hi_dm_X6_fork_X6 : ∀ w ∈ u_ws RX6 TX6 20, w ∈ ow_dm_X6_fork := fun w h => List.mem_cons_of_mem _ (List.mem_append_right _ (List.mem_append_left _ h))
theorem gi_dm_X6_fork_0 : GoodIn ow_dm_X6_fork (wsV RX6 56 RX6 yX6_makeAbsent ow_dm_X6_makeAbsent) := goodIn_app (goodIn_of _ (by decide +kernel)) (fun w h => ⟨List.mem_cons_of_mem _ (List.mem_append_right _ (List.mem_append_right _ (List.mem_append_left _ h))), gd_dm_X6_makeAbsent w h⟩)
def dj_X6_fork_133 (p : Program) (l : Launch) (e : Env) (s : State) (m : MethodId) (args : Array Value) (below : List Frame) (meth : Method) (c : Code) (Q : State → Prop) (A : Nat → Prop) (dC : Nat → ClassId) (dI : Nat → Nat → Nat) (a : Nat → Nat) (ac : Nat → ClassId) (g : Int32 → Int32 → Int32 → (St × (St)) → Option (St × (St))) (r : St × (St)) : Prop := ∀ (x1 : Int32) (x2 : Int32) (x3 : Int32) (s0 : St × (St)) (H : Heap) (locs : List Loc) (ls : Array Slot), g x1 x2 x3 s0 = some r → va_P (dC, dI) vwCl (dw_X6 a ac s0) H → va_D A (dw_X6 a ac s0) → va_S A s.heap H locs → lv_has ls 4 [(0, .ref (a 0)), (1, .int x1), (2, .int x2), (3, .int x3)] → W p l e (headSpec ow_dm_X6_fork ({ frames := 1, cells := 0, slots := 0, locals := 40 })).room s m args below meth c H locs 0 0 Q (F0 m 133 ls [])
def dj_X6_fork_91 (p : Program) (l : Launch) (e : Env) (s : State) (m : MethodId) (args : Array Value) (below : List Frame) (meth : Method) (c : Code) (Q : State → Prop) (A : Nat → Prop) (dC : Nat → ClassId) (dI : Nat → Nat → Nat) (a : Nat → Nat) (ac : Nat → ClassId) (g : Int32 → Int32 → Int32 → (St × (St)) → Option (St × (St))) (r : St × (St)) : Prop := ∀ (x1 : Int32) (x2 : Int32) (x3 : Int32) (s0 : St × (St)) (H : Heap) (locs : List Loc) (ls : Array Slot), g x1 x2 x3 s0 = some r → va_P (dC, dI) vwCl (dw_X6 a ac s0) H → va_D A (dw_X6 a ac s0) → va_S A s.heap H locs → lv_has ls 4 [(0, .ref (a 0)), (1, .int x1), (2, .int x2), (3, .int x3)] → W p l e (headSpec ow_dm_X6_fork ({ frames := 1, cells := 0, slots := 0, locals := 40 })).room s m args below meth c H locs 0 0 Q (F0 m 91 ls [])
def dj_X6_fork_0 (p : Program) (l : Launch) (e : Env) (s : State) (m : MethodId) (args : Array Value) (below : List Frame) (meth : Method) (c : Code) (Q : State → Prop) (A : Nat → Prop) (dC : Nat → ClassId) (dI : Nat → Nat → Nat) (a : Nat → Nat) (ac : Nat → ClassId) (g : Int32 → Int32 → (St × (St)) → Option (St × (St))) (r : St × (St)) : Prop := ∀ (v0 : Int32) (v1 : Int32) (s0 : St × (St)) (H : Heap) (locs : List Loc) (ls : Array Slot), g v0 v1 s0 = some r → va_P (dC, dI) vwCl (dw_X6 a ac s0) H → va_D A (dw_X6 a ac s0) → va_S A s.heap H locs → lv_has ls 4 [(0, .ref (a 0)), (1, .int v0), (2, .int v1)] → W p l e (headSpec ow_dm_X6_fork ({ frames := 1, cells := 0, slots := 0, locals := 40 })).room s m args below meth c H locs 0 0 Q (F0 m 0 ls [])
set_option maxHeartbeats 40000000 in
set_option maxRecDepth 100000 in
theorem db_X6_fork_133 {p : Program} {l : Launch} {e : Env} {s : State} {m : MethodId} {args : Array Value} {below : List Frame} {meth : Method} {c : Code} {Q : State → Prop} {A : Nat → Prop} {dC : Nat → ClassId} {dI : Nat → Nat → Nat} {a : Nat → Nat} {ac : Nat → ClassId} {n : Nat} {r : St × (St)} (C : nd_C p l s m args c A (dC, dI) cX6_fork 4 RX6 ow_dm_X6_fork (dk_X6 ac)) (K : nd_Kv p l e (headSpec ow_dm_X6_fork ({ frames := 1, cells := 0, slots := 0, locals := 40 })).room s m args below meth c Q A (dC, dI) cX6_fork (St × (St)) (dw_X6 a ac) r) {g91 : Int32 → Int32 → Int32 → (St × (St)) → Option (St × (St))} (J91 : dj_X6_fork_91 p l e s m args below meth c Q A dC dI a ac g91 r) : dj_X6_fork_133 p l e s m args below meth c Q A dC dI a ac (df_X6_fork_133 n g91) r := by
  obtain ⟨hlt, hx, hb, hml, hown, hts, hN, hA, hK⟩ := id C
  intro x1 x2 x3 s0 H locs ls h hP hD hS hl
  unfold df_X6_fork_133 at h
  obtain ⟨z35, ez35, h⟩ := nd_let_e h
  refine lv_iinc (v := z35) (lv' := [(3, .int z35), (0, .ref (a 0)), (1, .int x1), (2, .int x2)]) hx hb dX6_fork_133 hl (k := 3) rfl (by rw [ez35]) (by decide) rfl (fun ls hl => ?_)
  refine lv_goto (tgt := 91) hx hb dX6_fork_136 (by decide) ?_
  exact (J91) (x1) (x2) (z35) s0 _ _ _ h hP hD hS (lv_sub hl [1, 2, 3, 0] rfl)
set_option maxHeartbeats 40000000 in
set_option maxRecDepth 100000 in
theorem dB_X6_fork_91 {p : Program} {l : Launch} {e : Env} {s : State} {m : MethodId} {args : Array Value} {below : List Frame} {meth : Method} {c : Code} {Q : State → Prop} {A : Nat → Prop} {dC : Nat → ClassId} {dI : Nat → Nat → Nat} {a : Nat → Nat} {ac : Nat → ClassId} {n : Nat} {r : St × (St)} (C : nd_C p l s m args c A (dC, dI) cX6_fork 4 RX6 ow_dm_X6_fork (dk_X6 ac)) (K : nd_Kv p l e (headSpec ow_dm_X6_fork ({ frames := 1, cells := 0, slots := 0, locals := 40 })).room s m args below meth c Q A (dC, dI) cX6_fork (St × (St)) (dw_X6 a ac) r) {g91 : Int32 → Int32 → Int32 → (St × (St)) → Option (St × (St))} (J91 : dj_X6_fork_91 p l e s m args below meth c Q A dC dI a ac g91 r) : dj_X6_fork_91 p l e s m args below meth c Q A dC dI a ac (dF_X6_fork_91 n g91) r := by
  obtain ⟨hlt, hx, hb, hml, hown, hts, hN, hA, hK⟩ := id C
  intro x1 x2 x3 s0 H locs ls h hP hD hS hl
  unfold dF_X6_fork_91 at h
  refine lv_iload_n hx hb dX6_fork_91 rfl (lv_at hl 3 rfl) ?_
  refine lv_bipush (v := 64) hx hb dX6_fork_92 (by decide) ?_
  refine lv_icmp_ge (tgt := 139) hx hb dX6_fork_94 (by decide) (fun c12 => ?_) (fun c12 => ?_)
  · have h := nd_pos h c12
    refine lv_aload_n hx hb dX6_fork_139 rfl (lv_at hl 0 rfl) ?_
    refine va_get (D := (dC, dI)) (ci := 7) (v := .ref (a 7)) (C := RX6) (T := TX6) (N := 20) hx hb hts hi_dm_X6_fork_X6 hown hK hP 0 rfl rfl 7 (by decide) (hts (.fieldLink RX6 29 "TimeMachine$Machine" "self" "[I") (List.mem_of_getElem? (i := 13) rfl)) (fun _ h9 => h9) rfl dX6_fork_140 ?_
    refine lv_iload_n hx hb dX6_fork_143 rfl (lv_at hl 2 rfl) ?_
    refine lv_bipush (v := 7) hx hb dX6_fork_144 (by decide) ?_
    refine lv_imul hx hb dX6_fork_146 ?_
    refine lv_iconst (v := 0) hx hb dX6_fork_147 (by decide) ?_
    refine lv_iadd hx hb dX6_fork_148 ?_
    refine lv_iconst (v := 1) hx hb dX6_fork_149 (by decide) ?_
    obtain ⟨i13, h⟩ := nd_ck_e h
    refine va_iast (i := ((x2 * 7) + 0)) (x := 1) hx hb hK hP hD hS 7 6 rfl rfl i13 dX6_fork_150 (fun H locs hP hD hS => ?_)
    obtain ⟨s14, es14, h⟩ := nd_let_e h
    have hP : va_P (dC, dI) vwCl (dw_X6 a ac s14) H := by rw [es14]; exact hP
    have hD : va_D A (dw_X6 a ac s14) := by rw [es14]; exact hD
    refine lv_aload_n hx hb dX6_fork_151 rfl (lv_at hl 0 rfl) ?_
    refine va_get (D := (dC, dI)) (ci := 7) (v := .ref (a 7)) (C := RX6) (T := TX6) (N := 20) hx hb hts hi_dm_X6_fork_X6 hown hK hP 0 rfl rfl 7 (by decide) (hts (.fieldLink RX6 29 "TimeMachine$Machine" "self" "[I") (List.mem_of_getElem? (i := 13) rfl)) (fun _ h9 => h9) rfl dX6_fork_152 ?_
    refine lv_iload_n hx hb dX6_fork_155 rfl (lv_at hl 2 rfl) ?_
    refine lv_bipush (v := 7) hx hb dX6_fork_156 (by decide) ?_
    refine lv_imul hx hb dX6_fork_158 ?_
    refine lv_iconst (v := 1) hx hb dX6_fork_159 (by decide) ?_
    refine lv_iadd hx hb dX6_fork_160 ?_
    refine lv_iload_n hx hb dX6_fork_161 rfl (lv_at hl 1 rfl) ?_
    obtain ⟨i15, h⟩ := nd_ck_e h
    refine va_iast (i := ((x2 * 7) + 1)) (x := x1) hx hb hK hP hD hS 7 6 rfl rfl i15 dX6_fork_162 (fun H locs hP hD hS => ?_)
    obtain ⟨s16, es16, h⟩ := nd_let_e h
    have hP : va_P (dC, dI) vwCl (dw_X6 a ac s16) H := by rw [es16]; exact hP
    have hD : va_D A (dw_X6 a ac s16) := by rw [es16]; exact hD
    refine lv_aload_n hx hb dX6_fork_163 rfl (lv_at hl 0 rfl) ?_
    refine va_get (D := (dC, dI)) (ci := 7) (v := .ref (a 7)) (C := RX6) (T := TX6) (N := 20) hx hb hts hi_dm_X6_fork_X6 hown hK hP 0 rfl rfl 7 (by decide) (hts (.fieldLink RX6 29 "TimeMachine$Machine" "self" "[I") (List.mem_of_getElem? (i := 13) rfl)) (fun _ h9 => h9) rfl dX6_fork_164 ?_
    refine lv_iload_n hx hb dX6_fork_167 rfl (lv_at hl 2 rfl) ?_
    refine lv_bipush (v := 7) hx hb dX6_fork_168 (by decide) ?_
    refine lv_imul hx hb dX6_fork_170 ?_
    refine lv_iconst (v := 4) hx hb dX6_fork_171 (by decide) ?_
    refine lv_iadd hx hb dX6_fork_172 ?_
    refine lv_aload_n hx hb dX6_fork_173 rfl (lv_at hl 0 rfl) ?_
    refine va_get (D := (dC, dI)) (ci := 7) (v := .ref (a 7)) (C := RX6) (T := TX6) (N := 20) hx hb hts hi_dm_X6_fork_X6 hown hK hP 0 rfl rfl 7 (by decide) (hts (.fieldLink RX6 29 "TimeMachine$Machine" "self" "[I") (List.mem_of_getElem? (i := 13) rfl)) (fun _ h9 => h9) rfl dX6_fork_174 ?_
    refine lv_iload_n hx hb dX6_fork_177 rfl (lv_at hl 1 rfl) ?_
    refine lv_bipush (v := 7) hx hb dX6_fork_178 (by decide) ?_
    refine lv_imul hx hb dX6_fork_180 ?_
    refine lv_iconst (v := 4) hx hb dX6_fork_181 (by decide) ?_
    refine lv_iadd hx hb dX6_fork_182 ?_
    obtain ⟨i17, h⟩ := nd_ck_e h
    refine va_iald (i := ((x1 * 7) + 4)) hx hb hK hP 7 6 rfl rfl i17 dX6_fork_183 ?_
    obtain ⟨i18, h⟩ := nd_ck_e h
    refine va_iast (i := ((x2 * 7) + 4)) (x := (sR s16.1 6 (Int32.toNatClampNeg ((x1 * 7) + 4)))) hx hb hK hP hD hS 7 6 rfl rfl i18 dX6_fork_184 (fun H locs hP hD hS => ?_)
    obtain ⟨s19, es19, h⟩ := nd_let_e h
    have hP : va_P (dC, dI) vwCl (dw_X6 a ac s19) H := by rw [es19]; exact hP
    have hD : va_D A (dw_X6 a ac s19) := by rw [es19]; exact hD
    refine lv_aload_n hx hb dX6_fork_185 rfl (lv_at hl 0 rfl) ?_
    refine va_get (D := (dC, dI)) (ci := 7) (v := .ref (a 7)) (C := RX6) (T := TX6) (N := 20) hx hb hts hi_dm_X6_fork_X6 hown hK hP 0 rfl rfl 7 (by decide) (hts (.fieldLink RX6 29 "TimeMachine$Machine" "self" "[I") (List.mem_of_getElem? (i := 13) rfl)) (fun _ h9 => h9) rfl dX6_fork_186 ?_
    refine lv_iload_n hx hb dX6_fork_189 rfl (lv_at hl 2 rfl) ?_
    refine lv_bipush (v := 7) hx hb dX6_fork_190 (by decide) ?_
    refine lv_imul hx hb dX6_fork_192 ?_
    refine lv_iconst (v := 5) hx hb dX6_fork_193 (by decide) ?_
    refine lv_iadd hx hb dX6_fork_194 ?_
    refine lv_aload_n hx hb dX6_fork_195 rfl (lv_at hl 0 rfl) ?_
    refine va_get (D := (dC, dI)) (ci := 7) (v := .ref (a 7)) (C := RX6) (T := TX6) (N := 20) hx hb hts hi_dm_X6_fork_X6 hown hK hP 0 rfl rfl 7 (by decide) (hts (.fieldLink RX6 29 "TimeMachine$Machine" "self" "[I") (List.mem_of_getElem? (i := 13) rfl)) (fun _ h9 => h9) rfl dX6_fork_196 ?_
    refine lv_iload_n hx hb dX6_fork_199 rfl (lv_at hl 1 rfl) ?_
    refine lv_bipush (v := 7) hx hb dX6_fork_200 (by decide) ?_
    refine lv_imul hx hb dX6_fork_202 ?_
    refine lv_iconst (v := 5) hx hb dX6_fork_203 (by decide) ?_
    refine lv_iadd hx hb dX6_fork_204 ?_
    obtain ⟨i20, h⟩ := nd_ck_e h
    refine va_iald (i := ((x1 * 7) + 5)) hx hb hK hP 7 6 rfl rfl i20 dX6_fork_205 ?_
    obtain ⟨i21, h⟩ := nd_ck_e h
    refine va_iast (i := ((x2 * 7) + 5)) (x := (sR s19.1 6 (Int32.toNatClampNeg ((x1 * 7) + 5)))) hx hb hK hP hD hS 7 6 rfl rfl i21 dX6_fork_206 (fun H locs hP hD hS => ?_)
    obtain ⟨s22, es22, h⟩ := nd_let_e h
    have hP : va_P (dC, dI) vwCl (dw_X6 a ac s22) H := by rw [es22]; exact hP
    have hD : va_D A (dw_X6 a ac s22) := by rw [es22]; exact hD
    refine lv_aload_n hx hb dX6_fork_207 rfl (lv_at hl 0 rfl) ?_
    refine va_get (D := (dC, dI)) (ci := 7) (v := .ref (a 7)) (C := RX6) (T := TX6) (N := 20) hx hb hts hi_dm_X6_fork_X6 hown hK hP 0 rfl rfl 7 (by decide) (hts (.fieldLink RX6 29 "TimeMachine$Machine" "self" "[I") (List.mem_of_getElem? (i := 13) rfl)) (fun _ h9 => h9) rfl dX6_fork_208 ?_
    refine lv_iload_n hx hb dX6_fork_211 rfl (lv_at hl 2 rfl) ?_
    refine lv_bipush (v := 7) hx hb dX6_fork_212 (by decide) ?_
    refine lv_imul hx hb dX6_fork_214 ?_
    refine lv_bipush (v := 6) hx hb dX6_fork_215 (by decide) ?_
    refine lv_iadd hx hb dX6_fork_217 ?_
    refine lv_aload_n hx hb dX6_fork_218 rfl (lv_at hl 0 rfl) ?_
    refine va_get (D := (dC, dI)) (ci := 7) (v := .ref (a 7)) (C := RX6) (T := TX6) (N := 20) hx hb hts hi_dm_X6_fork_X6 hown hK hP 0 rfl rfl 7 (by decide) (hts (.fieldLink RX6 29 "TimeMachine$Machine" "self" "[I") (List.mem_of_getElem? (i := 13) rfl)) (fun _ h9 => h9) rfl dX6_fork_219 ?_
    refine lv_iload_n hx hb dX6_fork_222 rfl (lv_at hl 1 rfl) ?_
    refine lv_bipush (v := 7) hx hb dX6_fork_223 (by decide) ?_
    refine lv_imul hx hb dX6_fork_225 ?_
    refine lv_bipush (v := 6) hx hb dX6_fork_226 (by decide) ?_
    refine lv_iadd hx hb dX6_fork_228 ?_
    obtain ⟨i23, h⟩ := nd_ck_e h
    refine va_iald (i := ((x1 * 7) + 6)) hx hb hK hP 7 6 rfl rfl i23 dX6_fork_229 ?_
    obtain ⟨i24, h⟩ := nd_ck_e h
    refine va_iast (i := ((x2 * 7) + 6)) (x := (sR s22.1 6 (Int32.toNatClampNeg ((x1 * 7) + 6)))) hx hb hK hP hD hS 7 6 rfl rfl i24 dX6_fork_230 (fun H locs hP hD hS => ?_)
    obtain ⟨s25, es25, h⟩ := nd_let_e h
    have hP : va_P (dC, dI) vwCl (dw_X6 a ac s25) H := by rw [es25]; exact hP
    have hD : va_D A (dw_X6 a ac s25) := by rw [es25]; exact hD
    refine lv_aload_n hx hb dX6_fork_231 rfl (lv_at hl 0 rfl) ?_
    refine va_get (D := (dC, dI)) (ci := 7) (v := .ref (a 8)) (C := RX6) (T := TX6) (N := 20) hx hb hts hi_dm_X6_fork_X6 hown hK hP 0 rfl rfl 8 (by decide) (hts (.fieldLink RX6 32 "TimeMachine$Machine" "sleep" "[J") (List.mem_of_getElem? (i := 14) rfl)) (fun _ h9 => h9) rfl dX6_fork_232 ?_
    refine lv_iload_n hx hb dX6_fork_235 rfl (lv_at hl 2 rfl) ?_
    refine lv_ldc2 hx hb hown (hts (.constantLong RX6 146 (-1)) (List.mem_of_getElem? (i := 15) rfl)) dX6_fork_236 ?_
    obtain ⟨i26, h⟩ := nd_ck_e h
    refine va_last (i := x2) (x := (-1)) hx hb hK hP hD hS 8 7 rfl rfl i26 dX6_fork_239 (fun H locs hP hD hS => ?_)
    obtain ⟨s27, es27, h⟩ := nd_let_e h
    have hP : va_P (dC, dI) vwCl (dw_X6 a ac s27) H := by rw [es27]; exact hP
    have hD : va_D A (dw_X6 a ac s27) := by rw [es27]; exact hD
    refine lv_aload_n hx hb dX6_fork_240 rfl (lv_at hl 0 rfl) ?_
    refine va_get (D := (dC, dI)) (ci := 7) (v := .ref (a 4)) (C := RX6) (T := TX6) (N := 20) hx hb hts hi_dm_X6_fork_X6 hown hK hP 0 rfl rfl 4 (by decide) (hts (.fieldLink RX6 20 "TimeMachine$Machine" "reg" "[I") (List.mem_of_getElem? (i := 5) rfl)) (fun _ h9 => h9) rfl dX6_fork_241 ?_
    refine lv_iload_n hx hb dX6_fork_244 rfl (lv_at hl 2 rfl) ?_
    refine lv_bipush (v := 33) hx hb dX6_fork_245 (by decide) ?_
    refine lv_imul hx hb dX6_fork_247 ?_
    refine lv_bipush (v := 10) hx hb dX6_fork_248 (by decide) ?_
    refine lv_iadd hx hb dX6_fork_250 ?_
    refine lv_iconst (v := 0) hx hb dX6_fork_251 (by decide) ?_
    obtain ⟨i28, h⟩ := nd_ck_e h
    refine va_iast (i := ((x2 * 33) + 10)) (x := 0) hx hb hK hP hD hS 4 3 rfl rfl i28 dX6_fork_252 (fun H locs hP hD hS => ?_)
    obtain ⟨s29, es29, h⟩ := nd_let_e h
    have hP : va_P (dC, dI) vwCl (dw_X6 a ac s29) H := by rw [es29]; exact hP
    have hD : va_D A (dw_X6 a ac s29) := by rw [es29]; exact hD
    refine lv_aload_n hx hb dX6_fork_253 rfl (lv_at hl 0 rfl) ?_
    refine va_get (D := (dC, dI)) (ci := 7) (v := .ref (a 4)) (C := RX6) (T := TX6) (N := 20) hx hb hts hi_dm_X6_fork_X6 hown hK hP 0 rfl rfl 4 (by decide) (hts (.fieldLink RX6 20 "TimeMachine$Machine" "reg" "[I") (List.mem_of_getElem? (i := 5) rfl)) (fun _ h9 => h9) rfl dX6_fork_254 ?_
    refine lv_iload_n hx hb dX6_fork_257 rfl (lv_at hl 2 rfl) ?_
    refine lv_bipush (v := 33) hx hb dX6_fork_258 (by decide) ?_
    refine lv_imul hx hb dX6_fork_260 ?_
    refine lv_bipush (v := 32) hx hb dX6_fork_261 (by decide) ?_
    refine lv_iadd hx hb dX6_fork_263 ?_
    refine lv_dup2_11 hx hb dX6_fork_264 rfl rfl ?_
    obtain ⟨i30, h⟩ := nd_ck_e h
    refine va_iald (i := ((x2 * 33) + 32)) hx hb hK hP 4 3 rfl rfl i30 dX6_fork_265 ?_
    refine lv_iconst (v := 4) hx hb dX6_fork_266 (by decide) ?_
    refine lv_iadd hx hb dX6_fork_267 ?_
    obtain ⟨i31, h⟩ := nd_ck_e h
    refine va_iast (i := ((x2 * 33) + 32)) (x := ((sR s29.1 3 (Int32.toNatClampNeg ((x2 * 33) + 32))) + 4)) hx hb hK hP hD hS 4 3 rfl rfl i31 dX6_fork_268 (fun H locs hP hD hS => ?_)
    obtain ⟨s32, es32, h⟩ := nd_let_e h
    have hP : va_P (dC, dI) vwCl (dw_X6 a ac s32) H := by rw [es32]; exact hP
    have hD : va_D A (dw_X6 a ac s32) := by rw [es32]; exact hD
    exact K _ _ _ _ _ dX6_fork_269 (Option.some.inj h).symm hP hD hS
  · have h := nd_neg h c12
    refine lv_aload_n hx hb dX6_fork_97 rfl (lv_at hl 0 rfl) ?_
    refine va_get (D := (dC, dI)) (ci := 7) (v := .ref (a 3)) (C := RX6) (T := TX6) (N := 20) hx hb hts hi_dm_X6_fork_X6 hown hK hP 0 rfl rfl 2 (by decide) (hts (.fieldLink RX6 17 "TimeMachine$Machine" "page" "[I") (List.mem_of_getElem? (i := 12) rfl)) (fun _ h9 => h9) rfl dX6_fork_98 ?_
    refine lv_iload_n hx hb dX6_fork_101 rfl (lv_at hl 1 rfl) ?_
    refine lv_bipush (v := 6) hx hb dX6_fork_102 (by decide) ?_
    refine lv_ishl hx hb dX6_fork_104 ?_
    refine lv_iload_n hx hb dX6_fork_105 rfl (lv_at hl 3 rfl) ?_
    refine lv_ior hx hb dX6_fork_106 ?_
    obtain ⟨i33, h⟩ := nd_ck_e h
    refine va_iald (i := (((x1 : Int32) <<< ((6 : Int32) &&& 31)) ||| x3)) hx hb hK hP 3 2 rfl rfl i33 dX6_fork_107 ?_
    refine lv_if_eq (tgt := 133) hx hb dX6_fork_108 (by decide) (fun c34 => ?_) (fun c34 => ?_)
    · have h := nd_pos h c34
      exact (db_X6_fork_133 C K J91) (x1) (x2) (x3) s0 _ _ _ h hP hD hS (lv_sub hl [0, 1, 2, 3] rfl)
    · have h := nd_neg h c34
      refine lv_aload_n hx hb dX6_fork_111 rfl (lv_at hl 0 rfl) ?_
      refine va_get (D := (dC, dI)) (ci := 7) (v := .ref (a 2)) (C := RX6) (T := TX6) (N := 20) hx hb hts hi_dm_X6_fork_X6 hown hK hP 0 rfl rfl 1 (by decide) (hts (.fieldLink RX6 14 "TimeMachine$Machine" "users" "[I") (List.mem_of_getElem? (i := 16) rfl)) (fun _ h9 => h9) rfl dX6_fork_112 ?_
      refine lv_aload_n hx hb dX6_fork_115 rfl (lv_at hl 0 rfl) ?_
      refine va_get (D := (dC, dI)) (ci := 7) (v := .ref (a 3)) (C := RX6) (T := TX6) (N := 20) hx hb hts hi_dm_X6_fork_X6 hown hK hP 0 rfl rfl 2 (by decide) (hts (.fieldLink RX6 17 "TimeMachine$Machine" "page" "[I") (List.mem_of_getElem? (i := 12) rfl)) (fun _ h9 => h9) rfl dX6_fork_116 ?_
      refine lv_iload_n hx hb dX6_fork_119 rfl (lv_at hl 1 rfl) ?_
      refine lv_bipush (v := 6) hx hb dX6_fork_120 (by decide) ?_
      refine lv_ishl hx hb dX6_fork_122 ?_
      refine lv_iload_n hx hb dX6_fork_123 rfl (lv_at hl 3 rfl) ?_
      refine lv_ior hx hb dX6_fork_124 ?_
      obtain ⟨i36, h⟩ := nd_ck_e h
      refine va_iald (i := (((x1 : Int32) <<< ((6 : Int32) &&& 31)) ||| x3)) hx hb hK hP 3 2 rfl rfl i36 dX6_fork_125 ?_
      refine lv_iconst (v := 3) hx hb dX6_fork_126 (by decide) ?_
      refine lv_ishr hx hb dX6_fork_127 ?_
      refine lv_dup2_11 hx hb dX6_fork_128 rfl rfl ?_
      obtain ⟨i37, h⟩ := nd_ck_e h
      refine va_iald (i := (((sR s0.1 2 (Int32.toNatClampNeg (((x1 : Int32) <<< ((6 : Int32) &&& 31)) ||| x3))) : Int32) >>> ((3 : Int32) &&& 31))) hx hb hK hP 2 1 rfl rfl i37 dX6_fork_129 ?_
      refine lv_iconst (v := 1) hx hb dX6_fork_130 (by decide) ?_
      refine lv_iadd hx hb dX6_fork_131 ?_
      obtain ⟨i38, h⟩ := nd_ck_e h
      refine va_iast (i := (((sR s0.1 2 (Int32.toNatClampNeg (((x1 : Int32) <<< ((6 : Int32) &&& 31)) ||| x3))) : Int32) >>> ((3 : Int32) &&& 31))) (x := ((sR s0.1 1 (Int32.toNatClampNeg (((sR s0.1 2 (Int32.toNatClampNeg (((x1 : Int32) <<< ((6 : Int32) &&& 31)) ||| x3))) : Int32) >>> ((3 : Int32) &&& 31)))) + 1)) hx hb hK hP hD hS 2 1 rfl rfl i38 dX6_fork_132 (fun H locs hP hD hS => ?_)
      obtain ⟨s39, es39, h⟩ := nd_let_e h
      have hP : va_P (dC, dI) vwCl (dw_X6 a ac s39) H := by rw [es39]; exact hP
      have hD : va_D A (dw_X6 a ac s39) := by rw [es39]; exact hD
      exact (db_X6_fork_133 C K J91) (x1) (x2) (x3) s39 _ _ _ h hP hD hS (lv_sub hl [0, 1, 2, 3] rfl)
set_option maxHeartbeats 40000000 in
set_option maxRecDepth 100000 in
theorem db_X6_fork_91 {p : Program} {l : Launch} {e : Env} {s : State} {m : MethodId} {args : Array Value} {below : List Frame} {meth : Method} {c : Code} {Q : State → Prop} {A : Nat → Prop} {dC : Nat → ClassId} {dI : Nat → Nat → Nat} {a : Nat → Nat} {ac : Nat → ClassId} {n : Nat} {r : St × (St)} (C : nd_C p l s m args c A (dC, dI) cX6_fork 4 RX6 ow_dm_X6_fork (dk_X6 ac)) (K : nd_Kv p l e (headSpec ow_dm_X6_fork ({ frames := 1, cells := 0, slots := 0, locals := 40 })).room s m args below meth c Q A (dC, dI) cX6_fork (St × (St)) (dw_X6 a ac) r) (k : Nat) : dj_X6_fork_91 p l e s m args below meth c Q A dC dI a ac (df_X6_fork_91 n k) r := by
  induction k with
  | zero => intro x1 x2 x3 s0 H locs ls h; exact nomatch (show (none : Option (St × (St))) = some r from h)
  | succ k ih => exact dB_X6_fork_91 C K ih
set_option maxHeartbeats 40000000 in
set_option maxRecDepth 100000 in
theorem db_X6_fork_0 {p : Program} {l : Launch} {e : Env} {s : State} {m : MethodId} {args : Array Value} {below : List Frame} {meth : Method} {c : Code} {Q : State → Prop} {A : Nat → Prop} {dC : Nat → ClassId} {dI : Nat → Nat → Nat} {a : Nat → Nat} {ac : Nat → ClassId} {n : Nat} {r : St × (St)} (C : nd_C p l s m args c A (dC, dI) cX6_fork 4 RX6 ow_dm_X6_fork (dk_X6 ac)) (K : nd_Kv p l e (headSpec ow_dm_X6_fork ({ frames := 1, cells := 0, slots := 0, locals := 40 })).room s m args below meth c Q A (dC, dI) cX6_fork (St × (St)) (dw_X6 a ac) r) : dj_X6_fork_0 p l e s m args below meth c Q A dC dI a ac (df_X6_fork_0 n) r := by
  obtain ⟨hlt, hx, hb, hml, hown, hts, hN, hA, hK⟩ := id C
  intro v0 v1 s0 H locs ls h hP hD hS hl
  unfold df_X6_fork_0 at h
  refine lv_aload_n hx hb dX6_fork_0 rfl (lv_at hl 0 rfl) ?_
  refine lv_iload_n hx hb dX6_fork_1 rfl (lv_at hl 2 rfl) ?_
  obtain ⟨s2, hq, h⟩ := nd_b1_e h
  have hPc := hP
  have hDc := hD
  have hKc := hK
  have hFc := nd_rs hD hS hA
  refine nd_cVv (As := [.int v1]) (rest := []) (w' := dw_X6 a ac s2) ⟨hx, hb, hml, hown, hts⟩ (fun sz => dm_X6_makeAbsent l hlt dC dI a ac n (v1) s0 hq sz) (cwV 1 hts gi_dm_X6_fork_0 rfl rfl rfl (by decide +kernel) ⟨Nat.le_of_ble_eq_true rfl, Nat.le_of_ble_eq_true rfl⟩) hPc hDc hKc hS hA hN (va_recv hKc hPc (ci := 7) (q0 := 0) rfl rfl) rfl hl.1 rfl (Nat.le_of_ble_eq_true rfl) dX6_fork_2 (fun H locs hP1 hD1 hk1 hS => ?_)
  have hP := hP1
  have hD := hD1.weaken (fun k q _ h => hFc q.1 h)
  refine lv_aload_n hx hb dX6_fork_5 rfl (lv_at hl 0 rfl) ?_
  refine va_get (D := (dC, dI)) (ci := 7) (v := .ref (a 4)) (C := RX6) (T := TX6) (N := 20) hx hb hts hi_dm_X6_fork_X6 hown hK hP 0 rfl rfl 4 (by decide) (hts (.fieldLink RX6 20 "TimeMachine$Machine" "reg" "[I") (List.mem_of_getElem? (i := 5) rfl)) (fun _ h9 => h9) rfl dX6_fork_6 ?_
  refine lv_iload_n hx hb dX6_fork_9 rfl (lv_at hl 1 rfl) ?_
  refine lv_bipush (v := 33) hx hb dX6_fork_10 (by decide) ?_
  refine lv_imul hx hb dX6_fork_12 ?_
  refine lv_aload_n hx hb dX6_fork_13 rfl (lv_at hl 0 rfl) ?_
  refine va_get (D := (dC, dI)) (ci := 7) (v := .ref (a 4)) (C := RX6) (T := TX6) (N := 20) hx hb hts hi_dm_X6_fork_X6 hown hK hP 0 rfl rfl 4 (by decide) (hts (.fieldLink RX6 20 "TimeMachine$Machine" "reg" "[I") (List.mem_of_getElem? (i := 5) rfl)) (fun _ h9 => h9) rfl dX6_fork_14 ?_
  refine lv_iload_n hx hb dX6_fork_17 rfl (lv_at hl 2 rfl) ?_
  refine lv_bipush (v := 33) hx hb dX6_fork_18 (by decide) ?_
  refine lv_imul hx hb dX6_fork_20 ?_
  refine lv_bipush (v := 33) hx hb dX6_fork_21 (by decide) ?_
  obtain ⟨k4, h⟩ := nd_cp_e h
  refine va_copyi (sp := (v0 * 33)) (dp := (v1 * 33)) (n := 33) hx hb (by rw [hml]; exact hl.1.symm) hown (hts (.methodLink RX6 95 arraycopyName) (List.mem_of_getElem? (i := 6) rfl)) (hts (.native arraycopyName) (List.mem_of_getElem? (i := 7) rfl)) (hts (.static arraycopyName) (List.mem_of_getElem? (i := 8) rfl)) (hts (.initialized "java/lang/System") (List.mem_of_getElem? (i := 9) rfl)) hK hP hD hS 4 4 3 3 rfl rfl rfl rfl rfl k4.1 k4.2.1 k4.2.2.1 k4.2.2.2.1 k4.2.2.2.2 (fun _ _ => rfl) (Nat.le_of_ble_eq_true rfl) (by decide +kernel) dX6_fork_23 (fun H locs hP hD hS => ?_)
  obtain ⟨s5, es5, h⟩ := nd_let_e h
  have hP : va_P (dC, dI) vwCl (dw_X6 a ac s5) H := by rw [es5]; exact hP
  have hD : va_D A (dw_X6 a ac s5) := by rw [es5]; exact hD
  refine lv_aload_n hx hb dX6_fork_26 rfl (lv_at hl 0 rfl) ?_
  refine va_get (D := (dC, dI)) (ci := 7) (v := .ref (a 5)) (C := RX6) (T := TX6) (N := 20) hx hb hts hi_dm_X6_fork_X6 hown hK hP 0 rfl rfl 5 (by decide) (hts (.fieldLink RX6 23 "TimeMachine$Machine" "saved" "[I") (List.mem_of_getElem? (i := 10) rfl)) (fun _ h9 => h9) rfl dX6_fork_27 ?_
  refine lv_iload_n hx hb dX6_fork_30 rfl (lv_at hl 1 rfl) ?_
  refine lv_bipush (v := 33) hx hb dX6_fork_31 (by decide) ?_
  refine lv_imul hx hb dX6_fork_33 ?_
  refine lv_aload_n hx hb dX6_fork_34 rfl (lv_at hl 0 rfl) ?_
  refine va_get (D := (dC, dI)) (ci := 7) (v := .ref (a 5)) (C := RX6) (T := TX6) (N := 20) hx hb hts hi_dm_X6_fork_X6 hown hK hP 0 rfl rfl 5 (by decide) (hts (.fieldLink RX6 23 "TimeMachine$Machine" "saved" "[I") (List.mem_of_getElem? (i := 10) rfl)) (fun _ h9 => h9) rfl dX6_fork_35 ?_
  refine lv_iload_n hx hb dX6_fork_38 rfl (lv_at hl 2 rfl) ?_
  refine lv_bipush (v := 33) hx hb dX6_fork_39 (by decide) ?_
  refine lv_imul hx hb dX6_fork_41 ?_
  refine lv_bipush (v := 33) hx hb dX6_fork_42 (by decide) ?_
  obtain ⟨k6, h⟩ := nd_cp_e h
  refine va_copyi (sp := (v0 * 33)) (dp := (v1 * 33)) (n := 33) hx hb (by rw [hml]; exact hl.1.symm) hown (hts (.methodLink RX6 95 arraycopyName) (List.mem_of_getElem? (i := 6) rfl)) (hts (.native arraycopyName) (List.mem_of_getElem? (i := 7) rfl)) (hts (.static arraycopyName) (List.mem_of_getElem? (i := 8) rfl)) (hts (.initialized "java/lang/System") (List.mem_of_getElem? (i := 9) rfl)) hK hP hD hS 5 5 4 4 rfl rfl rfl rfl rfl k6.1 k6.2.1 k6.2.2.1 k6.2.2.2.1 k6.2.2.2.2 (fun _ _ => rfl) (Nat.le_of_ble_eq_true rfl) (by decide +kernel) dX6_fork_44 (fun H locs hP hD hS => ?_)
  obtain ⟨s7, es7, h⟩ := nd_let_e h
  have hP : va_P (dC, dI) vwCl (dw_X6 a ac s7) H := by rw [es7]; exact hP
  have hD : va_D A (dw_X6 a ac s7) := by rw [es7]; exact hD
  refine lv_aload_n hx hb dX6_fork_47 rfl (lv_at hl 0 rfl) ?_
  refine va_get (D := (dC, dI)) (ci := 7) (v := .ref (a 6)) (C := RX6) (T := TX6) (N := 20) hx hb hts hi_dm_X6_fork_X6 hown hK hP 0 rfl rfl 6 (by decide) (hts (.fieldLink RX6 26 "TimeMachine$Machine" "handler" "[I") (List.mem_of_getElem? (i := 11) rfl)) (fun _ h9 => h9) rfl dX6_fork_48 ?_
  refine lv_iload_n hx hb dX6_fork_51 rfl (lv_at hl 1 rfl) ?_
  refine lv_bipush (v := 16) hx hb dX6_fork_52 (by decide) ?_
  refine lv_imul hx hb dX6_fork_54 ?_
  refine lv_aload_n hx hb dX6_fork_55 rfl (lv_at hl 0 rfl) ?_
  refine va_get (D := (dC, dI)) (ci := 7) (v := .ref (a 6)) (C := RX6) (T := TX6) (N := 20) hx hb hts hi_dm_X6_fork_X6 hown hK hP 0 rfl rfl 6 (by decide) (hts (.fieldLink RX6 26 "TimeMachine$Machine" "handler" "[I") (List.mem_of_getElem? (i := 11) rfl)) (fun _ h9 => h9) rfl dX6_fork_56 ?_
  refine lv_iload_n hx hb dX6_fork_59 rfl (lv_at hl 2 rfl) ?_
  refine lv_bipush (v := 16) hx hb dX6_fork_60 (by decide) ?_
  refine lv_imul hx hb dX6_fork_62 ?_
  refine lv_bipush (v := 16) hx hb dX6_fork_63 (by decide) ?_
  obtain ⟨k8, h⟩ := nd_cp_e h
  refine va_copyi (sp := (v0 * 16)) (dp := (v1 * 16)) (n := 16) hx hb (by rw [hml]; exact hl.1.symm) hown (hts (.methodLink RX6 95 arraycopyName) (List.mem_of_getElem? (i := 6) rfl)) (hts (.native arraycopyName) (List.mem_of_getElem? (i := 7) rfl)) (hts (.static arraycopyName) (List.mem_of_getElem? (i := 8) rfl)) (hts (.initialized "java/lang/System") (List.mem_of_getElem? (i := 9) rfl)) hK hP hD hS 6 6 5 5 rfl rfl rfl rfl rfl k8.1 k8.2.1 k8.2.2.1 k8.2.2.2.1 k8.2.2.2.2 (fun _ _ => rfl) (Nat.le_of_ble_eq_true rfl) (by decide +kernel) dX6_fork_65 (fun H locs hP hD hS => ?_)
  obtain ⟨s9, es9, h⟩ := nd_let_e h
  have hP : va_P (dC, dI) vwCl (dw_X6 a ac s9) H := by rw [es9]; exact hP
  have hD : va_D A (dw_X6 a ac s9) := by rw [es9]; exact hD
  refine lv_aload_n hx hb dX6_fork_68 rfl (lv_at hl 0 rfl) ?_
  refine va_get (D := (dC, dI)) (ci := 7) (v := .ref (a 3)) (C := RX6) (T := TX6) (N := 20) hx hb hts hi_dm_X6_fork_X6 hown hK hP 0 rfl rfl 2 (by decide) (hts (.fieldLink RX6 17 "TimeMachine$Machine" "page" "[I") (List.mem_of_getElem? (i := 12) rfl)) (fun _ h9 => h9) rfl dX6_fork_69 ?_
  refine lv_iload_n hx hb dX6_fork_72 rfl (lv_at hl 1 rfl) ?_
  refine lv_bipush (v := 6) hx hb dX6_fork_73 (by decide) ?_
  refine lv_ishl hx hb dX6_fork_75 ?_
  refine lv_aload_n hx hb dX6_fork_76 rfl (lv_at hl 0 rfl) ?_
  refine va_get (D := (dC, dI)) (ci := 7) (v := .ref (a 3)) (C := RX6) (T := TX6) (N := 20) hx hb hts hi_dm_X6_fork_X6 hown hK hP 0 rfl rfl 2 (by decide) (hts (.fieldLink RX6 17 "TimeMachine$Machine" "page" "[I") (List.mem_of_getElem? (i := 12) rfl)) (fun _ h9 => h9) rfl dX6_fork_77 ?_
  refine lv_iload_n hx hb dX6_fork_80 rfl (lv_at hl 2 rfl) ?_
  refine lv_bipush (v := 6) hx hb dX6_fork_81 (by decide) ?_
  refine lv_ishl hx hb dX6_fork_83 ?_
  refine lv_bipush (v := 64) hx hb dX6_fork_84 (by decide) ?_
  obtain ⟨k10, h⟩ := nd_cp_e h
  refine va_copyi (sp := ((v0 : Int32) <<< ((6 : Int32) &&& 31))) (dp := ((v1 : Int32) <<< ((6 : Int32) &&& 31))) (n := 64) hx hb (by rw [hml]; exact hl.1.symm) hown (hts (.methodLink RX6 95 arraycopyName) (List.mem_of_getElem? (i := 6) rfl)) (hts (.native arraycopyName) (List.mem_of_getElem? (i := 7) rfl)) (hts (.static arraycopyName) (List.mem_of_getElem? (i := 8) rfl)) (hts (.initialized "java/lang/System") (List.mem_of_getElem? (i := 9) rfl)) hK hP hD hS 3 3 2 2 rfl rfl rfl rfl rfl k10.1 k10.2.1 k10.2.2.1 k10.2.2.2.1 k10.2.2.2.2 (fun _ _ => rfl) (Nat.le_of_ble_eq_true rfl) (by decide +kernel) dX6_fork_86 (fun H locs hP hD hS => ?_)
  obtain ⟨s11, es11, h⟩ := nd_let_e h
  have hP : va_P (dC, dI) vwCl (dw_X6 a ac s11) H := by rw [es11]; exact hP
  have hD : va_D A (dw_X6 a ac s11) := by rw [es11]; exact hD
  refine lv_iconst (v := 0) hx hb dX6_fork_89 (by decide) ?_
  refine lv_istore_n (lv' := [(3, .int 0), (0, .ref (a 0)), (1, .int v0), (2, .int v1)]) hx hb dX6_fork_90 rfl hl (by decide) rfl (fun ls hl => ?_)
  exact (db_X6_fork_91 C K n) (v0) (v1) (0) s11 _ _ _ h hP hD hS (lv_sub hl [1, 2, 3, 0] rfl)
set_option maxHeartbeats 40000000 in
set_option maxRecDepth 100000 in
theorem dm_X6_fork (l : Launch) (hlt : l.stackTraces = false) (dC : Nat → ClassId) (dI : Nat → Nat → Nat) (a : Nat → Nat) (ac : Nat → ClassId) (n : Nat) (v0 : Int32) (v1 : Int32) (s0 : St × (St)) {r : St × (St)} (h : df_X6_fork n v0 v1 s0 = some r) (sz : Nat) : Met l yX6_fork ow_dm_X6_fork ({ frames := 1, cells := 0, slots := 0, locals := 40 }) (va_Pc [.ref (a 0), .int v0, .int v1] (fun U => U.heap.size = sz ∧ va_P (dC, dI) vwCl (dw_X6 a ac s0) U.heap ∧ va_K (dC, dI) vwCl (dk_X6 ac) U ∧ va_D (fun _ => True) (dw_X6 a ac s0) ∧ nv_E dI (va_A (dw_X6 a ac s0) sz) U)) (va_Qv (fun _ => True) (fun (_ : Unit) t => va_P (dC, dI) vwCl (dw_X6 a ac r) t.heap ∧ va_K (dC, dI) vwCl (dk_X6 ac) t ∧ va_D (va_A (dw_X6 a ac s0) sz) (dw_X6 a ac r)) (va_A (dw_X6 a ac s0) sz)) 0 0 (va_A (dw_X6 a ac s0) sz) := by
  refine Met.ofW (cc := cX6_fork) (maxL := 4) (ret := none) (by decide) rfl ?_
  intro p e s m args below meth c s₁ B hml hv
  obtain ⟨rfl, hsz, hP, hK, hD0, hN⟩ := hv
  have hx := B.exec
  have hb := B.bytes
  have hr := B.returns
  have hts := atoms_spec (ws := ow_dm_X6_fork) B.pre
  have hown : s.vm.findClass RX6 = some m.cls := findClass_of_methodNamed B.named
  have hlocks := B.notSynchronized
  subst hsz
  have hD := hD0.self (sz := s.heap.size)
  generalize hAe : va_A (dw_X6 a ac s0) s.heap.size = A at hD hN ⊢
  have hA : ∀ q : Nat, s.heap.size ≤ q → A q := fun q h => by rw [← hAe]; exact Or.inr h
  have hl := lv_entry ([.ref (a 0), .int v0, .int v1]) (n := 4) (Nat.le_of_ble_eq_true rfl)
  rw [lg_entry_eq]
  generalize (lg_sl ([.ref (a 0), .int v0, .int v1]) ++ List.replicate (4 - (lg_sl ([.ref (a 0), .int v0, .int v1])).length) Slot.unset).toArray = ls at hl ⊢
  have hl : lv_has ls 4 [(0, .ref (a 0)), (1, .int v0), (2, .int v1)] := hl
  exact db_X6_fork_0 (dC := dC) (dI := dI) (a := a) (ac := ac) (n := n) (r := r) ⟨hlt, hx, hb, hml, hown, hts, hN, hA, hK⟩ (fun pc τ H locs ls d er hP hD hS => by subst er; exact W.vret hx hb hr (fun t ht hW => ⟨⟨(), rfl, trivial, by rw [ht]; exact hP, va_K.moved hW.alike hK, hD⟩, hS.F ht⟩) hS.2.2 d) v0 v1 s0 _ _ _ h hP hD va_S.rf (lv_sub hl [0, 1, 2] rfl)
def ow_dm_X6_addRandom : List Cond := Cond.code yX6_addRandom cX6_addRandom 2 (some .boolean) :: ([Cond.fieldLink RX6 60 "TimeMachine$Machine" "randoms" "I", Cond.fieldLink RX6 36 "TimeMachine$Machine" "random" "[I"] ++ (u_ws RX6 TX6 20 ++ []))
theorem gd_dm_X6_addRandom : ∀ w ∈ ow_dm_X6_addRandom, (w.onTables && w.keeps) = true ∨ ∃ ty, w = Cond.arrayClass ty := List.forall_mem_cons.mpr ⟨good_of_word rfl, List.forall_mem_append.mpr ⟨fun w h => good_of_word (List.all_eq_true.mp (by decide +kernel) w h), List.forall_mem_append.mpr ⟨gu_X6, fun _ h => nomatch h⟩⟩⟩
theorem hi_dm_X6_addRandom_X6 : ∀ w ∈ u_ws RX6 TX6 20, w ∈ ow_dm_X6_addRandom := fun w h => List.mem_cons_of_mem _ (List.mem_append_right _ (List.mem_append_left _ h))
def dj_X6_addRandom_0 (p : Program) (l : Launch) (e : Env) (s : State) (m : MethodId) (args : Array Value) (below : List Frame) (meth : Method) (c : Code) (Q : State → Prop) (A : Nat → Prop) (dC : Nat → ClassId) (dI : Nat → Nat → Nat) (a : Nat → Nat) (ac : Nat → ClassId) (g : Int32 → (St × (St)) → Option (Int32 × (St × (St)))) (r : Int32 × (St × (St))) : Prop := ∀ (v0 : Int32) (s0 : St × (St)) (H : Heap) (locs : List Loc) (ls : Array Slot), g v0 s0 = some r → va_P (dC, dI) vwCl (dw_X6 a ac s0) H → va_D A (dw_X6 a ac s0) → va_S A s.heap H locs → lv_has ls 2 [(0, .ref (a 0)), (1, .int v0)] → W p l e (headSpec ow_dm_X6_addRandom ({ frames := 0, cells := 0, slots := 0, locals := 0 })).room s m args below meth c H locs 0 0 Q (F0 m 0 ls [])
set_option maxHeartbeats 40000000 in
set_option maxRecDepth 100000 in
theorem db_X6_addRandom_0 {p : Program} {l : Launch} {e : Env} {s : State} {m : MethodId} {args : Array Value} {below : List Frame} {meth : Method} {c : Code} {Q : State → Prop} {A : Nat → Prop} {dC : Nat → ClassId} {dI : Nat → Nat → Nat} {a : Nat → Nat} {ac : Nat → ClassId} {n : Nat} {r : Int32 × (St × (St))} (C : nd_C p l s m args c A (dC, dI) cX6_addRandom 2 RX6 ow_dm_X6_addRandom (dk_X6 ac)) (K : nd_Ki p l e (headSpec ow_dm_X6_addRandom ({ frames := 0, cells := 0, slots := 0, locals := 0 })).room s m args below meth c Q A (dC, dI) cX6_addRandom .boolean (St × (St)) (dw_X6 a ac) r) : dj_X6_addRandom_0 p l e s m args below meth c Q A dC dI a ac (df_X6_addRandom_0 n) r := by
  obtain ⟨hlt, hx, hb, hml, hown, hts, hN, hA, hK⟩ := id C
  intro v0 s0 H locs ls h hP hD hS hl
  unfold df_X6_addRandom_0 at h
  refine lv_aload_n hx hb dX6_addRandom_0 rfl (lv_at hl 0 rfl) ?_
  refine va_get (D := (dC, dI)) (ci := 7) (v := .int (sI s0.1 1)) (C := RX6) (T := TX6) (N := 20) hx hb hts hi_dm_X6_addRandom_X6 hown hK hP 0 rfl rfl 10 (by decide) (hts (.fieldLink RX6 60 "TimeMachine$Machine" "randoms" "I") (List.mem_of_getElem? (i := 1) rfl)) (fun _ h9 => h9) rfl dX6_addRandom_1 ?_
  refine lv_bipush (v := 16) hx hb dX6_addRandom_4 (by decide) ?_
  refine lv_icmp_lt (tgt := 11) hx hb dX6_addRandom_6 (by decide) (fun c1 => ?_) (fun c1 => ?_)
  · have h := nd_pos h c1
    refine lv_aload_n hx hb dX6_addRandom_11 rfl (lv_at hl 0 rfl) ?_
    refine va_get (D := (dC, dI)) (ci := 7) (v := .ref (a 9)) (C := RX6) (T := TX6) (N := 20) hx hb hts hi_dm_X6_addRandom_X6 hown hK hP 0 rfl rfl 9 (by decide) (hts (.fieldLink RX6 36 "TimeMachine$Machine" "random" "[I") (List.mem_of_getElem? (i := 2) rfl)) (fun _ h9 => h9) rfl dX6_addRandom_12 ?_
    refine lv_aload_n hx hb dX6_addRandom_15 rfl (lv_at hl 0 rfl) ?_
    refine va_get (D := (dC, dI)) (ci := 7) (v := .int (sI s0.1 1)) (C := RX6) (T := TX6) (N := 20) hx hb hts hi_dm_X6_addRandom_X6 hown hK hP 0 rfl rfl 10 (by decide) (hts (.fieldLink RX6 60 "TimeMachine$Machine" "randoms" "I") (List.mem_of_getElem? (i := 1) rfl)) (fun _ h9 => h9) rfl dX6_addRandom_16 ?_
    refine lv_iload_n hx hb dX6_addRandom_19 rfl (lv_at hl 1 rfl) ?_
    obtain ⟨i2, h⟩ := nd_ck_e h
    refine va_iast (i := (sI s0.1 1)) (x := v0) hx hb hK hP hD hS 9 8 rfl rfl i2 dX6_addRandom_20 (fun H locs hP hD hS => ?_)
    obtain ⟨s3, es3, h⟩ := nd_let_e h
    have hP : va_P (dC, dI) vwCl (dw_X6 a ac s3) H := by rw [es3]; exact hP
    have hD : va_D A (dw_X6 a ac s3) := by rw [es3]; exact hD
    refine lv_aload_n hx hb dX6_addRandom_21 rfl (lv_at hl 0 rfl) ?_
    refine lv_dup hx hb dX6_addRandom_22 rfl ?_
    refine va_get (D := (dC, dI)) (ci := 7) (v := .int (sI s3.1 1)) (C := RX6) (T := TX6) (N := 20) hx hb hts hi_dm_X6_addRandom_X6 hown hK hP 0 rfl rfl 10 (by decide) (hts (.fieldLink RX6 60 "TimeMachine$Machine" "randoms" "I") (List.mem_of_getElem? (i := 1) rfl)) (fun _ h9 => h9) rfl dX6_addRandom_23 ?_
    refine lv_iconst (v := 1) hx hb dX6_addRandom_26 (by decide) ?_
    refine lv_iadd hx hb dX6_addRandom_27 ?_
    refine va_put (D := (dC, dI)) (ci := 7) (v := .int ((sI s3.1 1) + 1)) (ty := .int) (C := RX6) (T := TX6) (N := 20) hx hb hts hi_dm_X6_addRandom_X6 tyX6 tyX6_ok nmX6 hown hK hP hD hS 0 rfl rfl 10 (by decide) (hts (.fieldLink RX6 60 "TimeMachine$Machine" "randoms" "I") (List.mem_of_getElem? (i := 1) rfl)) (fun _ h9 => h9) rfl (by decide +kernel) rfl rfl (Nat.le_of_ble_eq_true rfl) dX6_addRandom_28 (fun H locs hP hD hS => ?_)
    obtain ⟨s4, es4, h⟩ := nd_let_e h
    have hP : va_P (dC, dI) vwCl (dw_X6 a ac s4) H := by rw [es4]; exact hP
    have hD : va_D A (dw_X6 a ac s4) := by rw [es4]; exact hD
    refine lv_iconst (v := 1) hx hb dX6_addRandom_31 (by decide) ?_
    exact K _ _ _ _ _ _ dX6_addRandom_32 (by first | rfl | decide) (Option.some.inj h).symm hP hD hS
  · have h := nd_neg h c1
    refine lv_iconst (v := 0) hx hb dX6_addRandom_9 (by decide) ?_
    exact K _ _ _ _ _ _ dX6_addRandom_10 (by first | rfl | decide) (Option.some.inj h).symm hP hD hS
set_option maxHeartbeats 40000000 in
set_option maxRecDepth 100000 in
theorem dm_X6_addRandom (l : Launch) (hlt : l.stackTraces = false) (dC : Nat → ClassId) (dI : Nat → Nat → Nat) (a : Nat → Nat) (ac : Nat → ClassId) (n : Nat) (v0 : Int32) (s0 : St × (St)) {r : Int32 × (St × (St))} (h : df_X6_addRandom n v0 s0 = some r) (sz : Nat) : Met l yX6_addRandom ow_dm_X6_addRandom ({ frames := 0, cells := 0, slots := 0, locals := 0 }) (va_Pc [.ref (a 0), .int v0] (fun U => U.heap.size = sz ∧ va_P (dC, dI) vwCl (dw_X6 a ac s0) U.heap ∧ va_K (dC, dI) vwCl (dk_X6 ac) U ∧ va_D (fun _ => True) (dw_X6 a ac s0) ∧ nv_E dI (va_A (dw_X6 a ac s0) sz) U)) (va_Qi (fun x _ => x = r.1) (fun (_ : Unit) t => va_P (dC, dI) vwCl (dw_X6 a ac r.2) t.heap ∧ va_K (dC, dI) vwCl (dk_X6 ac) t ∧ va_D (va_A (dw_X6 a ac s0) sz) (dw_X6 a ac r.2)) (va_A (dw_X6 a ac s0) sz)) 0 0 (va_A (dw_X6 a ac s0) sz) := by
  refine Met.ofW (cc := cX6_addRandom) (maxL := 2) (ret := (some .boolean)) (by decide) rfl ?_
  intro p e s m args below meth c s₁ B hml hv
  obtain ⟨rfl, hsz, hP, hK, hD0, hN⟩ := hv
  have hx := B.exec
  have hb := B.bytes
  have hr := B.returns
  have hts := atoms_spec (ws := ow_dm_X6_addRandom) B.pre
  have hown : s.vm.findClass RX6 = some m.cls := findClass_of_methodNamed B.named
  have hlocks := B.notSynchronized
  subst hsz
  have hD := hD0.self (sz := s.heap.size)
  generalize hAe : va_A (dw_X6 a ac s0) s.heap.size = A at hD hN ⊢
  have hA : ∀ q : Nat, s.heap.size ≤ q → A q := fun q h => by rw [← hAe]; exact Or.inr h
  have hl := lv_entry ([.ref (a 0), .int v0]) (n := 2) (Nat.le_of_ble_eq_true rfl)
  rw [lg_entry_eq]
  generalize (lg_sl ([.ref (a 0), .int v0]) ++ List.replicate (2 - (lg_sl ([.ref (a 0), .int v0])).length) Slot.unset).toArray = ls at hl ⊢
  have hl : lv_has ls 2 [(0, .ref (a 0)), (1, .int v0)] := hl
  exact db_X6_addRandom_0 (dC := dC) (dI := dI) (a := a) (ac := ac) (n := n) (r := r) ⟨hlt, hx, hb, hml, hown, hts, hN, hA, hK⟩ (fun pc v τ H locs ls d z er hP hD hS => by subst er; exact W.zret (v := v) hx hb hr z (fun t ht hW => ⟨⟨v, (), rfl, rfl, by rw [ht]; exact hP, va_K.moved hW.alike hK, hD⟩, hS.F ht⟩) hS.2.2 d) v0 s0 _ _ _ h hP hD va_S.rf (lv_sub hl [0, 1] rfl)
def ow_dm_X6_takeRandom : List Cond := Cond.code yX6_takeRandom cX6_takeRandom 2 (some .int) :: ([Cond.fieldLink RX6 36 "TimeMachine$Machine" "random" "[I", Cond.methodLink RX6 95 arraycopyName, .native arraycopyName, Cond.static arraycopyName, Cond.initialized "java/lang/System", Cond.fieldLink RX6 60 "TimeMachine$Machine" "randoms" "I", Cond.methodLink RX6 171 Lib.Math.max.name, Cond.static Lib.Math.max.name, Cond.initialized "java/lang/Math", Cond.code Lib.Math.max.name Lib.Math.max.code 2 (some .int)] ++ (u_ws RX6 TX6 20 ++ []))
theorem gd_dm_X6_takeRandom : ∀ w ∈ ow_dm_X6_takeRandom, (w.onTables && w.keeps) = true ∨ ∃ ty, w = Cond.arrayClass ty := List.forall_mem_cons.mpr ⟨good_of_word rfl, List.forall_mem_append.mpr ⟨fun w h => good_of_word (List.all_eq_true.mp (by decide +kernel) w h), List.forall_mem_append.mpr ⟨gu_X6, fun _ h => nomatch h⟩⟩⟩
theorem hi_dm_X6_takeRandom_X6 : ∀ w ∈ u_ws RX6 TX6 20, w ∈ ow_dm_X6_takeRandom := fun w h => List.mem_cons_of_mem _ (List.mem_append_right _ (List.mem_append_left _ h))
def dj_X6_takeRandom_0 (p : Program) (l : Launch) (e : Env) (s : State) (m : MethodId) (args : Array Value) (below : List Frame) (meth : Method) (c : Code) (Q : State → Prop) (A : Nat → Prop) (dC : Nat → ClassId) (dI : Nat → Nat → Nat) (a : Nat → Nat) (ac : Nat → ClassId) (g : (St × (St)) → Option (Int32 × (St × (St)))) (r : Int32 × (St × (St))) : Prop := ∀ (s0 : St × (St)) (H : Heap) (locs : List Loc) (ls : Array Slot), g s0 = some r → va_P (dC, dI) vwCl (dw_X6 a ac s0) H → va_D A (dw_X6 a ac s0) → va_S A s.heap H locs → lv_has ls 2 [(0, .ref (a 0))] → W p l e (headSpec ow_dm_X6_takeRandom ({ frames := 1, cells := 0, slots := 0, locals := 40 })).room s m args below meth c H locs 0 0 Q (F0 m 0 ls [])
set_option maxHeartbeats 40000000 in
set_option maxRecDepth 100000 in
theorem db_X6_takeRandom_0 {p : Program} {l : Launch} {e : Env} {s : State} {m : MethodId} {args : Array Value} {below : List Frame} {meth : Method} {c : Code} {Q : State → Prop} {A : Nat → Prop} {dC : Nat → ClassId} {dI : Nat → Nat → Nat} {a : Nat → Nat} {ac : Nat → ClassId} {n : Nat} {r : Int32 × (St × (St))} (C : nd_C p l s m args c A (dC, dI) cX6_takeRandom 2 RX6 ow_dm_X6_takeRandom (dk_X6 ac)) (K : nd_Ki p l e (headSpec ow_dm_X6_takeRandom ({ frames := 1, cells := 0, slots := 0, locals := 40 })).room s m args below meth c Q A (dC, dI) cX6_takeRandom .int (St × (St)) (dw_X6 a ac) r) : dj_X6_takeRandom_0 p l e s m args below meth c Q A dC dI a ac (df_X6_takeRandom_0 n) r := by
  obtain ⟨hlt, hx, hb, hml, hown, hts, hN, hA, hK⟩ := id C
  intro s0 H locs ls h hP hD hS hl
  unfold df_X6_takeRandom_0 at h
  refine lv_aload_n hx hb dX6_takeRandom_0 rfl (lv_at hl 0 rfl) ?_
  refine va_get (D := (dC, dI)) (ci := 7) (v := .ref (a 9)) (C := RX6) (T := TX6) (N := 20) hx hb hts hi_dm_X6_takeRandom_X6 hown hK hP 0 rfl rfl 9 (by decide) (hts (.fieldLink RX6 36 "TimeMachine$Machine" "random" "[I") (List.mem_of_getElem? (i := 1) rfl)) (fun _ h9 => h9) rfl dX6_takeRandom_1 ?_
  refine lv_iconst (v := 0) hx hb dX6_takeRandom_4 (by decide) ?_
  refine va_iald (i := 0) hx hb hK hP 9 8 rfl rfl (vp_in_iff.mpr ⟨by decide, by decide⟩) dX6_takeRandom_5 ?_
  refine lv_topi (fun z1 ez1 => ?_)
  have h := nd_at h ez1
  refine lv_istore_n (lv' := [(1, .int z1), (0, .ref (a 0))]) hx hb dX6_takeRandom_6 rfl hl (by decide) rfl (fun ls hl => ?_)
  refine lv_aload_n hx hb dX6_takeRandom_7 rfl (lv_at hl 1 rfl) ?_
  refine va_get (D := (dC, dI)) (ci := 7) (v := .ref (a 9)) (C := RX6) (T := TX6) (N := 20) hx hb hts hi_dm_X6_takeRandom_X6 hown hK hP 0 rfl rfl 9 (by decide) (hts (.fieldLink RX6 36 "TimeMachine$Machine" "random" "[I") (List.mem_of_getElem? (i := 1) rfl)) (fun _ h9 => h9) rfl dX6_takeRandom_8 ?_
  refine lv_iconst (v := 1) hx hb dX6_takeRandom_11 (by decide) ?_
  refine lv_aload_n hx hb dX6_takeRandom_12 rfl (lv_at hl 1 rfl) ?_
  refine va_get (D := (dC, dI)) (ci := 7) (v := .ref (a 9)) (C := RX6) (T := TX6) (N := 20) hx hb hts hi_dm_X6_takeRandom_X6 hown hK hP 0 rfl rfl 9 (by decide) (hts (.fieldLink RX6 36 "TimeMachine$Machine" "random" "[I") (List.mem_of_getElem? (i := 1) rfl)) (fun _ h9 => h9) rfl dX6_takeRandom_13 ?_
  refine lv_iconst (v := 0) hx hb dX6_takeRandom_16 (by decide) ?_
  refine lv_bipush (v := 15) hx hb dX6_takeRandom_17 (by decide) ?_
  obtain ⟨k2, h⟩ := nd_cp_e h
  refine va_copyi (sp := 1) (dp := 0) (n := 15) hx hb (by rw [hml]; exact hl.1.symm) hown (hts (.methodLink RX6 95 arraycopyName) (List.mem_of_getElem? (i := 2) rfl)) (hts (.native arraycopyName) (List.mem_of_getElem? (i := 3) rfl)) (hts (.static arraycopyName) (List.mem_of_getElem? (i := 4) rfl)) (hts (.initialized "java/lang/System") (List.mem_of_getElem? (i := 5) rfl)) hK hP hD hS 9 9 8 8 rfl rfl rfl rfl rfl k2.1 k2.2.1 k2.2.2.1 k2.2.2.2.1 k2.2.2.2.2 (fun _ _ => rfl) (Nat.le_of_ble_eq_true rfl) (by decide +kernel) dX6_takeRandom_19 (fun H locs hP hD hS => ?_)
  obtain ⟨s3, es3, h⟩ := nd_let_e h
  have hP : va_P (dC, dI) vwCl (dw_X6 a ac s3) H := by rw [es3]; exact hP
  have hD : va_D A (dw_X6 a ac s3) := by rw [es3]; exact hD
  refine lv_aload_n hx hb dX6_takeRandom_22 rfl (lv_at hl 1 rfl) ?_
  refine lv_iconst (v := 0) hx hb dX6_takeRandom_23 (by decide) ?_
  refine lv_aload_n hx hb dX6_takeRandom_24 rfl (lv_at hl 1 rfl) ?_
  refine va_get (D := (dC, dI)) (ci := 7) (v := .int (sI s3.1 1)) (C := RX6) (T := TX6) (N := 20) hx hb hts hi_dm_X6_takeRandom_X6 hown hK hP 0 rfl rfl 10 (by decide) (hts (.fieldLink RX6 60 "TimeMachine$Machine" "randoms" "I") (List.mem_of_getElem? (i := 6) rfl)) (fun _ h9 => h9) rfl dX6_takeRandom_25 ?_
  refine lv_iconst (v := 1) hx hb dX6_takeRandom_28 (by decide) ?_
  refine lv_isub hx hb dX6_takeRandom_29 ?_
  refine va_mmax hx hb (by rw [hml]; exact hl.1.symm) hown (hts (.methodLink RX6 171 Lib.Math.max.name) (List.mem_of_getElem? (i := 7) rfl)) (hts (.static Lib.Math.max.name) (List.mem_of_getElem? (i := 8) rfl)) (hts (.initialized "java/lang/Math") (List.mem_of_getElem? (i := 9) rfl)) (hts (.code Lib.Math.max.name Lib.Math.max.code 2 (some .int)) (List.mem_of_getElem? (i := 10) rfl)) (Nat.le_of_ble_eq_true rfl) (Nat.le_of_ble_eq_true rfl) (by decide +kernel) (by decide +kernel) dX6_takeRandom_30 ?_
  refine va_put (D := (dC, dI)) (ci := 7) (v := .int (if (0 : Int32) < ((sI s3.1 1) - 1) then ((sI s3.1 1) - 1) else 0)) (ty := .int) (C := RX6) (T := TX6) (N := 20) hx hb hts hi_dm_X6_takeRandom_X6 tyX6 tyX6_ok nmX6 hown hK hP hD hS 0 rfl rfl 10 (by decide) (hts (.fieldLink RX6 60 "TimeMachine$Machine" "randoms" "I") (List.mem_of_getElem? (i := 6) rfl)) (fun _ h9 => h9) rfl (by decide +kernel) rfl rfl (Nat.le_of_ble_eq_true rfl) dX6_takeRandom_33 (fun H locs hP hD hS => ?_)
  obtain ⟨s4, es4, h⟩ := nd_let_e h
  have hP : va_P (dC, dI) vwCl (dw_X6 a ac s4) H := by rw [es4]; exact hP
  have hD : va_D A (dw_X6 a ac s4) := by rw [es4]; exact hD
  refine lv_iload_n hx hb dX6_takeRandom_36 rfl (lv_at hl 0 rfl) ?_
  exact K _ _ _ _ _ _ dX6_takeRandom_37 rfl (Option.some.inj h).symm hP hD hS
set_option maxHeartbeats 40000000 in
set_option maxRecDepth 100000 in
theorem dm_X6_takeRandom (l : Launch) (hlt : l.stackTraces = false) (dC : Nat → ClassId) (dI : Nat → Nat → Nat) (a : Nat → Nat) (ac : Nat → ClassId) (n : Nat) (s0 : St × (St)) {r : Int32 × (St × (St))} (h : df_X6_takeRandom n s0 = some r) (sz : Nat) : Met l yX6_takeRandom ow_dm_X6_takeRandom ({ frames := 1, cells := 0, slots := 0, locals := 40 }) (va_Pc [.ref (a 0)] (fun U => U.heap.size = sz ∧ va_P (dC, dI) vwCl (dw_X6 a ac s0) U.heap ∧ va_K (dC, dI) vwCl (dk_X6 ac) U ∧ va_D (fun _ => True) (dw_X6 a ac s0) ∧ nv_E dI (va_A (dw_X6 a ac s0) sz) U)) (va_Qi (fun x _ => x = r.1) (fun (_ : Unit) t => va_P (dC, dI) vwCl (dw_X6 a ac r.2) t.heap ∧ va_K (dC, dI) vwCl (dk_X6 ac) t ∧ va_D (va_A (dw_X6 a ac s0) sz) (dw_X6 a ac r.2)) (va_A (dw_X6 a ac s0) sz)) 0 0 (va_A (dw_X6 a ac s0) sz) := by
  refine Met.ofW (cc := cX6_takeRandom) (maxL := 2) (ret := (some .int)) (by decide) rfl ?_
  intro p e s m args below meth c s₁ B hml hv
  obtain ⟨rfl, hsz, hP, hK, hD0, hN⟩ := hv
  have hx := B.exec
  have hb := B.bytes
  have hr := B.returns
  have hts := atoms_spec (ws := ow_dm_X6_takeRandom) B.pre
  have hown : s.vm.findClass RX6 = some m.cls := findClass_of_methodNamed B.named
  have hlocks := B.notSynchronized
  subst hsz
  have hD := hD0.self (sz := s.heap.size)
  generalize hAe : va_A (dw_X6 a ac s0) s.heap.size = A at hD hN ⊢
  have hA : ∀ q : Nat, s.heap.size ≤ q → A q := fun q h => by rw [← hAe]; exact Or.inr h
  have hl := lv_entry ([.ref (a 0)]) (n := 2) (Nat.le_of_ble_eq_true rfl)
  rw [lg_entry_eq]
  generalize (lg_sl ([.ref (a 0)]) ++ List.replicate (2 - (lg_sl ([.ref (a 0)])).length) Slot.unset).toArray = ls at hl ⊢
  have hl : lv_has ls 2 [(0, .ref (a 0))] := hl
  exact db_X6_takeRandom_0 (dC := dC) (dI := dI) (a := a) (ac := ac) (n := n) (r := r) ⟨hlt, hx, hb, hml, hown, hts, hN, hA, hK⟩ (fun pc v τ H locs ls d z er hP hD hS => by subst er; exact W.zret (v := v) hx hb hr z (fun t ht hW => ⟨⟨v, (), rfl, rfl, by rw [ht]; exact hP, va_K.moved hW.alike hK, hD⟩, hS.F ht⟩) hS.2.2 d) s0 _ _ _ h hP hD va_S.rf (lv_sub hl [0] rfl)
def ow_dm_X6_registerOf : List Cond := Cond.code yX6_registerOf cX6_registerOf 3 (some .int) :: ([Cond.methodLink RX6 156 yX6_status, Cond.instanceMethod yX6_status, Cond.selects RX6 yX6_status yX6_status, Cond.initialized RX6, Cond.fieldLink RX6 20 "TimeMachine$Machine" "reg" "[I"] ++ (u_ws RX6 TX6 20 ++ (ow_dm_X6_status ++ [])))
theorem gd_dm_X6_registerOf : ∀ w ∈ ow_dm_X6_registerOf, (w.onTables && w.keeps) = true ∨ ∃ ty, w = Cond.arrayClass ty := List.forall_mem_cons.mpr ⟨good_of_word rfl, List.forall_mem_append.mpr ⟨fun w h => good_of_word (List.all_eq_true.mp (by decide +kernel) w h), List.forall_mem_append.mpr ⟨gu_X6, List.forall_mem_append.mpr ⟨gd_dm_X6_status, fun _ h => nomatch h⟩⟩⟩⟩
theorem hi_dm_X6_registerOf_X6 : ∀ w ∈ u_ws RX6 TX6 20, w ∈ ow_dm_X6_registerOf := fun w h => List.mem_cons_of_mem _ (List.mem_append_right _ (List.mem_append_left _ h))
theorem gi_dm_X6_registerOf_0 : GoodIn ow_dm_X6_registerOf (wsV RX6 156 RX6 yX6_status ow_dm_X6_status) := goodIn_app (goodIn_of _ (by decide +kernel)) (fun w h => ⟨List.mem_cons_of_mem _ (List.mem_append_right _ (List.mem_append_right _ (List.mem_append_left _ h))), gd_dm_X6_status w h⟩)
def dj_X6_registerOf_23 (p : Program) (l : Launch) (e : Env) (s : State) (m : MethodId) (args : Array Value) (below : List Frame) (meth : Method) (c : Code) (Q : State → Prop) (A : Nat → Prop) (dC : Nat → ClassId) (dI : Nat → Nat → Nat) (a : Nat → Nat) (ac : Nat → ClassId) (g : Int32 → (St × (St)) → Option (Int32 × (St × (St)))) (r : Int32 × (St × (St))) : Prop := ∀ (y0 : Int32) (s0 : St × (St)) (H : Heap) (locs : List Loc) (ls : Array Slot), g y0 s0 = some r → va_P (dC, dI) vwCl (dw_X6 a ac s0) H → va_D A (dw_X6 a ac s0) → va_S A s.heap H locs → lv_has ls 3 [] → W p l e (headSpec ow_dm_X6_registerOf ({ frames := 1, cells := 0, slots := 0, locals := 21 })).room s m args below meth c H locs 0 0 Q (F0 m 23 ls [.int y0])
def dj_X6_registerOf_0 (p : Program) (l : Launch) (e : Env) (s : State) (m : MethodId) (args : Array Value) (below : List Frame) (meth : Method) (c : Code) (Q : State → Prop) (A : Nat → Prop) (dC : Nat → ClassId) (dI : Nat → Nat → Nat) (a : Nat → Nat) (ac : Nat → ClassId) (g : Int32 → Int32 → (St × (St)) → Option (Int32 × (St × (St)))) (r : Int32 × (St × (St))) : Prop := ∀ (v0 : Int32) (v1 : Int32) (s0 : St × (St)) (H : Heap) (locs : List Loc) (ls : Array Slot), g v0 v1 s0 = some r → va_P (dC, dI) vwCl (dw_X6 a ac s0) H → va_D A (dw_X6 a ac s0) → va_S A s.heap H locs → lv_has ls 3 [(0, .ref (a 0)), (1, .int v0), (2, .int v1)] → W p l e (headSpec ow_dm_X6_registerOf ({ frames := 1, cells := 0, slots := 0, locals := 21 })).room s m args below meth c H locs 0 0 Q (F0 m 0 ls [])
set_option maxHeartbeats 40000000 in
set_option maxRecDepth 100000 in
theorem db_X6_registerOf_23 {p : Program} {l : Launch} {e : Env} {s : State} {m : MethodId} {args : Array Value} {below : List Frame} {meth : Method} {c : Code} {Q : State → Prop} {A : Nat → Prop} {dC : Nat → ClassId} {dI : Nat → Nat → Nat} {a : Nat → Nat} {ac : Nat → ClassId} {n : Nat} {r : Int32 × (St × (St))} (C : nd_C p l s m args c A (dC, dI) cX6_registerOf 3 RX6 ow_dm_X6_registerOf (dk_X6 ac)) (K : nd_Ki p l e (headSpec ow_dm_X6_registerOf ({ frames := 1, cells := 0, slots := 0, locals := 21 })).room s m args below meth c Q A (dC, dI) cX6_registerOf .int (St × (St)) (dw_X6 a ac) r) : dj_X6_registerOf_23 p l e s m args below meth c Q A dC dI a ac (df_X6_registerOf_23 n) r := by
  obtain ⟨hlt, hx, hb, hml, hown, hts, hN, hA, hK⟩ := id C
  intro y0 s0 H locs ls h hP hD hS hl
  unfold df_X6_registerOf_23 at h
  exact K _ _ _ _ _ _ dX6_registerOf_23 rfl (Option.some.inj h).symm hP hD hS
set_option maxHeartbeats 40000000 in
set_option maxRecDepth 100000 in
theorem db_X6_registerOf_0 {p : Program} {l : Launch} {e : Env} {s : State} {m : MethodId} {args : Array Value} {below : List Frame} {meth : Method} {c : Code} {Q : State → Prop} {A : Nat → Prop} {dC : Nat → ClassId} {dI : Nat → Nat → Nat} {a : Nat → Nat} {ac : Nat → ClassId} {n : Nat} {r : Int32 × (St × (St))} (C : nd_C p l s m args c A (dC, dI) cX6_registerOf 3 RX6 ow_dm_X6_registerOf (dk_X6 ac)) (K : nd_Ki p l e (headSpec ow_dm_X6_registerOf ({ frames := 1, cells := 0, slots := 0, locals := 21 })).room s m args below meth c Q A (dC, dI) cX6_registerOf .int (St × (St)) (dw_X6 a ac) r) : dj_X6_registerOf_0 p l e s m args below meth c Q A dC dI a ac (df_X6_registerOf_0 n) r := by
  obtain ⟨hlt, hx, hb, hml, hown, hts, hN, hA, hK⟩ := id C
  intro v0 v1 s0 H locs ls h hP hD hS hl
  unfold df_X6_registerOf_0 at h
  refine lv_aload_n hx hb dX6_registerOf_0 rfl (lv_at hl 0 rfl) ?_
  refine lv_iload_n hx hb dX6_registerOf_1 rfl (lv_at hl 1 rfl) ?_
  obtain ⟨q1, s2, hq, h⟩ := nd_b2_e h
  have hPc := hP
  have hDc := hD
  have hKc := hK
  have hFc := nd_rs hD hS hA
  refine nd_cVi (As := [.int v0]) (rest := []) (q := q1) (w' := dw_X6 a ac s2) ⟨hx, hb, hml, hown, hts⟩ (fun sz => dm_X6_status l hlt dC dI a ac n (v0) s0 hq sz) (cwV 1 hts gi_dm_X6_registerOf_0 rfl rfl rfl (by decide +kernel) ⟨Nat.le_of_ble_eq_true rfl, Nat.le_of_ble_eq_true rfl⟩) hPc hDc hKc hS hA hN (va_recv hKc hPc (ci := 7) (q0 := 0) rfl rfl) rfl hl.1 rfl (Nat.le_of_ble_eq_true rfl) dX6_registerOf_2 (fun H locs hP1 hD1 hk1 hS => ?_)
  have hP := hP1
  have hD := hD1.weaken (fun k q _ h => hFc q.1 h)
  refine lv_if_ne (tgt := 12) hx hb dX6_registerOf_5 (by decide) (fun c4 => ?_) (fun c4 => ?_)
  · have h := nd_neg h c4
    refine lv_aload_n hx hb dX6_registerOf_12 rfl (lv_at hl 0 rfl) ?_
    refine va_get (D := (dC, dI)) (ci := 7) (v := .ref (a 4)) (C := RX6) (T := TX6) (N := 20) hx hb hts hi_dm_X6_registerOf_X6 hown hK hP 0 rfl rfl 4 (by decide) (hts (.fieldLink RX6 20 "TimeMachine$Machine" "reg" "[I") (List.mem_of_getElem? (i := 5) rfl)) (fun _ h9 => h9) rfl dX6_registerOf_13 ?_
    refine lv_iload_n hx hb dX6_registerOf_16 rfl (lv_at hl 1 rfl) ?_
    refine lv_bipush (v := 33) hx hb dX6_registerOf_17 (by decide) ?_
    refine lv_imul hx hb dX6_registerOf_19 ?_
    refine lv_iload_n hx hb dX6_registerOf_20 rfl (lv_at hl 2 rfl) ?_
    refine lv_iadd hx hb dX6_registerOf_21 ?_
    obtain ⟨i5, h⟩ := nd_ck_e h
    refine va_iald (i := ((v0 * 33) + v1)) hx hb hK hP 4 3 rfl rfl i5 dX6_registerOf_22 ?_
    exact (db_X6_registerOf_23 C K) ((sR s2.1 3 (Int32.toNatClampNeg ((v0 * 33) + v1)))) s2 _ _ _ h hP hD hS (lv_sub hl [] rfl)
  · have h := nd_pos h c4
    refine lv_iconst (v := 0) hx hb dX6_registerOf_8 (by decide) ?_
    refine lv_goto (tgt := 23) hx hb dX6_registerOf_9 (by decide) ?_
    exact (db_X6_registerOf_23 C K) (0) s2 _ _ _ h hP hD hS (lv_sub hl [] rfl)
set_option maxHeartbeats 40000000 in
set_option maxRecDepth 100000 in
theorem dm_X6_registerOf (l : Launch) (hlt : l.stackTraces = false) (dC : Nat → ClassId) (dI : Nat → Nat → Nat) (a : Nat → Nat) (ac : Nat → ClassId) (n : Nat) (v0 : Int32) (v1 : Int32) (s0 : St × (St)) {r : Int32 × (St × (St))} (h : df_X6_registerOf n v0 v1 s0 = some r) (sz : Nat) : Met l yX6_registerOf ow_dm_X6_registerOf ({ frames := 1, cells := 0, slots := 0, locals := 21 }) (va_Pc [.ref (a 0), .int v0, .int v1] (fun U => U.heap.size = sz ∧ va_P (dC, dI) vwCl (dw_X6 a ac s0) U.heap ∧ va_K (dC, dI) vwCl (dk_X6 ac) U ∧ va_D (fun _ => True) (dw_X6 a ac s0) ∧ nv_E dI (va_A (dw_X6 a ac s0) sz) U)) (va_Qi (fun x _ => x = r.1) (fun (_ : Unit) t => va_P (dC, dI) vwCl (dw_X6 a ac r.2) t.heap ∧ va_K (dC, dI) vwCl (dk_X6 ac) t ∧ va_D (va_A (dw_X6 a ac s0) sz) (dw_X6 a ac r.2)) (va_A (dw_X6 a ac s0) sz)) 0 0 (va_A (dw_X6 a ac s0) sz) := by
  refine Met.ofW (cc := cX6_registerOf) (maxL := 3) (ret := (some .int)) (by decide) rfl ?_
  intro p e s m args below meth c s₁ B hml hv
  obtain ⟨rfl, hsz, hP, hK, hD0, hN⟩ := hv
  have hx := B.exec
  have hb := B.bytes
  have hr := B.returns
  have hts := atoms_spec (ws := ow_dm_X6_registerOf) B.pre
  have hown : s.vm.findClass RX6 = some m.cls := findClass_of_methodNamed B.named
  have hlocks := B.notSynchronized
  subst hsz
  have hD := hD0.self (sz := s.heap.size)
  generalize hAe : va_A (dw_X6 a ac s0) s.heap.size = A at hD hN ⊢
  have hA : ∀ q : Nat, s.heap.size ≤ q → A q := fun q h => by rw [← hAe]; exact Or.inr h
  have hl := lv_entry ([.ref (a 0), .int v0, .int v1]) (n := 3) (Nat.le_of_ble_eq_true rfl)
  rw [lg_entry_eq]
  generalize (lg_sl ([.ref (a 0), .int v0, .int v1]) ++ List.replicate (3 - (lg_sl ([.ref (a 0), .int v0, .int v1])).length) Slot.unset).toArray = ls at hl ⊢
  have hl : lv_has ls 3 [(0, .ref (a 0)), (1, .int v0), (2, .int v1)] := hl
  exact db_X6_registerOf_0 (dC := dC) (dI := dI) (a := a) (ac := ac) (n := n) (r := r) ⟨hlt, hx, hb, hml, hown, hts, hN, hA, hK⟩ (fun pc v τ H locs ls d z er hP hD hS => by subst er; exact W.zret (v := v) hx hb hr z (fun t ht hW => ⟨⟨v, (), rfl, rfl, by rw [ht]; exact hP, va_K.moved hW.alike hK, hD⟩, hS.F ht⟩) hS.2.2 d) v0 v1 s0 _ _ _ h hP hD va_S.rf (lv_sub hl [0, 1, 2] rfl)
def ow_dm_X6_told : List Cond := Cond.code yX6_told cX6_told 3 (some .int) :: ([Cond.methodLink RX6 177 yX6_pagesOf, Cond.instanceMethod yX6_pagesOf, Cond.selects RX6 yX6_pagesOf yX6_pagesOf, Cond.initialized RX6, Cond.fieldLink RX6 29 "TimeMachine$Machine" "self" "[I", Cond.methodLink RX6 156 yX6_status, Cond.instanceMethod yX6_status, Cond.selects RX6 yX6_status yX6_status, Cond.fieldLink RX6 20 "TimeMachine$Machine" "reg" "[I"] ++ (u_ws RX6 TX6 20 ++ (ow_dm_X6_pagesOf ++ (ow_dm_X6_status ++ []))))
theorem gd_dm_X6_told : ∀ w ∈ ow_dm_X6_told, (w.onTables && w.keeps) = true ∨ ∃ ty, w = Cond.arrayClass ty := List.forall_mem_cons.mpr ⟨good_of_word rfl, List.forall_mem_append.mpr ⟨fun w h => good_of_word (List.all_eq_true.mp (by decide +kernel) w h), List.forall_mem_append.mpr ⟨gu_X6, List.forall_mem_append.mpr ⟨gd_dm_X6_pagesOf, List.forall_mem_append.mpr ⟨gd_dm_X6_status, fun _ h => nomatch h⟩⟩⟩⟩⟩
theorem hi_dm_X6_told_X6 : ∀ w ∈ u_ws RX6 TX6 20, w ∈ ow_dm_X6_told := fun w h => List.mem_cons_of_mem _ (List.mem_append_right _ (List.mem_append_left _ h))
theorem gi_dm_X6_told_0 : GoodIn ow_dm_X6_told (wsV RX6 177 RX6 yX6_pagesOf ow_dm_X6_pagesOf) := goodIn_app (goodIn_of _ (by decide +kernel)) (fun w h => ⟨List.mem_cons_of_mem _ (List.mem_append_right _ (List.mem_append_right _ (List.mem_append_left _ h))), gd_dm_X6_pagesOf w h⟩)
theorem gi_dm_X6_told_1 : GoodIn ow_dm_X6_told (wsV RX6 156 RX6 yX6_status ow_dm_X6_status) := goodIn_app (goodIn_of _ (by decide +kernel)) (fun w h => ⟨List.mem_cons_of_mem _ (List.mem_append_right _ (List.mem_append_right _ (List.mem_append_right _ (List.mem_append_left _ h)))), gd_dm_X6_status w h⟩)
def dj_X6_told_72 (p : Program) (l : Launch) (e : Env) (s : State) (m : MethodId) (args : Array Value) (below : List Frame) (meth : Method) (c : Code) (Q : State → Prop) (A : Nat → Prop) (dC : Nat → ClassId) (dI : Nat → Nat → Nat) (a : Nat → Nat) (ac : Nat → ClassId) (g : Int32 → (St × (St)) → Option (Int32 × (St × (St)))) (r : Int32 × (St × (St))) : Prop := ∀ (y0 : Int32) (s0 : St × (St)) (H : Heap) (locs : List Loc) (ls : Array Slot), g y0 s0 = some r → va_P (dC, dI) vwCl (dw_X6 a ac s0) H → va_D A (dw_X6 a ac s0) → va_S A s.heap H locs → lv_has ls 3 [] → W p l e (headSpec ow_dm_X6_told ({ frames := 1, cells := 0, slots := 0, locals := 23 })).room s m args below meth c H locs 0 0 Q (F0 m 72 ls [.int y0])
def dj_X6_told_0 (p : Program) (l : Launch) (e : Env) (s : State) (m : MethodId) (args : Array Value) (below : List Frame) (meth : Method) (c : Code) (Q : State → Prop) (A : Nat → Prop) (dC : Nat → ClassId) (dI : Nat → Nat → Nat) (a : Nat → Nat) (ac : Nat → ClassId) (g : Int32 → Int32 → (St × (St)) → Option (Int32 × (St × (St)))) (r : Int32 × (St × (St))) : Prop := ∀ (v0 : Int32) (v1 : Int32) (s0 : St × (St)) (H : Heap) (locs : List Loc) (ls : Array Slot), g v0 v1 s0 = some r → va_P (dC, dI) vwCl (dw_X6 a ac s0) H → va_D A (dw_X6 a ac s0) → va_S A s.heap H locs → lv_has ls 3 [(0, .ref (a 0)), (1, .int v0), (2, .int v1)] → W p l e (headSpec ow_dm_X6_told ({ frames := 1, cells := 0, slots := 0, locals := 23 })).room s m args below meth c H locs 0 0 Q (F0 m 0 ls [])
set_option maxHeartbeats 40000000 in
set_option maxRecDepth 100000 in
theorem db_X6_told_72 {p : Program} {l : Launch} {e : Env} {s : State} {m : MethodId} {args : Array Value} {below : List Frame} {meth : Method} {c : Code} {Q : State → Prop} {A : Nat → Prop} {dC : Nat → ClassId} {dI : Nat → Nat → Nat} {a : Nat → Nat} {ac : Nat → ClassId} {n : Nat} {r : Int32 × (St × (St))} (C : nd_C p l s m args c A (dC, dI) cX6_told 3 RX6 ow_dm_X6_told (dk_X6 ac)) (K : nd_Ki p l e (headSpec ow_dm_X6_told ({ frames := 1, cells := 0, slots := 0, locals := 23 })).room s m args below meth c Q A (dC, dI) cX6_told .int (St × (St)) (dw_X6 a ac) r) : dj_X6_told_72 p l e s m args below meth c Q A dC dI a ac (df_X6_told_72 n) r := by
  obtain ⟨hlt, hx, hb, hml, hown, hts, hN, hA, hK⟩ := id C
  intro y0 s0 H locs ls h hP hD hS hl
  unfold df_X6_told_72 at h
  exact K _ _ _ _ _ _ dX6_told_72 rfl (Option.some.inj h).symm hP hD hS
set_option maxHeartbeats 40000000 in
set_option maxRecDepth 100000 in
theorem db_X6_told_0 {p : Program} {l : Launch} {e : Env} {s : State} {m : MethodId} {args : Array Value} {below : List Frame} {meth : Method} {c : Code} {Q : State → Prop} {A : Nat → Prop} {dC : Nat → ClassId} {dI : Nat → Nat → Nat} {a : Nat → Nat} {ac : Nat → ClassId} {n : Nat} {r : Int32 × (St × (St))} (C : nd_C p l s m args c A (dC, dI) cX6_told 3 RX6 ow_dm_X6_told (dk_X6 ac)) (K : nd_Ki p l e (headSpec ow_dm_X6_told ({ frames := 1, cells := 0, slots := 0, locals := 23 })).room s m args below meth c Q A (dC, dI) cX6_told .int (St × (St)) (dw_X6 a ac) r) : dj_X6_told_0 p l e s m args below meth c Q A dC dI a ac (df_X6_told_0 n) r := by
  obtain ⟨hlt, hx, hb, hml, hown, hts, hN, hA, hK⟩ := id C
  intro v0 v1 s0 H locs ls h hP hD hS hl
  unfold df_X6_told_0 at h
  refine lv_iload_n hx hb dX6_told_0 rfl (lv_at hl 2 rfl) ?_
  by_cases c1 : v1 = 5
  · have h := nd_pos h c1
    refine lv_tableIn (off := 27) (tgt := 28) hx hb dX6_told_1 (by rw [c1]; decide) (by rw [c1]; decide) (by rw [c1]; decide) (by decide) ?_
    refine lv_aload_n hx hb dX6_told_28 rfl (lv_at hl 0 rfl) ?_
    refine lv_iload_n hx hb dX6_told_29 rfl (lv_at hl 1 rfl) ?_
    obtain ⟨q2, s3, hq, h⟩ := nd_b2_e h
    have hPc := hP
    have hDc := hD
    have hKc := hK
    have hFc := nd_rs hD hS hA
    refine nd_cVi (As := [.int v0]) (rest := []) (q := q2) (w' := dw_X6 a ac s3) ⟨hx, hb, hml, hown, hts⟩ (fun sz => dm_X6_pagesOf l hlt dC dI a ac n (v0) s0 hq sz) (cwV 1 hts gi_dm_X6_told_0 rfl rfl rfl (by decide +kernel) ⟨Nat.le_of_ble_eq_true rfl, Nat.le_of_ble_eq_true rfl⟩) hPc hDc hKc hS hA hN (va_recv hKc hPc (ci := 7) (q0 := 0) rfl rfl) rfl hl.1 rfl (Nat.le_of_ble_eq_true rfl) dX6_told_30 (fun H locs hP1 hD1 hk1 hS => ?_)
    have hP := hP1
    have hD := hD1.weaken (fun k q _ h => hFc q.1 h)
    exact K _ _ _ _ _ _ dX6_told_33 rfl (Option.some.inj h).symm hP hD hS
  have h := nd_neg h c1
  by_cases c5 : v1 = 6
  · have h := nd_pos h c5
    refine lv_tableIn (off := 33) (tgt := 34) hx hb dX6_told_1 (by rw [c5]; decide) (by rw [c5]; decide) (by rw [c5]; decide) (by decide) ?_
    refine lv_aload_n hx hb dX6_told_34 rfl (lv_at hl 0 rfl) ?_
    refine va_get (D := (dC, dI)) (ci := 7) (v := .ref (a 7)) (C := RX6) (T := TX6) (N := 20) hx hb hts hi_dm_X6_told_X6 hown hK hP 0 rfl rfl 7 (by decide) (hts (.fieldLink RX6 29 "TimeMachine$Machine" "self" "[I") (List.mem_of_getElem? (i := 5) rfl)) (fun _ h9 => h9) rfl dX6_told_35 ?_
    refine lv_iload_n hx hb dX6_told_38 rfl (lv_at hl 1 rfl) ?_
    refine lv_bipush (v := 7) hx hb dX6_told_39 (by decide) ?_
    refine lv_imul hx hb dX6_told_41 ?_
    refine lv_bipush (v := 6) hx hb dX6_told_42 (by decide) ?_
    refine lv_iadd hx hb dX6_told_44 ?_
    obtain ⟨i6, h⟩ := nd_ck_e h
    refine va_iald (i := ((v0 * 7) + 6)) hx hb hK hP 7 6 rfl rfl i6 dX6_told_45 ?_
    exact K _ _ _ _ _ _ dX6_told_46 rfl (Option.some.inj h).symm hP hD hS
  have h := nd_neg h c5
  by_cases c7 : v1 = 7
  · have h := nd_pos h c7
    refine lv_tableIn (off := 46) (tgt := 47) hx hb dX6_told_1 (by rw [c7]; decide) (by rw [c7]; decide) (by rw [c7]; decide) (by decide) ?_
    refine lv_aload_n hx hb dX6_told_47 rfl (lv_at hl 0 rfl) ?_
    refine lv_iload_n hx hb dX6_told_48 rfl (lv_at hl 1 rfl) ?_
    obtain ⟨q8, s9, hq, h⟩ := nd_b2_e h
    have hPc := hP
    have hDc := hD
    have hKc := hK
    have hFc := nd_rs hD hS hA
    refine nd_cVi (As := [.int v0]) (rest := []) (q := q8) (w' := dw_X6 a ac s9) ⟨hx, hb, hml, hown, hts⟩ (fun sz => dm_X6_status l hlt dC dI a ac n (v0) s0 hq sz) (cwV 1 hts gi_dm_X6_told_1 rfl rfl rfl (by decide +kernel) ⟨Nat.le_of_ble_eq_true rfl, Nat.le_of_ble_eq_true rfl⟩) hPc hDc hKc hS hA hN (va_recv hKc hPc (ci := 7) (q0 := 0) rfl rfl) rfl hl.1 rfl (Nat.le_of_ble_eq_true rfl) dX6_told_49 (fun H locs hP1 hD1 hk1 hS => ?_)
    have hP := hP1
    have hD := hD1.weaken (fun k q _ h => hFc q.1 h)
    refine lv_iconst (v := 2) hx hb dX6_told_52 (by decide) ?_
    refine lv_icmp_ne (tgt := 71) hx hb dX6_told_53 (by decide) (fun c11 => ?_) (fun c11 => ?_)
    · have h := nd_neg h c11
      refine lv_iconst (v := (-1)) hx hb dX6_told_71 (by decide) ?_
      exact (db_X6_told_72 C K) ((-1)) s9 _ _ _ h hP hD hS (lv_sub hl [] rfl)
    · have h := nd_pos h c11
      refine lv_aload_n hx hb dX6_told_56 rfl (lv_at hl 0 rfl) ?_
      refine va_get (D := (dC, dI)) (ci := 7) (v := .ref (a 4)) (C := RX6) (T := TX6) (N := 20) hx hb hts hi_dm_X6_told_X6 hown hK hP 0 rfl rfl 4 (by decide) (hts (.fieldLink RX6 20 "TimeMachine$Machine" "reg" "[I") (List.mem_of_getElem? (i := 9) rfl)) (fun _ h9 => h9) rfl dX6_told_57 ?_
      refine lv_iload_n hx hb dX6_told_60 rfl (lv_at hl 1 rfl) ?_
      refine lv_bipush (v := 33) hx hb dX6_told_61 (by decide) ?_
      refine lv_imul hx hb dX6_told_63 ?_
      refine lv_bipush (v := 17) hx hb dX6_told_64 (by decide) ?_
      refine lv_iadd hx hb dX6_told_66 ?_
      obtain ⟨i12, h⟩ := nd_ck_e h
      refine va_iald (i := ((v0 * 33) + 17)) hx hb hK hP 4 3 rfl rfl i12 dX6_told_67 ?_
      refine lv_goto (tgt := 72) hx hb dX6_told_68 (by decide) ?_
      exact (db_X6_told_72 C K) ((sR s9.1 3 (Int32.toNatClampNeg ((v0 * 33) + 17)))) s9 _ _ _ h hP hD hS (lv_sub hl [] rfl)
  have h := nd_neg h c7
  refine lv_tableOut (tgt := 73) hx hb dX6_told_1 (by have g0 := nv_nei c1 (k := 5) (by decide); have g1 := nv_nei c5 (k := 6) (by decide); have g2 := nv_nei c7 (k := 7) (by decide); omega) (by decide) ?_
  refine lv_aload_n hx hb dX6_told_73 rfl (lv_at hl 0 rfl) ?_
  refine va_get (D := (dC, dI)) (ci := 7) (v := .ref (a 7)) (C := RX6) (T := TX6) (N := 20) hx hb hts hi_dm_X6_told_X6 hown hK hP 0 rfl rfl 7 (by decide) (hts (.fieldLink RX6 29 "TimeMachine$Machine" "self" "[I") (List.mem_of_getElem? (i := 5) rfl)) (fun _ h9 => h9) rfl dX6_told_74 ?_
  refine lv_iload_n hx hb dX6_told_77 rfl (lv_at hl 1 rfl) ?_
  refine lv_bipush (v := 7) hx hb dX6_told_78 (by decide) ?_
  refine lv_imul hx hb dX6_told_80 ?_
  refine lv_iload_n hx hb dX6_told_81 rfl (lv_at hl 2 rfl) ?_
  refine lv_iadd hx hb dX6_told_82 ?_
  obtain ⟨i13, h⟩ := nd_ck_e h
  refine va_iald (i := ((v0 * 7) + v1)) hx hb hK hP 7 6 rfl rfl i13 dX6_told_83 ?_
  exact K _ _ _ _ _ _ dX6_told_84 rfl (Option.some.inj h).symm hP hD hS
set_option maxHeartbeats 40000000 in
set_option maxRecDepth 100000 in
theorem dm_X6_told (l : Launch) (hlt : l.stackTraces = false) (dC : Nat → ClassId) (dI : Nat → Nat → Nat) (a : Nat → Nat) (ac : Nat → ClassId) (n : Nat) (v0 : Int32) (v1 : Int32) (s0 : St × (St)) {r : Int32 × (St × (St))} (h : df_X6_told n v0 v1 s0 = some r) (sz : Nat) : Met l yX6_told ow_dm_X6_told ({ frames := 1, cells := 0, slots := 0, locals := 23 }) (va_Pc [.ref (a 0), .int v0, .int v1] (fun U => U.heap.size = sz ∧ va_P (dC, dI) vwCl (dw_X6 a ac s0) U.heap ∧ va_K (dC, dI) vwCl (dk_X6 ac) U ∧ va_D (fun _ => True) (dw_X6 a ac s0) ∧ nv_E dI (va_A (dw_X6 a ac s0) sz) U)) (va_Qi (fun x _ => x = r.1) (fun (_ : Unit) t => va_P (dC, dI) vwCl (dw_X6 a ac r.2) t.heap ∧ va_K (dC, dI) vwCl (dk_X6 ac) t ∧ va_D (va_A (dw_X6 a ac s0) sz) (dw_X6 a ac r.2)) (va_A (dw_X6 a ac s0) sz)) 0 0 (va_A (dw_X6 a ac s0) sz) := by
  refine Met.ofW (cc := cX6_told) (maxL := 3) (ret := (some .int)) (by decide) rfl ?_
  intro p e s m args below meth c s₁ B hml hv
  obtain ⟨rfl, hsz, hP, hK, hD0, hN⟩ := hv
  have hx := B.exec
  have hb := B.bytes
  have hr := B.returns
  have hts := atoms_spec (ws := ow_dm_X6_told) B.pre
  have hown : s.vm.findClass RX6 = some m.cls := findClass_of_methodNamed B.named
  have hlocks := B.notSynchronized
  subst hsz
  have hD := hD0.self (sz := s.heap.size)
  generalize hAe : va_A (dw_X6 a ac s0) s.heap.size = A at hD hN ⊢
  have hA : ∀ q : Nat, s.heap.size ≤ q → A q := fun q h => by rw [← hAe]; exact Or.inr h
  have hl := lv_entry ([.ref (a 0), .int v0, .int v1]) (n := 3) (Nat.le_of_ble_eq_true rfl)
  rw [lg_entry_eq]
  generalize (lg_sl ([.ref (a 0), .int v0, .int v1]) ++ List.replicate (3 - (lg_sl ([.ref (a 0), .int v0, .int v1])).length) Slot.unset).toArray = ls at hl ⊢
  have hl : lv_has ls 3 [(0, .ref (a 0)), (1, .int v0), (2, .int v1)] := hl
  exact db_X6_told_0 (dC := dC) (dI := dI) (a := a) (ac := ac) (n := n) (r := r) ⟨hlt, hx, hb, hml, hown, hts, hN, hA, hK⟩ (fun pc v τ H locs ls d z er hP hD hS => by subst er; exact W.zret (v := v) hx hb hr z (fun t ht hW => ⟨⟨v, (), rfl, rfl, by rw [ht]; exact hP, va_K.moved hW.alike hK, hD⟩, hS.F ht⟩) hS.2.2 d) v0 v1 s0 _ _ _ h hP hD va_S.rf (lv_sub hl [0, 1, 2] rfl)
def ow_dm_X6_counted : List Cond := Cond.code yX6_counted cX6_counted 2 (some .long) :: ([Cond.fieldLink RX6 75 "TimeMachine$Machine" "clock" "J", Cond.fieldLink RX6 60 "TimeMachine$Machine" "randoms" "I", Cond.fieldLink RX6 42 "TimeMachine$Machine" "things" "LTimeMachine$Things;", Cond.fieldLink RX6 180 "TimeMachine$Things" "shownInAll" "J", Cond.fieldLink RX6 183 "TimeMachine$Things" "typedBytes" "I", Cond.fieldLink RX6 52 "TimeMachine$Machine" "framesUsed" "I", Cond.methodLink RX6 186 yX6_processesThere, Cond.instanceMethod yX6_processesThere, Cond.selects RX6 yX6_processesThere yX6_processesThere, Cond.initialized RX6, Cond.methodLink RX6 189 yX10_namedFiles, Cond.instanceMethod yX10_namedFiles, Cond.selects RX10 yX10_namedFiles yX10_namedFiles, Cond.initialized RX10, Cond.methodLink RX6 192 yX10_openingsFree, Cond.instanceMethod yX10_openingsFree, Cond.selects RX10 yX10_openingsFree yX10_openingsFree, Cond.fieldLink RX6 79 "TimeMachine$Machine" "retired" "J"] ++ (u_ws RX6 TX6 20 ++ (u_ws RX10 TX10 11 ++ (ow_dm_X6_processesThere ++ (ow_dm_X10_namedFiles ++ (ow_dm_X10_openingsFree ++ []))))))
theorem gd_dm_X6_counted : ∀ w ∈ ow_dm_X6_counted, (w.onTables && w.keeps) = true ∨ ∃ ty, w = Cond.arrayClass ty := List.forall_mem_cons.mpr ⟨good_of_word rfl, List.forall_mem_append.mpr ⟨fun w h => good_of_word (List.all_eq_true.mp (by decide +kernel) w h), List.forall_mem_append.mpr ⟨gu_X6, List.forall_mem_append.mpr ⟨gu_X10, List.forall_mem_append.mpr ⟨gd_dm_X6_processesThere, List.forall_mem_append.mpr ⟨gd_dm_X10_namedFiles, List.forall_mem_append.mpr ⟨gd_dm_X10_openingsFree, fun _ h => nomatch h⟩⟩⟩⟩⟩⟩⟩
theorem hi_dm_X6_counted_X6 : ∀ w ∈ u_ws RX6 TX6 20, w ∈ ow_dm_X6_counted := fun w h => List.mem_cons_of_mem _ (List.mem_append_right _ (List.mem_append_left _ h))
theorem hi_dm_X6_counted_X10 : ∀ w ∈ u_ws RX10 TX10 11, w ∈ ow_dm_X6_counted := fun w h => List.mem_cons_of_mem _ (List.mem_append_right _ (List.mem_append_right _ (List.mem_append_left _ h)))
theorem gi_dm_X6_counted_0 : GoodIn ow_dm_X6_counted (wsV RX6 186 RX6 yX6_processesThere ow_dm_X6_processesThere) := goodIn_app (goodIn_of _ (by decide +kernel)) (fun w h => ⟨List.mem_cons_of_mem _ (List.mem_append_right _ (List.mem_append_right _ (List.mem_append_right _ (List.mem_append_left _ h)))), gd_dm_X6_processesThere w h⟩)
theorem gi_dm_X6_counted_1 : GoodIn ow_dm_X6_counted (wsV RX6 189 RX10 yX10_namedFiles ow_dm_X10_namedFiles) := goodIn_app (goodIn_of _ (by decide +kernel)) (fun w h => ⟨List.mem_cons_of_mem _ (List.mem_append_right _ (List.mem_append_right _ (List.mem_append_right _ (List.mem_append_right _ (List.mem_append_left _ h))))), gd_dm_X10_namedFiles w h⟩)
theorem gi_dm_X6_counted_2 : GoodIn ow_dm_X6_counted (wsV RX6 192 RX10 yX10_openingsFree ow_dm_X10_openingsFree) := goodIn_app (goodIn_of _ (by decide +kernel)) (fun w h => ⟨List.mem_cons_of_mem _ (List.mem_append_right _ (List.mem_append_right _ (List.mem_append_right _ (List.mem_append_right _ (List.mem_append_right _ (List.mem_append_left _ h)))))), gd_dm_X10_openingsFree w h⟩)
def dj_X6_counted_0 (p : Program) (l : Launch) (e : Env) (s : State) (m : MethodId) (args : Array Value) (below : List Frame) (meth : Method) (c : Code) (Q : State → Prop) (A : Nat → Prop) (dC : Nat → ClassId) (dI : Nat → Nat → Nat) (a : Nat → Nat) (ac : Nat → ClassId) (g : Int32 → (St × (St)) → Option (Int64 × (St × (St)))) (r : Int64 × (St × (St))) : Prop := ∀ (v0 : Int32) (s0 : St × (St)) (H : Heap) (locs : List Loc) (ls : Array Slot), g v0 s0 = some r → va_P (dC, dI) vwCl (dw_X6 a ac s0) H → va_D A (dw_X6 a ac s0) → va_S A s.heap H locs → lv_has ls 2 [(0, .ref (a 0)), (1, .int v0)] → W p l e (headSpec ow_dm_X6_counted ({ frames := 2, cells := 0, slots := 0, locals := 44 })).room s m args below meth c H locs 0 0 Q (F0 m 0 ls [])
set_option maxHeartbeats 40000000 in
set_option maxRecDepth 100000 in
theorem db_X6_counted_0 {p : Program} {l : Launch} {e : Env} {s : State} {m : MethodId} {args : Array Value} {below : List Frame} {meth : Method} {c : Code} {Q : State → Prop} {A : Nat → Prop} {dC : Nat → ClassId} {dI : Nat → Nat → Nat} {a : Nat → Nat} {ac : Nat → ClassId} {n : Nat} {r : Int64 × (St × (St))} (C : nd_C p l s m args c A (dC, dI) cX6_counted 2 RX6 ow_dm_X6_counted (dk_X6 ac)) (K : nd_Kl p l e (headSpec ow_dm_X6_counted ({ frames := 2, cells := 0, slots := 0, locals := 44 })).room s m args below meth c Q A (dC, dI) cX6_counted (St × (St)) (dw_X6 a ac) r) : dj_X6_counted_0 p l e s m args below meth c Q A dC dI a ac (df_X6_counted_0 n) r := by
  obtain ⟨hlt, hx, hb, hml, hown, hts, hN, hA, hK⟩ := id C
  intro v0 s0 H locs ls h hP hD hS hl
  unfold df_X6_counted_0 at h
  refine lv_iload_n hx hb dX6_counted_0 rfl (lv_at hl 1 rfl) ?_
  by_cases c1 : v0 = 6
  · have h := nd_pos h c1
    refine lv_tableIn (off := 47) (tgt := 48) hx hb dX6_counted_1 (by rw [c1]; decide) (by rw [c1]; decide) (by rw [c1]; decide) (by decide) ?_
    refine lv_aload_n hx hb dX6_counted_48 rfl (lv_at hl 0 rfl) ?_
    refine va_get (D := (dC, dI)) (ci := 7) (v := .long (sL s0.1 0)) (C := RX6) (T := TX6) (N := 20) hx hb hts hi_dm_X6_counted_X6 hown hK hP 0 rfl rfl 17 (by decide) (hts (.fieldLink RX6 75 "TimeMachine$Machine" "clock" "J") (List.mem_of_getElem? (i := 1) rfl)) (fun _ h9 => h9) rfl dX6_counted_49 ?_
    exact K _ _ _ _ _ _ dX6_counted_52 (Option.some.inj h).symm hP hD hS
  have h := nd_neg h c1
  by_cases c2 : v0 = 7
  · have h := nd_pos h c2
    refine lv_tableIn (off := 52) (tgt := 53) hx hb dX6_counted_1 (by rw [c2]; decide) (by rw [c2]; decide) (by rw [c2]; decide) (by decide) ?_
    refine lv_aload_n hx hb dX6_counted_53 rfl (lv_at hl 0 rfl) ?_
    refine va_get (D := (dC, dI)) (ci := 7) (v := .int (sI s0.1 1)) (C := RX6) (T := TX6) (N := 20) hx hb hts hi_dm_X6_counted_X6 hown hK hP 0 rfl rfl 10 (by decide) (hts (.fieldLink RX6 60 "TimeMachine$Machine" "randoms" "I") (List.mem_of_getElem? (i := 2) rfl)) (fun _ h9 => h9) rfl dX6_counted_54 ?_
    refine lv_i2l hx hb dX6_counted_57 rfl ?_
    exact K _ _ _ _ _ _ dX6_counted_58 (Option.some.inj h).symm hP hD hS
  have h := nd_neg h c2
  by_cases c3 : v0 = 8
  · have h := nd_pos h c3
    refine lv_tableIn (off := 58) (tgt := 59) hx hb dX6_counted_1 (by rw [c3]; decide) (by rw [c3]; decide) (by rw [c3]; decide) (by decide) ?_
    refine lv_aload_n hx hb dX6_counted_59 rfl (lv_at hl 0 rfl) ?_
    refine va_get (D := (dC, dI)) (ci := 7) (v := .ref (a 10)) (C := RX6) (T := TX6) (N := 20) hx hb hts hi_dm_X6_counted_X6 hown hK hP 0 rfl rfl 11 (by decide) (hts (.fieldLink RX6 42 "TimeMachine$Machine" "things" "LTimeMachine$Things;") (List.mem_of_getElem? (i := 3) rfl)) (fun _ h9 => h9) rfl dX6_counted_60 ?_
    refine va_get (D := (dC, dI)) (ci := 11) (v := .long (sL s0.2 0)) (C := RX10) (T := TX10) (N := 11) hx hb hts hi_dm_X6_counted_X10 hown hK hP 10 rfl rfl 10 (by decide) (hts (.fieldLink RX6 180 "TimeMachine$Things" "shownInAll" "J") (List.mem_of_getElem? (i := 4) rfl)) (fun _ h9 => h9) rfl dX6_counted_63 ?_
    exact K _ _ _ _ _ _ dX6_counted_66 (Option.some.inj h).symm hP hD hS
  have h := nd_neg h c3
  by_cases c4 : v0 = 9
  · have h := nd_pos h c4
    refine lv_tableIn (off := 66) (tgt := 67) hx hb dX6_counted_1 (by rw [c4]; decide) (by rw [c4]; decide) (by rw [c4]; decide) (by decide) ?_
    refine lv_aload_n hx hb dX6_counted_67 rfl (lv_at hl 0 rfl) ?_
    refine va_get (D := (dC, dI)) (ci := 7) (v := .ref (a 10)) (C := RX6) (T := TX6) (N := 20) hx hb hts hi_dm_X6_counted_X6 hown hK hP 0 rfl rfl 11 (by decide) (hts (.fieldLink RX6 42 "TimeMachine$Machine" "things" "LTimeMachine$Things;") (List.mem_of_getElem? (i := 3) rfl)) (fun _ h9 => h9) rfl dX6_counted_68 ?_
    refine va_get (D := (dC, dI)) (ci := 11) (v := .int (sI s0.2 0)) (C := RX10) (T := TX10) (N := 11) hx hb hts hi_dm_X6_counted_X10 hown hK hP 10 rfl rfl 8 (by decide) (hts (.fieldLink RX6 183 "TimeMachine$Things" "typedBytes" "I") (List.mem_of_getElem? (i := 5) rfl)) (fun _ h9 => h9) rfl dX6_counted_71 ?_
    refine lv_i2l hx hb dX6_counted_74 rfl ?_
    exact K _ _ _ _ _ _ dX6_counted_75 (Option.some.inj h).symm hP hD hS
  have h := nd_neg h c4
  by_cases c5 : v0 = 10
  · have h := nd_pos h c5
    refine lv_tableIn (off := 75) (tgt := 76) hx hb dX6_counted_1 (by rw [c5]; decide) (by rw [c5]; decide) (by rw [c5]; decide) (by decide) ?_
    refine lv_aload_n hx hb dX6_counted_76 rfl (lv_at hl 0 rfl) ?_
    refine va_get (D := (dC, dI)) (ci := 7) (v := .int (sI s0.1 0)) (C := RX6) (T := TX6) (N := 20) hx hb hts hi_dm_X6_counted_X6 hown hK hP 0 rfl rfl 3 (by decide) (hts (.fieldLink RX6 52 "TimeMachine$Machine" "framesUsed" "I") (List.mem_of_getElem? (i := 6) rfl)) (fun _ h9 => h9) rfl dX6_counted_77 ?_
    refine lv_i2l hx hb dX6_counted_80 rfl ?_
    exact K _ _ _ _ _ _ dX6_counted_81 (Option.some.inj h).symm hP hD hS
  have h := nd_neg h c5
  by_cases c6 : v0 = 11
  · have h := nd_pos h c6
    refine lv_tableIn (off := 81) (tgt := 82) hx hb dX6_counted_1 (by rw [c6]; decide) (by rw [c6]; decide) (by rw [c6]; decide) (by decide) ?_
    refine lv_aload_n hx hb dX6_counted_82 rfl (lv_at hl 0 rfl) ?_
    obtain ⟨q7, s8, hq, h⟩ := nd_b2_e h
    have hPc := hP
    have hDc := hD
    have hKc := hK
    have hFc := nd_rs hD hS hA
    refine nd_cVi (As := []) (rest := []) (q := q7) (w' := dw_X6 a ac s8) ⟨hx, hb, hml, hown, hts⟩ (fun sz => dm_X6_processesThere l hlt dC dI a ac n  s0 hq sz) (cwV 0 hts gi_dm_X6_counted_0 rfl rfl rfl (by decide +kernel) ⟨Nat.le_of_ble_eq_true rfl, Nat.le_of_ble_eq_true rfl⟩) hPc hDc hKc hS hA hN (va_recv hKc hPc (ci := 7) (q0 := 0) rfl rfl) rfl hl.1 rfl (Nat.le_of_ble_eq_true rfl) dX6_counted_83 (fun H locs hP1 hD1 hk1 hS => ?_)
    have hP := hP1
    have hD := hD1.weaken (fun k q _ h => hFc q.1 h)
    refine lv_i2l hx hb dX6_counted_86 rfl ?_
    exact K _ _ _ _ _ _ dX6_counted_87 (Option.some.inj h).symm hP hD hS
  have h := nd_neg h c6
  by_cases c10 : v0 = 12
  · have h := nd_pos h c10
    refine lv_tableIn (off := 87) (tgt := 88) hx hb dX6_counted_1 (by rw [c10]; decide) (by rw [c10]; decide) (by rw [c10]; decide) (by decide) ?_
    refine lv_aload_n hx hb dX6_counted_88 rfl (lv_at hl 0 rfl) ?_
    refine va_get (D := (dC, dI)) (ci := 7) (v := .ref (a 10)) (C := RX6) (T := TX6) (N := 20) hx hb hts hi_dm_X6_counted_X6 hown hK hP 0 rfl rfl 11 (by decide) (hts (.fieldLink RX6 42 "TimeMachine$Machine" "things" "LTimeMachine$Things;") (List.mem_of_getElem? (i := 3) rfl)) (fun _ h9 => h9) rfl dX6_counted_89 ?_
    obtain ⟨q11, s12, hq, h⟩ := nd_b2_e h
    have hPc := dp_X6_10 hP
    have hDc := dd_X6_10 hD
    have hKc := dy_X6_10 hK
    have hFc := nd_rs hDc hS hA
    have hzA : ∀ q : Nat, H.size ≤ q → A q := fun q h => hA q (Nat.le_trans hS.1 h)
    refine nd_cVi (As := []) (rest := []) (q := q11) (w' := dw_X10 (fun k => a (k + 10)) (fun k => ac (k + 10)) s12) ⟨hx, hb, hml, hown, hts⟩ (fun sz => dm_X10_namedFiles l hlt dC dI (fun k => a (k + 10)) (fun k => ac (k + 10)) n  s0.2 hq sz) (cwV 0 hts gi_dm_X6_counted_1 rfl rfl rfl (by decide +kernel) ⟨Nat.le_of_ble_eq_true rfl, Nat.le_of_ble_eq_true rfl⟩) hPc hDc hKc hS hA hN (va_recv hKc hPc (ci := 11) (q0 := 0) rfl rfl) rfl hl.1 rfl (Nat.le_of_ble_eq_true rfl) dX6_counted_92 (fun H locs hP1 hD1 hk1 hS => ?_)
    obtain ⟨hP, hD⟩ := dn_X6_10 hP hD hzA hk1 hP1 hD1
    obtain ⟨s14, es14, h⟩ := nd_let_e h
    have hP : va_P (dC, dI) vwCl (dw_X6 a ac s14) H := by rw [es14]; exact hP
    have hD : va_D A (dw_X6 a ac s14) := by rw [es14]; exact hD
    refine lv_i2l hx hb dX6_counted_95 rfl ?_
    exact K _ _ _ _ _ _ dX6_counted_96 (Option.some.inj h).symm hP hD hS
  have h := nd_neg h c10
  by_cases c15 : v0 = 13
  · have h := nd_pos h c15
    refine lv_tableIn (off := 96) (tgt := 97) hx hb dX6_counted_1 (by rw [c15]; decide) (by rw [c15]; decide) (by rw [c15]; decide) (by decide) ?_
    refine lv_bipush (v := 48) hx hb dX6_counted_97 (by decide) ?_
    refine lv_aload_n hx hb dX6_counted_99 rfl (lv_at hl 0 rfl) ?_
    refine va_get (D := (dC, dI)) (ci := 7) (v := .ref (a 10)) (C := RX6) (T := TX6) (N := 20) hx hb hts hi_dm_X6_counted_X6 hown hK hP 0 rfl rfl 11 (by decide) (hts (.fieldLink RX6 42 "TimeMachine$Machine" "things" "LTimeMachine$Things;") (List.mem_of_getElem? (i := 3) rfl)) (fun _ h9 => h9) rfl dX6_counted_100 ?_
    obtain ⟨q16, s17, hq, h⟩ := nd_b2_e h
    have hPc := dp_X6_10 hP
    have hDc := dd_X6_10 hD
    have hKc := dy_X6_10 hK
    have hFc := nd_rs hDc hS hA
    have hzA : ∀ q : Nat, H.size ≤ q → A q := fun q h => hA q (Nat.le_trans hS.1 h)
    refine nd_cVi (As := []) (rest := [.int 48]) (q := q16) (w' := dw_X10 (fun k => a (k + 10)) (fun k => ac (k + 10)) s17) ⟨hx, hb, hml, hown, hts⟩ (fun sz => dm_X10_openingsFree l hlt dC dI (fun k => a (k + 10)) (fun k => ac (k + 10)) n  s0.2 hq sz) (cwV 0 hts gi_dm_X6_counted_2 rfl rfl rfl (by decide +kernel) ⟨Nat.le_of_ble_eq_true rfl, Nat.le_of_ble_eq_true rfl⟩) hPc hDc hKc hS hA hN (va_recv hKc hPc (ci := 11) (q0 := 0) rfl rfl) rfl hl.1 rfl (Nat.le_of_ble_eq_true rfl) dX6_counted_103 (fun H locs hP1 hD1 hk1 hS => ?_)
    obtain ⟨hP, hD⟩ := dn_X6_10 hP hD hzA hk1 hP1 hD1
    obtain ⟨s19, es19, h⟩ := nd_let_e h
    have hP : va_P (dC, dI) vwCl (dw_X6 a ac s19) H := by rw [es19]; exact hP
    have hD : va_D A (dw_X6 a ac s19) := by rw [es19]; exact hD
    refine lv_isub hx hb dX6_counted_106 ?_
    refine lv_i2l hx hb dX6_counted_107 rfl ?_
    exact K _ _ _ _ _ _ dX6_counted_108 (Option.some.inj h).symm hP hD hS
  have h := nd_neg h c15
  refine lv_tableOut (tgt := 109) hx hb dX6_counted_1 (by have g0 := nv_nei c1 (k := 6) (by decide); have g1 := nv_nei c2 (k := 7) (by decide); have g2 := nv_nei c3 (k := 8) (by decide); have g3 := nv_nei c4 (k := 9) (by decide); have g4 := nv_nei c5 (k := 10) (by decide); have g5 := nv_nei c6 (k := 11) (by decide); have g6 := nv_nei c10 (k := 12) (by decide); have g7 := nv_nei c15 (k := 13) (by decide); omega) (by decide) ?_
  refine lv_aload_n hx hb dX6_counted_109 rfl (lv_at hl 0 rfl) ?_
  refine va_get (D := (dC, dI)) (ci := 7) (v := .long (sL s0.1 1)) (C := RX6) (T := TX6) (N := 20) hx hb hts hi_dm_X6_counted_X6 hown hK hP 0 rfl rfl 18 (by decide) (hts (.fieldLink RX6 79 "TimeMachine$Machine" "retired" "J") (List.mem_of_getElem? (i := 18) rfl)) (fun _ h9 => h9) rfl dX6_counted_110 ?_
  exact K _ _ _ _ _ _ dX6_counted_113 (Option.some.inj h).symm hP hD hS
set_option maxHeartbeats 40000000 in
set_option maxRecDepth 100000 in
theorem dm_X6_counted (l : Launch) (hlt : l.stackTraces = false) (dC : Nat → ClassId) (dI : Nat → Nat → Nat) (a : Nat → Nat) (ac : Nat → ClassId) (n : Nat) (v0 : Int32) (s0 : St × (St)) {r : Int64 × (St × (St))} (h : df_X6_counted n v0 s0 = some r) (sz : Nat) : Met l yX6_counted ow_dm_X6_counted ({ frames := 2, cells := 0, slots := 0, locals := 44 }) (va_Pc [.ref (a 0), .int v0] (fun U => U.heap.size = sz ∧ va_P (dC, dI) vwCl (dw_X6 a ac s0) U.heap ∧ va_K (dC, dI) vwCl (dk_X6 ac) U ∧ va_D (fun _ => True) (dw_X6 a ac s0) ∧ nv_E dI (va_A (dw_X6 a ac s0) sz) U)) (va_Ql (fun x _ => x = r.1) (fun (_ : Unit) t => va_P (dC, dI) vwCl (dw_X6 a ac r.2) t.heap ∧ va_K (dC, dI) vwCl (dk_X6 ac) t ∧ va_D (va_A (dw_X6 a ac s0) sz) (dw_X6 a ac r.2)) (va_A (dw_X6 a ac s0) sz)) 0 0 (va_A (dw_X6 a ac s0) sz) := by
  refine Met.ofW (cc := cX6_counted) (maxL := 2) (ret := (some .long)) (by decide) rfl ?_
  intro p e s m args below meth c s₁ B hml hv
  obtain ⟨rfl, hsz, hP, hK, hD0, hN⟩ := hv
  have hx := B.exec
  have hb := B.bytes
  have hr := B.returns
  have hts := atoms_spec (ws := ow_dm_X6_counted) B.pre
  have hown : s.vm.findClass RX6 = some m.cls := findClass_of_methodNamed B.named
  have hlocks := B.notSynchronized
  subst hsz
  have hD := hD0.self (sz := s.heap.size)
  generalize hAe : va_A (dw_X6 a ac s0) s.heap.size = A at hD hN ⊢
  have hA : ∀ q : Nat, s.heap.size ≤ q → A q := fun q h => by rw [← hAe]; exact Or.inr h
  have hl := lv_entry ([.ref (a 0), .int v0]) (n := 2) (Nat.le_of_ble_eq_true rfl)
  rw [lg_entry_eq]
  generalize (lg_sl ([.ref (a 0), .int v0]) ++ List.replicate (2 - (lg_sl ([.ref (a 0), .int v0])).length) Slot.unset).toArray = ls at hl ⊢
  have hl : lv_has ls 2 [(0, .ref (a 0)), (1, .int v0)] := hl
  exact db_X6_counted_0 (dC := dC) (dI := dI) (a := a) (ac := ac) (n := n) (r := r) ⟨hlt, hx, hb, hml, hown, hts, hN, hA, hK⟩ (fun pc v τ H locs ls d er hP hD hS => by subst er; exact W.lret (v := v) hx hb hr (fun t ht hW => ⟨⟨v, (), rfl, rfl, by rw [ht]; exact hP, va_K.moved hW.alike hK, hD⟩, hS.F ht⟩) hS.2.2 d) v0 s0 _ _ _ h hP hD va_S.rf (lv_sub hl [0, 1] rfl)

