set_option maxHeartbeats 40000000 in
set_option maxRecDepth 100000 in
theorem dB_X13_near_20 {p : Program} {l : Launch} {e : Env} {s : State} {m : MethodId} {args : Array Value} {below : List Frame} {meth : Method} {c : Code} {Q : State → Prop} {A : Nat → Prop} {dC : Nat → ClassId} {dI : Nat → Nat → Nat} {a : Nat → Nat} {ac : Nat → ClassId} {n : Nat} {r : Int32 × (St)} (C : nd_C p l s m args c A (dC, dI) cX13_near 7 RX13 ow_dm_X13_near (dk_X13 ac)) (K : nd_Ki p l e (headSpec ow_dm_X13_near ({ frames := 2, cells := 0, slots := 0, locals := 42 })).room s m args below meth c Q A (dC, dI) cX13_near .int (St) (dw_X13 a ac) r) {g20 : Int32 → Int32 → Int32 → Int32 → Int32 → (St) → Option (Int32 × (St))} (J20 : dj_X13_near_20 p l e s m args below meth c Q A dC dI a ac g20 r) : dj_X13_near_20 p l e s m args below meth c Q A dC dI a ac (dF_X13_near_20 n g20) r := by
  obtain ⟨hlt, hx, hb, hml, hown, hts, hN, hA, hK⟩ := id C
  intro x1 x2 x3 x4 x5 s0 H locs ls h hP hD hS hl
  unfold dF_X13_near_20 at h
  refine lv_iload hx hb dX13_near_20 (lv_at hl 5 rfl) ?_
  refine lv_aload_n hx hb dX13_near_22 rfl (lv_at hl 0 rfl) ?_
  refine va_get (D := (dC, dI)) (ci := 14) (v := .int (sI s0 3)) (C := RX13) (T := TX13) (N := 37) hx hb hts hi_dm_X13_near_X13 hown hK hP 0 rfl rfl 10 (by decide) (hts (.fieldLink RX13 439 "TimeMachineModel$Assembler" "labels" "I") (List.mem_of_getElem? (i := 4) rfl)) (fun _ h9 => h9) rfl dX13_near_23 ?_
  refine lv_icmp_ge (tgt := 107) hx hb dX13_near_26 (by decide) (fun c3 => ?_) (fun c3 => ?_)
  · have h := nd_pos h c3
    refine lv_aload_n hx hb dX13_near_107 rfl (lv_at hl 0 rfl) ?_
    refine lv_aload_n hx hb dX13_near_108 rfl (lv_at hl 0 rfl) ?_
    refine va_get (D := (dC, dI)) (ci := 14) (v := .int (sI s0 21)) (C := RX13) (T := TX13) (N := 37) hx hb hts hi_dm_X13_near_X13 hown hK hP 0 rfl rfl 31 (by decide) (hts (.fieldLink RX13 457 "TimeMachineModel$Assembler" "missing" "Z") (List.mem_of_getElem? (i := 5) rfl)) (fun _ h9 => h9) rfl dX13_near_109 ?_
    refine lv_if_ne (tgt := 120) hx hb dX13_near_112 (by decide) (fun c4 => ?_) (fun c4 => ?_)
    · have h := nd_neg h c4
      exact (db_X13_near_120 C K) (x4) s0 _ _ _ h hP hD hS (lv_sub hl [0, 4] rfl)
    · have h := nd_pos h c4
      refine lv_iload hx hb dX13_near_115 (lv_at hl 4 rfl) ?_
      refine lv_if_ge (tgt := 124) hx hb dX13_near_117 (by decide) (fun c12 => ?_) (fun c12 => ?_)
      · have h := nd_pos h c12
        refine lv_iconst (v := 0) hx hb dX13_near_124 (by decide) ?_
        exact (db_X13_near_125 C K) (x4) (0) s0 _ _ _ h hP hD hS (lv_sub hl [0, 4] rfl)
      · have h := nd_neg h c12
        exact (db_X13_near_120 C K) (x4) s0 _ _ _ h hP hD hS (lv_sub hl [0, 4] rfl)
  · have h := nd_neg h c3
    refine lv_aload_n hx hb dX13_near_29 rfl (lv_at hl 0 rfl) ?_
    refine va_get (D := (dC, dI)) (ci := 14) (v := .ref (a 8)) (C := RX13) (T := TX13) (N := 37) hx hb hts hi_dm_X13_near_X13 hown hK hP 0 rfl rfl 11 (by decide) (hts (.fieldLink RX13 337 "TimeMachineModel$Assembler" "label" "[I") (List.mem_of_getElem? (i := 10) rfl)) (fun _ h9 => h9) rfl dX13_near_30 ?_
    refine lv_iload hx hb dX13_near_33 (lv_at hl 5 rfl) ?_
    obtain ⟨i13, h⟩ := nd_ck_e h
    refine va_iald (i := x5) hx hb hK hP 8 7 rfl rfl i13 dX13_near_35 ?_
    refine lv_ldcw hx hb hown (hts (.constant RX13 442 (131071)) (List.mem_of_getElem? (i := 3) rfl)) dX13_near_36 ?_
    refine lv_iand hx hb dX13_near_39 ?_
    refine lv_topi (fun z14 ez14 => ?_)
    have h := nd_at h ez14
    refine lv_istore (lv' := [(6, .int z14), (0, .ref (a 0)), (1, .int x1), (2, .int x2), (3, .int x3), (4, .int x4), (5, .int x5)]) hx hb dX13_near_40 hl (by decide) rfl (fun ls hl => ?_)
    refine lv_aload_n hx hb dX13_near_42 rfl (lv_at hl 1 rfl) ?_
    refine va_get (D := (dC, dI)) (ci := 14) (v := .ref (a 8)) (C := RX13) (T := TX13) (N := 37) hx hb hts hi_dm_X13_near_X13 hown hK hP 0 rfl rfl 11 (by decide) (hts (.fieldLink RX13 337 "TimeMachineModel$Assembler" "label" "[I") (List.mem_of_getElem? (i := 10) rfl)) (fun _ h9 => h9) rfl dX13_near_43 ?_
    refine lv_iload hx hb dX13_near_46 (lv_at hl 6 rfl) ?_
    obtain ⟨i15, h⟩ := nd_ck_e h
    refine va_iald (i := x5) hx hb hK hP 8 7 rfl rfl i15 dX13_near_48 ?_
    refine lv_bipush (v := 17) hx hb dX13_near_49 (by decide) ?_
    refine lv_ishr hx hb dX13_near_51 ?_
    refine lv_iconst (v := 3) hx hb dX13_near_52 (by decide) ?_
    refine lv_icmp_lt (tgt := 101) hx hb dX13_near_53 (by decide) (fun c16 => ?_) (fun c16 => ?_)
    · have h := nd_pos h c16
      exact (db_X13_near_101 C K J20) (x1) (x2) (x3) (x4) (x5) s0 _ _ _ h hP hD hS (lv_sub hl [1, 2, 3, 4, 5, 6] rfl)
    · have h := nd_neg h c16
      refine lv_aload_n hx hb dX13_near_56 rfl (lv_at hl 1 rfl) ?_
      refine va_get (D := (dC, dI)) (ci := 14) (v := .ref (a 4)) (C := RX13) (T := TX13) (N := 37) hx hb hts hi_dm_X13_near_X13 hown hK hP 0 rfl rfl 3 (by decide) (hts (.fieldLink RX13 324 "TimeMachineModel$Assembler" "text" "[C") (List.mem_of_getElem? (i := 11) rfl)) (fun _ h9 => h9) rfl dX13_near_57 ?_
      refine lv_iload hx hb dX13_near_60 (lv_at hl 0 rfl) ?_
      obtain ⟨i18, h⟩ := nd_ck_e h
      refine va_cald (i := z14) hx hb hK hP 4 3 rfl rfl i18 dX13_near_62 ?_
      refine lv_bipush (v := 48) hx hb dX13_near_63 (by decide) ?_
      refine lv_isub hx hb dX13_near_65 ?_
      refine lv_iload_n hx hb dX13_near_66 rfl (lv_at hl 2 rfl) ?_
      refine lv_icmp_ne (tgt := 101) hx hb dX13_near_67 (by decide) (fun c19 => ?_) (fun c19 => ?_)
      · have h := nd_neg h c19
        exact (db_X13_near_101 C K J20) (x1) (x2) (x3) (x4) (x5) s0 _ _ _ h hP hD hS (lv_sub hl [1, 2, 3, 4, 5, 6] rfl)
      · have h := nd_pos h c19
        refine lv_iload_n hx hb dX13_near_70 rfl (lv_at hl 3 rfl) ?_
        refine lv_iload hx hb dX13_near_71 (lv_at hl 0 rfl) ?_
        refine lv_iload_n hx hb dX13_near_73 rfl (lv_at hl 4 rfl) ?_
        refine lv_icmp_le (tgt := 81) hx hb dX13_near_74 (by decide) (fun c20 => ?_) (fun c20 => ?_)
        · have h := nd_pos h c20
          refine lv_iconst (v := 0) hx hb dX13_near_81 (by decide) ?_
          exact (db_X13_near_82 C K J20) (x1) (x2) (x3) (x4) (x5) (x2) (0) s0 _ _ _ h hP hD hS (lv_sub hl [1, 2, 3, 4, 5, 6] rfl)
        · have h := nd_neg h c20
          refine lv_iconst (v := 1) hx hb dX13_near_77 (by decide) ?_
          refine lv_goto (tgt := 82) hx hb dX13_near_78 (by decide) ?_
          exact (db_X13_near_82 C K J20) (x1) (x2) (x3) (x4) (x5) (x2) (1) s0 _ _ _ h hP hD hS (lv_sub hl [1, 2, 3, 4, 5, 6] rfl)
set_option maxHeartbeats 40000000 in
set_option maxRecDepth 100000 in
theorem db_X13_near_20 {p : Program} {l : Launch} {e : Env} {s : State} {m : MethodId} {args : Array Value} {below : List Frame} {meth : Method} {c : Code} {Q : State → Prop} {A : Nat → Prop} {dC : Nat → ClassId} {dI : Nat → Nat → Nat} {a : Nat → Nat} {ac : Nat → ClassId} {n : Nat} {r : Int32 × (St)} (C : nd_C p l s m args c A (dC, dI) cX13_near 7 RX13 ow_dm_X13_near (dk_X13 ac)) (K : nd_Ki p l e (headSpec ow_dm_X13_near ({ frames := 2, cells := 0, slots := 0, locals := 42 })).room s m args below meth c Q A (dC, dI) cX13_near .int (St) (dw_X13 a ac) r) (k : Nat) : dj_X13_near_20 p l e s m args below meth c Q A dC dI a ac (df_X13_near_20 n k) r := by
  induction k with
  | zero => intro x1 x2 x3 x4 x5 s0 H locs ls h; exact nomatch (show (none : Option (Int32 × (St))) = some r from h)
  | succ k ih => exact dB_X13_near_20 C K ih
set_option maxHeartbeats 40000000 in
set_option maxRecDepth 100000 in
theorem db_X13_near_0 {p : Program} {l : Launch} {e : Env} {s : State} {m : MethodId} {args : Array Value} {below : List Frame} {meth : Method} {c : Code} {Q : State → Prop} {A : Nat → Prop} {dC : Nat → ClassId} {dI : Nat → Nat → Nat} {a : Nat → Nat} {ac : Nat → ClassId} {n : Nat} {r : Int32 × (St)} (C : nd_C p l s m args c A (dC, dI) cX13_near 7 RX13 ow_dm_X13_near (dk_X13 ac)) (K : nd_Ki p l e (headSpec ow_dm_X13_near ({ frames := 2, cells := 0, slots := 0, locals := 42 })).room s m args below meth c Q A (dC, dI) cX13_near .int (St) (dw_X13 a ac) r) : dj_X13_near_0 p l e s m args below meth c Q A dC dI a ac (df_X13_near_0 n) r := by
  obtain ⟨hlt, hx, hb, hml, hown, hts, hN, hA, hK⟩ := id C
  intro v0 v1 s0 H locs ls h hP hD hS hl
  unfold df_X13_near_0 at h
  refine lv_aload_n hx hb dX13_near_0 rfl (lv_at hl 0 rfl) ?_
  refine va_get (D := (dC, dI)) (ci := 14) (v := .ref (a 5)) (C := RX13) (T := TX13) (N := 37) hx hb hts hi_dm_X13_near_X13 hown hK hP 0 rfl rfl 7 (by decide) (hts (.fieldLink RX13 328 "TimeMachineModel$Assembler" "place" "[I") (List.mem_of_getElem? (i := 1) rfl)) (fun _ h9 => h9) rfl dX13_near_1 ?_
  refine lv_aload_n hx hb dX13_near_4 rfl (lv_at hl 0 rfl) ?_
  refine va_get (D := (dC, dI)) (ci := 14) (v := .int (sI s0 16)) (C := RX13) (T := TX13) (N := 37) hx hb hts hi_dm_X13_near_X13 hown hK hP 0 rfl rfl 25 (by decide) (hts (.fieldLink RX13 454 "TimeMachineModel$Assembler" "current" "I") (List.mem_of_getElem? (i := 2) rfl)) (fun _ h9 => h9) rfl dX13_near_5 ?_
  obtain ⟨i1, h⟩ := nd_ck_e h
  refine va_iald (i := (sI s0 16)) hx hb hK hP 5 4 rfl rfl i1 dX13_near_8 ?_
  refine lv_ldcw hx hb hown (hts (.constant RX13 442 (131071)) (List.mem_of_getElem? (i := 3) rfl)) dX13_near_9 ?_
  refine lv_iand hx hb dX13_near_12 ?_
  refine lv_topi (fun z2 ez2 => ?_)
  have h := nd_at h ez2
  refine lv_istore_n (lv' := [(3, .int z2), (0, .ref (a 0)), (1, .int v0), (2, .int v1)]) hx hb dX13_near_13 rfl hl (by decide) rfl (fun ls hl => ?_)
  refine lv_iconst (v := (-1)) hx hb dX13_near_14 (by decide) ?_
  refine lv_istore (lv' := [(4, .int (-1)), (3, .int z2), (0, .ref (a 0)), (1, .int v0), (2, .int v1)]) hx hb dX13_near_15 hl (by decide) rfl (fun ls hl => ?_)
  refine lv_iconst (v := 0) hx hb dX13_near_17 (by decide) ?_
  refine lv_istore (lv' := [(5, .int 0), (4, .int (-1)), (3, .int z2), (0, .ref (a 0)), (1, .int v0), (2, .int v1)]) hx hb dX13_near_18 hl (by decide) rfl (fun ls hl => ?_)
  exact (db_X13_near_20 C K n) (v0) (v1) (z2) ((-1)) (0) s0 _ _ _ h hP hD hS (lv_sub hl [3, 4, 5, 2, 1, 0] rfl)
set_option maxHeartbeats 40000000 in
set_option maxRecDepth 100000 in
theorem dm_X13_near (l : Launch) (hlt : l.stackTraces = false) (dC : Nat → ClassId) (dI : Nat → Nat → Nat) (a : Nat → Nat) (ac : Nat → ClassId) (n : Nat) (v0 : Int32) (v1 : Int32) (s0 : St) {r : Int32 × (St)} (h : df_X13_near n v0 v1 s0 = some r) (sz : Nat) : Met l yX13_near ow_dm_X13_near ({ frames := 2, cells := 0, slots := 0, locals := 42 }) (va_Pc [.ref (a 0), .int v0, .int v1] (fun U => U.heap.size = sz ∧ va_P (dC, dI) vwCl (dw_X13 a ac s0) U.heap ∧ va_K (dC, dI) vwCl (dk_X13 ac) U ∧ va_D (fun _ => True) (dw_X13 a ac s0) ∧ nv_E dI (va_A (dw_X13 a ac s0) sz) U)) (va_Qi (fun x _ => x = r.1) (fun (_ : Unit) t => va_P (dC, dI) vwCl (dw_X13 a ac r.2) t.heap ∧ va_K (dC, dI) vwCl (dk_X13 ac) t ∧ va_D (va_A (dw_X13 a ac s0) sz) (dw_X13 a ac r.2)) (va_A (dw_X13 a ac s0) sz)) 0 0 (va_A (dw_X13 a ac s0) sz) := by
  refine Met.ofW (cc := cX13_near) (maxL := 7) (ret := (some .int)) (by decide) rfl ?_
  intro p e s m args below meth c s₁ B hml hv
  obtain ⟨rfl, hsz, hP, hK, hD0, hN⟩ := hv
  have hx := B.exec
  have hb := B.bytes
  have hr := B.returns
  have hts := atoms_spec (ws := ow_dm_X13_near) B.pre
  have hown : s.vm.findClass RX13 = some m.cls := findClass_of_methodNamed B.named
  have hlocks := B.notSynchronized
  subst hsz
  have hD := hD0.self (sz := s.heap.size)
  generalize hAe : va_A (dw_X13 a ac s0) s.heap.size = A at hD hN ⊢
  have hA : ∀ q : Nat, s.heap.size ≤ q → A q := fun q h => by rw [← hAe]; exact Or.inr h
  have hl := lv_entry ([.ref (a 0), .int v0, .int v1]) (n := 7) (Nat.le_of_ble_eq_true rfl)
  rw [lg_entry_eq]
  generalize (lg_sl ([.ref (a 0), .int v0, .int v1]) ++ List.replicate (7 - (lg_sl ([.ref (a 0), .int v0, .int v1])).length) Slot.unset).toArray = ls at hl ⊢
  have hl : lv_has ls 7 [(0, .ref (a 0)), (1, .int v0), (2, .int v1)] := hl
  exact db_X13_near_0 (dC := dC) (dI := dI) (a := a) (ac := ac) (n := n) (r := r) ⟨hlt, hx, hb, hml, hown, hts, hN, hA, hK⟩ (fun pc v τ H locs ls d z er hP hD hS => by subst er; exact W.zret (v := v) hx hb hr z (fun t ht hW => ⟨⟨v, (), rfl, rfl, by rw [ht]; exact hP, va_K.moved hW.alike hK, hD⟩, hS.F ht⟩) hS.2.2 d) v0 v1 s0 _ _ _ h hP hD va_S.rf (lv_sub hl [0, 1, 2] rfl)
def ow_dm_X13_sign : List Cond := Cond.code yX13_sign cX13_sign 2 none :: ([Cond.fieldLink RX13 344 "TimeMachineModel$Assembler" "pile" "[I", Cond.fieldLink RX13 464 "TimeMachineModel$Assembler" "signs" "I"] ++ (u_ws RX13 TX13 37 ++ []))
theorem gd_dm_X13_sign : ∀ w ∈ ow_dm_X13_sign, (w.onTables && w.keeps) = true ∨ ∃ ty, w = Cond.arrayClass ty := List.forall_mem_cons.mpr ⟨good_of_word rfl, List.forall_mem_append.mpr ⟨fun w h => good_of_word (List.all_eq_true.mp (by decide +kernel) w h), List.forall_mem_append.mpr ⟨gu_X13, fun _ h => nomatch h⟩⟩⟩
theorem hi_dm_X13_sign_X13 : ∀ w ∈ u_ws RX13 TX13 37, w ∈ ow_dm_X13_sign := fun w h => List.mem_cons_of_mem _ (List.mem_append_right _ (List.mem_append_left _ h))
def dj_X13_sign_0 (p : Program) (l : Launch) (e : Env) (s : State) (m : MethodId) (args : Array Value) (below : List Frame) (meth : Method) (c : Code) (Q : State → Prop) (A : Nat → Prop) (dC : Nat → ClassId) (dI : Nat → Nat → Nat) (a : Nat → Nat) (ac : Nat → ClassId) (g : Int32 → (St) → Option (St)) (r : St) : Prop := ∀ (v0 : Int32) (s0 : St) (H : Heap) (locs : List Loc) (ls : Array Slot), g v0 s0 = some r → va_P (dC, dI) vwCl (dw_X13 a ac s0) H → va_D A (dw_X13 a ac s0) → va_S A s.heap H locs → lv_has ls 2 [(0, .ref (a 0)), (1, .int v0)] → W p l e (headSpec ow_dm_X13_sign ({ frames := 0, cells := 0, slots := 0, locals := 0 })).room s m args below meth c H locs 0 0 Q (F0 m 0 ls [])
set_option maxHeartbeats 40000000 in
set_option maxRecDepth 100000 in
theorem db_X13_sign_0 {p : Program} {l : Launch} {e : Env} {s : State} {m : MethodId} {args : Array Value} {below : List Frame} {meth : Method} {c : Code} {Q : State → Prop} {A : Nat → Prop} {dC : Nat → ClassId} {dI : Nat → Nat → Nat} {a : Nat → Nat} {ac : Nat → ClassId} {n : Nat} {r : St} (C : nd_C p l s m args c A (dC, dI) cX13_sign 2 RX13 ow_dm_X13_sign (dk_X13 ac)) (K : nd_Kv p l e (headSpec ow_dm_X13_sign ({ frames := 0, cells := 0, slots := 0, locals := 0 })).room s m args below meth c Q A (dC, dI) cX13_sign (St) (dw_X13 a ac) r) : dj_X13_sign_0 p l e s m args below meth c Q A dC dI a ac (df_X13_sign_0 n) r := by
  obtain ⟨hlt, hx, hb, hml, hown, hts, hN, hA, hK⟩ := id C
  intro v0 s0 H locs ls h hP hD hS hl
  unfold df_X13_sign_0 at h
  refine lv_aload_n hx hb dX13_sign_0 rfl (lv_at hl 0 rfl) ?_
  refine va_get (D := (dC, dI)) (ci := 14) (v := .ref (a 10)) (C := RX13) (T := TX13) (N := 37) hx hb hts hi_dm_X13_sign_X13 hown hK hP 0 rfl rfl 34 (by decide) (hts (.fieldLink RX13 344 "TimeMachineModel$Assembler" "pile" "[I") (List.mem_of_getElem? (i := 1) rfl)) (fun _ h9 => h9) rfl dX13_sign_1 ?_
  refine lv_aload_n hx hb dX13_sign_4 rfl (lv_at hl 0 rfl) ?_
  refine va_get (D := (dC, dI)) (ci := 14) (v := .int (sI s0 24)) (C := RX13) (T := TX13) (N := 37) hx hb hts hi_dm_X13_sign_X13 hown hK hP 0 rfl rfl 35 (by decide) (hts (.fieldLink RX13 464 "TimeMachineModel$Assembler" "signs" "I") (List.mem_of_getElem? (i := 2) rfl)) (fun _ h9 => h9) rfl dX13_sign_5 ?_
  refine lv_iload_n hx hb dX13_sign_8 rfl (lv_at hl 1 rfl) ?_
  obtain ⟨i1, h⟩ := nd_ck_e h
  refine va_iast (i := (sI s0 24)) (x := v0) hx hb hK hP hD hS 10 9 rfl rfl i1 dX13_sign_9 (fun H locs hP hD hS => ?_)
  obtain ⟨s2, es2, h⟩ := nd_let_e h
  have hP : va_P (dC, dI) vwCl (dw_X13 a ac s2) H := by rw [es2]; exact hP
  have hD : va_D A (dw_X13 a ac s2) := by rw [es2]; exact hD
  refine lv_aload_n hx hb dX13_sign_10 rfl (lv_at hl 0 rfl) ?_
  refine lv_dup hx hb dX13_sign_11 rfl ?_
  refine va_get (D := (dC, dI)) (ci := 14) (v := .int (sI s2 24)) (C := RX13) (T := TX13) (N := 37) hx hb hts hi_dm_X13_sign_X13 hown hK hP 0 rfl rfl 35 (by decide) (hts (.fieldLink RX13 464 "TimeMachineModel$Assembler" "signs" "I") (List.mem_of_getElem? (i := 2) rfl)) (fun _ h9 => h9) rfl dX13_sign_12 ?_
  refine lv_iconst (v := 1) hx hb dX13_sign_15 (by decide) ?_
  refine lv_iadd hx hb dX13_sign_16 ?_
  refine va_put (D := (dC, dI)) (ci := 14) (v := .int ((sI s2 24) + 1)) (ty := .int) (C := RX13) (T := TX13) (N := 37) hx hb hts hi_dm_X13_sign_X13 tyX13 tyX13_ok nmX13 hown hK hP hD hS 0 rfl rfl 35 (by decide) (hts (.fieldLink RX13 464 "TimeMachineModel$Assembler" "signs" "I") (List.mem_of_getElem? (i := 2) rfl)) (fun _ h9 => h9) rfl (by decide +kernel) rfl rfl (Nat.le_of_ble_eq_true rfl) dX13_sign_17 (fun H locs hP hD hS => ?_)
  obtain ⟨s3, es3, h⟩ := nd_let_e h
  have hP : va_P (dC, dI) vwCl (dw_X13 a ac s3) H := by rw [es3]; exact hP
  have hD : va_D A (dw_X13 a ac s3) := by rw [es3]; exact hD
  exact K _ _ _ _ _ dX13_sign_20 (Option.some.inj h).symm hP hD hS
set_option maxHeartbeats 40000000 in
set_option maxRecDepth 100000 in
theorem dm_X13_sign (l : Launch) (hlt : l.stackTraces = false) (dC : Nat → ClassId) (dI : Nat → Nat → Nat) (a : Nat → Nat) (ac : Nat → ClassId) (n : Nat) (v0 : Int32) (s0 : St) {r : St} (h : df_X13_sign n v0 s0 = some r) (sz : Nat) : Met l yX13_sign ow_dm_X13_sign ({ frames := 0, cells := 0, slots := 0, locals := 0 }) (va_Pc [.ref (a 0), .int v0] (fun U => U.heap.size = sz ∧ va_P (dC, dI) vwCl (dw_X13 a ac s0) U.heap ∧ va_K (dC, dI) vwCl (dk_X13 ac) U ∧ va_D (fun _ => True) (dw_X13 a ac s0) ∧ nv_E dI (va_A (dw_X13 a ac s0) sz) U)) (va_Qv (fun _ => True) (fun (_ : Unit) t => va_P (dC, dI) vwCl (dw_X13 a ac r) t.heap ∧ va_K (dC, dI) vwCl (dk_X13 ac) t ∧ va_D (va_A (dw_X13 a ac s0) sz) (dw_X13 a ac r)) (va_A (dw_X13 a ac s0) sz)) 0 0 (va_A (dw_X13 a ac s0) sz) := by
  refine Met.ofW (cc := cX13_sign) (maxL := 2) (ret := none) (by decide) rfl ?_
  intro p e s m args below meth c s₁ B hml hv
  obtain ⟨rfl, hsz, hP, hK, hD0, hN⟩ := hv
  have hx := B.exec
  have hb := B.bytes
  have hr := B.returns
  have hts := atoms_spec (ws := ow_dm_X13_sign) B.pre
  have hown : s.vm.findClass RX13 = some m.cls := findClass_of_methodNamed B.named
  have hlocks := B.notSynchronized
  subst hsz
  have hD := hD0.self (sz := s.heap.size)
  generalize hAe : va_A (dw_X13 a ac s0) s.heap.size = A at hD hN ⊢
  have hA : ∀ q : Nat, s.heap.size ≤ q → A q := fun q h => by rw [← hAe]; exact Or.inr h
  have hl := lv_entry ([.ref (a 0), .int v0]) (n := 2) (Nat.le_of_ble_eq_true rfl)
  rw [lg_entry_eq]
  generalize (lg_sl ([.ref (a 0), .int v0]) ++ List.replicate (2 - (lg_sl ([.ref (a 0), .int v0])).length) Slot.unset).toArray = ls at hl ⊢
  have hl : lv_has ls 2 [(0, .ref (a 0)), (1, .int v0)] := hl
  exact db_X13_sign_0 (dC := dC) (dI := dI) (a := a) (ac := ac) (n := n) (r := r) ⟨hlt, hx, hb, hml, hown, hts, hN, hA, hK⟩ (fun pc τ H locs ls d er hP hD hS => by subst er; exact W.vret hx hb hr (fun t ht hW => ⟨⟨(), rfl, trivial, by rw [ht]; exact hP, va_K.moved hW.alike hK, hD⟩, hS.F ht⟩) hS.2.2 d) v0 s0 _ _ _ h hP hD va_S.rf (lv_sub hl [0, 1] rfl)
def ow_dm_X13_value : List Cond := Cond.code yX13_value cX13_value 2 none :: ([Cond.fieldLink RX13 467 "TimeMachineModel$Assembler" "values" "I", Cond.fieldLink RX13 344 "TimeMachineModel$Assembler" "pile" "[I"] ++ (u_ws RX13 TX13 37 ++ []))
theorem gd_dm_X13_value : ∀ w ∈ ow_dm_X13_value, (w.onTables && w.keeps) = true ∨ ∃ ty, w = Cond.arrayClass ty := List.forall_mem_cons.mpr ⟨good_of_word rfl, List.forall_mem_append.mpr ⟨fun w h => good_of_word (List.all_eq_true.mp (by decide +kernel) w h), List.forall_mem_append.mpr ⟨gu_X13, fun _ h => nomatch h⟩⟩⟩
theorem hi_dm_X13_value_X13 : ∀ w ∈ u_ws RX13 TX13 37, w ∈ ow_dm_X13_value := fun w h => List.mem_cons_of_mem _ (List.mem_append_right _ (List.mem_append_left _ h))
def dj_X13_value_0 (p : Program) (l : Launch) (e : Env) (s : State) (m : MethodId) (args : Array Value) (below : List Frame) (meth : Method) (c : Code) (Q : State → Prop) (A : Nat → Prop) (dC : Nat → ClassId) (dI : Nat → Nat → Nat) (a : Nat → Nat) (ac : Nat → ClassId) (g : Int32 → (St) → Option (St)) (r : St) : Prop := ∀ (v0 : Int32) (s0 : St) (H : Heap) (locs : List Loc) (ls : Array Slot), g v0 s0 = some r → va_P (dC, dI) vwCl (dw_X13 a ac s0) H → va_D A (dw_X13 a ac s0) → va_S A s.heap H locs → lv_has ls 2 [(0, .ref (a 0)), (1, .int v0)] → W p l e (headSpec ow_dm_X13_value ({ frames := 0, cells := 0, slots := 0, locals := 0 })).room s m args below meth c H locs 0 0 Q (F0 m 0 ls [])
set_option maxHeartbeats 40000000 in
set_option maxRecDepth 100000 in
theorem db_X13_value_0 {p : Program} {l : Launch} {e : Env} {s : State} {m : MethodId} {args : Array Value} {below : List Frame} {meth : Method} {c : Code} {Q : State → Prop} {A : Nat → Prop} {dC : Nat → ClassId} {dI : Nat → Nat → Nat} {a : Nat → Nat} {ac : Nat → ClassId} {n : Nat} {r : St} (C : nd_C p l s m args c A (dC, dI) cX13_value 2 RX13 ow_dm_X13_value (dk_X13 ac)) (K : nd_Kv p l e (headSpec ow_dm_X13_value ({ frames := 0, cells := 0, slots := 0, locals := 0 })).room s m args below meth c Q A (dC, dI) cX13_value (St) (dw_X13 a ac) r) : dj_X13_value_0 p l e s m args below meth c Q A dC dI a ac (df_X13_value_0 n) r := by
  obtain ⟨hlt, hx, hb, hml, hown, hts, hN, hA, hK⟩ := id C
  intro v0 s0 H locs ls h hP hD hS hl
  unfold df_X13_value_0 at h
  refine lv_aload_n hx hb dX13_value_0 rfl (lv_at hl 0 rfl) ?_
  refine lv_dup hx hb dX13_value_1 rfl ?_
  refine va_get (D := (dC, dI)) (ci := 14) (v := .int (sI s0 25)) (C := RX13) (T := TX13) (N := 37) hx hb hts hi_dm_X13_value_X13 hown hK hP 0 rfl rfl 36 (by decide) (hts (.fieldLink RX13 467 "TimeMachineModel$Assembler" "values" "I") (List.mem_of_getElem? (i := 1) rfl)) (fun _ h9 => h9) rfl dX13_value_2 ?_
  refine lv_iconst (v := 1) hx hb dX13_value_5 (by decide) ?_
  refine lv_isub hx hb dX13_value_6 ?_
  refine va_put (D := (dC, dI)) (ci := 14) (v := .int ((sI s0 25) - 1)) (ty := .int) (C := RX13) (T := TX13) (N := 37) hx hb hts hi_dm_X13_value_X13 tyX13 tyX13_ok nmX13 hown hK hP hD hS 0 rfl rfl 36 (by decide) (hts (.fieldLink RX13 467 "TimeMachineModel$Assembler" "values" "I") (List.mem_of_getElem? (i := 1) rfl)) (fun _ h9 => h9) rfl (by decide +kernel) rfl rfl (Nat.le_of_ble_eq_true rfl) dX13_value_7 (fun H locs hP hD hS => ?_)
  obtain ⟨s1, es1, h⟩ := nd_let_e h
  have hP : va_P (dC, dI) vwCl (dw_X13 a ac s1) H := by rw [es1]; exact hP
  have hD : va_D A (dw_X13 a ac s1) := by rw [es1]; exact hD
  refine lv_aload_n hx hb dX13_value_10 rfl (lv_at hl 0 rfl) ?_
  refine va_get (D := (dC, dI)) (ci := 14) (v := .ref (a 10)) (C := RX13) (T := TX13) (N := 37) hx hb hts hi_dm_X13_value_X13 hown hK hP 0 rfl rfl 34 (by decide) (hts (.fieldLink RX13 344 "TimeMachineModel$Assembler" "pile" "[I") (List.mem_of_getElem? (i := 2) rfl)) (fun _ h9 => h9) rfl dX13_value_11 ?_
  refine lv_aload_n hx hb dX13_value_14 rfl (lv_at hl 0 rfl) ?_
  refine va_get (D := (dC, dI)) (ci := 14) (v := .int (sI s1 25)) (C := RX13) (T := TX13) (N := 37) hx hb hts hi_dm_X13_value_X13 hown hK hP 0 rfl rfl 36 (by decide) (hts (.fieldLink RX13 467 "TimeMachineModel$Assembler" "values" "I") (List.mem_of_getElem? (i := 1) rfl)) (fun _ h9 => h9) rfl dX13_value_15 ?_
  refine lv_iload_n hx hb dX13_value_18 rfl (lv_at hl 1 rfl) ?_
  obtain ⟨i2, h⟩ := nd_ck_e h
  refine va_iast (i := (sI s1 25)) (x := v0) hx hb hK hP hD hS 10 9 rfl rfl i2 dX13_value_19 (fun H locs hP hD hS => ?_)
  obtain ⟨s3, es3, h⟩ := nd_let_e h
  have hP : va_P (dC, dI) vwCl (dw_X13 a ac s3) H := by rw [es3]; exact hP
  have hD : va_D A (dw_X13 a ac s3) := by rw [es3]; exact hD
  exact K _ _ _ _ _ dX13_value_20 (Option.some.inj h).symm hP hD hS
set_option maxHeartbeats 40000000 in
set_option maxRecDepth 100000 in
theorem dm_X13_value (l : Launch) (hlt : l.stackTraces = false) (dC : Nat → ClassId) (dI : Nat → Nat → Nat) (a : Nat → Nat) (ac : Nat → ClassId) (n : Nat) (v0 : Int32) (s0 : St) {r : St} (h : df_X13_value n v0 s0 = some r) (sz : Nat) : Met l yX13_value ow_dm_X13_value ({ frames := 0, cells := 0, slots := 0, locals := 0 }) (va_Pc [.ref (a 0), .int v0] (fun U => U.heap.size = sz ∧ va_P (dC, dI) vwCl (dw_X13 a ac s0) U.heap ∧ va_K (dC, dI) vwCl (dk_X13 ac) U ∧ va_D (fun _ => True) (dw_X13 a ac s0) ∧ nv_E dI (va_A (dw_X13 a ac s0) sz) U)) (va_Qv (fun _ => True) (fun (_ : Unit) t => va_P (dC, dI) vwCl (dw_X13 a ac r) t.heap ∧ va_K (dC, dI) vwCl (dk_X13 ac) t ∧ va_D (va_A (dw_X13 a ac s0) sz) (dw_X13 a ac r)) (va_A (dw_X13 a ac s0) sz)) 0 0 (va_A (dw_X13 a ac s0) sz) := by
  refine Met.ofW (cc := cX13_value) (maxL := 2) (ret := none) (by decide) rfl ?_
  intro p e s m args below meth c s₁ B hml hv
  obtain ⟨rfl, hsz, hP, hK, hD0, hN⟩ := hv
  have hx := B.exec
  have hb := B.bytes
  have hr := B.returns
  have hts := atoms_spec (ws := ow_dm_X13_value) B.pre
  have hown : s.vm.findClass RX13 = some m.cls := findClass_of_methodNamed B.named
  have hlocks := B.notSynchronized
  subst hsz
  have hD := hD0.self (sz := s.heap.size)
  generalize hAe : va_A (dw_X13 a ac s0) s.heap.size = A at hD hN ⊢
  have hA : ∀ q : Nat, s.heap.size ≤ q → A q := fun q h => by rw [← hAe]; exact Or.inr h
  have hl := lv_entry ([.ref (a 0), .int v0]) (n := 2) (Nat.le_of_ble_eq_true rfl)
  rw [lg_entry_eq]
  generalize (lg_sl ([.ref (a 0), .int v0]) ++ List.replicate (2 - (lg_sl ([.ref (a 0), .int v0])).length) Slot.unset).toArray = ls at hl ⊢
  have hl : lv_has ls 2 [(0, .ref (a 0)), (1, .int v0)] := hl
  exact db_X13_value_0 (dC := dC) (dI := dI) (a := a) (ac := ac) (n := n) (r := r) ⟨hlt, hx, hb, hml, hown, hts, hN, hA, hK⟩ (fun pc τ H locs ls d er hP hD hS => by subst er; exact W.vret hx hb hr (fun t ht hW => ⟨⟨(), rfl, trivial, by rw [ht]; exact hP, va_K.moved hW.alike hK, hD⟩, hS.F ht⟩) hS.2.2 d) v0 s0 _ _ _ h hP hD va_S.rf (lv_sub hl [0, 1] rfl)
def ow_dm_X13_rank : List Cond := Cond.code yX13_rank cX13_rank 1 (some .int) :: ([] ++ [])
theorem gd_dm_X13_rank : ∀ w ∈ ow_dm_X13_rank, (w.onTables && w.keeps) = true ∨ ∃ ty, w = Cond.arrayClass ty := List.forall_mem_cons.mpr ⟨good_of_word rfl, List.forall_mem_append.mpr ⟨fun w h => good_of_word (List.all_eq_true.mp (by decide +kernel) w h), fun _ h => nomatch h⟩⟩
def dj_X13_rank_86 (p : Program) (l : Launch) (e : Env) (s : State) (m : MethodId) (args : Array Value) (below : List Frame) (meth : Method) (c : Code) (Q : State → Prop) (A : Nat → Prop) (dC : Nat → ClassId) (dI : Nat → Nat → Nat) (a : Nat → Nat) (ac : Nat → ClassId) (g : Int32 → (Unit) → Option (Int32 × (Unit))) (r : Int32 × (Unit)) : Prop := ∀ (y0 : Int32) (s0 : Unit) (H : Heap) (locs : List Loc) (ls : Array Slot), g y0 s0 = some r → va_P (dC, dI) vwCl (dw_P a ac s0) H → va_D A (dw_P a ac s0) → va_S A s.heap H locs → lv_has ls 1 [] → W p l e (headSpec ow_dm_X13_rank ({ frames := 0, cells := 0, slots := 0, locals := 0 })).room s m args below meth c H locs 0 0 Q (F0 m 86 ls [.int y0])
def dj_X13_rank_18 (p : Program) (l : Launch) (e : Env) (s : State) (m : MethodId) (args : Array Value) (below : List Frame) (meth : Method) (c : Code) (Q : State → Prop) (A : Nat → Prop) (dC : Nat → ClassId) (dI : Nat → Nat → Nat) (a : Nat → Nat) (ac : Nat → ClassId) (g : (Unit) → Option (Int32 × (Unit))) (r : Int32 × (Unit)) : Prop := ∀ (s0 : Unit) (H : Heap) (locs : List Loc) (ls : Array Slot), g s0 = some r → va_P (dC, dI) vwCl (dw_P a ac s0) H → va_D A (dw_P a ac s0) → va_S A s.heap H locs → lv_has ls 1 [] → W p l e (headSpec ow_dm_X13_rank ({ frames := 0, cells := 0, slots := 0, locals := 0 })).room s m args below meth c H locs 0 0 Q (F0 m 18 ls [])
def dj_X13_rank_35 (p : Program) (l : Launch) (e : Env) (s : State) (m : MethodId) (args : Array Value) (below : List Frame) (meth : Method) (c : Code) (Q : State → Prop) (A : Nat → Prop) (dC : Nat → ClassId) (dI : Nat → Nat → Nat) (a : Nat → Nat) (ac : Nat → ClassId) (g : (Unit) → Option (Int32 × (Unit))) (r : Int32 × (Unit)) : Prop := ∀ (s0 : Unit) (H : Heap) (locs : List Loc) (ls : Array Slot), g s0 = some r → va_P (dC, dI) vwCl (dw_P a ac s0) H → va_D A (dw_P a ac s0) → va_S A s.heap H locs → lv_has ls 1 [] → W p l e (headSpec ow_dm_X13_rank ({ frames := 0, cells := 0, slots := 0, locals := 0 })).room s m args below meth c H locs 0 0 Q (F0 m 35 ls [])
def dj_X13_rank_51 (p : Program) (l : Launch) (e : Env) (s : State) (m : MethodId) (args : Array Value) (below : List Frame) (meth : Method) (c : Code) (Q : State → Prop) (A : Nat → Prop) (dC : Nat → ClassId) (dI : Nat → Nat → Nat) (a : Nat → Nat) (ac : Nat → ClassId) (g : (Unit) → Option (Int32 × (Unit))) (r : Int32 × (Unit)) : Prop := ∀ (s0 : Unit) (H : Heap) (locs : List Loc) (ls : Array Slot), g s0 = some r → va_P (dC, dI) vwCl (dw_P a ac s0) H → va_D A (dw_P a ac s0) → va_S A s.heap H locs → lv_has ls 1 [] → W p l e (headSpec ow_dm_X13_rank ({ frames := 0, cells := 0, slots := 0, locals := 0 })).room s m args below meth c H locs 0 0 Q (F0 m 51 ls [])
def dj_X13_rank_0 (p : Program) (l : Launch) (e : Env) (s : State) (m : MethodId) (args : Array Value) (below : List Frame) (meth : Method) (c : Code) (Q : State → Prop) (A : Nat → Prop) (dC : Nat → ClassId) (dI : Nat → Nat → Nat) (a : Nat → Nat) (ac : Nat → ClassId) (g : Int32 → (Unit) → Option (Int32 × (Unit))) (r : Int32 × (Unit)) : Prop := ∀ (v0 : Int32) (s0 : Unit) (H : Heap) (locs : List Loc) (ls : Array Slot), g v0 s0 = some r → va_P (dC, dI) vwCl (dw_P a ac s0) H → va_D A (dw_P a ac s0) → va_S A s.heap H locs → lv_has ls 1 [(0, .int v0)] → W p l e (headSpec ow_dm_X13_rank ({ frames := 0, cells := 0, slots := 0, locals := 0 })).room s m args below meth c H locs 0 0 Q (F0 m 0 ls [])
set_option maxHeartbeats 40000000 in
set_option maxRecDepth 100000 in
theorem db_X13_rank_86 {p : Program} {l : Launch} {e : Env} {s : State} {m : MethodId} {args : Array Value} {below : List Frame} {meth : Method} {c : Code} {Q : State → Prop} {A : Nat → Prop} {dC : Nat → ClassId} {dI : Nat → Nat → Nat} {a : Nat → Nat} {ac : Nat → ClassId} {n : Nat} {r : Int32 × (Unit)} (C : nd_C p l s m args c A (dC, dI) cX13_rank 1 RX13 ow_dm_X13_rank (dk_P ac)) (K : nd_Ki p l e (headSpec ow_dm_X13_rank ({ frames := 0, cells := 0, slots := 0, locals := 0 })).room s m args below meth c Q A (dC, dI) cX13_rank .int (Unit) (dw_P a ac) r) : dj_X13_rank_86 p l e s m args below meth c Q A dC dI a ac (df_X13_rank_86 n) r := by
  obtain ⟨hlt, hx, hb, hml, hown, hts, hN, hA, hK⟩ := id C
  intro y0 s0 H locs ls h hP hD hS hl
  unfold df_X13_rank_86 at h
  exact K _ _ _ _ _ _ dX13_rank_86 rfl (Option.some.inj h).symm hP hD hS
set_option maxHeartbeats 40000000 in
set_option maxRecDepth 100000 in
theorem db_X13_rank_18 {p : Program} {l : Launch} {e : Env} {s : State} {m : MethodId} {args : Array Value} {below : List Frame} {meth : Method} {c : Code} {Q : State → Prop} {A : Nat → Prop} {dC : Nat → ClassId} {dI : Nat → Nat → Nat} {a : Nat → Nat} {ac : Nat → ClassId} {n : Nat} {r : Int32 × (Unit)} (C : nd_C p l s m args c A (dC, dI) cX13_rank 1 RX13 ow_dm_X13_rank (dk_P ac)) (K : nd_Ki p l e (headSpec ow_dm_X13_rank ({ frames := 0, cells := 0, slots := 0, locals := 0 })).room s m args below meth c Q A (dC, dI) cX13_rank .int (Unit) (dw_P a ac) r) : dj_X13_rank_18 p l e s m args below meth c Q A dC dI a ac (df_X13_rank_18 n) r := by
  obtain ⟨hlt, hx, hb, hml, hown, hts, hN, hA, hK⟩ := id C
  intro s0 H locs ls h hP hD hS hl
  unfold df_X13_rank_18 at h
  refine lv_bipush (v := 6) hx hb dX13_rank_18 (by decide) ?_
  refine lv_goto (tgt := 86) hx hb dX13_rank_20 (by decide) ?_
  exact (db_X13_rank_86 C K) (6) s0 _ _ _ h hP hD hS (lv_sub hl [] rfl)
set_option maxHeartbeats 40000000 in
set_option maxRecDepth 100000 in
theorem db_X13_rank_35 {p : Program} {l : Launch} {e : Env} {s : State} {m : MethodId} {args : Array Value} {below : List Frame} {meth : Method} {c : Code} {Q : State → Prop} {A : Nat → Prop} {dC : Nat → ClassId} {dI : Nat → Nat → Nat} {a : Nat → Nat} {ac : Nat → ClassId} {n : Nat} {r : Int32 × (Unit)} (C : nd_C p l s m args c A (dC, dI) cX13_rank 1 RX13 ow_dm_X13_rank (dk_P ac)) (K : nd_Ki p l e (headSpec ow_dm_X13_rank ({ frames := 0, cells := 0, slots := 0, locals := 0 })).room s m args below meth c Q A (dC, dI) cX13_rank .int (Unit) (dw_P a ac) r) : dj_X13_rank_35 p l e s m args below meth c Q A dC dI a ac (df_X13_rank_35 n) r := by
  obtain ⟨hlt, hx, hb, hml, hown, hts, hN, hA, hK⟩ := id C
  intro s0 H locs ls h hP hD hS hl
  unfold df_X13_rank_35 at h
  refine lv_iconst (v := 5) hx hb dX13_rank_35 (by decide) ?_
  refine lv_goto (tgt := 86) hx hb dX13_rank_36 (by decide) ?_
  exact (db_X13_rank_86 C K) (5) s0 _ _ _ h hP hD hS (lv_sub hl [] rfl)
set_option maxHeartbeats 40000000 in
set_option maxRecDepth 100000 in
theorem db_X13_rank_51 {p : Program} {l : Launch} {e : Env} {s : State} {m : MethodId} {args : Array Value} {below : List Frame} {meth : Method} {c : Code} {Q : State → Prop} {A : Nat → Prop} {dC : Nat → ClassId} {dI : Nat → Nat → Nat} {a : Nat → Nat} {ac : Nat → ClassId} {n : Nat} {r : Int32 × (Unit)} (C : nd_C p l s m args c A (dC, dI) cX13_rank 1 RX13 ow_dm_X13_rank (dk_P ac)) (K : nd_Ki p l e (headSpec ow_dm_X13_rank ({ frames := 0, cells := 0, slots := 0, locals := 0 })).room s m args below meth c Q A (dC, dI) cX13_rank .int (Unit) (dw_P a ac) r) : dj_X13_rank_51 p l e s m args below meth c Q A dC dI a ac (df_X13_rank_51 n) r := by
  obtain ⟨hlt, hx, hb, hml, hown, hts, hN, hA, hK⟩ := id C
  intro s0 H locs ls h hP hD hS hl
  unfold df_X13_rank_51 at h
  refine lv_iconst (v := 4) hx hb dX13_rank_51 (by decide) ?_
  refine lv_goto (tgt := 86) hx hb dX13_rank_52 (by decide) ?_
  exact (db_X13_rank_86 C K) (4) s0 _ _ _ h hP hD hS (lv_sub hl [] rfl)
set_option maxHeartbeats 40000000 in
set_option maxRecDepth 100000 in
theorem db_X13_rank_0 {p : Program} {l : Launch} {e : Env} {s : State} {m : MethodId} {args : Array Value} {below : List Frame} {meth : Method} {c : Code} {Q : State → Prop} {A : Nat → Prop} {dC : Nat → ClassId} {dI : Nat → Nat → Nat} {a : Nat → Nat} {ac : Nat → ClassId} {n : Nat} {r : Int32 × (Unit)} (C : nd_C p l s m args c A (dC, dI) cX13_rank 1 RX13 ow_dm_X13_rank (dk_P ac)) (K : nd_Ki p l e (headSpec ow_dm_X13_rank ({ frames := 0, cells := 0, slots := 0, locals := 0 })).room s m args below meth c Q A (dC, dI) cX13_rank .int (Unit) (dw_P a ac) r) : dj_X13_rank_0 p l e s m args below meth c Q A dC dI a ac (df_X13_rank_0 n) r := by
  obtain ⟨hlt, hx, hb, hml, hown, hts, hN, hA, hK⟩ := id C
  intro v0 s0 H locs ls h hP hD hS hl
  unfold df_X13_rank_0 at h
  refine lv_iload_n hx hb dX13_rank_0 rfl (lv_at hl 0 rfl) ?_
  refine lv_bipush (v := 42) hx hb dX13_rank_1 (by decide) ?_
  refine lv_icmp_eq (tgt := 18) hx hb dX13_rank_3 (by decide) (fun c1 => ?_) (fun c1 => ?_)
  · have h := nd_pos h c1
    exact (db_X13_rank_18 C K)  s0 _ _ _ h hP hD hS (lv_sub hl [] rfl)
  · have h := nd_neg h c1
    refine lv_iload_n hx hb dX13_rank_6 rfl (lv_at hl 0 rfl) ?_
    refine lv_bipush (v := 47) hx hb dX13_rank_7 (by decide) ?_
    refine lv_icmp_eq (tgt := 18) hx hb dX13_rank_9 (by decide) (fun c2 => ?_) (fun c2 => ?_)
    · have h := nd_pos h c2
      exact (db_X13_rank_18 C K)  s0 _ _ _ h hP hD hS (lv_sub hl [] rfl)
    · have h := nd_neg h c2
      refine lv_iload_n hx hb dX13_rank_12 rfl (lv_at hl 0 rfl) ?_
      refine lv_bipush (v := 37) hx hb dX13_rank_13 (by decide) ?_
      refine lv_icmp_ne (tgt := 23) hx hb dX13_rank_15 (by decide) (fun c3 => ?_) (fun c3 => ?_)
      · have h := nd_neg h c3
        refine lv_iload_n hx hb dX13_rank_23 rfl (lv_at hl 0 rfl) ?_
        refine lv_bipush (v := 43) hx hb dX13_rank_24 (by decide) ?_
        refine lv_icmp_eq (tgt := 35) hx hb dX13_rank_26 (by decide) (fun c4 => ?_) (fun c4 => ?_)
        · have h := nd_pos h c4
          exact (db_X13_rank_35 C K)  s0 _ _ _ h hP hD hS (lv_sub hl [] rfl)
        · have h := nd_neg h c4
          refine lv_iload_n hx hb dX13_rank_29 rfl (lv_at hl 0 rfl) ?_
          refine lv_bipush (v := 45) hx hb dX13_rank_30 (by decide) ?_
          refine lv_icmp_ne (tgt := 39) hx hb dX13_rank_32 (by decide) (fun c5 => ?_) (fun c5 => ?_)
          · have h := nd_neg h c5
            refine lv_iload_n hx hb dX13_rank_39 rfl (lv_at hl 0 rfl) ?_
            refine lv_bipush (v := 6) hx hb dX13_rank_40 (by decide) ?_
            refine lv_icmp_eq (tgt := 51) hx hb dX13_rank_42 (by decide) (fun c6 => ?_) (fun c6 => ?_)
            · have h := nd_pos h c6
              exact (db_X13_rank_51 C K)  s0 _ _ _ h hP hD hS (lv_sub hl [] rfl)
            · have h := nd_neg h c6
              refine lv_iload_n hx hb dX13_rank_45 rfl (lv_at hl 0 rfl) ?_
              refine lv_bipush (v := 7) hx hb dX13_rank_46 (by decide) ?_
              refine lv_icmp_ne (tgt := 55) hx hb dX13_rank_48 (by decide) (fun c7 => ?_) (fun c7 => ?_)
              · have h := nd_neg h c7
                refine lv_iload_n hx hb dX13_rank_55 rfl (lv_at hl 0 rfl) ?_
                refine lv_bipush (v := 38) hx hb dX13_rank_56 (by decide) ?_
                refine lv_icmp_ne (tgt := 65) hx hb dX13_rank_58 (by decide) (fun c8 => ?_) (fun c8 => ?_)
                · have h := nd_neg h c8
                  refine lv_iload_n hx hb dX13_rank_65 rfl (lv_at hl 0 rfl) ?_
                  refine lv_bipush (v := 94) hx hb dX13_rank_66 (by decide) ?_
                  refine lv_icmp_ne (tgt := 75) hx hb dX13_rank_68 (by decide) (fun c9 => ?_) (fun c9 => ?_)
                  · have h := nd_neg h c9
                    refine lv_iload_n hx hb dX13_rank_75 rfl (lv_at hl 0 rfl) ?_
                    refine lv_bipush (v := 124) hx hb dX13_rank_76 (by decide) ?_
                    refine lv_icmp_ne (tgt := 85) hx hb dX13_rank_78 (by decide) (fun c10 => ?_) (fun c10 => ?_)
                    · have h := nd_neg h c10
                      refine lv_iconst (v := 0) hx hb dX13_rank_85 (by decide) ?_
                      exact (db_X13_rank_86 C K) (0) s0 _ _ _ h hP hD hS (lv_sub hl [] rfl)
                    · have h := nd_pos h c10
                      refine lv_iconst (v := 1) hx hb dX13_rank_81 (by decide) ?_
                      refine lv_goto (tgt := 86) hx hb dX13_rank_82 (by decide) ?_
                      exact (db_X13_rank_86 C K) (1) s0 _ _ _ h hP hD hS (lv_sub hl [] rfl)
                  · have h := nd_pos h c9
                    refine lv_iconst (v := 2) hx hb dX13_rank_71 (by decide) ?_
                    refine lv_goto (tgt := 86) hx hb dX13_rank_72 (by decide) ?_
                    exact (db_X13_rank_86 C K) (2) s0 _ _ _ h hP hD hS (lv_sub hl [] rfl)
                · have h := nd_pos h c8
                  refine lv_iconst (v := 3) hx hb dX13_rank_61 (by decide) ?_
                  refine lv_goto (tgt := 86) hx hb dX13_rank_62 (by decide) ?_
                  exact (db_X13_rank_86 C K) (3) s0 _ _ _ h hP hD hS (lv_sub hl [] rfl)
              · have h := nd_pos h c7
                exact (db_X13_rank_51 C K)  s0 _ _ _ h hP hD hS (lv_sub hl [] rfl)
          · have h := nd_pos h c5
            exact (db_X13_rank_35 C K)  s0 _ _ _ h hP hD hS (lv_sub hl [] rfl)
      · have h := nd_pos h c3
        exact (db_X13_rank_18 C K)  s0 _ _ _ h hP hD hS (lv_sub hl [] rfl)
set_option maxHeartbeats 40000000 in
set_option maxRecDepth 100000 in
theorem dm_X13_rank (l : Launch) (hlt : l.stackTraces = false) (dC : Nat → ClassId) (dI : Nat → Nat → Nat) (a : Nat → Nat) (ac : Nat → ClassId) (n : Nat) (v0 : Int32) (s0 : Unit) {r : Int32 × (Unit)} (h : df_X13_rank n v0 s0 = some r) (sz : Nat) : Met l yX13_rank ow_dm_X13_rank ({ frames := 0, cells := 0, slots := 0, locals := 0 }) (va_Pc [.int v0] (fun U => U.heap.size = sz ∧ va_P (dC, dI) vwCl (dw_P a ac s0) U.heap ∧ va_K (dC, dI) vwCl (dk_P ac) U ∧ va_D (fun _ => True) (dw_P a ac s0) ∧ nv_E dI (va_A (dw_P a ac s0) sz) U)) (va_Qi (fun x _ => x = r.1) (fun (_ : Unit) t => va_P (dC, dI) vwCl (dw_P a ac r.2) t.heap ∧ va_K (dC, dI) vwCl (dk_P ac) t ∧ va_D (va_A (dw_P a ac s0) sz) (dw_P a ac r.2)) (va_A (dw_P a ac s0) sz)) 0 0 (va_A (dw_P a ac s0) sz) := by
  refine Met.ofW (cc := cX13_rank) (maxL := 1) (ret := (some .int)) (by decide) rfl ?_
  intro p e s m args below meth c s₁ B hml hv
  obtain ⟨rfl, hsz, hP, hK, hD0, hN⟩ := hv
  have hx := B.exec
  have hb := B.bytes
  have hr := B.returns
  have hts := atoms_spec (ws := ow_dm_X13_rank) B.pre
  have hown : s.vm.findClass RX13 = some m.cls := findClass_of_methodNamed B.named
  have hlocks := B.notSynchronized
  subst hsz
  have hD := hD0.self (sz := s.heap.size)
  generalize hAe : va_A (dw_P a ac s0) s.heap.size = A at hD hN ⊢
  have hA : ∀ q : Nat, s.heap.size ≤ q → A q := fun q h => by rw [← hAe]; exact Or.inr h
  have hl := lv_entry ([.int v0]) (n := 1) (Nat.le_of_ble_eq_true rfl)
  rw [lg_entry_eq]
  generalize (lg_sl ([.int v0]) ++ List.replicate (1 - (lg_sl ([.int v0])).length) Slot.unset).toArray = ls at hl ⊢
  have hl : lv_has ls 1 [(0, .int v0)] := hl
  exact db_X13_rank_0 (dC := dC) (dI := dI) (a := a) (ac := ac) (n := n) (r := r) ⟨hlt, hx, hb, hml, hown, hts, hN, hA, hK⟩ (fun pc v τ H locs ls d z er hP hD hS => by subst er; exact W.zret (v := v) hx hb hr z (fun t ht hW => ⟨⟨v, (), rfl, rfl, by rw [ht]; exact hP, va_K.moved hW.alike hK, hD⟩, hS.F ht⟩) hS.2.2 d) v0 s0 _ _ _ h hP hD va_S.rf (lv_sub hl [0] rfl)
def ow_dm_X13_worked : List Cond := Cond.code yX13_worked cX13_worked 4 (some .int) :: ([Cond.fieldLink RX13 470 "TimeMachineModel$Assembler" "divided" "Z"] ++ (u_ws RX13 TX13 37 ++ []))
theorem gd_dm_X13_worked : ∀ w ∈ ow_dm_X13_worked, (w.onTables && w.keeps) = true ∨ ∃ ty, w = Cond.arrayClass ty := List.forall_mem_cons.mpr ⟨good_of_word rfl, List.forall_mem_append.mpr ⟨fun w h => good_of_word (List.all_eq_true.mp (by decide +kernel) w h), List.forall_mem_append.mpr ⟨gu_X13, fun _ h => nomatch h⟩⟩⟩
theorem hi_dm_X13_worked_X13 : ∀ w ∈ u_ws RX13 TX13 37, w ∈ ow_dm_X13_worked := fun w h => List.mem_cons_of_mem _ (List.mem_append_right _ (List.mem_append_left _ h))
def dj_X13_worked_157 (p : Program) (l : Launch) (e : Env) (s : State) (m : MethodId) (args : Array Value) (below : List Frame) (meth : Method) (c : Code) (Q : State → Prop) (A : Nat → Prop) (dC : Nat → ClassId) (dI : Nat → Nat → Nat) (a : Nat → Nat) (ac : Nat → ClassId) (g : Int32 → (St) → Option (Int32 × (St))) (r : Int32 × (St)) : Prop := ∀ (y0 : Int32) (s0 : St) (H : Heap) (locs : List Loc) (ls : Array Slot), g y0 s0 = some r → va_P (dC, dI) vwCl (dw_X13 a ac s0) H → va_D A (dw_X13 a ac s0) → va_S A s.heap H locs → lv_has ls 4 [] → W p l e (headSpec ow_dm_X13_worked ({ frames := 0, cells := 0, slots := 0, locals := 0 })).room s m args below meth c H locs 0 0 Q (F0 m 157 ls [.int y0])
def dj_X13_worked_131 (p : Program) (l : Launch) (e : Env) (s : State) (m : MethodId) (args : Array Value) (below : List Frame) (meth : Method) (c : Code) (Q : State → Prop) (A : Nat → Prop) (dC : Nat → ClassId) (dI : Nat → Nat → Nat) (a : Nat → Nat) (ac : Nat → ClassId) (g : Int32 → Int32 → Int32 → Int32 → (St) → Option (Int32 × (St))) (r : Int32 × (St)) : Prop := ∀ (x1 : Int32) (x2 : Int32) (x3 : Int32) (y1 : Int32) (s0 : St) (H : Heap) (locs : List Loc) (ls : Array Slot), g x1 x2 x3 y1 s0 = some r → va_P (dC, dI) vwCl (dw_X13 a ac s0) H → va_D A (dw_X13 a ac s0) → va_S A s.heap H locs → lv_has ls 4 [(1, .int x1), (2, .int x2), (3, .int x3)] → W p l e (headSpec ow_dm_X13_worked ({ frames := 0, cells := 0, slots := 0, locals := 0 })).room s m args below meth c H locs 0 0 Q (F0 m 131 ls [.int y1, .ref (a 0)])
def dj_X13_worked_126 (p : Program) (l : Launch) (e : Env) (s : State) (m : MethodId) (args : Array Value) (below : List Frame) (meth : Method) (c : Code) (Q : State → Prop) (A : Nat → Prop) (dC : Nat → ClassId) (dI : Nat → Nat → Nat) (a : Nat → Nat) (ac : Nat → ClassId) (g : Int32 → Int32 → Int32 → (St) → Option (Int32 × (St))) (r : Int32 × (St)) : Prop := ∀ (x1 : Int32) (x2 : Int32) (x3 : Int32) (s0 : St) (H : Heap) (locs : List Loc) (ls : Array Slot), g x1 x2 x3 s0 = some r → va_P (dC, dI) vwCl (dw_X13 a ac s0) H → va_D A (dw_X13 a ac s0) → va_S A s.heap H locs → lv_has ls 4 [(1, .int x1), (2, .int x2), (3, .int x3)] → W p l e (headSpec ow_dm_X13_worked ({ frames := 0, cells := 0, slots := 0, locals := 0 })).room s m args below meth c H locs 0 0 Q (F0 m 126 ls [.ref (a 0)])
def dj_X13_worked_0 (p : Program) (l : Launch) (e : Env) (s : State) (m : MethodId) (args : Array Value) (below : List Frame) (meth : Method) (c : Code) (Q : State → Prop) (A : Nat → Prop) (dC : Nat → ClassId) (dI : Nat → Nat → Nat) (a : Nat → Nat) (ac : Nat → ClassId) (g : Int32 → Int32 → Int32 → (St) → Option (Int32 × (St))) (r : Int32 × (St)) : Prop := ∀ (v0 : Int32) (v1 : Int32) (v2 : Int32) (s0 : St) (H : Heap) (locs : List Loc) (ls : Array Slot), g v0 v1 v2 s0 = some r → va_P (dC, dI) vwCl (dw_X13 a ac s0) H → va_D A (dw_X13 a ac s0) → va_S A s.heap H locs → lv_has ls 4 [(0, .ref (a 0)), (1, .int v0), (2, .int v1), (3, .int v2)] → W p l e (headSpec ow_dm_X13_worked ({ frames := 0, cells := 0, slots := 0, locals := 0 })).room s m args below meth c H locs 0 0 Q (F0 m 0 ls [])
set_option maxHeartbeats 40000000 in
set_option maxRecDepth 100000 in
theorem db_X13_worked_157 {p : Program} {l : Launch} {e : Env} {s : State} {m : MethodId} {args : Array Value} {below : List Frame} {meth : Method} {c : Code} {Q : State → Prop} {A : Nat → Prop} {dC : Nat → ClassId} {dI : Nat → Nat → Nat} {a : Nat → Nat} {ac : Nat → ClassId} {n : Nat} {r : Int32 × (St)} (C : nd_C p l s m args c A (dC, dI) cX13_worked 4 RX13 ow_dm_X13_worked (dk_X13 ac)) (K : nd_Ki p l e (headSpec ow_dm_X13_worked ({ frames := 0, cells := 0, slots := 0, locals := 0 })).room s m args below meth c Q A (dC, dI) cX13_worked .int (St) (dw_X13 a ac) r) : dj_X13_worked_157 p l e s m args below meth c Q A dC dI a ac (df_X13_worked_157 n) r := by
  obtain ⟨hlt, hx, hb, hml, hown, hts, hN, hA, hK⟩ := id C
  intro y0 s0 H locs ls h hP hD hS hl
  unfold df_X13_worked_157 at h
  exact K _ _ _ _ _ _ dX13_worked_157 rfl (Option.some.inj h).symm hP hD hS
set_option maxHeartbeats 40000000 in
set_option maxRecDepth 100000 in
theorem db_X13_worked_131 {p : Program} {l : Launch} {e : Env} {s : State} {m : MethodId} {args : Array Value} {below : List Frame} {meth : Method} {c : Code} {Q : State → Prop} {A : Nat → Prop} {dC : Nat → ClassId} {dI : Nat → Nat → Nat} {a : Nat → Nat} {ac : Nat → ClassId} {n : Nat} {r : Int32 × (St)} (C : nd_C p l s m args c A (dC, dI) cX13_worked 4 RX13 ow_dm_X13_worked (dk_X13 ac)) (K : nd_Ki p l e (headSpec ow_dm_X13_worked ({ frames := 0, cells := 0, slots := 0, locals := 0 })).room s m args below meth c Q A (dC, dI) cX13_worked .int (St) (dw_X13 a ac) r) : dj_X13_worked_131 p l e s m args below meth c Q A dC dI a ac (df_X13_worked_131 n) r := by
  obtain ⟨hlt, hx, hb, hml, hown, hts, hN, hA, hK⟩ := id C
  intro x1 x2 x3 y1 s0 H locs ls h hP hD hS hl
  unfold df_X13_worked_131 at h
  obtain ⟨n10, h⟩ := nd_f_e h
  obtain ⟨n11, h⟩ := nd_z_e ⟨_, rfl⟩ h
  refine va_put (D := (dC, dI)) (ci := 14) (v := .int y1) (ty := .boolean) (C := RX13) (T := TX13) (N := 37) hx hb hts hi_dm_X13_worked_X13 tyX13 tyX13_ok nmX13 hown hK hP hD hS 0 rfl rfl 32 (by decide) (hts (.fieldLink RX13 470 "TimeMachineModel$Assembler" "divided" "Z") (List.mem_of_getElem? (i := 1) rfl)) (fun _ h9 => h9) rfl (by decide +kernel) n11 n10 (Nat.le_of_ble_eq_true rfl) dX13_worked_131 (fun H locs hP hD hS => ?_)
  obtain ⟨s12, es12, h⟩ := nd_let_e h
  have hP : va_P (dC, dI) vwCl (dw_X13 a ac s12) H := by rw [es12]; exact hP
  have hD : va_D A (dw_X13 a ac s12) := by rw [es12]; exact hD
  refine lv_iload_n hx hb dX13_worked_134 rfl (lv_at hl 2 rfl) ?_
  refine lv_if_ne (tgt := 142) hx hb dX13_worked_135 (by decide) (fun c13 => ?_) (fun c13 => ?_)
  · have h := nd_neg h c13
    refine lv_iload_n hx hb dX13_worked_142 rfl (lv_at hl 0 rfl) ?_
    refine lv_bipush (v := 47) hx hb dX13_worked_143 (by decide) ?_
    refine lv_icmp_ne (tgt := 154) hx hb dX13_worked_145 (by decide) (fun c14 => ?_) (fun c14 => ?_)
    · have h := nd_neg h c14
      refine lv_iload_n hx hb dX13_worked_154 rfl (lv_at hl 1 rfl) ?_
      refine lv_iload_n hx hb dX13_worked_155 rfl (lv_at hl 2 rfl) ?_
      obtain ⟨i15, h⟩ := nd_nz_e h
      refine lv_irem hx hb dX13_worked_156 i15 ?_
      exact (db_X13_worked_157 C K) (((x2 : Int32) - x2 / x3 * x3)) s12 _ _ _ h hP hD hS (lv_sub hl [] rfl)
    · have h := nd_pos h c14
      refine lv_iload_n hx hb dX13_worked_148 rfl (lv_at hl 1 rfl) ?_
      refine lv_iload_n hx hb dX13_worked_149 rfl (lv_at hl 2 rfl) ?_
      obtain ⟨i16, h⟩ := nd_nz_e h
      refine lv_idiv hx hb dX13_worked_150 i16 ?_
      refine lv_goto (tgt := 157) hx hb dX13_worked_151 (by decide) ?_
      exact (db_X13_worked_157 C K) (((x2 : Int32) / x3)) s12 _ _ _ h hP hD hS (lv_sub hl [] rfl)
  · have h := nd_pos h c13
    refine lv_iconst (v := 0) hx hb dX13_worked_138 (by decide) ?_
    refine lv_goto (tgt := 157) hx hb dX13_worked_139 (by decide) ?_
    exact (db_X13_worked_157 C K) (0) s12 _ _ _ h hP hD hS (lv_sub hl [] rfl)
set_option maxHeartbeats 40000000 in
set_option maxRecDepth 100000 in
theorem db_X13_worked_126 {p : Program} {l : Launch} {e : Env} {s : State} {m : MethodId} {args : Array Value} {below : List Frame} {meth : Method} {c : Code} {Q : State → Prop} {A : Nat → Prop} {dC : Nat → ClassId} {dI : Nat → Nat → Nat} {a : Nat → Nat} {ac : Nat → ClassId} {n : Nat} {r : Int32 × (St)} (C : nd_C p l s m args c A (dC, dI) cX13_worked 4 RX13 ow_dm_X13_worked (dk_X13 ac)) (K : nd_Ki p l e (headSpec ow_dm_X13_worked ({ frames := 0, cells := 0, slots := 0, locals := 0 })).room s m args below meth c Q A (dC, dI) cX13_worked .int (St) (dw_X13 a ac) r) : dj_X13_worked_126 p l e s m args below meth c Q A dC dI a ac (df_X13_worked_126 n) r := by
  obtain ⟨hlt, hx, hb, hml, hown, hts, hN, hA, hK⟩ := id C
  intro x1 x2 x3 s0 H locs ls h hP hD hS hl
  unfold df_X13_worked_126 at h
  refine lv_iconst (v := 1) hx hb dX13_worked_126 (by decide) ?_
  refine lv_goto (tgt := 131) hx hb dX13_worked_127 (by decide) ?_
  exact (db_X13_worked_131 C K) (x1) (x2) (x3) (1) s0 _ _ _ h hP hD hS (lv_sub hl [0, 1, 2] rfl)
set_option maxHeartbeats 40000000 in
set_option maxRecDepth 100000 in
theorem db_X13_worked_0 {p : Program} {l : Launch} {e : Env} {s : State} {m : MethodId} {args : Array Value} {below : List Frame} {meth : Method} {c : Code} {Q : State → Prop} {A : Nat → Prop} {dC : Nat → ClassId} {dI : Nat → Nat → Nat} {a : Nat → Nat} {ac : Nat → ClassId} {n : Nat} {r : Int32 × (St)} (C : nd_C p l s m args c A (dC, dI) cX13_worked 4 RX13 ow_dm_X13_worked (dk_X13 ac)) (K : nd_Ki p l e (headSpec ow_dm_X13_worked ({ frames := 0, cells := 0, slots := 0, locals := 0 })).room s m args below meth c Q A (dC, dI) cX13_worked .int (St) (dw_X13 a ac) r) : dj_X13_worked_0 p l e s m args below meth c Q A dC dI a ac (df_X13_worked_0 n) r := by
  obtain ⟨hlt, hx, hb, hml, hown, hts, hN, hA, hK⟩ := id C
  intro v0 v1 v2 s0 H locs ls h hP hD hS hl
  unfold df_X13_worked_0 at h
  refine lv_iload_n hx hb dX13_worked_0 rfl (lv_at hl 1 rfl) ?_
  by_cases c1 : v0 = 6
  · have h := nd_pos h c1
    refine lv_lookup (off := 87) (tgt := 88) hx hb dX13_worked_1 (by decide) (by rw [c1]; decide) (by decide) ?_
    refine lv_iload_n hx hb dX13_worked_88 rfl (lv_at hl 2 rfl) ?_
    refine lv_iload_n hx hb dX13_worked_89 rfl (lv_at hl 3 rfl) ?_
    refine lv_bipush (v := 31) hx hb dX13_worked_90 (by decide) ?_
    refine lv_iand hx hb dX13_worked_92 ?_
    refine lv_ishl hx hb dX13_worked_93 ?_
    exact K _ _ _ _ _ _ dX13_worked_94 rfl (Option.some.inj h).symm hP hD hS
  have h := nd_neg h c1
  by_cases c2 : v0 = 7
  · have h := nd_pos h c2
    refine lv_lookup (off := 94) (tgt := 95) hx hb dX13_worked_1 (by decide) (by rw [c2]; decide) (by decide) ?_
    refine lv_iload_n hx hb dX13_worked_95 rfl (lv_at hl 2 rfl) ?_
    refine lv_iload_n hx hb dX13_worked_96 rfl (lv_at hl 3 rfl) ?_
    refine lv_bipush (v := 31) hx hb dX13_worked_97 (by decide) ?_
    refine lv_iand hx hb dX13_worked_99 ?_
    refine lv_ishr hx hb dX13_worked_100 ?_
    exact K _ _ _ _ _ _ dX13_worked_101 rfl (Option.some.inj h).symm hP hD hS
  have h := nd_neg h c2
  by_cases c3 : v0 = 38
  · have h := nd_pos h c3
    refine lv_lookup (off := 101) (tgt := 102) hx hb dX13_worked_1 (by decide) (by rw [c3]; decide) (by decide) ?_
    refine lv_iload_n hx hb dX13_worked_102 rfl (lv_at hl 2 rfl) ?_
    refine lv_iload_n hx hb dX13_worked_103 rfl (lv_at hl 3 rfl) ?_
    refine lv_iand hx hb dX13_worked_104 ?_
    exact K _ _ _ _ _ _ dX13_worked_105 rfl (Option.some.inj h).symm hP hD hS
  have h := nd_neg h c3
  by_cases c4 : v0 = 42
  · have h := nd_pos h c4
    refine lv_lookup (off := 75) (tgt := 76) hx hb dX13_worked_1 (by decide) (by rw [c4]; decide) (by decide) ?_
    refine lv_iload_n hx hb dX13_worked_76 rfl (lv_at hl 2 rfl) ?_
    refine lv_iload_n hx hb dX13_worked_77 rfl (lv_at hl 3 rfl) ?_
    refine lv_imul hx hb dX13_worked_78 ?_
    exact K _ _ _ _ _ _ dX13_worked_79 rfl (Option.some.inj h).symm hP hD hS
  have h := nd_neg h c4
  by_cases c5 : v0 = 43
  · have h := nd_pos h c5
    refine lv_lookup (off := 79) (tgt := 80) hx hb dX13_worked_1 (by decide) (by rw [c5]; decide) (by decide) ?_
    refine lv_iload_n hx hb dX13_worked_80 rfl (lv_at hl 2 rfl) ?_
    refine lv_iload_n hx hb dX13_worked_81 rfl (lv_at hl 3 rfl) ?_
    refine lv_iadd hx hb dX13_worked_82 ?_
    exact K _ _ _ _ _ _ dX13_worked_83 rfl (Option.some.inj h).symm hP hD hS
  have h := nd_neg h c5
  by_cases c6 : v0 = 45
  · have h := nd_pos h c6
    refine lv_lookup (off := 83) (tgt := 84) hx hb dX13_worked_1 (by decide) (by rw [c6]; decide) (by decide) ?_
    refine lv_iload_n hx hb dX13_worked_84 rfl (lv_at hl 2 rfl) ?_
    refine lv_iload_n hx hb dX13_worked_85 rfl (lv_at hl 3 rfl) ?_
    refine lv_isub hx hb dX13_worked_86 ?_
    exact K _ _ _ _ _ _ dX13_worked_87 rfl (Option.some.inj h).symm hP hD hS
  have h := nd_neg h c6
  by_cases c7 : v0 = 94
  · have h := nd_pos h c7
    refine lv_lookup (off := 105) (tgt := 106) hx hb dX13_worked_1 (by decide) (by rw [c7]; decide) (by decide) ?_
    refine lv_iload_n hx hb dX13_worked_106 rfl (lv_at hl 2 rfl) ?_
    refine lv_iload_n hx hb dX13_worked_107 rfl (lv_at hl 3 rfl) ?_
    refine lv_ixor hx hb dX13_worked_108 ?_
    exact K _ _ _ _ _ _ dX13_worked_109 rfl (Option.some.inj h).symm hP hD hS
  have h := nd_neg h c7
  by_cases c8 : v0 = 124
  · have h := nd_pos h c8
    refine lv_lookup (off := 109) (tgt := 110) hx hb dX13_worked_1 (by decide) (by rw [c8]; decide) (by decide) ?_
    refine lv_iload_n hx hb dX13_worked_110 rfl (lv_at hl 2 rfl) ?_
    refine lv_iload_n hx hb dX13_worked_111 rfl (lv_at hl 3 rfl) ?_
    refine lv_ior hx hb dX13_worked_112 ?_
    exact K _ _ _ _ _ _ dX13_worked_113 rfl (Option.some.inj h).symm hP hD hS
  have h := nd_neg h c8
  refine lv_lookup (off := 113) (tgt := 114) hx hb dX13_worked_1 (by decide) (show Op.lookupswitch.offset [(6, 87), (7, 94), (38, 101), (42, 75), (43, 79), (45, 83), (94, 105), (124, 109)] 113 (v0 : Int32).toInt = 113 by rw [lv_osw c1 (by decide), lv_osw c2 (by decide), lv_osw c3 (by decide), lv_osw c4 (by decide), lv_osw c5 (by decide), lv_osw c6 (by decide), lv_osw c7 (by decide), lv_osw c8 (by decide)] <;> rfl) (by decide) ?_
  refine lv_aload_n hx hb dX13_worked_114 rfl (lv_at hl 0 rfl) ?_
  refine lv_aload_n hx hb dX13_worked_115 rfl (lv_at hl 0 rfl) ?_
  refine va_get (D := (dC, dI)) (ci := 14) (v := .int (sI s0 22)) (C := RX13) (T := TX13) (N := 37) hx hb hts hi_dm_X13_worked_X13 hown hK hP 0 rfl rfl 32 (by decide) (hts (.fieldLink RX13 470 "TimeMachineModel$Assembler" "divided" "Z") (List.mem_of_getElem? (i := 1) rfl)) (fun _ h9 => h9) rfl dX13_worked_116 ?_
  refine lv_if_ne (tgt := 126) hx hb dX13_worked_119 (by decide) (fun c9 => ?_) (fun c9 => ?_)
  · have h := nd_neg h c9
    exact (db_X13_worked_126 C K) (v0) (v1) (v2) s0 _ _ _ h hP hD hS (lv_sub hl [1, 2, 3] rfl)
  · have h := nd_pos h c9
    refine lv_iload_n hx hb dX13_worked_122 rfl (lv_at hl 3 rfl) ?_
    refine lv_if_ne (tgt := 130) hx hb dX13_worked_123 (by decide) (fun c17 => ?_) (fun c17 => ?_)
    · have h := nd_neg h c17
      refine lv_iconst (v := 0) hx hb dX13_worked_130 (by decide) ?_
      exact (db_X13_worked_131 C K) (v0) (v1) (v2) (0) s0 _ _ _ h hP hD hS (lv_sub hl [1, 2, 3] rfl)
    · have h := nd_pos h c17
      exact (db_X13_worked_126 C K) (v0) (v1) (v2) s0 _ _ _ h hP hD hS (lv_sub hl [1, 2, 3] rfl)
set_option maxHeartbeats 40000000 in
set_option maxRecDepth 100000 in
theorem dm_X13_worked (l : Launch) (hlt : l.stackTraces = false) (dC : Nat → ClassId) (dI : Nat → Nat → Nat) (a : Nat → Nat) (ac : Nat → ClassId) (n : Nat) (v0 : Int32) (v1 : Int32) (v2 : Int32) (s0 : St) {r : Int32 × (St)} (h : df_X13_worked n v0 v1 v2 s0 = some r) (sz : Nat) : Met l yX13_worked ow_dm_X13_worked ({ frames := 0, cells := 0, slots := 0, locals := 0 }) (va_Pc [.ref (a 0), .int v0, .int v1, .int v2] (fun U => U.heap.size = sz ∧ va_P (dC, dI) vwCl (dw_X13 a ac s0) U.heap ∧ va_K (dC, dI) vwCl (dk_X13 ac) U ∧ va_D (fun _ => True) (dw_X13 a ac s0) ∧ nv_E dI (va_A (dw_X13 a ac s0) sz) U)) (va_Qi (fun x _ => x = r.1) (fun (_ : Unit) t => va_P (dC, dI) vwCl (dw_X13 a ac r.2) t.heap ∧ va_K (dC, dI) vwCl (dk_X13 ac) t ∧ va_D (va_A (dw_X13 a ac s0) sz) (dw_X13 a ac r.2)) (va_A (dw_X13 a ac s0) sz)) 0 0 (va_A (dw_X13 a ac s0) sz) := by
  refine Met.ofW (cc := cX13_worked) (maxL := 4) (ret := (some .int)) (by decide) rfl ?_
  intro p e s m args below meth c s₁ B hml hv
  obtain ⟨rfl, hsz, hP, hK, hD0, hN⟩ := hv
  have hx := B.exec
  have hb := B.bytes
  have hr := B.returns
  have hts := atoms_spec (ws := ow_dm_X13_worked) B.pre
  have hown : s.vm.findClass RX13 = some m.cls := findClass_of_methodNamed B.named
  have hlocks := B.notSynchronized
  subst hsz
  have hD := hD0.self (sz := s.heap.size)
  generalize hAe : va_A (dw_X13 a ac s0) s.heap.size = A at hD hN ⊢
  have hA : ∀ q : Nat, s.heap.size ≤ q → A q := fun q h => by rw [← hAe]; exact Or.inr h
  have hl := lv_entry ([.ref (a 0), .int v0, .int v1, .int v2]) (n := 4) (Nat.le_of_ble_eq_true rfl)
  rw [lg_entry_eq]
  generalize (lg_sl ([.ref (a 0), .int v0, .int v1, .int v2]) ++ List.replicate (4 - (lg_sl ([.ref (a 0), .int v0, .int v1, .int v2])).length) Slot.unset).toArray = ls at hl ⊢
  have hl : lv_has ls 4 [(0, .ref (a 0)), (1, .int v0), (2, .int v1), (3, .int v2)] := hl
  exact db_X13_worked_0 (dC := dC) (dI := dI) (a := a) (ac := ac) (n := n) (r := r) ⟨hlt, hx, hb, hml, hown, hts, hN, hA, hK⟩ (fun pc v τ H locs ls d z er hP hD hS => by subst er; exact W.zret (v := v) hx hb hr z (fun t ht hW => ⟨⟨v, (), rfl, rfl, by rw [ht]; exact hP, va_K.moved hW.alike hK, hD⟩, hS.F ht⟩) hS.2.2 d) v0 v1 v2 s0 _ _ _ h hP hD va_S.rf (lv_sub hl [0, 1, 2, 3] rfl)
def ow_dm_X13_join : List Cond := Cond.code yX13_join cX13_join 2 none :: ([Cond.fieldLink RX13 464 "TimeMachineModel$Assembler" "signs" "I", Cond.fieldLink RX13 344 "TimeMachineModel$Assembler" "pile" "[I", Cond.fieldLink RX13 467 "TimeMachineModel$Assembler" "values" "I", Cond.methodLink RX13 473 yX13_worked, Cond.instanceMethod yX13_worked, Cond.selects RX13 yX13_worked yX13_worked, Cond.initialized RX13] ++ (u_ws RX13 TX13 37 ++ (ow_dm_X13_worked ++ [])))
theorem gd_dm_X13_join : ∀ w ∈ ow_dm_X13_join, (w.onTables && w.keeps) = true ∨ ∃ ty, w = Cond.arrayClass ty := List.forall_mem_cons.mpr ⟨good_of_word rfl, List.forall_mem_append.mpr ⟨fun w h => good_of_word (List.all_eq_true.mp (by decide +kernel) w h), List.forall_mem_append.mpr ⟨gu_X13, List.forall_mem_append.mpr ⟨gd_dm_X13_worked, fun _ h => nomatch h⟩⟩⟩⟩
theorem hi_dm_X13_join_X13 : ∀ w ∈ u_ws RX13 TX13 37, w ∈ ow_dm_X13_join := fun w h => List.mem_cons_of_mem _ (List.mem_append_right _ (List.mem_append_left _ h))
theorem gi_dm_X13_join_0 : GoodIn ow_dm_X13_join (wsV RX13 473 RX13 yX13_worked ow_dm_X13_worked) := goodIn_app (goodIn_of _ (by decide +kernel)) (fun w h => ⟨List.mem_cons_of_mem _ (List.mem_append_right _ (List.mem_append_right _ (List.mem_append_left _ h))), gd_dm_X13_worked w h⟩)
def dj_X13_join_0 (p : Program) (l : Launch) (e : Env) (s : State) (m : MethodId) (args : Array Value) (below : List Frame) (meth : Method) (c : Code) (Q : State → Prop) (A : Nat → Prop) (dC : Nat → ClassId) (dI : Nat → Nat → Nat) (a : Nat → Nat) (ac : Nat → ClassId) (g : (St) → Option (St)) (r : St) : Prop := ∀ (s0 : St) (H : Heap) (locs : List Loc) (ls : Array Slot), g s0 = some r → va_P (dC, dI) vwCl (dw_X13 a ac s0) H → va_D A (dw_X13 a ac s0) → va_S A s.heap H locs → lv_has ls 2 [(0, .ref (a 0))] → W p l e (headSpec ow_dm_X13_join ({ frames := 1, cells := 0, slots := 0, locals := 23 })).room s m args below meth c H locs 0 0 Q (F0 m 0 ls [])
set_option maxHeartbeats 40000000 in
set_option maxRecDepth 100000 in
theorem db_X13_join_0 {p : Program} {l : Launch} {e : Env} {s : State} {m : MethodId} {args : Array Value} {below : List Frame} {meth : Method} {c : Code} {Q : State → Prop} {A : Nat → Prop} {dC : Nat → ClassId} {dI : Nat → Nat → Nat} {a : Nat → Nat} {ac : Nat → ClassId} {n : Nat} {r : St} (C : nd_C p l s m args c A (dC, dI) cX13_join 2 RX13 ow_dm_X13_join (dk_X13 ac)) (K : nd_Kv p l e (headSpec ow_dm_X13_join ({ frames := 1, cells := 0, slots := 0, locals := 23 })).room s m args below meth c Q A (dC, dI) cX13_join (St) (dw_X13 a ac) r) : dj_X13_join_0 p l e s m args below meth c Q A dC dI a ac (df_X13_join_0 n) r := by
  obtain ⟨hlt, hx, hb, hml, hown, hts, hN, hA, hK⟩ := id C
  intro s0 H locs ls h hP hD hS hl
  unfold df_X13_join_0 at h
  refine lv_aload_n hx hb dX13_join_0 rfl (lv_at hl 0 rfl) ?_
  refine lv_dup hx hb dX13_join_1 rfl ?_
  refine va_get (D := (dC, dI)) (ci := 14) (v := .int (sI s0 24)) (C := RX13) (T := TX13) (N := 37) hx hb hts hi_dm_X13_join_X13 hown hK hP 0 rfl rfl 35 (by decide) (hts (.fieldLink RX13 464 "TimeMachineModel$Assembler" "signs" "I") (List.mem_of_getElem? (i := 1) rfl)) (fun _ h9 => h9) rfl dX13_join_2 ?_
  refine lv_iconst (v := 1) hx hb dX13_join_5 (by decide) ?_
  refine lv_isub hx hb dX13_join_6 ?_
  refine va_put (D := (dC, dI)) (ci := 14) (v := .int ((sI s0 24) - 1)) (ty := .int) (C := RX13) (T := TX13) (N := 37) hx hb hts hi_dm_X13_join_X13 tyX13 tyX13_ok nmX13 hown hK hP hD hS 0 rfl rfl 35 (by decide) (hts (.fieldLink RX13 464 "TimeMachineModel$Assembler" "signs" "I") (List.mem_of_getElem? (i := 1) rfl)) (fun _ h9 => h9) rfl (by decide +kernel) rfl rfl (Nat.le_of_ble_eq_true rfl) dX13_join_7 (fun H locs hP hD hS => ?_)
  obtain ⟨s1, es1, h⟩ := nd_let_e h
  have hP : va_P (dC, dI) vwCl (dw_X13 a ac s1) H := by rw [es1]; exact hP
  have hD : va_D A (dw_X13 a ac s1) := by rw [es1]; exact hD
  refine lv_aload_n hx hb dX13_join_10 rfl (lv_at hl 0 rfl) ?_
  refine va_get (D := (dC, dI)) (ci := 14) (v := .ref (a 10)) (C := RX13) (T := TX13) (N := 37) hx hb hts hi_dm_X13_join_X13 hown hK hP 0 rfl rfl 34 (by decide) (hts (.fieldLink RX13 344 "TimeMachineModel$Assembler" "pile" "[I") (List.mem_of_getElem? (i := 2) rfl)) (fun _ h9 => h9) rfl dX13_join_11 ?_
  refine lv_aload_n hx hb dX13_join_14 rfl (lv_at hl 0 rfl) ?_
  refine va_get (D := (dC, dI)) (ci := 14) (v := .int (sI s1 25)) (C := RX13) (T := TX13) (N := 37) hx hb hts hi_dm_X13_join_X13 hown hK hP 0 rfl rfl 36 (by decide) (hts (.fieldLink RX13 467 "TimeMachineModel$Assembler" "values" "I") (List.mem_of_getElem? (i := 3) rfl)) (fun _ h9 => h9) rfl dX13_join_15 ?_
  obtain ⟨i2, h⟩ := nd_ck_e h
  refine va_iald (i := (sI s1 25)) hx hb hK hP 10 9 rfl rfl i2 dX13_join_18 ?_
  refine lv_topi (fun z3 ez3 => ?_)
  have h := nd_at h ez3
  refine lv_istore_n (lv' := [(1, .int z3), (0, .ref (a 0))]) hx hb dX13_join_19 rfl hl (by decide) rfl (fun ls hl => ?_)
  refine lv_aload_n hx hb dX13_join_20 rfl (lv_at hl 1 rfl) ?_
  refine lv_dup hx hb dX13_join_21 rfl ?_
  refine va_get (D := (dC, dI)) (ci := 14) (v := .int (sI s1 25)) (C := RX13) (T := TX13) (N := 37) hx hb hts hi_dm_X13_join_X13 hown hK hP 0 rfl rfl 36 (by decide) (hts (.fieldLink RX13 467 "TimeMachineModel$Assembler" "values" "I") (List.mem_of_getElem? (i := 3) rfl)) (fun _ h9 => h9) rfl dX13_join_22 ?_
  refine lv_iconst (v := 1) hx hb dX13_join_25 (by decide) ?_
  refine lv_iadd hx hb dX13_join_26 ?_
  refine va_put (D := (dC, dI)) (ci := 14) (v := .int ((sI s1 25) + 1)) (ty := .int) (C := RX13) (T := TX13) (N := 37) hx hb hts hi_dm_X13_join_X13 tyX13 tyX13_ok nmX13 hown hK hP hD hS 0 rfl rfl 36 (by decide) (hts (.fieldLink RX13 467 "TimeMachineModel$Assembler" "values" "I") (List.mem_of_getElem? (i := 3) rfl)) (fun _ h9 => h9) rfl (by decide +kernel) rfl rfl (Nat.le_of_ble_eq_true rfl) dX13_join_27 (fun H locs hP hD hS => ?_)
  obtain ⟨s4, es4, h⟩ := nd_let_e h
  have hP : va_P (dC, dI) vwCl (dw_X13 a ac s4) H := by rw [es4]; exact hP
  have hD : va_D A (dw_X13 a ac s4) := by rw [es4]; exact hD
  refine lv_aload_n hx hb dX13_join_30 rfl (lv_at hl 1 rfl) ?_
  refine va_get (D := (dC, dI)) (ci := 14) (v := .ref (a 10)) (C := RX13) (T := TX13) (N := 37) hx hb hts hi_dm_X13_join_X13 hown hK hP 0 rfl rfl 34 (by decide) (hts (.fieldLink RX13 344 "TimeMachineModel$Assembler" "pile" "[I") (List.mem_of_getElem? (i := 2) rfl)) (fun _ h9 => h9) rfl dX13_join_31 ?_
  refine lv_aload_n hx hb dX13_join_34 rfl (lv_at hl 1 rfl) ?_
  refine va_get (D := (dC, dI)) (ci := 14) (v := .int (sI s4 25)) (C := RX13) (T := TX13) (N := 37) hx hb hts hi_dm_X13_join_X13 hown hK hP 0 rfl rfl 36 (by decide) (hts (.fieldLink RX13 467 "TimeMachineModel$Assembler" "values" "I") (List.mem_of_getElem? (i := 3) rfl)) (fun _ h9 => h9) rfl dX13_join_35 ?_
  refine lv_aload_n hx hb dX13_join_38 rfl (lv_at hl 1 rfl) ?_
  refine lv_aload_n hx hb dX13_join_39 rfl (lv_at hl 1 rfl) ?_
  refine va_get (D := (dC, dI)) (ci := 14) (v := .ref (a 10)) (C := RX13) (T := TX13) (N := 37) hx hb hts hi_dm_X13_join_X13 hown hK hP 0 rfl rfl 34 (by decide) (hts (.fieldLink RX13 344 "TimeMachineModel$Assembler" "pile" "[I") (List.mem_of_getElem? (i := 2) rfl)) (fun _ h9 => h9) rfl dX13_join_40 ?_
  refine lv_aload_n hx hb dX13_join_43 rfl (lv_at hl 1 rfl) ?_
  refine va_get (D := (dC, dI)) (ci := 14) (v := .int (sI s4 24)) (C := RX13) (T := TX13) (N := 37) hx hb hts hi_dm_X13_join_X13 hown hK hP 0 rfl rfl 35 (by decide) (hts (.fieldLink RX13 464 "TimeMachineModel$Assembler" "signs" "I") (List.mem_of_getElem? (i := 1) rfl)) (fun _ h9 => h9) rfl dX13_join_44 ?_
  obtain ⟨i5, h⟩ := nd_ck_e h
  refine va_iald (i := (sI s4 24)) hx hb hK hP 10 9 rfl rfl i5 dX13_join_47 ?_
  refine lv_aload_n hx hb dX13_join_48 rfl (lv_at hl 1 rfl) ?_
  refine va_get (D := (dC, dI)) (ci := 14) (v := .ref (a 10)) (C := RX13) (T := TX13) (N := 37) hx hb hts hi_dm_X13_join_X13 hown hK hP 0 rfl rfl 34 (by decide) (hts (.fieldLink RX13 344 "TimeMachineModel$Assembler" "pile" "[I") (List.mem_of_getElem? (i := 2) rfl)) (fun _ h9 => h9) rfl dX13_join_49 ?_
  refine lv_aload_n hx hb dX13_join_52 rfl (lv_at hl 1 rfl) ?_
  refine va_get (D := (dC, dI)) (ci := 14) (v := .int (sI s4 25)) (C := RX13) (T := TX13) (N := 37) hx hb hts hi_dm_X13_join_X13 hown hK hP 0 rfl rfl 36 (by decide) (hts (.fieldLink RX13 467 "TimeMachineModel$Assembler" "values" "I") (List.mem_of_getElem? (i := 3) rfl)) (fun _ h9 => h9) rfl dX13_join_53 ?_
  obtain ⟨i6, h⟩ := nd_ck_e h
  refine va_iald (i := (sI s4 25)) hx hb hK hP 10 9 rfl rfl i6 dX13_join_56 ?_
  refine lv_iload_n hx hb dX13_join_57 rfl (lv_at hl 0 rfl) ?_
  obtain ⟨q7, s8, hq, h⟩ := nd_b2_e h
  have hPc := hP
  have hDc := hD
  have hKc := hK
  have hFc := nd_rs hD hS hA
  refine nd_cVi (As := [.int (sR s4 8 (Int32.toNatClampNeg (sI s4 24))), .int (sR s4 8 (Int32.toNatClampNeg (sI s4 25))), .int z3]) (rest := [.int (sI s4 25), .ref (a 10)]) (q := q7) (w' := dw_X13 a ac s8) ⟨hx, hb, hml, hown, hts⟩ (fun sz => dm_X13_worked l hlt dC dI a ac n ((sR s4 8 (Int32.toNatClampNeg (sI s4 24)))) ((sR s4 8 (Int32.toNatClampNeg (sI s4 25)))) (z3) s4 hq sz) (cwV 3 hts gi_dm_X13_join_0 rfl rfl rfl (by decide +kernel) ⟨Nat.le_of_ble_eq_true rfl, Nat.le_of_ble_eq_true rfl⟩) hPc hDc hKc hS hA hN (va_recv hKc hPc (ci := 14) (q0 := 0) rfl rfl) rfl hl.1 rfl (Nat.le_of_ble_eq_true rfl) dX13_join_58 (fun H locs hP1 hD1 hk1 hS => ?_)
  have hP := hP1
  have hD := hD1.weaken (fun k q _ h => hFc q.1 h)
  obtain ⟨i10, h⟩ := nd_ck_e h
  refine va_iast (i := (sI s4 25)) (x := q7) hx hb hK hP hD hS 10 9 rfl rfl i10 dX13_join_61 (fun H locs hP hD hS => ?_)
  obtain ⟨s11, es11, h⟩ := nd_let_e h
  have hP : va_P (dC, dI) vwCl (dw_X13 a ac s11) H := by rw [es11]; exact hP
  have hD : va_D A (dw_X13 a ac s11) := by rw [es11]; exact hD
  exact K _ _ _ _ _ dX13_join_62 (Option.some.inj h).symm hP hD hS
set_option maxHeartbeats 40000000 in
set_option maxRecDepth 100000 in
theorem dm_X13_join (l : Launch) (hlt : l.stackTraces = false) (dC : Nat → ClassId) (dI : Nat → Nat → Nat) (a : Nat → Nat) (ac : Nat → ClassId) (n : Nat) (s0 : St) {r : St} (h : df_X13_join n s0 = some r) (sz : Nat) : Met l yX13_join ow_dm_X13_join ({ frames := 1, cells := 0, slots := 0, locals := 23 }) (va_Pc [.ref (a 0)] (fun U => U.heap.size = sz ∧ va_P (dC, dI) vwCl (dw_X13 a ac s0) U.heap ∧ va_K (dC, dI) vwCl (dk_X13 ac) U ∧ va_D (fun _ => True) (dw_X13 a ac s0) ∧ nv_E dI (va_A (dw_X13 a ac s0) sz) U)) (va_Qv (fun _ => True) (fun (_ : Unit) t => va_P (dC, dI) vwCl (dw_X13 a ac r) t.heap ∧ va_K (dC, dI) vwCl (dk_X13 ac) t ∧ va_D (va_A (dw_X13 a ac s0) sz) (dw_X13 a ac r)) (va_A (dw_X13 a ac s0) sz)) 0 0 (va_A (dw_X13 a ac s0) sz) := by
  refine Met.ofW (cc := cX13_join) (maxL := 2) (ret := none) (by decide) rfl ?_
  intro p e s m args below meth c s₁ B hml hv
  obtain ⟨rfl, hsz, hP, hK, hD0, hN⟩ := hv
  have hx := B.exec
  have hb := B.bytes
  have hr := B.returns
  have hts := atoms_spec (ws := ow_dm_X13_join) B.pre
  have hown : s.vm.findClass RX13 = some m.cls := findClass_of_methodNamed B.named
  have hlocks := B.notSynchronized
  subst hsz
  have hD := hD0.self (sz := s.heap.size)
  generalize hAe : va_A (dw_X13 a ac s0) s.heap.size = A at hD hN ⊢
  have hA : ∀ q : Nat, s.heap.size ≤ q → A q := fun q h => by rw [← hAe]; exact Or.inr h
  have hl := lv_entry ([.ref (a 0)]) (n := 2) (Nat.le_of_ble_eq_true rfl)
  rw [lg_entry_eq]
  generalize (lg_sl ([.ref (a 0)]) ++ List.replicate (2 - (lg_sl ([.ref (a 0)])).length) Slot.unset).toArray = ls at hl ⊢
  have hl : lv_has ls 2 [(0, .ref (a 0))] := hl
  exact db_X13_join_0 (dC := dC) (dI := dI) (a := a) (ac := ac) (n := n) (r := r) ⟨hlt, hx, hb, hml, hown, hts, hN, hA, hK⟩ (fun pc τ H locs ls d er hP hD hS => by subst er; exact W.vret hx hb hr (fun t ht hW => ⟨⟨(), rfl, trivial, by rw [ht]; exact hP, va_K.moved hW.alike hK, hD⟩, hS.F ht⟩) hS.2.2 d) s0 _ _ _ h hP hD va_S.rf (lv_sub hl [0] rfl)
def ow_dm_X13_bind : List Cond := Cond.code yX13_bind cX13_bind 4 none :: ([Cond.fieldLink RX13 464 "TimeMachineModel$Assembler" "signs" "I", Cond.fieldLink RX13 344 "TimeMachineModel$Assembler" "pile" "[I", Cond.fieldLink RX13 467 "TimeMachineModel$Assembler" "values" "I"] ++ (u_ws RX13 TX13 37 ++ []))
theorem gd_dm_X13_bind : ∀ w ∈ ow_dm_X13_bind, (w.onTables && w.keeps) = true ∨ ∃ ty, w = Cond.arrayClass ty := List.forall_mem_cons.mpr ⟨good_of_word rfl, List.forall_mem_append.mpr ⟨fun w h => good_of_word (List.all_eq_true.mp (by decide +kernel) w h), List.forall_mem_append.mpr ⟨gu_X13, fun _ h => nomatch h⟩⟩⟩
theorem hi_dm_X13_bind_X13 : ∀ w ∈ u_ws RX13 TX13 37, w ∈ ow_dm_X13_bind := fun w h => List.mem_cons_of_mem _ (List.mem_append_right _ (List.mem_append_left _ h))
def dj_X13_bind_124 (p : Program) (l : Launch) (e : Env) (s : State) (m : MethodId) (args : Array Value) (below : List Frame) (meth : Method) (c : Code) (Q : State → Prop) (A : Nat → Prop) (dC : Nat → ClassId) (dI : Nat → Nat → Nat) (a : Nat → Nat) (ac : Nat → ClassId) (g : (St) → Option (St)) (r : St) : Prop := ∀ (s0 : St) (H : Heap) (locs : List Loc) (ls : Array Slot), g s0 = some r → va_P (dC, dI) vwCl (dw_X13 a ac s0) H → va_D A (dw_X13 a ac s0) → va_S A s.heap H locs → lv_has ls 4 [] → W p l e (headSpec ow_dm_X13_bind ({ frames := 0, cells := 0, slots := 0, locals := 0 })).room s m args below meth c H locs 0 0 Q (F0 m 124 ls [])
def dj_X13_bind_110 (p : Program) (l : Launch) (e : Env) (s : State) (m : MethodId) (args : Array Value) (below : List Frame) (meth : Method) (c : Code) (Q : State → Prop) (A : Nat → Prop) (dC : Nat → ClassId) (dI : Nat → Nat → Nat) (a : Nat → Nat) (ac : Nat → ClassId) (g : Int32 → Int32 → Int32 → (St) → Option (St)) (r : St) : Prop := ∀ (x1 : Int32) (y1 : Int32) (y2 : Int32) (s0 : St) (H : Heap) (locs : List Loc) (ls : Array Slot), g x1 y1 y2 s0 = some r → va_P (dC, dI) vwCl (dw_X13 a ac s0) H → va_D A (dw_X13 a ac s0) → va_S A s.heap H locs → lv_has ls 4 [(0, .ref (a 0)), (1, .int x1)] → W p l e (headSpec ow_dm_X13_bind ({ frames := 0, cells := 0, slots := 0, locals := 0 })).room s m args below meth c H locs 0 0 Q (F0 m 110 ls [.int y2, .int y1, .ref (a 10)])
def dj_X13_bind_50 (p : Program) (l : Launch) (e : Env) (s : State) (m : MethodId) (args : Array Value) (below : List Frame) (meth : Method) (c : Code) (Q : State → Prop) (A : Nat → Prop) (dC : Nat → ClassId) (dI : Nat → Nat → Nat) (a : Nat → Nat) (ac : Nat → ClassId) (g : Int32 → Int32 → Int32 → (St) → Option (St)) (r : St) : Prop := ∀ (x2 : Int32) (x3 : Int32) (y0 : Int32) (s0 : St) (H : Heap) (locs : List Loc) (ls : Array Slot), g x2 x3 y0 s0 = some r → va_P (dC, dI) vwCl (dw_X13 a ac s0) H → va_D A (dw_X13 a ac s0) → va_S A s.heap H locs → lv_has ls 4 [(0, .ref (a 0)), (2, .int x2), (3, .int x3)] → W p l e (headSpec ow_dm_X13_bind ({ frames := 0, cells := 0, slots := 0, locals := 0 })).room s m args below meth c H locs 0 0 Q (F0 m 50 ls [.int y0])
def dj_X13_bind_49 (p : Program) (l : Launch) (e : Env) (s : State) (m : MethodId) (args : Array Value) (below : List Frame) (meth : Method) (c : Code) (Q : State → Prop) (A : Nat → Prop) (dC : Nat → ClassId) (dI : Nat → Nat → Nat) (a : Nat → Nat) (ac : Nat → ClassId) (g : Int32 → Int32 → (St) → Option (St)) (r : St) : Prop := ∀ (x2 : Int32) (x3 : Int32) (s0 : St) (H : Heap) (locs : List Loc) (ls : Array Slot), g x2 x3 s0 = some r → va_P (dC, dI) vwCl (dw_X13 a ac s0) H → va_D A (dw_X13 a ac s0) → va_S A s.heap H locs → lv_has ls 4 [(0, .ref (a 0)), (2, .int x2), (3, .int x3)] → W p l e (headSpec ow_dm_X13_bind ({ frames := 0, cells := 0, slots := 0, locals := 0 })).room s m args below meth c H locs 0 0 Q (F0 m 49 ls [])
def dj_X13_bind_2 (p : Program) (l : Launch) (e : Env) (s : State) (m : MethodId) (args : Array Value) (below : List Frame) (meth : Method) (c : Code) (Q : State → Prop) (A : Nat → Prop) (dC : Nat → ClassId) (dI : Nat → Nat → Nat) (a : Nat → Nat) (ac : Nat → ClassId) (g : Int32 → (St) → Option (St)) (r : St) : Prop := ∀ (x1 : Int32) (s0 : St) (H : Heap) (locs : List Loc) (ls : Array Slot), g x1 s0 = some r → va_P (dC, dI) vwCl (dw_X13 a ac s0) H → va_D A (dw_X13 a ac s0) → va_S A s.heap H locs → lv_has ls 4 [(0, .ref (a 0)), (1, .int x1)] → W p l e (headSpec ow_dm_X13_bind ({ frames := 0, cells := 0, slots := 0, locals := 0 })).room s m args below meth c H locs 0 0 Q (F0 m 2 ls [])
def dj_X13_bind_0 (p : Program) (l : Launch) (e : Env) (s : State) (m : MethodId) (args : Array Value) (below : List Frame) (meth : Method) (c : Code) (Q : State → Prop) (A : Nat → Prop) (dC : Nat → ClassId) (dI : Nat → Nat → Nat) (a : Nat → Nat) (ac : Nat → ClassId) (g : (St) → Option (St)) (r : St) : Prop := ∀ (s0 : St) (H : Heap) (locs : List Loc) (ls : Array Slot), g s0 = some r → va_P (dC, dI) vwCl (dw_X13 a ac s0) H → va_D A (dw_X13 a ac s0) → va_S A s.heap H locs → lv_has ls 4 [(0, .ref (a 0))] → W p l e (headSpec ow_dm_X13_bind ({ frames := 0, cells := 0, slots := 0, locals := 0 })).room s m args below meth c H locs 0 0 Q (F0 m 0 ls [])
set_option maxHeartbeats 40000000 in
set_option maxRecDepth 100000 in
theorem db_X13_bind_124 {p : Program} {l : Launch} {e : Env} {s : State} {m : MethodId} {args : Array Value} {below : List Frame} {meth : Method} {c : Code} {Q : State → Prop} {A : Nat → Prop} {dC : Nat → ClassId} {dI : Nat → Nat → Nat} {a : Nat → Nat} {ac : Nat → ClassId} {n : Nat} {r : St} (C : nd_C p l s m args c A (dC, dI) cX13_bind 4 RX13 ow_dm_X13_bind (dk_X13 ac)) (K : nd_Kv p l e (headSpec ow_dm_X13_bind ({ frames := 0, cells := 0, slots := 0, locals := 0 })).room s m args below meth c Q A (dC, dI) cX13_bind (St) (dw_X13 a ac) r) : dj_X13_bind_124 p l e s m args below meth c Q A dC dI a ac (df_X13_bind_124 n) r := by
  obtain ⟨hlt, hx, hb, hml, hown, hts, hN, hA, hK⟩ := id C
  intro s0 H locs ls h hP hD hS hl
  unfold df_X13_bind_124 at h
  exact K _ _ _ _ _ dX13_bind_124 (Option.some.inj h).symm hP hD hS
set_option maxHeartbeats 40000000 in
set_option maxRecDepth 100000 in
theorem db_X13_bind_110 {p : Program} {l : Launch} {e : Env} {s : State} {m : MethodId} {args : Array Value} {below : List Frame} {meth : Method} {c : Code} {Q : State → Prop} {A : Nat → Prop} {dC : Nat → ClassId} {dI : Nat → Nat → Nat} {a : Nat → Nat} {ac : Nat → ClassId} {n : Nat} {r : St} (C : nd_C p l s m args c A (dC, dI) cX13_bind 4 RX13 ow_dm_X13_bind (dk_X13 ac)) (K : nd_Kv p l e (headSpec ow_dm_X13_bind ({ frames := 0, cells := 0, slots := 0, locals := 0 })).room s m args below meth c Q A (dC, dI) cX13_bind (St) (dw_X13 a ac) r) {g2 : Int32 → (St) → Option (St)} (J2 : dj_X13_bind_2 p l e s m args below meth c Q A dC dI a ac g2 r) : dj_X13_bind_110 p l e s m args below meth c Q A dC dI a ac (df_X13_bind_110 n g2) r := by
  obtain ⟨hlt, hx, hb, hml, hown, hts, hN, hA, hK⟩ := id C
  intro x1 y1 y2 s0 H locs ls h hP hD hS hl
  unfold df_X13_bind_110 at h
  obtain ⟨i12, h⟩ := nd_ck_e h
  refine va_iast (i := y1) (x := y2) hx hb hK hP hD hS 10 9 rfl rfl i12 dX13_bind_110 (fun H locs hP hD hS => ?_)
  obtain ⟨s13, es13, h⟩ := nd_let_e h
  have hP : va_P (dC, dI) vwCl (dw_X13 a ac s13) H := by rw [es13]; exact hP
  have hD : va_D A (dw_X13 a ac s13) := by rw [es13]; exact hD
  refine lv_aload_n hx hb dX13_bind_111 rfl (lv_at hl 0 rfl) ?_
  refine lv_dup hx hb dX13_bind_112 rfl ?_
  refine va_get (D := (dC, dI)) (ci := 14) (v := .int (sI s13 24)) (C := RX13) (T := TX13) (N := 37) hx hb hts hi_dm_X13_bind_X13 hown hK hP 0 rfl rfl 35 (by decide) (hts (.fieldLink RX13 464 "TimeMachineModel$Assembler" "signs" "I") (List.mem_of_getElem? (i := 1) rfl)) (fun _ h9 => h9) rfl dX13_bind_113 ?_
  refine lv_iconst (v := 1) hx hb dX13_bind_116 (by decide) ?_
  refine lv_isub hx hb dX13_bind_117 ?_
  refine va_put (D := (dC, dI)) (ci := 14) (v := .int ((sI s13 24) - 1)) (ty := .int) (C := RX13) (T := TX13) (N := 37) hx hb hts hi_dm_X13_bind_X13 tyX13 tyX13_ok nmX13 hown hK hP hD hS 0 rfl rfl 35 (by decide) (hts (.fieldLink RX13 464 "TimeMachineModel$Assembler" "signs" "I") (List.mem_of_getElem? (i := 1) rfl)) (fun _ h9 => h9) rfl (by decide +kernel) rfl rfl (Nat.le_of_ble_eq_true rfl) dX13_bind_118 (fun H locs hP hD hS => ?_)
  obtain ⟨s14, es14, h⟩ := nd_let_e h
  have hP : va_P (dC, dI) vwCl (dw_X13 a ac s14) H := by rw [es14]; exact hP
  have hD : va_D A (dw_X13 a ac s14) := by rw [es14]; exact hD
  refine lv_goto (tgt := 2) hx hb dX13_bind_121 (by decide) ?_
  exact (J2) (x1) s14 _ _ _ h hP hD hS (lv_sub hl [0, 1] rfl)
set_option maxHeartbeats 40000000 in
set_option maxRecDepth 100000 in
theorem db_X13_bind_50 {p : Program} {l : Launch} {e : Env} {s : State} {m : MethodId} {args : Array Value} {below : List Frame} {meth : Method} {c : Code} {Q : State → Prop} {A : Nat → Prop} {dC : Nat → ClassId} {dI : Nat → Nat → Nat} {a : Nat → Nat} {ac : Nat → ClassId} {n : Nat} {r : St} (C : nd_C p l s m args c A (dC, dI) cX13_bind 4 RX13 ow_dm_X13_bind (dk_X13 ac)) (K : nd_Kv p l e (headSpec ow_dm_X13_bind ({ frames := 0, cells := 0, slots := 0, locals := 0 })).room s m args below meth c Q A (dC, dI) cX13_bind (St) (dw_X13 a ac) r) {g2 : Int32 → (St) → Option (St)} (J2 : dj_X13_bind_2 p l e s m args below meth c Q A dC dI a ac g2 r) : dj_X13_bind_50 p l e s m args below meth c Q A dC dI a ac (df_X13_bind_50 n g2) r := by
  obtain ⟨hlt, hx, hb, hml, hown, hts, hN, hA, hK⟩ := id C
  intro x2 x3 y0 s0 H locs ls h hP hD hS hl
  unfold df_X13_bind_50 at h
  refine lv_istore_n (lv' := [(1, .int y0), (0, .ref (a 0)), (2, .int x2), (3, .int x3)]) hx hb dX13_bind_50 rfl hl (by decide) rfl (fun ls hl => ?_)
  refine lv_iload_n hx hb dX13_bind_51 rfl (lv_at hl 0 rfl) ?_
  refine lv_if_ne (tgt := 58) hx hb dX13_bind_52 (by decide) (fun c8 => ?_) (fun c8 => ?_)
  · have h := nd_neg h c8
    refine lv_aload_n hx hb dX13_bind_58 rfl (lv_at hl 1 rfl) ?_
    refine va_get (D := (dC, dI)) (ci := 14) (v := .ref (a 10)) (C := RX13) (T := TX13) (N := 37) hx hb hts hi_dm_X13_bind_X13 hown hK hP 0 rfl rfl 34 (by decide) (hts (.fieldLink RX13 344 "TimeMachineModel$Assembler" "pile" "[I") (List.mem_of_getElem? (i := 2) rfl)) (fun _ h9 => h9) rfl dX13_bind_59 ?_
    refine lv_aload_n hx hb dX13_bind_62 rfl (lv_at hl 1 rfl) ?_
    refine va_get (D := (dC, dI)) (ci := 14) (v := .int (sI s0 25)) (C := RX13) (T := TX13) (N := 37) hx hb hts hi_dm_X13_bind_X13 hown hK hP 0 rfl rfl 36 (by decide) (hts (.fieldLink RX13 467 "TimeMachineModel$Assembler" "values" "I") (List.mem_of_getElem? (i := 3) rfl)) (fun _ h9 => h9) rfl dX13_bind_63 ?_
    refine lv_iload_n hx hb dX13_bind_66 rfl (lv_at hl 2 rfl) ?_
    refine lv_iconst (v := 2) hx hb dX13_bind_67 (by decide) ?_
    refine lv_icmp_ne (tgt := 76) hx hb dX13_bind_68 (by decide) (fun c9 => ?_) (fun c9 => ?_)
    · have h := nd_neg h c9
      refine lv_iload_n hx hb dX13_bind_76 rfl (lv_at hl 2 rfl) ?_
      refine lv_iconst (v := 3) hx hb dX13_bind_77 (by decide) ?_
      refine lv_icmp_ne (tgt := 87) hx hb dX13_bind_78 (by decide) (fun c10 => ?_) (fun c10 => ?_)
      · have h := nd_neg h c10
        refine lv_iload_n hx hb dX13_bind_87 rfl (lv_at hl 2 rfl) ?_
        refine lv_iconst (v := 4) hx hb dX13_bind_88 (by decide) ?_
        refine lv_icmp_ne (tgt := 103) hx hb dX13_bind_89 (by decide) (fun c11 => ?_) (fun c11 => ?_)
        · have h := nd_neg h c11
          refine lv_iload_n hx hb dX13_bind_103 rfl (lv_at hl 3 rfl) ?_
          refine lv_bipush (v := 20) hx hb dX13_bind_104 (by decide) ?_
          refine lv_ishl hx hb dX13_bind_106 ?_
          refine lv_bipush (v := 20) hx hb dX13_bind_107 (by decide) ?_
          refine lv_ishr hx hb dX13_bind_109 ?_
          exact (db_X13_bind_110 C K J2) (y0) ((sI s0 25)) (((((x3 : Int32) <<< ((20 : Int32) &&& 31)) : Int32) >>> ((20 : Int32) &&& 31))) s0 _ _ _ h hP hD hS (lv_sub hl [1, 0] rfl)
        · have h := nd_pos h c11
          refine lv_iload_n hx hb dX13_bind_92 rfl (lv_at hl 3 rfl) ?_
          refine lv_sipush (v := 2048) hx hb dX13_bind_93 (by decide) ?_
          refine lv_iadd hx hb dX13_bind_96 ?_
          refine lv_bipush (v := 12) hx hb dX13_bind_97 (by decide) ?_
          refine lv_iushr hx hb dX13_bind_99 rfl ?_
          refine lv_goto (tgt := 110) hx hb dX13_bind_100 (by decide) ?_
          exact (db_X13_bind_110 C K J2) (y0) ((sI s0 25)) (((((x3 + 2048) : Int32).toUInt32 >>> ((12 : Int32).toUInt32 &&& Int32.toUInt32 31)).toInt32)) s0 _ _ _ h hP hD hS (lv_sub hl [1, 0] rfl)
      · have h := nd_pos h c10
        refine lv_iload_n hx hb dX13_bind_81 rfl (lv_at hl 3 rfl) ?_
        refine lv_iconst (v := (-1)) hx hb dX13_bind_82 (by decide) ?_
        refine lv_ixor hx hb dX13_bind_83 ?_
        refine lv_goto (tgt := 110) hx hb dX13_bind_84 (by decide) ?_
        exact (db_X13_bind_110 C K J2) (y0) ((sI s0 25)) ((x3 ^^^ (-1))) s0 _ _ _ h hP hD hS (lv_sub hl [1, 0] rfl)
    · have h := nd_pos h c9
      refine lv_iload_n hx hb dX13_bind_71 rfl (lv_at hl 3 rfl) ?_
      refine lv_ineg hx hb dX13_bind_72 ?_
      refine lv_goto (tgt := 110) hx hb dX13_bind_73 (by decide) ?_
      exact (db_X13_bind_110 C K J2) (y0) ((sI s0 25)) ((-x3)) s0 _ _ _ h hP hD hS (lv_sub hl [1, 0] rfl)
  · have h := nd_pos h c8
    refine lv_goto (tgt := 2) hx hb dX13_bind_55 (by decide) ?_
    exact (J2) (y0) s0 _ _ _ h hP hD hS (lv_sub hl [1, 0] rfl)
set_option maxHeartbeats 40000000 in
set_option maxRecDepth 100000 in
theorem db_X13_bind_49 {p : Program} {l : Launch} {e : Env} {s : State} {m : MethodId} {args : Array Value} {below : List Frame} {meth : Method} {c : Code} {Q : State → Prop} {A : Nat → Prop} {dC : Nat → ClassId} {dI : Nat → Nat → Nat} {a : Nat → Nat} {ac : Nat → ClassId} {n : Nat} {r : St} (C : nd_C p l s m args c A (dC, dI) cX13_bind 4 RX13 ow_dm_X13_bind (dk_X13 ac)) (K : nd_Kv p l e (headSpec ow_dm_X13_bind ({ frames := 0, cells := 0, slots := 0, locals := 0 })).room s m args below meth c Q A (dC, dI) cX13_bind (St) (dw_X13 a ac) r) {g2 : Int32 → (St) → Option (St)} (J2 : dj_X13_bind_2 p l e s m args below meth c Q A dC dI a ac g2 r) : dj_X13_bind_49 p l e s m args below meth c Q A dC dI a ac (df_X13_bind_49 n g2) r := by
  obtain ⟨hlt, hx, hb, hml, hown, hts, hN, hA, hK⟩ := id C
  intro x2 x3 s0 H locs ls h hP hD hS hl
  unfold df_X13_bind_49 at h
  refine lv_iconst (v := 0) hx hb dX13_bind_49 (by decide) ?_
  exact (db_X13_bind_50 C K J2) (x2) (x3) (0) s0 _ _ _ h hP hD hS (lv_sub hl [0, 1, 2] rfl)
set_option maxHeartbeats 40000000 in
set_option maxRecDepth 100000 in
theorem dB_X13_bind_2 {p : Program} {l : Launch} {e : Env} {s : State} {m : MethodId} {args : Array Value} {below : List Frame} {meth : Method} {c : Code} {Q : State → Prop} {A : Nat → Prop} {dC : Nat → ClassId} {dI : Nat → Nat → Nat} {a : Nat → Nat} {ac : Nat → ClassId} {n : Nat} {r : St} (C : nd_C p l s m args c A (dC, dI) cX13_bind 4 RX13 ow_dm_X13_bind (dk_X13 ac)) (K : nd_Kv p l e (headSpec ow_dm_X13_bind ({ frames := 0, cells := 0, slots := 0, locals := 0 })).room s m args below meth c Q A (dC, dI) cX13_bind (St) (dw_X13 a ac) r) {g2 : Int32 → (St) → Option (St)} (J2 : dj_X13_bind_2 p l e s m args below meth c Q A dC dI a ac g2 r) : dj_X13_bind_2 p l e s m args below meth c Q A dC dI a ac (dF_X13_bind_2 n g2) r := by
  obtain ⟨hlt, hx, hb, hml, hown, hts, hN, hA, hK⟩ := id C
  intro x1 s0 H locs ls h hP hD hS hl
  unfold dF_X13_bind_2 at h
  refine lv_iload_n hx hb dX13_bind_2 rfl (lv_at hl 1 rfl) ?_
  refine lv_if_eq (tgt := 124) hx hb dX13_bind_3 (by decide) (fun c1 => ?_) (fun c1 => ?_)
  · have h := nd_pos h c1
    exact (db_X13_bind_124 C K)  s0 _ _ _ h hP hD hS (lv_sub hl [] rfl)
  · have h := nd_neg h c1
    refine lv_aload_n hx hb dX13_bind_6 rfl (lv_at hl 0 rfl) ?_
    refine va_get (D := (dC, dI)) (ci := 14) (v := .int (sI s0 24)) (C := RX13) (T := TX13) (N := 37) hx hb hts hi_dm_X13_bind_X13 hown hK hP 0 rfl rfl 35 (by decide) (hts (.fieldLink RX13 464 "TimeMachineModel$Assembler" "signs" "I") (List.mem_of_getElem? (i := 1) rfl)) (fun _ h9 => h9) rfl dX13_bind_7 ?_
    refine lv_if_le (tgt := 124) hx hb dX13_bind_10 (by decide) (fun c2 => ?_) (fun c2 => ?_)
    · have h := nd_pos h c2
      exact (db_X13_bind_124 C K)  s0 _ _ _ h hP hD hS (lv_sub hl [] rfl)
    · have h := nd_neg h c2
      refine lv_aload_n hx hb dX13_bind_13 rfl (lv_at hl 0 rfl) ?_
      refine va_get (D := (dC, dI)) (ci := 14) (v := .ref (a 10)) (C := RX13) (T := TX13) (N := 37) hx hb hts hi_dm_X13_bind_X13 hown hK hP 0 rfl rfl 34 (by decide) (hts (.fieldLink RX13 344 "TimeMachineModel$Assembler" "pile" "[I") (List.mem_of_getElem? (i := 2) rfl)) (fun _ h9 => h9) rfl dX13_bind_14 ?_
      refine lv_aload_n hx hb dX13_bind_17 rfl (lv_at hl 0 rfl) ?_
      refine va_get (D := (dC, dI)) (ci := 14) (v := .int (sI s0 24)) (C := RX13) (T := TX13) (N := 37) hx hb hts hi_dm_X13_bind_X13 hown hK hP 0 rfl rfl 35 (by decide) (hts (.fieldLink RX13 464 "TimeMachineModel$Assembler" "signs" "I") (List.mem_of_getElem? (i := 1) rfl)) (fun _ h9 => h9) rfl dX13_bind_18 ?_
      refine lv_iconst (v := 1) hx hb dX13_bind_21 (by decide) ?_
      refine lv_isub hx hb dX13_bind_22 ?_
      obtain ⟨i3, h⟩ := nd_ck_e h
      refine va_iald (i := ((sI s0 24) - 1)) hx hb hK hP 10 9 rfl rfl i3 dX13_bind_23 ?_
      refine lv_topi (fun z4 ez4 => ?_)
      have h := nd_at h ez4
      refine lv_istore_n (lv' := [(2, .int z4), (0, .ref (a 0)), (1, .int x1)]) hx hb dX13_bind_24 rfl hl (by decide) rfl (fun ls hl => ?_)
      refine lv_aload_n hx hb dX13_bind_25 rfl (lv_at hl 1 rfl) ?_
      refine va_get (D := (dC, dI)) (ci := 14) (v := .ref (a 10)) (C := RX13) (T := TX13) (N := 37) hx hb hts hi_dm_X13_bind_X13 hown hK hP 0 rfl rfl 34 (by decide) (hts (.fieldLink RX13 344 "TimeMachineModel$Assembler" "pile" "[I") (List.mem_of_getElem? (i := 2) rfl)) (fun _ h9 => h9) rfl dX13_bind_26 ?_
      refine lv_aload_n hx hb dX13_bind_29 rfl (lv_at hl 1 rfl) ?_
      refine va_get (D := (dC, dI)) (ci := 14) (v := .int (sI s0 25)) (C := RX13) (T := TX13) (N := 37) hx hb hts hi_dm_X13_bind_X13 hown hK hP 0 rfl rfl 36 (by decide) (hts (.fieldLink RX13 467 "TimeMachineModel$Assembler" "values" "I") (List.mem_of_getElem? (i := 3) rfl)) (fun _ h9 => h9) rfl dX13_bind_30 ?_
      obtain ⟨i5, h⟩ := nd_ck_e h
      refine va_iald (i := (sI s0 25)) hx hb hK hP 10 9 rfl rfl i5 dX13_bind_33 ?_
      refine lv_topi (fun z6 ez6 => ?_)
      have h := nd_at h ez6
      refine lv_istore_n (lv' := [(3, .int z6), (2, .int z4), (0, .ref (a 0)), (1, .int x1)]) hx hb dX13_bind_34 rfl hl (by decide) rfl (fun ls hl => ?_)
      refine lv_iload_n hx hb dX13_bind_35 rfl (lv_at hl 1 rfl) ?_
      refine lv_iconst (v := 1) hx hb dX13_bind_36 (by decide) ?_
      refine lv_icmp_le (tgt := 49) hx hb dX13_bind_37 (by decide) (fun c7 => ?_) (fun c7 => ?_)
      · have h := nd_pos h c7
        exact (db_X13_bind_49 C K J2) (z4) (z6) s0 _ _ _ h hP hD hS (lv_sub hl [2, 1, 0] rfl)
      · have h := nd_neg h c7
        refine lv_iload_n hx hb dX13_bind_40 rfl (lv_at hl 1 rfl) ?_
        refine lv_iconst (v := 5) hx hb dX13_bind_41 (by decide) ?_
        refine lv_icmp_gt (tgt := 49) hx hb dX13_bind_42 (by decide) (fun c15 => ?_) (fun c15 => ?_)
        · have h := nd_pos h c15
          exact (db_X13_bind_49 C K J2) (z4) (z6) s0 _ _ _ h hP hD hS (lv_sub hl [2, 1, 0] rfl)
        · have h := nd_neg h c15
          refine lv_iconst (v := 1) hx hb dX13_bind_45 (by decide) ?_
          refine lv_goto (tgt := 50) hx hb dX13_bind_46 (by decide) ?_
          exact (db_X13_bind_50 C K J2) (z4) (z6) (1) s0 _ _ _ h hP hD hS (lv_sub hl [2, 1, 0] rfl)
set_option maxHeartbeats 40000000 in
set_option maxRecDepth 100000 in
theorem db_X13_bind_2 {p : Program} {l : Launch} {e : Env} {s : State} {m : MethodId} {args : Array Value} {below : List Frame} {meth : Method} {c : Code} {Q : State → Prop} {A : Nat → Prop} {dC : Nat → ClassId} {dI : Nat → Nat → Nat} {a : Nat → Nat} {ac : Nat → ClassId} {n : Nat} {r : St} (C : nd_C p l s m args c A (dC, dI) cX13_bind 4 RX13 ow_dm_X13_bind (dk_X13 ac)) (K : nd_Kv p l e (headSpec ow_dm_X13_bind ({ frames := 0, cells := 0, slots := 0, locals := 0 })).room s m args below meth c Q A (dC, dI) cX13_bind (St) (dw_X13 a ac) r) (k : Nat) : dj_X13_bind_2 p l e s m args below meth c Q A dC dI a ac (df_X13_bind_2 n k) r := by
  induction k with
  | zero => intro x1 s0 H locs ls h; exact nomatch (show (none : Option (St)) = some r from h)
  | succ k ih => exact dB_X13_bind_2 C K ih
set_option maxHeartbeats 40000000 in
set_option maxRecDepth 100000 in
theorem db_X13_bind_0 {p : Program} {l : Launch} {e : Env} {s : State} {m : MethodId} {args : Array Value} {below : List Frame} {meth : Method} {c : Code} {Q : State → Prop} {A : Nat → Prop} {dC : Nat → ClassId} {dI : Nat → Nat → Nat} {a : Nat → Nat} {ac : Nat → ClassId} {n : Nat} {r : St} (C : nd_C p l s m args c A (dC, dI) cX13_bind 4 RX13 ow_dm_X13_bind (dk_X13 ac)) (K : nd_Kv p l e (headSpec ow_dm_X13_bind ({ frames := 0, cells := 0, slots := 0, locals := 0 })).room s m args below meth c Q A (dC, dI) cX13_bind (St) (dw_X13 a ac) r) : dj_X13_bind_0 p l e s m args below meth c Q A dC dI a ac (df_X13_bind_0 n) r := by
  obtain ⟨hlt, hx, hb, hml, hown, hts, hN, hA, hK⟩ := id C
  intro s0 H locs ls h hP hD hS hl
  unfold df_X13_bind_0 at h
  refine lv_iconst (v := 1) hx hb dX13_bind_0 (by decide) ?_
  refine lv_istore_n (lv' := [(1, .int 1), (0, .ref (a 0))]) hx hb dX13_bind_1 rfl hl (by decide) rfl (fun ls hl => ?_)
  exact (db_X13_bind_2 C K n) (1) s0 _ _ _ h hP hD hS (lv_sub hl [1, 0] rfl)
set_option maxHeartbeats 40000000 in
set_option maxRecDepth 100000 in
theorem dm_X13_bind (l : Launch) (hlt : l.stackTraces = false) (dC : Nat → ClassId) (dI : Nat → Nat → Nat) (a : Nat → Nat) (ac : Nat → ClassId) (n : Nat) (s0 : St) {r : St} (h : df_X13_bind n s0 = some r) (sz : Nat) : Met l yX13_bind ow_dm_X13_bind ({ frames := 0, cells := 0, slots := 0, locals := 0 }) (va_Pc [.ref (a 0)] (fun U => U.heap.size = sz ∧ va_P (dC, dI) vwCl (dw_X13 a ac s0) U.heap ∧ va_K (dC, dI) vwCl (dk_X13 ac) U ∧ va_D (fun _ => True) (dw_X13 a ac s0) ∧ nv_E dI (va_A (dw_X13 a ac s0) sz) U)) (va_Qv (fun _ => True) (fun (_ : Unit) t => va_P (dC, dI) vwCl (dw_X13 a ac r) t.heap ∧ va_K (dC, dI) vwCl (dk_X13 ac) t ∧ va_D (va_A (dw_X13 a ac s0) sz) (dw_X13 a ac r)) (va_A (dw_X13 a ac s0) sz)) 0 0 (va_A (dw_X13 a ac s0) sz) := by
  refine Met.ofW (cc := cX13_bind) (maxL := 4) (ret := none) (by decide) rfl ?_
  intro p e s m args below meth c s₁ B hml hv
  obtain ⟨rfl, hsz, hP, hK, hD0, hN⟩ := hv
  have hx := B.exec
  have hb := B.bytes
  have hr := B.returns
  have hts := atoms_spec (ws := ow_dm_X13_bind) B.pre
  have hown : s.vm.findClass RX13 = some m.cls := findClass_of_methodNamed B.named
  have hlocks := B.notSynchronized
  subst hsz
  have hD := hD0.self (sz := s.heap.size)
  generalize hAe : va_A (dw_X13 a ac s0) s.heap.size = A at hD hN ⊢
  have hA : ∀ q : Nat, s.heap.size ≤ q → A q := fun q h => by rw [← hAe]; exact Or.inr h
  have hl := lv_entry ([.ref (a 0)]) (n := 4) (Nat.le_of_ble_eq_true rfl)
  rw [lg_entry_eq]
  generalize (lg_sl ([.ref (a 0)]) ++ List.replicate (4 - (lg_sl ([.ref (a 0)])).length) Slot.unset).toArray = ls at hl ⊢
  have hl : lv_has ls 4 [(0, .ref (a 0))] := hl
  exact db_X13_bind_0 (dC := dC) (dI := dI) (a := a) (ac := ac) (n := n) (r := r) ⟨hlt, hx, hb, hml, hown, hts, hN, hA, hK⟩ (fun pc τ H locs ls d er hP hD hS => by subst er; exact W.vret hx hb hr (fun t ht hW => ⟨⟨(), rfl, trivial, by rw [ht]; exact hP, va_K.moved hW.alike hK, hD⟩, hS.F ht⟩) hS.2.2 d) s0 _ _ _ h hP hD va_S.rf (lv_sub hl [0] rfl)
def ow_dm_X13_name : List Cond := Cond.code yX13_name cX13_name 4 none :: ([Cond.fieldLink RX13 371 "TimeMachineModel$Assembler" "to" "I", Cond.fieldLink RX13 368 "TimeMachineModel$Assembler" "from" "I", Cond.fieldLink RX13 483 "TimeMachineModel$Assembler" "loose" "Z", Cond.fieldLink RX13 457 "TimeMachineModel$Assembler" "missing" "Z", Cond.methodLink RX13 461 yX13_valueOf, Cond.instanceMethod yX13_valueOf, Cond.selects RX13 yX13_valueOf yX13_valueOf, Cond.initialized RX13, Cond.methodLink RX13 489 yX13_value, Cond.instanceMethod yX13_value, Cond.selects RX13 yX13_value yX13_value, Cond.fieldLink RX13 486 "TimeMachineModel$Assembler" "address" "I", Cond.fieldLink RX13 337 "TimeMachineModel$Assembler" "label" "[I", Cond.methodLink RX13 477 yX13_register, Cond.instanceMethod yX13_register, Cond.selects RX13 yX13_register yX13_register, Cond.methodLink RX13 480 yX13_find, Cond.instanceMethod yX13_find, Cond.selects RX13 yX13_find yX13_find, Cond.fieldLink RX13 324 "TimeMachineModel$Assembler" "text" "[C"] ++ (u_ws RX13 TX13 37 ++ (ow_dm_X13_valueOf ++ (ow_dm_X13_value ++ (ow_dm_X13_register ++ (ow_dm_X13_find ++ []))))))
theorem gd_dm_X13_name : ∀ w ∈ ow_dm_X13_name, (w.onTables && w.keeps) = true ∨ ∃ ty, w = Cond.arrayClass ty := List.forall_mem_cons.mpr ⟨good_of_word rfl, List.forall_mem_append.mpr ⟨fun w h => good_of_word (List.all_eq_true.mp (by decide +kernel) w h), List.forall_mem_append.mpr ⟨gu_X13, List.forall_mem_append.mpr ⟨gd_dm_X13_valueOf, List.forall_mem_append.mpr ⟨gd_dm_X13_value, List.forall_mem_append.mpr ⟨gd_dm_X13_register, List.forall_mem_append.mpr ⟨gd_dm_X13_find, fun _ h => nomatch h⟩⟩⟩⟩⟩⟩⟩
theorem hi_dm_X13_name_X13 : ∀ w ∈ u_ws RX13 TX13 37, w ∈ ow_dm_X13_name := fun w h => List.mem_cons_of_mem _ (List.mem_append_right _ (List.mem_append_left _ h))
theorem gi_dm_X13_name_0 : GoodIn ow_dm_X13_name (wsV RX13 461 RX13 yX13_valueOf ow_dm_X13_valueOf) := goodIn_app (goodIn_of _ (by decide +kernel)) (fun w h => ⟨List.mem_cons_of_mem _ (List.mem_append_right _ (List.mem_append_right _ (List.mem_append_left _ h))), gd_dm_X13_valueOf w h⟩)
theorem gi_dm_X13_name_1 : GoodIn ow_dm_X13_name (wsV RX13 489 RX13 yX13_value ow_dm_X13_value) := goodIn_app (goodIn_of _ (by decide +kernel)) (fun w h => ⟨List.mem_cons_of_mem _ (List.mem_append_right _ (List.mem_append_right _ (List.mem_append_right _ (List.mem_append_left _ h)))), gd_dm_X13_value w h⟩)
theorem gi_dm_X13_name_2 : GoodIn ow_dm_X13_name (wsV RX13 477 RX13 yX13_register ow_dm_X13_register) := goodIn_app (goodIn_of _ (by decide +kernel)) (fun w h => ⟨List.mem_cons_of_mem _ (List.mem_append_right _ (List.mem_append_right _ (List.mem_append_right _ (List.mem_append_right _ (List.mem_append_left _ h))))), gd_dm_X13_register w h⟩)
theorem gi_dm_X13_name_3 : GoodIn ow_dm_X13_name (wsV RX13 480 RX13 yX13_find ow_dm_X13_find) := goodIn_app (goodIn_of _ (by decide +kernel)) (fun w h => ⟨List.mem_cons_of_mem _ (List.mem_append_right _ (List.mem_append_right _ (List.mem_append_right _ (List.mem_append_right _ (List.mem_append_right _ (List.mem_append_left _ h)))))), gd_dm_X13_find w h⟩)
def dj_X13_name_161 (p : Program) (l : Launch) (e : Env) (s : State) (m : MethodId) (args : Array Value) (below : List Frame) (meth : Method) (c : Code) (Q : State → Prop) (A : Nat → Prop) (dC : Nat → ClassId) (dI : Nat → Nat → Nat) (a : Nat → Nat) (ac : Nat → ClassId) (g : Int32 → (St) → Option (St)) (r : St) : Prop := ∀ (y1 : Int32) (s0 : St) (H : Heap) (locs : List Loc) (ls : Array Slot), g y1 s0 = some r → va_P (dC, dI) vwCl (dw_X13 a ac s0) H → va_D A (dw_X13 a ac s0) → va_S A s.heap H locs → lv_has ls 4 [] → W p l e (headSpec ow_dm_X13_name ({ frames := 4, cells := 0, slots := 0, locals := 87 })).room s m args below meth c H locs 0 0 Q (F0 m 161 ls [.int y1, .ref (a 0)])
def dj_X13_name_133 (p : Program) (l : Launch) (e : Env) (s : State) (m : MethodId) (args : Array Value) (below : List Frame) (meth : Method) (c : Code) (Q : State → Prop) (A : Nat → Prop) (dC : Nat → ClassId) (dI : Nat → Nat → Nat) (a : Nat → Nat) (ac : Nat → ClassId) (g : Int32 → Int32 → Int32 → (St) → Option (St)) (r : St) : Prop := ∀ (x1 : Int32) (x2 : Int32) (y1 : Int32) (s0 : St) (H : Heap) (locs : List Loc) (ls : Array Slot), g x1 x2 y1 s0 = some r → va_P (dC, dI) vwCl (dw_X13 a ac s0) H → va_D A (dw_X13 a ac s0) → va_S A s.heap H locs → lv_has ls 4 [(0, .ref (a 0)), (1, .int x1), (2, .int x2)] → W p l e (headSpec ow_dm_X13_name ({ frames := 4, cells := 0, slots := 0, locals := 87 })).room s m args below meth c H locs 0 0 Q (F0 m 133 ls [.int y1, .ref (a 0)])
def dj_X13_name_128 (p : Program) (l : Launch) (e : Env) (s : State) (m : MethodId) (args : Array Value) (below : List Frame) (meth : Method) (c : Code) (Q : State → Prop) (A : Nat → Prop) (dC : Nat → ClassId) (dI : Nat → Nat → Nat) (a : Nat → Nat) (ac : Nat → ClassId) (g : Int32 → Int32 → (St) → Option (St)) (r : St) : Prop := ∀ (x1 : Int32) (x2 : Int32) (s0 : St) (H : Heap) (locs : List Loc) (ls : Array Slot), g x1 x2 s0 = some r → va_P (dC, dI) vwCl (dw_X13 a ac s0) H → va_D A (dw_X13 a ac s0) → va_S A s.heap H locs → lv_has ls 4 [(0, .ref (a 0)), (1, .int x1), (2, .int x2)] → W p l e (headSpec ow_dm_X13_name ({ frames := 4, cells := 0, slots := 0, locals := 87 })).room s m args below meth c H locs 0 0 Q (F0 m 128 ls [.ref (a 0)])
def dj_X13_name_132 (p : Program) (l : Launch) (e : Env) (s : State) (m : MethodId) (args : Array Value) (below : List Frame) (meth : Method) (c : Code) (Q : State → Prop) (A : Nat → Prop) (dC : Nat → ClassId) (dI : Nat → Nat → Nat) (a : Nat → Nat) (ac : Nat → ClassId) (g : Int32 → Int32 → (St) → Option (St)) (r : St) : Prop := ∀ (x1 : Int32) (x2 : Int32) (s0 : St) (H : Heap) (locs : List Loc) (ls : Array Slot), g x1 x2 s0 = some r → va_P (dC, dI) vwCl (dw_X13 a ac s0) H → va_D A (dw_X13 a ac s0) → va_S A s.heap H locs → lv_has ls 4 [(0, .ref (a 0)), (1, .int x1), (2, .int x2)] → W p l e (headSpec ow_dm_X13_name ({ frames := 4, cells := 0, slots := 0, locals := 87 })).room s m args below meth c H locs 0 0 Q (F0 m 132 ls [.ref (a 0)])
def dj_X13_name_109 (p : Program) (l : Launch) (e : Env) (s : State) (m : MethodId) (args : Array Value) (below : List Frame) (meth : Method) (c : Code) (Q : State → Prop) (A : Nat → Prop) (dC : Nat → ClassId) (dI : Nat → Nat → Nat) (a : Nat → Nat) (ac : Nat → ClassId) (g : Int32 → Int32 → Int32 → (St) → Option (St)) (r : St) : Prop := ∀ (x1 : Int32) (x2 : Int32) (y1 : Int32) (s0 : St) (H : Heap) (locs : List Loc) (ls : Array Slot), g x1 x2 y1 s0 = some r → va_P (dC, dI) vwCl (dw_X13 a ac s0) H → va_D A (dw_X13 a ac s0) → va_S A s.heap H locs → lv_has ls 4 [(0, .ref (a 0)), (1, .int x1), (2, .int x2)] → W p l e (headSpec ow_dm_X13_name ({ frames := 4, cells := 0, slots := 0, locals := 87 })).room s m args below meth c H locs 0 0 Q (F0 m 109 ls [.int y1, .ref (a 0)])
def dj_X13_name_104 (p : Program) (l : Launch) (e : Env) (s : State) (m : MethodId) (args : Array Value) (below : List Frame) (meth : Method) (c : Code) (Q : State → Prop) (A : Nat → Prop) (dC : Nat → ClassId) (dI : Nat → Nat → Nat) (a : Nat → Nat) (ac : Nat → ClassId) (g : Int32 → Int32 → (St) → Option (St)) (r : St) : Prop := ∀ (x1 : Int32) (x2 : Int32) (s0 : St) (H : Heap) (locs : List Loc) (ls : Array Slot), g x1 x2 s0 = some r → va_P (dC, dI) vwCl (dw_X13 a ac s0) H → va_D A (dw_X13 a ac s0) → va_S A s.heap H locs → lv_has ls 4 [(0, .ref (a 0)), (1, .int x1), (2, .int x2)] → W p l e (headSpec ow_dm_X13_name ({ frames := 4, cells := 0, slots := 0, locals := 87 })).room s m args below meth c H locs 0 0 Q (F0 m 104 ls [.ref (a 0)])
def dj_X13_name_91 (p : Program) (l : Launch) (e : Env) (s : State) (m : MethodId) (args : Array Value) (below : List Frame) (meth : Method) (c : Code) (Q : State → Prop) (A : Nat → Prop) (dC : Nat → ClassId) (dI : Nat → Nat → Nat) (a : Nat → Nat) (ac : Nat → ClassId) (g : Int32 → Int32 → Int32 → (St) → Option (St)) (r : St) : Prop := ∀ (x1 : Int32) (x2 : Int32) (y0 : Int32) (s0 : St) (H : Heap) (locs : List Loc) (ls : Array Slot), g x1 x2 y0 s0 = some r → va_P (dC, dI) vwCl (dw_X13 a ac s0) H → va_D A (dw_X13 a ac s0) → va_S A s.heap H locs → lv_has ls 4 [(0, .ref (a 0)), (1, .int x1), (2, .int x2)] → W p l e (headSpec ow_dm_X13_name ({ frames := 4, cells := 0, slots := 0, locals := 87 })).room s m args below meth c H locs 0 0 Q (F0 m 91 ls [.int y0])
def dj_X13_name_90 (p : Program) (l : Launch) (e : Env) (s : State) (m : MethodId) (args : Array Value) (below : List Frame) (meth : Method) (c : Code) (Q : State → Prop) (A : Nat → Prop) (dC : Nat → ClassId) (dI : Nat → Nat → Nat) (a : Nat → Nat) (ac : Nat → ClassId) (g : Int32 → Int32 → (St) → Option (St)) (r : St) : Prop := ∀ (x1 : Int32) (x2 : Int32) (s0 : St) (H : Heap) (locs : List Loc) (ls : Array Slot), g x1 x2 s0 = some r → va_P (dC, dI) vwCl (dw_X13 a ac s0) H → va_D A (dw_X13 a ac s0) → va_S A s.heap H locs → lv_has ls 4 [(0, .ref (a 0)), (1, .int x1), (2, .int x2)] → W p l e (headSpec ow_dm_X13_name ({ frames := 4, cells := 0, slots := 0, locals := 87 })).room s m args below meth c H locs 0 0 Q (F0 m 90 ls [])
def dj_X13_name_68 (p : Program) (l : Launch) (e : Env) (s : State) (m : MethodId) (args : Array Value) (below : List Frame) (meth : Method) (c : Code) (Q : State → Prop) (A : Nat → Prop) (dC : Nat → ClassId) (dI : Nat → Nat → Nat) (a : Nat → Nat) (ac : Nat → ClassId) (g : Int32 → Int32 → (St) → Option (St)) (r : St) : Prop := ∀ (x1 : Int32) (y0 : Int32) (s0 : St) (H : Heap) (locs : List Loc) (ls : Array Slot), g x1 y0 s0 = some r → va_P (dC, dI) vwCl (dw_X13 a ac s0) H → va_D A (dw_X13 a ac s0) → va_S A s.heap H locs → lv_has ls 4 [(0, .ref (a 0)), (1, .int x1)] → W p l e (headSpec ow_dm_X13_name ({ frames := 4, cells := 0, slots := 0, locals := 87 })).room s m args below meth c H locs 0 0 Q (F0 m 68 ls [.int y0])
def dj_X13_name_52 (p : Program) (l : Launch) (e : Env) (s : State) (m : MethodId) (args : Array Value) (below : List Frame) (meth : Method) (c : Code) (Q : State → Prop) (A : Nat → Prop) (dC : Nat → ClassId) (dI : Nat → Nat → Nat) (a : Nat → Nat) (ac : Nat → ClassId) (g : Int32 → (St) → Option (St)) (r : St) : Prop := ∀ (x1 : Int32) (s0 : St) (H : Heap) (locs : List Loc) (ls : Array Slot), g x1 s0 = some r → va_P (dC, dI) vwCl (dw_X13 a ac s0) H → va_D A (dw_X13 a ac s0) → va_S A s.heap H locs → lv_has ls 4 [(0, .ref (a 0)), (1, .int x1)] → W p l e (headSpec ow_dm_X13_name ({ frames := 4, cells := 0, slots := 0, locals := 87 })).room s m args below meth c H locs 0 0 Q (F0 m 52 ls [])
def dj_X13_name_32 (p : Program) (l : Launch) (e : Env) (s : State) (m : MethodId) (args : Array Value) (below : List Frame) (meth : Method) (c : Code) (Q : State → Prop) (A : Nat → Prop) (dC : Nat → ClassId) (dI : Nat → Nat → Nat) (a : Nat → Nat) (ac : Nat → ClassId) (g : Int32 → (St) → Option (St)) (r : St) : Prop := ∀ (y0 : Int32) (s0 : St) (H : Heap) (locs : List Loc) (ls : Array Slot), g y0 s0 = some r → va_P (dC, dI) vwCl (dw_X13 a ac s0) H → va_D A (dw_X13 a ac s0) → va_S A s.heap H locs → lv_has ls 4 [(0, .ref (a 0))] → W p l e (headSpec ow_dm_X13_name ({ frames := 4, cells := 0, slots := 0, locals := 87 })).room s m args below meth c H locs 0 0 Q (F0 m 32 ls [.int y0])
def dj_X13_name_31 (p : Program) (l : Launch) (e : Env) (s : State) (m : MethodId) (args : Array Value) (below : List Frame) (meth : Method) (c : Code) (Q : State → Prop) (A : Nat → Prop) (dC : Nat → ClassId) (dI : Nat → Nat → Nat) (a : Nat → Nat) (ac : Nat → ClassId) (g : (St) → Option (St)) (r : St) : Prop := ∀ (s0 : St) (H : Heap) (locs : List Loc) (ls : Array Slot), g s0 = some r → va_P (dC, dI) vwCl (dw_X13 a ac s0) H → va_D A (dw_X13 a ac s0) → va_S A s.heap H locs → lv_has ls 4 [(0, .ref (a 0))] → W p l e (headSpec ow_dm_X13_name ({ frames := 4, cells := 0, slots := 0, locals := 87 })).room s m args below meth c H locs 0 0 Q (F0 m 31 ls [])
def dj_X13_name_0 (p : Program) (l : Launch) (e : Env) (s : State) (m : MethodId) (args : Array Value) (below : List Frame) (meth : Method) (c : Code) (Q : State → Prop) (A : Nat → Prop) (dC : Nat → ClassId) (dI : Nat → Nat → Nat) (a : Nat → Nat) (ac : Nat → ClassId) (g : (St) → Option (St)) (r : St) : Prop := ∀ (s0 : St) (H : Heap) (locs : List Loc) (ls : Array Slot), g s0 = some r → va_P (dC, dI) vwCl (dw_X13 a ac s0) H → va_D A (dw_X13 a ac s0) → va_S A s.heap H locs → lv_has ls 4 [(0, .ref (a 0))] → W p l e (headSpec ow_dm_X13_name ({ frames := 4, cells := 0, slots := 0, locals := 87 })).room s m args below meth c H locs 0 0 Q (F0 m 0 ls [])
set_option maxHeartbeats 40000000 in
set_option maxRecDepth 100000 in
theorem db_X13_name_161 {p : Program} {l : Launch} {e : Env} {s : State} {m : MethodId} {args : Array Value} {below : List Frame} {meth : Method} {c : Code} {Q : State → Prop} {A : Nat → Prop} {dC : Nat → ClassId} {dI : Nat → Nat → Nat} {a : Nat → Nat} {ac : Nat → ClassId} {n : Nat} {r : St} (C : nd_C p l s m args c A (dC, dI) cX13_name 4 RX13 ow_dm_X13_name (dk_X13 ac)) (K : nd_Kv p l e (headSpec ow_dm_X13_name ({ frames := 4, cells := 0, slots := 0, locals := 87 })).room s m args below meth c Q A (dC, dI) cX13_name (St) (dw_X13 a ac) r) : dj_X13_name_161 p l e s m args below meth c Q A dC dI a ac (df_X13_name_161 n) r := by
  obtain ⟨hlt, hx, hb, hml, hown, hts, hN, hA, hK⟩ := id C
  intro y1 s0 H locs ls h hP hD hS hl
  unfold df_X13_name_161 at h
  obtain ⟨s18, hq, h⟩ := nd_b1_e h
  have hPc := hP
  have hDc := hD
  have hKc := hK
  have hFc := nd_rs hD hS hA
  refine nd_cVv (As := [.int y1]) (rest := []) (w' := dw_X13 a ac s18) ⟨hx, hb, hml, hown, hts⟩ (fun sz => dm_X13_value l hlt dC dI a ac n (y1) s0 hq sz) (cwV 1 hts gi_dm_X13_name_1 rfl rfl rfl (by decide +kernel) ⟨Nat.le_of_ble_eq_true rfl, Nat.le_of_ble_eq_true rfl⟩) hPc hDc hKc hS hA hN (va_recv hKc hPc (ci := 14) (q0 := 0) rfl rfl) rfl hl.1 rfl (Nat.le_of_ble_eq_true rfl) dX13_name_161 (fun H locs hP1 hD1 hk1 hS => ?_)
  have hP := hP1
  have hD := hD1.weaken (fun k q _ h => hFc q.1 h)
  exact K _ _ _ _ _ dX13_name_164 (Option.some.inj h).symm hP hD hS
set_option maxHeartbeats 40000000 in
set_option maxRecDepth 100000 in
theorem db_X13_name_133 {p : Program} {l : Launch} {e : Env} {s : State} {m : MethodId} {args : Array Value} {below : List Frame} {meth : Method} {c : Code} {Q : State → Prop} {A : Nat → Prop} {dC : Nat → ClassId} {dI : Nat → Nat → Nat} {a : Nat → Nat} {ac : Nat → ClassId} {n : Nat} {r : St} (C : nd_C p l s m args c A (dC, dI) cX13_name 4 RX13 ow_dm_X13_name (dk_X13 ac)) (K : nd_Kv p l e (headSpec ow_dm_X13_name ({ frames := 4, cells := 0, slots := 0, locals := 87 })).room s m args below meth c Q A (dC, dI) cX13_name (St) (dw_X13 a ac) r) : dj_X13_name_133 p l e s m args below meth c Q A dC dI a ac (df_X13_name_133 n) r := by
  obtain ⟨hlt, hx, hb, hml, hown, hts, hN, hA, hK⟩ := id C
  intro x1 x2 y1 s0 H locs ls h hP hD hS hl
  unfold df_X13_name_133 at h
  obtain ⟨n9, h⟩ := nd_f_e h
  obtain ⟨n10, h⟩ := nd_z_e ⟨_, rfl⟩ h
  refine va_put (D := (dC, dI)) (ci := 14) (v := .int y1) (ty := .boolean) (C := RX13) (T := TX13) (N := 37) hx hb hts hi_dm_X13_name_X13 tyX13 tyX13_ok nmX13 hown hK hP hD hS 0 rfl rfl 31 (by decide) (hts (.fieldLink RX13 457 "TimeMachineModel$Assembler" "missing" "Z") (List.mem_of_getElem? (i := 4) rfl)) (fun _ h9 => h9) rfl (by decide +kernel) n10 n9 (Nat.le_of_ble_eq_true rfl) dX13_name_133 (fun H locs hP hD hS => ?_)
  obtain ⟨s11, es11, h⟩ := nd_let_e h
  have hP : va_P (dC, dI) vwCl (dw_X13 a ac s11) H := by rw [es11]; exact hP
  have hD : va_D A (dw_X13 a ac s11) := by rw [es11]; exact hD
  refine lv_aload_n hx hb dX13_name_136 rfl (lv_at hl 0 rfl) ?_
  refine lv_iload_n hx hb dX13_name_137 rfl (lv_at hl 1 rfl) ?_
  refine lv_if_eq (tgt := 148) hx hb dX13_name_138 (by decide) (fun c12 => ?_) (fun c12 => ?_)
  · have h := nd_pos h c12
    refine lv_iload_n hx hb dX13_name_148 rfl (lv_at hl 2 rfl) ?_
    refine lv_if_ge (tgt := 156) hx hb dX13_name_149 (by decide) (fun c13 => ?_) (fun c13 => ?_)
    · have h := nd_pos h c13
      refine lv_aload_n hx hb dX13_name_156 rfl (lv_at hl 0 rfl) ?_
      refine lv_iload_n hx hb dX13_name_157 rfl (lv_at hl 2 rfl) ?_
      obtain ⟨q14, s15, hq, h⟩ := nd_b2_e h
      have hPc := hP
      have hDc := hD
      have hKc := hK
      have hFc := nd_rs hD hS hA
      refine nd_cVi (As := [.int x2]) (rest := [.ref (a 0)]) (q := q14) (w' := dw_X13 a ac s15) ⟨hx, hb, hml, hown, hts⟩ (fun sz => dm_X13_valueOf l hlt dC dI a ac n (x2) s11 hq sz) (cwV 1 hts gi_dm_X13_name_0 rfl rfl rfl (by decide +kernel) ⟨Nat.le_of_ble_eq_true rfl, Nat.le_of_ble_eq_true rfl⟩) hPc hDc hKc hS hA hN (va_recv hKc hPc (ci := 14) (q0 := 0) rfl rfl) rfl hl.1 rfl (Nat.le_of_ble_eq_true rfl) dX13_name_158 (fun H locs hP1 hD1 hk1 hS => ?_)
      have hP := hP1
      have hD := hD1.weaken (fun k q _ h => hFc q.1 h)
      exact (db_X13_name_161 C K) (q14) s15 _ _ _ h hP hD hS (lv_sub hl [] rfl)
    · have h := nd_neg h c13
      refine lv_iconst (v := 0) hx hb dX13_name_152 (by decide) ?_
      refine lv_goto (tgt := 161) hx hb dX13_name_153 (by decide) ?_
      exact (db_X13_name_161 C K) (0) s11 _ _ _ h hP hD hS (lv_sub hl [] rfl)
  · have h := nd_neg h c12
    refine lv_aload_n hx hb dX13_name_141 rfl (lv_at hl 0 rfl) ?_
    refine va_get (D := (dC, dI)) (ci := 14) (v := .int (sI s11 17)) (C := RX13) (T := TX13) (N := 37) hx hb hts hi_dm_X13_name_X13 hown hK hP 0 rfl rfl 26 (by decide) (hts (.fieldLink RX13 486 "TimeMachineModel$Assembler" "address" "I") (List.mem_of_getElem? (i := 12) rfl)) (fun _ h9 => h9) rfl dX13_name_142 ?_
    refine lv_goto (tgt := 161) hx hb dX13_name_145 (by decide) ?_
    exact (db_X13_name_161 C K) ((sI s11 17)) s11 _ _ _ h hP hD hS (lv_sub hl [] rfl)
set_option maxHeartbeats 40000000 in
set_option maxRecDepth 100000 in
theorem db_X13_name_128 {p : Program} {l : Launch} {e : Env} {s : State} {m : MethodId} {args : Array Value} {below : List Frame} {meth : Method} {c : Code} {Q : State → Prop} {A : Nat → Prop} {dC : Nat → ClassId} {dI : Nat → Nat → Nat} {a : Nat → Nat} {ac : Nat → ClassId} {n : Nat} {r : St} (C : nd_C p l s m args c A (dC, dI) cX13_name 4 RX13 ow_dm_X13_name (dk_X13 ac)) (K : nd_Kv p l e (headSpec ow_dm_X13_name ({ frames := 4, cells := 0, slots := 0, locals := 87 })).room s m args below meth c Q A (dC, dI) cX13_name (St) (dw_X13 a ac) r) : dj_X13_name_128 p l e s m args below meth c Q A dC dI a ac (df_X13_name_128 n) r := by
  obtain ⟨hlt, hx, hb, hml, hown, hts, hN, hA, hK⟩ := id C
  intro x1 x2 s0 H locs ls h hP hD hS hl
  unfold df_X13_name_128 at h
  refine lv_iconst (v := 1) hx hb dX13_name_128 (by decide) ?_
  refine lv_goto (tgt := 133) hx hb dX13_name_129 (by decide) ?_
  exact (db_X13_name_133 C K) (x1) (x2) (1) s0 _ _ _ h hP hD hS (lv_sub hl [0, 1, 2] rfl)
set_option maxHeartbeats 40000000 in
set_option maxRecDepth 100000 in
theorem db_X13_name_132 {p : Program} {l : Launch} {e : Env} {s : State} {m : MethodId} {args : Array Value} {below : List Frame} {meth : Method} {c : Code} {Q : State → Prop} {A : Nat → Prop} {dC : Nat → ClassId} {dI : Nat → Nat → Nat} {a : Nat → Nat} {ac : Nat → ClassId} {n : Nat} {r : St} (C : nd_C p l s m args c A (dC, dI) cX13_name 4 RX13 ow_dm_X13_name (dk_X13 ac)) (K : nd_Kv p l e (headSpec ow_dm_X13_name ({ frames := 4, cells := 0, slots := 0, locals := 87 })).room s m args below meth c Q A (dC, dI) cX13_name (St) (dw_X13 a ac) r) : dj_X13_name_132 p l e s m args below meth c Q A dC dI a ac (df_X13_name_132 n) r := by
  obtain ⟨hlt, hx, hb, hml, hown, hts, hN, hA, hK⟩ := id C
  intro x1 x2 s0 H locs ls h hP hD hS hl
  unfold df_X13_name_132 at h
  refine lv_iconst (v := 0) hx hb dX13_name_132 (by decide) ?_
  exact (db_X13_name_133 C K) (x1) (x2) (0) s0 _ _ _ h hP hD hS (lv_sub hl [0, 1, 2] rfl)
set_option maxHeartbeats 40000000 in
set_option maxRecDepth 100000 in
theorem db_X13_name_109 {p : Program} {l : Launch} {e : Env} {s : State} {m : MethodId} {args : Array Value} {below : List Frame} {meth : Method} {c : Code} {Q : State → Prop} {A : Nat → Prop} {dC : Nat → ClassId} {dI : Nat → Nat → Nat} {a : Nat → Nat} {ac : Nat → ClassId} {n : Nat} {r : St} (C : nd_C p l s m args c A (dC, dI) cX13_name 4 RX13 ow_dm_X13_name (dk_X13 ac)) (K : nd_Kv p l e (headSpec ow_dm_X13_name ({ frames := 4, cells := 0, slots := 0, locals := 87 })).room s m args below meth c Q A (dC, dI) cX13_name (St) (dw_X13 a ac) r) : dj_X13_name_109 p l e s m args below meth c Q A dC dI a ac (df_X13_name_109 n) r := by
  obtain ⟨hlt, hx, hb, hml, hown, hts, hN, hA, hK⟩ := id C
  intro x1 x2 y1 s0 H locs ls h hP hD hS hl
  unfold df_X13_name_109 at h
  obtain ⟨n5, h⟩ := nd_f_e h
  obtain ⟨n6, h⟩ := nd_z_e ⟨_, rfl⟩ h
  refine va_put (D := (dC, dI)) (ci := 14) (v := .int y1) (ty := .boolean) (C := RX13) (T := TX13) (N := 37) hx hb hts hi_dm_X13_name_X13 tyX13 tyX13_ok nmX13 hown hK hP hD hS 0 rfl rfl 33 (by decide) (hts (.fieldLink RX13 483 "TimeMachineModel$Assembler" "loose" "Z") (List.mem_of_getElem? (i := 3) rfl)) (fun _ h9 => h9) rfl (by decide +kernel) n6 n5 (Nat.le_of_ble_eq_true rfl) dX13_name_109 (fun H locs hP hD hS => ?_)
  obtain ⟨s7, es7, h⟩ := nd_let_e h
  have hP : va_P (dC, dI) vwCl (dw_X13 a ac s7) H := by rw [es7]; exact hP
  have hD : va_D A (dw_X13 a ac s7) := by rw [es7]; exact hD
  refine lv_aload_n hx hb dX13_name_112 rfl (lv_at hl 0 rfl) ?_
  refine lv_aload_n hx hb dX13_name_113 rfl (lv_at hl 0 rfl) ?_
  refine va_get (D := (dC, dI)) (ci := 14) (v := .int (sI s7 21)) (C := RX13) (T := TX13) (N := 37) hx hb hts hi_dm_X13_name_X13 hown hK hP 0 rfl rfl 31 (by decide) (hts (.fieldLink RX13 457 "TimeMachineModel$Assembler" "missing" "Z") (List.mem_of_getElem? (i := 4) rfl)) (fun _ h9 => h9) rfl dX13_name_114 ?_
  refine lv_if_ne (tgt := 128) hx hb dX13_name_117 (by decide) (fun c8 => ?_) (fun c8 => ?_)
  · have h := nd_neg h c8
    exact (db_X13_name_128 C K) (x1) (x2) s7 _ _ _ h hP hD hS (lv_sub hl [0, 1, 2] rfl)
  · have h := nd_pos h c8
    refine lv_iload_n hx hb dX13_name_120 rfl (lv_at hl 1 rfl) ?_
    refine lv_if_ne (tgt := 132) hx hb dX13_name_121 (by decide) (fun c20 => ?_) (fun c20 => ?_)
    · have h := nd_neg h c20
      exact (db_X13_name_132 C K) (x1) (x2) s7 _ _ _ h hP hD hS (lv_sub hl [0, 1, 2] rfl)
    · have h := nd_pos h c20
      refine lv_iload_n hx hb dX13_name_124 rfl (lv_at hl 2 rfl) ?_
      refine lv_if_ge (tgt := 132) hx hb dX13_name_125 (by decide) (fun c21 => ?_) (fun c21 => ?_)
      · have h := nd_pos h c21
        exact (db_X13_name_132 C K) (x1) (x2) s7 _ _ _ h hP hD hS (lv_sub hl [0, 1, 2] rfl)
      · have h := nd_neg h c21
        exact (db_X13_name_128 C K) (x1) (x2) s7 _ _ _ h hP hD hS (lv_sub hl [0, 1, 2] rfl)
set_option maxHeartbeats 40000000 in
set_option maxRecDepth 100000 in
theorem db_X13_name_104 {p : Program} {l : Launch} {e : Env} {s : State} {m : MethodId} {args : Array Value} {below : List Frame} {meth : Method} {c : Code} {Q : State → Prop} {A : Nat → Prop} {dC : Nat → ClassId} {dI : Nat → Nat → Nat} {a : Nat → Nat} {ac : Nat → ClassId} {n : Nat} {r : St} (C : nd_C p l s m args c A (dC, dI) cX13_name 4 RX13 ow_dm_X13_name (dk_X13 ac)) (K : nd_Kv p l e (headSpec ow_dm_X13_name ({ frames := 4, cells := 0, slots := 0, locals := 87 })).room s m args below meth c Q A (dC, dI) cX13_name (St) (dw_X13 a ac) r) : dj_X13_name_104 p l e s m args below meth c Q A dC dI a ac (df_X13_name_104 n) r := by
  obtain ⟨hlt, hx, hb, hml, hown, hts, hN, hA, hK⟩ := id C
  intro x1 x2 s0 H locs ls h hP hD hS hl
  unfold df_X13_name_104 at h
  refine lv_iconst (v := 1) hx hb dX13_name_104 (by decide) ?_
  refine lv_goto (tgt := 109) hx hb dX13_name_105 (by decide) ?_
  exact (db_X13_name_109 C K) (x1) (x2) (1) s0 _ _ _ h hP hD hS (lv_sub hl [0, 1, 2] rfl)
set_option maxHeartbeats 40000000 in
set_option maxRecDepth 100000 in
theorem db_X13_name_91 {p : Program} {l : Launch} {e : Env} {s : State} {m : MethodId} {args : Array Value} {below : List Frame} {meth : Method} {c : Code} {Q : State → Prop} {A : Nat → Prop} {dC : Nat → ClassId} {dI : Nat → Nat → Nat} {a : Nat → Nat} {ac : Nat → ClassId} {n : Nat} {r : St} (C : nd_C p l s m args c A (dC, dI) cX13_name 4 RX13 ow_dm_X13_name (dk_X13 ac)) (K : nd_Kv p l e (headSpec ow_dm_X13_name ({ frames := 4, cells := 0, slots := 0, locals := 87 })).room s m args below meth c Q A (dC, dI) cX13_name (St) (dw_X13 a ac) r) : dj_X13_name_91 p l e s m args below meth c Q A dC dI a ac (df_X13_name_91 n) r := by
  obtain ⟨hlt, hx, hb, hml, hown, hts, hN, hA, hK⟩ := id C
  intro x1 x2 y0 s0 H locs ls h hP hD hS hl
  unfold df_X13_name_91 at h
  refine lv_istore_n (lv' := [(3, .int y0), (0, .ref (a 0)), (1, .int x1), (2, .int x2)]) hx hb dX13_name_91 rfl hl (by decide) rfl (fun ls hl => ?_)
  refine lv_aload_n hx hb dX13_name_92 rfl (lv_at hl 1 rfl) ?_
  refine lv_aload_n hx hb dX13_name_93 rfl (lv_at hl 1 rfl) ?_
  refine va_get (D := (dC, dI)) (ci := 14) (v := .int (sI s0 23)) (C := RX13) (T := TX13) (N := 37) hx hb hts hi_dm_X13_name_X13 hown hK hP 0 rfl rfl 33 (by decide) (hts (.fieldLink RX13 483 "TimeMachineModel$Assembler" "loose" "Z") (List.mem_of_getElem? (i := 3) rfl)) (fun _ h9 => h9) rfl dX13_name_94 ?_
  refine lv_if_ne (tgt := 104) hx hb dX13_name_97 (by decide) (fun c4 => ?_) (fun c4 => ?_)
  · have h := nd_neg h c4
    exact (db_X13_name_104 C K) (x1) (x2) s0 _ _ _ h hP hD hS (lv_sub hl [1, 2, 3] rfl)
  · have h := nd_pos h c4
    refine lv_iload_n hx hb dX13_name_100 rfl (lv_at hl 0 rfl) ?_
    refine lv_if_ne (tgt := 108) hx hb dX13_name_101 (by decide) (fun c22 => ?_) (fun c22 => ?_)
    · have h := nd_neg h c22
      refine lv_iconst (v := 0) hx hb dX13_name_108 (by decide) ?_
      exact (db_X13_name_109 C K) (x1) (x2) (0) s0 _ _ _ h hP hD hS (lv_sub hl [1, 2, 3] rfl)
    · have h := nd_pos h c22
      exact (db_X13_name_104 C K) (x1) (x2) s0 _ _ _ h hP hD hS (lv_sub hl [1, 2, 3] rfl)
set_option maxHeartbeats 40000000 in
set_option maxRecDepth 100000 in
theorem db_X13_name_90 {p : Program} {l : Launch} {e : Env} {s : State} {m : MethodId} {args : Array Value} {below : List Frame} {meth : Method} {c : Code} {Q : State → Prop} {A : Nat → Prop} {dC : Nat → ClassId} {dI : Nat → Nat → Nat} {a : Nat → Nat} {ac : Nat → ClassId} {n : Nat} {r : St} (C : nd_C p l s m args c A (dC, dI) cX13_name 4 RX13 ow_dm_X13_name (dk_X13 ac)) (K : nd_Kv p l e (headSpec ow_dm_X13_name ({ frames := 4, cells := 0, slots := 0, locals := 87 })).room s m args below meth c Q A (dC, dI) cX13_name (St) (dw_X13 a ac) r) : dj_X13_name_90 p l e s m args below meth c Q A dC dI a ac (df_X13_name_90 n) r := by
  obtain ⟨hlt, hx, hb, hml, hown, hts, hN, hA, hK⟩ := id C
  intro x1 x2 s0 H locs ls h hP hD hS hl
  unfold df_X13_name_90 at h
  refine lv_iconst (v := 0) hx hb dX13_name_90 (by decide) ?_
  exact (db_X13_name_91 C K) (x1) (x2) (0) s0 _ _ _ h hP hD hS (lv_sub hl [0, 1, 2] rfl)
set_option maxHeartbeats 40000000 in
set_option maxRecDepth 100000 in
theorem db_X13_name_68 {p : Program} {l : Launch} {e : Env} {s : State} {m : MethodId} {args : Array Value} {below : List Frame} {meth : Method} {c : Code} {Q : State → Prop} {A : Nat → Prop} {dC : Nat → ClassId} {dI : Nat → Nat → Nat} {a : Nat → Nat} {ac : Nat → ClassId} {n : Nat} {r : St} (C : nd_C p l s m args c A (dC, dI) cX13_name 4 RX13 ow_dm_X13_name (dk_X13 ac)) (K : nd_Kv p l e (headSpec ow_dm_X13_name ({ frames := 4, cells := 0, slots := 0, locals := 87 })).room s m args below meth c Q A (dC, dI) cX13_name (St) (dw_X13 a ac) r) : dj_X13_name_68 p l e s m args below meth c Q A dC dI a ac (df_X13_name_68 n) r := by
  obtain ⟨hlt, hx, hb, hml, hown, hts, hN, hA, hK⟩ := id C
  intro x1 y0 s0 H locs ls h hP hD hS hl
  unfold df_X13_name_68 at h
  refine lv_istore_n (lv' := [(2, .int y0), (0, .ref (a 0)), (1, .int x1)]) hx hb dX13_name_68 rfl hl (by decide) rfl (fun ls hl => ?_)
  refine lv_iload_n hx hb dX13_name_69 rfl (lv_at hl 0 rfl) ?_
  refine lv_if_lt (tgt := 90) hx hb dX13_name_70 (by decide) (fun c3 => ?_) (fun c3 => ?_)
  · have h := nd_pos h c3
    exact (db_X13_name_90 C K) (x1) (y0) s0 _ _ _ h hP hD hS (lv_sub hl [1, 2, 0] rfl)
  · have h := nd_neg h c3
    refine lv_aload_n hx hb dX13_name_73 rfl (lv_at hl 1 rfl) ?_
    refine va_get (D := (dC, dI)) (ci := 14) (v := .ref (a 8)) (C := RX13) (T := TX13) (N := 37) hx hb hts hi_dm_X13_name_X13 hown hK hP 0 rfl rfl 11 (by decide) (hts (.fieldLink RX13 337 "TimeMachineModel$Assembler" "label" "[I") (List.mem_of_getElem? (i := 13) rfl)) (fun _ h9 => h9) rfl dX13_name_74 ?_
    refine lv_iload_n hx hb dX13_name_77 rfl (lv_at hl 0 rfl) ?_
    obtain ⟨i23, h⟩ := nd_ck_e h
    refine va_iald (i := y0) hx hb hK hP 8 7 rfl rfl i23 dX13_name_78 ?_
    refine lv_bipush (v := 17) hx hb dX13_name_79 (by decide) ?_
    refine lv_ishr hx hb dX13_name_81 ?_
    refine lv_iconst (v := 2) hx hb dX13_name_82 (by decide) ?_
    refine lv_icmp_ne (tgt := 90) hx hb dX13_name_83 (by decide) (fun c24 => ?_) (fun c24 => ?_)
    · have h := nd_neg h c24
      exact (db_X13_name_90 C K) (x1) (y0) s0 _ _ _ h hP hD hS (lv_sub hl [1, 2, 0] rfl)
    · have h := nd_pos h c24
      refine lv_iconst (v := 1) hx hb dX13_name_86 (by decide) ?_
      refine lv_goto (tgt := 91) hx hb dX13_name_87 (by decide) ?_
      exact (db_X13_name_91 C K) (x1) (y0) (1) s0 _ _ _ h hP hD hS (lv_sub hl [1, 2, 0] rfl)
set_option maxHeartbeats 40000000 in
set_option maxRecDepth 100000 in
theorem db_X13_name_52 {p : Program} {l : Launch} {e : Env} {s : State} {m : MethodId} {args : Array Value} {below : List Frame} {meth : Method} {c : Code} {Q : State → Prop} {A : Nat → Prop} {dC : Nat → ClassId} {dI : Nat → Nat → Nat} {a : Nat → Nat} {ac : Nat → ClassId} {n : Nat} {r : St} (C : nd_C p l s m args c A (dC, dI) cX13_name 4 RX13 ow_dm_X13_name (dk_X13 ac)) (K : nd_Kv p l e (headSpec ow_dm_X13_name ({ frames := 4, cells := 0, slots := 0, locals := 87 })).room s m args below meth c Q A (dC, dI) cX13_name (St) (dw_X13 a ac) r) : dj_X13_name_52 p l e s m args below meth c Q A dC dI a ac (df_X13_name_52 n) r := by
  obtain ⟨hlt, hx, hb, hml, hown, hts, hN, hA, hK⟩ := id C
  intro x1 s0 H locs ls h hP hD hS hl
  unfold df_X13_name_52 at h
  refine lv_iconst (v := (-1)) hx hb dX13_name_52 (by decide) ?_
  refine lv_goto (tgt := 68) hx hb dX13_name_53 (by decide) ?_
  exact (db_X13_name_68 C K) (x1) ((-1)) s0 _ _ _ h hP hD hS (lv_sub hl [0, 1] rfl)
set_option maxHeartbeats 40000000 in
set_option maxRecDepth 100000 in
theorem db_X13_name_32 {p : Program} {l : Launch} {e : Env} {s : State} {m : MethodId} {args : Array Value} {below : List Frame} {meth : Method} {c : Code} {Q : State → Prop} {A : Nat → Prop} {dC : Nat → ClassId} {dI : Nat → Nat → Nat} {a : Nat → Nat} {ac : Nat → ClassId} {n : Nat} {r : St} (C : nd_C p l s m args c A (dC, dI) cX13_name 4 RX13 ow_dm_X13_name (dk_X13 ac)) (K : nd_Kv p l e (headSpec ow_dm_X13_name ({ frames := 4, cells := 0, slots := 0, locals := 87 })).room s m args below meth c Q A (dC, dI) cX13_name (St) (dw_X13 a ac) r) : dj_X13_name_32 p l e s m args below meth c Q A dC dI a ac (df_X13_name_32 n) r := by
  obtain ⟨hlt, hx, hb, hml, hown, hts, hN, hA, hK⟩ := id C
  intro y0 s0 H locs ls h hP hD hS hl
  unfold df_X13_name_32 at h
  refine lv_istore_n (lv' := [(1, .int y0), (0, .ref (a 0))]) hx hb dX13_name_32 rfl hl (by decide) rfl (fun ls hl => ?_)
  refine lv_iload_n hx hb dX13_name_33 rfl (lv_at hl 0 rfl) ?_
  refine lv_if_ne (tgt := 52) hx hb dX13_name_34 (by decide) (fun c2 => ?_) (fun c2 => ?_)
  · have h := nd_neg h c2
    exact (db_X13_name_52 C K) (y0) s0 _ _ _ h hP hD hS (lv_sub hl [1, 0] rfl)
  · have h := nd_pos h c2
    refine lv_aload_n hx hb dX13_name_37 rfl (lv_at hl 1 rfl) ?_
    refine lv_aload_n hx hb dX13_name_38 rfl (lv_at hl 1 rfl) ?_
    refine va_get (D := (dC, dI)) (ci := 14) (v := .int (sI s0 9)) (C := RX13) (T := TX13) (N := 37) hx hb hts hi_dm_X13_name_X13 hown hK hP 0 rfl rfl 18 (by decide) (hts (.fieldLink RX13 368 "TimeMachineModel$Assembler" "from" "I") (List.mem_of_getElem? (i := 2) rfl)) (fun _ h9 => h9) rfl dX13_name_39 ?_
    refine lv_aload_n hx hb dX13_name_42 rfl (lv_at hl 1 rfl) ?_
    refine va_get (D := (dC, dI)) (ci := 14) (v := .int (sI s0 10)) (C := RX13) (T := TX13) (N := 37) hx hb hts hi_dm_X13_name_X13 hown hK hP 0 rfl rfl 19 (by decide) (hts (.fieldLink RX13 371 "TimeMachineModel$Assembler" "to" "I") (List.mem_of_getElem? (i := 1) rfl)) (fun _ h9 => h9) rfl dX13_name_43 ?_
    obtain ⟨q25, s26, hq, h⟩ := nd_b2_e h
    have hPc := hP
    have hDc := hD
    have hKc := hK
    have hFc := nd_rs hD hS hA
    refine nd_cVi (As := [.int (sI s0 9), .int (sI s0 10)]) (rest := []) (q := q25) (w' := dw_X13 a ac s26) ⟨hx, hb, hml, hown, hts⟩ (fun sz => dm_X13_register l hlt dC dI a ac n ((sI s0 9)) ((sI s0 10)) s0 hq sz) (cwV 2 hts gi_dm_X13_name_2 rfl rfl rfl (by decide +kernel) ⟨Nat.le_of_ble_eq_true rfl, Nat.le_of_ble_eq_true rfl⟩) hPc hDc hKc hS hA hN (va_recv hKc hPc (ci := 14) (q0 := 0) rfl rfl) rfl hl.1 rfl (Nat.le_of_ble_eq_true rfl) dX13_name_46 (fun H locs hP1 hD1 hk1 hS => ?_)
    have hP := hP1
    have hD := hD1.weaken (fun k q _ h => hFc q.1 h)
    refine lv_if_lt (tgt := 56) hx hb dX13_name_49 (by decide) (fun c28 => ?_) (fun c28 => ?_)
    · have h := nd_pos h c28
      refine lv_aload_n hx hb dX13_name_56 rfl (lv_at hl 1 rfl) ?_
      refine lv_aload_n hx hb dX13_name_57 rfl (lv_at hl 1 rfl) ?_
      refine va_get (D := (dC, dI)) (ci := 14) (v := .int (sI s26 9)) (C := RX13) (T := TX13) (N := 37) hx hb hts hi_dm_X13_name_X13 hown hK hP 0 rfl rfl 18 (by decide) (hts (.fieldLink RX13 368 "TimeMachineModel$Assembler" "from" "I") (List.mem_of_getElem? (i := 2) rfl)) (fun _ h9 => h9) rfl dX13_name_58 ?_
      refine lv_aload_n hx hb dX13_name_61 rfl (lv_at hl 1 rfl) ?_
      refine va_get (D := (dC, dI)) (ci := 14) (v := .int (sI s26 10)) (C := RX13) (T := TX13) (N := 37) hx hb hts hi_dm_X13_name_X13 hown hK hP 0 rfl rfl 19 (by decide) (hts (.fieldLink RX13 371 "TimeMachineModel$Assembler" "to" "I") (List.mem_of_getElem? (i := 1) rfl)) (fun _ h9 => h9) rfl dX13_name_62 ?_
      obtain ⟨q29, s30, hq, h⟩ := nd_b2_e h
      have hPc := hP
      have hDc := hD
      have hKc := hK
      have hFc := nd_rs hD hS hA
      refine nd_cVi (As := [.int (sI s26 9), .int (sI s26 10)]) (rest := []) (q := q29) (w' := dw_X13 a ac s30) ⟨hx, hb, hml, hown, hts⟩ (fun sz => dm_X13_find l hlt dC dI a ac n ((sI s26 9)) ((sI s26 10)) s26 hq sz) (cwV 2 hts gi_dm_X13_name_3 rfl rfl rfl (by decide +kernel) ⟨Nat.le_of_ble_eq_true rfl, Nat.le_of_ble_eq_true rfl⟩) hPc hDc hKc hS hA hN (va_recv hKc hPc (ci := 14) (q0 := 0) rfl rfl) rfl hl.1 rfl (Nat.le_of_ble_eq_true rfl) dX13_name_65 (fun H locs hP1 hD1 hk1 hS => ?_)
      have hP := hP1
      have hD := hD1.weaken (fun k q _ h => hFc q.1 h)
      exact (db_X13_name_68 C K) (y0) (q29) s30 _ _ _ h hP hD hS (lv_sub hl [1, 0] rfl)
    · have h := nd_neg h c28
      exact (db_X13_name_52 C K) (y0) s26 _ _ _ h hP hD hS (lv_sub hl [1, 0] rfl)
set_option maxHeartbeats 40000000 in
set_option maxRecDepth 100000 in
theorem db_X13_name_31 {p : Program} {l : Launch} {e : Env} {s : State} {m : MethodId} {args : Array Value} {below : List Frame} {meth : Method} {c : Code} {Q : State → Prop} {A : Nat → Prop} {dC : Nat → ClassId} {dI : Nat → Nat → Nat} {a : Nat → Nat} {ac : Nat → ClassId} {n : Nat} {r : St} (C : nd_C p l s m args c A (dC, dI) cX13_name 4 RX13 ow_dm_X13_name (dk_X13 ac)) (K : nd_Kv p l e (headSpec ow_dm_X13_name ({ frames := 4, cells := 0, slots := 0, locals := 87 })).room s m args below meth c Q A (dC, dI) cX13_name (St) (dw_X13 a ac) r) : dj_X13_name_31 p l e s m args below meth c Q A dC dI a ac (df_X13_name_31 n) r := by
  obtain ⟨hlt, hx, hb, hml, hown, hts, hN, hA, hK⟩ := id C
  intro s0 H locs ls h hP hD hS hl
  unfold df_X13_name_31 at h
  refine lv_iconst (v := 0) hx hb dX13_name_31 (by decide) ?_
  exact (db_X13_name_32 C K) (0) s0 _ _ _ h hP hD hS (lv_sub hl [0] rfl)
set_option maxHeartbeats 40000000 in
set_option maxRecDepth 100000 in
theorem db_X13_name_0 {p : Program} {l : Launch} {e : Env} {s : State} {m : MethodId} {args : Array Value} {below : List Frame} {meth : Method} {c : Code} {Q : State → Prop} {A : Nat → Prop} {dC : Nat → ClassId} {dI : Nat → Nat → Nat} {a : Nat → Nat} {ac : Nat → ClassId} {n : Nat} {r : St} (C : nd_C p l s m args c A (dC, dI) cX13_name 4 RX13 ow_dm_X13_name (dk_X13 ac)) (K : nd_Kv p l e (headSpec ow_dm_X13_name ({ frames := 4, cells := 0, slots := 0, locals := 87 })).room s m args below meth c Q A (dC, dI) cX13_name (St) (dw_X13 a ac) r) : dj_X13_name_0 p l e s m args below meth c Q A dC dI a ac (df_X13_name_0 n) r := by
  obtain ⟨hlt, hx, hb, hml, hown, hts, hN, hA, hK⟩ := id C
  intro s0 H locs ls h hP hD hS hl
  unfold df_X13_name_0 at h
  refine lv_aload_n hx hb dX13_name_0 rfl (lv_at hl 0 rfl) ?_
  refine va_get (D := (dC, dI)) (ci := 14) (v := .int (sI s0 10)) (C := RX13) (T := TX13) (N := 37) hx hb hts hi_dm_X13_name_X13 hown hK hP 0 rfl rfl 19 (by decide) (hts (.fieldLink RX13 371 "TimeMachineModel$Assembler" "to" "I") (List.mem_of_getElem? (i := 1) rfl)) (fun _ h9 => h9) rfl dX13_name_1 ?_
  refine lv_aload_n hx hb dX13_name_4 rfl (lv_at hl 0 rfl) ?_
  refine va_get (D := (dC, dI)) (ci := 14) (v := .int (sI s0 9)) (C := RX13) (T := TX13) (N := 37) hx hb hts hi_dm_X13_name_X13 hown hK hP 0 rfl rfl 18 (by decide) (hts (.fieldLink RX13 368 "TimeMachineModel$Assembler" "from" "I") (List.mem_of_getElem? (i := 2) rfl)) (fun _ h9 => h9) rfl dX13_name_5 ?_
  refine lv_isub hx hb dX13_name_8 ?_
  refine lv_iconst (v := 1) hx hb dX13_name_9 (by decide) ?_
  refine lv_icmp_ne (tgt := 31) hx hb dX13_name_10 (by decide) (fun c1 => ?_) (fun c1 => ?_)
  · have h := nd_neg h c1
    exact (db_X13_name_31 C K)  s0 _ _ _ h hP hD hS (lv_sub hl [0] rfl)
  · have h := nd_pos h c1
    refine lv_aload_n hx hb dX13_name_13 rfl (lv_at hl 0 rfl) ?_
    refine va_get (D := (dC, dI)) (ci := 14) (v := .ref (a 4)) (C := RX13) (T := TX13) (N := 37) hx hb hts hi_dm_X13_name_X13 hown hK hP 0 rfl rfl 3 (by decide) (hts (.fieldLink RX13 324 "TimeMachineModel$Assembler" "text" "[C") (List.mem_of_getElem? (i := 20) rfl)) (fun _ h9 => h9) rfl dX13_name_14 ?_
    refine lv_aload_n hx hb dX13_name_17 rfl (lv_at hl 0 rfl) ?_
    refine va_get (D := (dC, dI)) (ci := 14) (v := .int (sI s0 9)) (C := RX13) (T := TX13) (N := 37) hx hb hts hi_dm_X13_name_X13 hown hK hP 0 rfl rfl 18 (by decide) (hts (.fieldLink RX13 368 "TimeMachineModel$Assembler" "from" "I") (List.mem_of_getElem? (i := 2) rfl)) (fun _ h9 => h9) rfl dX13_name_18 ?_
    obtain ⟨i32, h⟩ := nd_ck_e h
    refine va_cald (i := (sI s0 9)) hx hb hK hP 4 3 rfl rfl i32 dX13_name_21 ?_
    refine lv_bipush (v := 46) hx hb dX13_name_22 (by decide) ?_
    refine lv_icmp_ne (tgt := 31) hx hb dX13_name_24 (by decide) (fun c33 => ?_) (fun c33 => ?_)
    · have h := nd_neg h c33
      exact (db_X13_name_31 C K)  s0 _ _ _ h hP hD hS (lv_sub hl [0] rfl)
    · have h := nd_pos h c33
      refine lv_iconst (v := 1) hx hb dX13_name_27 (by decide) ?_
      refine lv_goto (tgt := 32) hx hb dX13_name_28 (by decide) ?_
      exact (db_X13_name_32 C K) (1) s0 _ _ _ h hP hD hS (lv_sub hl [0] rfl)
set_option maxHeartbeats 40000000 in
set_option maxRecDepth 100000 in
theorem dm_X13_name (l : Launch) (hlt : l.stackTraces = false) (dC : Nat → ClassId) (dI : Nat → Nat → Nat) (a : Nat → Nat) (ac : Nat → ClassId) (n : Nat) (s0 : St) {r : St} (h : df_X13_name n s0 = some r) (sz : Nat) : Met l yX13_name ow_dm_X13_name ({ frames := 4, cells := 0, slots := 0, locals := 87 }) (va_Pc [.ref (a 0)] (fun U => U.heap.size = sz ∧ va_P (dC, dI) vwCl (dw_X13 a ac s0) U.heap ∧ va_K (dC, dI) vwCl (dk_X13 ac) U ∧ va_D (fun _ => True) (dw_X13 a ac s0) ∧ nv_E dI (va_A (dw_X13 a ac s0) sz) U)) (va_Qv (fun _ => True) (fun (_ : Unit) t => va_P (dC, dI) vwCl (dw_X13 a ac r) t.heap ∧ va_K (dC, dI) vwCl (dk_X13 ac) t ∧ va_D (va_A (dw_X13 a ac s0) sz) (dw_X13 a ac r)) (va_A (dw_X13 a ac s0) sz)) 0 0 (va_A (dw_X13 a ac s0) sz) := by
  refine Met.ofW (cc := cX13_name) (maxL := 4) (ret := none) (by decide) rfl ?_
  intro p e s m args below meth c s₁ B hml hv
  obtain ⟨rfl, hsz, hP, hK, hD0, hN⟩ := hv
  have hx := B.exec
  have hb := B.bytes
  have hr := B.returns
  have hts := atoms_spec (ws := ow_dm_X13_name) B.pre
  have hown : s.vm.findClass RX13 = some m.cls := findClass_of_methodNamed B.named
  have hlocks := B.notSynchronized
  subst hsz
  have hD := hD0.self (sz := s.heap.size)
  generalize hAe : va_A (dw_X13 a ac s0) s.heap.size = A at hD hN ⊢
  have hA : ∀ q : Nat, s.heap.size ≤ q → A q := fun q h => by rw [← hAe]; exact Or.inr h
  have hl := lv_entry ([.ref (a 0)]) (n := 4) (Nat.le_of_ble_eq_true rfl)
  rw [lg_entry_eq]
  generalize (lg_sl ([.ref (a 0)]) ++ List.replicate (4 - (lg_sl ([.ref (a 0)])).length) Slot.unset).toArray = ls at hl ⊢
  have hl : lv_has ls 4 [(0, .ref (a 0))] := hl
  exact db_X13_name_0 (dC := dC) (dI := dI) (a := a) (ac := ac) (n := n) (r := r) ⟨hlt, hx, hb, hml, hown, hts, hN, hA, hK⟩ (fun pc τ H locs ls d er hP hD hS => by subst er; exact W.vret hx hb hr (fun t ht hW => ⟨⟨(), rfl, trivial, by rw [ht]; exact hP, va_K.moved hW.alike hK, hD⟩, hS.F ht⟩) hS.2.2 d) s0 _ _ _ h hP hD va_S.rf (lv_sub hl [0] rfl)
def ow_dm_X13_operand : List Cond := Cond.code yX13_operand cX13_operand 3 (some .boolean) :: ([Cond.fieldLink RX13 365 "TimeMachineModel$Assembler" "token" "I", Cond.methodLink RX13 492 yX13_name, Cond.instanceMethod yX13_name, Cond.selects RX13 yX13_name yX13_name, Cond.initialized RX13, Cond.methodLink RX13 509 yX13_bind, Cond.instanceMethod yX13_bind, Cond.selects RX13 yX13_bind yX13_bind, Cond.fieldLink RX13 399 "TimeMachineModel$Assembler" "number" "I", Cond.methodLink RX13 489 yX13_value, Cond.instanceMethod yX13_value, Cond.selects RX13 yX13_value yX13_value, Cond.fieldLink RX13 483 "TimeMachineModel$Assembler" "loose" "Z", Cond.fieldLink RX13 324 "TimeMachineModel$Assembler" "text" "[C", Cond.fieldLink RX13 371 "TimeMachineModel$Assembler" "to" "I", Cond.methodLink RX13 495 yX13_near, Cond.instanceMethod yX13_near, Cond.selects RX13 yX13_near yX13_near, Cond.methodLink RX13 416 yX13_scan, Cond.instanceMethod yX13_scan, Cond.selects RX13 yX13_scan yX13_scan, Cond.constantLong RX13 502 (584), Cond.methodLink RX13 499 yX13_sign, Cond.instanceMethod yX13_sign, Cond.selects RX13 yX13_sign yX13_sign, Cond.methodLink RX13 506 yX13_needs, Cond.instanceMethod yX13_needs, Cond.selects RX13 yX13_needs yX13_needs, Cond.constantLong RX13 504 (972), Cond.methodLink RX13 419 yX13_blame, Cond.instanceMethod yX13_blame, Cond.selects RX13 yX13_blame yX13_blame, Cond.fieldLink RX13 368 "TimeMachineModel$Assembler" "from" "I", Cond.methodLink RX13 423 yX13_packed, Cond.instanceMethod yX13_packed, Cond.selects RX13 yX13_packed yX13_packed] ++ (u_ws RX13 TX13 37 ++ (ow_dm_X13_name ++ (ow_dm_X13_bind ++ (ow_dm_X13_value ++ (ow_dm_X13_near ++ (ow_dm_X13_scan ++ (ow_dm_X13_sign ++ (ow_dm_X13_needs ++ (ow_dm_X13_blame ++ (ow_dm_X13_packed ++ [])))))))))))
theorem gd_dm_X13_operand : ∀ w ∈ ow_dm_X13_operand, (w.onTables && w.keeps) = true ∨ ∃ ty, w = Cond.arrayClass ty := List.forall_mem_cons.mpr ⟨good_of_word rfl, List.forall_mem_append.mpr ⟨fun w h => good_of_word (List.all_eq_true.mp (by decide +kernel) w h), List.forall_mem_append.mpr ⟨gu_X13, List.forall_mem_append.mpr ⟨gd_dm_X13_name, List.forall_mem_append.mpr ⟨gd_dm_X13_bind, List.forall_mem_append.mpr ⟨gd_dm_X13_value, List.forall_mem_append.mpr ⟨gd_dm_X13_near, List.forall_mem_append.mpr ⟨gd_dm_X13_scan, List.forall_mem_append.mpr ⟨gd_dm_X13_sign, List.forall_mem_append.mpr ⟨gd_dm_X13_needs, List.forall_mem_append.mpr ⟨gd_dm_X13_blame, List.forall_mem_append.mpr ⟨gd_dm_X13_packed, fun _ h => nomatch h⟩⟩⟩⟩⟩⟩⟩⟩⟩⟩⟩⟩
theorem hi_dm_X13_operand_X13 : ∀ w ∈ u_ws RX13 TX13 37, w ∈ ow_dm_X13_operand := fun w h => List.mem_cons_of_mem _ (List.mem_append_right _ (List.mem_append_left _ h))
theorem gi_dm_X13_operand_0 : GoodIn ow_dm_X13_operand (wsV RX13 492 RX13 yX13_name ow_dm_X13_name) := goodIn_app (goodIn_of _ (by decide +kernel)) (fun w h => ⟨List.mem_cons_of_mem _ (List.mem_append_right _ (List.mem_append_right _ (List.mem_append_left _ h))), gd_dm_X13_name w h⟩)
theorem gi_dm_X13_operand_1 : GoodIn ow_dm_X13_operand (wsV RX13 509 RX13 yX13_bind ow_dm_X13_bind) := goodIn_app (goodIn_of _ (by decide +kernel)) (fun w h => ⟨List.mem_cons_of_mem _ (List.mem_append_right _ (List.mem_append_right _ (List.mem_append_right _ (List.mem_append_left _ h)))), gd_dm_X13_bind w h⟩)
theorem gi_dm_X13_operand_2 : GoodIn ow_dm_X13_operand (wsV RX13 489 RX13 yX13_value ow_dm_X13_value) := goodIn_app (goodIn_of _ (by decide +kernel)) (fun w h => ⟨List.mem_cons_of_mem _ (List.mem_append_right _ (List.mem_append_right _ (List.mem_append_right _ (List.mem_append_right _ (List.mem_append_left _ h))))), gd_dm_X13_value w h⟩)
theorem gi_dm_X13_operand_3 : GoodIn ow_dm_X13_operand (wsV RX13 495 RX13 yX13_near ow_dm_X13_near) := goodIn_app (goodIn_of _ (by decide +kernel)) (fun w h => ⟨List.mem_cons_of_mem _ (List.mem_append_right _ (List.mem_append_right _ (List.mem_append_right _ (List.mem_append_right _ (List.mem_append_right _ (List.mem_append_left _ h)))))), gd_dm_X13_near w h⟩)
theorem gi_dm_X13_operand_4 : GoodIn ow_dm_X13_operand (wsV RX13 416 RX13 yX13_scan ow_dm_X13_scan) := goodIn_app (goodIn_of _ (by decide +kernel)) (fun w h => ⟨List.mem_cons_of_mem _ (List.mem_append_right _ (List.mem_append_right _ (List.mem_append_right _ (List.mem_append_right _ (List.mem_append_right _ (List.mem_append_right _ (List.mem_append_left _ h))))))), gd_dm_X13_scan w h⟩)
theorem gi_dm_X13_operand_5 : GoodIn ow_dm_X13_operand (wsV RX13 499 RX13 yX13_sign ow_dm_X13_sign) := goodIn_app (goodIn_of _ (by decide +kernel)) (fun w h => ⟨List.mem_cons_of_mem _ (List.mem_append_right _ (List.mem_append_right _ (List.mem_append_right _ (List.mem_append_right _ (List.mem_append_right _ (List.mem_append_right _ (List.mem_append_right _ (List.mem_append_left _ h)))))))), gd_dm_X13_sign w h⟩)
theorem gi_dm_X13_operand_6 : GoodIn ow_dm_X13_operand (wsV RX13 506 RX13 yX13_needs ow_dm_X13_needs) := goodIn_app (goodIn_of _ (by decide +kernel)) (fun w h => ⟨List.mem_cons_of_mem _ (List.mem_append_right _ (List.mem_append_right _ (List.mem_append_right _ (List.mem_append_right _ (List.mem_append_right _ (List.mem_append_right _ (List.mem_append_right _ (List.mem_append_right _ (List.mem_append_left _ h))))))))), gd_dm_X13_needs w h⟩)
theorem gi_dm_X13_operand_7 : GoodIn ow_dm_X13_operand (wsV RX13 419 RX13 yX13_blame ow_dm_X13_blame) := goodIn_app (goodIn_of _ (by decide +kernel)) (fun w h => ⟨List.mem_cons_of_mem _ (List.mem_append_right _ (List.mem_append_right _ (List.mem_append_right _ (List.mem_append_right _ (List.mem_append_right _ (List.mem_append_right _ (List.mem_append_right _ (List.mem_append_right _ (List.mem_append_right _ (List.mem_append_left _ h)))))))))), gd_dm_X13_blame w h⟩)
theorem gi_dm_X13_operand_8 : GoodIn ow_dm_X13_operand (wsV RX13 423 RX13 yX13_packed ow_dm_X13_packed) := goodIn_app (goodIn_of _ (by decide +kernel)) (fun w h => ⟨List.mem_cons_of_mem _ (List.mem_append_right _ (List.mem_append_right _ (List.mem_append_right _ (List.mem_append_right _ (List.mem_append_right _ (List.mem_append_right _ (List.mem_append_right _ (List.mem_append_right _ (List.mem_append_right _ (List.mem_append_right _ (List.mem_append_left _ h))))))))))), gd_dm_X13_packed w h⟩)
def dj_X13_operand_242 (p : Program) (l : Launch) (e : Env) (s : State) (m : MethodId) (args : Array Value) (below : List Frame) (meth : Method) (c : Code) (Q : State → Prop) (A : Nat → Prop) (dC : Nat → ClassId) (dI : Nat → Nat → Nat) (a : Nat → Nat) (ac : Nat → ClassId) (g : (St) → Option (Int32 × (St))) (r : Int32 × (St)) : Prop := ∀ (s0 : St) (H : Heap) (locs : List Loc) (ls : Array Slot), g s0 = some r → va_P (dC, dI) vwCl (dw_X13 a ac s0) H → va_D A (dw_X13 a ac s0) → va_S A s.heap H locs → lv_has ls 3 [(0, .ref (a 0))] → W p l e (headSpec ow_dm_X13_operand ({ frames := 6, cells := 0, slots := 0, locals := 135 })).room s m args below meth c H locs 0 0 Q (F0 m 242 ls [])
def dj_X13_operand_122 (p : Program) (l : Launch) (e : Env) (s : State) (m : MethodId) (args : Array Value) (below : List Frame) (meth : Method) (c : Code) (Q : State → Prop) (A : Nat → Prop) (dC : Nat → ClassId) (dI : Nat → Nat → Nat) (a : Nat → Nat) (ac : Nat → ClassId) (g : Int32 → Int32 → (St) → Option (Int32 × (St))) (r : Int32 × (St)) : Prop := ∀ (y2 : Int32) (y3 : Int32) (s0 : St) (H : Heap) (locs : List Loc) (ls : Array Slot), g y2 y3 s0 = some r → va_P (dC, dI) vwCl (dw_X13 a ac s0) H → va_D A (dw_X13 a ac s0) → va_S A s.heap H locs → lv_has ls 3 [(0, .ref (a 0))] → W p l e (headSpec ow_dm_X13_operand ({ frames := 6, cells := 0, slots := 0, locals := 135 })).room s m args below meth c H locs 0 0 Q (F0 m 122 ls [.int y3, .int y2, .ref (a 0), .ref (a 0)])
def dj_X13_operand_233 (p : Program) (l : Launch) (e : Env) (s : State) (m : MethodId) (args : Array Value) (below : List Frame) (meth : Method) (c : Code) (Q : State → Prop) (A : Nat → Prop) (dC : Nat → ClassId) (dI : Nat → Nat → Nat) (a : Nat → Nat) (ac : Nat → ClassId) (g : (St) → Option (Int32 × (St))) (r : Int32 × (St)) : Prop := ∀ (s0 : St) (H : Heap) (locs : List Loc) (ls : Array Slot), g s0 = some r → va_P (dC, dI) vwCl (dw_X13 a ac s0) H → va_D A (dw_X13 a ac s0) → va_S A s.heap H locs → lv_has ls 3 [] → W p l e (headSpec ow_dm_X13_operand ({ frames := 6, cells := 0, slots := 0, locals := 135 })).room s m args below meth c H locs 0 0 Q (F0 m 233 ls [])
def dj_X13_operand_216 (p : Program) (l : Launch) (e : Env) (s : State) (m : MethodId) (args : Array Value) (below : List Frame) (meth : Method) (c : Code) (Q : State → Prop) (A : Nat → Prop) (dC : Nat → ClassId) (dI : Nat → Nat → Nat) (a : Nat → Nat) (ac : Nat → ClassId) (g : Int32 → (St) → Option (Int32 × (St))) (r : Int32 × (St)) : Prop := ∀ (y1 : Int32) (s0 : St) (H : Heap) (locs : List Loc) (ls : Array Slot), g y1 s0 = some r → va_P (dC, dI) vwCl (dw_X13 a ac s0) H → va_D A (dw_X13 a ac s0) → va_S A s.heap H locs → lv_has ls 3 [(0, .ref (a 0))] → W p l e (headSpec ow_dm_X13_operand ({ frames := 6, cells := 0, slots := 0, locals := 135 })).room s m args below meth c H locs 0 0 Q (F0 m 216 ls [.int y1, .ref (a 0)])
def dj_X13_operand_202 (p : Program) (l : Launch) (e : Env) (s : State) (m : MethodId) (args : Array Value) (below : List Frame) (meth : Method) (c : Code) (Q : State → Prop) (A : Nat → Prop) (dC : Nat → ClassId) (dI : Nat → Nat → Nat) (a : Nat → Nat) (ac : Nat → ClassId) (g : Int64 → (St) → Option (Int32 × (St))) (r : Int32 × (St)) : Prop := ∀ (x1 : Int64) (s0 : St) (H : Heap) (locs : List Loc) (ls : Array Slot), g x1 s0 = some r → va_P (dC, dI) vwCl (dw_X13 a ac s0) H → va_D A (dw_X13 a ac s0) → va_S A s.heap H locs → lv_has ls 3 [(0, .ref (a 0)), (1, .long x1)] → W p l e (headSpec ow_dm_X13_operand ({ frames := 6, cells := 0, slots := 0, locals := 135 })).room s m args below meth c H locs 0 0 Q (F0 m 202 ls [])
def dj_X13_operand_180 (p : Program) (l : Launch) (e : Env) (s : State) (m : MethodId) (args : Array Value) (below : List Frame) (meth : Method) (c : Code) (Q : State → Prop) (A : Nat → Prop) (dC : Nat → ClassId) (dI : Nat → Nat → Nat) (a : Nat → Nat) (ac : Nat → ClassId) (g : Int64 → (St) → Option (Int32 × (St))) (r : Int32 × (St)) : Prop := ∀ (y0 : Int64) (s0 : St) (H : Heap) (locs : List Loc) (ls : Array Slot), g y0 s0 = some r → va_P (dC, dI) vwCl (dw_X13 a ac s0) H → va_D A (dw_X13 a ac s0) → va_S A s.heap H locs → lv_has ls 3 [(0, .ref (a 0))] → W p l e (headSpec ow_dm_X13_operand ({ frames := 6, cells := 0, slots := 0, locals := 135 })).room s m args below meth c H locs 0 0 Q (F0 m 180 ls [.long y0])
def dj_X13_operand_0 (p : Program) (l : Launch) (e : Env) (s : State) (m : MethodId) (args : Array Value) (below : List Frame) (meth : Method) (c : Code) (Q : State → Prop) (A : Nat → Prop) (dC : Nat → ClassId) (dI : Nat → Nat → Nat) (a : Nat → Nat) (ac : Nat → ClassId) (g : (St) → Option (Int32 × (St))) (r : Int32 × (St)) : Prop := ∀ (s0 : St) (H : Heap) (locs : List Loc) (ls : Array Slot), g s0 = some r → va_P (dC, dI) vwCl (dw_X13 a ac s0) H → va_D A (dw_X13 a ac s0) → va_S A s.heap H locs → lv_has ls 3 [(0, .ref (a 0))] → W p l e (headSpec ow_dm_X13_operand ({ frames := 6, cells := 0, slots := 0, locals := 135 })).room s m args below meth c H locs 0 0 Q (F0 m 0 ls [])
set_option maxHeartbeats 40000000 in
set_option maxRecDepth 100000 in
theorem db_X13_operand_242 {p : Program} {l : Launch} {e : Env} {s : State} {m : MethodId} {args : Array Value} {below : List Frame} {meth : Method} {c : Code} {Q : State → Prop} {A : Nat → Prop} {dC : Nat → ClassId} {dI : Nat → Nat → Nat} {a : Nat → Nat} {ac : Nat → ClassId} {n : Nat} {r : Int32 × (St)} (C : nd_C p l s m args c A (dC, dI) cX13_operand 3 RX13 ow_dm_X13_operand (dk_X13 ac)) (K : nd_Ki p l e (headSpec ow_dm_X13_operand ({ frames := 6, cells := 0, slots := 0, locals := 135 })).room s m args below meth c Q A (dC, dI) cX13_operand .boolean (St) (dw_X13 a ac) r) : dj_X13_operand_242 p l e s m args below meth c Q A dC dI a ac (df_X13_operand_242 n) r := by
  obtain ⟨hlt, hx, hb, hml, hown, hts, hN, hA, hK⟩ := id C
  intro s0 H locs ls h hP hD hS hl
  unfold df_X13_operand_242 at h
  refine lv_aload_n hx hb dX13_operand_242 rfl (lv_at hl 0 rfl) ?_
  obtain ⟨s6, hq, h⟩ := nd_b1_e h
  have hPc := hP
  have hDc := hD
  have hKc := hK
  have hFc := nd_rs hD hS hA
  refine nd_cVv (As := []) (rest := []) (w' := dw_X13 a ac s6) ⟨hx, hb, hml, hown, hts⟩ (fun sz => dm_X13_bind l hlt dC dI a ac n  s0 hq sz) (cwV 0 hts gi_dm_X13_operand_1 rfl rfl rfl (by decide +kernel) ⟨Nat.le_of_ble_eq_true rfl, Nat.le_of_ble_eq_true rfl⟩) hPc hDc hKc hS hA hN (va_recv hKc hPc (ci := 14) (q0 := 0) rfl rfl) rfl hl.1 rfl (Nat.le_of_ble_eq_true rfl) dX13_operand_243 (fun H locs hP1 hD1 hk1 hS => ?_)
  have hP := hP1
  have hD := hD1.weaken (fun k q _ h => hFc q.1 h)
  refine lv_iconst (v := 1) hx hb dX13_operand_246 (by decide) ?_
  exact K _ _ _ _ _ _ dX13_operand_247 (by first | rfl | decide) (Option.some.inj h).symm hP hD hS
set_option maxHeartbeats 40000000 in
set_option maxRecDepth 100000 in
theorem db_X13_operand_122 {p : Program} {l : Launch} {e : Env} {s : State} {m : MethodId} {args : Array Value} {below : List Frame} {meth : Method} {c : Code} {Q : State → Prop} {A : Nat → Prop} {dC : Nat → ClassId} {dI : Nat → Nat → Nat} {a : Nat → Nat} {ac : Nat → ClassId} {n : Nat} {r : Int32 × (St)} (C : nd_C p l s m args c A (dC, dI) cX13_operand 3 RX13 ow_dm_X13_operand (dk_X13 ac)) (K : nd_Ki p l e (headSpec ow_dm_X13_operand ({ frames := 6, cells := 0, slots := 0, locals := 135 })).room s m args below meth c Q A (dC, dI) cX13_operand .boolean (St) (dw_X13 a ac) r) : dj_X13_operand_122 p l e s m args below meth c Q A dC dI a ac (df_X13_operand_122 n) r := by
  obtain ⟨hlt, hx, hb, hml, hown, hts, hN, hA, hK⟩ := id C
  intro y2 y3 s0 H locs ls h hP hD hS hl
  unfold df_X13_operand_122 at h
  obtain ⟨q16, s17, hq, h⟩ := nd_b2_e h
  have hPc := hP
  have hDc := hD
  have hKc := hK
  have hFc := nd_rs hD hS hA
  refine nd_cVi (As := [.int y2, .int y3]) (rest := [.ref (a 0)]) (q := q16) (w' := dw_X13 a ac s17) ⟨hx, hb, hml, hown, hts⟩ (fun sz => dm_X13_near l hlt dC dI a ac n (y2) (y3) s0 hq sz) (cwV 2 hts gi_dm_X13_operand_3 rfl rfl rfl (by decide +kernel) ⟨Nat.le_of_ble_eq_true rfl, Nat.le_of_ble_eq_true rfl⟩) hPc hDc hKc hS hA hN (va_recv hKc hPc (ci := 14) (q0 := 0) rfl rfl) rfl hl.1 rfl (Nat.le_of_ble_eq_true rfl) dX13_operand_122 (fun H locs hP1 hD1 hk1 hS => ?_)
  have hP := hP1
  have hD := hD1.weaken (fun k q _ h => hFc q.1 h)
  obtain ⟨s20, hq, h⟩ := nd_b1_e h
  have hPc := hP
  have hDc := hD
  have hKc := hK
  have hFc := nd_rs hD hS hA
  refine nd_cVv (As := [.int q16]) (rest := []) (w' := dw_X13 a ac s20) ⟨hx, hb, hml, hown, hts⟩ (fun sz => dm_X13_value l hlt dC dI a ac n (q16) s17 hq sz) (cwV 1 hts gi_dm_X13_operand_2 rfl rfl rfl (by decide +kernel) ⟨Nat.le_of_ble_eq_true rfl, Nat.le_of_ble_eq_true rfl⟩) hPc hDc hKc hS hA hN (va_recv hKc hPc (ci := 14) (q0 := 0) rfl rfl) rfl hl.1 rfl (Nat.le_of_ble_eq_true rfl) dX13_operand_125 (fun H locs hP1 hD1 hk1 hS => ?_)
  have hP := hP1
  have hD := hD1.weaken (fun k q _ h => hFc q.1 h)
  refine lv_goto (tgt := 242) hx hb dX13_operand_128 (by decide) ?_
  exact (db_X13_operand_242 C K)  s20 _ _ _ h hP hD hS (lv_sub hl [0] rfl)
set_option maxHeartbeats 40000000 in
set_option maxRecDepth 100000 in
theorem db_X13_operand_233 {p : Program} {l : Launch} {e : Env} {s : State} {m : MethodId} {args : Array Value} {below : List Frame} {meth : Method} {c : Code} {Q : State → Prop} {A : Nat → Prop} {dC : Nat → ClassId} {dI : Nat → Nat → Nat} {a : Nat → Nat} {ac : Nat → ClassId} {n : Nat} {r : Int32 × (St)} (C : nd_C p l s m args c A (dC, dI) cX13_operand 3 RX13 ow_dm_X13_operand (dk_X13 ac)) (K : nd_Ki p l e (headSpec ow_dm_X13_operand ({ frames := 6, cells := 0, slots := 0, locals := 135 })).room s m args below meth c Q A (dC, dI) cX13_operand .boolean (St) (dw_X13 a ac) r) : dj_X13_operand_233 p l e s m args below meth c Q A dC dI a ac (df_X13_operand_233 n) r := by
  obtain ⟨hlt, hx, hb, hml, hown, hts, hN, hA, hK⟩ := id C
  intro s0 H locs ls h hP hD hS hl
  unfold df_X13_operand_233 at h
  refine lv_iconst (v := 0) hx hb dX13_operand_233 (by decide) ?_
  exact K _ _ _ _ _ _ dX13_operand_234 (by first | rfl | decide) (Option.some.inj h).symm hP hD hS
set_option maxHeartbeats 40000000 in
set_option maxRecDepth 100000 in
theorem db_X13_operand_216 {p : Program} {l : Launch} {e : Env} {s : State} {m : MethodId} {args : Array Value} {below : List Frame} {meth : Method} {c : Code} {Q : State → Prop} {A : Nat → Prop} {dC : Nat → ClassId} {dI : Nat → Nat → Nat} {a : Nat → Nat} {ac : Nat → ClassId} {n : Nat} {r : Int32 × (St)} (C : nd_C p l s m args c A (dC, dI) cX13_operand 3 RX13 ow_dm_X13_operand (dk_X13 ac)) (K : nd_Ki p l e (headSpec ow_dm_X13_operand ({ frames := 6, cells := 0, slots := 0, locals := 135 })).room s m args below meth c Q A (dC, dI) cX13_operand .boolean (St) (dw_X13 a ac) r) : dj_X13_operand_216 p l e s m args below meth c Q A dC dI a ac (df_X13_operand_216 n) r := by
  obtain ⟨hlt, hx, hb, hml, hown, hts, hN, hA, hK⟩ := id C
  intro y1 s0 H locs ls h hP hD hS hl
  unfold df_X13_operand_216 at h
  obtain ⟨s30, hq, h⟩ := nd_b1_e h
  have hPc := hP
  have hDc := hD
  have hKc := hK
  have hFc := nd_rs hD hS hA
  refine nd_cVv (As := [.int y1]) (rest := []) (w' := dw_X13 a ac s30) ⟨hx, hb, hml, hown, hts⟩ (fun sz => dm_X13_sign l hlt dC dI a ac n (y1) s0 hq sz) (cwV 1 hts gi_dm_X13_operand_5 rfl rfl rfl (by decide +kernel) ⟨Nat.le_of_ble_eq_true rfl, Nat.le_of_ble_eq_true rfl⟩) hPc hDc hKc hS hA hN (va_recv hKc hPc (ci := 14) (q0 := 0) rfl rfl) rfl hl.1 rfl (Nat.le_of_ble_eq_true rfl) dX13_operand_216 (fun H locs hP1 hD1 hk1 hS => ?_)
  have hP := hP1
  have hD := hD1.weaken (fun k q _ h => hFc q.1 h)
  refine lv_aload_n hx hb dX13_operand_219 rfl (lv_at hl 0 rfl) ?_
  refine lv_bipush (v := 40) hx hb dX13_operand_220 (by decide) ?_
  obtain ⟨q32, s33, hq, h⟩ := nd_b2_e h
  have hPc := hP
  have hDc := hD
  have hKc := hK
  have hFc := nd_rs hD hS hA
  refine nd_cVi (As := [.int 40]) (rest := []) (q := q32) (w' := dw_X13 a ac s33) ⟨hx, hb, hml, hown, hts⟩ (fun sz => dm_X13_needs l hlt dC dI a ac n (40) s30 hq sz) (cwV 1 hts gi_dm_X13_operand_6 rfl rfl rfl (by decide +kernel) ⟨Nat.le_of_ble_eq_true rfl, Nat.le_of_ble_eq_true rfl⟩) hPc hDc hKc hS hA hN (va_recv hKc hPc (ci := 14) (q0 := 0) rfl rfl) rfl hl.1 rfl (Nat.le_of_ble_eq_true rfl) dX13_operand_222 (fun H locs hP1 hD1 hk1 hS => ?_)
  have hP := hP1
  have hD := hD1.weaken (fun k q _ h => hFc q.1 h)
  refine lv_if_eq (tgt := 233) hx hb dX13_operand_225 (by decide) (fun c35 => ?_) (fun c35 => ?_)
  · have h := nd_pos h c35
    exact (db_X13_operand_233 C K)  s33 _ _ _ h hP hD hS (lv_sub hl [] rfl)
  · have h := nd_neg h c35
    refine lv_aload_n hx hb dX13_operand_228 rfl (lv_at hl 0 rfl) ?_
    refine lv_iconst (v := 1) hx hb dX13_operand_229 (by decide) ?_
    obtain ⟨s37, hq, h⟩ := nd_b1_e h
    have hPc := hP
    have hDc := hD
    have hKc := hK
    have hFc := nd_rs hD hS hA
    refine nd_cVv (As := [.int 1]) (rest := []) (w' := dw_X13 a ac s37) ⟨hx, hb, hml, hown, hts⟩ (fun sz => dm_X13_sign l hlt dC dI a ac n (1) s33 hq sz) (cwV 1 hts gi_dm_X13_operand_5 rfl rfl rfl (by decide +kernel) ⟨Nat.le_of_ble_eq_true rfl, Nat.le_of_ble_eq_true rfl⟩) hPc hDc hKc hS hA hN (va_recv hKc hPc (ci := 14) (q0 := 0) rfl rfl) rfl hl.1 rfl (Nat.le_of_ble_eq_true rfl) dX13_operand_230 (fun H locs hP1 hD1 hk1 hS => ?_)
    have hP := hP1
    have hD := hD1.weaken (fun k q _ h => hFc q.1 h)
    exact (db_X13_operand_233 C K)  s37 _ _ _ h hP hD hS (lv_sub hl [] rfl)
set_option maxHeartbeats 40000000 in
set_option maxRecDepth 100000 in
theorem db_X13_operand_202 {p : Program} {l : Launch} {e : Env} {s : State} {m : MethodId} {args : Array Value} {below : List Frame} {meth : Method} {c : Code} {Q : State → Prop} {A : Nat → Prop} {dC : Nat → ClassId} {dI : Nat → Nat → Nat} {a : Nat → Nat} {ac : Nat → ClassId} {n : Nat} {r : Int32 × (St)} (C : nd_C p l s m args c A (dC, dI) cX13_operand 3 RX13 ow_dm_X13_operand (dk_X13 ac)) (K : nd_Ki p l e (headSpec ow_dm_X13_operand ({ frames := 6, cells := 0, slots := 0, locals := 135 })).room s m args below meth c Q A (dC, dI) cX13_operand .boolean (St) (dw_X13 a ac) r) : dj_X13_operand_202 p l e s m args below meth c Q A dC dI a ac (df_X13_operand_202 n) r := by
  obtain ⟨hlt, hx, hb, hml, hown, hts, hN, hA, hK⟩ := id C
  intro x1 s0 H locs ls h hP hD hS hl
  unfold df_X13_operand_202 at h
  refine lv_aload_n hx hb dX13_operand_202 rfl (lv_at hl 0 rfl) ?_
  refine lv_lload_n hx hb dX13_operand_203 rfl (lv_at hl 1 rfl) ?_
  refine lv_ldc2 hx hb hown (hts (.constantLong RX13 502 (584)) (List.mem_of_getElem? (i := 22) rfl)) dX13_operand_204 ?_
  refine W.lcmp hx hb dX13_operand_207 ?_
  refine lv_if_ne (tgt := 215) hx hb dX13_operand_208 (by decide) (fun c28 => ?_) (fun c28 => ?_)
  · have h := nd_neg h c28
    refine lv_iconst (v := 5) hx hb dX13_operand_215 (by decide) ?_
    exact (db_X13_operand_216 C K) (5) s0 _ _ _ h hP hD hS (lv_sub hl [0] rfl)
  · have h := nd_pos h c28
    refine lv_iconst (v := 4) hx hb dX13_operand_211 (by decide) ?_
    refine lv_goto (tgt := 216) hx hb dX13_operand_212 (by decide) ?_
    exact (db_X13_operand_216 C K) (4) s0 _ _ _ h hP hD hS (lv_sub hl [0] rfl)
set_option maxHeartbeats 40000000 in
set_option maxRecDepth 100000 in
theorem db_X13_operand_180 {p : Program} {l : Launch} {e : Env} {s : State} {m : MethodId} {args : Array Value} {below : List Frame} {meth : Method} {c : Code} {Q : State → Prop} {A : Nat → Prop} {dC : Nat → ClassId} {dI : Nat → Nat → Nat} {a : Nat → Nat} {ac : Nat → ClassId} {n : Nat} {r : Int32 × (St)} (C : nd_C p l s m args c A (dC, dI) cX13_operand 3 RX13 ow_dm_X13_operand (dk_X13 ac)) (K : nd_Ki p l e (headSpec ow_dm_X13_operand ({ frames := 6, cells := 0, slots := 0, locals := 135 })).room s m args below meth c Q A (dC, dI) cX13_operand .boolean (St) (dw_X13 a ac) r) : dj_X13_operand_180 p l e s m args below meth c Q A dC dI a ac (df_X13_operand_180 n) r := by
  obtain ⟨hlt, hx, hb, hml, hown, hts, hN, hA, hK⟩ := id C
  intro y0 s0 H locs ls h hP hD hS hl
  unfold df_X13_operand_180 at h
  refine lv_lstore_n (lv' := [(1, .long y0), (0, .ref (a 0))]) hx hb dX13_operand_180 rfl hl (by decide) rfl (fun ls hl => ?_)
  refine lv_lload_n hx hb dX13_operand_181 rfl (lv_at hl 0 rfl) ?_
  refine lv_ldc2 hx hb hown (hts (.constantLong RX13 502 (584)) (List.mem_of_getElem? (i := 22) rfl)) dX13_operand_182 ?_
  refine W.lcmp hx hb dX13_operand_185 ?_
  refine lv_if_eq (tgt := 202) hx hb dX13_operand_186 (by decide) (fun c27 => ?_) (fun c27 => ?_)
  · have h := nd_pos h c27
    exact (db_X13_operand_202 C K) (y0) s0 _ _ _ h hP hD hS (lv_sub hl [1, 0] rfl)
  · have h := nd_neg h c27
    refine lv_lload_n hx hb dX13_operand_189 rfl (lv_at hl 0 rfl) ?_
    refine lv_ldc2 hx hb hown (hts (.constantLong RX13 504 (972)) (List.mem_of_getElem? (i := 29) rfl)) dX13_operand_190 ?_
    refine W.lcmp hx hb dX13_operand_193 ?_
    refine lv_if_eq (tgt := 202) hx hb dX13_operand_194 (by decide) (fun c39 => ?_) (fun c39 => ?_)
    · have h := nd_pos h c39
      exact (db_X13_operand_202 C K) (y0) s0 _ _ _ h hP hD hS (lv_sub hl [1, 0] rfl)
    · have h := nd_neg h c39
      refine lv_aload_n hx hb dX13_operand_197 rfl (lv_at hl 1 rfl) ?_
      refine lv_iconst (v := 1) hx hb dX13_operand_198 (by decide) ?_
      obtain ⟨s41, hq, h⟩ := nd_b1_e h
      have hPc := hP
      have hDc := hD
      have hKc := hK
      have hFc := nd_rs hD hS hA
      refine nd_cVv (As := [.int 1]) (rest := []) (w' := dw_X13 a ac s41) ⟨hx, hb, hml, hown, hts⟩ (fun sz => dm_X13_blame l hlt dC dI a ac n (1) s0 hq sz) (cwV 1 hts gi_dm_X13_operand_7 rfl rfl rfl (by decide +kernel) ⟨Nat.le_of_ble_eq_true rfl, Nat.le_of_ble_eq_true rfl⟩) hPc hDc hKc hS hA hN (va_recv hKc hPc (ci := 14) (q0 := 0) rfl rfl) rfl hl.1 rfl (Nat.le_of_ble_eq_true rfl) dX13_operand_199 (fun H locs hP1 hD1 hk1 hS => ?_)
      have hP := hP1
      have hD := hD1.weaken (fun k q _ h => hFc q.1 h)
      exact (db_X13_operand_202 C K) (y0) s41 _ _ _ h hP hD hS (lv_sub hl [1, 0] rfl)
set_option maxHeartbeats 40000000 in
set_option maxRecDepth 100000 in
theorem db_X13_operand_0 {p : Program} {l : Launch} {e : Env} {s : State} {m : MethodId} {args : Array Value} {below : List Frame} {meth : Method} {c : Code} {Q : State → Prop} {A : Nat → Prop} {dC : Nat → ClassId} {dI : Nat → Nat → Nat} {a : Nat → Nat} {ac : Nat → ClassId} {n : Nat} {r : Int32 × (St)} (C : nd_C p l s m args c A (dC, dI) cX13_operand 3 RX13 ow_dm_X13_operand (dk_X13 ac)) (K : nd_Ki p l e (headSpec ow_dm_X13_operand ({ frames := 6, cells := 0, slots := 0, locals := 135 })).room s m args below meth c Q A (dC, dI) cX13_operand .boolean (St) (dw_X13 a ac) r) : dj_X13_operand_0 p l e s m args below meth c Q A dC dI a ac (df_X13_operand_0 n) r := by
  obtain ⟨hlt, hx, hb, hml, hown, hts, hN, hA, hK⟩ := id C
  intro s0 H locs ls h hP hD hS hl
  unfold df_X13_operand_0 at h
  refine lv_aload_n hx hb dX13_operand_0 rfl (lv_at hl 0 rfl) ?_
  refine va_get (D := (dC, dI)) (ci := 14) (v := .int (sI s0 8)) (C := RX13) (T := TX13) (N := 37) hx hb hts hi_dm_X13_operand_X13 hown hK hP 0 rfl rfl 17 (by decide) (hts (.fieldLink RX13 365 "TimeMachineModel$Assembler" "token" "I") (List.mem_of_getElem? (i := 1) rfl)) (fun _ h9 => h9) rfl dX13_operand_1 ?_
  by_cases c1 : (sI s0 8) = 1
  · have h := nd_pos h c1
    refine lv_lookup (off := 68) (tgt := 72) hx hb dX13_operand_4 (by decide) (by rw [c1]; decide) (by decide) ?_
    refine lv_aload_n hx hb dX13_operand_72 rfl (lv_at hl 0 rfl) ?_
    obtain ⟨s3, hq, h⟩ := nd_b1_e h
    have hPc := hP
    have hDc := hD
    have hKc := hK
    have hFc := nd_rs hD hS hA
    refine nd_cVv (As := []) (rest := []) (w' := dw_X13 a ac s3) ⟨hx, hb, hml, hown, hts⟩ (fun sz => dm_X13_name l hlt dC dI a ac n  s0 hq sz) (cwV 0 hts gi_dm_X13_operand_0 rfl rfl rfl (by decide +kernel) ⟨Nat.le_of_ble_eq_true rfl, Nat.le_of_ble_eq_true rfl⟩) hPc hDc hKc hS hA hN (va_recv hKc hPc (ci := 14) (q0 := 0) rfl rfl) rfl hl.1 rfl (Nat.le_of_ble_eq_true rfl) dX13_operand_73 (fun H locs hP1 hD1 hk1 hS => ?_)
    have hP := hP1
    have hD := hD1.weaken (fun k q _ h => hFc q.1 h)
    refine lv_goto (tgt := 242) hx hb dX13_operand_76 (by decide) ?_
    exact (db_X13_operand_242 C K)  s3 _ _ _ h hP hD hS (lv_sub hl [0] rfl)
  have h := nd_neg h c1
  by_cases c8 : (sI s0 8) = 2
  · have h := nd_pos h c8
    refine lv_lookup (off := 75) (tgt := 79) hx hb dX13_operand_4 (by decide) (by rw [c8]; decide) (by decide) ?_
    refine lv_aload_n hx hb dX13_operand_79 rfl (lv_at hl 0 rfl) ?_
    refine lv_aload_n hx hb dX13_operand_80 rfl (lv_at hl 0 rfl) ?_
    refine va_get (D := (dC, dI)) (ci := 14) (v := .int (sI s0 11)) (C := RX13) (T := TX13) (N := 37) hx hb hts hi_dm_X13_operand_X13 hown hK hP 0 rfl rfl 20 (by decide) (hts (.fieldLink RX13 399 "TimeMachineModel$Assembler" "number" "I") (List.mem_of_getElem? (i := 9) rfl)) (fun _ h9 => h9) rfl dX13_operand_81 ?_
    obtain ⟨s10, hq, h⟩ := nd_b1_e h
    have hPc := hP
    have hDc := hD
    have hKc := hK
    have hFc := nd_rs hD hS hA
    refine nd_cVv (As := [.int (sI s0 11)]) (rest := []) (w' := dw_X13 a ac s10) ⟨hx, hb, hml, hown, hts⟩ (fun sz => dm_X13_value l hlt dC dI a ac n ((sI s0 11)) s0 hq sz) (cwV 1 hts gi_dm_X13_operand_2 rfl rfl rfl (by decide +kernel) ⟨Nat.le_of_ble_eq_true rfl, Nat.le_of_ble_eq_true rfl⟩) hPc hDc hKc hS hA hN (va_recv hKc hPc (ci := 14) (q0 := 0) rfl rfl) rfl hl.1 rfl (Nat.le_of_ble_eq_true rfl) dX13_operand_84 (fun H locs hP1 hD1 hk1 hS => ?_)
    have hP := hP1
    have hD := hD1.weaken (fun k q _ h => hFc q.1 h)
    refine lv_goto (tgt := 242) hx hb dX13_operand_87 (by decide) ?_
    exact (db_X13_operand_242 C K)  s10 _ _ _ h hP hD hS (lv_sub hl [0] rfl)
  have h := nd_neg h c8
  by_cases c12 : (sI s0 8) = 3
  · have h := nd_pos h c12
    refine lv_lookup (off := 86) (tgt := 90) hx hb dX13_operand_4 (by decide) (by rw [c12]; decide) (by decide) ?_
    refine lv_aload_n hx hb dX13_operand_90 rfl (lv_at hl 0 rfl) ?_
    refine lv_iconst (v := 1) hx hb dX13_operand_91 (by decide) ?_
    refine va_put (D := (dC, dI)) (ci := 14) (v := .int 1) (ty := .boolean) (C := RX13) (T := TX13) (N := 37) hx hb hts hi_dm_X13_operand_X13 tyX13 tyX13_ok nmX13 hown hK hP hD hS 0 rfl rfl 33 (by decide) (hts (.fieldLink RX13 483 "TimeMachineModel$Assembler" "loose" "Z") (List.mem_of_getElem? (i := 13) rfl)) (fun _ h9 => h9) rfl (by decide +kernel) (by first | rfl | decide) rfl (Nat.le_of_ble_eq_true rfl) dX13_operand_92 (fun H locs hP hD hS => ?_)
    obtain ⟨s13, es13, h⟩ := nd_let_e h
    have hP : va_P (dC, dI) vwCl (dw_X13 a ac s13) H := by rw [es13]; exact hP
    have hD : va_D A (dw_X13 a ac s13) := by rw [es13]; exact hD
    refine lv_aload_n hx hb dX13_operand_95 rfl (lv_at hl 0 rfl) ?_
    refine lv_aload_n hx hb dX13_operand_96 rfl (lv_at hl 0 rfl) ?_
    refine lv_aload_n hx hb dX13_operand_97 rfl (lv_at hl 0 rfl) ?_
    refine va_get (D := (dC, dI)) (ci := 14) (v := .int (sI s13 11)) (C := RX13) (T := TX13) (N := 37) hx hb hts hi_dm_X13_operand_X13 hown hK hP 0 rfl rfl 20 (by decide) (hts (.fieldLink RX13 399 "TimeMachineModel$Assembler" "number" "I") (List.mem_of_getElem? (i := 9) rfl)) (fun _ h9 => h9) rfl dX13_operand_98 ?_
    refine lv_aload_n hx hb dX13_operand_101 rfl (lv_at hl 0 rfl) ?_
    refine va_get (D := (dC, dI)) (ci := 14) (v := .ref (a 4)) (C := RX13) (T := TX13) (N := 37) hx hb hts hi_dm_X13_operand_X13 hown hK hP 0 rfl rfl 3 (by decide) (hts (.fieldLink RX13 324 "TimeMachineModel$Assembler" "text" "[C") (List.mem_of_getElem? (i := 14) rfl)) (fun _ h9 => h9) rfl dX13_operand_102 ?_
    refine lv_aload_n hx hb dX13_operand_105 rfl (lv_at hl 0 rfl) ?_
    refine va_get (D := (dC, dI)) (ci := 14) (v := .int (sI s13 10)) (C := RX13) (T := TX13) (N := 37) hx hb hts hi_dm_X13_operand_X13 hown hK hP 0 rfl rfl 19 (by decide) (hts (.fieldLink RX13 371 "TimeMachineModel$Assembler" "to" "I") (List.mem_of_getElem? (i := 15) rfl)) (fun _ h9 => h9) rfl dX13_operand_106 ?_
    refine lv_iconst (v := 1) hx hb dX13_operand_109 (by decide) ?_
    refine lv_isub hx hb dX13_operand_110 ?_
    obtain ⟨i14, h⟩ := nd_ck_e h
    refine va_cald (i := ((sI s13 10) - 1)) hx hb hK hP 4 3 rfl rfl i14 dX13_operand_111 ?_
    refine lv_bipush (v := 102) hx hb dX13_operand_112 (by decide) ?_
    refine lv_icmp_ne (tgt := 121) hx hb dX13_operand_114 (by decide) (fun c15 => ?_) (fun c15 => ?_)
    · have h := nd_neg h c15
      refine lv_iconst (v := 0) hx hb dX13_operand_121 (by decide) ?_
      exact (db_X13_operand_122 C K) ((sI s13 11)) (0) s13 _ _ _ h hP hD hS (lv_sub hl [0] rfl)
    · have h := nd_pos h c15
      refine lv_iconst (v := 1) hx hb dX13_operand_117 (by decide) ?_
      refine lv_goto (tgt := 122) hx hb dX13_operand_118 (by decide) ?_
      exact (db_X13_operand_122 C K) ((sI s13 11)) (1) s13 _ _ _ h hP hD hS (lv_sub hl [0] rfl)
  have h := nd_neg h c12
  by_cases c22 : (sI s0 8) = 37
  · have h := nd_pos h c22
    refine lv_lookup (off := 148) (tgt := 152) hx hb dX13_operand_4 (by decide) (by rw [c22]; decide) (by decide) ?_
    refine lv_aload_n hx hb dX13_operand_152 rfl (lv_at hl 0 rfl) ?_
    obtain ⟨s24, hq, h⟩ := nd_b1_e h
    have hPc := hP
    have hDc := hD
    have hKc := hK
    have hFc := nd_rs hD hS hA
    refine nd_cVv (As := []) (rest := []) (w' := dw_X13 a ac s24) ⟨hx, hb, hml, hown, hts⟩ (fun sz => dm_X13_scan l hlt dC dI a ac n  s0 hq sz) (cwV 0 hts gi_dm_X13_operand_4 rfl rfl rfl (by decide +kernel) ⟨Nat.le_of_ble_eq_true rfl, Nat.le_of_ble_eq_true rfl⟩) hPc hDc hKc hS hA hN (va_recv hKc hPc (ci := 14) (q0 := 0) rfl rfl) rfl hl.1 rfl (Nat.le_of_ble_eq_true rfl) dX13_operand_153 (fun H locs hP1 hD1 hk1 hS => ?_)
    have hP := hP1
    have hD := hD1.weaken (fun k q _ h => hFc q.1 h)
    refine lv_aload_n hx hb dX13_operand_156 rfl (lv_at hl 0 rfl) ?_
    refine va_get (D := (dC, dI)) (ci := 14) (v := .int (sI s24 8)) (C := RX13) (T := TX13) (N := 37) hx hb hts hi_dm_X13_operand_X13 hown hK hP 0 rfl rfl 17 (by decide) (hts (.fieldLink RX13 365 "TimeMachineModel$Assembler" "token" "I") (List.mem_of_getElem? (i := 1) rfl)) (fun _ h9 => h9) rfl dX13_operand_157 ?_
    refine lv_iconst (v := 1) hx hb dX13_operand_160 (by decide) ?_
    refine lv_icmp_ne (tgt := 179) hx hb dX13_operand_161 (by decide) (fun c26 => ?_) (fun c26 => ?_)
    · have h := nd_neg h c26
      refine lv_lconst (v := 0) hx hb dX13_operand_179 (by decide) ?_
      exact (db_X13_operand_180 C K) (0) s24 _ _ _ h hP hD hS (lv_sub hl [0] rfl)
    · have h := nd_pos h c26
      refine lv_aload_n hx hb dX13_operand_164 rfl (lv_at hl 0 rfl) ?_
      refine lv_aload_n hx hb dX13_operand_165 rfl (lv_at hl 0 rfl) ?_
      refine va_get (D := (dC, dI)) (ci := 14) (v := .int (sI s24 9)) (C := RX13) (T := TX13) (N := 37) hx hb hts hi_dm_X13_operand_X13 hown hK hP 0 rfl rfl 18 (by decide) (hts (.fieldLink RX13 368 "TimeMachineModel$Assembler" "from" "I") (List.mem_of_getElem? (i := 33) rfl)) (fun _ h9 => h9) rfl dX13_operand_166 ?_
      refine lv_aload_n hx hb dX13_operand_169 rfl (lv_at hl 0 rfl) ?_
      refine va_get (D := (dC, dI)) (ci := 14) (v := .int (sI s24 10)) (C := RX13) (T := TX13) (N := 37) hx hb hts hi_dm_X13_operand_X13 hown hK hP 0 rfl rfl 19 (by decide) (hts (.fieldLink RX13 371 "TimeMachineModel$Assembler" "to" "I") (List.mem_of_getElem? (i := 15) rfl)) (fun _ h9 => h9) rfl dX13_operand_170 ?_
      obtain ⟨q43, s44, hq, h⟩ := nd_b2_e h
      have hPc := hP
      have hDc := hD
      have hKc := hK
      have hFc := nd_rs hD hS hA
      refine nd_cVl (As := [.int (sI s24 9), .int (sI s24 10)]) (rest := []) (q := q43) (w' := dw_X13 a ac s44) ⟨hx, hb, hml, hown, hts⟩ (fun sz => dm_X13_packed l hlt dC dI a ac n ((sI s24 9)) ((sI s24 10)) s24 hq sz) (cwV 2 hts gi_dm_X13_operand_8 rfl rfl rfl (by decide +kernel) ⟨Nat.le_of_ble_eq_true rfl, Nat.le_of_ble_eq_true rfl⟩) hPc hDc hKc hS hA hN (va_recv hKc hPc (ci := 14) (q0 := 0) rfl rfl) rfl hl.1 rfl (Nat.le_of_ble_eq_true rfl) dX13_operand_173 (fun H locs hP1 hD1 hk1 hS => ?_)
      have hP := hP1
      have hD := hD1.weaken (fun k q _ h => hFc q.1 h)
      refine lv_goto (tgt := 180) hx hb dX13_operand_176 (by decide) ?_
      exact (db_X13_operand_180 C K) (q43) s44 _ _ _ h hP hD hS (lv_sub hl [0] rfl)
  have h := nd_neg h c22
  by_cases c46 : (sI s0 8) = 40
  · have h := nd_pos h c46
    refine lv_lookup (off := 127) (tgt := 131) hx hb dX13_operand_4 (by decide) (by rw [c46]; decide) (by decide) ?_
    refine lv_aload_n hx hb dX13_operand_131 rfl (lv_at hl 0 rfl) ?_
    refine lv_iconst (v := 1) hx hb dX13_operand_132 (by decide) ?_
    obtain ⟨s48, hq, h⟩ := nd_b1_e h
    have hPc := hP
    have hDc := hD
    have hKc := hK
    have hFc := nd_rs hD hS hA
    refine nd_cVv (As := [.int 1]) (rest := []) (w' := dw_X13 a ac s48) ⟨hx, hb, hml, hown, hts⟩ (fun sz => dm_X13_sign l hlt dC dI a ac n (1) s0 hq sz) (cwV 1 hts gi_dm_X13_operand_5 rfl rfl rfl (by decide +kernel) ⟨Nat.le_of_ble_eq_true rfl, Nat.le_of_ble_eq_true rfl⟩) hPc hDc hKc hS hA hN (va_recv hKc hPc (ci := 14) (q0 := 0) rfl rfl) rfl hl.1 rfl (Nat.le_of_ble_eq_true rfl) dX13_operand_133 (fun H locs hP1 hD1 hk1 hS => ?_)
    have hP := hP1
    have hD := hD1.weaken (fun k q _ h => hFc q.1 h)
    refine lv_iconst (v := 0) hx hb dX13_operand_136 (by decide) ?_
    exact K _ _ _ _ _ _ dX13_operand_137 (by first | rfl | decide) (Option.some.inj h).symm hP hD hS
  have h := nd_neg h c46
  by_cases c50 : (sI s0 8) = 45
  · have h := nd_pos h c50
    refine lv_lookup (off := 134) (tgt := 138) hx hb dX13_operand_4 (by decide) (by rw [c50]; decide) (by decide) ?_
    refine lv_aload_n hx hb dX13_operand_138 rfl (lv_at hl 0 rfl) ?_
    refine lv_iconst (v := 2) hx hb dX13_operand_139 (by decide) ?_
    obtain ⟨s52, hq, h⟩ := nd_b1_e h
    have hPc := hP
    have hDc := hD
    have hKc := hK
    have hFc := nd_rs hD hS hA
    refine nd_cVv (As := [.int 2]) (rest := []) (w' := dw_X13 a ac s52) ⟨hx, hb, hml, hown, hts⟩ (fun sz => dm_X13_sign l hlt dC dI a ac n (2) s0 hq sz) (cwV 1 hts gi_dm_X13_operand_5 rfl rfl rfl (by decide +kernel) ⟨Nat.le_of_ble_eq_true rfl, Nat.le_of_ble_eq_true rfl⟩) hPc hDc hKc hS hA hN (va_recv hKc hPc (ci := 14) (q0 := 0) rfl rfl) rfl hl.1 rfl (Nat.le_of_ble_eq_true rfl) dX13_operand_140 (fun H locs hP1 hD1 hk1 hS => ?_)
    have hP := hP1
    have hD := hD1.weaken (fun k q _ h => hFc q.1 h)
    refine lv_iconst (v := 0) hx hb dX13_operand_143 (by decide) ?_
    exact K _ _ _ _ _ _ dX13_operand_144 (by first | rfl | decide) (Option.some.inj h).symm hP hD hS
  have h := nd_neg h c50
  by_cases c54 : (sI s0 8) = 126
  · have h := nd_pos h c54
    refine lv_lookup (off := 141) (tgt := 145) hx hb dX13_operand_4 (by decide) (by rw [c54]; decide) (by decide) ?_
    refine lv_aload_n hx hb dX13_operand_145 rfl (lv_at hl 0 rfl) ?_
    refine lv_iconst (v := 3) hx hb dX13_operand_146 (by decide) ?_
    obtain ⟨s56, hq, h⟩ := nd_b1_e h
    have hPc := hP
    have hDc := hD
    have hKc := hK
    have hFc := nd_rs hD hS hA
    refine nd_cVv (As := [.int 3]) (rest := []) (w' := dw_X13 a ac s56) ⟨hx, hb, hml, hown, hts⟩ (fun sz => dm_X13_sign l hlt dC dI a ac n (3) s0 hq sz) (cwV 1 hts gi_dm_X13_operand_5 rfl rfl rfl (by decide +kernel) ⟨Nat.le_of_ble_eq_true rfl, Nat.le_of_ble_eq_true rfl⟩) hPc hDc hKc hS hA hN (va_recv hKc hPc (ci := 14) (q0 := 0) rfl rfl) rfl hl.1 rfl (Nat.le_of_ble_eq_true rfl) dX13_operand_147 (fun H locs hP1 hD1 hk1 hS => ?_)
    have hP := hP1
    have hD := hD1.weaken (fun k q _ h => hFc q.1 h)
    refine lv_iconst (v := 0) hx hb dX13_operand_150 (by decide) ?_
    exact K _ _ _ _ _ _ dX13_operand_151 (by first | rfl | decide) (Option.some.inj h).symm hP hD hS
  have h := nd_neg h c54
  refine lv_lookup (off := 231) (tgt := 235) hx hb dX13_operand_4 (by decide) (show Op.lookupswitch.offset [(1, 68), (2, 75), (3, 86), (37, 148), (40, 127), (45, 134), (126, 141)] 231 ((sI s0 8) : Int32).toInt = 231 by rw [lv_osw c1 (by decide), lv_osw c8 (by decide), lv_osw c12 (by decide), lv_osw c22 (by decide), lv_osw c46 (by decide), lv_osw c50 (by decide), lv_osw c54 (by decide)] <;> rfl) (by decide) ?_
  refine lv_aload_n hx hb dX13_operand_235 rfl (lv_at hl 0 rfl) ?_
  refine lv_iconst (v := 1) hx hb dX13_operand_236 (by decide) ?_
  obtain ⟨s59, hq, h⟩ := nd_b1_e h
  have hPc := hP
  have hDc := hD
  have hKc := hK
  have hFc := nd_rs hD hS hA
  refine nd_cVv (As := [.int 1]) (rest := []) (w' := dw_X13 a ac s59) ⟨hx, hb, hml, hown, hts⟩ (fun sz => dm_X13_blame l hlt dC dI a ac n (1) s0 hq sz) (cwV 1 hts gi_dm_X13_operand_7 rfl rfl rfl (by decide +kernel) ⟨Nat.le_of_ble_eq_true rfl, Nat.le_of_ble_eq_true rfl⟩) hPc hDc hKc hS hA hN (va_recv hKc hPc (ci := 14) (q0 := 0) rfl rfl) rfl hl.1 rfl (Nat.le_of_ble_eq_true rfl) dX13_operand_237 (fun H locs hP1 hD1 hk1 hS => ?_)
  have hP := hP1
  have hD := hD1.weaken (fun k q _ h => hFc q.1 h)
  refine lv_iconst (v := 0) hx hb dX13_operand_240 (by decide) ?_
  exact K _ _ _ _ _ _ dX13_operand_241 (by first | rfl | decide) (Option.some.inj h).symm hP hD hS
set_option maxHeartbeats 40000000 in
set_option maxRecDepth 100000 in
theorem dm_X13_operand (l : Launch) (hlt : l.stackTraces = false) (dC : Nat → ClassId) (dI : Nat → Nat → Nat) (a : Nat → Nat) (ac : Nat → ClassId) (n : Nat) (s0 : St) {r : Int32 × (St)} (h : df_X13_operand n s0 = some r) (sz : Nat) : Met l yX13_operand ow_dm_X13_operand ({ frames := 6, cells := 0, slots := 0, locals := 135 }) (va_Pc [.ref (a 0)] (fun U => U.heap.size = sz ∧ va_P (dC, dI) vwCl (dw_X13 a ac s0) U.heap ∧ va_K (dC, dI) vwCl (dk_X13 ac) U ∧ va_D (fun _ => True) (dw_X13 a ac s0) ∧ nv_E dI (va_A (dw_X13 a ac s0) sz) U)) (va_Qi (fun x _ => x = r.1) (fun (_ : Unit) t => va_P (dC, dI) vwCl (dw_X13 a ac r.2) t.heap ∧ va_K (dC, dI) vwCl (dk_X13 ac) t ∧ va_D (va_A (dw_X13 a ac s0) sz) (dw_X13 a ac r.2)) (va_A (dw_X13 a ac s0) sz)) 0 0 (va_A (dw_X13 a ac s0) sz) := by
  refine Met.ofW (cc := cX13_operand) (maxL := 3) (ret := (some .boolean)) (by decide) rfl ?_
  intro p e s m args below meth c s₁ B hml hv
  obtain ⟨rfl, hsz, hP, hK, hD0, hN⟩ := hv
  have hx := B.exec
  have hb := B.bytes
  have hr := B.returns
  have hts := atoms_spec (ws := ow_dm_X13_operand) B.pre
  have hown : s.vm.findClass RX13 = some m.cls := findClass_of_methodNamed B.named
  have hlocks := B.notSynchronized
  subst hsz
  have hD := hD0.self (sz := s.heap.size)
  generalize hAe : va_A (dw_X13 a ac s0) s.heap.size = A at hD hN ⊢
  have hA : ∀ q : Nat, s.heap.size ≤ q → A q := fun q h => by rw [← hAe]; exact Or.inr h
  have hl := lv_entry ([.ref (a 0)]) (n := 3) (Nat.le_of_ble_eq_true rfl)
  rw [lg_entry_eq]
  generalize (lg_sl ([.ref (a 0)]) ++ List.replicate (3 - (lg_sl ([.ref (a 0)])).length) Slot.unset).toArray = ls at hl ⊢
  have hl : lv_has ls 3 [(0, .ref (a 0))] := hl
  exact db_X13_operand_0 (dC := dC) (dI := dI) (a := a) (ac := ac) (n := n) (r := r) ⟨hlt, hx, hb, hml, hown, hts, hN, hA, hK⟩ (fun pc v τ H locs ls d z er hP hD hS => by subst er; exact W.zret (v := v) hx hb hr z (fun t ht hW => ⟨⟨v, (), rfl, rfl, by rw [ht]; exact hP, va_K.moved hW.alike hK, hD⟩, hS.F ht⟩) hS.2.2 d) s0 _ _ _ h hP hD va_S.rf (lv_sub hl [0] rfl)
def ow_dm_X13_expression : List Cond := Cond.code yX13_expression cX13_expression 6 (some .int) :: ([Cond.fieldLink RX13 464 "TimeMachineModel$Assembler" "signs" "I", Cond.constant RX13 343 (32800), Cond.fieldLink RX13 467 "TimeMachineModel$Assembler" "values" "I", Cond.fieldLink RX13 457 "TimeMachineModel$Assembler" "missing" "Z", Cond.fieldLink RX13 470 "TimeMachineModel$Assembler" "divided" "Z", Cond.fieldLink RX13 483 "TimeMachineModel$Assembler" "loose" "Z", Cond.fieldLink RX13 410 "TimeMachineModel$Assembler" "fault" "I", Cond.fieldLink RX13 522 "TimeMachineModel$Assembler" "mode" "I", Cond.methodLink RX13 419 yX13_blame, Cond.instanceMethod yX13_blame, Cond.selects RX13 yX13_blame yX13_blame, Cond.initialized RX13, Cond.fieldLink RX13 344 "TimeMachineModel$Assembler" "pile" "[I", Cond.methodLink RX13 519 yX13_join, Cond.instanceMethod yX13_join, Cond.selects RX13 yX13_join yX13_join, Cond.fieldLink RX13 374 "TimeMachineModel$Assembler" "at" "I", Cond.methodLink RX13 416 yX13_scan, Cond.instanceMethod yX13_scan, Cond.selects RX13 yX13_scan yX13_scan, Cond.fieldLink RX13 365 "TimeMachineModel$Assembler" "token" "I", Cond.methodLink RX13 516 yX13_rank, Cond.static yX13_rank, Cond.methodLink RX13 509 yX13_bind, Cond.instanceMethod yX13_bind, Cond.selects RX13 yX13_bind yX13_bind, Cond.methodLink RX13 499 yX13_sign, Cond.instanceMethod yX13_sign, Cond.selects RX13 yX13_sign yX13_sign, Cond.methodLink RX13 512 yX13_operand, Cond.instanceMethod yX13_operand, Cond.selects RX13 yX13_operand yX13_operand] ++ (u_ws RX13 TX13 37 ++ (ow_dm_X13_blame ++ (ow_dm_X13_join ++ (ow_dm_X13_scan ++ (ow_dm_X13_rank ++ (ow_dm_X13_bind ++ (ow_dm_X13_sign ++ (ow_dm_X13_operand ++ [])))))))))
theorem gd_dm_X13_expression : ∀ w ∈ ow_dm_X13_expression, (w.onTables && w.keeps) = true ∨ ∃ ty, w = Cond.arrayClass ty := List.forall_mem_cons.mpr ⟨good_of_word rfl, List.forall_mem_append.mpr ⟨fun w h => good_of_word (List.all_eq_true.mp (by decide +kernel) w h), List.forall_mem_append.mpr ⟨gu_X13, List.forall_mem_append.mpr ⟨gd_dm_X13_blame, List.forall_mem_append.mpr ⟨gd_dm_X13_join, List.forall_mem_append.mpr ⟨gd_dm_X13_scan, List.forall_mem_append.mpr ⟨gd_dm_X13_rank, List.forall_mem_append.mpr ⟨gd_dm_X13_bind, List.forall_mem_append.mpr ⟨gd_dm_X13_sign, List.forall_mem_append.mpr ⟨gd_dm_X13_operand, fun _ h => nomatch h⟩⟩⟩⟩⟩⟩⟩⟩⟩⟩
theorem hi_dm_X13_expression_X13 : ∀ w ∈ u_ws RX13 TX13 37, w ∈ ow_dm_X13_expression := fun w h => List.mem_cons_of_mem _ (List.mem_append_right _ (List.mem_append_left _ h))
theorem gi_dm_X13_expression_0 : GoodIn ow_dm_X13_expression (wsV RX13 419 RX13 yX13_blame ow_dm_X13_blame) := goodIn_app (goodIn_of _ (by decide +kernel)) (fun w h => ⟨List.mem_cons_of_mem _ (List.mem_append_right _ (List.mem_append_right _ (List.mem_append_left _ h))), gd_dm_X13_blame w h⟩)
theorem gi_dm_X13_expression_1 : GoodIn ow_dm_X13_expression (wsV RX13 519 RX13 yX13_join ow_dm_X13_join) := goodIn_app (goodIn_of _ (by decide +kernel)) (fun w h => ⟨List.mem_cons_of_mem _ (List.mem_append_right _ (List.mem_append_right _ (List.mem_append_right _ (List.mem_append_left _ h)))), gd_dm_X13_join w h⟩)
theorem gi_dm_X13_expression_2 : GoodIn ow_dm_X13_expression (wsV RX13 416 RX13 yX13_scan ow_dm_X13_scan) := goodIn_app (goodIn_of _ (by decide +kernel)) (fun w h => ⟨List.mem_cons_of_mem _ (List.mem_append_right _ (List.mem_append_right _ (List.mem_append_right _ (List.mem_append_right _ (List.mem_append_left _ h))))), gd_dm_X13_scan w h⟩)
theorem gi_dm_X13_expression_3 : GoodIn ow_dm_X13_expression (wsS RX13 516 yX13_rank ow_dm_X13_rank) := goodIn_app (goodIn_of _ (by decide +kernel)) (fun w h => ⟨List.mem_cons_of_mem _ (List.mem_append_right _ (List.mem_append_right _ (List.mem_append_right _ (List.mem_append_right _ (List.mem_append_right _ (List.mem_append_left _ h)))))), gd_dm_X13_rank w h⟩)
theorem gi_dm_X13_expression_4 : GoodIn ow_dm_X13_expression (wsV RX13 509 RX13 yX13_bind ow_dm_X13_bind) := goodIn_app (goodIn_of _ (by decide +kernel)) (fun w h => ⟨List.mem_cons_of_mem _ (List.mem_append_right _ (List.mem_append_right _ (List.mem_append_right _ (List.mem_append_right _ (List.mem_append_right _ (List.mem_append_right _ (List.mem_append_left _ h))))))), gd_dm_X13_bind w h⟩)
theorem gi_dm_X13_expression_5 : GoodIn ow_dm_X13_expression (wsV RX13 499 RX13 yX13_sign ow_dm_X13_sign) := goodIn_app (goodIn_of _ (by decide +kernel)) (fun w h => ⟨List.mem_cons_of_mem _ (List.mem_append_right _ (List.mem_append_right _ (List.mem_append_right _ (List.mem_append_right _ (List.mem_append_right _ (List.mem_append_right _ (List.mem_append_right _ (List.mem_append_left _ h)))))))), gd_dm_X13_sign w h⟩)
theorem gi_dm_X13_expression_6 : GoodIn ow_dm_X13_expression (wsV RX13 512 RX13 yX13_operand ow_dm_X13_operand) := goodIn_app (goodIn_of _ (by decide +kernel)) (fun w h => ⟨List.mem_cons_of_mem _ (List.mem_append_right _ (List.mem_append_right _ (List.mem_append_right _ (List.mem_append_right _ (List.mem_append_right _ (List.mem_append_right _ (List.mem_append_right _ (List.mem_append_right _ (List.mem_append_left _ h))))))))), gd_dm_X13_operand w h⟩)
def dj_X13_expression_338 (p : Program) (l : Launch) (e : Env) (s : State) (m : MethodId) (args : Array Value) (below : List Frame) (meth : Method) (c : Code) (Q : State → Prop) (A : Nat → Prop) (dC : Nat → ClassId) (dI : Nat → Nat → Nat) (a : Nat → Nat) (ac : Nat → ClassId) (g : Int32 → (St) → Option (Int32 × (St))) (r : Int32 × (St)) : Prop := ∀ (x4 : Int32) (s0 : St) (H : Heap) (locs : List Loc) (ls : Array Slot), g x4 s0 = some r → va_P (dC, dI) vwCl (dw_X13 a ac s0) H → va_D A (dw_X13 a ac s0) → va_S A s.heap H locs → lv_has ls 6 [(4, .int x4)] → W p l e (headSpec ow_dm_X13_expression ({ frames := 7, cells := 0, slots := 0, locals := 157 })).room s m args below meth c H locs 0 0 Q (F0 m 338 ls [])
def dj_X13_expression_335 (p : Program) (l : Launch) (e : Env) (s : State) (m : MethodId) (args : Array Value) (below : List Frame) (meth : Method) (c : Code) (Q : State → Prop) (A : Nat → Prop) (dC : Nat → ClassId) (dI : Nat → Nat → Nat) (a : Nat → Nat) (ac : Nat → ClassId) (g : Int32 → Int32 → (St) → Option (Int32 × (St))) (r : Int32 × (St)) : Prop := ∀ (x4 : Int32) (y1 : Int32) (s0 : St) (H : Heap) (locs : List Loc) (ls : Array Slot), g x4 y1 s0 = some r → va_P (dC, dI) vwCl (dw_X13 a ac s0) H → va_D A (dw_X13 a ac s0) → va_S A s.heap H locs → lv_has ls 6 [(4, .int x4)] → W p l e (headSpec ow_dm_X13_expression ({ frames := 7, cells := 0, slots := 0, locals := 157 })).room s m args below meth c H locs 0 0 Q (F0 m 335 ls [.int y1, .ref (a 0)])
def dj_X13_expression_320 (p : Program) (l : Launch) (e : Env) (s : State) (m : MethodId) (args : Array Value) (below : List Frame) (meth : Method) (c : Code) (Q : State → Prop) (A : Nat → Prop) (dC : Nat → ClassId) (dI : Nat → Nat → Nat) (a : Nat → Nat) (ac : Nat → ClassId) (g : Int32 → (St) → Option (Int32 × (St))) (r : Int32 × (St)) : Prop := ∀ (x4 : Int32) (s0 : St) (H : Heap) (locs : List Loc) (ls : Array Slot), g x4 s0 = some r → va_P (dC, dI) vwCl (dw_X13 a ac s0) H → va_D A (dw_X13 a ac s0) → va_S A s.heap H locs → lv_has ls 6 [(0, .ref (a 0)), (4, .int x4)] → W p l e (headSpec ow_dm_X13_expression ({ frames := 7, cells := 0, slots := 0, locals := 157 })).room s m args below meth c H locs 0 0 Q (F0 m 320 ls [])
def dj_X13_expression_296 (p : Program) (l : Launch) (e : Env) (s : State) (m : MethodId) (args : Array Value) (below : List Frame) (meth : Method) (c : Code) (Q : State → Prop) (A : Nat → Prop) (dC : Nat → ClassId) (dI : Nat → Nat → Nat) (a : Nat → Nat) (ac : Nat → ClassId) (g : Int32 → (St) → Option (Int32 × (St))) (r : Int32 × (St)) : Prop := ∀ (y0 : Int32) (s0 : St) (H : Heap) (locs : List Loc) (ls : Array Slot), g y0 s0 = some r → va_P (dC, dI) vwCl (dw_X13 a ac s0) H → va_D A (dw_X13 a ac s0) → va_S A s.heap H locs → lv_has ls 6 [(0, .ref (a 0))] → W p l e (headSpec ow_dm_X13_expression ({ frames := 7, cells := 0, slots := 0, locals := 157 })).room s m args below meth c H locs 0 0 Q (F0 m 296 ls [.int y0])
def dj_X13_expression_276 (p : Program) (l : Launch) (e : Env) (s : State) (m : MethodId) (args : Array Value) (below : List Frame) (meth : Method) (c : Code) (Q : State → Prop) (A : Nat → Prop) (dC : Nat → ClassId) (dI : Nat → Nat → Nat) (a : Nat → Nat) (ac : Nat → ClassId) (g : (St) → Option (Int32 × (St))) (r : Int32 × (St)) : Prop := ∀ (s0 : St) (H : Heap) (locs : List Loc) (ls : Array Slot), g s0 = some r → va_P (dC, dI) vwCl (dw_X13 a ac s0) H → va_D A (dw_X13 a ac s0) → va_S A s.heap H locs → lv_has ls 6 [(0, .ref (a 0))] → W p l e (headSpec ow_dm_X13_expression ({ frames := 7, cells := 0, slots := 0, locals := 157 })).room s m args below meth c H locs 0 0 Q (F0 m 276 ls [])
def dj_X13_expression_255 (p : Program) (l : Launch) (e : Env) (s : State) (m : MethodId) (args : Array Value) (below : List Frame) (meth : Method) (c : Code) (Q : State → Prop) (A : Nat → Prop) (dC : Nat → ClassId) (dI : Nat → Nat → Nat) (a : Nat → Nat) (ac : Nat → ClassId) (g : (St) → Option (Int32 × (St))) (r : Int32 × (St)) : Prop := ∀ (s0 : St) (H : Heap) (locs : List Loc) (ls : Array Slot), g s0 = some r → va_P (dC, dI) vwCl (dw_X13 a ac s0) H → va_D A (dw_X13 a ac s0) → va_S A s.heap H locs → lv_has ls 6 [(0, .ref (a 0))] → W p l e (headSpec ow_dm_X13_expression ({ frames := 7, cells := 0, slots := 0, locals := 157 })).room s m args below meth c H locs 0 0 Q (F0 m 255 ls [])
def dj_X13_expression_252 (p : Program) (l : Launch) (e : Env) (s : State) (m : MethodId) (args : Array Value) (below : List Frame) (meth : Method) (c : Code) (Q : State → Prop) (A : Nat → Prop) (dC : Nat → ClassId) (dI : Nat → Nat → Nat) (a : Nat → Nat) (ac : Nat → ClassId) (g : Int32 → Int32 → Int32 → (St) → Option (Int32 × (St))) (r : Int32 × (St)) : Prop := ∀ (x1 : Int32) (x2 : Int32) (x3 : Int32) (s0 : St) (H : Heap) (locs : List Loc) (ls : Array Slot), g x1 x2 x3 s0 = some r → va_P (dC, dI) vwCl (dw_X13 a ac s0) H → va_D A (dw_X13 a ac s0) → va_S A s.heap H locs → lv_has ls 6 [(0, .ref (a 0)), (1, .int x1), (2, .int x2), (3, .int x3)] → W p l e (headSpec ow_dm_X13_expression ({ frames := 7, cells := 0, slots := 0, locals := 157 })).room s m args below meth c H locs 0 0 Q (F0 m 252 ls [])
def dj_X13_expression_246 (p : Program) (l : Launch) (e : Env) (s : State) (m : MethodId) (args : Array Value) (below : List Frame) (meth : Method) (c : Code) (Q : State → Prop) (A : Nat → Prop) (dC : Nat → ClassId) (dI : Nat → Nat → Nat) (a : Nat → Nat) (ac : Nat → ClassId) (g : Int32 → Int32 → Int32 → Int32 → (St) → Option (Int32 × (St))) (r : Int32 × (St)) : Prop := ∀ (x1 : Int32) (x2 : Int32) (x3 : Int32) (x4 : Int32) (s0 : St) (H : Heap) (locs : List Loc) (ls : Array Slot), g x1 x2 x3 x4 s0 = some r → va_P (dC, dI) vwCl (dw_X13 a ac s0) H → va_D A (dw_X13 a ac s0) → va_S A s.heap H locs → lv_has ls 6 [(0, .ref (a 0)), (1, .int x1), (2, .int x2), (3, .int x3), (4, .int x4)] → W p l e (headSpec ow_dm_X13_expression ({ frames := 7, cells := 0, slots := 0, locals := 157 })).room s m args below meth c H locs 0 0 Q (F0 m 246 ls [])
def dj_X13_expression_235 (p : Program) (l : Launch) (e : Env) (s : State) (m : MethodId) (args : Array Value) (below : List Frame) (meth : Method) (c : Code) (Q : State → Prop) (A : Nat → Prop) (dC : Nat → ClassId) (dI : Nat → Nat → Nat) (a : Nat → Nat) (ac : Nat → ClassId) (g : Int32 → Int32 → Int32 → (St) → Option (Int32 × (St))) (r : Int32 × (St)) : Prop := ∀ (x1 : Int32) (x2 : Int32) (x4 : Int32) (s0 : St) (H : Heap) (locs : List Loc) (ls : Array Slot), g x1 x2 x4 s0 = some r → va_P (dC, dI) vwCl (dw_X13 a ac s0) H → va_D A (dw_X13 a ac s0) → va_S A s.heap H locs → lv_has ls 6 [(0, .ref (a 0)), (1, .int x1), (2, .int x2), (4, .int x4)] → W p l e (headSpec ow_dm_X13_expression ({ frames := 7, cells := 0, slots := 0, locals := 157 })).room s m args below meth c H locs 0 0 Q (F0 m 235 ls [])
def dj_X13_expression_193 (p : Program) (l : Launch) (e : Env) (s : State) (m : MethodId) (args : Array Value) (below : List Frame) (meth : Method) (c : Code) (Q : State → Prop) (A : Nat → Prop) (dC : Nat → ClassId) (dI : Nat → Nat → Nat) (a : Nat → Nat) (ac : Nat → ClassId) (g : Int32 → Int32 → Int32 → (St) → Option (Int32 × (St))) (r : Int32 × (St)) : Prop := ∀ (x1 : Int32) (x2 : Int32) (x3 : Int32) (s0 : St) (H : Heap) (locs : List Loc) (ls : Array Slot), g x1 x2 x3 s0 = some r → va_P (dC, dI) vwCl (dw_X13 a ac s0) H → va_D A (dw_X13 a ac s0) → va_S A s.heap H locs → lv_has ls 6 [(0, .ref (a 0)), (1, .int x1), (2, .int x2), (3, .int x3)] → W p l e (headSpec ow_dm_X13_expression ({ frames := 7, cells := 0, slots := 0, locals := 157 })).room s m args below meth c H locs 0 0 Q (F0 m 193 ls [])
def dj_X13_expression_180 (p : Program) (l : Launch) (e : Env) (s : State) (m : MethodId) (args : Array Value) (below : List Frame) (meth : Method) (c : Code) (Q : State → Prop) (A : Nat → Prop) (dC : Nat → ClassId) (dI : Nat → Nat → Nat) (a : Nat → Nat) (ac : Nat → ClassId) (g : Int32 → Int32 → Int32 → Int32 → (St) → Option (Int32 × (St))) (r : Int32 × (St)) : Prop := ∀ (x1 : Int32) (x2 : Int32) (x3 : Int32) (x4 : Int32) (s0 : St) (H : Heap) (locs : List Loc) (ls : Array Slot), g x1 x2 x3 x4 s0 = some r → va_P (dC, dI) vwCl (dw_X13 a ac s0) H → va_D A (dw_X13 a ac s0) → va_S A s.heap H locs → lv_has ls 6 [(0, .ref (a 0)), (1, .int x1), (2, .int x2), (3, .int x3), (4, .int x4)] → W p l e (headSpec ow_dm_X13_expression ({ frames := 7, cells := 0, slots := 0, locals := 157 })).room s m args below meth c H locs 0 0 Q (F0 m 180 ls [])
def dj_X13_expression_167 (p : Program) (l : Launch) (e : Env) (s : State) (m : MethodId) (args : Array Value) (below : List Frame) (meth : Method) (c : Code) (Q : State → Prop) (A : Nat → Prop) (dC : Nat → ClassId) (dI : Nat → Nat → Nat) (a : Nat → Nat) (ac : Nat → ClassId) (g : Int32 → Int32 → (St) → Option (Int32 × (St))) (r : Int32 × (St)) : Prop := ∀ (x1 : Int32) (x3 : Int32) (s0 : St) (H : Heap) (locs : List Loc) (ls : Array Slot), g x1 x3 s0 = some r → va_P (dC, dI) vwCl (dw_X13 a ac s0) H → va_D A (dw_X13 a ac s0) → va_S A s.heap H locs → lv_has ls 6 [(0, .ref (a 0)), (1, .int x1), (3, .int x3)] → W p l e (headSpec ow_dm_X13_expression ({ frames := 7, cells := 0, slots := 0, locals := 157 })).room s m args below meth c H locs 0 0 Q (F0 m 167 ls [])
def dj_X13_expression_129 (p : Program) (l : Launch) (e : Env) (s : State) (m : MethodId) (args : Array Value) (below : List Frame) (meth : Method) (c : Code) (Q : State → Prop) (A : Nat → Prop) (dC : Nat → ClassId) (dI : Nat → Nat → Nat) (a : Nat → Nat) (ac : Nat → ClassId) (g : Int32 → Int32 → (St) → Option (Int32 × (St))) (r : Int32 × (St)) : Prop := ∀ (x1 : Int32) (x3 : Int32) (s0 : St) (H : Heap) (locs : List Loc) (ls : Array Slot), g x1 x3 s0 = some r → va_P (dC, dI) vwCl (dw_X13 a ac s0) H → va_D A (dw_X13 a ac s0) → va_S A s.heap H locs → lv_has ls 6 [(0, .ref (a 0)), (1, .int x1), (3, .int x3)] → W p l e (headSpec ow_dm_X13_expression ({ frames := 7, cells := 0, slots := 0, locals := 157 })).room s m args below meth c H locs 0 0 Q (F0 m 129 ls [])
def dj_X13_expression_108 (p : Program) (l : Launch) (e : Env) (s : State) (m : MethodId) (args : Array Value) (below : List Frame) (meth : Method) (c : Code) (Q : State → Prop) (A : Nat → Prop) (dC : Nat → ClassId) (dI : Nat → Nat → Nat) (a : Nat → Nat) (ac : Nat → ClassId) (g : Int32 → Int32 → Int32 → (St) → Option (Int32 × (St))) (r : Int32 × (St)) : Prop := ∀ (x2 : Int32) (x3 : Int32) (y0 : Int32) (s0 : St) (H : Heap) (locs : List Loc) (ls : Array Slot), g x2 x3 y0 s0 = some r → va_P (dC, dI) vwCl (dw_X13 a ac s0) H → va_D A (dw_X13 a ac s0) → va_S A s.heap H locs → lv_has ls 6 [(0, .ref (a 0)), (2, .int x2), (3, .int x3)] → W p l e (headSpec ow_dm_X13_expression ({ frames := 7, cells := 0, slots := 0, locals := 157 })).room s m args below meth c H locs 0 0 Q (F0 m 108 ls [.int y0])
def dj_X13_expression_95 (p : Program) (l : Launch) (e : Env) (s : State) (m : MethodId) (args : Array Value) (below : List Frame) (meth : Method) (c : Code) (Q : State → Prop) (A : Nat → Prop) (dC : Nat → ClassId) (dI : Nat → Nat → Nat) (a : Nat → Nat) (ac : Nat → ClassId) (g : Int32 → Int32 → Int32 → Int32 → (St) → Option (Int32 × (St))) (r : Int32 × (St)) : Prop := ∀ (x1 : Int32) (x3 : Int32) (x5 : Int32) (y0 : Int32) (s0 : St) (H : Heap) (locs : List Loc) (ls : Array Slot), g x1 x3 x5 y0 s0 = some r → va_P (dC, dI) vwCl (dw_X13 a ac s0) H → va_D A (dw_X13 a ac s0) → va_S A s.heap H locs → lv_has ls 6 [(0, .ref (a 0)), (1, .int x1), (3, .int x3), (5, .int x5)] → W p l e (headSpec ow_dm_X13_expression ({ frames := 7, cells := 0, slots := 0, locals := 157 })).room s m args below meth c H locs 0 0 Q (F0 m 95 ls [.int y0])
def dj_X13_expression_81 (p : Program) (l : Launch) (e : Env) (s : State) (m : MethodId) (args : Array Value) (below : List Frame) (meth : Method) (c : Code) (Q : State → Prop) (A : Nat → Prop) (dC : Nat → ClassId) (dI : Nat → Nat → Nat) (a : Nat → Nat) (ac : Nat → ClassId) (g : Int32 → Int32 → Int32 → (St) → Option (Int32 × (St))) (r : Int32 × (St)) : Prop := ∀ (x1 : Int32) (x3 : Int32) (y0 : Int32) (s0 : St) (H : Heap) (locs : List Loc) (ls : Array Slot), g x1 x3 y0 s0 = some r → va_P (dC, dI) vwCl (dw_X13 a ac s0) H → va_D A (dw_X13 a ac s0) → va_S A s.heap H locs → lv_has ls 6 [(0, .ref (a 0)), (1, .int x1), (3, .int x3)] → W p l e (headSpec ow_dm_X13_expression ({ frames := 7, cells := 0, slots := 0, locals := 157 })).room s m args below meth c H locs 0 0 Q (F0 m 81 ls [.int y0])
def dj_X13_expression_76 (p : Program) (l : Launch) (e : Env) (s : State) (m : MethodId) (args : Array Value) (below : List Frame) (meth : Method) (c : Code) (Q : State → Prop) (A : Nat → Prop) (dC : Nat → ClassId) (dI : Nat → Nat → Nat) (a : Nat → Nat) (ac : Nat → ClassId) (g : Int32 → Int32 → (St) → Option (Int32 × (St))) (r : Int32 × (St)) : Prop := ∀ (x1 : Int32) (x3 : Int32) (s0 : St) (H : Heap) (locs : List Loc) (ls : Array Slot), g x1 x3 s0 = some r → va_P (dC, dI) vwCl (dw_X13 a ac s0) H → va_D A (dw_X13 a ac s0) → va_S A s.heap H locs → lv_has ls 6 [(0, .ref (a 0)), (1, .int x1), (3, .int x3)] → W p l e (headSpec ow_dm_X13_expression ({ frames := 7, cells := 0, slots := 0, locals := 157 })).room s m args below meth c H locs 0 0 Q (F0 m 76 ls [])
def dj_X13_expression_33 (p : Program) (l : Launch) (e : Env) (s : State) (m : MethodId) (args : Array Value) (below : List Frame) (meth : Method) (c : Code) (Q : State → Prop) (A : Nat → Prop) (dC : Nat → ClassId) (dI : Nat → Nat → Nat) (a : Nat → Nat) (ac : Nat → ClassId) (g : Int32 → Int32 → Int32 → (St) → Option (Int32 × (St))) (r : Int32 × (St)) : Prop := ∀ (x1 : Int32) (x2 : Int32) (x3 : Int32) (s0 : St) (H : Heap) (locs : List Loc) (ls : Array Slot), g x1 x2 x3 s0 = some r → va_P (dC, dI) vwCl (dw_X13 a ac s0) H → va_D A (dw_X13 a ac s0) → va_S A s.heap H locs → lv_has ls 6 [(0, .ref (a 0)), (1, .int x1), (2, .int x2), (3, .int x3)] → W p l e (headSpec ow_dm_X13_expression ({ frames := 7, cells := 0, slots := 0, locals := 157 })).room s m args below meth c H locs 0 0 Q (F0 m 33 ls [])
def dj_X13_expression_0 (p : Program) (l : Launch) (e : Env) (s : State) (m : MethodId) (args : Array Value) (below : List Frame) (meth : Method) (c : Code) (Q : State → Prop) (A : Nat → Prop) (dC : Nat → ClassId) (dI : Nat → Nat → Nat) (a : Nat → Nat) (ac : Nat → ClassId) (g : (St) → Option (Int32 × (St))) (r : Int32 × (St)) : Prop := ∀ (s0 : St) (H : Heap) (locs : List Loc) (ls : Array Slot), g s0 = some r → va_P (dC, dI) vwCl (dw_X13 a ac s0) H → va_D A (dw_X13 a ac s0) → va_S A s.heap H locs → lv_has ls 6 [(0, .ref (a 0))] → W p l e (headSpec ow_dm_X13_expression ({ frames := 7, cells := 0, slots := 0, locals := 157 })).room s m args below meth c H locs 0 0 Q (F0 m 0 ls [])
set_option maxHeartbeats 40000000 in
set_option maxRecDepth 100000 in
theorem db_X13_expression_338 {p : Program} {l : Launch} {e : Env} {s : State} {m : MethodId} {args : Array Value} {below : List Frame} {meth : Method} {c : Code} {Q : State → Prop} {A : Nat → Prop} {dC : Nat → ClassId} {dI : Nat → Nat → Nat} {a : Nat → Nat} {ac : Nat → ClassId} {n : Nat} {r : Int32 × (St)} (C : nd_C p l s m args c A (dC, dI) cX13_expression 6 RX13 ow_dm_X13_expression (dk_X13 ac)) (K : nd_Ki p l e (headSpec ow_dm_X13_expression ({ frames := 7, cells := 0, slots := 0, locals := 157 })).room s m args below meth c Q A (dC, dI) cX13_expression .int (St) (dw_X13 a ac) r) : dj_X13_expression_338 p l e s m args below meth c Q A dC dI a ac (df_X13_expression_338 n) r := by
  obtain ⟨hlt, hx, hb, hml, hown, hts, hN, hA, hK⟩ := id C
  intro x4 s0 H locs ls h hP hD hS hl
  unfold df_X13_expression_338 at h
  refine lv_iload hx hb dX13_expression_338 (lv_at hl 0 rfl) ?_
  exact K _ _ _ _ _ _ dX13_expression_340 rfl (Option.some.inj h).symm hP hD hS
set_option maxHeartbeats 40000000 in
set_option maxRecDepth 100000 in
theorem db_X13_expression_335 {p : Program} {l : Launch} {e : Env} {s : State} {m : MethodId} {args : Array Value} {below : List Frame} {meth : Method} {c : Code} {Q : State → Prop} {A : Nat → Prop} {dC : Nat → ClassId} {dI : Nat → Nat → Nat} {a : Nat → Nat} {ac : Nat → ClassId} {n : Nat} {r : Int32 × (St)} (C : nd_C p l s m args c A (dC, dI) cX13_expression 6 RX13 ow_dm_X13_expression (dk_X13 ac)) (K : nd_Ki p l e (headSpec ow_dm_X13_expression ({ frames := 7, cells := 0, slots := 0, locals := 157 })).room s m args below meth c Q A (dC, dI) cX13_expression .int (St) (dw_X13 a ac) r) : dj_X13_expression_335 p l e s m args below meth c Q A dC dI a ac (df_X13_expression_335 n) r := by
  obtain ⟨hlt, hx, hb, hml, hown, hts, hN, hA, hK⟩ := id C
  intro x4 y1 s0 H locs ls h hP hD hS hl
  unfold df_X13_expression_335 at h
  obtain ⟨s13, hq, h⟩ := nd_b1_e h
  have hPc := hP
  have hDc := hD
  have hKc := hK
  have hFc := nd_rs hD hS hA
  refine nd_cVv (As := [.int y1]) (rest := []) (w' := dw_X13 a ac s13) ⟨hx, hb, hml, hown, hts⟩ (fun sz => dm_X13_blame l hlt dC dI a ac n (y1) s0 hq sz) (cwV 1 hts gi_dm_X13_expression_0 rfl rfl rfl (by decide +kernel) ⟨Nat.le_of_ble_eq_true rfl, Nat.le_of_ble_eq_true rfl⟩) hPc hDc hKc hS hA hN (va_recv hKc hPc (ci := 14) (q0 := 0) rfl rfl) rfl hl.1 rfl (Nat.le_of_ble_eq_true rfl) dX13_expression_335 (fun H locs hP1 hD1 hk1 hS => ?_)
  have hP := hP1
  have hD := hD1.weaken (fun k q _ h => hFc q.1 h)
  exact (db_X13_expression_338 C K) (x4) s13 _ _ _ h hP hD hS (lv_sub hl [0] rfl)
set_option maxHeartbeats 40000000 in
set_option maxRecDepth 100000 in
theorem db_X13_expression_320 {p : Program} {l : Launch} {e : Env} {s : State} {m : MethodId} {args : Array Value} {below : List Frame} {meth : Method} {c : Code} {Q : State → Prop} {A : Nat → Prop} {dC : Nat → ClassId} {dI : Nat → Nat → Nat} {a : Nat → Nat} {ac : Nat → ClassId} {n : Nat} {r : Int32 × (St)} (C : nd_C p l s m args c A (dC, dI) cX13_expression 6 RX13 ow_dm_X13_expression (dk_X13 ac)) (K : nd_Ki p l e (headSpec ow_dm_X13_expression ({ frames := 7, cells := 0, slots := 0, locals := 157 })).room s m args below meth c Q A (dC, dI) cX13_expression .int (St) (dw_X13 a ac) r) : dj_X13_expression_320 p l e s m args below meth c Q A dC dI a ac (df_X13_expression_320 n) r := by
  obtain ⟨hlt, hx, hb, hml, hown, hts, hN, hA, hK⟩ := id C
  intro x4 s0 H locs ls h hP hD hS hl
  unfold df_X13_expression_320 at h
  refine lv_aload_n hx hb dX13_expression_320 rfl (lv_at hl 0 rfl) ?_
  refine lv_aload_n hx hb dX13_expression_321 rfl (lv_at hl 0 rfl) ?_
  refine va_get (D := (dC, dI)) (ci := 14) (v := .int (sI s0 21)) (C := RX13) (T := TX13) (N := 37) hx hb hts hi_dm_X13_expression_X13 hown hK hP 0 rfl rfl 31 (by decide) (hts (.fieldLink RX13 457 "TimeMachineModel$Assembler" "missing" "Z") (List.mem_of_getElem? (i := 4) rfl)) (fun _ h9 => h9) rfl dX13_expression_322 ?_
  refine lv_if_eq (tgt := 333) hx hb dX13_expression_325 (by decide) (fun c11 => ?_) (fun c11 => ?_)
  · have h := nd_pos h c11
    refine lv_bipush (v := 9) hx hb dX13_expression_333 (by decide) ?_
    exact (db_X13_expression_335 C K) (x4) (9) s0 _ _ _ h hP hD hS (lv_sub hl [1] rfl)
  · have h := nd_neg h c11
    refine lv_bipush (v := 8) hx hb dX13_expression_328 (by decide) ?_
    refine lv_goto (tgt := 335) hx hb dX13_expression_330 (by decide) ?_
    exact (db_X13_expression_335 C K) (x4) (8) s0 _ _ _ h hP hD hS (lv_sub hl [1] rfl)
set_option maxHeartbeats 40000000 in
set_option maxRecDepth 100000 in
theorem db_X13_expression_296 {p : Program} {l : Launch} {e : Env} {s : State} {m : MethodId} {args : Array Value} {below : List Frame} {meth : Method} {c : Code} {Q : State → Prop} {A : Nat → Prop} {dC : Nat → ClassId} {dI : Nat → Nat → Nat} {a : Nat → Nat} {ac : Nat → ClassId} {n : Nat} {r : Int32 × (St)} (C : nd_C p l s m args c A (dC, dI) cX13_expression 6 RX13 ow_dm_X13_expression (dk_X13 ac)) (K : nd_Ki p l e (headSpec ow_dm_X13_expression ({ frames := 7, cells := 0, slots := 0, locals := 157 })).room s m args below meth c Q A (dC, dI) cX13_expression .int (St) (dw_X13 a ac) r) : dj_X13_expression_296 p l e s m args below meth c Q A dC dI a ac (df_X13_expression_296 n) r := by
  obtain ⟨hlt, hx, hb, hml, hown, hts, hN, hA, hK⟩ := id C
  intro y0 s0 H locs ls h hP hD hS hl
  unfold df_X13_expression_296 at h
  refine lv_istore (lv' := [(4, .int y0), (0, .ref (a 0))]) hx hb dX13_expression_296 hl (by decide) rfl (fun ls hl => ?_)
  refine lv_aload_n hx hb dX13_expression_298 rfl (lv_at hl 1 rfl) ?_
  refine va_get (D := (dC, dI)) (ci := 14) (v := .int (sI s0 15)) (C := RX13) (T := TX13) (N := 37) hx hb hts hi_dm_X13_expression_X13 hown hK hP 0 rfl rfl 24 (by decide) (hts (.fieldLink RX13 522 "TimeMachineModel$Assembler" "mode" "I") (List.mem_of_getElem? (i := 8) rfl)) (fun _ h9 => h9) rfl dX13_expression_299 ?_
  refine lv_iconst (v := 2) hx hb dX13_expression_302 (by decide) ?_
  refine lv_icmp_ne (tgt := 338) hx hb dX13_expression_303 (by decide) (fun c9 => ?_) (fun c9 => ?_)
  · have h := nd_neg h c9
    exact (db_X13_expression_338 C K) (y0) s0 _ _ _ h hP hD hS (lv_sub hl [0] rfl)
  · have h := nd_pos h c9
    refine lv_aload_n hx hb dX13_expression_306 rfl (lv_at hl 1 rfl) ?_
    refine va_get (D := (dC, dI)) (ci := 14) (v := .int (sI s0 21)) (C := RX13) (T := TX13) (N := 37) hx hb hts hi_dm_X13_expression_X13 hown hK hP 0 rfl rfl 31 (by decide) (hts (.fieldLink RX13 457 "TimeMachineModel$Assembler" "missing" "Z") (List.mem_of_getElem? (i := 4) rfl)) (fun _ h9 => h9) rfl dX13_expression_307 ?_
    refine lv_if_ne (tgt := 320) hx hb dX13_expression_310 (by decide) (fun c10 => ?_) (fun c10 => ?_)
    · have h := nd_neg h c10
      exact (db_X13_expression_320 C K) (y0) s0 _ _ _ h hP hD hS (lv_sub hl [1, 0] rfl)
    · have h := nd_pos h c10
      refine lv_aload_n hx hb dX13_expression_313 rfl (lv_at hl 1 rfl) ?_
      refine va_get (D := (dC, dI)) (ci := 14) (v := .int (sI s0 22)) (C := RX13) (T := TX13) (N := 37) hx hb hts hi_dm_X13_expression_X13 hown hK hP 0 rfl rfl 32 (by decide) (hts (.fieldLink RX13 470 "TimeMachineModel$Assembler" "divided" "Z") (List.mem_of_getElem? (i := 5) rfl)) (fun _ h9 => h9) rfl dX13_expression_314 ?_
      refine lv_if_eq (tgt := 338) hx hb dX13_expression_317 (by decide) (fun c15 => ?_) (fun c15 => ?_)
      · have h := nd_pos h c15
        exact (db_X13_expression_338 C K) (y0) s0 _ _ _ h hP hD hS (lv_sub hl [0] rfl)
      · have h := nd_neg h c15
        exact (db_X13_expression_320 C K) (y0) s0 _ _ _ h hP hD hS (lv_sub hl [1, 0] rfl)
set_option maxHeartbeats 40000000 in
set_option maxRecDepth 100000 in
theorem db_X13_expression_276 {p : Program} {l : Launch} {e : Env} {s : State} {m : MethodId} {args : Array Value} {below : List Frame} {meth : Method} {c : Code} {Q : State → Prop} {A : Nat → Prop} {dC : Nat → ClassId} {dI : Nat → Nat → Nat} {a : Nat → Nat} {ac : Nat → ClassId} {n : Nat} {r : Int32 × (St)} (C : nd_C p l s m args c A (dC, dI) cX13_expression 6 RX13 ow_dm_X13_expression (dk_X13 ac)) (K : nd_Ki p l e (headSpec ow_dm_X13_expression ({ frames := 7, cells := 0, slots := 0, locals := 157 })).room s m args below meth c Q A (dC, dI) cX13_expression .int (St) (dw_X13 a ac) r) : dj_X13_expression_276 p l e s m args below meth c Q A dC dI a ac (df_X13_expression_276 n) r := by
  obtain ⟨hlt, hx, hb, hml, hown, hts, hN, hA, hK⟩ := id C
  intro s0 H locs ls h hP hD hS hl
  unfold df_X13_expression_276 at h
  refine lv_aload_n hx hb dX13_expression_276 rfl (lv_at hl 0 rfl) ?_
  refine va_get (D := (dC, dI)) (ci := 14) (v := .int (sI s0 12)) (C := RX13) (T := TX13) (N := 37) hx hb hts hi_dm_X13_expression_X13 hown hK hP 0 rfl rfl 21 (by decide) (hts (.fieldLink RX13 410 "TimeMachineModel$Assembler" "fault" "I") (List.mem_of_getElem? (i := 7) rfl)) (fun _ h9 => h9) rfl dX13_expression_277 ?_
  refine lv_if_ne (tgt := 295) hx hb dX13_expression_280 (by decide) (fun c8 => ?_) (fun c8 => ?_)
  · have h := nd_neg h c8
    refine lv_iconst (v := 0) hx hb dX13_expression_295 (by decide) ?_
    exact (db_X13_expression_296 C K) (0) s0 _ _ _ h hP hD hS (lv_sub hl [0] rfl)
  · have h := nd_pos h c8
    refine lv_aload_n hx hb dX13_expression_283 rfl (lv_at hl 0 rfl) ?_
    refine va_get (D := (dC, dI)) (ci := 14) (v := .ref (a 10)) (C := RX13) (T := TX13) (N := 37) hx hb hts hi_dm_X13_expression_X13 hown hK hP 0 rfl rfl 34 (by decide) (hts (.fieldLink RX13 344 "TimeMachineModel$Assembler" "pile" "[I") (List.mem_of_getElem? (i := 13) rfl)) (fun _ h9 => h9) rfl dX13_expression_284 ?_
    refine lv_aload_n hx hb dX13_expression_287 rfl (lv_at hl 0 rfl) ?_
    refine va_get (D := (dC, dI)) (ci := 14) (v := .int (sI s0 25)) (C := RX13) (T := TX13) (N := 37) hx hb hts hi_dm_X13_expression_X13 hown hK hP 0 rfl rfl 36 (by decide) (hts (.fieldLink RX13 467 "TimeMachineModel$Assembler" "values" "I") (List.mem_of_getElem? (i := 3) rfl)) (fun _ h9 => h9) rfl dX13_expression_288 ?_
    obtain ⟨i16, h⟩ := nd_ck_e h
    refine va_iald (i := (sI s0 25)) hx hb hK hP 10 9 rfl rfl i16 dX13_expression_291 ?_
    refine lv_goto (tgt := 296) hx hb dX13_expression_292 (by decide) ?_
    exact (db_X13_expression_296 C K) ((sR s0 8 (Int32.toNatClampNeg (sI s0 25)))) s0 _ _ _ h hP hD hS (lv_sub hl [0] rfl)
set_option maxHeartbeats 40000000 in
set_option maxRecDepth 100000 in
theorem dB_X13_expression_255 {p : Program} {l : Launch} {e : Env} {s : State} {m : MethodId} {args : Array Value} {below : List Frame} {meth : Method} {c : Code} {Q : State → Prop} {A : Nat → Prop} {dC : Nat → ClassId} {dI : Nat → Nat → Nat} {a : Nat → Nat} {ac : Nat → ClassId} {n : Nat} {r : Int32 × (St)} (C : nd_C p l s m args c A (dC, dI) cX13_expression 6 RX13 ow_dm_X13_expression (dk_X13 ac)) (K : nd_Ki p l e (headSpec ow_dm_X13_expression ({ frames := 7, cells := 0, slots := 0, locals := 157 })).room s m args below meth c Q A (dC, dI) cX13_expression .int (St) (dw_X13 a ac) r) {g255 : (St) → Option (Int32 × (St))} (J255 : dj_X13_expression_255 p l e s m args below meth c Q A dC dI a ac g255 r) : dj_X13_expression_255 p l e s m args below meth c Q A dC dI a ac (dF_X13_expression_255 n g255) r := by
  obtain ⟨hlt, hx, hb, hml, hown, hts, hN, hA, hK⟩ := id C
  intro s0 H locs ls h hP hD hS hl
  unfold dF_X13_expression_255 at h
  refine lv_aload_n hx hb dX13_expression_255 rfl (lv_at hl 0 rfl) ?_
  refine va_get (D := (dC, dI)) (ci := 14) (v := .int (sI s0 24)) (C := RX13) (T := TX13) (N := 37) hx hb hts hi_dm_X13_expression_X13 hown hK hP 0 rfl rfl 35 (by decide) (hts (.fieldLink RX13 464 "TimeMachineModel$Assembler" "signs" "I") (List.mem_of_getElem? (i := 1) rfl)) (fun _ h9 => h9) rfl dX13_expression_256 ?_
  refine lv_if_le (tgt := 276) hx hb dX13_expression_259 (by decide) (fun c7 => ?_) (fun c7 => ?_)
  · have h := nd_pos h c7
    exact (db_X13_expression_276 C K)  s0 _ _ _ h hP hD hS (lv_sub hl [0] rfl)
  · have h := nd_neg h c7
    refine lv_aload_n hx hb dX13_expression_262 rfl (lv_at hl 0 rfl) ?_
    refine va_get (D := (dC, dI)) (ci := 14) (v := .int (sI s0 12)) (C := RX13) (T := TX13) (N := 37) hx hb hts hi_dm_X13_expression_X13 hown hK hP 0 rfl rfl 21 (by decide) (hts (.fieldLink RX13 410 "TimeMachineModel$Assembler" "fault" "I") (List.mem_of_getElem? (i := 7) rfl)) (fun _ h9 => h9) rfl dX13_expression_263 ?_
    refine lv_if_ne (tgt := 276) hx hb dX13_expression_266 (by decide) (fun c17 => ?_) (fun c17 => ?_)
    · have h := nd_neg h c17
      exact (db_X13_expression_276 C K)  s0 _ _ _ h hP hD hS (lv_sub hl [0] rfl)
    · have h := nd_pos h c17
      refine lv_aload_n hx hb dX13_expression_269 rfl (lv_at hl 0 rfl) ?_
      obtain ⟨s19, hq, h⟩ := nd_b1_e h
      have hPc := hP
      have hDc := hD
      have hKc := hK
      have hFc := nd_rs hD hS hA
      refine nd_cVv (As := []) (rest := []) (w' := dw_X13 a ac s19) ⟨hx, hb, hml, hown, hts⟩ (fun sz => dm_X13_join l hlt dC dI a ac n  s0 hq sz) (cwV 0 hts gi_dm_X13_expression_1 rfl rfl rfl (by decide +kernel) ⟨Nat.le_of_ble_eq_true rfl, Nat.le_of_ble_eq_true rfl⟩) hPc hDc hKc hS hA hN (va_recv hKc hPc (ci := 14) (q0 := 0) rfl rfl) rfl hl.1 rfl (Nat.le_of_ble_eq_true rfl) dX13_expression_270 (fun H locs hP1 hD1 hk1 hS => ?_)
      have hP := hP1
      have hD := hD1.weaken (fun k q _ h => hFc q.1 h)
      refine lv_goto (tgt := 255) hx hb dX13_expression_273 (by decide) ?_
      exact (J255)  s19 _ _ _ h hP hD hS (lv_sub hl [0] rfl)
set_option maxHeartbeats 40000000 in
set_option maxRecDepth 100000 in
theorem db_X13_expression_255 {p : Program} {l : Launch} {e : Env} {s : State} {m : MethodId} {args : Array Value} {below : List Frame} {meth : Method} {c : Code} {Q : State → Prop} {A : Nat → Prop} {dC : Nat → ClassId} {dI : Nat → Nat → Nat} {a : Nat → Nat} {ac : Nat → ClassId} {n : Nat} {r : Int32 × (St)} (C : nd_C p l s m args c A (dC, dI) cX13_expression 6 RX13 ow_dm_X13_expression (dk_X13 ac)) (K : nd_Ki p l e (headSpec ow_dm_X13_expression ({ frames := 7, cells := 0, slots := 0, locals := 157 })).room s m args below meth c Q A (dC, dI) cX13_expression .int (St) (dw_X13 a ac) r) (k : Nat) : dj_X13_expression_255 p l e s m args below meth c Q A dC dI a ac (df_X13_expression_255 n k) r := by
  induction k with
  | zero => intro s0 H locs ls h; exact nomatch (show (none : Option (Int32 × (St))) = some r from h)
  | succ k ih => exact dB_X13_expression_255 C K ih
set_option maxHeartbeats 40000000 in
set_option maxRecDepth 100000 in
theorem db_X13_expression_252 {p : Program} {l : Launch} {e : Env} {s : State} {m : MethodId} {args : Array Value} {below : List Frame} {meth : Method} {c : Code} {Q : State → Prop} {A : Nat → Prop} {dC : Nat → ClassId} {dI : Nat → Nat → Nat} {a : Nat → Nat} {ac : Nat → ClassId} {n : Nat} {r : Int32 × (St)} (C : nd_C p l s m args c A (dC, dI) cX13_expression 6 RX13 ow_dm_X13_expression (dk_X13 ac)) (K : nd_Ki p l e (headSpec ow_dm_X13_expression ({ frames := 7, cells := 0, slots := 0, locals := 157 })).room s m args below meth c Q A (dC, dI) cX13_expression .int (St) (dw_X13 a ac) r) {g33 : Int32 → Int32 → Int32 → (St) → Option (Int32 × (St))} (J33 : dj_X13_expression_33 p l e s m args below meth c Q A dC dI a ac g33 r) : dj_X13_expression_252 p l e s m args below meth c Q A dC dI a ac (df_X13_expression_252 n g33) r := by
  obtain ⟨hlt, hx, hb, hml, hown, hts, hN, hA, hK⟩ := id C
  intro x1 x2 x3 s0 H locs ls h hP hD hS hl
  unfold df_X13_expression_252 at h
  refine lv_goto (tgt := 33) hx hb dX13_expression_252 (by decide) ?_
  exact (J33) (x1) (x2) (x3) s0 _ _ _ h hP hD hS (lv_sub hl [0, 1, 2, 3] rfl)
set_option maxHeartbeats 40000000 in
set_option maxRecDepth 100000 in
theorem db_X13_expression_246 {p : Program} {l : Launch} {e : Env} {s : State} {m : MethodId} {args : Array Value} {below : List Frame} {meth : Method} {c : Code} {Q : State → Prop} {A : Nat → Prop} {dC : Nat → ClassId} {dI : Nat → Nat → Nat} {a : Nat → Nat} {ac : Nat → ClassId} {n : Nat} {r : Int32 × (St)} (C : nd_C p l s m args c A (dC, dI) cX13_expression 6 RX13 ow_dm_X13_expression (dk_X13 ac)) (K : nd_Ki p l e (headSpec ow_dm_X13_expression ({ frames := 7, cells := 0, slots := 0, locals := 157 })).room s m args below meth c Q A (dC, dI) cX13_expression .int (St) (dw_X13 a ac) r) {g33 : Int32 → Int32 → Int32 → (St) → Option (Int32 × (St))} (J33 : dj_X13_expression_33 p l e s m args below meth c Q A dC dI a ac g33 r) : dj_X13_expression_246 p l e s m args below meth c Q A dC dI a ac (df_X13_expression_246 n g33) r := by
  obtain ⟨hlt, hx, hb, hml, hown, hts, hN, hA, hK⟩ := id C
  intro x1 x2 x3 x4 s0 H locs ls h hP hD hS hl
  unfold df_X13_expression_246 at h
  refine lv_aload_n hx hb dX13_expression_246 rfl (lv_at hl 0 rfl) ?_
  refine lv_iload hx hb dX13_expression_247 (lv_at hl 4 rfl) ?_
  refine va_put (D := (dC, dI)) (ci := 14) (v := .int x4) (ty := .int) (C := RX13) (T := TX13) (N := 37) hx hb hts hi_dm_X13_expression_X13 tyX13 tyX13_ok nmX13 hown hK hP hD hS 0 rfl rfl 16 (by decide) (hts (.fieldLink RX13 374 "TimeMachineModel$Assembler" "at" "I") (List.mem_of_getElem? (i := 17) rfl)) (fun _ h9 => h9) rfl (by decide +kernel) rfl rfl (Nat.le_of_ble_eq_true rfl) dX13_expression_249 (fun H locs hP hD hS => ?_)
  obtain ⟨s33, es33, h⟩ := nd_let_e h
  have hP : va_P (dC, dI) vwCl (dw_X13 a ac s33) H := by rw [es33]; exact hP
  have hD : va_D A (dw_X13 a ac s33) := by rw [es33]; exact hD
  exact (db_X13_expression_252 C K J33) (x1) (x2) (x3) s33 _ _ _ h hP hD hS (lv_sub hl [0, 1, 2, 3] rfl)
set_option maxHeartbeats 40000000 in
set_option maxRecDepth 100000 in
theorem db_X13_expression_235 {p : Program} {l : Launch} {e : Env} {s : State} {m : MethodId} {args : Array Value} {below : List Frame} {meth : Method} {c : Code} {Q : State → Prop} {A : Nat → Prop} {dC : Nat → ClassId} {dI : Nat → Nat → Nat} {a : Nat → Nat} {ac : Nat → ClassId} {n : Nat} {r : Int32 × (St)} (C : nd_C p l s m args c A (dC, dI) cX13_expression 6 RX13 ow_dm_X13_expression (dk_X13 ac)) (K : nd_Ki p l e (headSpec ow_dm_X13_expression ({ frames := 7, cells := 0, slots := 0, locals := 157 })).room s m args below meth c Q A (dC, dI) cX13_expression .int (St) (dw_X13 a ac) r) {g33 : Int32 → Int32 → Int32 → (St) → Option (Int32 × (St))} (J33 : dj_X13_expression_33 p l e s m args below meth c Q A dC dI a ac g33 r) : dj_X13_expression_235 p l e s m args below meth c Q A dC dI a ac (df_X13_expression_235 n g33) r := by
  obtain ⟨hlt, hx, hb, hml, hown, hts, hN, hA, hK⟩ := id C
  intro x1 x2 x4 s0 H locs ls h hP hD hS hl
  unfold df_X13_expression_235 at h
  refine lv_iconst (v := 0) hx hb dX13_expression_235 (by decide) ?_
  refine lv_istore_n (lv' := [(3, .int 0), (0, .ref (a 0)), (1, .int x1), (2, .int x2), (4, .int x4)]) hx hb dX13_expression_236 rfl hl (by decide) rfl (fun ls hl => ?_)
  refine lv_iload_n hx hb dX13_expression_237 rfl (lv_at hl 2 rfl) ?_
  refine lv_if_le (tgt := 246) hx hb dX13_expression_238 (by decide) (fun c32 => ?_) (fun c32 => ?_)
  · have h := nd_pos h c32
    exact (db_X13_expression_246 C K J33) (x1) (x2) (0) (x4) s0 _ _ _ h hP hD hS (lv_sub hl [1, 2, 3, 0, 4] rfl)
  · have h := nd_neg h c32
    refine lv_aload_n hx hb dX13_expression_241 rfl (lv_at hl 1 rfl) ?_
    refine lv_iconst (v := 1) hx hb dX13_expression_242 (by decide) ?_
    obtain ⟨s35, hq, h⟩ := nd_b1_e h
    have hPc := hP
    have hDc := hD
    have hKc := hK
    have hFc := nd_rs hD hS hA
    refine nd_cVv (As := [.int 1]) (rest := []) (w' := dw_X13 a ac s35) ⟨hx, hb, hml, hown, hts⟩ (fun sz => dm_X13_blame l hlt dC dI a ac n (1) s0 hq sz) (cwV 1 hts gi_dm_X13_expression_0 rfl rfl rfl (by decide +kernel) ⟨Nat.le_of_ble_eq_true rfl, Nat.le_of_ble_eq_true rfl⟩) hPc hDc hKc hS hA hN (va_recv hKc hPc (ci := 14) (q0 := 0) rfl rfl) rfl hl.1 rfl (Nat.le_of_ble_eq_true rfl) dX13_expression_243 (fun H locs hP1 hD1 hk1 hS => ?_)
    have hP := hP1
    have hD := hD1.weaken (fun k q _ h => hFc q.1 h)
    exact (db_X13_expression_246 C K J33) (x1) (x2) (0) (x4) s35 _ _ _ h hP hD hS (lv_sub hl [1, 2, 3, 0, 4] rfl)
set_option maxHeartbeats 40000000 in
set_option maxRecDepth 100000 in
theorem dB_X13_expression_193 {p : Program} {l : Launch} {e : Env} {s : State} {m : MethodId} {args : Array Value} {below : List Frame} {meth : Method} {c : Code} {Q : State → Prop} {A : Nat → Prop} {dC : Nat → ClassId} {dI : Nat → Nat → Nat} {a : Nat → Nat} {ac : Nat → ClassId} {n : Nat} {r : Int32 × (St)} (C : nd_C p l s m args c A (dC, dI) cX13_expression 6 RX13 ow_dm_X13_expression (dk_X13 ac)) (K : nd_Ki p l e (headSpec ow_dm_X13_expression ({ frames := 7, cells := 0, slots := 0, locals := 157 })).room s m args below meth c Q A (dC, dI) cX13_expression .int (St) (dw_X13 a ac) r) {g33 : Int32 → Int32 → Int32 → (St) → Option (Int32 × (St))} (J33 : dj_X13_expression_33 p l e s m args below meth c Q A dC dI a ac g33 r) {g193 : Int32 → Int32 → Int32 → (St) → Option (Int32 × (St))} (J193 : dj_X13_expression_193 p l e s m args below meth c Q A dC dI a ac g193 r) : dj_X13_expression_193 p l e s m args below meth c Q A dC dI a ac (dF_X13_expression_193 n g33 g193) r := by
  obtain ⟨hlt, hx, hb, hml, hown, hts, hN, hA, hK⟩ := id C
  intro x1 x2 x3 s0 H locs ls h hP hD hS hl
  unfold dF_X13_expression_193 at h
  refine lv_aload_n hx hb dX13_expression_193 rfl (lv_at hl 0 rfl) ?_
  refine va_get (D := (dC, dI)) (ci := 14) (v := .ref (a 10)) (C := RX13) (T := TX13) (N := 37) hx hb hts hi_dm_X13_expression_X13 hown hK hP 0 rfl rfl 34 (by decide) (hts (.fieldLink RX13 344 "TimeMachineModel$Assembler" "pile" "[I") (List.mem_of_getElem? (i := 13) rfl)) (fun _ h9 => h9) rfl dX13_expression_194 ?_
  refine lv_aload_n hx hb dX13_expression_197 rfl (lv_at hl 0 rfl) ?_
  refine va_get (D := (dC, dI)) (ci := 14) (v := .int (sI s0 24)) (C := RX13) (T := TX13) (N := 37) hx hb hts hi_dm_X13_expression_X13 hown hK hP 0 rfl rfl 35 (by decide) (hts (.fieldLink RX13 464 "TimeMachineModel$Assembler" "signs" "I") (List.mem_of_getElem? (i := 1) rfl)) (fun _ h9 => h9) rfl dX13_expression_198 ?_
  refine lv_iconst (v := 1) hx hb dX13_expression_201 (by decide) ?_
  refine lv_isub hx hb dX13_expression_202 ?_
  obtain ⟨i38, h⟩ := nd_ck_e h
  refine va_iald (i := ((sI s0 24) - 1)) hx hb hK hP 10 9 rfl rfl i38 dX13_expression_203 ?_
  refine lv_iconst (v := 1) hx hb dX13_expression_204 (by decide) ?_
  refine lv_icmp_eq (tgt := 215) hx hb dX13_expression_205 (by decide) (fun c39 => ?_) (fun c39 => ?_)
  · have h := nd_pos h c39
    refine lv_aload_n hx hb dX13_expression_215 rfl (lv_at hl 0 rfl) ?_
    refine lv_dup hx hb dX13_expression_216 rfl ?_
    refine va_get (D := (dC, dI)) (ci := 14) (v := .int (sI s0 24)) (C := RX13) (T := TX13) (N := 37) hx hb hts hi_dm_X13_expression_X13 hown hK hP 0 rfl rfl 35 (by decide) (hts (.fieldLink RX13 464 "TimeMachineModel$Assembler" "signs" "I") (List.mem_of_getElem? (i := 1) rfl)) (fun _ h9 => h9) rfl dX13_expression_217 ?_
    refine lv_iconst (v := 1) hx hb dX13_expression_220 (by decide) ?_
    refine lv_isub hx hb dX13_expression_221 ?_
    refine va_put (D := (dC, dI)) (ci := 14) (v := .int ((sI s0 24) - 1)) (ty := .int) (C := RX13) (T := TX13) (N := 37) hx hb hts hi_dm_X13_expression_X13 tyX13 tyX13_ok nmX13 hown hK hP hD hS 0 rfl rfl 35 (by decide) (hts (.fieldLink RX13 464 "TimeMachineModel$Assembler" "signs" "I") (List.mem_of_getElem? (i := 1) rfl)) (fun _ h9 => h9) rfl (by decide +kernel) rfl rfl (Nat.le_of_ble_eq_true rfl) dX13_expression_222 (fun H locs hP hD hS => ?_)
    obtain ⟨s40, es40, h⟩ := nd_let_e h
    have hP : va_P (dC, dI) vwCl (dw_X13 a ac s40) H := by rw [es40]; exact hP
    have hD : va_D A (dw_X13 a ac s40) := by rw [es40]; exact hD
    obtain ⟨z41, ez41, h⟩ := nd_let_e h
    refine lv_iinc (v := z41) (lv' := [(1, .int z41), (0, .ref (a 0)), (2, .int x2), (3, .int x3)]) hx hb dX13_expression_225 hl (k := 1) rfl (by rw [ez41]) (by decide) rfl (fun ls hl => ?_)
    refine lv_aload_n hx hb dX13_expression_228 rfl (lv_at hl 1 rfl) ?_
    obtain ⟨s43, hq, h⟩ := nd_b1_e h
    have hPc := hP
    have hDc := hD
    have hKc := hK
    have hFc := nd_rs hD hS hA
    refine nd_cVv (As := []) (rest := []) (w' := dw_X13 a ac s43) ⟨hx, hb, hml, hown, hts⟩ (fun sz => dm_X13_bind l hlt dC dI a ac n  s40 hq sz) (cwV 0 hts gi_dm_X13_expression_4 rfl rfl rfl (by decide +kernel) ⟨Nat.le_of_ble_eq_true rfl, Nat.le_of_ble_eq_true rfl⟩) hPc hDc hKc hS hA hN (va_recv hKc hPc (ci := 14) (q0 := 0) rfl rfl) rfl hl.1 rfl (Nat.le_of_ble_eq_true rfl) dX13_expression_229 (fun H locs hP1 hD1 hk1 hS => ?_)
    have hP := hP1
    have hD := hD1.weaken (fun k q _ h => hFc q.1 h)
    refine lv_goto (tgt := 252) hx hb dX13_expression_232 (by decide) ?_
    exact (db_X13_expression_252 C K J33) (z41) (x2) (x3) s43 _ _ _ h hP hD hS (lv_sub hl [1, 0, 2, 3] rfl)
  · have h := nd_neg h c39
    refine lv_aload_n hx hb dX13_expression_208 rfl (lv_at hl 0 rfl) ?_
    obtain ⟨s46, hq, h⟩ := nd_b1_e h
    have hPc := hP
    have hDc := hD
    have hKc := hK
    have hFc := nd_rs hD hS hA
    refine nd_cVv (As := []) (rest := []) (w' := dw_X13 a ac s46) ⟨hx, hb, hml, hown, hts⟩ (fun sz => dm_X13_join l hlt dC dI a ac n  s0 hq sz) (cwV 0 hts gi_dm_X13_expression_1 rfl rfl rfl (by decide +kernel) ⟨Nat.le_of_ble_eq_true rfl, Nat.le_of_ble_eq_true rfl⟩) hPc hDc hKc hS hA hN (va_recv hKc hPc (ci := 14) (q0 := 0) rfl rfl) rfl hl.1 rfl (Nat.le_of_ble_eq_true rfl) dX13_expression_209 (fun H locs hP1 hD1 hk1 hS => ?_)
    have hP := hP1
    have hD := hD1.weaken (fun k q _ h => hFc q.1 h)
    refine lv_goto (tgt := 193) hx hb dX13_expression_212 (by decide) ?_
    exact (J193) (x1) (x2) (x3) s46 _ _ _ h hP hD hS (lv_sub hl [0, 1, 2, 3] rfl)
set_option maxHeartbeats 40000000 in
set_option maxRecDepth 100000 in
theorem db_X13_expression_193 {p : Program} {l : Launch} {e : Env} {s : State} {m : MethodId} {args : Array Value} {below : List Frame} {meth : Method} {c : Code} {Q : State → Prop} {A : Nat → Prop} {dC : Nat → ClassId} {dI : Nat → Nat → Nat} {a : Nat → Nat} {ac : Nat → ClassId} {n : Nat} {r : Int32 × (St)} (C : nd_C p l s m args c A (dC, dI) cX13_expression 6 RX13 ow_dm_X13_expression (dk_X13 ac)) (K : nd_Ki p l e (headSpec ow_dm_X13_expression ({ frames := 7, cells := 0, slots := 0, locals := 157 })).room s m args below meth c Q A (dC, dI) cX13_expression .int (St) (dw_X13 a ac) r) {g33 : Int32 → Int32 → Int32 → (St) → Option (Int32 × (St))} (J33 : dj_X13_expression_33 p l e s m args below meth c Q A dC dI a ac g33 r) (k : Nat) : dj_X13_expression_193 p l e s m args below meth c Q A dC dI a ac (df_X13_expression_193 n g33 k) r := by
  induction k with
  | zero => intro x1 x2 x3 s0 H locs ls h; exact nomatch (show (none : Option (Int32 × (St))) = some r from h)
  | succ k ih => exact dB_X13_expression_193 C K J33 ih
set_option maxHeartbeats 40000000 in
set_option maxRecDepth 100000 in
theorem db_X13_expression_180 {p : Program} {l : Launch} {e : Env} {s : State} {m : MethodId} {args : Array Value} {below : List Frame} {meth : Method} {c : Code} {Q : State → Prop} {A : Nat → Prop} {dC : Nat → ClassId} {dI : Nat → Nat → Nat} {a : Nat → Nat} {ac : Nat → ClassId} {n : Nat} {r : Int32 × (St)} (C : nd_C p l s m args c A (dC, dI) cX13_expression 6 RX13 ow_dm_X13_expression (dk_X13 ac)) (K : nd_Ki p l e (headSpec ow_dm_X13_expression ({ frames := 7, cells := 0, slots := 0, locals := 157 })).room s m args below meth c Q A (dC, dI) cX13_expression .int (St) (dw_X13 a ac) r) {g33 : Int32 → Int32 → Int32 → (St) → Option (Int32 × (St))} (J33 : dj_X13_expression_33 p l e s m args below meth c Q A dC dI a ac g33 r) : dj_X13_expression_180 p l e s m args below meth c Q A dC dI a ac (df_X13_expression_180 n g33) r := by
  obtain ⟨hlt, hx, hb, hml, hown, hts, hN, hA, hK⟩ := id C
  intro x1 x2 x3 x4 s0 H locs ls h hP hD hS hl
  unfold df_X13_expression_180 at h
  refine lv_aload_n hx hb dX13_expression_180 rfl (lv_at hl 0 rfl) ?_
  refine va_get (D := (dC, dI)) (ci := 14) (v := .int (sI s0 8)) (C := RX13) (T := TX13) (N := 37) hx hb hts hi_dm_X13_expression_X13 hown hK hP 0 rfl rfl 17 (by decide) (hts (.fieldLink RX13 365 "TimeMachineModel$Assembler" "token" "I") (List.mem_of_getElem? (i := 21) rfl)) (fun _ h9 => h9) rfl dX13_expression_181 ?_
  refine lv_bipush (v := 41) hx hb dX13_expression_184 (by decide) ?_
  refine lv_icmp_ne (tgt := 235) hx hb dX13_expression_186 (by decide) (fun c31 => ?_) (fun c31 => ?_)
  · have h := nd_neg h c31
    exact (db_X13_expression_235 C K J33) (x1) (x2) (x4) s0 _ _ _ h hP hD hS (lv_sub hl [0, 1, 2, 4] rfl)
  · have h := nd_pos h c31
    refine lv_iload_n hx hb dX13_expression_189 rfl (lv_at hl 1 rfl) ?_
    refine lv_if_le (tgt := 235) hx hb dX13_expression_190 (by decide) (fun c37 => ?_) (fun c37 => ?_)
    · have h := nd_pos h c37
      exact (db_X13_expression_235 C K J33) (x1) (x2) (x4) s0 _ _ _ h hP hD hS (lv_sub hl [0, 1, 2, 4] rfl)
    · have h := nd_neg h c37
      exact (db_X13_expression_193 C K J33 n) (x1) (x2) (x3) s0 _ _ _ h hP hD hS (lv_sub hl [0, 1, 2, 3] rfl)
set_option maxHeartbeats 40000000 in
set_option maxRecDepth 100000 in
theorem db_X13_expression_167 {p : Program} {l : Launch} {e : Env} {s : State} {m : MethodId} {args : Array Value} {below : List Frame} {meth : Method} {c : Code} {Q : State → Prop} {A : Nat → Prop} {dC : Nat → ClassId} {dI : Nat → Nat → Nat} {a : Nat → Nat} {ac : Nat → ClassId} {n : Nat} {r : Int32 × (St)} (C : nd_C p l s m args c A (dC, dI) cX13_expression 6 RX13 ow_dm_X13_expression (dk_X13 ac)) (K : nd_Ki p l e (headSpec ow_dm_X13_expression ({ frames := 7, cells := 0, slots := 0, locals := 157 })).room s m args below meth c Q A (dC, dI) cX13_expression .int (St) (dw_X13 a ac) r) {g33 : Int32 → Int32 → Int32 → (St) → Option (Int32 × (St))} (J33 : dj_X13_expression_33 p l e s m args below meth c Q A dC dI a ac g33 r) : dj_X13_expression_167 p l e s m args below meth c Q A dC dI a ac (df_X13_expression_167 n g33) r := by
  obtain ⟨hlt, hx, hb, hml, hown, hts, hN, hA, hK⟩ := id C
  intro x1 x3 s0 H locs ls h hP hD hS hl
  unfold df_X13_expression_167 at h
  refine lv_aload_n hx hb dX13_expression_167 rfl (lv_at hl 0 rfl) ?_
  refine lv_aload_n hx hb dX13_expression_168 rfl (lv_at hl 0 rfl) ?_
  refine va_get (D := (dC, dI)) (ci := 14) (v := .int (sI s0 8)) (C := RX13) (T := TX13) (N := 37) hx hb hts hi_dm_X13_expression_X13 hown hK hP 0 rfl rfl 17 (by decide) (hts (.fieldLink RX13 365 "TimeMachineModel$Assembler" "token" "I") (List.mem_of_getElem? (i := 21) rfl)) (fun _ h9 => h9) rfl dX13_expression_169 ?_
  obtain ⟨s51, hq, h⟩ := nd_b1_e h
  have hPc := hP
  have hDc := hD
  have hKc := hK
  have hFc := nd_rs hD hS hA
  refine nd_cVv (As := [.int (sI s0 8)]) (rest := []) (w' := dw_X13 a ac s51) ⟨hx, hb, hml, hown, hts⟩ (fun sz => dm_X13_sign l hlt dC dI a ac n ((sI s0 8)) s0 hq sz) (cwV 1 hts gi_dm_X13_expression_5 rfl rfl rfl (by decide +kernel) ⟨Nat.le_of_ble_eq_true rfl, Nat.le_of_ble_eq_true rfl⟩) hPc hDc hKc hS hA hN (va_recv hKc hPc (ci := 14) (q0 := 0) rfl rfl) rfl hl.1 rfl (Nat.le_of_ble_eq_true rfl) dX13_expression_172 (fun H locs hP1 hD1 hk1 hS => ?_)
  have hP := hP1
  have hD := hD1.weaken (fun k q _ h => hFc q.1 h)
  refine lv_iconst (v := 1) hx hb dX13_expression_175 (by decide) ?_
  refine lv_istore_n (lv' := [(2, .int 1), (0, .ref (a 0)), (1, .int x1), (3, .int x3)]) hx hb dX13_expression_176 rfl hl (by decide) rfl (fun ls hl => ?_)
  refine lv_goto (tgt := 252) hx hb dX13_expression_177 (by decide) ?_
  exact (db_X13_expression_252 C K J33) (x1) (1) (x3) s51 _ _ _ h hP hD hS (lv_sub hl [1, 2, 0, 3] rfl)
set_option maxHeartbeats 40000000 in
set_option maxRecDepth 100000 in
theorem dB_X13_expression_129 {p : Program} {l : Launch} {e : Env} {s : State} {m : MethodId} {args : Array Value} {below : List Frame} {meth : Method} {c : Code} {Q : State → Prop} {A : Nat → Prop} {dC : Nat → ClassId} {dI : Nat → Nat → Nat} {a : Nat → Nat} {ac : Nat → ClassId} {n : Nat} {r : Int32 × (St)} (C : nd_C p l s m args c A (dC, dI) cX13_expression 6 RX13 ow_dm_X13_expression (dk_X13 ac)) (K : nd_Ki p l e (headSpec ow_dm_X13_expression ({ frames := 7, cells := 0, slots := 0, locals := 157 })).room s m args below meth c Q A (dC, dI) cX13_expression .int (St) (dw_X13 a ac) r) {g33 : Int32 → Int32 → Int32 → (St) → Option (Int32 × (St))} (J33 : dj_X13_expression_33 p l e s m args below meth c Q A dC dI a ac g33 r) {g129 : Int32 → Int32 → (St) → Option (Int32 × (St))} (J129 : dj_X13_expression_129 p l e s m args below meth c Q A dC dI a ac g129 r) : dj_X13_expression_129 p l e s m args below meth c Q A dC dI a ac (dF_X13_expression_129 n g33 g129) r := by
  obtain ⟨hlt, hx, hb, hml, hown, hts, hN, hA, hK⟩ := id C
  intro x1 x3 s0 H locs ls h hP hD hS hl
  unfold dF_X13_expression_129 at h
  refine lv_aload_n hx hb dX13_expression_129 rfl (lv_at hl 0 rfl) ?_
  refine va_get (D := (dC, dI)) (ci := 14) (v := .int (sI s0 24)) (C := RX13) (T := TX13) (N := 37) hx hb hts hi_dm_X13_expression_X13 hown hK hP 0 rfl rfl 35 (by decide) (hts (.fieldLink RX13 464 "TimeMachineModel$Assembler" "signs" "I") (List.mem_of_getElem? (i := 1) rfl)) (fun _ h9 => h9) rfl dX13_expression_130 ?_
  refine lv_if_le (tgt := 167) hx hb dX13_expression_133 (by decide) (fun c49 => ?_) (fun c49 => ?_)
  · have h := nd_pos h c49
    exact (db_X13_expression_167 C K J33) (x1) (x3) s0 _ _ _ h hP hD hS (lv_sub hl [0, 1, 2] rfl)
  · have h := nd_neg h c49
    refine lv_aload_n hx hb dX13_expression_136 rfl (lv_at hl 0 rfl) ?_
    refine va_get (D := (dC, dI)) (ci := 14) (v := .ref (a 10)) (C := RX13) (T := TX13) (N := 37) hx hb hts hi_dm_X13_expression_X13 hown hK hP 0 rfl rfl 34 (by decide) (hts (.fieldLink RX13 344 "TimeMachineModel$Assembler" "pile" "[I") (List.mem_of_getElem? (i := 13) rfl)) (fun _ h9 => h9) rfl dX13_expression_137 ?_
    refine lv_aload_n hx hb dX13_expression_140 rfl (lv_at hl 0 rfl) ?_
    refine va_get (D := (dC, dI)) (ci := 14) (v := .int (sI s0 24)) (C := RX13) (T := TX13) (N := 37) hx hb hts hi_dm_X13_expression_X13 hown hK hP 0 rfl rfl 35 (by decide) (hts (.fieldLink RX13 464 "TimeMachineModel$Assembler" "signs" "I") (List.mem_of_getElem? (i := 1) rfl)) (fun _ h9 => h9) rfl dX13_expression_141 ?_
    refine lv_iconst (v := 1) hx hb dX13_expression_144 (by decide) ?_
    refine lv_isub hx hb dX13_expression_145 ?_
    obtain ⟨i53, h⟩ := nd_ck_e h
    refine va_iald (i := ((sI s0 24) - 1)) hx hb hK hP 10 9 rfl rfl i53 dX13_expression_146 ?_
    obtain ⟨q54, s55, hq, h⟩ := nd_b2_e h
    have hPc : va_P (dC, dI) vwCl (dw_P a ac ()) H := nd_p0
    have hDc : va_D A (dw_P a ac ()) := nd_d0
    have hKc : va_K (dC, dI) vwCl (dk_P ac) s := nd_y0 hK
    have hFc : ∀ q, va_A (dw_P a ac ()) H.size q → A q := nd_r0 hS hA
    refine nd_cSi (As := [.int (sR s0 8 (Int32.toNatClampNeg ((sI s0 24) - 1)))]) (rest := []) (q := q54) (w' := dw_P a ac s55) ⟨hx, hb, hml, hown, hts⟩ (fun sz => dm_X13_rank l hlt dC dI a ac n ((sR s0 8 (Int32.toNatClampNeg ((sI s0 24) - 1)))) () hq sz) (cwS 1 hts gi_dm_X13_expression_3 rfl rfl rfl (by decide +kernel) ⟨Nat.le_of_ble_eq_true rfl, Nat.le_of_ble_eq_true rfl⟩) hPc hDc hKc hS hA hN rfl hl.1 rfl (Nat.le_of_ble_eq_true rfl) dX13_expression_147 (fun H locs hP1 hD1 hk1 hS => ?_)
    have hP := nd_n0 hP hk1
    refine lv_aload_n hx hb dX13_expression_150 rfl (lv_at hl 0 rfl) ?_
    refine va_get (D := (dC, dI)) (ci := 14) (v := .int (sI s0 8)) (C := RX13) (T := TX13) (N := 37) hx hb hts hi_dm_X13_expression_X13 hown hK hP 0 rfl rfl 17 (by decide) (hts (.fieldLink RX13 365 "TimeMachineModel$Assembler" "token" "I") (List.mem_of_getElem? (i := 21) rfl)) (fun _ h9 => h9) rfl dX13_expression_151 ?_
    obtain ⟨q57, s58, hq, h⟩ := nd_b2_e h
    have hPc : va_P (dC, dI) vwCl (dw_P a ac ()) H := nd_p0
    have hDc : va_D A (dw_P a ac ()) := nd_d0
    have hKc : va_K (dC, dI) vwCl (dk_P ac) s := nd_y0 hK
    have hFc : ∀ q, va_A (dw_P a ac ()) H.size q → A q := nd_r0 hS hA
    refine nd_cSi (As := [.int (sI s0 8)]) (rest := [.int q54]) (q := q57) (w' := dw_P a ac s58) ⟨hx, hb, hml, hown, hts⟩ (fun sz => dm_X13_rank l hlt dC dI a ac n ((sI s0 8)) () hq sz) (cwS 1 hts gi_dm_X13_expression_3 rfl rfl rfl (by decide +kernel) ⟨Nat.le_of_ble_eq_true rfl, Nat.le_of_ble_eq_true rfl⟩) hPc hDc hKc hS hA hN rfl hl.1 rfl (Nat.le_of_ble_eq_true rfl) dX13_expression_154 (fun H locs hP1 hD1 hk1 hS => ?_)
    have hP := nd_n0 hP hk1
    refine lv_icmp_lt (tgt := 167) hx hb dX13_expression_157 (by decide) (fun c60 => ?_) (fun c60 => ?_)
    · have h := nd_pos h c60
      exact (db_X13_expression_167 C K J33) (x1) (x3) s0 _ _ _ h hP hD hS (lv_sub hl [0, 1, 2] rfl)
    · have h := nd_neg h c60
      refine lv_aload_n hx hb dX13_expression_160 rfl (lv_at hl 0 rfl) ?_
      obtain ⟨s62, hq, h⟩ := nd_b1_e h
      have hPc := hP
      have hDc := hD
      have hKc := hK
      have hFc := nd_rs hD hS hA
      refine nd_cVv (As := []) (rest := []) (w' := dw_X13 a ac s62) ⟨hx, hb, hml, hown, hts⟩ (fun sz => dm_X13_join l hlt dC dI a ac n  s0 hq sz) (cwV 0 hts gi_dm_X13_expression_1 rfl rfl rfl (by decide +kernel) ⟨Nat.le_of_ble_eq_true rfl, Nat.le_of_ble_eq_true rfl⟩) hPc hDc hKc hS hA hN (va_recv hKc hPc (ci := 14) (q0 := 0) rfl rfl) rfl hl.1 rfl (Nat.le_of_ble_eq_true rfl) dX13_expression_161 (fun H locs hP1 hD1 hk1 hS => ?_)
      have hP := hP1
      have hD := hD1.weaken (fun k q _ h => hFc q.1 h)
      refine lv_goto (tgt := 129) hx hb dX13_expression_164 (by decide) ?_
      exact (J129) (x1) (x3) s62 _ _ _ h hP hD hS (lv_sub hl [0, 1, 2] rfl)
set_option maxHeartbeats 40000000 in
set_option maxRecDepth 100000 in
theorem db_X13_expression_129 {p : Program} {l : Launch} {e : Env} {s : State} {m : MethodId} {args : Array Value} {below : List Frame} {meth : Method} {c : Code} {Q : State → Prop} {A : Nat → Prop} {dC : Nat → ClassId} {dI : Nat → Nat → Nat} {a : Nat → Nat} {ac : Nat → ClassId} {n : Nat} {r : Int32 × (St)} (C : nd_C p l s m args c A (dC, dI) cX13_expression 6 RX13 ow_dm_X13_expression (dk_X13 ac)) (K : nd_Ki p l e (headSpec ow_dm_X13_expression ({ frames := 7, cells := 0, slots := 0, locals := 157 })).room s m args below meth c Q A (dC, dI) cX13_expression .int (St) (dw_X13 a ac) r) {g33 : Int32 → Int32 → Int32 → (St) → Option (Int32 × (St))} (J33 : dj_X13_expression_33 p l e s m args below meth c Q A dC dI a ac g33 r) (k : Nat) : dj_X13_expression_129 p l e s m args below meth c Q A dC dI a ac (df_X13_expression_129 n g33 k) r := by
  induction k with
  | zero => intro x1 x3 s0 H locs ls h; exact nomatch (show (none : Option (Int32 × (St))) = some r from h)
  | succ k ih => exact dB_X13_expression_129 C K J33 ih
set_option maxHeartbeats 40000000 in
set_option maxRecDepth 100000 in
theorem db_X13_expression_108 {p : Program} {l : Launch} {e : Env} {s : State} {m : MethodId} {args : Array Value} {below : List Frame} {meth : Method} {c : Code} {Q : State → Prop} {A : Nat → Prop} {dC : Nat → ClassId} {dI : Nat → Nat → Nat} {a : Nat → Nat} {ac : Nat → ClassId} {n : Nat} {r : Int32 × (St)} (C : nd_C p l s m args c A (dC, dI) cX13_expression 6 RX13 ow_dm_X13_expression (dk_X13 ac)) (K : nd_Ki p l e (headSpec ow_dm_X13_expression ({ frames := 7, cells := 0, slots := 0, locals := 157 })).room s m args below meth c Q A (dC, dI) cX13_expression .int (St) (dw_X13 a ac) r) {g33 : Int32 → Int32 → Int32 → (St) → Option (Int32 × (St))} (J33 : dj_X13_expression_33 p l e s m args below meth c Q A dC dI a ac g33 r) : dj_X13_expression_108 p l e s m args below meth c Q A dC dI a ac (df_X13_expression_108 n g33) r := by
  obtain ⟨hlt, hx, hb, hml, hown, hts, hN, hA, hK⟩ := id C
  intro x2 x3 y0 s0 H locs ls h hP hD hS hl
  unfold df_X13_expression_108 at h
  refine lv_istore_n (lv' := [(1, .int y0), (0, .ref (a 0)), (2, .int x2), (3, .int x3)]) hx hb dX13_expression_108 rfl hl (by decide) rfl (fun ls hl => ?_)
  refine lv_goto (tgt := 252) hx hb dX13_expression_109 (by decide) ?_
  exact (db_X13_expression_252 C K J33) (y0) (x2) (x3) s0 _ _ _ h hP hD hS (lv_sub hl [1, 0, 2, 3] rfl)
set_option maxHeartbeats 40000000 in
set_option maxRecDepth 100000 in
theorem db_X13_expression_95 {p : Program} {l : Launch} {e : Env} {s : State} {m : MethodId} {args : Array Value} {below : List Frame} {meth : Method} {c : Code} {Q : State → Prop} {A : Nat → Prop} {dC : Nat → ClassId} {dI : Nat → Nat → Nat} {a : Nat → Nat} {ac : Nat → ClassId} {n : Nat} {r : Int32 × (St)} (C : nd_C p l s m args c A (dC, dI) cX13_expression 6 RX13 ow_dm_X13_expression (dk_X13 ac)) (K : nd_Ki p l e (headSpec ow_dm_X13_expression ({ frames := 7, cells := 0, slots := 0, locals := 157 })).room s m args below meth c Q A (dC, dI) cX13_expression .int (St) (dw_X13 a ac) r) {g33 : Int32 → Int32 → Int32 → (St) → Option (Int32 × (St))} (J33 : dj_X13_expression_33 p l e s m args below meth c Q A dC dI a ac g33 r) : dj_X13_expression_95 p l e s m args below meth c Q A dC dI a ac (df_X13_expression_95 n g33) r := by
  obtain ⟨hlt, hx, hb, hml, hown, hts, hN, hA, hK⟩ := id C
  intro x1 x3 x5 y0 s0 H locs ls h hP hD hS hl
  unfold df_X13_expression_95 at h
  refine lv_istore_n (lv' := [(2, .int y0), (0, .ref (a 0)), (1, .int x1), (3, .int x3), (5, .int x5)]) hx hb dX13_expression_95 rfl hl (by decide) rfl (fun ls hl => ?_)
  refine lv_iload hx hb dX13_expression_96 (lv_at hl 4 rfl) ?_
  refine lv_if_eq (tgt := 107) hx hb dX13_expression_98 (by decide) (fun c69 => ?_) (fun c69 => ?_)
  · have h := nd_pos h c69
    refine lv_iload_n hx hb dX13_expression_107 rfl (lv_at hl 2 rfl) ?_
    exact (db_X13_expression_108 C K J33) (y0) (x3) (x1) s0 _ _ _ h hP hD hS (lv_sub hl [1, 0, 3] rfl)
  · have h := nd_neg h c69
    refine lv_iload_n hx hb dX13_expression_101 rfl (lv_at hl 2 rfl) ?_
    refine lv_iconst (v := 1) hx hb dX13_expression_102 (by decide) ?_
    refine lv_iadd hx hb dX13_expression_103 ?_
    refine lv_goto (tgt := 108) hx hb dX13_expression_104 (by decide) ?_
    exact (db_X13_expression_108 C K J33) (y0) (x3) ((x1 + 1)) s0 _ _ _ h hP hD hS (lv_sub hl [1, 0, 3] rfl)
set_option maxHeartbeats 40000000 in
set_option maxRecDepth 100000 in
theorem db_X13_expression_81 {p : Program} {l : Launch} {e : Env} {s : State} {m : MethodId} {args : Array Value} {below : List Frame} {meth : Method} {c : Code} {Q : State → Prop} {A : Nat → Prop} {dC : Nat → ClassId} {dI : Nat → Nat → Nat} {a : Nat → Nat} {ac : Nat → ClassId} {n : Nat} {r : Int32 × (St)} (C : nd_C p l s m args c A (dC, dI) cX13_expression 6 RX13 ow_dm_X13_expression (dk_X13 ac)) (K : nd_Ki p l e (headSpec ow_dm_X13_expression ({ frames := 7, cells := 0, slots := 0, locals := 157 })).room s m args below meth c Q A (dC, dI) cX13_expression .int (St) (dw_X13 a ac) r) {g33 : Int32 → Int32 → Int32 → (St) → Option (Int32 × (St))} (J33 : dj_X13_expression_33 p l e s m args below meth c Q A dC dI a ac g33 r) : dj_X13_expression_81 p l e s m args below meth c Q A dC dI a ac (df_X13_expression_81 n g33) r := by
  obtain ⟨hlt, hx, hb, hml, hown, hts, hN, hA, hK⟩ := id C
  intro x1 x3 y0 s0 H locs ls h hP hD hS hl
  unfold df_X13_expression_81 at h
  refine lv_istore (lv' := [(5, .int y0), (0, .ref (a 0)), (1, .int x1), (3, .int x3)]) hx hb dX13_expression_81 hl (by decide) rfl (fun ls hl => ?_)
  refine lv_aload_n hx hb dX13_expression_83 rfl (lv_at hl 1 rfl) ?_
  obtain ⟨q65, s66, hq, h⟩ := nd_b2_e h
  have hPc := hP
  have hDc := hD
  have hKc := hK
  have hFc := nd_rs hD hS hA
  refine nd_cVi (As := []) (rest := []) (q := q65) (w' := dw_X13 a ac s66) ⟨hx, hb, hml, hown, hts⟩ (fun sz => dm_X13_operand l hlt dC dI a ac n  s0 hq sz) (cwV 0 hts gi_dm_X13_expression_6 rfl rfl rfl (by decide +kernel) ⟨Nat.le_of_ble_eq_true rfl, Nat.le_of_ble_eq_true rfl⟩) hPc hDc hKc hS hA hN (va_recv hKc hPc (ci := 14) (q0 := 0) rfl rfl) rfl hl.1 rfl (Nat.le_of_ble_eq_true rfl) dX13_expression_84 (fun H locs hP1 hD1 hk1 hS => ?_)
  have hP := hP1
  have hD := hD1.weaken (fun k q _ h => hFc q.1 h)
  refine lv_if_ne (tgt := 94) hx hb dX13_expression_87 (by decide) (fun c68 => ?_) (fun c68 => ?_)
  · have h := nd_neg h c68
    refine lv_iconst (v := 0) hx hb dX13_expression_94 (by decide) ?_
    exact (db_X13_expression_95 C K J33) (x1) (x3) (y0) (0) s66 _ _ _ h hP hD hS (lv_sub hl [1, 2, 3, 0] rfl)
  · have h := nd_pos h c68
    refine lv_iconst (v := 1) hx hb dX13_expression_90 (by decide) ?_
    refine lv_goto (tgt := 95) hx hb dX13_expression_91 (by decide) ?_
    exact (db_X13_expression_95 C K J33) (x1) (x3) (y0) (1) s66 _ _ _ h hP hD hS (lv_sub hl [1, 2, 3, 0] rfl)
set_option maxHeartbeats 40000000 in
set_option maxRecDepth 100000 in
theorem db_X13_expression_76 {p : Program} {l : Launch} {e : Env} {s : State} {m : MethodId} {args : Array Value} {below : List Frame} {meth : Method} {c : Code} {Q : State → Prop} {A : Nat → Prop} {dC : Nat → ClassId} {dI : Nat → Nat → Nat} {a : Nat → Nat} {ac : Nat → ClassId} {n : Nat} {r : Int32 × (St)} (C : nd_C p l s m args c A (dC, dI) cX13_expression 6 RX13 ow_dm_X13_expression (dk_X13 ac)) (K : nd_Ki p l e (headSpec ow_dm_X13_expression ({ frames := 7, cells := 0, slots := 0, locals := 157 })).room s m args below meth c Q A (dC, dI) cX13_expression .int (St) (dw_X13 a ac) r) {g33 : Int32 → Int32 → Int32 → (St) → Option (Int32 × (St))} (J33 : dj_X13_expression_33 p l e s m args below meth c Q A dC dI a ac g33 r) : dj_X13_expression_76 p l e s m args below meth c Q A dC dI a ac (df_X13_expression_76 n g33) r := by
  obtain ⟨hlt, hx, hb, hml, hown, hts, hN, hA, hK⟩ := id C
  intro x1 x3 s0 H locs ls h hP hD hS hl
  unfold df_X13_expression_76 at h
  refine lv_iconst (v := 1) hx hb dX13_expression_76 (by decide) ?_
  refine lv_goto (tgt := 81) hx hb dX13_expression_77 (by decide) ?_
  exact (db_X13_expression_81 C K J33) (x1) (x3) (1) s0 _ _ _ h hP hD hS (lv_sub hl [0, 1, 2] rfl)
set_option maxHeartbeats 40000000 in
set_option maxRecDepth 100000 in
theorem dB_X13_expression_33 {p : Program} {l : Launch} {e : Env} {s : State} {m : MethodId} {args : Array Value} {below : List Frame} {meth : Method} {c : Code} {Q : State → Prop} {A : Nat → Prop} {dC : Nat → ClassId} {dI : Nat → Nat → Nat} {a : Nat → Nat} {ac : Nat → ClassId} {n : Nat} {r : Int32 × (St)} (C : nd_C p l s m args c A (dC, dI) cX13_expression 6 RX13 ow_dm_X13_expression (dk_X13 ac)) (K : nd_Ki p l e (headSpec ow_dm_X13_expression ({ frames := 7, cells := 0, slots := 0, locals := 157 })).room s m args below meth c Q A (dC, dI) cX13_expression .int (St) (dw_X13 a ac) r) {g33 : Int32 → Int32 → Int32 → (St) → Option (Int32 × (St))} (J33 : dj_X13_expression_33 p l e s m args below meth c Q A dC dI a ac g33 r) : dj_X13_expression_33 p l e s m args below meth c Q A dC dI a ac (dF_X13_expression_33 n g33) r := by
  obtain ⟨hlt, hx, hb, hml, hown, hts, hN, hA, hK⟩ := id C
  intro x1 x2 x3 s0 H locs ls h hP hD hS hl
  unfold dF_X13_expression_33 at h
  refine lv_iload_n hx hb dX13_expression_33 rfl (lv_at hl 3 rfl) ?_
  refine lv_if_eq (tgt := 255) hx hb dX13_expression_34 (by decide) (fun c6 => ?_) (fun c6 => ?_)
  · have h := nd_pos h c6
    exact (db_X13_expression_255 C K n)  s0 _ _ _ h hP hD hS (lv_sub hl [0] rfl)
  · have h := nd_neg h c6
    refine lv_aload_n hx hb dX13_expression_37 rfl (lv_at hl 0 rfl) ?_
    refine va_get (D := (dC, dI)) (ci := 14) (v := .int (sI s0 12)) (C := RX13) (T := TX13) (N := 37) hx hb hts hi_dm_X13_expression_X13 hown hK hP 0 rfl rfl 21 (by decide) (hts (.fieldLink RX13 410 "TimeMachineModel$Assembler" "fault" "I") (List.mem_of_getElem? (i := 7) rfl)) (fun _ h9 => h9) rfl dX13_expression_38 ?_
    refine lv_if_ne (tgt := 255) hx hb dX13_expression_41 (by decide) (fun c21 => ?_) (fun c21 => ?_)
    · have h := nd_neg h c21
      exact (db_X13_expression_255 C K n)  s0 _ _ _ h hP hD hS (lv_sub hl [0] rfl)
    · have h := nd_pos h c21
      refine lv_aload_n hx hb dX13_expression_44 rfl (lv_at hl 0 rfl) ?_
      refine va_get (D := (dC, dI)) (ci := 14) (v := .int (sI s0 7)) (C := RX13) (T := TX13) (N := 37) hx hb hts hi_dm_X13_expression_X13 hown hK hP 0 rfl rfl 16 (by decide) (hts (.fieldLink RX13 374 "TimeMachineModel$Assembler" "at" "I") (List.mem_of_getElem? (i := 17) rfl)) (fun _ h9 => h9) rfl dX13_expression_45 ?_
      refine lv_topi (fun z22 ez22 => ?_)
      have h := nd_at h ez22
      refine lv_istore (lv' := [(4, .int z22), (0, .ref (a 0)), (1, .int x1), (2, .int x2), (3, .int x3)]) hx hb dX13_expression_48 hl (by decide) rfl (fun ls hl => ?_)
      refine lv_aload_n hx hb dX13_expression_50 rfl (lv_at hl 1 rfl) ?_
      obtain ⟨s24, hq, h⟩ := nd_b1_e h
      have hPc := hP
      have hDc := hD
      have hKc := hK
      have hFc := nd_rs hD hS hA
      refine nd_cVv (As := []) (rest := []) (w' := dw_X13 a ac s24) ⟨hx, hb, hml, hown, hts⟩ (fun sz => dm_X13_scan l hlt dC dI a ac n  s0 hq sz) (cwV 0 hts gi_dm_X13_expression_2 rfl rfl rfl (by decide +kernel) ⟨Nat.le_of_ble_eq_true rfl, Nat.le_of_ble_eq_true rfl⟩) hPc hDc hKc hS hA hN (va_recv hKc hPc (ci := 14) (q0 := 0) rfl rfl) rfl hl.1 rfl (Nat.le_of_ble_eq_true rfl) dX13_expression_51 (fun H locs hP1 hD1 hk1 hS => ?_)
      have hP := hP1
      have hD := hD1.weaken (fun k q _ h => hFc q.1 h)
      refine lv_iload_n hx hb dX13_expression_54 rfl (lv_at hl 3 rfl) ?_
      refine lv_if_eq (tgt := 112) hx hb dX13_expression_55 (by decide) (fun c26 => ?_) (fun c26 => ?_)
      · have h := nd_pos h c26
        refine lv_aload_n hx hb dX13_expression_112 rfl (lv_at hl 1 rfl) ?_
        refine va_get (D := (dC, dI)) (ci := 14) (v := .int (sI s24 8)) (C := RX13) (T := TX13) (N := 37) hx hb hts hi_dm_X13_expression_X13 hown hK hP 0 rfl rfl 17 (by decide) (hts (.fieldLink RX13 365 "TimeMachineModel$Assembler" "token" "I") (List.mem_of_getElem? (i := 21) rfl)) (fun _ h9 => h9) rfl dX13_expression_113 ?_
        obtain ⟨q27, s28, hq, h⟩ := nd_b2_e h
        have hPc : va_P (dC, dI) vwCl (dw_P a ac ()) H := nd_p0
        have hDc : va_D A (dw_P a ac ()) := nd_d0
        have hKc : va_K (dC, dI) vwCl (dk_P ac) s := nd_y0 hK
        have hFc : ∀ q, va_A (dw_P a ac ()) H.size q → A q := nd_r0 hS hA
        refine nd_cSi (As := [.int (sI s24 8)]) (rest := []) (q := q27) (w' := dw_P a ac s28) ⟨hx, hb, hml, hown, hts⟩ (fun sz => dm_X13_rank l hlt dC dI a ac n ((sI s24 8)) () hq sz) (cwS 1 hts gi_dm_X13_expression_3 rfl rfl rfl (by decide +kernel) ⟨Nat.le_of_ble_eq_true rfl, Nat.le_of_ble_eq_true rfl⟩) hPc hDc hKc hS hA hN rfl hl.1 rfl (Nat.le_of_ble_eq_true rfl) dX13_expression_116 (fun H locs hP1 hD1 hk1 hS => ?_)
        have hP := nd_n0 hP hk1
        refine lv_if_le (tgt := 180) hx hb dX13_expression_119 (by decide) (fun c30 => ?_) (fun c30 => ?_)
        · have h := nd_pos h c30
          exact (db_X13_expression_180 C K J33) (x1) (x2) (x3) (z22) s24 _ _ _ h hP hD hS (lv_sub hl [1, 2, 3, 4, 0] rfl)
        · have h := nd_neg h c30
          refine lv_aload_n hx hb dX13_expression_122 rfl (lv_at hl 1 rfl) ?_
          refine va_get (D := (dC, dI)) (ci := 14) (v := .int (sI s24 8)) (C := RX13) (T := TX13) (N := 37) hx hb hts hi_dm_X13_expression_X13 hown hK hP 0 rfl rfl 17 (by decide) (hts (.fieldLink RX13 365 "TimeMachineModel$Assembler" "token" "I") (List.mem_of_getElem? (i := 21) rfl)) (fun _ h9 => h9) rfl dX13_expression_123 ?_
          refine lv_if_eq (tgt := 180) hx hb dX13_expression_126 (by decide) (fun c48 => ?_) (fun c48 => ?_)
          · have h := nd_pos h c48
            exact (db_X13_expression_180 C K J33) (x1) (x2) (x3) (z22) s24 _ _ _ h hP hD hS (lv_sub hl [1, 2, 3, 4, 0] rfl)
          · have h := nd_neg h c48
            exact (db_X13_expression_129 C K J33 n) (x1) (x3) s24 _ _ _ h hP hD hS (lv_sub hl [1, 2, 4] rfl)
      · have h := nd_neg h c26
        refine lv_aload_n hx hb dX13_expression_58 rfl (lv_at hl 1 rfl) ?_
        refine va_get (D := (dC, dI)) (ci := 14) (v := .int (sI s24 8)) (C := RX13) (T := TX13) (N := 37) hx hb hts hi_dm_X13_expression_X13 hown hK hP 0 rfl rfl 17 (by decide) (hts (.fieldLink RX13 365 "TimeMachineModel$Assembler" "token" "I") (List.mem_of_getElem? (i := 21) rfl)) (fun _ h9 => h9) rfl dX13_expression_59 ?_
        refine lv_bipush (v := 40) hx hb dX13_expression_62 (by decide) ?_
        refine lv_icmp_eq (tgt := 76) hx hb dX13_expression_64 (by decide) (fun c64 => ?_) (fun c64 => ?_)
        · have h := nd_pos h c64
          exact (db_X13_expression_76 C K J33) (x1) (x3) s24 _ _ _ h hP hD hS (lv_sub hl [1, 2, 4] rfl)
        · have h := nd_neg h c64
          refine lv_aload_n hx hb dX13_expression_67 rfl (lv_at hl 1 rfl) ?_
          refine va_get (D := (dC, dI)) (ci := 14) (v := .int (sI s24 8)) (C := RX13) (T := TX13) (N := 37) hx hb hts hi_dm_X13_expression_X13 hown hK hP 0 rfl rfl 17 (by decide) (hts (.fieldLink RX13 365 "TimeMachineModel$Assembler" "token" "I") (List.mem_of_getElem? (i := 21) rfl)) (fun _ h9 => h9) rfl dX13_expression_68 ?_
          refine lv_bipush (v := 37) hx hb dX13_expression_71 (by decide) ?_
          refine lv_icmp_ne (tgt := 80) hx hb dX13_expression_73 (by decide) (fun c70 => ?_) (fun c70 => ?_)
          · have h := nd_neg h c70
            refine lv_iconst (v := 0) hx hb dX13_expression_80 (by decide) ?_
            exact (db_X13_expression_81 C K J33) (x1) (x3) (0) s24 _ _ _ h hP hD hS (lv_sub hl [1, 2, 4] rfl)
          · have h := nd_pos h c70
            exact (db_X13_expression_76 C K J33) (x1) (x3) s24 _ _ _ h hP hD hS (lv_sub hl [1, 2, 4] rfl)
set_option maxHeartbeats 40000000 in
set_option maxRecDepth 100000 in
theorem db_X13_expression_33 {p : Program} {l : Launch} {e : Env} {s : State} {m : MethodId} {args : Array Value} {below : List Frame} {meth : Method} {c : Code} {Q : State → Prop} {A : Nat → Prop} {dC : Nat → ClassId} {dI : Nat → Nat → Nat} {a : Nat → Nat} {ac : Nat → ClassId} {n : Nat} {r : Int32 × (St)} (C : nd_C p l s m args c A (dC, dI) cX13_expression 6 RX13 ow_dm_X13_expression (dk_X13 ac)) (K : nd_Ki p l e (headSpec ow_dm_X13_expression ({ frames := 7, cells := 0, slots := 0, locals := 157 })).room s m args below meth c Q A (dC, dI) cX13_expression .int (St) (dw_X13 a ac) r) (k : Nat) : dj_X13_expression_33 p l e s m args below meth c Q A dC dI a ac (df_X13_expression_33 n k) r := by
  induction k with
  | zero => intro x1 x2 x3 s0 H locs ls h; exact nomatch (show (none : Option (Int32 × (St))) = some r from h)
  | succ k ih => exact dB_X13_expression_33 C K ih
set_option maxHeartbeats 40000000 in
set_option maxRecDepth 100000 in
theorem db_X13_expression_0 {p : Program} {l : Launch} {e : Env} {s : State} {m : MethodId} {args : Array Value} {below : List Frame} {meth : Method} {c : Code} {Q : State → Prop} {A : Nat → Prop} {dC : Nat → ClassId} {dI : Nat → Nat → Nat} {a : Nat → Nat} {ac : Nat → ClassId} {n : Nat} {r : Int32 × (St)} (C : nd_C p l s m args c A (dC, dI) cX13_expression 6 RX13 ow_dm_X13_expression (dk_X13 ac)) (K : nd_Ki p l e (headSpec ow_dm_X13_expression ({ frames := 7, cells := 0, slots := 0, locals := 157 })).room s m args below meth c Q A (dC, dI) cX13_expression .int (St) (dw_X13 a ac) r) : dj_X13_expression_0 p l e s m args below meth c Q A dC dI a ac (df_X13_expression_0 n) r := by
  obtain ⟨hlt, hx, hb, hml, hown, hts, hN, hA, hK⟩ := id C
  intro s0 H locs ls h hP hD hS hl
  unfold df_X13_expression_0 at h
  refine lv_aload_n hx hb dX13_expression_0 rfl (lv_at hl 0 rfl) ?_
  refine lv_iconst (v := 0) hx hb dX13_expression_1 (by decide) ?_
  refine va_put (D := (dC, dI)) (ci := 14) (v := .int 0) (ty := .int) (C := RX13) (T := TX13) (N := 37) hx hb hts hi_dm_X13_expression_X13 tyX13 tyX13_ok nmX13 hown hK hP hD hS 0 rfl rfl 35 (by decide) (hts (.fieldLink RX13 464 "TimeMachineModel$Assembler" "signs" "I") (List.mem_of_getElem? (i := 1) rfl)) (fun _ h9 => h9) rfl (by decide +kernel) rfl rfl (Nat.le_of_ble_eq_true rfl) dX13_expression_2 (fun H locs hP hD hS => ?_)
  obtain ⟨s1, es1, h⟩ := nd_let_e h
  have hP : va_P (dC, dI) vwCl (dw_X13 a ac s1) H := by rw [es1]; exact hP
  have hD : va_D A (dw_X13 a ac s1) := by rw [es1]; exact hD
  refine lv_aload_n hx hb dX13_expression_5 rfl (lv_at hl 0 rfl) ?_
  refine lv_ldcw hx hb hown (hts (.constant RX13 343 (32800)) (List.mem_of_getElem? (i := 2) rfl)) dX13_expression_6 ?_
  refine va_put (D := (dC, dI)) (ci := 14) (v := .int 32800) (ty := .int) (C := RX13) (T := TX13) (N := 37) hx hb hts hi_dm_X13_expression_X13 tyX13 tyX13_ok nmX13 hown hK hP hD hS 0 rfl rfl 36 (by decide) (hts (.fieldLink RX13 467 "TimeMachineModel$Assembler" "values" "I") (List.mem_of_getElem? (i := 3) rfl)) (fun _ h9 => h9) rfl (by decide +kernel) rfl rfl (Nat.le_of_ble_eq_true rfl) dX13_expression_9 (fun H locs hP hD hS => ?_)
  obtain ⟨s2, es2, h⟩ := nd_let_e h
  have hP : va_P (dC, dI) vwCl (dw_X13 a ac s2) H := by rw [es2]; exact hP
  have hD : va_D A (dw_X13 a ac s2) := by rw [es2]; exact hD
  refine lv_aload_n hx hb dX13_expression_12 rfl (lv_at hl 0 rfl) ?_
  refine lv_iconst (v := 0) hx hb dX13_expression_13 (by decide) ?_
  refine va_put (D := (dC, dI)) (ci := 14) (v := .int 0) (ty := .boolean) (C := RX13) (T := TX13) (N := 37) hx hb hts hi_dm_X13_expression_X13 tyX13 tyX13_ok nmX13 hown hK hP hD hS 0 rfl rfl 31 (by decide) (hts (.fieldLink RX13 457 "TimeMachineModel$Assembler" "missing" "Z") (List.mem_of_getElem? (i := 4) rfl)) (fun _ h9 => h9) rfl (by decide +kernel) (by first | rfl | decide) rfl (Nat.le_of_ble_eq_true rfl) dX13_expression_14 (fun H locs hP hD hS => ?_)
  obtain ⟨s3, es3, h⟩ := nd_let_e h
  have hP : va_P (dC, dI) vwCl (dw_X13 a ac s3) H := by rw [es3]; exact hP
  have hD : va_D A (dw_X13 a ac s3) := by rw [es3]; exact hD
  refine lv_aload_n hx hb dX13_expression_17 rfl (lv_at hl 0 rfl) ?_
  refine lv_iconst (v := 0) hx hb dX13_expression_18 (by decide) ?_
  refine va_put (D := (dC, dI)) (ci := 14) (v := .int 0) (ty := .boolean) (C := RX13) (T := TX13) (N := 37) hx hb hts hi_dm_X13_expression_X13 tyX13 tyX13_ok nmX13 hown hK hP hD hS 0 rfl rfl 32 (by decide) (hts (.fieldLink RX13 470 "TimeMachineModel$Assembler" "divided" "Z") (List.mem_of_getElem? (i := 5) rfl)) (fun _ h9 => h9) rfl (by decide +kernel) (by first | rfl | decide) rfl (Nat.le_of_ble_eq_true rfl) dX13_expression_19 (fun H locs hP hD hS => ?_)
  obtain ⟨s4, es4, h⟩ := nd_let_e h
  have hP : va_P (dC, dI) vwCl (dw_X13 a ac s4) H := by rw [es4]; exact hP
  have hD : va_D A (dw_X13 a ac s4) := by rw [es4]; exact hD
  refine lv_aload_n hx hb dX13_expression_22 rfl (lv_at hl 0 rfl) ?_
  refine lv_iconst (v := 0) hx hb dX13_expression_23 (by decide) ?_
  refine va_put (D := (dC, dI)) (ci := 14) (v := .int 0) (ty := .boolean) (C := RX13) (T := TX13) (N := 37) hx hb hts hi_dm_X13_expression_X13 tyX13 tyX13_ok nmX13 hown hK hP hD hS 0 rfl rfl 33 (by decide) (hts (.fieldLink RX13 483 "TimeMachineModel$Assembler" "loose" "Z") (List.mem_of_getElem? (i := 6) rfl)) (fun _ h9 => h9) rfl (by decide +kernel) (by first | rfl | decide) rfl (Nat.le_of_ble_eq_true rfl) dX13_expression_24 (fun H locs hP hD hS => ?_)
  obtain ⟨s5, es5, h⟩ := nd_let_e h
  have hP : va_P (dC, dI) vwCl (dw_X13 a ac s5) H := by rw [es5]; exact hP
  have hD : va_D A (dw_X13 a ac s5) := by rw [es5]; exact hD
  refine lv_iconst (v := 0) hx hb dX13_expression_27 (by decide) ?_
  refine lv_istore_n (lv' := [(1, .int 0), (0, .ref (a 0))]) hx hb dX13_expression_28 rfl hl (by decide) rfl (fun ls hl => ?_)
  refine lv_iconst (v := 1) hx hb dX13_expression_29 (by decide) ?_
  refine lv_istore_n (lv' := [(2, .int 1), (1, .int 0), (0, .ref (a 0))]) hx hb dX13_expression_30 rfl hl (by decide) rfl (fun ls hl => ?_)
  refine lv_iconst (v := 1) hx hb dX13_expression_31 (by decide) ?_
  refine lv_istore_n (lv' := [(3, .int 1), (2, .int 1), (1, .int 0), (0, .ref (a 0))]) hx hb dX13_expression_32 rfl hl (by decide) rfl (fun ls hl => ?_)
  exact (db_X13_expression_33 C K n) (0) (1) (1) s5 _ _ _ h hP hD hS (lv_sub hl [3, 2, 1, 0] rfl)
set_option maxHeartbeats 40000000 in
set_option maxRecDepth 100000 in
theorem dm_X13_expression (l : Launch) (hlt : l.stackTraces = false) (dC : Nat → ClassId) (dI : Nat → Nat → Nat) (a : Nat → Nat) (ac : Nat → ClassId) (n : Nat) (s0 : St) {r : Int32 × (St)} (h : df_X13_expression n s0 = some r) (sz : Nat) : Met l yX13_expression ow_dm_X13_expression ({ frames := 7, cells := 0, slots := 0, locals := 157 }) (va_Pc [.ref (a 0)] (fun U => U.heap.size = sz ∧ va_P (dC, dI) vwCl (dw_X13 a ac s0) U.heap ∧ va_K (dC, dI) vwCl (dk_X13 ac) U ∧ va_D (fun _ => True) (dw_X13 a ac s0) ∧ nv_E dI (va_A (dw_X13 a ac s0) sz) U)) (va_Qi (fun x _ => x = r.1) (fun (_ : Unit) t => va_P (dC, dI) vwCl (dw_X13 a ac r.2) t.heap ∧ va_K (dC, dI) vwCl (dk_X13 ac) t ∧ va_D (va_A (dw_X13 a ac s0) sz) (dw_X13 a ac r.2)) (va_A (dw_X13 a ac s0) sz)) 0 0 (va_A (dw_X13 a ac s0) sz) := by
  refine Met.ofW (cc := cX13_expression) (maxL := 6) (ret := (some .int)) (by decide) rfl ?_
  intro p e s m args below meth c s₁ B hml hv
  obtain ⟨rfl, hsz, hP, hK, hD0, hN⟩ := hv
  have hx := B.exec
  have hb := B.bytes
  have hr := B.returns
  have hts := atoms_spec (ws := ow_dm_X13_expression) B.pre
  have hown : s.vm.findClass RX13 = some m.cls := findClass_of_methodNamed B.named
  have hlocks := B.notSynchronized
  subst hsz
  have hD := hD0.self (sz := s.heap.size)
  generalize hAe : va_A (dw_X13 a ac s0) s.heap.size = A at hD hN ⊢
  have hA : ∀ q : Nat, s.heap.size ≤ q → A q := fun q h => by rw [← hAe]; exact Or.inr h
  have hl := lv_entry ([.ref (a 0)]) (n := 6) (Nat.le_of_ble_eq_true rfl)
  rw [lg_entry_eq]
  generalize (lg_sl ([.ref (a 0)]) ++ List.replicate (6 - (lg_sl ([.ref (a 0)])).length) Slot.unset).toArray = ls at hl ⊢
  have hl : lv_has ls 6 [(0, .ref (a 0))] := hl
  exact db_X13_expression_0 (dC := dC) (dI := dI) (a := a) (ac := ac) (n := n) (r := r) ⟨hlt, hx, hb, hml, hown, hts, hN, hA, hK⟩ (fun pc v τ H locs ls d z er hP hD hS => by subst er; exact W.zret (v := v) hx hb hr z (fun t ht hW => ⟨⟨v, (), rfl, rfl, by rw [ht]; exact hP, va_K.moved hW.alike hK, hD⟩, hS.F ht⟩) hS.2.2 d) s0 _ _ _ h hP hD va_S.rf (lv_sub hl [0] rfl)
def ow_dm_X13_fits : List Cond := Cond.code yX13_fits cX13_fits 5 none :: ([Cond.fieldLink RX13 522 "TimeMachineModel$Assembler" "mode" "I", Cond.methodLink RX13 419 yX13_blame, Cond.instanceMethod yX13_blame, Cond.selects RX13 yX13_blame yX13_blame, Cond.initialized RX13] ++ (u_ws RX13 TX13 37 ++ (ow_dm_X13_blame ++ [])))
theorem gd_dm_X13_fits : ∀ w ∈ ow_dm_X13_fits, (w.onTables && w.keeps) = true ∨ ∃ ty, w = Cond.arrayClass ty := List.forall_mem_cons.mpr ⟨good_of_word rfl, List.forall_mem_append.mpr ⟨fun w h => good_of_word (List.all_eq_true.mp (by decide +kernel) w h), List.forall_mem_append.mpr ⟨gu_X13, List.forall_mem_append.mpr ⟨gd_dm_X13_blame, fun _ h => nomatch h⟩⟩⟩⟩
theorem hi_dm_X13_fits_X13 : ∀ w ∈ u_ws RX13 TX13 37, w ∈ ow_dm_X13_fits := fun w h => List.mem_cons_of_mem _ (List.mem_append_right _ (List.mem_append_left _ h))
theorem gi_dm_X13_fits_0 : GoodIn ow_dm_X13_fits (wsV RX13 419 RX13 yX13_blame ow_dm_X13_blame) := goodIn_app (goodIn_of _ (by decide +kernel)) (fun w h => ⟨List.mem_cons_of_mem _ (List.mem_append_right _ (List.mem_append_right _ (List.mem_append_left _ h))), gd_dm_X13_blame w h⟩)
def dj_X13_fits_31 (p : Program) (l : Launch) (e : Env) (s : State) (m : MethodId) (args : Array Value) (below : List Frame) (meth : Method) (c : Code) (Q : State → Prop) (A : Nat → Prop) (dC : Nat → ClassId) (dI : Nat → Nat → Nat) (a : Nat → Nat) (ac : Nat → ClassId) (g : (St) → Option (St)) (r : St) : Prop := ∀ (s0 : St) (H : Heap) (locs : List Loc) (ls : Array Slot), g s0 = some r → va_P (dC, dI) vwCl (dw_X13 a ac s0) H → va_D A (dw_X13 a ac s0) → va_S A s.heap H locs → lv_has ls 5 [] → W p l e (headSpec ow_dm_X13_fits ({ frames := 1, cells := 0, slots := 0, locals := 21 })).room s m args below meth c H locs 0 0 Q (F0 m 31 ls [])
def dj_X13_fits_25 (p : Program) (l : Launch) (e : Env) (s : State) (m : MethodId) (args : Array Value) (below : List Frame) (meth : Method) (c : Code) (Q : State → Prop) (A : Nat → Prop) (dC : Nat → ClassId) (dI : Nat → Nat → Nat) (a : Nat → Nat) (ac : Nat → ClassId) (g : (St) → Option (St)) (r : St) : Prop := ∀ (s0 : St) (H : Heap) (locs : List Loc) (ls : Array Slot), g s0 = some r → va_P (dC, dI) vwCl (dw_X13 a ac s0) H → va_D A (dw_X13 a ac s0) → va_S A s.heap H locs → lv_has ls 5 [(0, .ref (a 0))] → W p l e (headSpec ow_dm_X13_fits ({ frames := 1, cells := 0, slots := 0, locals := 21 })).room s m args below meth c H locs 0 0 Q (F0 m 25 ls [])
def dj_X13_fits_0 (p : Program) (l : Launch) (e : Env) (s : State) (m : MethodId) (args : Array Value) (below : List Frame) (meth : Method) (c : Code) (Q : State → Prop) (A : Nat → Prop) (dC : Nat → ClassId) (dI : Nat → Nat → Nat) (a : Nat → Nat) (ac : Nat → ClassId) (g : Int32 → Int32 → Int32 → Int32 → (St) → Option (St)) (r : St) : Prop := ∀ (v0 : Int32) (v1 : Int32) (v2 : Int32) (v3 : Int32) (s0 : St) (H : Heap) (locs : List Loc) (ls : Array Slot), g v0 v1 v2 v3 s0 = some r → va_P (dC, dI) vwCl (dw_X13 a ac s0) H → va_D A (dw_X13 a ac s0) → va_S A s.heap H locs → lv_has ls 5 [(0, .ref (a 0)), (1, .int v0), (2, .int v1), (3, .int v2), (4, .int v3)] → W p l e (headSpec ow_dm_X13_fits ({ frames := 1, cells := 0, slots := 0, locals := 21 })).room s m args below meth c H locs 0 0 Q (F0 m 0 ls [])
set_option maxHeartbeats 40000000 in
set_option maxRecDepth 100000 in
theorem db_X13_fits_31 {p : Program} {l : Launch} {e : Env} {s : State} {m : MethodId} {args : Array Value} {below : List Frame} {meth : Method} {c : Code} {Q : State → Prop} {A : Nat → Prop} {dC : Nat → ClassId} {dI : Nat → Nat → Nat} {a : Nat → Nat} {ac : Nat → ClassId} {n : Nat} {r : St} (C : nd_C p l s m args c A (dC, dI) cX13_fits 5 RX13 ow_dm_X13_fits (dk_X13 ac)) (K : nd_Kv p l e (headSpec ow_dm_X13_fits ({ frames := 1, cells := 0, slots := 0, locals := 21 })).room s m args below meth c Q A (dC, dI) cX13_fits (St) (dw_X13 a ac) r) : dj_X13_fits_31 p l e s m args below meth c Q A dC dI a ac (df_X13_fits_31 n) r := by
  obtain ⟨hlt, hx, hb, hml, hown, hts, hN, hA, hK⟩ := id C
  intro s0 H locs ls h hP hD hS hl
  unfold df_X13_fits_31 at h
  exact K _ _ _ _ _ dX13_fits_31 (Option.some.inj h).symm hP hD hS
set_option maxHeartbeats 40000000 in
set_option maxRecDepth 100000 in
theorem db_X13_fits_25 {p : Program} {l : Launch} {e : Env} {s : State} {m : MethodId} {args : Array Value} {below : List Frame} {meth : Method} {c : Code} {Q : State → Prop} {A : Nat → Prop} {dC : Nat → ClassId} {dI : Nat → Nat → Nat} {a : Nat → Nat} {ac : Nat → ClassId} {n : Nat} {r : St} (C : nd_C p l s m args c A (dC, dI) cX13_fits 5 RX13 ow_dm_X13_fits (dk_X13 ac)) (K : nd_Kv p l e (headSpec ow_dm_X13_fits ({ frames := 1, cells := 0, slots := 0, locals := 21 })).room s m args below meth c Q A (dC, dI) cX13_fits (St) (dw_X13 a ac) r) : dj_X13_fits_25 p l e s m args below meth c Q A dC dI a ac (df_X13_fits_25 n) r := by
  obtain ⟨hlt, hx, hb, hml, hown, hts, hN, hA, hK⟩ := id C
  intro s0 H locs ls h hP hD hS hl
  unfold df_X13_fits_25 at h
  refine lv_aload_n hx hb dX13_fits_25 rfl (lv_at hl 0 rfl) ?_
  refine lv_bipush (v := 10) hx hb dX13_fits_26 (by decide) ?_
  obtain ⟨s4, hq, h⟩ := nd_b1_e h
  have hPc := hP
  have hDc := hD
  have hKc := hK
  have hFc := nd_rs hD hS hA
  refine nd_cVv (As := [.int 10]) (rest := []) (w' := dw_X13 a ac s4) ⟨hx, hb, hml, hown, hts⟩ (fun sz => dm_X13_blame l hlt dC dI a ac n (10) s0 hq sz) (cwV 1 hts gi_dm_X13_fits_0 rfl rfl rfl (by decide +kernel) ⟨Nat.le_of_ble_eq_true rfl, Nat.le_of_ble_eq_true rfl⟩) hPc hDc hKc hS hA hN (va_recv hKc hPc (ci := 14) (q0 := 0) rfl rfl) rfl hl.1 rfl (Nat.le_of_ble_eq_true rfl) dX13_fits_28 (fun H locs hP1 hD1 hk1 hS => ?_)
  have hP := hP1
  have hD := hD1.weaken (fun k q _ h => hFc q.1 h)
  exact (db_X13_fits_31 C K)  s4 _ _ _ h hP hD hS (lv_sub hl [] rfl)
set_option maxHeartbeats 40000000 in
set_option maxRecDepth 100000 in
theorem db_X13_fits_0 {p : Program} {l : Launch} {e : Env} {s : State} {m : MethodId} {args : Array Value} {below : List Frame} {meth : Method} {c : Code} {Q : State → Prop} {A : Nat → Prop} {dC : Nat → ClassId} {dI : Nat → Nat → Nat} {a : Nat → Nat} {ac : Nat → ClassId} {n : Nat} {r : St} (C : nd_C p l s m args c A (dC, dI) cX13_fits 5 RX13 ow_dm_X13_fits (dk_X13 ac)) (K : nd_Kv p l e (headSpec ow_dm_X13_fits ({ frames := 1, cells := 0, slots := 0, locals := 21 })).room s m args below meth c Q A (dC, dI) cX13_fits (St) (dw_X13 a ac) r) : dj_X13_fits_0 p l e s m args below meth c Q A dC dI a ac (df_X13_fits_0 n) r := by
  obtain ⟨hlt, hx, hb, hml, hown, hts, hN, hA, hK⟩ := id C
  intro v0 v1 v2 v3 s0 H locs ls h hP hD hS hl
  unfold df_X13_fits_0 at h
  refine lv_aload_n hx hb dX13_fits_0 rfl (lv_at hl 0 rfl) ?_
  refine va_get (D := (dC, dI)) (ci := 14) (v := .int (sI s0 15)) (C := RX13) (T := TX13) (N := 37) hx hb hts hi_dm_X13_fits_X13 hown hK hP 0 rfl rfl 24 (by decide) (hts (.fieldLink RX13 522 "TimeMachineModel$Assembler" "mode" "I") (List.mem_of_getElem? (i := 1) rfl)) (fun _ h9 => h9) rfl dX13_fits_1 ?_
  refine lv_iconst (v := 2) hx hb dX13_fits_4 (by decide) ?_
  refine lv_icmp_ne (tgt := 31) hx hb dX13_fits_5 (by decide) (fun c1 => ?_) (fun c1 => ?_)
  · have h := nd_neg h c1
    exact (db_X13_fits_31 C K)  s0 _ _ _ h hP hD hS (lv_sub hl [] rfl)
  · have h := nd_pos h c1
    refine lv_iload_n hx hb dX13_fits_8 rfl (lv_at hl 1 rfl) ?_
    refine lv_iload_n hx hb dX13_fits_9 rfl (lv_at hl 2 rfl) ?_
    refine lv_icmp_lt (tgt := 25) hx hb dX13_fits_10 (by decide) (fun c2 => ?_) (fun c2 => ?_)
    · have h := nd_pos h c2
      exact (db_X13_fits_25 C K)  s0 _ _ _ h hP hD hS (lv_sub hl [0] rfl)
    · have h := nd_neg h c2
      refine lv_iload_n hx hb dX13_fits_13 rfl (lv_at hl 1 rfl) ?_
      refine lv_iload_n hx hb dX13_fits_14 rfl (lv_at hl 3 rfl) ?_
      refine lv_icmp_gt (tgt := 25) hx hb dX13_fits_15 (by decide) (fun c6 => ?_) (fun c6 => ?_)
      · have h := nd_pos h c6
        exact (db_X13_fits_25 C K)  s0 _ _ _ h hP hD hS (lv_sub hl [0] rfl)
      · have h := nd_neg h c6
        refine lv_iload_n hx hb dX13_fits_18 rfl (lv_at hl 1 rfl) ?_
        refine lv_iload hx hb dX13_fits_19 (lv_at hl 4 rfl) ?_
        obtain ⟨i7, h⟩ := nd_nz_e h
        refine lv_irem hx hb dX13_fits_21 i7 ?_
        refine lv_if_eq (tgt := 31) hx hb dX13_fits_22 (by decide) (fun c8 => ?_) (fun c8 => ?_)
        · have h := nd_pos h c8
          exact (db_X13_fits_31 C K)  s0 _ _ _ h hP hD hS (lv_sub hl [] rfl)
        · have h := nd_neg h c8
          exact (db_X13_fits_25 C K)  s0 _ _ _ h hP hD hS (lv_sub hl [0] rfl)
set_option maxHeartbeats 40000000 in
set_option maxRecDepth 100000 in
theorem dm_X13_fits (l : Launch) (hlt : l.stackTraces = false) (dC : Nat → ClassId) (dI : Nat → Nat → Nat) (a : Nat → Nat) (ac : Nat → ClassId) (n : Nat) (v0 : Int32) (v1 : Int32) (v2 : Int32) (v3 : Int32) (s0 : St) {r : St} (h : df_X13_fits n v0 v1 v2 v3 s0 = some r) (sz : Nat) : Met l yX13_fits ow_dm_X13_fits ({ frames := 1, cells := 0, slots := 0, locals := 21 }) (va_Pc [.ref (a 0), .int v0, .int v1, .int v2, .int v3] (fun U => U.heap.size = sz ∧ va_P (dC, dI) vwCl (dw_X13 a ac s0) U.heap ∧ va_K (dC, dI) vwCl (dk_X13 ac) U ∧ va_D (fun _ => True) (dw_X13 a ac s0) ∧ nv_E dI (va_A (dw_X13 a ac s0) sz) U)) (va_Qv (fun _ => True) (fun (_ : Unit) t => va_P (dC, dI) vwCl (dw_X13 a ac r) t.heap ∧ va_K (dC, dI) vwCl (dk_X13 ac) t ∧ va_D (va_A (dw_X13 a ac s0) sz) (dw_X13 a ac r)) (va_A (dw_X13 a ac s0) sz)) 0 0 (va_A (dw_X13 a ac s0) sz) := by
  refine Met.ofW (cc := cX13_fits) (maxL := 5) (ret := none) (by decide) rfl ?_
  intro p e s m args below meth c s₁ B hml hv
  obtain ⟨rfl, hsz, hP, hK, hD0, hN⟩ := hv
  have hx := B.exec
  have hb := B.bytes
  have hr := B.returns
  have hts := atoms_spec (ws := ow_dm_X13_fits) B.pre
  have hown : s.vm.findClass RX13 = some m.cls := findClass_of_methodNamed B.named
  have hlocks := B.notSynchronized
  subst hsz
  have hD := hD0.self (sz := s.heap.size)
  generalize hAe : va_A (dw_X13 a ac s0) s.heap.size = A at hD hN ⊢
  have hA : ∀ q : Nat, s.heap.size ≤ q → A q := fun q h => by rw [← hAe]; exact Or.inr h
  have hl := lv_entry ([.ref (a 0), .int v0, .int v1, .int v2, .int v3]) (n := 5) (Nat.le_of_ble_eq_true rfl)
  rw [lg_entry_eq]
  generalize (lg_sl ([.ref (a 0), .int v0, .int v1, .int v2, .int v3]) ++ List.replicate (5 - (lg_sl ([.ref (a 0), .int v0, .int v1, .int v2, .int v3])).length) Slot.unset).toArray = ls at hl ⊢
  have hl : lv_has ls 5 [(0, .ref (a 0)), (1, .int v0), (2, .int v1), (3, .int v2), (4, .int v3)] := hl
  exact db_X13_fits_0 (dC := dC) (dI := dI) (a := a) (ac := ac) (n := n) (r := r) ⟨hlt, hx, hb, hml, hown, hts, hN, hA, hK⟩ (fun pc τ H locs ls d er hP hD hS => by subst er; exact W.vret hx hb hr (fun t ht hW => ⟨⟨(), rfl, trivial, by rw [ht]; exact hP, va_K.moved hW.alike hK, hD⟩, hS.F ht⟩) hS.2.2 d) v0 v1 v2 v3 s0 _ _ _ h hP hD va_S.rf (lv_sub hl [0, 1, 2, 3, 4] rfl)
def ow_dm_X13_within : List Cond := Cond.code yX13_within cX13_within 5 (some .int) :: ([Cond.methodLink RX13 525 yX13_expression, Cond.instanceMethod yX13_expression, Cond.selects RX13 yX13_expression yX13_expression, Cond.initialized RX13, Cond.methodLink RX13 528 yX13_fits, Cond.instanceMethod yX13_fits, Cond.selects RX13 yX13_fits yX13_fits] ++ (ow_dm_X13_expression ++ (ow_dm_X13_fits ++ [])))
theorem gd_dm_X13_within : ∀ w ∈ ow_dm_X13_within, (w.onTables && w.keeps) = true ∨ ∃ ty, w = Cond.arrayClass ty := List.forall_mem_cons.mpr ⟨good_of_word rfl, List.forall_mem_append.mpr ⟨fun w h => good_of_word (List.all_eq_true.mp (by decide +kernel) w h), List.forall_mem_append.mpr ⟨gd_dm_X13_expression, List.forall_mem_append.mpr ⟨gd_dm_X13_fits, fun _ h => nomatch h⟩⟩⟩⟩
theorem gi_dm_X13_within_0 : GoodIn ow_dm_X13_within (wsV RX13 525 RX13 yX13_expression ow_dm_X13_expression) := goodIn_app (goodIn_of _ (by decide +kernel)) (fun w h => ⟨List.mem_cons_of_mem _ (List.mem_append_right _ (List.mem_append_left _ h)), gd_dm_X13_expression w h⟩)
theorem gi_dm_X13_within_1 : GoodIn ow_dm_X13_within (wsV RX13 528 RX13 yX13_fits ow_dm_X13_fits) := goodIn_app (goodIn_of _ (by decide +kernel)) (fun w h => ⟨List.mem_cons_of_mem _ (List.mem_append_right _ (List.mem_append_right _ (List.mem_append_left _ h))), gd_dm_X13_fits w h⟩)
def dj_X13_within_0 (p : Program) (l : Launch) (e : Env) (s : State) (m : MethodId) (args : Array Value) (below : List Frame) (meth : Method) (c : Code) (Q : State → Prop) (A : Nat → Prop) (dC : Nat → ClassId) (dI : Nat → Nat → Nat) (a : Nat → Nat) (ac : Nat → ClassId) (g : Int32 → Int32 → Int32 → (St) → Option (Int32 × (St))) (r : Int32 × (St)) : Prop := ∀ (v0 : Int32) (v1 : Int32) (v2 : Int32) (s0 : St) (H : Heap) (locs : List Loc) (ls : Array Slot), g v0 v1 v2 s0 = some r → va_P (dC, dI) vwCl (dw_X13 a ac s0) H → va_D A (dw_X13 a ac s0) → va_S A s.heap H locs → lv_has ls 5 [(0, .ref (a 0)), (1, .int v0), (2, .int v1), (3, .int v2)] → W p l e (headSpec ow_dm_X13_within ({ frames := 8, cells := 0, slots := 0, locals := 182 })).room s m args below meth c H locs 0 0 Q (F0 m 0 ls [])
set_option maxHeartbeats 40000000 in
set_option maxRecDepth 100000 in
theorem db_X13_within_0 {p : Program} {l : Launch} {e : Env} {s : State} {m : MethodId} {args : Array Value} {below : List Frame} {meth : Method} {c : Code} {Q : State → Prop} {A : Nat → Prop} {dC : Nat → ClassId} {dI : Nat → Nat → Nat} {a : Nat → Nat} {ac : Nat → ClassId} {n : Nat} {r : Int32 × (St)} (C : nd_C p l s m args c A (dC, dI) cX13_within 5 RX13 ow_dm_X13_within (dk_X13 ac)) (K : nd_Ki p l e (headSpec ow_dm_X13_within ({ frames := 8, cells := 0, slots := 0, locals := 182 })).room s m args below meth c Q A (dC, dI) cX13_within .int (St) (dw_X13 a ac) r) : dj_X13_within_0 p l e s m args below meth c Q A dC dI a ac (df_X13_within_0 n) r := by
  obtain ⟨hlt, hx, hb, hml, hown, hts, hN, hA, hK⟩ := id C
  intro v0 v1 v2 s0 H locs ls h hP hD hS hl
  unfold df_X13_within_0 at h
  refine lv_aload_n hx hb dX13_within_0 rfl (lv_at hl 0 rfl) ?_
  obtain ⟨q1, s2, hq, h⟩ := nd_b2_e h
  have hPc := hP
  have hDc := hD
  have hKc := hK
  have hFc := nd_rs hD hS hA
  refine nd_cVi (As := []) (rest := []) (q := q1) (w' := dw_X13 a ac s2) ⟨hx, hb, hml, hown, hts⟩ (fun sz => dm_X13_expression l hlt dC dI a ac n  s0 hq sz) (cwV 0 hts gi_dm_X13_within_0 rfl rfl rfl (by decide +kernel) ⟨Nat.le_of_ble_eq_true rfl, Nat.le_of_ble_eq_true rfl⟩) hPc hDc hKc hS hA hN (va_recv hKc hPc (ci := 14) (q0 := 0) rfl rfl) rfl hl.1 rfl (Nat.le_of_ble_eq_true rfl) dX13_within_1 (fun H locs hP1 hD1 hk1 hS => ?_)
  have hP := hP1
  have hD := hD1.weaken (fun k q _ h => hFc q.1 h)
  refine lv_istore (lv' := [(4, .int q1), (0, .ref (a 0)), (1, .int v0), (2, .int v1), (3, .int v2)]) hx hb dX13_within_4 hl (by decide) rfl (fun ls hl => ?_)
  refine lv_aload_n hx hb dX13_within_6 rfl (lv_at hl 1 rfl) ?_
  refine lv_iload hx hb dX13_within_7 (lv_at hl 0 rfl) ?_
  refine lv_iload_n hx hb dX13_within_9 rfl (lv_at hl 2 rfl) ?_
  refine lv_iload_n hx hb dX13_within_10 rfl (lv_at hl 3 rfl) ?_
  refine lv_iload_n hx hb dX13_within_11 rfl (lv_at hl 4 rfl) ?_
  obtain ⟨s5, hq, h⟩ := nd_b1_e h
  have hPc := hP
  have hDc := hD
  have hKc := hK
  have hFc := nd_rs hD hS hA
  refine nd_cVv (As := [.int q1, .int v0, .int v1, .int v2]) (rest := []) (w' := dw_X13 a ac s5) ⟨hx, hb, hml, hown, hts⟩ (fun sz => dm_X13_fits l hlt dC dI a ac n (q1) (v0) (v1) (v2) s2 hq sz) (cwV 4 hts gi_dm_X13_within_1 rfl rfl rfl (by decide +kernel) ⟨Nat.le_of_ble_eq_true rfl, Nat.le_of_ble_eq_true rfl⟩) hPc hDc hKc hS hA hN (va_recv hKc hPc (ci := 14) (q0 := 0) rfl rfl) rfl hl.1 rfl (Nat.le_of_ble_eq_true rfl) dX13_within_12 (fun H locs hP1 hD1 hk1 hS => ?_)
  have hP := hP1
  have hD := hD1.weaken (fun k q _ h => hFc q.1 h)
  refine lv_iload hx hb dX13_within_15 (lv_at hl 0 rfl) ?_
  exact K _ _ _ _ _ _ dX13_within_17 rfl (Option.some.inj h).symm hP hD hS
set_option maxHeartbeats 40000000 in
set_option maxRecDepth 100000 in
theorem dm_X13_within (l : Launch) (hlt : l.stackTraces = false) (dC : Nat → ClassId) (dI : Nat → Nat → Nat) (a : Nat → Nat) (ac : Nat → ClassId) (n : Nat) (v0 : Int32) (v1 : Int32) (v2 : Int32) (s0 : St) {r : Int32 × (St)} (h : df_X13_within n v0 v1 v2 s0 = some r) (sz : Nat) : Met l yX13_within ow_dm_X13_within ({ frames := 8, cells := 0, slots := 0, locals := 182 }) (va_Pc [.ref (a 0), .int v0, .int v1, .int v2] (fun U => U.heap.size = sz ∧ va_P (dC, dI) vwCl (dw_X13 a ac s0) U.heap ∧ va_K (dC, dI) vwCl (dk_X13 ac) U ∧ va_D (fun _ => True) (dw_X13 a ac s0) ∧ nv_E dI (va_A (dw_X13 a ac s0) sz) U)) (va_Qi (fun x _ => x = r.1) (fun (_ : Unit) t => va_P (dC, dI) vwCl (dw_X13 a ac r.2) t.heap ∧ va_K (dC, dI) vwCl (dk_X13 ac) t ∧ va_D (va_A (dw_X13 a ac s0) sz) (dw_X13 a ac r.2)) (va_A (dw_X13 a ac s0) sz)) 0 0 (va_A (dw_X13 a ac s0) sz) := by
  refine Met.ofW (cc := cX13_within) (maxL := 5) (ret := (some .int)) (by decide) rfl ?_
  intro p e s m args below meth c s₁ B hml hv
  obtain ⟨rfl, hsz, hP, hK, hD0, hN⟩ := hv
  have hx := B.exec
  have hb := B.bytes
  have hr := B.returns
  have hts := atoms_spec (ws := ow_dm_X13_within) B.pre
  have hown : s.vm.findClass RX13 = some m.cls := findClass_of_methodNamed B.named
  have hlocks := B.notSynchronized
  subst hsz
  have hD := hD0.self (sz := s.heap.size)
  generalize hAe : va_A (dw_X13 a ac s0) s.heap.size = A at hD hN ⊢
  have hA : ∀ q : Nat, s.heap.size ≤ q → A q := fun q h => by rw [← hAe]; exact Or.inr h
  have hl := lv_entry ([.ref (a 0), .int v0, .int v1, .int v2]) (n := 5) (Nat.le_of_ble_eq_true rfl)
  rw [lg_entry_eq]
  generalize (lg_sl ([.ref (a 0), .int v0, .int v1, .int v2]) ++ List.replicate (5 - (lg_sl ([.ref (a 0), .int v0, .int v1, .int v2])).length) Slot.unset).toArray = ls at hl ⊢
  have hl : lv_has ls 5 [(0, .ref (a 0)), (1, .int v0), (2, .int v1), (3, .int v2)] := hl
  exact db_X13_within_0 (dC := dC) (dI := dI) (a := a) (ac := ac) (n := n) (r := r) ⟨hlt, hx, hb, hml, hown, hts, hN, hA, hK⟩ (fun pc v τ H locs ls d z er hP hD hS => by subst er; exact W.zret (v := v) hx hb hr z (fun t ht hW => ⟨⟨v, (), rfl, rfl, by rw [ht]; exact hP, va_K.moved hW.alike hK, hD⟩, hS.F ht⟩) hS.2.2 d) v0 v1 v2 s0 _ _ _ h hP hD va_S.rf (lv_sub hl [0, 1, 2, 3] rfl)
def ow_dm_X13_fixed : List Cond := Cond.code yX13_fixed cX13_fixed 4 (some .int) :: ([Cond.methodLink RX13 525 yX13_expression, Cond.instanceMethod yX13_expression, Cond.selects RX13 yX13_expression yX13_expression, Cond.initialized RX13, Cond.fieldLink RX13 522 "TimeMachineModel$Assembler" "mode" "I", Cond.fieldLink RX13 410 "TimeMachineModel$Assembler" "fault" "I", Cond.fieldLink RX13 483 "TimeMachineModel$Assembler" "loose" "Z", Cond.fieldLink RX13 470 "TimeMachineModel$Assembler" "divided" "Z", Cond.methodLink RX13 419 yX13_blame, Cond.instanceMethod yX13_blame, Cond.selects RX13 yX13_blame yX13_blame] ++ (u_ws RX13 TX13 37 ++ (ow_dm_X13_expression ++ (ow_dm_X13_blame ++ []))))
theorem gd_dm_X13_fixed : ∀ w ∈ ow_dm_X13_fixed, (w.onTables && w.keeps) = true ∨ ∃ ty, w = Cond.arrayClass ty := List.forall_mem_cons.mpr ⟨good_of_word rfl, List.forall_mem_append.mpr ⟨fun w h => good_of_word (List.all_eq_true.mp (by decide +kernel) w h), List.forall_mem_append.mpr ⟨gu_X13, List.forall_mem_append.mpr ⟨gd_dm_X13_expression, List.forall_mem_append.mpr ⟨gd_dm_X13_blame, fun _ h => nomatch h⟩⟩⟩⟩⟩
theorem hi_dm_X13_fixed_X13 : ∀ w ∈ u_ws RX13 TX13 37, w ∈ ow_dm_X13_fixed := fun w h => List.mem_cons_of_mem _ (List.mem_append_right _ (List.mem_append_left _ h))
theorem gi_dm_X13_fixed_0 : GoodIn ow_dm_X13_fixed (wsV RX13 525 RX13 yX13_expression ow_dm_X13_expression) := goodIn_app (goodIn_of _ (by decide +kernel)) (fun w h => ⟨List.mem_cons_of_mem _ (List.mem_append_right _ (List.mem_append_right _ (List.mem_append_left _ h))), gd_dm_X13_expression w h⟩)
theorem gi_dm_X13_fixed_1 : GoodIn ow_dm_X13_fixed (wsV RX13 419 RX13 yX13_blame ow_dm_X13_blame) := goodIn_app (goodIn_of _ (by decide +kernel)) (fun w h => ⟨List.mem_cons_of_mem _ (List.mem_append_right _ (List.mem_append_right _ (List.mem_append_right _ (List.mem_append_left _ h)))), gd_dm_X13_blame w h⟩)
def dj_X13_fixed_66 (p : Program) (l : Launch) (e : Env) (s : State) (m : MethodId) (args : Array Value) (below : List Frame) (meth : Method) (c : Code) (Q : State → Prop) (A : Nat → Prop) (dC : Nat → ClassId) (dI : Nat → Nat → Nat) (a : Nat → Nat) (ac : Nat → ClassId) (g : Int32 → (St) → Option (Int32 × (St))) (r : Int32 × (St)) : Prop := ∀ (x3 : Int32) (s0 : St) (H : Heap) (locs : List Loc) (ls : Array Slot), g x3 s0 = some r → va_P (dC, dI) vwCl (dw_X13 a ac s0) H → va_D A (dw_X13 a ac s0) → va_S A s.heap H locs → lv_has ls 4 [(3, .int x3)] → W p l e (headSpec ow_dm_X13_fixed ({ frames := 8, cells := 0, slots := 0, locals := 182 })).room s m args below meth c H locs 0 0 Q (F0 m 66 ls [])
def dj_X13_fixed_60 (p : Program) (l : Launch) (e : Env) (s : State) (m : MethodId) (args : Array Value) (below : List Frame) (meth : Method) (c : Code) (Q : State → Prop) (A : Nat → Prop) (dC : Nat → ClassId) (dI : Nat → Nat → Nat) (a : Nat → Nat) (ac : Nat → ClassId) (g : Int32 → (St) → Option (Int32 × (St))) (r : Int32 × (St)) : Prop := ∀ (x3 : Int32) (s0 : St) (H : Heap) (locs : List Loc) (ls : Array Slot), g x3 s0 = some r → va_P (dC, dI) vwCl (dw_X13 a ac s0) H → va_D A (dw_X13 a ac s0) → va_S A s.heap H locs → lv_has ls 4 [(0, .ref (a 0)), (3, .int x3)] → W p l e (headSpec ow_dm_X13_fixed ({ frames := 8, cells := 0, slots := 0, locals := 182 })).room s m args below meth c H locs 0 0 Q (F0 m 60 ls [])
def dj_X13_fixed_0 (p : Program) (l : Launch) (e : Env) (s : State) (m : MethodId) (args : Array Value) (below : List Frame) (meth : Method) (c : Code) (Q : State → Prop) (A : Nat → Prop) (dC : Nat → ClassId) (dI : Nat → Nat → Nat) (a : Nat → Nat) (ac : Nat → ClassId) (g : Int32 → Int32 → (St) → Option (Int32 × (St))) (r : Int32 × (St)) : Prop := ∀ (v0 : Int32) (v1 : Int32) (s0 : St) (H : Heap) (locs : List Loc) (ls : Array Slot), g v0 v1 s0 = some r → va_P (dC, dI) vwCl (dw_X13 a ac s0) H → va_D A (dw_X13 a ac s0) → va_S A s.heap H locs → lv_has ls 4 [(0, .ref (a 0)), (1, .int v0), (2, .int v1)] → W p l e (headSpec ow_dm_X13_fixed ({ frames := 8, cells := 0, slots := 0, locals := 182 })).room s m args below meth c H locs 0 0 Q (F0 m 0 ls [])
set_option maxHeartbeats 40000000 in
set_option maxRecDepth 100000 in
theorem db_X13_fixed_66 {p : Program} {l : Launch} {e : Env} {s : State} {m : MethodId} {args : Array Value} {below : List Frame} {meth : Method} {c : Code} {Q : State → Prop} {A : Nat → Prop} {dC : Nat → ClassId} {dI : Nat → Nat → Nat} {a : Nat → Nat} {ac : Nat → ClassId} {n : Nat} {r : Int32 × (St)} (C : nd_C p l s m args c A (dC, dI) cX13_fixed 4 RX13 ow_dm_X13_fixed (dk_X13 ac)) (K : nd_Ki p l e (headSpec ow_dm_X13_fixed ({ frames := 8, cells := 0, slots := 0, locals := 182 })).room s m args below meth c Q A (dC, dI) cX13_fixed .int (St) (dw_X13 a ac) r) : dj_X13_fixed_66 p l e s m args below meth c Q A dC dI a ac (df_X13_fixed_66 n) r := by
  obtain ⟨hlt, hx, hb, hml, hown, hts, hN, hA, hK⟩ := id C
  intro x3 s0 H locs ls h hP hD hS hl
  unfold df_X13_fixed_66 at h
  refine lv_iload_n hx hb dX13_fixed_66 rfl (lv_at hl 0 rfl) ?_
  exact K _ _ _ _ _ _ dX13_fixed_67 rfl (Option.some.inj h).symm hP hD hS
set_option maxHeartbeats 40000000 in
set_option maxRecDepth 100000 in
theorem db_X13_fixed_60 {p : Program} {l : Launch} {e : Env} {s : State} {m : MethodId} {args : Array Value} {below : List Frame} {meth : Method} {c : Code} {Q : State → Prop} {A : Nat → Prop} {dC : Nat → ClassId} {dI : Nat → Nat → Nat} {a : Nat → Nat} {ac : Nat → ClassId} {n : Nat} {r : Int32 × (St)} (C : nd_C p l s m args c A (dC, dI) cX13_fixed 4 RX13 ow_dm_X13_fixed (dk_X13 ac)) (K : nd_Ki p l e (headSpec ow_dm_X13_fixed ({ frames := 8, cells := 0, slots := 0, locals := 182 })).room s m args below meth c Q A (dC, dI) cX13_fixed .int (St) (dw_X13 a ac) r) : dj_X13_fixed_60 p l e s m args below meth c Q A dC dI a ac (df_X13_fixed_60 n) r := by
  obtain ⟨hlt, hx, hb, hml, hown, hts, hN, hA, hK⟩ := id C
  intro x3 s0 H locs ls h hP hD hS hl
  unfold df_X13_fixed_60 at h
  refine lv_aload_n hx hb dX13_fixed_60 rfl (lv_at hl 0 rfl) ?_
  refine lv_bipush (v := 6) hx hb dX13_fixed_61 (by decide) ?_
  obtain ⟨s10, hq, h⟩ := nd_b1_e h
  have hPc := hP
  have hDc := hD
  have hKc := hK
  have hFc := nd_rs hD hS hA
  refine nd_cVv (As := [.int 6]) (rest := []) (w' := dw_X13 a ac s10) ⟨hx, hb, hml, hown, hts⟩ (fun sz => dm_X13_blame l hlt dC dI a ac n (6) s0 hq sz) (cwV 1 hts gi_dm_X13_fixed_1 rfl rfl rfl (by decide +kernel) ⟨Nat.le_of_ble_eq_true rfl, Nat.le_of_ble_eq_true rfl⟩) hPc hDc hKc hS hA hN (va_recv hKc hPc (ci := 14) (q0 := 0) rfl rfl) rfl hl.1 rfl (Nat.le_of_ble_eq_true rfl) dX13_fixed_63 (fun H locs hP1 hD1 hk1 hS => ?_)
  have hP := hP1
  have hD := hD1.weaken (fun k q _ h => hFc q.1 h)
  exact (db_X13_fixed_66 C K) (x3) s10 _ _ _ h hP hD hS (lv_sub hl [1] rfl)
set_option maxHeartbeats 40000000 in
set_option maxRecDepth 100000 in
theorem db_X13_fixed_0 {p : Program} {l : Launch} {e : Env} {s : State} {m : MethodId} {args : Array Value} {below : List Frame} {meth : Method} {c : Code} {Q : State → Prop} {A : Nat → Prop} {dC : Nat → ClassId} {dI : Nat → Nat → Nat} {a : Nat → Nat} {ac : Nat → ClassId} {n : Nat} {r : Int32 × (St)} (C : nd_C p l s m args c A (dC, dI) cX13_fixed 4 RX13 ow_dm_X13_fixed (dk_X13 ac)) (K : nd_Ki p l e (headSpec ow_dm_X13_fixed ({ frames := 8, cells := 0, slots := 0, locals := 182 })).room s m args below meth c Q A (dC, dI) cX13_fixed .int (St) (dw_X13 a ac) r) : dj_X13_fixed_0 p l e s m args below meth c Q A dC dI a ac (df_X13_fixed_0 n) r := by
  obtain ⟨hlt, hx, hb, hml, hown, hts, hN, hA, hK⟩ := id C
  intro v0 v1 s0 H locs ls h hP hD hS hl
  unfold df_X13_fixed_0 at h
  refine lv_aload_n hx hb dX13_fixed_0 rfl (lv_at hl 0 rfl) ?_
  obtain ⟨q1, s2, hq, h⟩ := nd_b2_e h
  have hPc := hP
  have hDc := hD
  have hKc := hK
  have hFc := nd_rs hD hS hA
  refine nd_cVi (As := []) (rest := []) (q := q1) (w' := dw_X13 a ac s2) ⟨hx, hb, hml, hown, hts⟩ (fun sz => dm_X13_expression l hlt dC dI a ac n  s0 hq sz) (cwV 0 hts gi_dm_X13_fixed_0 rfl rfl rfl (by decide +kernel) ⟨Nat.le_of_ble_eq_true rfl, Nat.le_of_ble_eq_true rfl⟩) hPc hDc hKc hS hA hN (va_recv hKc hPc (ci := 14) (q0 := 0) rfl rfl) rfl hl.1 rfl (Nat.le_of_ble_eq_true rfl) dX13_fixed_1 (fun H locs hP1 hD1 hk1 hS => ?_)
  have hP := hP1
  have hD := hD1.weaken (fun k q _ h => hFc q.1 h)
  refine lv_istore_n (lv' := [(3, .int q1), (0, .ref (a 0)), (1, .int v0), (2, .int v1)]) hx hb dX13_fixed_4 rfl hl (by decide) rfl (fun ls hl => ?_)
  refine lv_aload_n hx hb dX13_fixed_5 rfl (lv_at hl 1 rfl) ?_
  refine va_get (D := (dC, dI)) (ci := 14) (v := .int (sI s2 15)) (C := RX13) (T := TX13) (N := 37) hx hb hts hi_dm_X13_fixed_X13 hown hK hP 0 rfl rfl 24 (by decide) (hts (.fieldLink RX13 522 "TimeMachineModel$Assembler" "mode" "I") (List.mem_of_getElem? (i := 5) rfl)) (fun _ h9 => h9) rfl dX13_fixed_6 ?_
  refine lv_if_ne (tgt := 66) hx hb dX13_fixed_9 (by decide) (fun c4 => ?_) (fun c4 => ?_)
  · have h := nd_neg h c4
    exact (db_X13_fixed_66 C K) (q1) s2 _ _ _ h hP hD hS (lv_sub hl [0] rfl)
  · have h := nd_pos h c4
    refine lv_aload_n hx hb dX13_fixed_12 rfl (lv_at hl 1 rfl) ?_
    refine va_get (D := (dC, dI)) (ci := 14) (v := .int (sI s2 12)) (C := RX13) (T := TX13) (N := 37) hx hb hts hi_dm_X13_fixed_X13 hown hK hP 0 rfl rfl 21 (by decide) (hts (.fieldLink RX13 410 "TimeMachineModel$Assembler" "fault" "I") (List.mem_of_getElem? (i := 6) rfl)) (fun _ h9 => h9) rfl dX13_fixed_13 ?_
    refine lv_if_ne (tgt := 66) hx hb dX13_fixed_16 (by decide) (fun c5 => ?_) (fun c5 => ?_)
    · have h := nd_neg h c5
      exact (db_X13_fixed_66 C K) (q1) s2 _ _ _ h hP hD hS (lv_sub hl [0] rfl)
    · have h := nd_pos h c5
      refine lv_aload_n hx hb dX13_fixed_19 rfl (lv_at hl 1 rfl) ?_
      refine va_get (D := (dC, dI)) (ci := 14) (v := .int (sI s2 23)) (C := RX13) (T := TX13) (N := 37) hx hb hts hi_dm_X13_fixed_X13 hown hK hP 0 rfl rfl 33 (by decide) (hts (.fieldLink RX13 483 "TimeMachineModel$Assembler" "loose" "Z") (List.mem_of_getElem? (i := 7) rfl)) (fun _ h9 => h9) rfl dX13_fixed_20 ?_
      refine lv_if_eq (tgt := 34) hx hb dX13_fixed_23 (by decide) (fun c6 => ?_) (fun c6 => ?_)
      · have h := nd_pos h c6
        refine lv_aload_n hx hb dX13_fixed_34 rfl (lv_at hl 1 rfl) ?_
        refine va_get (D := (dC, dI)) (ci := 14) (v := .int (sI s2 22)) (C := RX13) (T := TX13) (N := 37) hx hb hts hi_dm_X13_fixed_X13 hown hK hP 0 rfl rfl 32 (by decide) (hts (.fieldLink RX13 470 "TimeMachineModel$Assembler" "divided" "Z") (List.mem_of_getElem? (i := 8) rfl)) (fun _ h9 => h9) rfl dX13_fixed_35 ?_
        refine lv_if_eq (tgt := 50) hx hb dX13_fixed_38 (by decide) (fun c7 => ?_) (fun c7 => ?_)
        · have h := nd_pos h c7
          refine lv_iload_n hx hb dX13_fixed_50 rfl (lv_at hl 0 rfl) ?_
          refine lv_iload_n hx hb dX13_fixed_51 rfl (lv_at hl 2 rfl) ?_
          refine lv_icmp_lt (tgt := 60) hx hb dX13_fixed_52 (by decide) (fun c8 => ?_) (fun c8 => ?_)
          · have h := nd_pos h c8
            exact (db_X13_fixed_60 C K) (q1) s2 _ _ _ h hP hD hS (lv_sub hl [1, 0] rfl)
          · have h := nd_neg h c8
            refine lv_iload_n hx hb dX13_fixed_55 rfl (lv_at hl 0 rfl) ?_
            refine lv_iload_n hx hb dX13_fixed_56 rfl (lv_at hl 3 rfl) ?_
            refine lv_icmp_le (tgt := 66) hx hb dX13_fixed_57 (by decide) (fun c12 => ?_) (fun c12 => ?_)
            · have h := nd_pos h c12
              exact (db_X13_fixed_66 C K) (q1) s2 _ _ _ h hP hD hS (lv_sub hl [0] rfl)
            · have h := nd_neg h c12
              exact (db_X13_fixed_60 C K) (q1) s2 _ _ _ h hP hD hS (lv_sub hl [1, 0] rfl)
        · have h := nd_neg h c7
          refine lv_aload_n hx hb dX13_fixed_41 rfl (lv_at hl 1 rfl) ?_
          refine lv_bipush (v := 9) hx hb dX13_fixed_42 (by decide) ?_
          obtain ⟨s14, hq, h⟩ := nd_b1_e h
          have hPc := hP
          have hDc := hD
          have hKc := hK
          have hFc := nd_rs hD hS hA
          refine nd_cVv (As := [.int 9]) (rest := []) (w' := dw_X13 a ac s14) ⟨hx, hb, hml, hown, hts⟩ (fun sz => dm_X13_blame l hlt dC dI a ac n (9) s2 hq sz) (cwV 1 hts gi_dm_X13_fixed_1 rfl rfl rfl (by decide +kernel) ⟨Nat.le_of_ble_eq_true rfl, Nat.le_of_ble_eq_true rfl⟩) hPc hDc hKc hS hA hN (va_recv hKc hPc (ci := 14) (q0 := 0) rfl rfl) rfl hl.1 rfl (Nat.le_of_ble_eq_true rfl) dX13_fixed_44 (fun H locs hP1 hD1 hk1 hS => ?_)
          have hP := hP1
          have hD := hD1.weaken (fun k q _ h => hFc q.1 h)
          refine lv_goto (tgt := 66) hx hb dX13_fixed_47 (by decide) ?_
          exact (db_X13_fixed_66 C K) (q1) s14 _ _ _ h hP hD hS (lv_sub hl [0] rfl)
      · have h := nd_neg h c6
        refine lv_aload_n hx hb dX13_fixed_26 rfl (lv_at hl 1 rfl) ?_
        refine lv_iconst (v := 5) hx hb dX13_fixed_27 (by decide) ?_
        obtain ⟨s17, hq, h⟩ := nd_b1_e h
        have hPc := hP
        have hDc := hD
        have hKc := hK
        have hFc := nd_rs hD hS hA
        refine nd_cVv (As := [.int 5]) (rest := []) (w' := dw_X13 a ac s17) ⟨hx, hb, hml, hown, hts⟩ (fun sz => dm_X13_blame l hlt dC dI a ac n (5) s2 hq sz) (cwV 1 hts gi_dm_X13_fixed_1 rfl rfl rfl (by decide +kernel) ⟨Nat.le_of_ble_eq_true rfl, Nat.le_of_ble_eq_true rfl⟩) hPc hDc hKc hS hA hN (va_recv hKc hPc (ci := 14) (q0 := 0) rfl rfl) rfl hl.1 rfl (Nat.le_of_ble_eq_true rfl) dX13_fixed_28 (fun H locs hP1 hD1 hk1 hS => ?_)
        have hP := hP1
        have hD := hD1.weaken (fun k q _ h => hFc q.1 h)
        refine lv_goto (tgt := 66) hx hb dX13_fixed_31 (by decide) ?_
        exact (db_X13_fixed_66 C K) (q1) s17 _ _ _ h hP hD hS (lv_sub hl [0] rfl)
set_option maxHeartbeats 40000000 in
set_option maxRecDepth 100000 in
theorem dm_X13_fixed (l : Launch) (hlt : l.stackTraces = false) (dC : Nat → ClassId) (dI : Nat → Nat → Nat) (a : Nat → Nat) (ac : Nat → ClassId) (n : Nat) (v0 : Int32) (v1 : Int32) (s0 : St) {r : Int32 × (St)} (h : df_X13_fixed n v0 v1 s0 = some r) (sz : Nat) : Met l yX13_fixed ow_dm_X13_fixed ({ frames := 8, cells := 0, slots := 0, locals := 182 }) (va_Pc [.ref (a 0), .int v0, .int v1] (fun U => U.heap.size = sz ∧ va_P (dC, dI) vwCl (dw_X13 a ac s0) U.heap ∧ va_K (dC, dI) vwCl (dk_X13 ac) U ∧ va_D (fun _ => True) (dw_X13 a ac s0) ∧ nv_E dI (va_A (dw_X13 a ac s0) sz) U)) (va_Qi (fun x _ => x = r.1) (fun (_ : Unit) t => va_P (dC, dI) vwCl (dw_X13 a ac r.2) t.heap ∧ va_K (dC, dI) vwCl (dk_X13 ac) t ∧ va_D (va_A (dw_X13 a ac s0) sz) (dw_X13 a ac r.2)) (va_A (dw_X13 a ac s0) sz)) 0 0 (va_A (dw_X13 a ac s0) sz) := by
  refine Met.ofW (cc := cX13_fixed) (maxL := 4) (ret := (some .int)) (by decide) rfl ?_
  intro p e s m args below meth c s₁ B hml hv
  obtain ⟨rfl, hsz, hP, hK, hD0, hN⟩ := hv
  have hx := B.exec
  have hb := B.bytes
  have hr := B.returns
  have hts := atoms_spec (ws := ow_dm_X13_fixed) B.pre
  have hown : s.vm.findClass RX13 = some m.cls := findClass_of_methodNamed B.named
  have hlocks := B.notSynchronized
  subst hsz
  have hD := hD0.self (sz := s.heap.size)
  generalize hAe : va_A (dw_X13 a ac s0) s.heap.size = A at hD hN ⊢
  have hA : ∀ q : Nat, s.heap.size ≤ q → A q := fun q h => by rw [← hAe]; exact Or.inr h
  have hl := lv_entry ([.ref (a 0), .int v0, .int v1]) (n := 4) (Nat.le_of_ble_eq_true rfl)
  rw [lg_entry_eq]
  generalize (lg_sl ([.ref (a 0), .int v0, .int v1]) ++ List.replicate (4 - (lg_sl ([.ref (a 0), .int v0, .int v1])).length) Slot.unset).toArray = ls at hl ⊢
  have hl : lv_has ls 4 [(0, .ref (a 0)), (1, .int v0), (2, .int v1)] := hl
  exact db_X13_fixed_0 (dC := dC) (dI := dI) (a := a) (ac := ac) (n := n) (r := r) ⟨hlt, hx, hb, hml, hown, hts, hN, hA, hK⟩ (fun pc v τ H locs ls d z er hP hD hS => by subst er; exact W.zret (v := v) hx hb hr z (fun t ht hW => ⟨⟨v, (), rfl, rfl, by rw [ht]; exact hP, va_K.moved hW.alike hK, hD⟩, hS.F ht⟩) hS.2.2 d) v0 v1 s0 _ _ _ h hP hD va_S.rf (lv_sub hl [0, 1, 2] rfl)
def ow_dm_X13_taken : List Cond := Cond.code yX13_taken cX13_taken 2 (some .int) :: ([Cond.methodLink RX13 416 yX13_scan, Cond.instanceMethod yX13_scan, Cond.selects RX13 yX13_scan yX13_scan, Cond.initialized RX13, Cond.fieldLink RX13 365 "TimeMachineModel$Assembler" "token" "I", Cond.methodLink RX13 419 yX13_blame, Cond.instanceMethod yX13_blame, Cond.selects RX13 yX13_blame yX13_blame, Cond.fieldLink RX13 368 "TimeMachineModel$Assembler" "from" "I", Cond.fieldLink RX13 371 "TimeMachineModel$Assembler" "to" "I", Cond.methodLink RX13 477 yX13_register, Cond.instanceMethod yX13_register, Cond.selects RX13 yX13_register yX13_register] ++ (u_ws RX13 TX13 37 ++ (ow_dm_X13_scan ++ (ow_dm_X13_blame ++ (ow_dm_X13_register ++ [])))))
theorem gd_dm_X13_taken : ∀ w ∈ ow_dm_X13_taken, (w.onTables && w.keeps) = true ∨ ∃ ty, w = Cond.arrayClass ty := List.forall_mem_cons.mpr ⟨good_of_word rfl, List.forall_mem_append.mpr ⟨fun w h => good_of_word (List.all_eq_true.mp (by decide +kernel) w h), List.forall_mem_append.mpr ⟨gu_X13, List.forall_mem_append.mpr ⟨gd_dm_X13_scan, List.forall_mem_append.mpr ⟨gd_dm_X13_blame, List.forall_mem_append.mpr ⟨gd_dm_X13_register, fun _ h => nomatch h⟩⟩⟩⟩⟩⟩
theorem hi_dm_X13_taken_X13 : ∀ w ∈ u_ws RX13 TX13 37, w ∈ ow_dm_X13_taken := fun w h => List.mem_cons_of_mem _ (List.mem_append_right _ (List.mem_append_left _ h))
theorem gi_dm_X13_taken_0 : GoodIn ow_dm_X13_taken (wsV RX13 416 RX13 yX13_scan ow_dm_X13_scan) := goodIn_app (goodIn_of _ (by decide +kernel)) (fun w h => ⟨List.mem_cons_of_mem _ (List.mem_append_right _ (List.mem_append_right _ (List.mem_append_left _ h))), gd_dm_X13_scan w h⟩)
theorem gi_dm_X13_taken_1 : GoodIn ow_dm_X13_taken (wsV RX13 419 RX13 yX13_blame ow_dm_X13_blame) := goodIn_app (goodIn_of _ (by decide +kernel)) (fun w h => ⟨List.mem_cons_of_mem _ (List.mem_append_right _ (List.mem_append_right _ (List.mem_append_right _ (List.mem_append_left _ h)))), gd_dm_X13_blame w h⟩)
theorem gi_dm_X13_taken_2 : GoodIn ow_dm_X13_taken (wsV RX13 477 RX13 yX13_register ow_dm_X13_register) := goodIn_app (goodIn_of _ (by decide +kernel)) (fun w h => ⟨List.mem_cons_of_mem _ (List.mem_append_right _ (List.mem_append_right _ (List.mem_append_right _ (List.mem_append_right _ (List.mem_append_left _ h))))), gd_dm_X13_register w h⟩)
def dj_X13_taken_70 (p : Program) (l : Launch) (e : Env) (s : State) (m : MethodId) (args : Array Value) (below : List Frame) (meth : Method) (c : Code) (Q : State → Prop) (A : Nat → Prop) (dC : Nat → ClassId) (dI : Nat → Nat → Nat) (a : Nat → Nat) (ac : Nat → ClassId) (g : Int32 → (St) → Option (Int32 × (St))) (r : Int32 × (St)) : Prop := ∀ (y0 : Int32) (s0 : St) (H : Heap) (locs : List Loc) (ls : Array Slot), g y0 s0 = some r → va_P (dC, dI) vwCl (dw_X13 a ac s0) H → va_D A (dw_X13 a ac s0) → va_S A s.heap H locs → lv_has ls 2 [] → W p l e (headSpec ow_dm_X13_taken ({ frames := 5, cells := 0, slots := 0, locals := 114 })).room s m args below meth c H locs 0 0 Q (F0 m 70 ls [.int y0])
def dj_X13_taken_61 (p : Program) (l : Launch) (e : Env) (s : State) (m : MethodId) (args : Array Value) (below : List Frame) (meth : Method) (c : Code) (Q : State → Prop) (A : Nat → Prop) (dC : Nat → ClassId) (dI : Nat → Nat → Nat) (a : Nat → Nat) (ac : Nat → ClassId) (g : Int32 → (St) → Option (Int32 × (St))) (r : Int32 × (St)) : Prop := ∀ (x1 : Int32) (s0 : St) (H : Heap) (locs : List Loc) (ls : Array Slot), g x1 s0 = some r → va_P (dC, dI) vwCl (dw_X13 a ac s0) H → va_D A (dw_X13 a ac s0) → va_S A s.heap H locs → lv_has ls 2 [(1, .int x1)] → W p l e (headSpec ow_dm_X13_taken ({ frames := 5, cells := 0, slots := 0, locals := 114 })).room s m args below meth c H locs 0 0 Q (F0 m 61 ls [])
def dj_X13_taken_44 (p : Program) (l : Launch) (e : Env) (s : State) (m : MethodId) (args : Array Value) (below : List Frame) (meth : Method) (c : Code) (Q : State → Prop) (A : Nat → Prop) (dC : Nat → ClassId) (dI : Nat → Nat → Nat) (a : Nat → Nat) (ac : Nat → ClassId) (g : Int32 → (St) → Option (Int32 × (St))) (r : Int32 × (St)) : Prop := ∀ (x1 : Int32) (s0 : St) (H : Heap) (locs : List Loc) (ls : Array Slot), g x1 s0 = some r → va_P (dC, dI) vwCl (dw_X13 a ac s0) H → va_D A (dw_X13 a ac s0) → va_S A s.heap H locs → lv_has ls 2 [(0, .ref (a 0)), (1, .int x1)] → W p l e (headSpec ow_dm_X13_taken ({ frames := 5, cells := 0, slots := 0, locals := 114 })).room s m args below meth c H locs 0 0 Q (F0 m 44 ls [])
def dj_X13_taken_28 (p : Program) (l : Launch) (e : Env) (s : State) (m : MethodId) (args : Array Value) (below : List Frame) (meth : Method) (c : Code) (Q : State → Prop) (A : Nat → Prop) (dC : Nat → ClassId) (dI : Nat → Nat → Nat) (a : Nat → Nat) (ac : Nat → ClassId) (g : Int32 → (St) → Option (Int32 × (St))) (r : Int32 × (St)) : Prop := ∀ (y0 : Int32) (s0 : St) (H : Heap) (locs : List Loc) (ls : Array Slot), g y0 s0 = some r → va_P (dC, dI) vwCl (dw_X13 a ac s0) H → va_D A (dw_X13 a ac s0) → va_S A s.heap H locs → lv_has ls 2 [(0, .ref (a 0))] → W p l e (headSpec ow_dm_X13_taken ({ frames := 5, cells := 0, slots := 0, locals := 114 })).room s m args below meth c H locs 0 0 Q (F0 m 28 ls [.int y0])
def dj_X13_taken_0 (p : Program) (l : Launch) (e : Env) (s : State) (m : MethodId) (args : Array Value) (below : List Frame) (meth : Method) (c : Code) (Q : State → Prop) (A : Nat → Prop) (dC : Nat → ClassId) (dI : Nat → Nat → Nat) (a : Nat → Nat) (ac : Nat → ClassId) (g : (St) → Option (Int32 × (St))) (r : Int32 × (St)) : Prop := ∀ (s0 : St) (H : Heap) (locs : List Loc) (ls : Array Slot), g s0 = some r → va_P (dC, dI) vwCl (dw_X13 a ac s0) H → va_D A (dw_X13 a ac s0) → va_S A s.heap H locs → lv_has ls 2 [(0, .ref (a 0))] → W p l e (headSpec ow_dm_X13_taken ({ frames := 5, cells := 0, slots := 0, locals := 114 })).room s m args below meth c H locs 0 0 Q (F0 m 0 ls [])
set_option maxHeartbeats 40000000 in
set_option maxRecDepth 100000 in
theorem db_X13_taken_70 {p : Program} {l : Launch} {e : Env} {s : State} {m : MethodId} {args : Array Value} {below : List Frame} {meth : Method} {c : Code} {Q : State → Prop} {A : Nat → Prop} {dC : Nat → ClassId} {dI : Nat → Nat → Nat} {a : Nat → Nat} {ac : Nat → ClassId} {n : Nat} {r : Int32 × (St)} (C : nd_C p l s m args c A (dC, dI) cX13_taken 2 RX13 ow_dm_X13_taken (dk_X13 ac)) (K : nd_Ki p l e (headSpec ow_dm_X13_taken ({ frames := 5, cells := 0, slots := 0, locals := 114 })).room s m args below meth c Q A (dC, dI) cX13_taken .int (St) (dw_X13 a ac) r) : dj_X13_taken_70 p l e s m args below meth c Q A dC dI a ac (df_X13_taken_70 n) r := by
  obtain ⟨hlt, hx, hb, hml, hown, hts, hN, hA, hK⟩ := id C
  intro y0 s0 H locs ls h hP hD hS hl
  unfold df_X13_taken_70 at h
  exact K _ _ _ _ _ _ dX13_taken_70 rfl (Option.some.inj h).symm hP hD hS
set_option maxHeartbeats 40000000 in
set_option maxRecDepth 100000 in
theorem db_X13_taken_61 {p : Program} {l : Launch} {e : Env} {s : State} {m : MethodId} {args : Array Value} {below : List Frame} {meth : Method} {c : Code} {Q : State → Prop} {A : Nat → Prop} {dC : Nat → ClassId} {dI : Nat → Nat → Nat} {a : Nat → Nat} {ac : Nat → ClassId} {n : Nat} {r : Int32 × (St)} (C : nd_C p l s m args c A (dC, dI) cX13_taken 2 RX13 ow_dm_X13_taken (dk_X13 ac)) (K : nd_Ki p l e (headSpec ow_dm_X13_taken ({ frames := 5, cells := 0, slots := 0, locals := 114 })).room s m args below meth c Q A (dC, dI) cX13_taken .int (St) (dw_X13 a ac) r) : dj_X13_taken_61 p l e s m args below meth c Q A dC dI a ac (df_X13_taken_61 n) r := by
  obtain ⟨hlt, hx, hb, hml, hown, hts, hN, hA, hK⟩ := id C
  intro x1 s0 H locs ls h hP hD hS hl
  unfold df_X13_taken_61 at h
  refine lv_iload_n hx hb dX13_taken_61 rfl (lv_at hl 0 rfl) ?_
  refine lv_if_ge (tgt := 69) hx hb dX13_taken_62 (by decide) (fun c9 => ?_) (fun c9 => ?_)
  · have h := nd_pos h c9
    refine lv_iload_n hx hb dX13_taken_69 rfl (lv_at hl 0 rfl) ?_
    exact (db_X13_taken_70 C K) (x1) s0 _ _ _ h hP hD hS (lv_sub hl [] rfl)
  · have h := nd_neg h c9
    refine lv_iconst (v := 0) hx hb dX13_taken_65 (by decide) ?_
    refine lv_goto (tgt := 70) hx hb dX13_taken_66 (by decide) ?_
    exact (db_X13_taken_70 C K) (0) s0 _ _ _ h hP hD hS (lv_sub hl [] rfl)
set_option maxHeartbeats 40000000 in
set_option maxRecDepth 100000 in
theorem db_X13_taken_44 {p : Program} {l : Launch} {e : Env} {s : State} {m : MethodId} {args : Array Value} {below : List Frame} {meth : Method} {c : Code} {Q : State → Prop} {A : Nat → Prop} {dC : Nat → ClassId} {dI : Nat → Nat → Nat} {a : Nat → Nat} {ac : Nat → ClassId} {n : Nat} {r : Int32 × (St)} (C : nd_C p l s m args c A (dC, dI) cX13_taken 2 RX13 ow_dm_X13_taken (dk_X13 ac)) (K : nd_Ki p l e (headSpec ow_dm_X13_taken ({ frames := 5, cells := 0, slots := 0, locals := 114 })).room s m args below meth c Q A (dC, dI) cX13_taken .int (St) (dw_X13 a ac) r) : dj_X13_taken_44 p l e s m args below meth c Q A dC dI a ac (df_X13_taken_44 n) r := by
  obtain ⟨hlt, hx, hb, hml, hown, hts, hN, hA, hK⟩ := id C
  intro x1 s0 H locs ls h hP hD hS hl
  unfold df_X13_taken_44 at h
  refine lv_aload_n hx hb dX13_taken_44 rfl (lv_at hl 0 rfl) ?_
  refine lv_iconst (v := 1) hx hb dX13_taken_45 (by decide) ?_
  obtain ⟨s7, hq, h⟩ := nd_b1_e h
  have hPc := hP
  have hDc := hD
  have hKc := hK
  have hFc := nd_rs hD hS hA
  refine nd_cVv (As := [.int 1]) (rest := []) (w' := dw_X13 a ac s7) ⟨hx, hb, hml, hown, hts⟩ (fun sz => dm_X13_blame l hlt dC dI a ac n (1) s0 hq sz) (cwV 1 hts gi_dm_X13_taken_1 rfl rfl rfl (by decide +kernel) ⟨Nat.le_of_ble_eq_true rfl, Nat.le_of_ble_eq_true rfl⟩) hPc hDc hKc hS hA hN (va_recv hKc hPc (ci := 14) (q0 := 0) rfl rfl) rfl hl.1 rfl (Nat.le_of_ble_eq_true rfl) dX13_taken_46 (fun H locs hP1 hD1 hk1 hS => ?_)
  have hP := hP1
  have hD := hD1.weaken (fun k q _ h => hFc q.1 h)
  refine lv_goto (tgt := 61) hx hb dX13_taken_49 (by decide) ?_
  exact (db_X13_taken_61 C K) (x1) s7 _ _ _ h hP hD hS (lv_sub hl [1] rfl)
set_option maxHeartbeats 40000000 in
set_option maxRecDepth 100000 in
theorem db_X13_taken_28 {p : Program} {l : Launch} {e : Env} {s : State} {m : MethodId} {args : Array Value} {below : List Frame} {meth : Method} {c : Code} {Q : State → Prop} {A : Nat → Prop} {dC : Nat → ClassId} {dI : Nat → Nat → Nat} {a : Nat → Nat} {ac : Nat → ClassId} {n : Nat} {r : Int32 × (St)} (C : nd_C p l s m args c A (dC, dI) cX13_taken 2 RX13 ow_dm_X13_taken (dk_X13 ac)) (K : nd_Ki p l e (headSpec ow_dm_X13_taken ({ frames := 5, cells := 0, slots := 0, locals := 114 })).room s m args below meth c Q A (dC, dI) cX13_taken .int (St) (dw_X13 a ac) r) : dj_X13_taken_28 p l e s m args below meth c Q A dC dI a ac (df_X13_taken_28 n) r := by
  obtain ⟨hlt, hx, hb, hml, hown, hts, hN, hA, hK⟩ := id C
  intro y0 s0 H locs ls h hP hD hS hl
  unfold df_X13_taken_28 at h
  refine lv_istore_n (lv' := [(1, .int y0), (0, .ref (a 0))]) hx hb dX13_taken_28 rfl hl (by decide) rfl (fun ls hl => ?_)
  refine lv_aload_n hx hb dX13_taken_29 rfl (lv_at hl 1 rfl) ?_
  refine va_get (D := (dC, dI)) (ci := 14) (v := .int (sI s0 8)) (C := RX13) (T := TX13) (N := 37) hx hb hts hi_dm_X13_taken_X13 hown hK hP 0 rfl rfl 17 (by decide) (hts (.fieldLink RX13 365 "TimeMachineModel$Assembler" "token" "I") (List.mem_of_getElem? (i := 5) rfl)) (fun _ h9 => h9) rfl dX13_taken_30 ?_
  refine lv_if_eq (tgt := 44) hx hb dX13_taken_33 (by decide) (fun c5 => ?_) (fun c5 => ?_)
  · have h := nd_pos h c5
    exact (db_X13_taken_44 C K) (y0) s0 _ _ _ h hP hD hS (lv_sub hl [1, 0] rfl)
  · have h := nd_neg h c5
    refine lv_aload_n hx hb dX13_taken_36 rfl (lv_at hl 1 rfl) ?_
    refine va_get (D := (dC, dI)) (ci := 14) (v := .int (sI s0 8)) (C := RX13) (T := TX13) (N := 37) hx hb hts hi_dm_X13_taken_X13 hown hK hP 0 rfl rfl 17 (by decide) (hts (.fieldLink RX13 365 "TimeMachineModel$Assembler" "token" "I") (List.mem_of_getElem? (i := 5) rfl)) (fun _ h9 => h9) rfl dX13_taken_37 ?_
    refine lv_iconst (v := 5) hx hb dX13_taken_40 (by decide) ?_
    refine lv_icmp_ne (tgt := 52) hx hb dX13_taken_41 (by decide) (fun c10 => ?_) (fun c10 => ?_)
    · have h := nd_neg h c10
      refine lv_iload_n hx hb dX13_taken_52 rfl (lv_at hl 0 rfl) ?_
      refine lv_if_ge (tgt := 61) hx hb dX13_taken_53 (by decide) (fun c11 => ?_) (fun c11 => ?_)
      · have h := nd_pos h c11
        exact (db_X13_taken_61 C K) (y0) s0 _ _ _ h hP hD hS (lv_sub hl [0] rfl)
      · have h := nd_neg h c11
        refine lv_aload_n hx hb dX13_taken_56 rfl (lv_at hl 1 rfl) ?_
        refine lv_iconst (v := 3) hx hb dX13_taken_57 (by decide) ?_
        obtain ⟨s13, hq, h⟩ := nd_b1_e h
        have hPc := hP
        have hDc := hD
        have hKc := hK
        have hFc := nd_rs hD hS hA
        refine nd_cVv (As := [.int 3]) (rest := []) (w' := dw_X13 a ac s13) ⟨hx, hb, hml, hown, hts⟩ (fun sz => dm_X13_blame l hlt dC dI a ac n (3) s0 hq sz) (cwV 1 hts gi_dm_X13_taken_1 rfl rfl rfl (by decide +kernel) ⟨Nat.le_of_ble_eq_true rfl, Nat.le_of_ble_eq_true rfl⟩) hPc hDc hKc hS hA hN (va_recv hKc hPc (ci := 14) (q0 := 0) rfl rfl) rfl hl.1 rfl (Nat.le_of_ble_eq_true rfl) dX13_taken_58 (fun H locs hP1 hD1 hk1 hS => ?_)
        have hP := hP1
        have hD := hD1.weaken (fun k q _ h => hFc q.1 h)
        exact (db_X13_taken_61 C K) (y0) s13 _ _ _ h hP hD hS (lv_sub hl [0] rfl)
    · have h := nd_pos h c10
      exact (db_X13_taken_44 C K) (y0) s0 _ _ _ h hP hD hS (lv_sub hl [1, 0] rfl)
set_option maxHeartbeats 40000000 in
set_option maxRecDepth 100000 in
theorem db_X13_taken_0 {p : Program} {l : Launch} {e : Env} {s : State} {m : MethodId} {args : Array Value} {below : List Frame} {meth : Method} {c : Code} {Q : State → Prop} {A : Nat → Prop} {dC : Nat → ClassId} {dI : Nat → Nat → Nat} {a : Nat → Nat} {ac : Nat → ClassId} {n : Nat} {r : Int32 × (St)} (C : nd_C p l s m args c A (dC, dI) cX13_taken 2 RX13 ow_dm_X13_taken (dk_X13 ac)) (K : nd_Ki p l e (headSpec ow_dm_X13_taken ({ frames := 5, cells := 0, slots := 0, locals := 114 })).room s m args below meth c Q A (dC, dI) cX13_taken .int (St) (dw_X13 a ac) r) : dj_X13_taken_0 p l e s m args below meth c Q A dC dI a ac (df_X13_taken_0 n) r := by
  obtain ⟨hlt, hx, hb, hml, hown, hts, hN, hA, hK⟩ := id C
  intro s0 H locs ls h hP hD hS hl
  unfold df_X13_taken_0 at h
  refine lv_aload_n hx hb dX13_taken_0 rfl (lv_at hl 0 rfl) ?_
  obtain ⟨s2, hq, h⟩ := nd_b1_e h
  have hPc := hP
  have hDc := hD
  have hKc := hK
  have hFc := nd_rs hD hS hA
  refine nd_cVv (As := []) (rest := []) (w' := dw_X13 a ac s2) ⟨hx, hb, hml, hown, hts⟩ (fun sz => dm_X13_scan l hlt dC dI a ac n  s0 hq sz) (cwV 0 hts gi_dm_X13_taken_0 rfl rfl rfl (by decide +kernel) ⟨Nat.le_of_ble_eq_true rfl, Nat.le_of_ble_eq_true rfl⟩) hPc hDc hKc hS hA hN (va_recv hKc hPc (ci := 14) (q0 := 0) rfl rfl) rfl hl.1 rfl (Nat.le_of_ble_eq_true rfl) dX13_taken_1 (fun H locs hP1 hD1 hk1 hS => ?_)
  have hP := hP1
  have hD := hD1.weaken (fun k q _ h => hFc q.1 h)
  refine lv_aload_n hx hb dX13_taken_4 rfl (lv_at hl 0 rfl) ?_
  refine va_get (D := (dC, dI)) (ci := 14) (v := .int (sI s2 8)) (C := RX13) (T := TX13) (N := 37) hx hb hts hi_dm_X13_taken_X13 hown hK hP 0 rfl rfl 17 (by decide) (hts (.fieldLink RX13 365 "TimeMachineModel$Assembler" "token" "I") (List.mem_of_getElem? (i := 5) rfl)) (fun _ h9 => h9) rfl dX13_taken_5 ?_
  refine lv_iconst (v := 1) hx hb dX13_taken_8 (by decide) ?_
  refine lv_icmp_ne (tgt := 27) hx hb dX13_taken_9 (by decide) (fun c4 => ?_) (fun c4 => ?_)
  · have h := nd_neg h c4
    refine lv_iconst (v := (-1)) hx hb dX13_taken_27 (by decide) ?_
    exact (db_X13_taken_28 C K) ((-1)) s2 _ _ _ h hP hD hS (lv_sub hl [0] rfl)
  · have h := nd_pos h c4
    refine lv_aload_n hx hb dX13_taken_12 rfl (lv_at hl 0 rfl) ?_
    refine lv_aload_n hx hb dX13_taken_13 rfl (lv_at hl 0 rfl) ?_
    refine va_get (D := (dC, dI)) (ci := 14) (v := .int (sI s2 9)) (C := RX13) (T := TX13) (N := 37) hx hb hts hi_dm_X13_taken_X13 hown hK hP 0 rfl rfl 18 (by decide) (hts (.fieldLink RX13 368 "TimeMachineModel$Assembler" "from" "I") (List.mem_of_getElem? (i := 9) rfl)) (fun _ h9 => h9) rfl dX13_taken_14 ?_
    refine lv_aload_n hx hb dX13_taken_17 rfl (lv_at hl 0 rfl) ?_
    refine va_get (D := (dC, dI)) (ci := 14) (v := .int (sI s2 10)) (C := RX13) (T := TX13) (N := 37) hx hb hts hi_dm_X13_taken_X13 hown hK hP 0 rfl rfl 19 (by decide) (hts (.fieldLink RX13 371 "TimeMachineModel$Assembler" "to" "I") (List.mem_of_getElem? (i := 10) rfl)) (fun _ h9 => h9) rfl dX13_taken_18 ?_
    obtain ⟨q15, s16, hq, h⟩ := nd_b2_e h
    have hPc := hP
    have hDc := hD
    have hKc := hK
    have hFc := nd_rs hD hS hA
    refine nd_cVi (As := [.int (sI s2 9), .int (sI s2 10)]) (rest := []) (q := q15) (w' := dw_X13 a ac s16) ⟨hx, hb, hml, hown, hts⟩ (fun sz => dm_X13_register l hlt dC dI a ac n ((sI s2 9)) ((sI s2 10)) s2 hq sz) (cwV 2 hts gi_dm_X13_taken_2 rfl rfl rfl (by decide +kernel) ⟨Nat.le_of_ble_eq_true rfl, Nat.le_of_ble_eq_true rfl⟩) hPc hDc hKc hS hA hN (va_recv hKc hPc (ci := 14) (q0 := 0) rfl rfl) rfl hl.1 rfl (Nat.le_of_ble_eq_true rfl) dX13_taken_21 (fun H locs hP1 hD1 hk1 hS => ?_)
    have hP := hP1
    have hD := hD1.weaken (fun k q _ h => hFc q.1 h)
    refine lv_goto (tgt := 28) hx hb dX13_taken_24 (by decide) ?_
    exact (db_X13_taken_28 C K) (q15) s16 _ _ _ h hP hD hS (lv_sub hl [0] rfl)
set_option maxHeartbeats 40000000 in
set_option maxRecDepth 100000 in
theorem dm_X13_taken (l : Launch) (hlt : l.stackTraces = false) (dC : Nat → ClassId) (dI : Nat → Nat → Nat) (a : Nat → Nat) (ac : Nat → ClassId) (n : Nat) (s0 : St) {r : Int32 × (St)} (h : df_X13_taken n s0 = some r) (sz : Nat) : Met l yX13_taken ow_dm_X13_taken ({ frames := 5, cells := 0, slots := 0, locals := 114 }) (va_Pc [.ref (a 0)] (fun U => U.heap.size = sz ∧ va_P (dC, dI) vwCl (dw_X13 a ac s0) U.heap ∧ va_K (dC, dI) vwCl (dk_X13 ac) U ∧ va_D (fun _ => True) (dw_X13 a ac s0) ∧ nv_E dI (va_A (dw_X13 a ac s0) sz) U)) (va_Qi (fun x _ => x = r.1) (fun (_ : Unit) t => va_P (dC, dI) vwCl (dw_X13 a ac r.2) t.heap ∧ va_K (dC, dI) vwCl (dk_X13 ac) t ∧ va_D (va_A (dw_X13 a ac s0) sz) (dw_X13 a ac r.2)) (va_A (dw_X13 a ac s0) sz)) 0 0 (va_A (dw_X13 a ac s0) sz) := by
  refine Met.ofW (cc := cX13_taken) (maxL := 2) (ret := (some .int)) (by decide) rfl ?_
  intro p e s m args below meth c s₁ B hml hv
  obtain ⟨rfl, hsz, hP, hK, hD0, hN⟩ := hv
  have hx := B.exec
  have hb := B.bytes
  have hr := B.returns
  have hts := atoms_spec (ws := ow_dm_X13_taken) B.pre
  have hown : s.vm.findClass RX13 = some m.cls := findClass_of_methodNamed B.named
  have hlocks := B.notSynchronized
  subst hsz
  have hD := hD0.self (sz := s.heap.size)
  generalize hAe : va_A (dw_X13 a ac s0) s.heap.size = A at hD hN ⊢
  have hA : ∀ q : Nat, s.heap.size ≤ q → A q := fun q h => by rw [← hAe]; exact Or.inr h
  have hl := lv_entry ([.ref (a 0)]) (n := 2) (Nat.le_of_ble_eq_true rfl)
  rw [lg_entry_eq]
  generalize (lg_sl ([.ref (a 0)]) ++ List.replicate (2 - (lg_sl ([.ref (a 0)])).length) Slot.unset).toArray = ls at hl ⊢
  have hl : lv_has ls 2 [(0, .ref (a 0))] := hl
  exact db_X13_taken_0 (dC := dC) (dI := dI) (a := a) (ac := ac) (n := n) (r := r) ⟨hlt, hx, hb, hml, hown, hts, hN, hA, hK⟩ (fun pc v τ H locs ls d z er hP hD hS => by subst er; exact W.zret (v := v) hx hb hr z (fun t ht hW => ⟨⟨v, (), rfl, rfl, by rw [ht]; exact hP, va_K.moved hW.alike hK, hD⟩, hS.F ht⟩) hS.2.2 d) s0 _ _ _ h hP hD va_S.rf (lv_sub hl [0] rfl)
def ow_dm_X13_near8 : List Cond := Cond.code yX13_near8 cX13_near8 2 (some .int) :: ([Cond.methodLink RX13 532 yX13_taken, Cond.instanceMethod yX13_taken, Cond.selects RX13 yX13_taken yX13_taken, Cond.initialized RX13, Cond.methodLink RX13 419 yX13_blame, Cond.instanceMethod yX13_blame, Cond.selects RX13 yX13_blame yX13_blame] ++ (ow_dm_X13_taken ++ (ow_dm_X13_blame ++ [])))
theorem gd_dm_X13_near8 : ∀ w ∈ ow_dm_X13_near8, (w.onTables && w.keeps) = true ∨ ∃ ty, w = Cond.arrayClass ty := List.forall_mem_cons.mpr ⟨good_of_word rfl, List.forall_mem_append.mpr ⟨fun w h => good_of_word (List.all_eq_true.mp (by decide +kernel) w h), List.forall_mem_append.mpr ⟨gd_dm_X13_taken, List.forall_mem_append.mpr ⟨gd_dm_X13_blame, fun _ h => nomatch h⟩⟩⟩⟩
theorem gi_dm_X13_near8_0 : GoodIn ow_dm_X13_near8 (wsV RX13 532 RX13 yX13_taken ow_dm_X13_taken) := goodIn_app (goodIn_of _ (by decide +kernel)) (fun w h => ⟨List.mem_cons_of_mem _ (List.mem_append_right _ (List.mem_append_left _ h)), gd_dm_X13_taken w h⟩)
theorem gi_dm_X13_near8_1 : GoodIn ow_dm_X13_near8 (wsV RX13 419 RX13 yX13_blame ow_dm_X13_blame) := goodIn_app (goodIn_of _ (by decide +kernel)) (fun w h => ⟨List.mem_cons_of_mem _ (List.mem_append_right _ (List.mem_append_right _ (List.mem_append_left _ h))), gd_dm_X13_blame w h⟩)
def dj_X13_near8_22 (p : Program) (l : Launch) (e : Env) (s : State) (m : MethodId) (args : Array Value) (below : List Frame) (meth : Method) (c : Code) (Q : State → Prop) (A : Nat → Prop) (dC : Nat → ClassId) (dI : Nat → Nat → Nat) (a : Nat → Nat) (ac : Nat → ClassId) (g : Int32 → (St) → Option (Int32 × (St))) (r : Int32 × (St)) : Prop := ∀ (x1 : Int32) (s0 : St) (H : Heap) (locs : List Loc) (ls : Array Slot), g x1 s0 = some r → va_P (dC, dI) vwCl (dw_X13 a ac s0) H → va_D A (dw_X13 a ac s0) → va_S A s.heap H locs → lv_has ls 2 [(1, .int x1)] → W p l e (headSpec ow_dm_X13_near8 ({ frames := 6, cells := 0, slots := 0, locals := 135 })).room s m args below meth c H locs 0 0 Q (F0 m 22 ls [])
def dj_X13_near8_17 (p : Program) (l : Launch) (e : Env) (s : State) (m : MethodId) (args : Array Value) (below : List Frame) (meth : Method) (c : Code) (Q : State → Prop) (A : Nat → Prop) (dC : Nat → ClassId) (dI : Nat → Nat → Nat) (a : Nat → Nat) (ac : Nat → ClassId) (g : Int32 → (St) → Option (Int32 × (St))) (r : Int32 × (St)) : Prop := ∀ (x1 : Int32) (s0 : St) (H : Heap) (locs : List Loc) (ls : Array Slot), g x1 s0 = some r → va_P (dC, dI) vwCl (dw_X13 a ac s0) H → va_D A (dw_X13 a ac s0) → va_S A s.heap H locs → lv_has ls 2 [(0, .ref (a 0)), (1, .int x1)] → W p l e (headSpec ow_dm_X13_near8 ({ frames := 6, cells := 0, slots := 0, locals := 135 })).room s m args below meth c H locs 0 0 Q (F0 m 17 ls [])
def dj_X13_near8_0 (p : Program) (l : Launch) (e : Env) (s : State) (m : MethodId) (args : Array Value) (below : List Frame) (meth : Method) (c : Code) (Q : State → Prop) (A : Nat → Prop) (dC : Nat → ClassId) (dI : Nat → Nat → Nat) (a : Nat → Nat) (ac : Nat → ClassId) (g : (St) → Option (Int32 × (St))) (r : Int32 × (St)) : Prop := ∀ (s0 : St) (H : Heap) (locs : List Loc) (ls : Array Slot), g s0 = some r → va_P (dC, dI) vwCl (dw_X13 a ac s0) H → va_D A (dw_X13 a ac s0) → va_S A s.heap H locs → lv_has ls 2 [(0, .ref (a 0))] → W p l e (headSpec ow_dm_X13_near8 ({ frames := 6, cells := 0, slots := 0, locals := 135 })).room s m args below meth c H locs 0 0 Q (F0 m 0 ls [])
set_option maxHeartbeats 40000000 in
set_option maxRecDepth 100000 in
theorem db_X13_near8_22 {p : Program} {l : Launch} {e : Env} {s : State} {m : MethodId} {args : Array Value} {below : List Frame} {meth : Method} {c : Code} {Q : State → Prop} {A : Nat → Prop} {dC : Nat → ClassId} {dI : Nat → Nat → Nat} {a : Nat → Nat} {ac : Nat → ClassId} {n : Nat} {r : Int32 × (St)} (C : nd_C p l s m args c A (dC, dI) cX13_near8 2 RX13 ow_dm_X13_near8 (dk_X13 ac)) (K : nd_Ki p l e (headSpec ow_dm_X13_near8 ({ frames := 6, cells := 0, slots := 0, locals := 135 })).room s m args below meth c Q A (dC, dI) cX13_near8 .int (St) (dw_X13 a ac) r) : dj_X13_near8_22 p l e s m args below meth c Q A dC dI a ac (df_X13_near8_22 n) r := by
  obtain ⟨hlt, hx, hb, hml, hown, hts, hN, hA, hK⟩ := id C
  intro x1 s0 H locs ls h hP hD hS hl
  unfold df_X13_near8_22 at h
  refine lv_iload_n hx hb dX13_near8_22 rfl (lv_at hl 0 rfl) ?_
  refine lv_bipush (v := 8) hx hb dX13_near8_23 (by decide) ?_
  refine lv_isub hx hb dX13_near8_25 ?_
  refine lv_bipush (v := 7) hx hb dX13_near8_26 (by decide) ?_
  refine lv_iand hx hb dX13_near8_28 ?_
  exact K _ _ _ _ _ _ dX13_near8_29 rfl (Option.some.inj h).symm hP hD hS
set_option maxHeartbeats 40000000 in
set_option maxRecDepth 100000 in
theorem db_X13_near8_17 {p : Program} {l : Launch} {e : Env} {s : State} {m : MethodId} {args : Array Value} {below : List Frame} {meth : Method} {c : Code} {Q : State → Prop} {A : Nat → Prop} {dC : Nat → ClassId} {dI : Nat → Nat → Nat} {a : Nat → Nat} {ac : Nat → ClassId} {n : Nat} {r : Int32 × (St)} (C : nd_C p l s m args c A (dC, dI) cX13_near8 2 RX13 ow_dm_X13_near8 (dk_X13 ac)) (K : nd_Ki p l e (headSpec ow_dm_X13_near8 ({ frames := 6, cells := 0, slots := 0, locals := 135 })).room s m args below meth c Q A (dC, dI) cX13_near8 .int (St) (dw_X13 a ac) r) : dj_X13_near8_17 p l e s m args below meth c Q A dC dI a ac (df_X13_near8_17 n) r := by
  obtain ⟨hlt, hx, hb, hml, hown, hts, hN, hA, hK⟩ := id C
  intro x1 s0 H locs ls h hP hD hS hl
  unfold df_X13_near8_17 at h
  refine lv_aload_n hx hb dX13_near8_17 rfl (lv_at hl 0 rfl) ?_
  refine lv_iconst (v := 3) hx hb dX13_near8_18 (by decide) ?_
  obtain ⟨s6, hq, h⟩ := nd_b1_e h
  have hPc := hP
  have hDc := hD
  have hKc := hK
  have hFc := nd_rs hD hS hA
  refine nd_cVv (As := [.int 3]) (rest := []) (w' := dw_X13 a ac s6) ⟨hx, hb, hml, hown, hts⟩ (fun sz => dm_X13_blame l hlt dC dI a ac n (3) s0 hq sz) (cwV 1 hts gi_dm_X13_near8_1 rfl rfl rfl (by decide +kernel) ⟨Nat.le_of_ble_eq_true rfl, Nat.le_of_ble_eq_true rfl⟩) hPc hDc hKc hS hA hN (va_recv hKc hPc (ci := 14) (q0 := 0) rfl rfl) rfl hl.1 rfl (Nat.le_of_ble_eq_true rfl) dX13_near8_19 (fun H locs hP1 hD1 hk1 hS => ?_)
  have hP := hP1
  have hD := hD1.weaken (fun k q _ h => hFc q.1 h)
  exact (db_X13_near8_22 C K) (x1) s6 _ _ _ h hP hD hS (lv_sub hl [1] rfl)
set_option maxHeartbeats 40000000 in
set_option maxRecDepth 100000 in
theorem db_X13_near8_0 {p : Program} {l : Launch} {e : Env} {s : State} {m : MethodId} {args : Array Value} {below : List Frame} {meth : Method} {c : Code} {Q : State → Prop} {A : Nat → Prop} {dC : Nat → ClassId} {dI : Nat → Nat → Nat} {a : Nat → Nat} {ac : Nat → ClassId} {n : Nat} {r : Int32 × (St)} (C : nd_C p l s m args c A (dC, dI) cX13_near8 2 RX13 ow_dm_X13_near8 (dk_X13 ac)) (K : nd_Ki p l e (headSpec ow_dm_X13_near8 ({ frames := 6, cells := 0, slots := 0, locals := 135 })).room s m args below meth c Q A (dC, dI) cX13_near8 .int (St) (dw_X13 a ac) r) : dj_X13_near8_0 p l e s m args below meth c Q A dC dI a ac (df_X13_near8_0 n) r := by
  obtain ⟨hlt, hx, hb, hml, hown, hts, hN, hA, hK⟩ := id C
  intro s0 H locs ls h hP hD hS hl
  unfold df_X13_near8_0 at h
  refine lv_aload_n hx hb dX13_near8_0 rfl (lv_at hl 0 rfl) ?_
  obtain ⟨q1, s2, hq, h⟩ := nd_b2_e h
  have hPc := hP
  have hDc := hD
  have hKc := hK
  have hFc := nd_rs hD hS hA
  refine nd_cVi (As := []) (rest := []) (q := q1) (w' := dw_X13 a ac s2) ⟨hx, hb, hml, hown, hts⟩ (fun sz => dm_X13_taken l hlt dC dI a ac n  s0 hq sz) (cwV 0 hts gi_dm_X13_near8_0 rfl rfl rfl (by decide +kernel) ⟨Nat.le_of_ble_eq_true rfl, Nat.le_of_ble_eq_true rfl⟩) hPc hDc hKc hS hA hN (va_recv hKc hPc (ci := 14) (q0 := 0) rfl rfl) rfl hl.1 rfl (Nat.le_of_ble_eq_true rfl) dX13_near8_1 (fun H locs hP1 hD1 hk1 hS => ?_)
  have hP := hP1
  have hD := hD1.weaken (fun k q _ h => hFc q.1 h)
  refine lv_istore_n (lv' := [(1, .int q1), (0, .ref (a 0))]) hx hb dX13_near8_4 rfl hl (by decide) rfl (fun ls hl => ?_)
  refine lv_iload_n hx hb dX13_near8_5 rfl (lv_at hl 0 rfl) ?_
  refine lv_bipush (v := 8) hx hb dX13_near8_6 (by decide) ?_
  refine lv_icmp_lt (tgt := 17) hx hb dX13_near8_8 (by decide) (fun c4 => ?_) (fun c4 => ?_)
  · have h := nd_pos h c4
    exact (db_X13_near8_17 C K) (q1) s2 _ _ _ h hP hD hS (lv_sub hl [1, 0] rfl)
  · have h := nd_neg h c4
    refine lv_iload_n hx hb dX13_near8_11 rfl (lv_at hl 0 rfl) ?_
    refine lv_bipush (v := 15) hx hb dX13_near8_12 (by decide) ?_
    refine lv_icmp_le (tgt := 22) hx hb dX13_near8_14 (by decide) (fun c8 => ?_) (fun c8 => ?_)
    · have h := nd_pos h c8
      exact (db_X13_near8_22 C K) (q1) s2 _ _ _ h hP hD hS (lv_sub hl [0] rfl)
    · have h := nd_neg h c8
      exact (db_X13_near8_17 C K) (q1) s2 _ _ _ h hP hD hS (lv_sub hl [1, 0] rfl)
set_option maxHeartbeats 40000000 in
set_option maxRecDepth 100000 in
theorem dm_X13_near8 (l : Launch) (hlt : l.stackTraces = false) (dC : Nat → ClassId) (dI : Nat → Nat → Nat) (a : Nat → Nat) (ac : Nat → ClassId) (n : Nat) (s0 : St) {r : Int32 × (St)} (h : df_X13_near8 n s0 = some r) (sz : Nat) : Met l yX13_near8 ow_dm_X13_near8 ({ frames := 6, cells := 0, slots := 0, locals := 135 }) (va_Pc [.ref (a 0)] (fun U => U.heap.size = sz ∧ va_P (dC, dI) vwCl (dw_X13 a ac s0) U.heap ∧ va_K (dC, dI) vwCl (dk_X13 ac) U ∧ va_D (fun _ => True) (dw_X13 a ac s0) ∧ nv_E dI (va_A (dw_X13 a ac s0) sz) U)) (va_Qi (fun x _ => x = r.1) (fun (_ : Unit) t => va_P (dC, dI) vwCl (dw_X13 a ac r.2) t.heap ∧ va_K (dC, dI) vwCl (dk_X13 ac) t ∧ va_D (va_A (dw_X13 a ac s0) sz) (dw_X13 a ac r.2)) (va_A (dw_X13 a ac s0) sz)) 0 0 (va_A (dw_X13 a ac s0) sz) := by
  refine Met.ofW (cc := cX13_near8) (maxL := 2) (ret := (some .int)) (by decide) rfl ?_
  intro p e s m args below meth c s₁ B hml hv
  obtain ⟨rfl, hsz, hP, hK, hD0, hN⟩ := hv
  have hx := B.exec
  have hb := B.bytes
  have hr := B.returns
  have hts := atoms_spec (ws := ow_dm_X13_near8) B.pre
  have hown : s.vm.findClass RX13 = some m.cls := findClass_of_methodNamed B.named
  have hlocks := B.notSynchronized
  subst hsz
  have hD := hD0.self (sz := s.heap.size)
  generalize hAe : va_A (dw_X13 a ac s0) s.heap.size = A at hD hN ⊢
  have hA : ∀ q : Nat, s.heap.size ≤ q → A q := fun q h => by rw [← hAe]; exact Or.inr h
  have hl := lv_entry ([.ref (a 0)]) (n := 2) (Nat.le_of_ble_eq_true rfl)
  rw [lg_entry_eq]
  generalize (lg_sl ([.ref (a 0)]) ++ List.replicate (2 - (lg_sl ([.ref (a 0)])).length) Slot.unset).toArray = ls at hl ⊢
  have hl : lv_has ls 2 [(0, .ref (a 0))] := hl
  exact db_X13_near8_0 (dC := dC) (dI := dI) (a := a) (ac := ac) (n := n) (r := r) ⟨hlt, hx, hb, hml, hown, hts, hN, hA, hK⟩ (fun pc v τ H locs ls d z er hP hD hS => by subst er; exact W.zret (v := v) hx hb hr z (fun t ht hW => ⟨⟨v, (), rfl, rfl, by rw [ht]; exact hP, va_K.moved hW.alike hK, hD⟩, hS.F ht⟩) hS.2.2 d) s0 _ _ _ h hP hD va_S.rf (lv_sub hl [0] rfl)
def ow_dm_X13_behind : List Cond := Cond.code yX13_behind cX13_behind 1 (some .int) :: ([Cond.methodLink RX13 506 yX13_needs, Cond.instanceMethod yX13_needs, Cond.selects RX13 yX13_needs yX13_needs, Cond.initialized RX13, Cond.methodLink RX13 532 yX13_taken, Cond.instanceMethod yX13_taken, Cond.selects RX13 yX13_taken yX13_taken] ++ (ow_dm_X13_needs ++ (ow_dm_X13_taken ++ [])))
theorem gd_dm_X13_behind : ∀ w ∈ ow_dm_X13_behind, (w.onTables && w.keeps) = true ∨ ∃ ty, w = Cond.arrayClass ty := List.forall_mem_cons.mpr ⟨good_of_word rfl, List.forall_mem_append.mpr ⟨fun w h => good_of_word (List.all_eq_true.mp (by decide +kernel) w h), List.forall_mem_append.mpr ⟨gd_dm_X13_needs, List.forall_mem_append.mpr ⟨gd_dm_X13_taken, fun _ h => nomatch h⟩⟩⟩⟩
theorem gi_dm_X13_behind_0 : GoodIn ow_dm_X13_behind (wsV RX13 506 RX13 yX13_needs ow_dm_X13_needs) := goodIn_app (goodIn_of _ (by decide +kernel)) (fun w h => ⟨List.mem_cons_of_mem _ (List.mem_append_right _ (List.mem_append_left _ h)), gd_dm_X13_needs w h⟩)
theorem gi_dm_X13_behind_1 : GoodIn ow_dm_X13_behind (wsV RX13 532 RX13 yX13_taken ow_dm_X13_taken) := goodIn_app (goodIn_of _ (by decide +kernel)) (fun w h => ⟨List.mem_cons_of_mem _ (List.mem_append_right _ (List.mem_append_right _ (List.mem_append_left _ h))), gd_dm_X13_taken w h⟩)
def dj_X13_behind_17 (p : Program) (l : Launch) (e : Env) (s : State) (m : MethodId) (args : Array Value) (below : List Frame) (meth : Method) (c : Code) (Q : State → Prop) (A : Nat → Prop) (dC : Nat → ClassId) (dI : Nat → Nat → Nat) (a : Nat → Nat) (ac : Nat → ClassId) (g : Int32 → (St) → Option (Int32 × (St))) (r : Int32 × (St)) : Prop := ∀ (y0 : Int32) (s0 : St) (H : Heap) (locs : List Loc) (ls : Array Slot), g y0 s0 = some r → va_P (dC, dI) vwCl (dw_X13 a ac s0) H → va_D A (dw_X13 a ac s0) → va_S A s.heap H locs → lv_has ls 1 [] → W p l e (headSpec ow_dm_X13_behind ({ frames := 6, cells := 0, slots := 0, locals := 135 })).room s m args below meth c H locs 0 0 Q (F0 m 17 ls [.int y0])
def dj_X13_behind_0 (p : Program) (l : Launch) (e : Env) (s : State) (m : MethodId) (args : Array Value) (below : List Frame) (meth : Method) (c : Code) (Q : State → Prop) (A : Nat → Prop) (dC : Nat → ClassId) (dI : Nat → Nat → Nat) (a : Nat → Nat) (ac : Nat → ClassId) (g : (St) → Option (Int32 × (St))) (r : Int32 × (St)) : Prop := ∀ (s0 : St) (H : Heap) (locs : List Loc) (ls : Array Slot), g s0 = some r → va_P (dC, dI) vwCl (dw_X13 a ac s0) H → va_D A (dw_X13 a ac s0) → va_S A s.heap H locs → lv_has ls 1 [(0, .ref (a 0))] → W p l e (headSpec ow_dm_X13_behind ({ frames := 6, cells := 0, slots := 0, locals := 135 })).room s m args below meth c H locs 0 0 Q (F0 m 0 ls [])
set_option maxHeartbeats 40000000 in
set_option maxRecDepth 100000 in
theorem db_X13_behind_17 {p : Program} {l : Launch} {e : Env} {s : State} {m : MethodId} {args : Array Value} {below : List Frame} {meth : Method} {c : Code} {Q : State → Prop} {A : Nat → Prop} {dC : Nat → ClassId} {dI : Nat → Nat → Nat} {a : Nat → Nat} {ac : Nat → ClassId} {n : Nat} {r : Int32 × (St)} (C : nd_C p l s m args c A (dC, dI) cX13_behind 1 RX13 ow_dm_X13_behind (dk_X13 ac)) (K : nd_Ki p l e (headSpec ow_dm_X13_behind ({ frames := 6, cells := 0, slots := 0, locals := 135 })).room s m args below meth c Q A (dC, dI) cX13_behind .int (St) (dw_X13 a ac) r) : dj_X13_behind_17 p l e s m args below meth c Q A dC dI a ac (df_X13_behind_17 n) r := by
  obtain ⟨hlt, hx, hb, hml, hown, hts, hN, hA, hK⟩ := id C
  intro y0 s0 H locs ls h hP hD hS hl
  unfold df_X13_behind_17 at h
  exact K _ _ _ _ _ _ dX13_behind_17 rfl (Option.some.inj h).symm hP hD hS
set_option maxHeartbeats 40000000 in
set_option maxRecDepth 100000 in
theorem db_X13_behind_0 {p : Program} {l : Launch} {e : Env} {s : State} {m : MethodId} {args : Array Value} {below : List Frame} {meth : Method} {c : Code} {Q : State → Prop} {A : Nat → Prop} {dC : Nat → ClassId} {dI : Nat → Nat → Nat} {a : Nat → Nat} {ac : Nat → ClassId} {n : Nat} {r : Int32 × (St)} (C : nd_C p l s m args c A (dC, dI) cX13_behind 1 RX13 ow_dm_X13_behind (dk_X13 ac)) (K : nd_Ki p l e (headSpec ow_dm_X13_behind ({ frames := 6, cells := 0, slots := 0, locals := 135 })).room s m args below meth c Q A (dC, dI) cX13_behind .int (St) (dw_X13 a ac) r) : dj_X13_behind_0 p l e s m args below meth c Q A dC dI a ac (df_X13_behind_0 n) r := by
  obtain ⟨hlt, hx, hb, hml, hown, hts, hN, hA, hK⟩ := id C
  intro s0 H locs ls h hP hD hS hl
  unfold df_X13_behind_0 at h
  refine lv_aload_n hx hb dX13_behind_0 rfl (lv_at hl 0 rfl) ?_
  refine lv_bipush (v := 44) hx hb dX13_behind_1 (by decide) ?_
  obtain ⟨q1, s2, hq, h⟩ := nd_b2_e h
  have hPc := hP
  have hDc := hD
  have hKc := hK
  have hFc := nd_rs hD hS hA
  refine nd_cVi (As := [.int 44]) (rest := []) (q := q1) (w' := dw_X13 a ac s2) ⟨hx, hb, hml, hown, hts⟩ (fun sz => dm_X13_needs l hlt dC dI a ac n (44) s0 hq sz) (cwV 1 hts gi_dm_X13_behind_0 rfl rfl rfl (by decide +kernel) ⟨Nat.le_of_ble_eq_true rfl, Nat.le_of_ble_eq_true rfl⟩) hPc hDc hKc hS hA hN (va_recv hKc hPc (ci := 14) (q0 := 0) rfl rfl) rfl hl.1 rfl (Nat.le_of_ble_eq_true rfl) dX13_behind_3 (fun H locs hP1 hD1 hk1 hS => ?_)
  have hP := hP1
  have hD := hD1.weaken (fun k q _ h => hFc q.1 h)
  refine lv_if_eq (tgt := 16) hx hb dX13_behind_6 (by decide) (fun c4 => ?_) (fun c4 => ?_)
  · have h := nd_pos h c4
    refine lv_iconst (v := 0) hx hb dX13_behind_16 (by decide) ?_
    exact (db_X13_behind_17 C K) (0) s2 _ _ _ h hP hD hS (lv_sub hl [] rfl)
  · have h := nd_neg h c4
    refine lv_aload_n hx hb dX13_behind_9 rfl (lv_at hl 0 rfl) ?_
    obtain ⟨q5, s6, hq, h⟩ := nd_b2_e h
    have hPc := hP
    have hDc := hD
    have hKc := hK
    have hFc := nd_rs hD hS hA
    refine nd_cVi (As := []) (rest := []) (q := q5) (w' := dw_X13 a ac s6) ⟨hx, hb, hml, hown, hts⟩ (fun sz => dm_X13_taken l hlt dC dI a ac n  s2 hq sz) (cwV 0 hts gi_dm_X13_behind_1 rfl rfl rfl (by decide +kernel) ⟨Nat.le_of_ble_eq_true rfl, Nat.le_of_ble_eq_true rfl⟩) hPc hDc hKc hS hA hN (va_recv hKc hPc (ci := 14) (q0 := 0) rfl rfl) rfl hl.1 rfl (Nat.le_of_ble_eq_true rfl) dX13_behind_10 (fun H locs hP1 hD1 hk1 hS => ?_)
    have hP := hP1
    have hD := hD1.weaken (fun k q _ h => hFc q.1 h)
    refine lv_goto (tgt := 17) hx hb dX13_behind_13 (by decide) ?_
    exact (db_X13_behind_17 C K) (q5) s6 _ _ _ h hP hD hS (lv_sub hl [] rfl)
set_option maxHeartbeats 40000000 in
set_option maxRecDepth 100000 in
theorem dm_X13_behind (l : Launch) (hlt : l.stackTraces = false) (dC : Nat → ClassId) (dI : Nat → Nat → Nat) (a : Nat → Nat) (ac : Nat → ClassId) (n : Nat) (s0 : St) {r : Int32 × (St)} (h : df_X13_behind n s0 = some r) (sz : Nat) : Met l yX13_behind ow_dm_X13_behind ({ frames := 6, cells := 0, slots := 0, locals := 135 }) (va_Pc [.ref (a 0)] (fun U => U.heap.size = sz ∧ va_P (dC, dI) vwCl (dw_X13 a ac s0) U.heap ∧ va_K (dC, dI) vwCl (dk_X13 ac) U ∧ va_D (fun _ => True) (dw_X13 a ac s0) ∧ nv_E dI (va_A (dw_X13 a ac s0) sz) U)) (va_Qi (fun x _ => x = r.1) (fun (_ : Unit) t => va_P (dC, dI) vwCl (dw_X13 a ac r.2) t.heap ∧ va_K (dC, dI) vwCl (dk_X13 ac) t ∧ va_D (va_A (dw_X13 a ac s0) sz) (dw_X13 a ac r.2)) (va_A (dw_X13 a ac s0) sz)) 0 0 (va_A (dw_X13 a ac s0) sz) := by
  refine Met.ofW (cc := cX13_behind) (maxL := 1) (ret := (some .int)) (by decide) rfl ?_
  intro p e s m args below meth c s₁ B hml hv
  obtain ⟨rfl, hsz, hP, hK, hD0, hN⟩ := hv
  have hx := B.exec
  have hb := B.bytes
  have hr := B.returns
  have hts := atoms_spec (ws := ow_dm_X13_behind) B.pre
  have hown : s.vm.findClass RX13 = some m.cls := findClass_of_methodNamed B.named
  have hlocks := B.notSynchronized
  subst hsz
  have hD := hD0.self (sz := s.heap.size)
  generalize hAe : va_A (dw_X13 a ac s0) s.heap.size = A at hD hN ⊢
  have hA : ∀ q : Nat, s.heap.size ≤ q → A q := fun q h => by rw [← hAe]; exact Or.inr h
  have hl := lv_entry ([.ref (a 0)]) (n := 1) (Nat.le_of_ble_eq_true rfl)
  rw [lg_entry_eq]
  generalize (lg_sl ([.ref (a 0)]) ++ List.replicate (1 - (lg_sl ([.ref (a 0)])).length) Slot.unset).toArray = ls at hl ⊢
  have hl : lv_has ls 1 [(0, .ref (a 0))] := hl
  exact db_X13_behind_0 (dC := dC) (dI := dI) (a := a) (ac := ac) (n := n) (r := r) ⟨hlt, hx, hb, hml, hown, hts, hN, hA, hK⟩ (fun pc v τ H locs ls d z er hP hD hS => by subst er; exact W.zret (v := v) hx hb hr z (fun t ht hW => ⟨⟨v, (), rfl, rfl, by rw [ht]; exact hP, va_K.moved hW.alike hK, hD⟩, hS.F ht⟩) hS.2.2 d) s0 _ _ _ h hP hD va_S.rf (lv_sub hl [0] rfl)
def ow_dm_X13_not : List Cond := Cond.code yX13_not cX13_not 3 (some .int) :: ([Cond.methodLink RX13 419 yX13_blame, Cond.instanceMethod yX13_blame, Cond.selects RX13 yX13_blame yX13_blame, Cond.initialized RX13] ++ (ow_dm_X13_blame ++ []))
theorem gd_dm_X13_not : ∀ w ∈ ow_dm_X13_not, (w.onTables && w.keeps) = true ∨ ∃ ty, w = Cond.arrayClass ty := List.forall_mem_cons.mpr ⟨good_of_word rfl, List.forall_mem_append.mpr ⟨fun w h => good_of_word (List.all_eq_true.mp (by decide +kernel) w h), List.forall_mem_append.mpr ⟨gd_dm_X13_blame, fun _ h => nomatch h⟩⟩⟩
theorem gi_dm_X13_not_0 : GoodIn ow_dm_X13_not (wsV RX13 419 RX13 yX13_blame ow_dm_X13_blame) := goodIn_app (goodIn_of _ (by decide +kernel)) (fun w h => ⟨List.mem_cons_of_mem _ (List.mem_append_right _ (List.mem_append_left _ h)), gd_dm_X13_blame w h⟩)
def dj_X13_not_10 (p : Program) (l : Launch) (e : Env) (s : State) (m : MethodId) (args : Array Value) (below : List Frame) (meth : Method) (c : Code) (Q : State → Prop) (A : Nat → Prop) (dC : Nat → ClassId) (dI : Nat → Nat → Nat) (a : Nat → Nat) (ac : Nat → ClassId) (g : Int32 → (St) → Option (Int32 × (St))) (r : Int32 × (St)) : Prop := ∀ (x1 : Int32) (s0 : St) (H : Heap) (locs : List Loc) (ls : Array Slot), g x1 s0 = some r → va_P (dC, dI) vwCl (dw_X13 a ac s0) H → va_D A (dw_X13 a ac s0) → va_S A s.heap H locs → lv_has ls 3 [(1, .int x1)] → W p l e (headSpec ow_dm_X13_not ({ frames := 1, cells := 0, slots := 0, locals := 21 })).room s m args below meth c H locs 0 0 Q (F0 m 10 ls [])
def dj_X13_not_0 (p : Program) (l : Launch) (e : Env) (s : State) (m : MethodId) (args : Array Value) (below : List Frame) (meth : Method) (c : Code) (Q : State → Prop) (A : Nat → Prop) (dC : Nat → ClassId) (dI : Nat → Nat → Nat) (a : Nat → Nat) (ac : Nat → ClassId) (g : Int32 → Int32 → (St) → Option (Int32 × (St))) (r : Int32 × (St)) : Prop := ∀ (v0 : Int32) (v1 : Int32) (s0 : St) (H : Heap) (locs : List Loc) (ls : Array Slot), g v0 v1 s0 = some r → va_P (dC, dI) vwCl (dw_X13 a ac s0) H → va_D A (dw_X13 a ac s0) → va_S A s.heap H locs → lv_has ls 3 [(0, .ref (a 0)), (1, .int v0), (2, .int v1)] → W p l e (headSpec ow_dm_X13_not ({ frames := 1, cells := 0, slots := 0, locals := 21 })).room s m args below meth c H locs 0 0 Q (F0 m 0 ls [])
set_option maxHeartbeats 40000000 in
set_option maxRecDepth 100000 in
theorem db_X13_not_10 {p : Program} {l : Launch} {e : Env} {s : State} {m : MethodId} {args : Array Value} {below : List Frame} {meth : Method} {c : Code} {Q : State → Prop} {A : Nat → Prop} {dC : Nat → ClassId} {dI : Nat → Nat → Nat} {a : Nat → Nat} {ac : Nat → ClassId} {n : Nat} {r : Int32 × (St)} (C : nd_C p l s m args c A (dC, dI) cX13_not 3 RX13 ow_dm_X13_not (dk_X13 ac)) (K : nd_Ki p l e (headSpec ow_dm_X13_not ({ frames := 1, cells := 0, slots := 0, locals := 21 })).room s m args below meth c Q A (dC, dI) cX13_not .int (St) (dw_X13 a ac) r) : dj_X13_not_10 p l e s m args below meth c Q A dC dI a ac (df_X13_not_10 n) r := by
  obtain ⟨hlt, hx, hb, hml, hown, hts, hN, hA, hK⟩ := id C
  intro x1 s0 H locs ls h hP hD hS hl
  unfold df_X13_not_10 at h
  refine lv_iload_n hx hb dX13_not_10 rfl (lv_at hl 0 rfl) ?_
  exact K _ _ _ _ _ _ dX13_not_11 rfl (Option.some.inj h).symm hP hD hS
set_option maxHeartbeats 40000000 in
set_option maxRecDepth 100000 in
theorem db_X13_not_0 {p : Program} {l : Launch} {e : Env} {s : State} {m : MethodId} {args : Array Value} {below : List Frame} {meth : Method} {c : Code} {Q : State → Prop} {A : Nat → Prop} {dC : Nat → ClassId} {dI : Nat → Nat → Nat} {a : Nat → Nat} {ac : Nat → ClassId} {n : Nat} {r : Int32 × (St)} (C : nd_C p l s m args c A (dC, dI) cX13_not 3 RX13 ow_dm_X13_not (dk_X13 ac)) (K : nd_Ki p l e (headSpec ow_dm_X13_not ({ frames := 1, cells := 0, slots := 0, locals := 21 })).room s m args below meth c Q A (dC, dI) cX13_not .int (St) (dw_X13 a ac) r) : dj_X13_not_0 p l e s m args below meth c Q A dC dI a ac (df_X13_not_0 n) r := by
  obtain ⟨hlt, hx, hb, hml, hown, hts, hN, hA, hK⟩ := id C
  intro v0 v1 s0 H locs ls h hP hD hS hl
  unfold df_X13_not_0 at h
  refine lv_iload_n hx hb dX13_not_0 rfl (lv_at hl 1 rfl) ?_
  refine lv_iload_n hx hb dX13_not_1 rfl (lv_at hl 2 rfl) ?_
  refine lv_icmp_ne (tgt := 10) hx hb dX13_not_2 (by decide) (fun c1 => ?_) (fun c1 => ?_)
  · have h := nd_neg h c1
    exact (db_X13_not_10 C K) (v0) s0 _ _ _ h hP hD hS (lv_sub hl [1] rfl)
  · have h := nd_pos h c1
    refine lv_aload_n hx hb dX13_not_5 rfl (lv_at hl 0 rfl) ?_
    refine lv_iconst (v := 3) hx hb dX13_not_6 (by decide) ?_
    obtain ⟨s3, hq, h⟩ := nd_b1_e h
    have hPc := hP
    have hDc := hD
    have hKc := hK
    have hFc := nd_rs hD hS hA
    refine nd_cVv (As := [.int 3]) (rest := []) (w' := dw_X13 a ac s3) ⟨hx, hb, hml, hown, hts⟩ (fun sz => dm_X13_blame l hlt dC dI a ac n (3) s0 hq sz) (cwV 1 hts gi_dm_X13_not_0 rfl rfl rfl (by decide +kernel) ⟨Nat.le_of_ble_eq_true rfl, Nat.le_of_ble_eq_true rfl⟩) hPc hDc hKc hS hA hN (va_recv hKc hPc (ci := 14) (q0 := 0) rfl rfl) rfl hl.1 rfl (Nat.le_of_ble_eq_true rfl) dX13_not_7 (fun H locs hP1 hD1 hk1 hS => ?_)
    have hP := hP1
    have hD := hD1.weaken (fun k q _ h => hFc q.1 h)
    exact (db_X13_not_10 C K) (v0) s3 _ _ _ h hP hD hS (lv_sub hl [1] rfl)
set_option maxHeartbeats 40000000 in
set_option maxRecDepth 100000 in
theorem dm_X13_not (l : Launch) (hlt : l.stackTraces = false) (dC : Nat → ClassId) (dI : Nat → Nat → Nat) (a : Nat → Nat) (ac : Nat → ClassId) (n : Nat) (v0 : Int32) (v1 : Int32) (s0 : St) {r : Int32 × (St)} (h : df_X13_not n v0 v1 s0 = some r) (sz : Nat) : Met l yX13_not ow_dm_X13_not ({ frames := 1, cells := 0, slots := 0, locals := 21 }) (va_Pc [.ref (a 0), .int v0, .int v1] (fun U => U.heap.size = sz ∧ va_P (dC, dI) vwCl (dw_X13 a ac s0) U.heap ∧ va_K (dC, dI) vwCl (dk_X13 ac) U ∧ va_D (fun _ => True) (dw_X13 a ac s0) ∧ nv_E dI (va_A (dw_X13 a ac s0) sz) U)) (va_Qi (fun x _ => x = r.1) (fun (_ : Unit) t => va_P (dC, dI) vwCl (dw_X13 a ac r.2) t.heap ∧ va_K (dC, dI) vwCl (dk_X13 ac) t ∧ va_D (va_A (dw_X13 a ac s0) sz) (dw_X13 a ac r.2)) (va_A (dw_X13 a ac s0) sz)) 0 0 (va_A (dw_X13 a ac s0) sz) := by
  refine Met.ofW (cc := cX13_not) (maxL := 3) (ret := (some .int)) (by decide) rfl ?_
  intro p e s m args below meth c s₁ B hml hv
  obtain ⟨rfl, hsz, hP, hK, hD0, hN⟩ := hv
  have hx := B.exec
  have hb := B.bytes
  have hr := B.returns
  have hts := atoms_spec (ws := ow_dm_X13_not) B.pre
  have hown : s.vm.findClass RX13 = some m.cls := findClass_of_methodNamed B.named
  have hlocks := B.notSynchronized
  subst hsz
  have hD := hD0.self (sz := s.heap.size)
  generalize hAe : va_A (dw_X13 a ac s0) s.heap.size = A at hD hN ⊢
  have hA : ∀ q : Nat, s.heap.size ≤ q → A q := fun q h => by rw [← hAe]; exact Or.inr h
  have hl := lv_entry ([.ref (a 0), .int v0, .int v1]) (n := 3) (Nat.le_of_ble_eq_true rfl)
  rw [lg_entry_eq]
  generalize (lg_sl ([.ref (a 0), .int v0, .int v1]) ++ List.replicate (3 - (lg_sl ([.ref (a 0), .int v0, .int v1])).length) Slot.unset).toArray = ls at hl ⊢
  have hl : lv_has ls 3 [(0, .ref (a 0)), (1, .int v0), (2, .int v1)] := hl
  exact db_X13_not_0 (dC := dC) (dI := dI) (a := a) (ac := ac) (n := n) (r := r) ⟨hlt, hx, hb, hml, hown, hts, hN, hA, hK⟩ (fun pc v τ H locs ls d z er hP hD hS => by subst er; exact W.zret (v := v) hx hb hr z (fun t ht hW => ⟨⟨v, (), rfl, rfl, by rw [ht]; exact hP, va_K.moved hW.alike hK, hD⟩, hS.F ht⟩) hS.2.2 d) v0 v1 s0 _ _ _ h hP hD va_S.rf (lv_sub hl [0, 1, 2] rfl)
def ow_dm_X13_bracketed : List Cond := Cond.code yX13_bracketed cX13_bracketed 2 (some .int) :: ([Cond.methodLink RX13 506 yX13_needs, Cond.instanceMethod yX13_needs, Cond.selects RX13 yX13_needs yX13_needs, Cond.initialized RX13, Cond.fieldLink RX13 410 "TimeMachineModel$Assembler" "fault" "I", Cond.methodLink RX13 532 yX13_taken, Cond.instanceMethod yX13_taken, Cond.selects RX13 yX13_taken yX13_taken] ++ (u_ws RX13 TX13 37 ++ (ow_dm_X13_needs ++ (ow_dm_X13_taken ++ []))))
theorem gd_dm_X13_bracketed : ∀ w ∈ ow_dm_X13_bracketed, (w.onTables && w.keeps) = true ∨ ∃ ty, w = Cond.arrayClass ty := List.forall_mem_cons.mpr ⟨good_of_word rfl, List.forall_mem_append.mpr ⟨fun w h => good_of_word (List.all_eq_true.mp (by decide +kernel) w h), List.forall_mem_append.mpr ⟨gu_X13, List.forall_mem_append.mpr ⟨gd_dm_X13_needs, List.forall_mem_append.mpr ⟨gd_dm_X13_taken, fun _ h => nomatch h⟩⟩⟩⟩⟩
theorem hi_dm_X13_bracketed_X13 : ∀ w ∈ u_ws RX13 TX13 37, w ∈ ow_dm_X13_bracketed := fun w h => List.mem_cons_of_mem _ (List.mem_append_right _ (List.mem_append_left _ h))
theorem gi_dm_X13_bracketed_0 : GoodIn ow_dm_X13_bracketed (wsV RX13 506 RX13 yX13_needs ow_dm_X13_needs) := goodIn_app (goodIn_of _ (by decide +kernel)) (fun w h => ⟨List.mem_cons_of_mem _ (List.mem_append_right _ (List.mem_append_right _ (List.mem_append_left _ h))), gd_dm_X13_needs w h⟩)
theorem gi_dm_X13_bracketed_1 : GoodIn ow_dm_X13_bracketed (wsV RX13 532 RX13 yX13_taken ow_dm_X13_taken) := goodIn_app (goodIn_of _ (by decide +kernel)) (fun w h => ⟨List.mem_cons_of_mem _ (List.mem_append_right _ (List.mem_append_right _ (List.mem_append_right _ (List.mem_append_left _ h)))), gd_dm_X13_taken w h⟩)
def dj_X13_bracketed_32 (p : Program) (l : Launch) (e : Env) (s : State) (m : MethodId) (args : Array Value) (below : List Frame) (meth : Method) (c : Code) (Q : State → Prop) (A : Nat → Prop) (dC : Nat → ClassId) (dI : Nat → Nat → Nat) (a : Nat → Nat) (ac : Nat → ClassId) (g : Int32 → (St) → Option (Int32 × (St))) (r : Int32 × (St)) : Prop := ∀ (x1 : Int32) (s0 : St) (H : Heap) (locs : List Loc) (ls : Array Slot), g x1 s0 = some r → va_P (dC, dI) vwCl (dw_X13 a ac s0) H → va_D A (dw_X13 a ac s0) → va_S A s.heap H locs → lv_has ls 2 [(1, .int x1)] → W p l e (headSpec ow_dm_X13_bracketed ({ frames := 6, cells := 0, slots := 0, locals := 135 })).room s m args below meth c H locs 0 0 Q (F0 m 32 ls [])
def dj_X13_bracketed_17 (p : Program) (l : Launch) (e : Env) (s : State) (m : MethodId) (args : Array Value) (below : List Frame) (meth : Method) (c : Code) (Q : State → Prop) (A : Nat → Prop) (dC : Nat → ClassId) (dI : Nat → Nat → Nat) (a : Nat → Nat) (ac : Nat → ClassId) (g : Int32 → (St) → Option (Int32 × (St))) (r : Int32 × (St)) : Prop := ∀ (y0 : Int32) (s0 : St) (H : Heap) (locs : List Loc) (ls : Array Slot), g y0 s0 = some r → va_P (dC, dI) vwCl (dw_X13 a ac s0) H → va_D A (dw_X13 a ac s0) → va_S A s.heap H locs → lv_has ls 2 [(0, .ref (a 0))] → W p l e (headSpec ow_dm_X13_bracketed ({ frames := 6, cells := 0, slots := 0, locals := 135 })).room s m args below meth c H locs 0 0 Q (F0 m 17 ls [.int y0])
def dj_X13_bracketed_0 (p : Program) (l : Launch) (e : Env) (s : State) (m : MethodId) (args : Array Value) (below : List Frame) (meth : Method) (c : Code) (Q : State → Prop) (A : Nat → Prop) (dC : Nat → ClassId) (dI : Nat → Nat → Nat) (a : Nat → Nat) (ac : Nat → ClassId) (g : (St) → Option (Int32 × (St))) (r : Int32 × (St)) : Prop := ∀ (s0 : St) (H : Heap) (locs : List Loc) (ls : Array Slot), g s0 = some r → va_P (dC, dI) vwCl (dw_X13 a ac s0) H → va_D A (dw_X13 a ac s0) → va_S A s.heap H locs → lv_has ls 2 [(0, .ref (a 0))] → W p l e (headSpec ow_dm_X13_bracketed ({ frames := 6, cells := 0, slots := 0, locals := 135 })).room s m args below meth c H locs 0 0 Q (F0 m 0 ls [])
set_option maxHeartbeats 40000000 in
set_option maxRecDepth 100000 in
theorem db_X13_bracketed_32 {p : Program} {l : Launch} {e : Env} {s : State} {m : MethodId} {args : Array Value} {below : List Frame} {meth : Method} {c : Code} {Q : State → Prop} {A : Nat → Prop} {dC : Nat → ClassId} {dI : Nat → Nat → Nat} {a : Nat → Nat} {ac : Nat → ClassId} {n : Nat} {r : Int32 × (St)} (C : nd_C p l s m args c A (dC, dI) cX13_bracketed 2 RX13 ow_dm_X13_bracketed (dk_X13 ac)) (K : nd_Ki p l e (headSpec ow_dm_X13_bracketed ({ frames := 6, cells := 0, slots := 0, locals := 135 })).room s m args below meth c Q A (dC, dI) cX13_bracketed .int (St) (dw_X13 a ac) r) : dj_X13_bracketed_32 p l e s m args below meth c Q A dC dI a ac (df_X13_bracketed_32 n) r := by
  obtain ⟨hlt, hx, hb, hml, hown, hts, hN, hA, hK⟩ := id C
  intro x1 s0 H locs ls h hP hD hS hl
  unfold df_X13_bracketed_32 at h
  refine lv_iload_n hx hb dX13_bracketed_32 rfl (lv_at hl 0 rfl) ?_
  exact K _ _ _ _ _ _ dX13_bracketed_33 rfl (Option.some.inj h).symm hP hD hS
set_option maxHeartbeats 40000000 in
set_option maxRecDepth 100000 in
theorem db_X13_bracketed_17 {p : Program} {l : Launch} {e : Env} {s : State} {m : MethodId} {args : Array Value} {below : List Frame} {meth : Method} {c : Code} {Q : State → Prop} {A : Nat → Prop} {dC : Nat → ClassId} {dI : Nat → Nat → Nat} {a : Nat → Nat} {ac : Nat → ClassId} {n : Nat} {r : Int32 × (St)} (C : nd_C p l s m args c A (dC, dI) cX13_bracketed 2 RX13 ow_dm_X13_bracketed (dk_X13 ac)) (K : nd_Ki p l e (headSpec ow_dm_X13_bracketed ({ frames := 6, cells := 0, slots := 0, locals := 135 })).room s m args below meth c Q A (dC, dI) cX13_bracketed .int (St) (dw_X13 a ac) r) : dj_X13_bracketed_17 p l e s m args below meth c Q A dC dI a ac (df_X13_bracketed_17 n) r := by
  obtain ⟨hlt, hx, hb, hml, hown, hts, hN, hA, hK⟩ := id C
  intro y0 s0 H locs ls h hP hD hS hl
  unfold df_X13_bracketed_17 at h
  refine lv_istore_n (lv' := [(1, .int y0), (0, .ref (a 0))]) hx hb dX13_bracketed_17 rfl hl (by decide) rfl (fun ls hl => ?_)
  refine lv_aload_n hx hb dX13_bracketed_18 rfl (lv_at hl 1 rfl) ?_
  refine va_get (D := (dC, dI)) (ci := 14) (v := .int (sI s0 12)) (C := RX13) (T := TX13) (N := 37) hx hb hts hi_dm_X13_bracketed_X13 hown hK hP 0 rfl rfl 21 (by decide) (hts (.fieldLink RX13 410 "TimeMachineModel$Assembler" "fault" "I") (List.mem_of_getElem? (i := 5) rfl)) (fun _ h9 => h9) rfl dX13_bracketed_19 ?_
  refine lv_if_ne (tgt := 32) hx hb dX13_bracketed_22 (by decide) (fun c5 => ?_) (fun c5 => ?_)
  · have h := nd_neg h c5
    exact (db_X13_bracketed_32 C K) (y0) s0 _ _ _ h hP hD hS (lv_sub hl [0] rfl)
  · have h := nd_pos h c5
    refine lv_aload_n hx hb dX13_bracketed_25 rfl (lv_at hl 1 rfl) ?_
    refine lv_bipush (v := 41) hx hb dX13_bracketed_26 (by decide) ?_
    obtain ⟨q6, s7, hq, h⟩ := nd_b2_e h
    have hPc := hP
    have hDc := hD
    have hKc := hK
    have hFc := nd_rs hD hS hA
    refine nd_cVi (As := [.int 41]) (rest := []) (q := q6) (w' := dw_X13 a ac s7) ⟨hx, hb, hml, hown, hts⟩ (fun sz => dm_X13_needs l hlt dC dI a ac n (41) s0 hq sz) (cwV 1 hts gi_dm_X13_bracketed_0 rfl rfl rfl (by decide +kernel) ⟨Nat.le_of_ble_eq_true rfl, Nat.le_of_ble_eq_true rfl⟩) hPc hDc hKc hS hA hN (va_recv hKc hPc (ci := 14) (q0 := 0) rfl rfl) rfl hl.1 rfl (Nat.le_of_ble_eq_true rfl) dX13_bracketed_28 (fun H locs hP1 hD1 hk1 hS => ?_)
    have hP := hP1
    have hD := hD1.weaken (fun k q _ h => hFc q.1 h)
    refine lv_pop hx hb dX13_bracketed_31 rfl ?_
    exact (db_X13_bracketed_32 C K) (y0) s7 _ _ _ h hP hD hS (lv_sub hl [0] rfl)
set_option maxHeartbeats 40000000 in
set_option maxRecDepth 100000 in
theorem db_X13_bracketed_0 {p : Program} {l : Launch} {e : Env} {s : State} {m : MethodId} {args : Array Value} {below : List Frame} {meth : Method} {c : Code} {Q : State → Prop} {A : Nat → Prop} {dC : Nat → ClassId} {dI : Nat → Nat → Nat} {a : Nat → Nat} {ac : Nat → ClassId} {n : Nat} {r : Int32 × (St)} (C : nd_C p l s m args c A (dC, dI) cX13_bracketed 2 RX13 ow_dm_X13_bracketed (dk_X13 ac)) (K : nd_Ki p l e (headSpec ow_dm_X13_bracketed ({ frames := 6, cells := 0, slots := 0, locals := 135 })).room s m args below meth c Q A (dC, dI) cX13_bracketed .int (St) (dw_X13 a ac) r) : dj_X13_bracketed_0 p l e s m args below meth c Q A dC dI a ac (df_X13_bracketed_0 n) r := by
  obtain ⟨hlt, hx, hb, hml, hown, hts, hN, hA, hK⟩ := id C
  intro s0 H locs ls h hP hD hS hl
  unfold df_X13_bracketed_0 at h
  refine lv_aload_n hx hb dX13_bracketed_0 rfl (lv_at hl 0 rfl) ?_
  refine lv_bipush (v := 40) hx hb dX13_bracketed_1 (by decide) ?_
  obtain ⟨q1, s2, hq, h⟩ := nd_b2_e h
  have hPc := hP
  have hDc := hD
  have hKc := hK
  have hFc := nd_rs hD hS hA
  refine nd_cVi (As := [.int 40]) (rest := []) (q := q1) (w' := dw_X13 a ac s2) ⟨hx, hb, hml, hown, hts⟩ (fun sz => dm_X13_needs l hlt dC dI a ac n (40) s0 hq sz) (cwV 1 hts gi_dm_X13_bracketed_0 rfl rfl rfl (by decide +kernel) ⟨Nat.le_of_ble_eq_true rfl, Nat.le_of_ble_eq_true rfl⟩) hPc hDc hKc hS hA hN (va_recv hKc hPc (ci := 14) (q0 := 0) rfl rfl) rfl hl.1 rfl (Nat.le_of_ble_eq_true rfl) dX13_bracketed_3 (fun H locs hP1 hD1 hk1 hS => ?_)
  have hP := hP1
  have hD := hD1.weaken (fun k q _ h => hFc q.1 h)
  refine lv_if_eq (tgt := 16) hx hb dX13_bracketed_6 (by decide) (fun c4 => ?_) (fun c4 => ?_)
  · have h := nd_pos h c4
    refine lv_iconst (v := 0) hx hb dX13_bracketed_16 (by decide) ?_
    exact (db_X13_bracketed_17 C K) (0) s2 _ _ _ h hP hD hS (lv_sub hl [0] rfl)
  · have h := nd_neg h c4
    refine lv_aload_n hx hb dX13_bracketed_9 rfl (lv_at hl 0 rfl) ?_
    obtain ⟨q9, s10, hq, h⟩ := nd_b2_e h
    have hPc := hP
    have hDc := hD
    have hKc := hK
    have hFc := nd_rs hD hS hA
    refine nd_cVi (As := []) (rest := []) (q := q9) (w' := dw_X13 a ac s10) ⟨hx, hb, hml, hown, hts⟩ (fun sz => dm_X13_taken l hlt dC dI a ac n  s2 hq sz) (cwV 0 hts gi_dm_X13_bracketed_1 rfl rfl rfl (by decide +kernel) ⟨Nat.le_of_ble_eq_true rfl, Nat.le_of_ble_eq_true rfl⟩) hPc hDc hKc hS hA hN (va_recv hKc hPc (ci := 14) (q0 := 0) rfl rfl) rfl hl.1 rfl (Nat.le_of_ble_eq_true rfl) dX13_bracketed_10 (fun H locs hP1 hD1 hk1 hS => ?_)
    have hP := hP1
    have hD := hD1.weaken (fun k q _ h => hFc q.1 h)
    refine lv_goto (tgt := 17) hx hb dX13_bracketed_13 (by decide) ?_
    exact (db_X13_bracketed_17 C K) (q9) s10 _ _ _ h hP hD hS (lv_sub hl [0] rfl)
set_option maxHeartbeats 40000000 in
set_option maxRecDepth 100000 in
theorem dm_X13_bracketed (l : Launch) (hlt : l.stackTraces = false) (dC : Nat → ClassId) (dI : Nat → Nat → Nat) (a : Nat → Nat) (ac : Nat → ClassId) (n : Nat) (s0 : St) {r : Int32 × (St)} (h : df_X13_bracketed n s0 = some r) (sz : Nat) : Met l yX13_bracketed ow_dm_X13_bracketed ({ frames := 6, cells := 0, slots := 0, locals := 135 }) (va_Pc [.ref (a 0)] (fun U => U.heap.size = sz ∧ va_P (dC, dI) vwCl (dw_X13 a ac s0) U.heap ∧ va_K (dC, dI) vwCl (dk_X13 ac) U ∧ va_D (fun _ => True) (dw_X13 a ac s0) ∧ nv_E dI (va_A (dw_X13 a ac s0) sz) U)) (va_Qi (fun x _ => x = r.1) (fun (_ : Unit) t => va_P (dC, dI) vwCl (dw_X13 a ac r.2) t.heap ∧ va_K (dC, dI) vwCl (dk_X13 ac) t ∧ va_D (va_A (dw_X13 a ac s0) sz) (dw_X13 a ac r.2)) (va_A (dw_X13 a ac s0) sz)) 0 0 (va_A (dw_X13 a ac s0) sz) := by
  refine Met.ofW (cc := cX13_bracketed) (maxL := 2) (ret := (some .int)) (by decide) rfl ?_
  intro p e s m args below meth c s₁ B hml hv
  obtain ⟨rfl, hsz, hP, hK, hD0, hN⟩ := hv
  have hx := B.exec
  have hb := B.bytes
  have hr := B.returns
  have hts := atoms_spec (ws := ow_dm_X13_bracketed) B.pre
  have hown : s.vm.findClass RX13 = some m.cls := findClass_of_methodNamed B.named
  have hlocks := B.notSynchronized
  subst hsz
  have hD := hD0.self (sz := s.heap.size)
  generalize hAe : va_A (dw_X13 a ac s0) s.heap.size = A at hD hN ⊢
  have hA : ∀ q : Nat, s.heap.size ≤ q → A q := fun q h => by rw [← hAe]; exact Or.inr h
  have hl := lv_entry ([.ref (a 0)]) (n := 2) (Nat.le_of_ble_eq_true rfl)
  rw [lg_entry_eq]
  generalize (lg_sl ([.ref (a 0)]) ++ List.replicate (2 - (lg_sl ([.ref (a 0)])).length) Slot.unset).toArray = ls at hl ⊢
  have hl : lv_has ls 2 [(0, .ref (a 0))] := hl
  exact db_X13_bracketed_0 (dC := dC) (dI := dI) (a := a) (ac := ac) (n := n) (r := r) ⟨hlt, hx, hb, hml, hown, hts, hN, hA, hK⟩ (fun pc v τ H locs ls d z er hP hD hS => by subst er; exact W.zret (v := v) hx hb hr z (fun t ht hW => ⟨⟨v, (), rfl, rfl, by rw [ht]; exact hP, va_K.moved hW.alike hK, hD⟩, hS.F ht⟩) hS.2.2 d) s0 _ _ _ h hP hD va_S.rf (lv_sub hl [0] rfl)
def ow_dm_X13_isEnd : List Cond := Cond.code yX13_isEnd cX13_isEnd 2 (some .boolean) :: ([Cond.fieldLink RX13 374 "TimeMachineModel$Assembler" "at" "I", Cond.methodLink RX13 416 yX13_scan, Cond.instanceMethod yX13_scan, Cond.selects RX13 yX13_scan yX13_scan, Cond.initialized RX13, Cond.fieldLink RX13 365 "TimeMachineModel$Assembler" "token" "I"] ++ (u_ws RX13 TX13 37 ++ (ow_dm_X13_scan ++ [])))
theorem gd_dm_X13_isEnd : ∀ w ∈ ow_dm_X13_isEnd, (w.onTables && w.keeps) = true ∨ ∃ ty, w = Cond.arrayClass ty := List.forall_mem_cons.mpr ⟨good_of_word rfl, List.forall_mem_append.mpr ⟨fun w h => good_of_word (List.all_eq_true.mp (by decide +kernel) w h), List.forall_mem_append.mpr ⟨gu_X13, List.forall_mem_append.mpr ⟨gd_dm_X13_scan, fun _ h => nomatch h⟩⟩⟩⟩
theorem hi_dm_X13_isEnd_X13 : ∀ w ∈ u_ws RX13 TX13 37, w ∈ ow_dm_X13_isEnd := fun w h => List.mem_cons_of_mem _ (List.mem_append_right _ (List.mem_append_left _ h))
theorem gi_dm_X13_isEnd_0 : GoodIn ow_dm_X13_isEnd (wsV RX13 416 RX13 yX13_scan ow_dm_X13_scan) := goodIn_app (goodIn_of _ (by decide +kernel)) (fun w h => ⟨List.mem_cons_of_mem _ (List.mem_append_right _ (List.mem_append_right _ (List.mem_append_left _ h))), gd_dm_X13_scan w h⟩)
def dj_X13_isEnd_26 (p : Program) (l : Launch) (e : Env) (s : State) (m : MethodId) (args : Array Value) (below : List Frame) (meth : Method) (c : Code) (Q : State → Prop) (A : Nat → Prop) (dC : Nat → ClassId) (dI : Nat → Nat → Nat) (a : Nat → Nat) (ac : Nat → ClassId) (g : Int32 → (St) → Option (Int32 × (St))) (r : Int32 × (St)) : Prop := ∀ (y0 : Int32) (s0 : St) (H : Heap) (locs : List Loc) (ls : Array Slot), g y0 s0 = some r → va_P (dC, dI) vwCl (dw_X13 a ac s0) H → va_D A (dw_X13 a ac s0) → va_S A s.heap H locs → lv_has ls 2 [] → W p l e (headSpec ow_dm_X13_isEnd ({ frames := 5, cells := 0, slots := 0, locals := 114 })).room s m args below meth c H locs 0 0 Q (F0 m 26 ls [.int y0])
def dj_X13_isEnd_0 (p : Program) (l : Launch) (e : Env) (s : State) (m : MethodId) (args : Array Value) (below : List Frame) (meth : Method) (c : Code) (Q : State → Prop) (A : Nat → Prop) (dC : Nat → ClassId) (dI : Nat → Nat → Nat) (a : Nat → Nat) (ac : Nat → ClassId) (g : (St) → Option (Int32 × (St))) (r : Int32 × (St)) : Prop := ∀ (s0 : St) (H : Heap) (locs : List Loc) (ls : Array Slot), g s0 = some r → va_P (dC, dI) vwCl (dw_X13 a ac s0) H → va_D A (dw_X13 a ac s0) → va_S A s.heap H locs → lv_has ls 2 [(0, .ref (a 0))] → W p l e (headSpec ow_dm_X13_isEnd ({ frames := 5, cells := 0, slots := 0, locals := 114 })).room s m args below meth c H locs 0 0 Q (F0 m 0 ls [])
set_option maxHeartbeats 40000000 in
set_option maxRecDepth 100000 in
theorem db_X13_isEnd_26 {p : Program} {l : Launch} {e : Env} {s : State} {m : MethodId} {args : Array Value} {below : List Frame} {meth : Method} {c : Code} {Q : State → Prop} {A : Nat → Prop} {dC : Nat → ClassId} {dI : Nat → Nat → Nat} {a : Nat → Nat} {ac : Nat → ClassId} {n : Nat} {r : Int32 × (St)} (C : nd_C p l s m args c A (dC, dI) cX13_isEnd 2 RX13 ow_dm_X13_isEnd (dk_X13 ac)) (K : nd_Ki p l e (headSpec ow_dm_X13_isEnd ({ frames := 5, cells := 0, slots := 0, locals := 114 })).room s m args below meth c Q A (dC, dI) cX13_isEnd .boolean (St) (dw_X13 a ac) r) : dj_X13_isEnd_26 p l e s m args below meth c Q A dC dI a ac (df_X13_isEnd_26 n) r := by
  obtain ⟨hlt, hx, hb, hml, hown, hts, hN, hA, hK⟩ := id C
  intro y0 s0 H locs ls h hP hD hS hl
  unfold df_X13_isEnd_26 at h
  obtain ⟨n7, h⟩ := nd_z_e ⟨_, rfl⟩ h
  exact K _ _ _ _ _ _ dX13_isEnd_26 n7 (Option.some.inj h).symm hP hD hS
set_option maxHeartbeats 40000000 in
set_option maxRecDepth 100000 in
theorem db_X13_isEnd_0 {p : Program} {l : Launch} {e : Env} {s : State} {m : MethodId} {args : Array Value} {below : List Frame} {meth : Method} {c : Code} {Q : State → Prop} {A : Nat → Prop} {dC : Nat → ClassId} {dI : Nat → Nat → Nat} {a : Nat → Nat} {ac : Nat → ClassId} {n : Nat} {r : Int32 × (St)} (C : nd_C p l s m args c A (dC, dI) cX13_isEnd 2 RX13 ow_dm_X13_isEnd (dk_X13 ac)) (K : nd_Ki p l e (headSpec ow_dm_X13_isEnd ({ frames := 5, cells := 0, slots := 0, locals := 114 })).room s m args below meth c Q A (dC, dI) cX13_isEnd .boolean (St) (dw_X13 a ac) r) : dj_X13_isEnd_0 p l e s m args below meth c Q A dC dI a ac (df_X13_isEnd_0 n) r := by
  obtain ⟨hlt, hx, hb, hml, hown, hts, hN, hA, hK⟩ := id C
  intro s0 H locs ls h hP hD hS hl
  unfold df_X13_isEnd_0 at h
  refine lv_aload_n hx hb dX13_isEnd_0 rfl (lv_at hl 0 rfl) ?_
  refine va_get (D := (dC, dI)) (ci := 14) (v := .int (sI s0 7)) (C := RX13) (T := TX13) (N := 37) hx hb hts hi_dm_X13_isEnd_X13 hown hK hP 0 rfl rfl 16 (by decide) (hts (.fieldLink RX13 374 "TimeMachineModel$Assembler" "at" "I") (List.mem_of_getElem? (i := 1) rfl)) (fun _ h9 => h9) rfl dX13_isEnd_1 ?_
  refine lv_topi (fun z1 ez1 => ?_)
  have h := nd_at h ez1
  refine lv_istore_n (lv' := [(1, .int z1), (0, .ref (a 0))]) hx hb dX13_isEnd_4 rfl hl (by decide) rfl (fun ls hl => ?_)
  refine lv_aload_n hx hb dX13_isEnd_5 rfl (lv_at hl 1 rfl) ?_
  obtain ⟨s3, hq, h⟩ := nd_b1_e h
  have hPc := hP
  have hDc := hD
  have hKc := hK
  have hFc := nd_rs hD hS hA
  refine nd_cVv (As := []) (rest := []) (w' := dw_X13 a ac s3) ⟨hx, hb, hml, hown, hts⟩ (fun sz => dm_X13_scan l hlt dC dI a ac n  s0 hq sz) (cwV 0 hts gi_dm_X13_isEnd_0 rfl rfl rfl (by decide +kernel) ⟨Nat.le_of_ble_eq_true rfl, Nat.le_of_ble_eq_true rfl⟩) hPc hDc hKc hS hA hN (va_recv hKc hPc (ci := 14) (q0 := 0) rfl rfl) rfl hl.1 rfl (Nat.le_of_ble_eq_true rfl) dX13_isEnd_6 (fun H locs hP1 hD1 hk1 hS => ?_)
  have hP := hP1
  have hD := hD1.weaken (fun k q _ h => hFc q.1 h)
  refine lv_aload_n hx hb dX13_isEnd_9 rfl (lv_at hl 1 rfl) ?_
  refine lv_iload_n hx hb dX13_isEnd_10 rfl (lv_at hl 0 rfl) ?_
  refine va_put (D := (dC, dI)) (ci := 14) (v := .int z1) (ty := .int) (C := RX13) (T := TX13) (N := 37) hx hb hts hi_dm_X13_isEnd_X13 tyX13 tyX13_ok nmX13 hown hK hP hD hS 0 rfl rfl 16 (by decide) (hts (.fieldLink RX13 374 "TimeMachineModel$Assembler" "at" "I") (List.mem_of_getElem? (i := 1) rfl)) (fun _ h9 => h9) rfl (by decide +kernel) rfl rfl (Nat.le_of_ble_eq_true rfl) dX13_isEnd_11 (fun H locs hP hD hS => ?_)
  obtain ⟨s5, es5, h⟩ := nd_let_e h
  have hP : va_P (dC, dI) vwCl (dw_X13 a ac s5) H := by rw [es5]; exact hP
  have hD : va_D A (dw_X13 a ac s5) := by rw [es5]; exact hD
  refine lv_aload_n hx hb dX13_isEnd_14 rfl (lv_at hl 1 rfl) ?_
  refine va_get (D := (dC, dI)) (ci := 14) (v := .int (sI s5 8)) (C := RX13) (T := TX13) (N := 37) hx hb hts hi_dm_X13_isEnd_X13 hown hK hP 0 rfl rfl 17 (by decide) (hts (.fieldLink RX13 365 "TimeMachineModel$Assembler" "token" "I") (List.mem_of_getElem? (i := 6) rfl)) (fun _ h9 => h9) rfl dX13_isEnd_15 ?_
  refine lv_if_ne (tgt := 25) hx hb dX13_isEnd_18 (by decide) (fun c6 => ?_) (fun c6 => ?_)
  · have h := nd_neg h c6
    refine lv_iconst (v := 0) hx hb dX13_isEnd_25 (by decide) ?_
    exact (db_X13_isEnd_26 C K) (0) s5 _ _ _ h hP hD hS (lv_sub hl [] rfl)
  · have h := nd_pos h c6
    refine lv_iconst (v := 1) hx hb dX13_isEnd_21 (by decide) ?_
    refine lv_goto (tgt := 26) hx hb dX13_isEnd_22 (by decide) ?_
    exact (db_X13_isEnd_26 C K) (1) s5 _ _ _ h hP hD hS (lv_sub hl [] rfl)
set_option maxHeartbeats 40000000 in
set_option maxRecDepth 100000 in
theorem dm_X13_isEnd (l : Launch) (hlt : l.stackTraces = false) (dC : Nat → ClassId) (dI : Nat → Nat → Nat) (a : Nat → Nat) (ac : Nat → ClassId) (n : Nat) (s0 : St) {r : Int32 × (St)} (h : df_X13_isEnd n s0 = some r) (sz : Nat) : Met l yX13_isEnd ow_dm_X13_isEnd ({ frames := 5, cells := 0, slots := 0, locals := 114 }) (va_Pc [.ref (a 0)] (fun U => U.heap.size = sz ∧ va_P (dC, dI) vwCl (dw_X13 a ac s0) U.heap ∧ va_K (dC, dI) vwCl (dk_X13 ac) U ∧ va_D (fun _ => True) (dw_X13 a ac s0) ∧ nv_E dI (va_A (dw_X13 a ac s0) sz) U)) (va_Qi (fun x _ => x = r.1) (fun (_ : Unit) t => va_P (dC, dI) vwCl (dw_X13 a ac r.2) t.heap ∧ va_K (dC, dI) vwCl (dk_X13 ac) t ∧ va_D (va_A (dw_X13 a ac s0) sz) (dw_X13 a ac r.2)) (va_A (dw_X13 a ac s0) sz)) 0 0 (va_A (dw_X13 a ac s0) sz) := by
  refine Met.ofW (cc := cX13_isEnd) (maxL := 2) (ret := (some .boolean)) (by decide) rfl ?_
  intro p e s m args below meth c s₁ B hml hv
  obtain ⟨rfl, hsz, hP, hK, hD0, hN⟩ := hv
  have hx := B.exec
  have hb := B.bytes
  have hr := B.returns
  have hts := atoms_spec (ws := ow_dm_X13_isEnd) B.pre
  have hown : s.vm.findClass RX13 = some m.cls := findClass_of_methodNamed B.named
  have hlocks := B.notSynchronized
  subst hsz
  have hD := hD0.self (sz := s.heap.size)
  generalize hAe : va_A (dw_X13 a ac s0) s.heap.size = A at hD hN ⊢
  have hA : ∀ q : Nat, s.heap.size ≤ q → A q := fun q h => by rw [← hAe]; exact Or.inr h
  have hl := lv_entry ([.ref (a 0)]) (n := 2) (Nat.le_of_ble_eq_true rfl)
  rw [lg_entry_eq]
  generalize (lg_sl ([.ref (a 0)]) ++ List.replicate (2 - (lg_sl ([.ref (a 0)])).length) Slot.unset).toArray = ls at hl ⊢
  have hl : lv_has ls 2 [(0, .ref (a 0))] := hl
  exact db_X13_isEnd_0 (dC := dC) (dI := dI) (a := a) (ac := ac) (n := n) (r := r) ⟨hlt, hx, hb, hml, hown, hts, hN, hA, hK⟩ (fun pc v τ H locs ls d z er hP hD hS => by subst er; exact W.zret (v := v) hx hb hr z (fun t ht hW => ⟨⟨v, (), rfl, rfl, by rw [ht]; exact hP, va_K.moved hW.alike hK, hD⟩, hS.F ht⟩) hS.2.2 d) s0 _ _ _ h hP hD va_S.rf (lv_sub hl [0] rfl)
def ow_dm_X13_put : List Cond := Cond.code yX13_put cX13_put 2 none :: ([Cond.fieldLink RX13 522 "TimeMachineModel$Assembler" "mode" "I", Cond.fieldLink RX13 541 "TimeMachineModel$Assembler" "count" "I", Cond.fieldLink RX13 535 "TimeMachineModel$Assembler" "out" "[I", Cond.fieldLink RX13 538 "TimeMachineModel$Assembler" "begin" "I"] ++ (u_ws RX13 TX13 37 ++ []))
theorem gd_dm_X13_put : ∀ w ∈ ow_dm_X13_put, (w.onTables && w.keeps) = true ∨ ∃ ty, w = Cond.arrayClass ty := List.forall_mem_cons.mpr ⟨good_of_word rfl, List.forall_mem_append.mpr ⟨fun w h => good_of_word (List.all_eq_true.mp (by decide +kernel) w h), List.forall_mem_append.mpr ⟨gu_X13, fun _ h => nomatch h⟩⟩⟩
theorem hi_dm_X13_put_X13 : ∀ w ∈ u_ws RX13 TX13 37, w ∈ ow_dm_X13_put := fun w h => List.mem_cons_of_mem _ (List.mem_append_right _ (List.mem_append_left _ h))
def dj_X13_put_27 (p : Program) (l : Launch) (e : Env) (s : State) (m : MethodId) (args : Array Value) (below : List Frame) (meth : Method) (c : Code) (Q : State → Prop) (A : Nat → Prop) (dC : Nat → ClassId) (dI : Nat → Nat → Nat) (a : Nat → Nat) (ac : Nat → ClassId) (g : (St) → Option (St)) (r : St) : Prop := ∀ (s0 : St) (H : Heap) (locs : List Loc) (ls : Array Slot), g s0 = some r → va_P (dC, dI) vwCl (dw_X13 a ac s0) H → va_D A (dw_X13 a ac s0) → va_S A s.heap H locs → lv_has ls 2 [(0, .ref (a 0))] → W p l e (headSpec ow_dm_X13_put ({ frames := 0, cells := 0, slots := 0, locals := 0 })).room s m args below meth c H locs 0 0 Q (F0 m 27 ls [])
def dj_X13_put_0 (p : Program) (l : Launch) (e : Env) (s : State) (m : MethodId) (args : Array Value) (below : List Frame) (meth : Method) (c : Code) (Q : State → Prop) (A : Nat → Prop) (dC : Nat → ClassId) (dI : Nat → Nat → Nat) (a : Nat → Nat) (ac : Nat → ClassId) (g : Int32 → (St) → Option (St)) (r : St) : Prop := ∀ (v0 : Int32) (s0 : St) (H : Heap) (locs : List Loc) (ls : Array Slot), g v0 s0 = some r → va_P (dC, dI) vwCl (dw_X13 a ac s0) H → va_D A (dw_X13 a ac s0) → va_S A s.heap H locs → lv_has ls 2 [(0, .ref (a 0)), (1, .int v0)] → W p l e (headSpec ow_dm_X13_put ({ frames := 0, cells := 0, slots := 0, locals := 0 })).room s m args below meth c H locs 0 0 Q (F0 m 0 ls [])
set_option maxHeartbeats 40000000 in
set_option maxRecDepth 100000 in
theorem db_X13_put_27 {p : Program} {l : Launch} {e : Env} {s : State} {m : MethodId} {args : Array Value} {below : List Frame} {meth : Method} {c : Code} {Q : State → Prop} {A : Nat → Prop} {dC : Nat → ClassId} {dI : Nat → Nat → Nat} {a : Nat → Nat} {ac : Nat → ClassId} {n : Nat} {r : St} (C : nd_C p l s m args c A (dC, dI) cX13_put 2 RX13 ow_dm_X13_put (dk_X13 ac)) (K : nd_Kv p l e (headSpec ow_dm_X13_put ({ frames := 0, cells := 0, slots := 0, locals := 0 })).room s m args below meth c Q A (dC, dI) cX13_put (St) (dw_X13 a ac) r) : dj_X13_put_27 p l e s m args below meth c Q A dC dI a ac (df_X13_put_27 n) r := by
  obtain ⟨hlt, hx, hb, hml, hown, hts, hN, hA, hK⟩ := id C
  intro s0 H locs ls h hP hD hS hl
  unfold df_X13_put_27 at h
  refine lv_aload_n hx hb dX13_put_27 rfl (lv_at hl 0 rfl) ?_
  refine lv_dup hx hb dX13_put_28 rfl ?_
  refine va_get (D := (dC, dI)) (ci := 14) (v := .int (sI s0 18)) (C := RX13) (T := TX13) (N := 37) hx hb hts hi_dm_X13_put_X13 hown hK hP 0 rfl rfl 27 (by decide) (hts (.fieldLink RX13 541 "TimeMachineModel$Assembler" "count" "I") (List.mem_of_getElem? (i := 2) rfl)) (fun _ h9 => h9) rfl dX13_put_29 ?_
  refine lv_iconst (v := 1) hx hb dX13_put_32 (by decide) ?_
  refine lv_iadd hx hb dX13_put_33 ?_
  refine va_put (D := (dC, dI)) (ci := 14) (v := .int ((sI s0 18) + 1)) (ty := .int) (C := RX13) (T := TX13) (N := 37) hx hb hts hi_dm_X13_put_X13 tyX13 tyX13_ok nmX13 hown hK hP hD hS 0 rfl rfl 27 (by decide) (hts (.fieldLink RX13 541 "TimeMachineModel$Assembler" "count" "I") (List.mem_of_getElem? (i := 2) rfl)) (fun _ h9 => h9) rfl (by decide +kernel) rfl rfl (Nat.le_of_ble_eq_true rfl) dX13_put_34 (fun H locs hP hD hS => ?_)
  obtain ⟨s2, es2, h⟩ := nd_let_e h
  have hP : va_P (dC, dI) vwCl (dw_X13 a ac s2) H := by rw [es2]; exact hP
  have hD : va_D A (dw_X13 a ac s2) := by rw [es2]; exact hD
  exact K _ _ _ _ _ dX13_put_37 (Option.some.inj h).symm hP hD hS
set_option maxHeartbeats 40000000 in
set_option maxRecDepth 100000 in
theorem db_X13_put_0 {p : Program} {l : Launch} {e : Env} {s : State} {m : MethodId} {args : Array Value} {below : List Frame} {meth : Method} {c : Code} {Q : State → Prop} {A : Nat → Prop} {dC : Nat → ClassId} {dI : Nat → Nat → Nat} {a : Nat → Nat} {ac : Nat → ClassId} {n : Nat} {r : St} (C : nd_C p l s m args c A (dC, dI) cX13_put 2 RX13 ow_dm_X13_put (dk_X13 ac)) (K : nd_Kv p l e (headSpec ow_dm_X13_put ({ frames := 0, cells := 0, slots := 0, locals := 0 })).room s m args below meth c Q A (dC, dI) cX13_put (St) (dw_X13 a ac) r) : dj_X13_put_0 p l e s m args below meth c Q A dC dI a ac (df_X13_put_0 n) r := by
  obtain ⟨hlt, hx, hb, hml, hown, hts, hN, hA, hK⟩ := id C
  intro v0 s0 H locs ls h hP hD hS hl
  unfold df_X13_put_0 at h
  refine lv_aload_n hx hb dX13_put_0 rfl (lv_at hl 0 rfl) ?_
  refine va_get (D := (dC, dI)) (ci := 14) (v := .int (sI s0 15)) (C := RX13) (T := TX13) (N := 37) hx hb hts hi_dm_X13_put_X13 hown hK hP 0 rfl rfl 24 (by decide) (hts (.fieldLink RX13 522 "TimeMachineModel$Assembler" "mode" "I") (List.mem_of_getElem? (i := 1) rfl)) (fun _ h9 => h9) rfl dX13_put_1 ?_
  refine lv_iconst (v := 3) hx hb dX13_put_4 (by decide) ?_
  refine lv_icmp_ne (tgt := 27) hx hb dX13_put_5 (by decide) (fun c1 => ?_) (fun c1 => ?_)
  · have h := nd_neg h c1
    exact (db_X13_put_27 C K)  s0 _ _ _ h hP hD hS (lv_sub hl [0] rfl)
  · have h := nd_pos h c1
    refine lv_aload_n hx hb dX13_put_8 rfl (lv_at hl 0 rfl) ?_
    obtain ⟨o3, h⟩ := nd_o_e h
    refine va_get (D := (dC, dI)) (ci := 14) (v := .ref (a 11)) (C := RX13) (T := TX13) (N := 37) hx hb hts hi_dm_X13_put_X13 hown hK hP 0 rfl rfl 29 (by decide) (hts (.fieldLink RX13 535 "TimeMachineModel$Assembler" "out" "[I") (List.mem_of_getElem? (i := 3) rfl)) (fun _ h9 => h9) (congrArg (fun z => some (va_rf (Option.map a z))) o3) dX13_put_9 ?_
    refine lv_aload_n hx hb dX13_put_12 rfl (lv_at hl 0 rfl) ?_
    refine va_get (D := (dC, dI)) (ci := 14) (v := .int (sI s0 19)) (C := RX13) (T := TX13) (N := 37) hx hb hts hi_dm_X13_put_X13 hown hK hP 0 rfl rfl 28 (by decide) (hts (.fieldLink RX13 538 "TimeMachineModel$Assembler" "begin" "I") (List.mem_of_getElem? (i := 4) rfl)) (fun _ h9 => h9) rfl dX13_put_13 ?_
    refine lv_aload_n hx hb dX13_put_16 rfl (lv_at hl 0 rfl) ?_
    refine va_get (D := (dC, dI)) (ci := 14) (v := .int (sI s0 18)) (C := RX13) (T := TX13) (N := 37) hx hb hts hi_dm_X13_put_X13 hown hK hP 0 rfl rfl 27 (by decide) (hts (.fieldLink RX13 541 "TimeMachineModel$Assembler" "count" "I") (List.mem_of_getElem? (i := 2) rfl)) (fun _ h9 => h9) rfl dX13_put_17 ?_
    refine lv_iadd hx hb dX13_put_20 ?_
    refine lv_iload_n hx hb dX13_put_21 rfl (lv_at hl 1 rfl) ?_
    refine lv_sipush (v := 255) hx hb dX13_put_22 (by decide) ?_
    refine lv_iand hx hb dX13_put_25 ?_
    obtain ⟨i4, h⟩ := nd_ck_e h
    refine va_iast (i := ((sI s0 19) + (sI s0 18))) (x := (v0 &&& 255)) hx hb hK hP hD hS 11 10 rfl rfl i4 dX13_put_26 (fun H locs hP hD hS => ?_)
    obtain ⟨s5, es5, h⟩ := nd_let_e h
    have hP : va_P (dC, dI) vwCl (dw_X13 a ac s5) H := by rw [es5]; exact hP
    have hD : va_D A (dw_X13 a ac s5) := by rw [es5]; exact hD
    exact (db_X13_put_27 C K)  s5 _ _ _ h hP hD hS (lv_sub hl [0] rfl)
set_option maxHeartbeats 40000000 in
set_option maxRecDepth 100000 in
theorem dm_X13_put (l : Launch) (hlt : l.stackTraces = false) (dC : Nat → ClassId) (dI : Nat → Nat → Nat) (a : Nat → Nat) (ac : Nat → ClassId) (n : Nat) (v0 : Int32) (s0 : St) {r : St} (h : df_X13_put n v0 s0 = some r) (sz : Nat) : Met l yX13_put ow_dm_X13_put ({ frames := 0, cells := 0, slots := 0, locals := 0 }) (va_Pc [.ref (a 0), .int v0] (fun U => U.heap.size = sz ∧ va_P (dC, dI) vwCl (dw_X13 a ac s0) U.heap ∧ va_K (dC, dI) vwCl (dk_X13 ac) U ∧ va_D (fun _ => True) (dw_X13 a ac s0) ∧ nv_E dI (va_A (dw_X13 a ac s0) sz) U)) (va_Qv (fun _ => True) (fun (_ : Unit) t => va_P (dC, dI) vwCl (dw_X13 a ac r) t.heap ∧ va_K (dC, dI) vwCl (dk_X13 ac) t ∧ va_D (va_A (dw_X13 a ac s0) sz) (dw_X13 a ac r)) (va_A (dw_X13 a ac s0) sz)) 0 0 (va_A (dw_X13 a ac s0) sz) := by
  refine Met.ofW (cc := cX13_put) (maxL := 2) (ret := none) (by decide) rfl ?_
  intro p e s m args below meth c s₁ B hml hv
  obtain ⟨rfl, hsz, hP, hK, hD0, hN⟩ := hv
  have hx := B.exec
  have hb := B.bytes
  have hr := B.returns
  have hts := atoms_spec (ws := ow_dm_X13_put) B.pre
  have hown : s.vm.findClass RX13 = some m.cls := findClass_of_methodNamed B.named
  have hlocks := B.notSynchronized
  subst hsz
  have hD := hD0.self (sz := s.heap.size)
  generalize hAe : va_A (dw_X13 a ac s0) s.heap.size = A at hD hN ⊢
  have hA : ∀ q : Nat, s.heap.size ≤ q → A q := fun q h => by rw [← hAe]; exact Or.inr h
  have hl := lv_entry ([.ref (a 0), .int v0]) (n := 2) (Nat.le_of_ble_eq_true rfl)
  rw [lg_entry_eq]
  generalize (lg_sl ([.ref (a 0), .int v0]) ++ List.replicate (2 - (lg_sl ([.ref (a 0), .int v0])).length) Slot.unset).toArray = ls at hl ⊢
  have hl : lv_has ls 2 [(0, .ref (a 0)), (1, .int v0)] := hl
  exact db_X13_put_0 (dC := dC) (dI := dI) (a := a) (ac := ac) (n := n) (r := r) ⟨hlt, hx, hb, hml, hown, hts, hN, hA, hK⟩ (fun pc τ H locs ls d er hP hD hS => by subst er; exact W.vret hx hb hr (fun t ht hW => ⟨⟨(), rfl, trivial, by rw [ht]; exact hP, va_K.moved hW.alike hK, hD⟩, hS.F ht⟩) hS.2.2 d) v0 s0 _ _ _ h hP hD va_S.rf (lv_sub hl [0, 1] rfl)
def ow_dm_X13_half : List Cond := Cond.code yX13_half cX13_half 2 none :: ([Cond.methodLink RX13 544 yX13_put, Cond.instanceMethod yX13_put, Cond.selects RX13 yX13_put yX13_put, Cond.initialized RX13] ++ (ow_dm_X13_put ++ []))
theorem gd_dm_X13_half : ∀ w ∈ ow_dm_X13_half, (w.onTables && w.keeps) = true ∨ ∃ ty, w = Cond.arrayClass ty := List.forall_mem_cons.mpr ⟨good_of_word rfl, List.forall_mem_append.mpr ⟨fun w h => good_of_word (List.all_eq_true.mp (by decide +kernel) w h), List.forall_mem_append.mpr ⟨gd_dm_X13_put, fun _ h => nomatch h⟩⟩⟩
theorem gi_dm_X13_half_0 : GoodIn ow_dm_X13_half (wsV RX13 544 RX13 yX13_put ow_dm_X13_put) := goodIn_app (goodIn_of _ (by decide +kernel)) (fun w h => ⟨List.mem_cons_of_mem _ (List.mem_append_right _ (List.mem_append_left _ h)), gd_dm_X13_put w h⟩)
def dj_X13_half_0 (p : Program) (l : Launch) (e : Env) (s : State) (m : MethodId) (args : Array Value) (below : List Frame) (meth : Method) (c : Code) (Q : State → Prop) (A : Nat → Prop) (dC : Nat → ClassId) (dI : Nat → Nat → Nat) (a : Nat → Nat) (ac : Nat → ClassId) (g : Int32 → (St) → Option (St)) (r : St) : Prop := ∀ (v0 : Int32) (s0 : St) (H : Heap) (locs : List Loc) (ls : Array Slot), g v0 s0 = some r → va_P (dC, dI) vwCl (dw_X13 a ac s0) H → va_D A (dw_X13 a ac s0) → va_S A s.heap H locs → lv_has ls 2 [(0, .ref (a 0)), (1, .int v0)] → W p l e (headSpec ow_dm_X13_half ({ frames := 1, cells := 0, slots := 0, locals := 21 })).room s m args below meth c H locs 0 0 Q (F0 m 0 ls [])
set_option maxHeartbeats 40000000 in
set_option maxRecDepth 100000 in
theorem db_X13_half_0 {p : Program} {l : Launch} {e : Env} {s : State} {m : MethodId} {args : Array Value} {below : List Frame} {meth : Method} {c : Code} {Q : State → Prop} {A : Nat → Prop} {dC : Nat → ClassId} {dI : Nat → Nat → Nat} {a : Nat → Nat} {ac : Nat → ClassId} {n : Nat} {r : St} (C : nd_C p l s m args c A (dC, dI) cX13_half 2 RX13 ow_dm_X13_half (dk_X13 ac)) (K : nd_Kv p l e (headSpec ow_dm_X13_half ({ frames := 1, cells := 0, slots := 0, locals := 21 })).room s m args below meth c Q A (dC, dI) cX13_half (St) (dw_X13 a ac) r) : dj_X13_half_0 p l e s m args below meth c Q A dC dI a ac (df_X13_half_0 n) r := by
  obtain ⟨hlt, hx, hb, hml, hown, hts, hN, hA, hK⟩ := id C
  intro v0 s0 H locs ls h hP hD hS hl
  unfold df_X13_half_0 at h
  refine lv_aload_n hx hb dX13_half_0 rfl (lv_at hl 0 rfl) ?_
  refine lv_iload_n hx hb dX13_half_1 rfl (lv_at hl 1 rfl) ?_
  obtain ⟨s2, hq, h⟩ := nd_b1_e h
  have hPc := hP
  have hDc := hD
  have hKc := hK
  have hFc := nd_rs hD hS hA
  refine nd_cVv (As := [.int v0]) (rest := []) (w' := dw_X13 a ac s2) ⟨hx, hb, hml, hown, hts⟩ (fun sz => dm_X13_put l hlt dC dI a ac n (v0) s0 hq sz) (cwV 1 hts gi_dm_X13_half_0 rfl rfl rfl (by decide +kernel) ⟨Nat.le_of_ble_eq_true rfl, Nat.le_of_ble_eq_true rfl⟩) hPc hDc hKc hS hA hN (va_recv hKc hPc (ci := 14) (q0 := 0) rfl rfl) rfl hl.1 rfl (Nat.le_of_ble_eq_true rfl) dX13_half_2 (fun H locs hP1 hD1 hk1 hS => ?_)
  have hP := hP1
  have hD := hD1.weaken (fun k q _ h => hFc q.1 h)
  refine lv_aload_n hx hb dX13_half_5 rfl (lv_at hl 0 rfl) ?_
  refine lv_iload_n hx hb dX13_half_6 rfl (lv_at hl 1 rfl) ?_
  refine lv_bipush (v := 8) hx hb dX13_half_7 (by decide) ?_
  refine lv_ishr hx hb dX13_half_9 ?_
  obtain ⟨s5, hq, h⟩ := nd_b1_e h
  have hPc := hP
  have hDc := hD
  have hKc := hK
  have hFc := nd_rs hD hS hA
  refine nd_cVv (As := [.int ((v0 : Int32) >>> ((8 : Int32) &&& 31))]) (rest := []) (w' := dw_X13 a ac s5) ⟨hx, hb, hml, hown, hts⟩ (fun sz => dm_X13_put l hlt dC dI a ac n (((v0 : Int32) >>> ((8 : Int32) &&& 31))) s2 hq sz) (cwV 1 hts gi_dm_X13_half_0 rfl rfl rfl (by decide +kernel) ⟨Nat.le_of_ble_eq_true rfl, Nat.le_of_ble_eq_true rfl⟩) hPc hDc hKc hS hA hN (va_recv hKc hPc (ci := 14) (q0 := 0) rfl rfl) rfl hl.1 rfl (Nat.le_of_ble_eq_true rfl) dX13_half_10 (fun H locs hP1 hD1 hk1 hS => ?_)
  have hP := hP1
  have hD := hD1.weaken (fun k q _ h => hFc q.1 h)
  exact K _ _ _ _ _ dX13_half_13 (Option.some.inj h).symm hP hD hS
set_option maxHeartbeats 40000000 in
set_option maxRecDepth 100000 in
theorem dm_X13_half (l : Launch) (hlt : l.stackTraces = false) (dC : Nat → ClassId) (dI : Nat → Nat → Nat) (a : Nat → Nat) (ac : Nat → ClassId) (n : Nat) (v0 : Int32) (s0 : St) {r : St} (h : df_X13_half n v0 s0 = some r) (sz : Nat) : Met l yX13_half ow_dm_X13_half ({ frames := 1, cells := 0, slots := 0, locals := 21 }) (va_Pc [.ref (a 0), .int v0] (fun U => U.heap.size = sz ∧ va_P (dC, dI) vwCl (dw_X13 a ac s0) U.heap ∧ va_K (dC, dI) vwCl (dk_X13 ac) U ∧ va_D (fun _ => True) (dw_X13 a ac s0) ∧ nv_E dI (va_A (dw_X13 a ac s0) sz) U)) (va_Qv (fun _ => True) (fun (_ : Unit) t => va_P (dC, dI) vwCl (dw_X13 a ac r) t.heap ∧ va_K (dC, dI) vwCl (dk_X13 ac) t ∧ va_D (va_A (dw_X13 a ac s0) sz) (dw_X13 a ac r)) (va_A (dw_X13 a ac s0) sz)) 0 0 (va_A (dw_X13 a ac s0) sz) := by
  refine Met.ofW (cc := cX13_half) (maxL := 2) (ret := none) (by decide) rfl ?_
  intro p e s m args below meth c s₁ B hml hv
  obtain ⟨rfl, hsz, hP, hK, hD0, hN⟩ := hv
  have hx := B.exec
  have hb := B.bytes
  have hr := B.returns
  have hts := atoms_spec (ws := ow_dm_X13_half) B.pre
  have hown : s.vm.findClass RX13 = some m.cls := findClass_of_methodNamed B.named
  have hlocks := B.notSynchronized
  subst hsz
  have hD := hD0.self (sz := s.heap.size)
  generalize hAe : va_A (dw_X13 a ac s0) s.heap.size = A at hD hN ⊢
  have hA : ∀ q : Nat, s.heap.size ≤ q → A q := fun q h => by rw [← hAe]; exact Or.inr h
  have hl := lv_entry ([.ref (a 0), .int v0]) (n := 2) (Nat.le_of_ble_eq_true rfl)
  rw [lg_entry_eq]
  generalize (lg_sl ([.ref (a 0), .int v0]) ++ List.replicate (2 - (lg_sl ([.ref (a 0), .int v0])).length) Slot.unset).toArray = ls at hl ⊢
  have hl : lv_has ls 2 [(0, .ref (a 0)), (1, .int v0)] := hl
  exact db_X13_half_0 (dC := dC) (dI := dI) (a := a) (ac := ac) (n := n) (r := r) ⟨hlt, hx, hb, hml, hown, hts, hN, hA, hK⟩ (fun pc τ H locs ls d er hP hD hS => by subst er; exact W.vret hx hb hr (fun t ht hW => ⟨⟨(), rfl, trivial, by rw [ht]; exact hP, va_K.moved hW.alike hK, hD⟩, hS.F ht⟩) hS.2.2 d) v0 s0 _ _ _ h hP hD va_S.rf (lv_sub hl [0, 1] rfl)
def ow_dm_X13_word : List Cond := Cond.code yX13_word cX13_word 2 none :: ([Cond.methodLink RX13 547 yX13_half, Cond.instanceMethod yX13_half, Cond.selects RX13 yX13_half yX13_half, Cond.initialized RX13] ++ (ow_dm_X13_half ++ []))
theorem gd_dm_X13_word : ∀ w ∈ ow_dm_X13_word, (w.onTables && w.keeps) = true ∨ ∃ ty, w = Cond.arrayClass ty := List.forall_mem_cons.mpr ⟨good_of_word rfl, List.forall_mem_append.mpr ⟨fun w h => good_of_word (List.all_eq_true.mp (by decide +kernel) w h), List.forall_mem_append.mpr ⟨gd_dm_X13_half, fun _ h => nomatch h⟩⟩⟩
theorem gi_dm_X13_word_0 : GoodIn ow_dm_X13_word (wsV RX13 547 RX13 yX13_half ow_dm_X13_half) := goodIn_app (goodIn_of _ (by decide +kernel)) (fun w h => ⟨List.mem_cons_of_mem _ (List.mem_append_right _ (List.mem_append_left _ h)), gd_dm_X13_half w h⟩)
def dj_X13_word_0 (p : Program) (l : Launch) (e : Env) (s : State) (m : MethodId) (args : Array Value) (below : List Frame) (meth : Method) (c : Code) (Q : State → Prop) (A : Nat → Prop) (dC : Nat → ClassId) (dI : Nat → Nat → Nat) (a : Nat → Nat) (ac : Nat → ClassId) (g : Int32 → (St) → Option (St)) (r : St) : Prop := ∀ (v0 : Int32) (s0 : St) (H : Heap) (locs : List Loc) (ls : Array Slot), g v0 s0 = some r → va_P (dC, dI) vwCl (dw_X13 a ac s0) H → va_D A (dw_X13 a ac s0) → va_S A s.heap H locs → lv_has ls 2 [(0, .ref (a 0)), (1, .int v0)] → W p l e (headSpec ow_dm_X13_word ({ frames := 2, cells := 0, slots := 0, locals := 42 })).room s m args below meth c H locs 0 0 Q (F0 m 0 ls [])
set_option maxHeartbeats 40000000 in
set_option maxRecDepth 100000 in
theorem db_X13_word_0 {p : Program} {l : Launch} {e : Env} {s : State} {m : MethodId} {args : Array Value} {below : List Frame} {meth : Method} {c : Code} {Q : State → Prop} {A : Nat → Prop} {dC : Nat → ClassId} {dI : Nat → Nat → Nat} {a : Nat → Nat} {ac : Nat → ClassId} {n : Nat} {r : St} (C : nd_C p l s m args c A (dC, dI) cX13_word 2 RX13 ow_dm_X13_word (dk_X13 ac)) (K : nd_Kv p l e (headSpec ow_dm_X13_word ({ frames := 2, cells := 0, slots := 0, locals := 42 })).room s m args below meth c Q A (dC, dI) cX13_word (St) (dw_X13 a ac) r) : dj_X13_word_0 p l e s m args below meth c Q A dC dI a ac (df_X13_word_0 n) r := by
  obtain ⟨hlt, hx, hb, hml, hown, hts, hN, hA, hK⟩ := id C
  intro v0 s0 H locs ls h hP hD hS hl
  unfold df_X13_word_0 at h
  refine lv_aload_n hx hb dX13_word_0 rfl (lv_at hl 0 rfl) ?_
  refine lv_iload_n hx hb dX13_word_1 rfl (lv_at hl 1 rfl) ?_
  obtain ⟨s2, hq, h⟩ := nd_b1_e h
  have hPc := hP
  have hDc := hD
  have hKc := hK
  have hFc := nd_rs hD hS hA
  refine nd_cVv (As := [.int v0]) (rest := []) (w' := dw_X13 a ac s2) ⟨hx, hb, hml, hown, hts⟩ (fun sz => dm_X13_half l hlt dC dI a ac n (v0) s0 hq sz) (cwV 1 hts gi_dm_X13_word_0 rfl rfl rfl (by decide +kernel) ⟨Nat.le_of_ble_eq_true rfl, Nat.le_of_ble_eq_true rfl⟩) hPc hDc hKc hS hA hN (va_recv hKc hPc (ci := 14) (q0 := 0) rfl rfl) rfl hl.1 rfl (Nat.le_of_ble_eq_true rfl) dX13_word_2 (fun H locs hP1 hD1 hk1 hS => ?_)
  have hP := hP1
  have hD := hD1.weaken (fun k q _ h => hFc q.1 h)
  refine lv_aload_n hx hb dX13_word_5 rfl (lv_at hl 0 rfl) ?_
  refine lv_iload_n hx hb dX13_word_6 rfl (lv_at hl 1 rfl) ?_
  refine lv_bipush (v := 16) hx hb dX13_word_7 (by decide) ?_
  refine lv_ishr hx hb dX13_word_9 ?_
  obtain ⟨s5, hq, h⟩ := nd_b1_e h
  have hPc := hP
  have hDc := hD
  have hKc := hK
  have hFc := nd_rs hD hS hA
  refine nd_cVv (As := [.int ((v0 : Int32) >>> ((16 : Int32) &&& 31))]) (rest := []) (w' := dw_X13 a ac s5) ⟨hx, hb, hml, hown, hts⟩ (fun sz => dm_X13_half l hlt dC dI a ac n (((v0 : Int32) >>> ((16 : Int32) &&& 31))) s2 hq sz) (cwV 1 hts gi_dm_X13_word_0 rfl rfl rfl (by decide +kernel) ⟨Nat.le_of_ble_eq_true rfl, Nat.le_of_ble_eq_true rfl⟩) hPc hDc hKc hS hA hN (va_recv hKc hPc (ci := 14) (q0 := 0) rfl rfl) rfl hl.1 rfl (Nat.le_of_ble_eq_true rfl) dX13_word_10 (fun H locs hP1 hD1 hk1 hS => ?_)
  have hP := hP1
  have hD := hD1.weaken (fun k q _ h => hFc q.1 h)
  exact K _ _ _ _ _ dX13_word_13 (Option.some.inj h).symm hP hD hS
set_option maxHeartbeats 40000000 in
set_option maxRecDepth 100000 in
theorem dm_X13_word (l : Launch) (hlt : l.stackTraces = false) (dC : Nat → ClassId) (dI : Nat → Nat → Nat) (a : Nat → Nat) (ac : Nat → ClassId) (n : Nat) (v0 : Int32) (s0 : St) {r : St} (h : df_X13_word n v0 s0 = some r) (sz : Nat) : Met l yX13_word ow_dm_X13_word ({ frames := 2, cells := 0, slots := 0, locals := 42 }) (va_Pc [.ref (a 0), .int v0] (fun U => U.heap.size = sz ∧ va_P (dC, dI) vwCl (dw_X13 a ac s0) U.heap ∧ va_K (dC, dI) vwCl (dk_X13 ac) U ∧ va_D (fun _ => True) (dw_X13 a ac s0) ∧ nv_E dI (va_A (dw_X13 a ac s0) sz) U)) (va_Qv (fun _ => True) (fun (_ : Unit) t => va_P (dC, dI) vwCl (dw_X13 a ac r) t.heap ∧ va_K (dC, dI) vwCl (dk_X13 ac) t ∧ va_D (va_A (dw_X13 a ac s0) sz) (dw_X13 a ac r)) (va_A (dw_X13 a ac s0) sz)) 0 0 (va_A (dw_X13 a ac s0) sz) := by
  refine Met.ofW (cc := cX13_word) (maxL := 2) (ret := none) (by decide) rfl ?_
  intro p e s m args below meth c s₁ B hml hv
  obtain ⟨rfl, hsz, hP, hK, hD0, hN⟩ := hv
  have hx := B.exec
  have hb := B.bytes
  have hr := B.returns
  have hts := atoms_spec (ws := ow_dm_X13_word) B.pre
  have hown : s.vm.findClass RX13 = some m.cls := findClass_of_methodNamed B.named
  have hlocks := B.notSynchronized
  subst hsz
  have hD := hD0.self (sz := s.heap.size)
  generalize hAe : va_A (dw_X13 a ac s0) s.heap.size = A at hD hN ⊢
  have hA : ∀ q : Nat, s.heap.size ≤ q → A q := fun q h => by rw [← hAe]; exact Or.inr h
  have hl := lv_entry ([.ref (a 0), .int v0]) (n := 2) (Nat.le_of_ble_eq_true rfl)
  rw [lg_entry_eq]
  generalize (lg_sl ([.ref (a 0), .int v0]) ++ List.replicate (2 - (lg_sl ([.ref (a 0), .int v0])).length) Slot.unset).toArray = ls at hl ⊢
  have hl : lv_has ls 2 [(0, .ref (a 0)), (1, .int v0)] := hl
  exact db_X13_word_0 (dC := dC) (dI := dI) (a := a) (ac := ac) (n := n) (r := r) ⟨hlt, hx, hb, hml, hown, hts, hN, hA, hK⟩ (fun pc τ H locs ls d er hP hD hS => by subst er; exact W.vret hx hb hr (fun t ht hW => ⟨⟨(), rfl, trivial, by rw [ht]; exact hP, va_K.moved hW.alike hK, hD⟩, hS.F ht⟩) hS.2.2 d) v0 s0 _ _ _ h hP hD va_S.rf (lv_sub hl [0, 1] rfl)
def ow_dm_X13_bits : List Cond := Cond.code yX13_bits cX13_bits 4 (some .int) :: ([] ++ [])
theorem gd_dm_X13_bits : ∀ w ∈ ow_dm_X13_bits, (w.onTables && w.keeps) = true ∨ ∃ ty, w = Cond.arrayClass ty := List.forall_mem_cons.mpr ⟨good_of_word rfl, List.forall_mem_append.mpr ⟨fun w h => good_of_word (List.all_eq_true.mp (by decide +kernel) w h), fun _ h => nomatch h⟩⟩
def dj_X13_bits_0 (p : Program) (l : Launch) (e : Env) (s : State) (m : MethodId) (args : Array Value) (below : List Frame) (meth : Method) (c : Code) (Q : State → Prop) (A : Nat → Prop) (dC : Nat → ClassId) (dI : Nat → Nat → Nat) (a : Nat → Nat) (ac : Nat → ClassId) (g : Int32 → Int32 → Int32 → Int32 → (Unit) → Option (Int32 × (Unit))) (r : Int32 × (Unit)) : Prop := ∀ (v0 : Int32) (v1 : Int32) (v2 : Int32) (v3 : Int32) (s0 : Unit) (H : Heap) (locs : List Loc) (ls : Array Slot), g v0 v1 v2 v3 s0 = some r → va_P (dC, dI) vwCl (dw_P a ac s0) H → va_D A (dw_P a ac s0) → va_S A s.heap H locs → lv_has ls 4 [(0, .int v0), (1, .int v1), (2, .int v2), (3, .int v3)] → W p l e (headSpec ow_dm_X13_bits ({ frames := 0, cells := 0, slots := 0, locals := 0 })).room s m args below meth c H locs 0 0 Q (F0 m 0 ls [])
set_option maxHeartbeats 40000000 in
set_option maxRecDepth 100000 in
theorem db_X13_bits_0 {p : Program} {l : Launch} {e : Env} {s : State} {m : MethodId} {args : Array Value} {below : List Frame} {meth : Method} {c : Code} {Q : State → Prop} {A : Nat → Prop} {dC : Nat → ClassId} {dI : Nat → Nat → Nat} {a : Nat → Nat} {ac : Nat → ClassId} {n : Nat} {r : Int32 × (Unit)} (C : nd_C p l s m args c A (dC, dI) cX13_bits 4 RX13 ow_dm_X13_bits (dk_P ac)) (K : nd_Ki p l e (headSpec ow_dm_X13_bits ({ frames := 0, cells := 0, slots := 0, locals := 0 })).room s m args below meth c Q A (dC, dI) cX13_bits .int (Unit) (dw_P a ac) r) : dj_X13_bits_0 p l e s m args below meth c Q A dC dI a ac (df_X13_bits_0 n) r := by
  obtain ⟨hlt, hx, hb, hml, hown, hts, hN, hA, hK⟩ := id C
  intro v0 v1 v2 v3 s0 H locs ls h hP hD hS hl
  unfold df_X13_bits_0 at h
  refine lv_iload_n hx hb dX13_bits_0 rfl (lv_at hl 0 rfl) ?_
  refine lv_iload_n hx hb dX13_bits_1 rfl (lv_at hl 2 rfl) ?_
  refine lv_iushr hx hb dX13_bits_2 rfl ?_
  refine lv_iconst (v := 1) hx hb dX13_bits_3 (by decide) ?_
  refine lv_iload_n hx hb dX13_bits_4 rfl (lv_at hl 1 rfl) ?_
  refine lv_iload_n hx hb dX13_bits_5 rfl (lv_at hl 2 rfl) ?_
  refine lv_isub hx hb dX13_bits_6 ?_
  refine lv_iconst (v := 1) hx hb dX13_bits_7 (by decide) ?_
  refine lv_iadd hx hb dX13_bits_8 ?_
  refine lv_ishl hx hb dX13_bits_9 ?_
  refine lv_iconst (v := 1) hx hb dX13_bits_10 (by decide) ?_
  refine lv_isub hx hb dX13_bits_11 ?_
  refine lv_iand hx hb dX13_bits_12 ?_
  refine lv_iload_n hx hb dX13_bits_13 rfl (lv_at hl 3 rfl) ?_
  refine lv_ishl hx hb dX13_bits_14 ?_
  exact K _ _ _ _ _ _ dX13_bits_15 rfl (Option.some.inj h).symm hP hD hS
set_option maxHeartbeats 40000000 in
set_option maxRecDepth 100000 in
theorem dm_X13_bits (l : Launch) (hlt : l.stackTraces = false) (dC : Nat → ClassId) (dI : Nat → Nat → Nat) (a : Nat → Nat) (ac : Nat → ClassId) (n : Nat) (v0 : Int32) (v1 : Int32) (v2 : Int32) (v3 : Int32) (s0 : Unit) {r : Int32 × (Unit)} (h : df_X13_bits n v0 v1 v2 v3 s0 = some r) (sz : Nat) : Met l yX13_bits ow_dm_X13_bits ({ frames := 0, cells := 0, slots := 0, locals := 0 }) (va_Pc [.int v0, .int v1, .int v2, .int v3] (fun U => U.heap.size = sz ∧ va_P (dC, dI) vwCl (dw_P a ac s0) U.heap ∧ va_K (dC, dI) vwCl (dk_P ac) U ∧ va_D (fun _ => True) (dw_P a ac s0) ∧ nv_E dI (va_A (dw_P a ac s0) sz) U)) (va_Qi (fun x _ => x = r.1) (fun (_ : Unit) t => va_P (dC, dI) vwCl (dw_P a ac r.2) t.heap ∧ va_K (dC, dI) vwCl (dk_P ac) t ∧ va_D (va_A (dw_P a ac s0) sz) (dw_P a ac r.2)) (va_A (dw_P a ac s0) sz)) 0 0 (va_A (dw_P a ac s0) sz) := by
  refine Met.ofW (cc := cX13_bits) (maxL := 4) (ret := (some .int)) (by decide) rfl ?_
  intro p e s m args below meth c s₁ B hml hv
  obtain ⟨rfl, hsz, hP, hK, hD0, hN⟩ := hv
  have hx := B.exec
  have hb := B.bytes
  have hr := B.returns
  have hts := atoms_spec (ws := ow_dm_X13_bits) B.pre
  have hown : s.vm.findClass RX13 = some m.cls := findClass_of_methodNamed B.named
  have hlocks := B.notSynchronized
  subst hsz
  have hD := hD0.self (sz := s.heap.size)
  generalize hAe : va_A (dw_P a ac s0) s.heap.size = A at hD hN ⊢
  have hA : ∀ q : Nat, s.heap.size ≤ q → A q := fun q h => by rw [← hAe]; exact Or.inr h
  have hl := lv_entry ([.int v0, .int v1, .int v2, .int v3]) (n := 4) (Nat.le_of_ble_eq_true rfl)
  rw [lg_entry_eq]
  generalize (lg_sl ([.int v0, .int v1, .int v2, .int v3]) ++ List.replicate (4 - (lg_sl ([.int v0, .int v1, .int v2, .int v3])).length) Slot.unset).toArray = ls at hl ⊢
  have hl : lv_has ls 4 [(0, .int v0), (1, .int v1), (2, .int v2), (3, .int v3)] := hl
  exact db_X13_bits_0 (dC := dC) (dI := dI) (a := a) (ac := ac) (n := n) (r := r) ⟨hlt, hx, hb, hml, hown, hts, hN, hA, hK⟩ (fun pc v τ H locs ls d z er hP hD hS => by subst er; exact W.zret (v := v) hx hb hr z (fun t ht hW => ⟨⟨v, (), rfl, rfl, by rw [ht]; exact hP, va_K.moved hW.alike hK, hD⟩, hS.F ht⟩) hS.2.2 d) v0 v1 v2 v3 s0 _ _ _ h hP hD va_S.rf (lv_sub hl [0, 1, 2, 3] rfl)
def ow_dm_X13_branchBits : List Cond := Cond.code yX13_branchBits cX13_branchBits 1 (some .int) :: ([Cond.methodLink RX13 550 yX13_bits, Cond.static yX13_bits, Cond.initialized RX13] ++ (ow_dm_X13_bits ++ []))
theorem gd_dm_X13_branchBits : ∀ w ∈ ow_dm_X13_branchBits, (w.onTables && w.keeps) = true ∨ ∃ ty, w = Cond.arrayClass ty := List.forall_mem_cons.mpr ⟨good_of_word rfl, List.forall_mem_append.mpr ⟨fun w h => good_of_word (List.all_eq_true.mp (by decide +kernel) w h), List.forall_mem_append.mpr ⟨gd_dm_X13_bits, fun _ h => nomatch h⟩⟩⟩
theorem gi_dm_X13_branchBits_0 : GoodIn ow_dm_X13_branchBits (wsS RX13 550 yX13_bits ow_dm_X13_bits) := goodIn_app (goodIn_of _ (by decide +kernel)) (fun w h => ⟨List.mem_cons_of_mem _ (List.mem_append_right _ (List.mem_append_left _ h)), gd_dm_X13_bits w h⟩)
def dj_X13_branchBits_0 (p : Program) (l : Launch) (e : Env) (s : State) (m : MethodId) (args : Array Value) (below : List Frame) (meth : Method) (c : Code) (Q : State → Prop) (A : Nat → Prop) (dC : Nat → ClassId) (dI : Nat → Nat → Nat) (a : Nat → Nat) (ac : Nat → ClassId) (g : Int32 → (Unit) → Option (Int32 × (Unit))) (r : Int32 × (Unit)) : Prop := ∀ (v0 : Int32) (s0 : Unit) (H : Heap) (locs : List Loc) (ls : Array Slot), g v0 s0 = some r → va_P (dC, dI) vwCl (dw_P a ac s0) H → va_D A (dw_P a ac s0) → va_S A s.heap H locs → lv_has ls 1 [(0, .int v0)] → W p l e (headSpec ow_dm_X13_branchBits ({ frames := 1, cells := 0, slots := 0, locals := 23 })).room s m args below meth c H locs 0 0 Q (F0 m 0 ls [])
set_option maxHeartbeats 40000000 in
set_option maxRecDepth 100000 in
theorem db_X13_branchBits_0 {p : Program} {l : Launch} {e : Env} {s : State} {m : MethodId} {args : Array Value} {below : List Frame} {meth : Method} {c : Code} {Q : State → Prop} {A : Nat → Prop} {dC : Nat → ClassId} {dI : Nat → Nat → Nat} {a : Nat → Nat} {ac : Nat → ClassId} {n : Nat} {r : Int32 × (Unit)} (C : nd_C p l s m args c A (dC, dI) cX13_branchBits 1 RX13 ow_dm_X13_branchBits (dk_P ac)) (K : nd_Ki p l e (headSpec ow_dm_X13_branchBits ({ frames := 1, cells := 0, slots := 0, locals := 23 })).room s m args below meth c Q A (dC, dI) cX13_branchBits .int (Unit) (dw_P a ac) r) : dj_X13_branchBits_0 p l e s m args below meth c Q A dC dI a ac (df_X13_branchBits_0 n) r := by
  obtain ⟨hlt, hx, hb, hml, hown, hts, hN, hA, hK⟩ := id C
  intro v0 s0 H locs ls h hP hD hS hl
  unfold df_X13_branchBits_0 at h
  refine lv_iload_n hx hb dX13_branchBits_0 rfl (lv_at hl 0 rfl) ?_
  refine lv_bipush (v := 12) hx hb dX13_branchBits_1 (by decide) ?_
  refine lv_bipush (v := 12) hx hb dX13_branchBits_3 (by decide) ?_
  refine lv_bipush (v := 31) hx hb dX13_branchBits_5 (by decide) ?_
  obtain ⟨q1, s2, hq, h⟩ := nd_b2_e h
  have hPc : va_P (dC, dI) vwCl (dw_P a ac ()) H := nd_p0
  have hDc : va_D A (dw_P a ac ()) := nd_d0
  have hKc : va_K (dC, dI) vwCl (dk_P ac) s := nd_y0 hK
  have hFc : ∀ q, va_A (dw_P a ac ()) H.size q → A q := nd_r0 hS hA
  refine nd_cSi (As := [.int v0, .int 12, .int 12, .int 31]) (rest := []) (q := q1) (w' := dw_P a ac s2) ⟨hx, hb, hml, hown, hts⟩ (fun sz => dm_X13_bits l hlt dC dI a ac n (v0) (12) (12) (31) () hq sz) (cwS 4 hts gi_dm_X13_branchBits_0 rfl rfl rfl (by decide +kernel) ⟨Nat.le_of_ble_eq_true rfl, Nat.le_of_ble_eq_true rfl⟩) hPc hDc hKc hS hA hN rfl hl.1 rfl (Nat.le_of_ble_eq_true rfl) dX13_branchBits_7 (fun H locs hP1 hD1 hk1 hS => ?_)
  have hP := nd_n0 hP hk1
  refine lv_iload_n hx hb dX13_branchBits_10 rfl (lv_at hl 0 rfl) ?_
  refine lv_bipush (v := 10) hx hb dX13_branchBits_11 (by decide) ?_
  refine lv_iconst (v := 5) hx hb dX13_branchBits_13 (by decide) ?_
  refine lv_bipush (v := 25) hx hb dX13_branchBits_14 (by decide) ?_
  obtain ⟨q4, s5, hq, h⟩ := nd_b2_e h
  have hPc : va_P (dC, dI) vwCl (dw_P a ac ()) H := nd_p0
  have hDc : va_D A (dw_P a ac ()) := nd_d0
  have hKc : va_K (dC, dI) vwCl (dk_P ac) s := nd_y0 hK
  have hFc : ∀ q, va_A (dw_P a ac ()) H.size q → A q := nd_r0 hS hA
  refine nd_cSi (As := [.int v0, .int 10, .int 5, .int 25]) (rest := [.int q1]) (q := q4) (w' := dw_P a ac s5) ⟨hx, hb, hml, hown, hts⟩ (fun sz => dm_X13_bits l hlt dC dI a ac n (v0) (10) (5) (25) () hq sz) (cwS 4 hts gi_dm_X13_branchBits_0 rfl rfl rfl (by decide +kernel) ⟨Nat.le_of_ble_eq_true rfl, Nat.le_of_ble_eq_true rfl⟩) hPc hDc hKc hS hA hN rfl hl.1 rfl (Nat.le_of_ble_eq_true rfl) dX13_branchBits_16 (fun H locs hP1 hD1 hk1 hS => ?_)
  have hP := nd_n0 hP hk1
  refine lv_ior hx hb dX13_branchBits_19 ?_
  refine lv_iload_n hx hb dX13_branchBits_20 rfl (lv_at hl 0 rfl) ?_
  refine lv_iconst (v := 4) hx hb dX13_branchBits_21 (by decide) ?_
  refine lv_iconst (v := 1) hx hb dX13_branchBits_22 (by decide) ?_
  refine lv_bipush (v := 8) hx hb dX13_branchBits_23 (by decide) ?_
  obtain ⟨q7, s8, hq, h⟩ := nd_b2_e h
  have hPc : va_P (dC, dI) vwCl (dw_P a ac ()) H := nd_p0
  have hDc : va_D A (dw_P a ac ()) := nd_d0
  have hKc : va_K (dC, dI) vwCl (dk_P ac) s := nd_y0 hK
  have hFc : ∀ q, va_A (dw_P a ac ()) H.size q → A q := nd_r0 hS hA
  refine nd_cSi (As := [.int v0, .int 4, .int 1, .int 8]) (rest := [.int (q1 ||| q4)]) (q := q7) (w' := dw_P a ac s8) ⟨hx, hb, hml, hown, hts⟩ (fun sz => dm_X13_bits l hlt dC dI a ac n (v0) (4) (1) (8) () hq sz) (cwS 4 hts gi_dm_X13_branchBits_0 rfl rfl rfl (by decide +kernel) ⟨Nat.le_of_ble_eq_true rfl, Nat.le_of_ble_eq_true rfl⟩) hPc hDc hKc hS hA hN rfl hl.1 rfl (Nat.le_of_ble_eq_true rfl) dX13_branchBits_25 (fun H locs hP1 hD1 hk1 hS => ?_)
  have hP := nd_n0 hP hk1
  refine lv_ior hx hb dX13_branchBits_28 ?_
  refine lv_iload_n hx hb dX13_branchBits_29 rfl (lv_at hl 0 rfl) ?_
  refine lv_bipush (v := 11) hx hb dX13_branchBits_30 (by decide) ?_
  refine lv_bipush (v := 11) hx hb dX13_branchBits_32 (by decide) ?_
  refine lv_bipush (v := 7) hx hb dX13_branchBits_34 (by decide) ?_
  obtain ⟨q10, s11, hq, h⟩ := nd_b2_e h
  have hPc : va_P (dC, dI) vwCl (dw_P a ac ()) H := nd_p0
  have hDc : va_D A (dw_P a ac ()) := nd_d0
  have hKc : va_K (dC, dI) vwCl (dk_P ac) s := nd_y0 hK
  have hFc : ∀ q, va_A (dw_P a ac ()) H.size q → A q := nd_r0 hS hA
  refine nd_cSi (As := [.int v0, .int 11, .int 11, .int 7]) (rest := [.int ((q1 ||| q4) ||| q7)]) (q := q10) (w' := dw_P a ac s11) ⟨hx, hb, hml, hown, hts⟩ (fun sz => dm_X13_bits l hlt dC dI a ac n (v0) (11) (11) (7) () hq sz) (cwS 4 hts gi_dm_X13_branchBits_0 rfl rfl rfl (by decide +kernel) ⟨Nat.le_of_ble_eq_true rfl, Nat.le_of_ble_eq_true rfl⟩) hPc hDc hKc hS hA hN rfl hl.1 rfl (Nat.le_of_ble_eq_true rfl) dX13_branchBits_36 (fun H locs hP1 hD1 hk1 hS => ?_)
  have hP := nd_n0 hP hk1
  refine lv_ior hx hb dX13_branchBits_39 ?_
  exact K _ _ _ _ _ _ dX13_branchBits_40 rfl (Option.some.inj h).symm hP hD hS
set_option maxHeartbeats 40000000 in
set_option maxRecDepth 100000 in
theorem dm_X13_branchBits (l : Launch) (hlt : l.stackTraces = false) (dC : Nat → ClassId) (dI : Nat → Nat → Nat) (a : Nat → Nat) (ac : Nat → ClassId) (n : Nat) (v0 : Int32) (s0 : Unit) {r : Int32 × (Unit)} (h : df_X13_branchBits n v0 s0 = some r) (sz : Nat) : Met l yX13_branchBits ow_dm_X13_branchBits ({ frames := 1, cells := 0, slots := 0, locals := 23 }) (va_Pc [.int v0] (fun U => U.heap.size = sz ∧ va_P (dC, dI) vwCl (dw_P a ac s0) U.heap ∧ va_K (dC, dI) vwCl (dk_P ac) U ∧ va_D (fun _ => True) (dw_P a ac s0) ∧ nv_E dI (va_A (dw_P a ac s0) sz) U)) (va_Qi (fun x _ => x = r.1) (fun (_ : Unit) t => va_P (dC, dI) vwCl (dw_P a ac r.2) t.heap ∧ va_K (dC, dI) vwCl (dk_P ac) t ∧ va_D (va_A (dw_P a ac s0) sz) (dw_P a ac r.2)) (va_A (dw_P a ac s0) sz)) 0 0 (va_A (dw_P a ac s0) sz) := by
  refine Met.ofW (cc := cX13_branchBits) (maxL := 1) (ret := (some .int)) (by decide) rfl ?_
  intro p e s m args below meth c s₁ B hml hv
  obtain ⟨rfl, hsz, hP, hK, hD0, hN⟩ := hv
  have hx := B.exec
  have hb := B.bytes
  have hr := B.returns
  have hts := atoms_spec (ws := ow_dm_X13_branchBits) B.pre
  have hown : s.vm.findClass RX13 = some m.cls := findClass_of_methodNamed B.named
  have hlocks := B.notSynchronized
  subst hsz
  have hD := hD0.self (sz := s.heap.size)
  generalize hAe : va_A (dw_P a ac s0) s.heap.size = A at hD hN ⊢
  have hA : ∀ q : Nat, s.heap.size ≤ q → A q := fun q h => by rw [← hAe]; exact Or.inr h
  have hl := lv_entry ([.int v0]) (n := 1) (Nat.le_of_ble_eq_true rfl)
  rw [lg_entry_eq]
  generalize (lg_sl ([.int v0]) ++ List.replicate (1 - (lg_sl ([.int v0])).length) Slot.unset).toArray = ls at hl ⊢
  have hl : lv_has ls 1 [(0, .int v0)] := hl
  exact db_X13_branchBits_0 (dC := dC) (dI := dI) (a := a) (ac := ac) (n := n) (r := r) ⟨hlt, hx, hb, hml, hown, hts, hN, hA, hK⟩ (fun pc v τ H locs ls d z er hP hD hS => by subst er; exact W.zret (v := v) hx hb hr z (fun t ht hW => ⟨⟨v, (), rfl, rfl, by rw [ht]; exact hP, va_K.moved hW.alike hK, hD⟩, hS.F ht⟩) hS.2.2 d) v0 s0 _ _ _ h hP hD va_S.rf (lv_sub hl [0] rfl)
def ow_dm_X13_jumpBits : List Cond := Cond.code yX13_jumpBits cX13_jumpBits 1 (some .int) :: ([Cond.methodLink RX13 550 yX13_bits, Cond.static yX13_bits, Cond.initialized RX13] ++ (ow_dm_X13_bits ++ []))
theorem gd_dm_X13_jumpBits : ∀ w ∈ ow_dm_X13_jumpBits, (w.onTables && w.keeps) = true ∨ ∃ ty, w = Cond.arrayClass ty := List.forall_mem_cons.mpr ⟨good_of_word rfl, List.forall_mem_append.mpr ⟨fun w h => good_of_word (List.all_eq_true.mp (by decide +kernel) w h), List.forall_mem_append.mpr ⟨gd_dm_X13_bits, fun _ h => nomatch h⟩⟩⟩
theorem gi_dm_X13_jumpBits_0 : GoodIn ow_dm_X13_jumpBits (wsS RX13 550 yX13_bits ow_dm_X13_bits) := goodIn_app (goodIn_of _ (by decide +kernel)) (fun w h => ⟨List.mem_cons_of_mem _ (List.mem_append_right _ (List.mem_append_left _ h)), gd_dm_X13_bits w h⟩)
def dj_X13_jumpBits_0 (p : Program) (l : Launch) (e : Env) (s : State) (m : MethodId) (args : Array Value) (below : List Frame) (meth : Method) (c : Code) (Q : State → Prop) (A : Nat → Prop) (dC : Nat → ClassId) (dI : Nat → Nat → Nat) (a : Nat → Nat) (ac : Nat → ClassId) (g : Int32 → (Unit) → Option (Int32 × (Unit))) (r : Int32 × (Unit)) : Prop := ∀ (v0 : Int32) (s0 : Unit) (H : Heap) (locs : List Loc) (ls : Array Slot), g v0 s0 = some r → va_P (dC, dI) vwCl (dw_P a ac s0) H → va_D A (dw_P a ac s0) → va_S A s.heap H locs → lv_has ls 1 [(0, .int v0)] → W p l e (headSpec ow_dm_X13_jumpBits ({ frames := 1, cells := 0, slots := 0, locals := 23 })).room s m args below meth c H locs 0 0 Q (F0 m 0 ls [])
set_option maxHeartbeats 40000000 in
set_option maxRecDepth 100000 in
theorem db_X13_jumpBits_0 {p : Program} {l : Launch} {e : Env} {s : State} {m : MethodId} {args : Array Value} {below : List Frame} {meth : Method} {c : Code} {Q : State → Prop} {A : Nat → Prop} {dC : Nat → ClassId} {dI : Nat → Nat → Nat} {a : Nat → Nat} {ac : Nat → ClassId} {n : Nat} {r : Int32 × (Unit)} (C : nd_C p l s m args c A (dC, dI) cX13_jumpBits 1 RX13 ow_dm_X13_jumpBits (dk_P ac)) (K : nd_Ki p l e (headSpec ow_dm_X13_jumpBits ({ frames := 1, cells := 0, slots := 0, locals := 23 })).room s m args below meth c Q A (dC, dI) cX13_jumpBits .int (Unit) (dw_P a ac) r) : dj_X13_jumpBits_0 p l e s m args below meth c Q A dC dI a ac (df_X13_jumpBits_0 n) r := by
  obtain ⟨hlt, hx, hb, hml, hown, hts, hN, hA, hK⟩ := id C
  intro v0 s0 H locs ls h hP hD hS hl
  unfold df_X13_jumpBits_0 at h
  refine lv_iload_n hx hb dX13_jumpBits_0 rfl (lv_at hl 0 rfl) ?_
  refine lv_bipush (v := 20) hx hb dX13_jumpBits_1 (by decide) ?_
  refine lv_bipush (v := 20) hx hb dX13_jumpBits_3 (by decide) ?_
  refine lv_bipush (v := 31) hx hb dX13_jumpBits_5 (by decide) ?_
  obtain ⟨q1, s2, hq, h⟩ := nd_b2_e h
  have hPc : va_P (dC, dI) vwCl (dw_P a ac ()) H := nd_p0
  have hDc : va_D A (dw_P a ac ()) := nd_d0
  have hKc : va_K (dC, dI) vwCl (dk_P ac) s := nd_y0 hK
  have hFc : ∀ q, va_A (dw_P a ac ()) H.size q → A q := nd_r0 hS hA
  refine nd_cSi (As := [.int v0, .int 20, .int 20, .int 31]) (rest := []) (q := q1) (w' := dw_P a ac s2) ⟨hx, hb, hml, hown, hts⟩ (fun sz => dm_X13_bits l hlt dC dI a ac n (v0) (20) (20) (31) () hq sz) (cwS 4 hts gi_dm_X13_jumpBits_0 rfl rfl rfl (by decide +kernel) ⟨Nat.le_of_ble_eq_true rfl, Nat.le_of_ble_eq_true rfl⟩) hPc hDc hKc hS hA hN rfl hl.1 rfl (Nat.le_of_ble_eq_true rfl) dX13_jumpBits_7 (fun H locs hP1 hD1 hk1 hS => ?_)
  have hP := nd_n0 hP hk1
  refine lv_iload_n hx hb dX13_jumpBits_10 rfl (lv_at hl 0 rfl) ?_
  refine lv_bipush (v := 10) hx hb dX13_jumpBits_11 (by decide) ?_
  refine lv_iconst (v := 1) hx hb dX13_jumpBits_13 (by decide) ?_
  refine lv_bipush (v := 21) hx hb dX13_jumpBits_14 (by decide) ?_
  obtain ⟨q4, s5, hq, h⟩ := nd_b2_e h
  have hPc : va_P (dC, dI) vwCl (dw_P a ac ()) H := nd_p0
  have hDc : va_D A (dw_P a ac ()) := nd_d0
  have hKc : va_K (dC, dI) vwCl (dk_P ac) s := nd_y0 hK
  have hFc : ∀ q, va_A (dw_P a ac ()) H.size q → A q := nd_r0 hS hA
  refine nd_cSi (As := [.int v0, .int 10, .int 1, .int 21]) (rest := [.int q1]) (q := q4) (w' := dw_P a ac s5) ⟨hx, hb, hml, hown, hts⟩ (fun sz => dm_X13_bits l hlt dC dI a ac n (v0) (10) (1) (21) () hq sz) (cwS 4 hts gi_dm_X13_jumpBits_0 rfl rfl rfl (by decide +kernel) ⟨Nat.le_of_ble_eq_true rfl, Nat.le_of_ble_eq_true rfl⟩) hPc hDc hKc hS hA hN rfl hl.1 rfl (Nat.le_of_ble_eq_true rfl) dX13_jumpBits_16 (fun H locs hP1 hD1 hk1 hS => ?_)
  have hP := nd_n0 hP hk1
  refine lv_ior hx hb dX13_jumpBits_19 ?_
  refine lv_iload_n hx hb dX13_jumpBits_20 rfl (lv_at hl 0 rfl) ?_
  refine lv_bipush (v := 11) hx hb dX13_jumpBits_21 (by decide) ?_
  refine lv_bipush (v := 11) hx hb dX13_jumpBits_23 (by decide) ?_
  refine lv_bipush (v := 20) hx hb dX13_jumpBits_25 (by decide) ?_
  obtain ⟨q7, s8, hq, h⟩ := nd_b2_e h
  have hPc : va_P (dC, dI) vwCl (dw_P a ac ()) H := nd_p0
  have hDc : va_D A (dw_P a ac ()) := nd_d0
  have hKc : va_K (dC, dI) vwCl (dk_P ac) s := nd_y0 hK
  have hFc : ∀ q, va_A (dw_P a ac ()) H.size q → A q := nd_r0 hS hA
  refine nd_cSi (As := [.int v0, .int 11, .int 11, .int 20]) (rest := [.int (q1 ||| q4)]) (q := q7) (w' := dw_P a ac s8) ⟨hx, hb, hml, hown, hts⟩ (fun sz => dm_X13_bits l hlt dC dI a ac n (v0) (11) (11) (20) () hq sz) (cwS 4 hts gi_dm_X13_jumpBits_0 rfl rfl rfl (by decide +kernel) ⟨Nat.le_of_ble_eq_true rfl, Nat.le_of_ble_eq_true rfl⟩) hPc hDc hKc hS hA hN rfl hl.1 rfl (Nat.le_of_ble_eq_true rfl) dX13_jumpBits_27 (fun H locs hP1 hD1 hk1 hS => ?_)
  have hP := nd_n0 hP hk1
  refine lv_ior hx hb dX13_jumpBits_30 ?_
  refine lv_iload_n hx hb dX13_jumpBits_31 rfl (lv_at hl 0 rfl) ?_
  refine lv_bipush (v := 19) hx hb dX13_jumpBits_32 (by decide) ?_
  refine lv_bipush (v := 12) hx hb dX13_jumpBits_34 (by decide) ?_
  refine lv_bipush (v := 12) hx hb dX13_jumpBits_36 (by decide) ?_
  obtain ⟨q10, s11, hq, h⟩ := nd_b2_e h
  have hPc : va_P (dC, dI) vwCl (dw_P a ac ()) H := nd_p0
  have hDc : va_D A (dw_P a ac ()) := nd_d0
  have hKc : va_K (dC, dI) vwCl (dk_P ac) s := nd_y0 hK
  have hFc : ∀ q, va_A (dw_P a ac ()) H.size q → A q := nd_r0 hS hA
  refine nd_cSi (As := [.int v0, .int 19, .int 12, .int 12]) (rest := [.int ((q1 ||| q4) ||| q7)]) (q := q10) (w' := dw_P a ac s11) ⟨hx, hb, hml, hown, hts⟩ (fun sz => dm_X13_bits l hlt dC dI a ac n (v0) (19) (12) (12) () hq sz) (cwS 4 hts gi_dm_X13_jumpBits_0 rfl rfl rfl (by decide +kernel) ⟨Nat.le_of_ble_eq_true rfl, Nat.le_of_ble_eq_true rfl⟩) hPc hDc hKc hS hA hN rfl hl.1 rfl (Nat.le_of_ble_eq_true rfl) dX13_jumpBits_38 (fun H locs hP1 hD1 hk1 hS => ?_)
  have hP := nd_n0 hP hk1
  refine lv_ior hx hb dX13_jumpBits_41 ?_
  exact K _ _ _ _ _ _ dX13_jumpBits_42 rfl (Option.some.inj h).symm hP hD hS

