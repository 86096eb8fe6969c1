set_option maxHeartbeats 40000000 in
set_option maxRecDepth 100000 in
theorem dm_X12_program (l : Launch) (hlt : l.stackTraces = false) (dC : Nat → ClassId) (dI : Nat → Nat → Nat) (a : Nat → Nat) (ac : Nat → ClassId) (n : Nat) (v0 : Int32) (v1 : Int32) (s0 : St × Rw × (St) × (St × (St)) × (St) × (St × (St × (St × (St)))) × (St) × (St) × (Nat → St) × (Nat → St) × (Nat → St × (St))) {r : Int32 × (St × Rw × (St) × (St × (St)) × (St) × (St × (St × (St × (St)))) × (St) × (St) × (Nat → St) × (Nat → St) × (Nat → St × (St)))} (h : df_X12_program n (a 15) (a 3) v0 v1 s0 = some r) (sz : Nat) : Met l yX12_program ow_dm_X12_program ({ frames := 1, cells := 0, slots := 0, locals := 21 }) (va_Pc [.ref (a 0), .int v0, .int v1] (fun U => U.heap.size = sz ∧ va_P (dC, dI) vwCl (dw_X12 a ac s0) U.heap ∧ va_K (dC, dI) vwCl (dk_X12 ac) U ∧ va_D (fun _ => True) (dw_X12 a ac s0) ∧ nv_E (va_A (dw_X12 a ac s0) sz) U)) (va_Qi (fun x _ => x = r.1) (fun (_ : Unit) t => va_P (dC, dI) vwCl (dw_X12 a ac r.2) t.heap ∧ va_K (dC, dI) vwCl (dk_X12 ac) t ∧ va_D (va_A (dw_X12 a ac s0) sz) (dw_X12 a ac r.2)) (va_A (dw_X12 a ac s0) sz)) 0 0 (va_A (dw_X12 a ac s0) sz) := by
  refine Met.ofW (cc := cX12_program) (maxL := 4) (ret := (some .int)) (by decide) rfl ?_
  intro p e s m args below meth c s₁ B hml hv
  obtain ⟨rfl, hsz, hP, hK, hD0, hN⟩ := hv
  have hx := B.exec
  have hb := B.bytes
  have hr := B.returns
  have hts := atoms_spec (ws := ow_dm_X12_program) B.pre
  have hown : s.vm.findClass RX12 = some m.cls := findClass_of_methodNamed B.named
  have hlocks := B.notSynchronized
  subst hsz
  have hD := hD0.self (sz := s.heap.size)
  generalize hAe : va_A (dw_X12 a ac s0) s.heap.size = A at hD hN ⊢
  have hA : ∀ q : Nat, s.heap.size ≤ q → A q := fun q h => by rw [← hAe]; exact Or.inr h
  have hl := lv_entry ([.ref (a 0), .int v0, .int v1]) (n := 4) (Nat.le_of_ble_eq_true rfl)
  rw [lg_entry_eq]
  generalize (lg_sl ([.ref (a 0), .int v0, .int v1]) ++ List.replicate (4 - (lg_sl ([.ref (a 0), .int v0, .int v1])).length) Slot.unset).toArray = ls at hl ⊢
  have hl : lv_has ls 4 [(0, .ref (a 0)), (1, .int v0), (2, .int v1)] := hl
  exact db_X12_program_0 (dC := dC) (dI := dI) (a := a) (ac := ac) (n := n) (r := r) ⟨hlt, hx, hb, hml, hown, hts, hN, hA, hK⟩ (fun pc v τ H locs ls d z er hP hD hS => by subst er; exact W.zret (v := v) hx hb hr z (fun t ht hW => ⟨⟨v, (), rfl, rfl, by rw [ht]; exact hP, va_K.moved hW.alike hK, hD⟩, hS.F ht⟩) hS.2.2 d) v0 v1 s0 _ _ _ h hP hD va_S.rf (lv_sub hl [0, 1, 2] rfl)
def ow_dm_X12_image : List Cond := .code yX12_image cX12_image 4 (some .int) :: ([.methodLink RX12 85 yX12_programOf, .instanceMethod yX12_programOf, .selects RX12 yX12_programOf yX12_programOf, .initialized RX12, .fieldLink RX12 95 "TimeMachine$Program" "size" "I", .fieldLink RX12 104 "TimeMachine$Program" "image" "[B"] ++ (u_ws RX8 TX8 10 ++ (ow_dm_X12_programOf ++ [])))
theorem gd_dm_X12_image : ∀ w ∈ ow_dm_X12_image, (w.onTables && w.keeps) = true ∨ ∃ ty, w = Cond.arrayClass ty := List.forall_mem_cons.mpr ⟨good_of_word rfl, List.forall_mem_append.mpr ⟨fun w h => good_of_word (List.all_eq_true.mp (by decide +kernel) w h), List.forall_mem_append.mpr ⟨gu_X8, List.forall_mem_append.mpr ⟨gd_dm_X12_programOf, fun _ h => nomatch h⟩⟩⟩⟩
theorem hi_dm_X12_image_X8 : ∀ w ∈ u_ws RX8 TX8 10, w ∈ ow_dm_X12_image := fun w h => List.mem_cons_of_mem _ (List.mem_append_right _ (List.mem_append_left _ h))
theorem gi_dm_X12_image_0 : GoodIn ow_dm_X12_image (wsV RX12 85 RX12 yX12_programOf ow_dm_X12_programOf) := goodIn_app (goodIn_of _ (by decide +kernel)) (fun w h => ⟨List.mem_cons_of_mem _ (List.mem_append_right _ (List.mem_append_right _ (List.mem_append_left _ h))), gd_dm_X12_programOf w h⟩)
def dj_X12_image_36 (p : Program) (l : Launch) (e : Env) (s : State) (m : MethodId) (args : Array Value) (below : List Frame) (meth : Method) (c : Code) (Q : State → Prop) (A : Nat → Prop) (dC : Nat → ClassId) (dI : Nat → Nat → Nat) (a : Nat → Nat) (ac : Nat → ClassId) (g : Int32 → (St × Rw × (St) × (St × (St)) × (St) × (St × (St × (St × (St)))) × (St) × (St) × (Nat → St) × (Nat → St) × (Nat → St × (St))) → Option (Int32 × (St × Rw × (St) × (St × (St)) × (St) × (St × (St × (St × (St)))) × (St) × (St) × (Nat → St) × (Nat → St) × (Nat → St × (St))))) (r : Int32 × (St × Rw × (St) × (St × (St)) × (St) × (St × (St × (St × (St)))) × (St) × (St) × (Nat → St) × (Nat → St) × (Nat → St × (St)))) : Prop := ∀ (y0 : Int32) (s0 : St × Rw × (St) × (St × (St)) × (St) × (St × (St × (St × (St)))) × (St) × (St) × (Nat → St) × (Nat → St) × (Nat → St × (St))) (H : Heap) (locs : List Loc) (ls : Array Slot), g y0 s0 = some r → va_P (dC, dI) vwCl (dw_X12 a ac s0) H → va_D A (dw_X12 a ac s0) → va_S A s.heap H locs → lv_has ls 4 [] → W p l e (headSpec ow_dm_X12_image ({ frames := 1, cells := 0, slots := 0, locals := 21 })).room s m args below meth c H locs 0 0 Q (F0 m 36 ls [.int y0])
def dj_X12_image_22 (p : Program) (l : Launch) (e : Env) (s : State) (m : MethodId) (args : Array Value) (below : List Frame) (meth : Method) (c : Code) (Q : State → Prop) (A : Nat → Prop) (dC : Nat → ClassId) (dI : Nat → Nat → Nat) (a : Nat → Nat) (ac : Nat → ClassId) (g : (St × Rw × (St) × (St × (St)) × (St) × (St × (St × (St × (St)))) × (St) × (St) × (Nat → St) × (Nat → St) × (Nat → St × (St))) → Option (Int32 × (St × Rw × (St) × (St × (St)) × (St) × (St × (St × (St × (St)))) × (St) × (St) × (Nat → St) × (Nat → St) × (Nat → St × (St))))) (r : Int32 × (St × Rw × (St) × (St × (St)) × (St) × (St × (St × (St × (St)))) × (St) × (St) × (Nat → St) × (Nat → St) × (Nat → St × (St)))) : Prop := ∀ (s0 : St × Rw × (St) × (St × (St)) × (St) × (St × (St × (St × (St)))) × (St) × (St) × (Nat → St) × (Nat → St) × (Nat → St × (St))) (H : Heap) (locs : List Loc) (ls : Array Slot), g s0 = some r → va_P (dC, dI) vwCl (dw_X12 a ac s0) H → va_D A (dw_X12 a ac s0) → va_S A s.heap H locs → lv_has ls 4 [] → W p l e (headSpec ow_dm_X12_image ({ frames := 1, cells := 0, slots := 0, locals := 21 })).room s m args below meth c H locs 0 0 Q (F0 m 22 ls [])
def dj_X12_image_0 (p : Program) (l : Launch) (e : Env) (s : State) (m : MethodId) (args : Array Value) (below : List Frame) (meth : Method) (c : Code) (Q : State → Prop) (A : Nat → Prop) (dC : Nat → ClassId) (dI : Nat → Nat → Nat) (a : Nat → Nat) (ac : Nat → ClassId) (g : Int32 → Int32 → (St × Rw × (St) × (St × (St)) × (St) × (St × (St × (St × (St)))) × (St) × (St) × (Nat → St) × (Nat → St) × (Nat → St × (St))) → Option (Int32 × (St × Rw × (St) × (St × (St)) × (St) × (St × (St × (St × (St)))) × (St) × (St) × (Nat → St) × (Nat → St) × (Nat → St × (St))))) (r : Int32 × (St × Rw × (St) × (St × (St)) × (St) × (St × (St × (St × (St)))) × (St) × (St) × (Nat → St) × (Nat → St) × (Nat → St × (St)))) : Prop := ∀ (v0 : Int32) (v1 : Int32) (s0 : St × Rw × (St) × (St × (St)) × (St) × (St × (St × (St × (St)))) × (St) × (St) × (Nat → St) × (Nat → St) × (Nat → St × (St))) (H : Heap) (locs : List Loc) (ls : Array Slot), g v0 v1 s0 = some r → va_P (dC, dI) vwCl (dw_X12 a ac s0) H → va_D A (dw_X12 a ac s0) → va_S A s.heap H locs → lv_has ls 4 [(0, .ref (a 0)), (1, .int v0), (2, .int v1)] → W p l e (headSpec ow_dm_X12_image ({ frames := 1, cells := 0, slots := 0, locals := 21 })).room s m args below meth c H locs 0 0 Q (F0 m 0 ls [])
set_option maxHeartbeats 40000000 in
set_option maxRecDepth 100000 in
theorem db_X12_image_36 {p : Program} {l : Launch} {e : Env} {s : State} {m : MethodId} {args : Array Value} {below : List Frame} {meth : Method} {c : Code} {Q : State → Prop} {A : Nat → Prop} {dC : Nat → ClassId} {dI : Nat → Nat → Nat} {a : Nat → Nat} {ac : Nat → ClassId} {n : Nat} {r : Int32 × (St × Rw × (St) × (St × (St)) × (St) × (St × (St × (St × (St)))) × (St) × (St) × (Nat → St) × (Nat → St) × (Nat → St × (St)))} (C : nd_C p l s m args c A (dC, dI) cX12_image 4 RX12 ow_dm_X12_image (dk_X12 ac)) (K : nd_Ki p l e (headSpec ow_dm_X12_image ({ frames := 1, cells := 0, slots := 0, locals := 21 })).room s m args below meth c Q A (dC, dI) cX12_image .int (St × Rw × (St) × (St × (St)) × (St) × (St × (St × (St × (St)))) × (St) × (St) × (Nat → St) × (Nat → St) × (Nat → St × (St))) (dw_X12 a ac) r) : dj_X12_image_36 p l e s m args below meth c Q A dC dI a ac (df_X12_image_36 n (a 15) (a 3)) r := by
  obtain ⟨hlt, hx, hb, hml, hown, hts, hN, hA, hK⟩ := id C
  intro y0 s0 H locs ls h hP hD hS hl
  unfold df_X12_image_36 at h
  exact K _ _ _ _ _ _ dX12_image_36 rfl (Option.some.inj h).symm hP hD hS
set_option maxHeartbeats 40000000 in
set_option maxRecDepth 100000 in
theorem db_X12_image_22 {p : Program} {l : Launch} {e : Env} {s : State} {m : MethodId} {args : Array Value} {below : List Frame} {meth : Method} {c : Code} {Q : State → Prop} {A : Nat → Prop} {dC : Nat → ClassId} {dI : Nat → Nat → Nat} {a : Nat → Nat} {ac : Nat → ClassId} {n : Nat} {r : Int32 × (St × Rw × (St) × (St × (St)) × (St) × (St × (St × (St × (St)))) × (St) × (St) × (Nat → St) × (Nat → St) × (Nat → St × (St)))} (C : nd_C p l s m args c A (dC, dI) cX12_image 4 RX12 ow_dm_X12_image (dk_X12 ac)) (K : nd_Ki p l e (headSpec ow_dm_X12_image ({ frames := 1, cells := 0, slots := 0, locals := 21 })).room s m args below meth c Q A (dC, dI) cX12_image .int (St × Rw × (St) × (St × (St)) × (St) × (St × (St × (St × (St)))) × (St) × (St) × (Nat → St) × (Nat → St) × (Nat → St × (St))) (dw_X12 a ac) r) : dj_X12_image_22 p l e s m args below meth c Q A dC dI a ac (df_X12_image_22 n (a 15) (a 3)) r := by
  obtain ⟨hlt, hx, hb, hml, hown, hts, hN, hA, hK⟩ := id C
  intro s0 H locs ls h hP hD hS hl
  unfold df_X12_image_22 at h
  refine lv_iconst (v := (-1)) hx hb dX12_image_22 (by decide) ?_
  refine lv_goto (tgt := 36) hx hb dX12_image_23 (by decide) ?_
  exact (db_X12_image_36 C K) ((-1)) s0 _ _ _ h hP hD hS (lv_sub hl [] rfl)
set_option maxHeartbeats 40000000 in
set_option maxRecDepth 100000 in
theorem db_X12_image_0 {p : Program} {l : Launch} {e : Env} {s : State} {m : MethodId} {args : Array Value} {below : List Frame} {meth : Method} {c : Code} {Q : State → Prop} {A : Nat → Prop} {dC : Nat → ClassId} {dI : Nat → Nat → Nat} {a : Nat → Nat} {ac : Nat → ClassId} {n : Nat} {r : Int32 × (St × Rw × (St) × (St × (St)) × (St) × (St × (St × (St × (St)))) × (St) × (St) × (Nat → St) × (Nat → St) × (Nat → St × (St)))} (C : nd_C p l s m args c A (dC, dI) cX12_image 4 RX12 ow_dm_X12_image (dk_X12 ac)) (K : nd_Ki p l e (headSpec ow_dm_X12_image ({ frames := 1, cells := 0, slots := 0, locals := 21 })).room s m args below meth c Q A (dC, dI) cX12_image .int (St × Rw × (St) × (St × (St)) × (St) × (St × (St × (St × (St)))) × (St) × (St) × (Nat → St) × (Nat → St) × (Nat → St × (St))) (dw_X12 a ac) r) : dj_X12_image_0 p l e s m args below meth c Q A dC dI a ac (df_X12_image_0 n (a 15) (a 3)) r := by
  obtain ⟨hlt, hx, hb, hml, hown, hts, hN, hA, hK⟩ := id C
  intro v0 v1 s0 H locs ls h hP hD hS hl
  unfold df_X12_image_0 at h
  refine lv_aload_n hx hb dX12_image_0 rfl (lv_at hl 0 rfl) ?_
  refine lv_iload_n hx hb dX12_image_1 rfl (lv_at hl 1 rfl) ?_
  obtain ⟨q1, s2, hq, h⟩ := nd_b2_e h
  have hPc := hP
  have hDc := hD
  have hKc := hK
  have hFc := nd_rs hD hS hA
  refine nd_cVq (As := [.int v0]) (rest := []) (q := Option.map (fun j => a (0 + j * 5 + 57)) q1) (w' := dw_X12 a ac s2) ⟨hx, hb, hml, hown, hts⟩ (fun sz => dm_X12_programOf l hlt dC dI a ac n (v0) s0 hq sz) (cwV 1 hts gi_dm_X12_image_0 rfl rfl rfl (by decide +kernel) ⟨Nat.le_of_ble_eq_true rfl, Nat.le_of_ble_eq_true rfl⟩) hPc hDc hKc hS hA hN (va_recv hKc hPc (ci := 13) (q0 := 0) rfl rfl) rfl hl.1 rfl (Nat.le_of_ble_eq_true rfl) dX12_image_2 (fun H locs hP1 hD1 hk1 hS => ?_)
  have hP := hP1
  have hD := hD1.weaken (fun k q _ h => hFc q.1 h)
  cases hrj4 : q1 with
  | none =>
    have h := nd_mN h hrj4
    refine W.eq (g2 := F0 m 5 ls [.null]) (by first | rfl | (show F0 m _ ls (va_rf (Option.map (fun j => a (0 + j * 5 + 57)) q1) :: _) = _; rw [hrj4]; rfl)) ?_
    refine lv_astore_nN (lv' := [(3, .null), (0, .ref (a 0)), (1, .int v0), (2, .int v1)]) hx hb dX12_image_5 rfl hl (by decide) rfl (fun ls hl => ?_)
    refine lv_aload_nN hx hb dX12_image_6 rfl (lv_at hl 0 rfl) ?_
    refine lv_ifnullN (tgt := 22) hx hb dX12_image_7 (by decide) ?_
    exact (db_X12_image_22 C K)  s2 _ _ _ h hP hD hS (lv_sub hl [] rfl)
  | some j4 =>
    have h := nd_mS h hrj4
    refine W.eq (g2 := F0 m 5 ls [.ref (a (0 + j4 * 5 + 57))]) (by first | rfl | (show F0 m _ ls (va_rf (Option.map (fun j => a (0 + j * 5 + 57)) q1) :: _) = _; rw [hrj4]; rfl)) ?_
    refine lv_astore_n (lv' := [(3, .ref (a (0 + j4 * 5 + 57))), (0, .ref (a 0)), (1, .int v0), (2, .int v1)]) hx hb dX12_image_5 rfl hl (by decide) rfl (fun ls hl => ?_)
    refine lv_aload_n hx hb dX12_image_6 rfl (lv_at hl 0 rfl) ?_
    refine lv_ifnull hx hb dX12_image_7 ?_
    refine lv_iload_n hx hb dX12_image_10 rfl (lv_at hl 3 rfl) ?_
    refine lv_if_lt (tgt := 22) hx hb dX12_image_11 (by decide) (fun c5 => ?_) (fun c5 => ?_)
    · have h := nd_pos h c5
      exact (db_X12_image_22 C K)  s2 _ _ _ h hP hD hS (lv_sub hl [] rfl)
    · have h := nd_neg h c5
      refine lv_iload_n hx hb dX12_image_14 rfl (lv_at hl 3 rfl) ?_
      refine lv_aload_n hx hb dX12_image_15 rfl (lv_at hl 0 rfl) ?_
      obtain ⟨l6, h⟩ := nd_lt_e h
      refine va_get (D := (dC, dI)) (ci := 9) (v := .int (sI (s2.2.2.2.2.2.2.2.2.1 j4) 2)) (C := RX8) (T := TX8) (N := 10) hx hb hts hi_dm_X12_image_X8 hown hK (dl_X12_P8 l6 hP) 0 rfl rfl 3 (by decide) (hts (.fieldLink RX12 95 "TimeMachine$Program" "size" "I") (List.mem_of_getElem? (i := 5) rfl)) (fun _ h9 => h9) rfl dX12_image_16 ?_
      refine lv_icmp_lt (tgt := 26) hx hb dX12_image_19 (by decide) (fun c7 => ?_) (fun c7 => ?_)
      · have h := nd_pos h c7
        refine lv_aload_n hx hb dX12_image_26 rfl (lv_at hl 0 rfl) ?_
        refine va_get (D := (dC, dI)) (ci := 9) (v := .ref (a (1 + j4 * 5 + 57))) (C := RX8) (T := TX8) (N := 10) hx hb hts hi_dm_X12_image_X8 hown hK (dl_X12_P8 l6 hP) 0 rfl rfl 0 (by decide) (hts (.fieldLink RX12 104 "TimeMachine$Program" "image" "[B") (List.mem_of_getElem? (i := 6) rfl)) (fun _ h9 => h9) rfl dX12_image_27 ?_
        refine lv_iload_n hx hb dX12_image_30 rfl (lv_at hl 3 rfl) ?_
        obtain ⟨i8, h⟩ := nd_ck_e h
        refine va_bald (i := v1) hx hb (dq_X12_P8 l6 hK) (dl_X12_P8 l6 hP) 1 0 rfl rfl i8 dX12_image_31 ?_
        refine lv_sipush (v := 255) hx hb dX12_image_32 (by decide) ?_
        refine lv_iand hx hb dX12_image_35 ?_
        exact (db_X12_image_36 C K) (((sR (s2.2.2.2.2.2.2.2.2.1 j4) 0 (Int32.toNatClampNeg v1)) &&& 255)) s2 _ _ _ h hP hD hS (lv_sub hl [] rfl)
      · have h := nd_neg h c7
        exact (db_X12_image_22 C K)  s2 _ _ _ h hP hD hS (lv_sub hl [] rfl)
set_option maxHeartbeats 40000000 in
set_option maxRecDepth 100000 in
theorem dm_X12_image (l : Launch) (hlt : l.stackTraces = false) (dC : Nat → ClassId) (dI : Nat → Nat → Nat) (a : Nat → Nat) (ac : Nat → ClassId) (n : Nat) (v0 : Int32) (v1 : Int32) (s0 : St × Rw × (St) × (St × (St)) × (St) × (St × (St × (St × (St)))) × (St) × (St) × (Nat → St) × (Nat → St) × (Nat → St × (St))) {r : Int32 × (St × Rw × (St) × (St × (St)) × (St) × (St × (St × (St × (St)))) × (St) × (St) × (Nat → St) × (Nat → St) × (Nat → St × (St)))} (h : df_X12_image n (a 15) (a 3) v0 v1 s0 = some r) (sz : Nat) : Met l yX12_image ow_dm_X12_image ({ frames := 1, cells := 0, slots := 0, locals := 21 }) (va_Pc [.ref (a 0), .int v0, .int v1] (fun U => U.heap.size = sz ∧ va_P (dC, dI) vwCl (dw_X12 a ac s0) U.heap ∧ va_K (dC, dI) vwCl (dk_X12 ac) U ∧ va_D (fun _ => True) (dw_X12 a ac s0) ∧ nv_E (va_A (dw_X12 a ac s0) sz) U)) (va_Qi (fun x _ => x = r.1) (fun (_ : Unit) t => va_P (dC, dI) vwCl (dw_X12 a ac r.2) t.heap ∧ va_K (dC, dI) vwCl (dk_X12 ac) t ∧ va_D (va_A (dw_X12 a ac s0) sz) (dw_X12 a ac r.2)) (va_A (dw_X12 a ac s0) sz)) 0 0 (va_A (dw_X12 a ac s0) sz) := by
  refine Met.ofW (cc := cX12_image) (maxL := 4) (ret := (some .int)) (by decide) rfl ?_
  intro p e s m args below meth c s₁ B hml hv
  obtain ⟨rfl, hsz, hP, hK, hD0, hN⟩ := hv
  have hx := B.exec
  have hb := B.bytes
  have hr := B.returns
  have hts := atoms_spec (ws := ow_dm_X12_image) B.pre
  have hown : s.vm.findClass RX12 = some m.cls := findClass_of_methodNamed B.named
  have hlocks := B.notSynchronized
  subst hsz
  have hD := hD0.self (sz := s.heap.size)
  generalize hAe : va_A (dw_X12 a ac s0) s.heap.size = A at hD hN ⊢
  have hA : ∀ q : Nat, s.heap.size ≤ q → A q := fun q h => by rw [← hAe]; exact Or.inr h
  have hl := lv_entry ([.ref (a 0), .int v0, .int v1]) (n := 4) (Nat.le_of_ble_eq_true rfl)
  rw [lg_entry_eq]
  generalize (lg_sl ([.ref (a 0), .int v0, .int v1]) ++ List.replicate (4 - (lg_sl ([.ref (a 0), .int v0, .int v1])).length) Slot.unset).toArray = ls at hl ⊢
  have hl : lv_has ls 4 [(0, .ref (a 0)), (1, .int v0), (2, .int v1)] := hl
  exact db_X12_image_0 (dC := dC) (dI := dI) (a := a) (ac := ac) (n := n) (r := r) ⟨hlt, hx, hb, hml, hown, hts, hN, hA, hK⟩ (fun pc v τ H locs ls d z er hP hD hS => by subst er; exact W.zret (v := v) hx hb hr z (fun t ht hW => ⟨⟨v, (), rfl, rfl, by rw [ht]; exact hP, va_K.moved hW.alike hK, hD⟩, hS.F ht⟩) hS.2.2 d) v0 v1 s0 _ _ _ h hP hD va_S.rf (lv_sub hl [0, 1, 2] rfl)
def ow_dm_X12_label : List Cond := .code yX12_label cX12_label 4 (some .int) :: ([.methodLink RX12 85 yX12_programOf, .instanceMethod yX12_programOf, .selects RX12 yX12_programOf yX12_programOf, .initialized RX12, .fieldLink RX12 98 "TimeMachine$Program" "labels" "I", .fieldLink RX12 107 "TimeMachine$Program" "label" "[I"] ++ (u_ws RX8 TX8 10 ++ (ow_dm_X12_programOf ++ [])))
theorem gd_dm_X12_label : ∀ w ∈ ow_dm_X12_label, (w.onTables && w.keeps) = true ∨ ∃ ty, w = Cond.arrayClass ty := List.forall_mem_cons.mpr ⟨good_of_word rfl, List.forall_mem_append.mpr ⟨fun w h => good_of_word (List.all_eq_true.mp (by decide +kernel) w h), List.forall_mem_append.mpr ⟨gu_X8, List.forall_mem_append.mpr ⟨gd_dm_X12_programOf, fun _ h => nomatch h⟩⟩⟩⟩
theorem hi_dm_X12_label_X8 : ∀ w ∈ u_ws RX8 TX8 10, w ∈ ow_dm_X12_label := fun w h => List.mem_cons_of_mem _ (List.mem_append_right _ (List.mem_append_left _ h))
theorem gi_dm_X12_label_0 : GoodIn ow_dm_X12_label (wsV RX12 85 RX12 yX12_programOf ow_dm_X12_programOf) := goodIn_app (goodIn_of _ (by decide +kernel)) (fun w h => ⟨List.mem_cons_of_mem _ (List.mem_append_right _ (List.mem_append_right _ (List.mem_append_left _ h))), gd_dm_X12_programOf w h⟩)
def dj_X12_label_32 (p : Program) (l : Launch) (e : Env) (s : State) (m : MethodId) (args : Array Value) (below : List Frame) (meth : Method) (c : Code) (Q : State → Prop) (A : Nat → Prop) (dC : Nat → ClassId) (dI : Nat → Nat → Nat) (a : Nat → Nat) (ac : Nat → ClassId) (g : Int32 → (St × Rw × (St) × (St × (St)) × (St) × (St × (St × (St × (St)))) × (St) × (St) × (Nat → St) × (Nat → St) × (Nat → St × (St))) → Option (Int32 × (St × Rw × (St) × (St × (St)) × (St) × (St × (St × (St × (St)))) × (St) × (St) × (Nat → St) × (Nat → St) × (Nat → St × (St))))) (r : Int32 × (St × Rw × (St) × (St × (St)) × (St) × (St × (St × (St × (St)))) × (St) × (St) × (Nat → St) × (Nat → St) × (Nat → St × (St)))) : Prop := ∀ (y0 : Int32) (s0 : St × Rw × (St) × (St × (St)) × (St) × (St × (St × (St × (St)))) × (St) × (St) × (Nat → St) × (Nat → St) × (Nat → St × (St))) (H : Heap) (locs : List Loc) (ls : Array Slot), g y0 s0 = some r → va_P (dC, dI) vwCl (dw_X12 a ac s0) H → va_D A (dw_X12 a ac s0) → va_S A s.heap H locs → lv_has ls 4 [] → W p l e (headSpec ow_dm_X12_label ({ frames := 1, cells := 0, slots := 0, locals := 21 })).room s m args below meth c H locs 0 0 Q (F0 m 32 ls [.int y0])
def dj_X12_label_22 (p : Program) (l : Launch) (e : Env) (s : State) (m : MethodId) (args : Array Value) (below : List Frame) (meth : Method) (c : Code) (Q : State → Prop) (A : Nat → Prop) (dC : Nat → ClassId) (dI : Nat → Nat → Nat) (a : Nat → Nat) (ac : Nat → ClassId) (g : (St × Rw × (St) × (St × (St)) × (St) × (St × (St × (St × (St)))) × (St) × (St) × (Nat → St) × (Nat → St) × (Nat → St × (St))) → Option (Int32 × (St × Rw × (St) × (St × (St)) × (St) × (St × (St × (St × (St)))) × (St) × (St) × (Nat → St) × (Nat → St) × (Nat → St × (St))))) (r : Int32 × (St × Rw × (St) × (St × (St)) × (St) × (St × (St × (St × (St)))) × (St) × (St) × (Nat → St) × (Nat → St) × (Nat → St × (St)))) : Prop := ∀ (s0 : St × Rw × (St) × (St × (St)) × (St) × (St × (St × (St × (St)))) × (St) × (St) × (Nat → St) × (Nat → St) × (Nat → St × (St))) (H : Heap) (locs : List Loc) (ls : Array Slot), g s0 = some r → va_P (dC, dI) vwCl (dw_X12 a ac s0) H → va_D A (dw_X12 a ac s0) → va_S A s.heap H locs → lv_has ls 4 [] → W p l e (headSpec ow_dm_X12_label ({ frames := 1, cells := 0, slots := 0, locals := 21 })).room s m args below meth c H locs 0 0 Q (F0 m 22 ls [])
def dj_X12_label_0 (p : Program) (l : Launch) (e : Env) (s : State) (m : MethodId) (args : Array Value) (below : List Frame) (meth : Method) (c : Code) (Q : State → Prop) (A : Nat → Prop) (dC : Nat → ClassId) (dI : Nat → Nat → Nat) (a : Nat → Nat) (ac : Nat → ClassId) (g : Int32 → Int32 → (St × Rw × (St) × (St × (St)) × (St) × (St × (St × (St × (St)))) × (St) × (St) × (Nat → St) × (Nat → St) × (Nat → St × (St))) → Option (Int32 × (St × Rw × (St) × (St × (St)) × (St) × (St × (St × (St × (St)))) × (St) × (St) × (Nat → St) × (Nat → St) × (Nat → St × (St))))) (r : Int32 × (St × Rw × (St) × (St × (St)) × (St) × (St × (St × (St × (St)))) × (St) × (St) × (Nat → St) × (Nat → St) × (Nat → St × (St)))) : Prop := ∀ (v0 : Int32) (v1 : Int32) (s0 : St × Rw × (St) × (St × (St)) × (St) × (St × (St × (St × (St)))) × (St) × (St) × (Nat → St) × (Nat → St) × (Nat → St × (St))) (H : Heap) (locs : List Loc) (ls : Array Slot), g v0 v1 s0 = some r → va_P (dC, dI) vwCl (dw_X12 a ac s0) H → va_D A (dw_X12 a ac s0) → va_S A s.heap H locs → lv_has ls 4 [(0, .ref (a 0)), (1, .int v0), (2, .int v1)] → W p l e (headSpec ow_dm_X12_label ({ frames := 1, cells := 0, slots := 0, locals := 21 })).room s m args below meth c H locs 0 0 Q (F0 m 0 ls [])
set_option maxHeartbeats 40000000 in
set_option maxRecDepth 100000 in
theorem db_X12_label_32 {p : Program} {l : Launch} {e : Env} {s : State} {m : MethodId} {args : Array Value} {below : List Frame} {meth : Method} {c : Code} {Q : State → Prop} {A : Nat → Prop} {dC : Nat → ClassId} {dI : Nat → Nat → Nat} {a : Nat → Nat} {ac : Nat → ClassId} {n : Nat} {r : Int32 × (St × Rw × (St) × (St × (St)) × (St) × (St × (St × (St × (St)))) × (St) × (St) × (Nat → St) × (Nat → St) × (Nat → St × (St)))} (C : nd_C p l s m args c A (dC, dI) cX12_label 4 RX12 ow_dm_X12_label (dk_X12 ac)) (K : nd_Ki p l e (headSpec ow_dm_X12_label ({ frames := 1, cells := 0, slots := 0, locals := 21 })).room s m args below meth c Q A (dC, dI) cX12_label .int (St × Rw × (St) × (St × (St)) × (St) × (St × (St × (St × (St)))) × (St) × (St) × (Nat → St) × (Nat → St) × (Nat → St × (St))) (dw_X12 a ac) r) : dj_X12_label_32 p l e s m args below meth c Q A dC dI a ac (df_X12_label_32 n (a 15) (a 3)) r := by
  obtain ⟨hlt, hx, hb, hml, hown, hts, hN, hA, hK⟩ := id C
  intro y0 s0 H locs ls h hP hD hS hl
  unfold df_X12_label_32 at h
  exact K _ _ _ _ _ _ dX12_label_32 rfl (Option.some.inj h).symm hP hD hS
set_option maxHeartbeats 40000000 in
set_option maxRecDepth 100000 in
theorem db_X12_label_22 {p : Program} {l : Launch} {e : Env} {s : State} {m : MethodId} {args : Array Value} {below : List Frame} {meth : Method} {c : Code} {Q : State → Prop} {A : Nat → Prop} {dC : Nat → ClassId} {dI : Nat → Nat → Nat} {a : Nat → Nat} {ac : Nat → ClassId} {n : Nat} {r : Int32 × (St × Rw × (St) × (St × (St)) × (St) × (St × (St × (St × (St)))) × (St) × (St) × (Nat → St) × (Nat → St) × (Nat → St × (St)))} (C : nd_C p l s m args c A (dC, dI) cX12_label 4 RX12 ow_dm_X12_label (dk_X12 ac)) (K : nd_Ki p l e (headSpec ow_dm_X12_label ({ frames := 1, cells := 0, slots := 0, locals := 21 })).room s m args below meth c Q A (dC, dI) cX12_label .int (St × Rw × (St) × (St × (St)) × (St) × (St × (St × (St × (St)))) × (St) × (St) × (Nat → St) × (Nat → St) × (Nat → St × (St))) (dw_X12 a ac) r) : dj_X12_label_22 p l e s m args below meth c Q A dC dI a ac (df_X12_label_22 n (a 15) (a 3)) r := by
  obtain ⟨hlt, hx, hb, hml, hown, hts, hN, hA, hK⟩ := id C
  intro s0 H locs ls h hP hD hS hl
  unfold df_X12_label_22 at h
  refine lv_iconst (v := (-1)) hx hb dX12_label_22 (by decide) ?_
  refine lv_goto (tgt := 32) hx hb dX12_label_23 (by decide) ?_
  exact (db_X12_label_32 C K) ((-1)) s0 _ _ _ h hP hD hS (lv_sub hl [] rfl)
set_option maxHeartbeats 40000000 in
set_option maxRecDepth 100000 in
theorem db_X12_label_0 {p : Program} {l : Launch} {e : Env} {s : State} {m : MethodId} {args : Array Value} {below : List Frame} {meth : Method} {c : Code} {Q : State → Prop} {A : Nat → Prop} {dC : Nat → ClassId} {dI : Nat → Nat → Nat} {a : Nat → Nat} {ac : Nat → ClassId} {n : Nat} {r : Int32 × (St × Rw × (St) × (St × (St)) × (St) × (St × (St × (St × (St)))) × (St) × (St) × (Nat → St) × (Nat → St) × (Nat → St × (St)))} (C : nd_C p l s m args c A (dC, dI) cX12_label 4 RX12 ow_dm_X12_label (dk_X12 ac)) (K : nd_Ki p l e (headSpec ow_dm_X12_label ({ frames := 1, cells := 0, slots := 0, locals := 21 })).room s m args below meth c Q A (dC, dI) cX12_label .int (St × Rw × (St) × (St × (St)) × (St) × (St × (St × (St × (St)))) × (St) × (St) × (Nat → St) × (Nat → St) × (Nat → St × (St))) (dw_X12 a ac) r) : dj_X12_label_0 p l e s m args below meth c Q A dC dI a ac (df_X12_label_0 n (a 15) (a 3)) r := by
  obtain ⟨hlt, hx, hb, hml, hown, hts, hN, hA, hK⟩ := id C
  intro v0 v1 s0 H locs ls h hP hD hS hl
  unfold df_X12_label_0 at h
  refine lv_aload_n hx hb dX12_label_0 rfl (lv_at hl 0 rfl) ?_
  refine lv_iload_n hx hb dX12_label_1 rfl (lv_at hl 1 rfl) ?_
  obtain ⟨q1, s2, hq, h⟩ := nd_b2_e h
  have hPc := hP
  have hDc := hD
  have hKc := hK
  have hFc := nd_rs hD hS hA
  refine nd_cVq (As := [.int v0]) (rest := []) (q := Option.map (fun j => a (0 + j * 5 + 57)) q1) (w' := dw_X12 a ac s2) ⟨hx, hb, hml, hown, hts⟩ (fun sz => dm_X12_programOf l hlt dC dI a ac n (v0) s0 hq sz) (cwV 1 hts gi_dm_X12_label_0 rfl rfl rfl (by decide +kernel) ⟨Nat.le_of_ble_eq_true rfl, Nat.le_of_ble_eq_true rfl⟩) hPc hDc hKc hS hA hN (va_recv hKc hPc (ci := 13) (q0 := 0) rfl rfl) rfl hl.1 rfl (Nat.le_of_ble_eq_true rfl) dX12_label_2 (fun H locs hP1 hD1 hk1 hS => ?_)
  have hP := hP1
  have hD := hD1.weaken (fun k q _ h => hFc q.1 h)
  cases hrj4 : q1 with
  | none =>
    have h := nd_mN h hrj4
    refine W.eq (g2 := F0 m 5 ls [.null]) (by first | rfl | (show F0 m _ ls (va_rf (Option.map (fun j => a (0 + j * 5 + 57)) q1) :: _) = _; rw [hrj4]; rfl)) ?_
    refine lv_astore_nN (lv' := [(3, .null), (0, .ref (a 0)), (1, .int v0), (2, .int v1)]) hx hb dX12_label_5 rfl hl (by decide) rfl (fun ls hl => ?_)
    refine lv_aload_nN hx hb dX12_label_6 rfl (lv_at hl 0 rfl) ?_
    refine lv_ifnullN (tgt := 22) hx hb dX12_label_7 (by decide) ?_
    exact (db_X12_label_22 C K)  s2 _ _ _ h hP hD hS (lv_sub hl [] rfl)
  | some j4 =>
    have h := nd_mS h hrj4
    refine W.eq (g2 := F0 m 5 ls [.ref (a (0 + j4 * 5 + 57))]) (by first | rfl | (show F0 m _ ls (va_rf (Option.map (fun j => a (0 + j * 5 + 57)) q1) :: _) = _; rw [hrj4]; rfl)) ?_
    refine lv_astore_n (lv' := [(3, .ref (a (0 + j4 * 5 + 57))), (0, .ref (a 0)), (1, .int v0), (2, .int v1)]) hx hb dX12_label_5 rfl hl (by decide) rfl (fun ls hl => ?_)
    refine lv_aload_n hx hb dX12_label_6 rfl (lv_at hl 0 rfl) ?_
    refine lv_ifnull hx hb dX12_label_7 ?_
    refine lv_iload_n hx hb dX12_label_10 rfl (lv_at hl 3 rfl) ?_
    refine lv_if_lt (tgt := 22) hx hb dX12_label_11 (by decide) (fun c5 => ?_) (fun c5 => ?_)
    · have h := nd_pos h c5
      exact (db_X12_label_22 C K)  s2 _ _ _ h hP hD hS (lv_sub hl [] rfl)
    · have h := nd_neg h c5
      refine lv_iload_n hx hb dX12_label_14 rfl (lv_at hl 3 rfl) ?_
      refine lv_aload_n hx hb dX12_label_15 rfl (lv_at hl 0 rfl) ?_
      obtain ⟨l6, h⟩ := nd_lt_e h
      refine va_get (D := (dC, dI)) (ci := 9) (v := .int (sI (s2.2.2.2.2.2.2.2.2.1 j4) 4)) (C := RX8) (T := TX8) (N := 10) hx hb hts hi_dm_X12_label_X8 hown hK (dl_X12_P8 l6 hP) 0 rfl rfl 6 (by decide) (hts (.fieldLink RX12 98 "TimeMachine$Program" "labels" "I") (List.mem_of_getElem? (i := 5) rfl)) (fun _ h9 => h9) rfl dX12_label_16 ?_
      refine lv_icmp_lt (tgt := 26) hx hb dX12_label_19 (by decide) (fun c7 => ?_) (fun c7 => ?_)
      · have h := nd_pos h c7
        refine lv_aload_n hx hb dX12_label_26 rfl (lv_at hl 0 rfl) ?_
        refine va_get (D := (dC, dI)) (ci := 9) (v := .ref (a (2 + j4 * 5 + 57))) (C := RX8) (T := TX8) (N := 10) hx hb hts hi_dm_X12_label_X8 hown hK (dl_X12_P8 l6 hP) 0 rfl rfl 5 (by decide) (hts (.fieldLink RX12 107 "TimeMachine$Program" "label" "[I") (List.mem_of_getElem? (i := 6) rfl)) (fun _ h9 => h9) rfl dX12_label_27 ?_
        refine lv_iload_n hx hb dX12_label_30 rfl (lv_at hl 3 rfl) ?_
        obtain ⟨i8, h⟩ := nd_ck_e h
        refine va_iald (i := v1) hx hb (dq_X12_P8 l6 hK) (dl_X12_P8 l6 hP) 2 1 rfl rfl i8 dX12_label_31 ?_
        exact (db_X12_label_32 C K) ((sR (s2.2.2.2.2.2.2.2.2.1 j4) 1 (Int32.toNatClampNeg v1))) s2 _ _ _ h hP hD hS (lv_sub hl [] rfl)
      · have h := nd_neg h c7
        exact (db_X12_label_22 C K)  s2 _ _ _ h hP hD hS (lv_sub hl [] rfl)
set_option maxHeartbeats 40000000 in
set_option maxRecDepth 100000 in
theorem dm_X12_label (l : Launch) (hlt : l.stackTraces = false) (dC : Nat → ClassId) (dI : Nat → Nat → Nat) (a : Nat → Nat) (ac : Nat → ClassId) (n : Nat) (v0 : Int32) (v1 : Int32) (s0 : St × Rw × (St) × (St × (St)) × (St) × (St × (St × (St × (St)))) × (St) × (St) × (Nat → St) × (Nat → St) × (Nat → St × (St))) {r : Int32 × (St × Rw × (St) × (St × (St)) × (St) × (St × (St × (St × (St)))) × (St) × (St) × (Nat → St) × (Nat → St) × (Nat → St × (St)))} (h : df_X12_label n (a 15) (a 3) v0 v1 s0 = some r) (sz : Nat) : Met l yX12_label ow_dm_X12_label ({ frames := 1, cells := 0, slots := 0, locals := 21 }) (va_Pc [.ref (a 0), .int v0, .int v1] (fun U => U.heap.size = sz ∧ va_P (dC, dI) vwCl (dw_X12 a ac s0) U.heap ∧ va_K (dC, dI) vwCl (dk_X12 ac) U ∧ va_D (fun _ => True) (dw_X12 a ac s0) ∧ nv_E (va_A (dw_X12 a ac s0) sz) U)) (va_Qi (fun x _ => x = r.1) (fun (_ : Unit) t => va_P (dC, dI) vwCl (dw_X12 a ac r.2) t.heap ∧ va_K (dC, dI) vwCl (dk_X12 ac) t ∧ va_D (va_A (dw_X12 a ac s0) sz) (dw_X12 a ac r.2)) (va_A (dw_X12 a ac s0) sz)) 0 0 (va_A (dw_X12 a ac s0) sz) := by
  refine Met.ofW (cc := cX12_label) (maxL := 4) (ret := (some .int)) (by decide) rfl ?_
  intro p e s m args below meth c s₁ B hml hv
  obtain ⟨rfl, hsz, hP, hK, hD0, hN⟩ := hv
  have hx := B.exec
  have hb := B.bytes
  have hr := B.returns
  have hts := atoms_spec (ws := ow_dm_X12_label) B.pre
  have hown : s.vm.findClass RX12 = some m.cls := findClass_of_methodNamed B.named
  have hlocks := B.notSynchronized
  subst hsz
  have hD := hD0.self (sz := s.heap.size)
  generalize hAe : va_A (dw_X12 a ac s0) s.heap.size = A at hD hN ⊢
  have hA : ∀ q : Nat, s.heap.size ≤ q → A q := fun q h => by rw [← hAe]; exact Or.inr h
  have hl := lv_entry ([.ref (a 0), .int v0, .int v1]) (n := 4) (Nat.le_of_ble_eq_true rfl)
  rw [lg_entry_eq]
  generalize (lg_sl ([.ref (a 0), .int v0, .int v1]) ++ List.replicate (4 - (lg_sl ([.ref (a 0), .int v0, .int v1])).length) Slot.unset).toArray = ls at hl ⊢
  have hl : lv_has ls 4 [(0, .ref (a 0)), (1, .int v0), (2, .int v1)] := hl
  exact db_X12_label_0 (dC := dC) (dI := dI) (a := a) (ac := ac) (n := n) (r := r) ⟨hlt, hx, hb, hml, hown, hts, hN, hA, hK⟩ (fun pc v τ H locs ls d z er hP hD hS => by subst er; exact W.zret (v := v) hx hb hr z (fun t ht hW => ⟨⟨v, (), rfl, rfl, by rw [ht]; exact hP, va_K.moved hW.alike hK, hD⟩, hS.F ht⟩) hS.2.2 d) v0 v1 s0 _ _ _ h hP hD va_S.rf (lv_sub hl [0, 1, 2] rfl)
set_option maxHeartbeats 40000000 in
set_option maxRecDepth 100000 in
theorem de_wX12_X8_10 {a : Nat → Nat} {ac : Nat → ClassId} {j1 : Nat} {τ : St} : ([dw_X8 (fun k => a (k + j1 * 5 + 57)) (fun k => ac (k + j1 * 5 + 57)) (τ)] : List va_W).flatten = dw_X8 (fun k => a (k + j1 * 5 + 57)) (fun k => ac (k + j1 * 5 + 57)) τ := by
  first
  | (simp only [List.flatten_cons, List.flatten_nil, List.append_nil]; done)
  | (simp only [List.flatten_cons, List.flatten_nil, List.append_nil]; rfl)
set_option maxHeartbeats 40000000 in
set_option maxRecDepth 100000 in
theorem dp_wX12_X8_10 {D : va_G} {H : Heap} {a : Nat → Nat} {ac : Nat → ClassId} {σ : St × Rw × (St) × (St × (St)) × (St) × (St × (St × (St × (St)))) × (St) × (St) × (Nat → St) × (Nat → St) × (Nat → St × (St))} {j1 : Nat} (hj1 : j1 < 9) (h : va_P D vwCl (dw_X12 a ac σ) H) : va_P D vwCl (dw_X8 (fun k => a (k + j1 * 5 + 57)) (fun k => ac (k + j1 * 5 + 57)) (σ.2.2.2.2.2.2.2.2.1 j1)) H := by
  have h2 := nd_vp (segs := dg_X12 a ac σ) (ix := [18 + j1]) (old := [dw_X8 (fun k => a (k + j1 * 5 + 57)) (fun k => ac (k + j1 * 5 + 57)) (σ.2.2.2.2.2.2.2.2.1 j1)]) h (nd_co (dx_X12_P8 hj1) rfl)
  have e := de_wX12_X8_10 (a := a) (ac := ac) (j1 := j1) (τ := (σ.2.2.2.2.2.2.2.2.1 j1))
  exact e ▸ h2
set_option maxHeartbeats 40000000 in
set_option maxRecDepth 100000 in
theorem dd_wX12_X8_10 {A : Nat → Prop} {a : Nat → Nat} {ac : Nat → ClassId} {σ : St × Rw × (St) × (St × (St)) × (St) × (St × (St × (St × (St)))) × (St) × (St) × (Nat → St) × (Nat → St) × (Nat → St × (St))} {j1 : Nat} (hj1 : j1 < 9) (h : va_D A (dw_X12 a ac σ)) : va_D A (dw_X8 (fun k => a (k + j1 * 5 + 57)) (fun k => ac (k + j1 * 5 + 57)) (σ.2.2.2.2.2.2.2.2.1 j1)) := by
  have h2 := nd_vd (segs := dg_X12 a ac σ) (ix := [18 + j1]) (old := [dw_X8 (fun k => a (k + j1 * 5 + 57)) (fun k => ac (k + j1 * 5 + 57)) (σ.2.2.2.2.2.2.2.2.1 j1)]) h (nd_co (dx_X12_P8 hj1) rfl) (by simp only [List.nodup_cons, List.mem_cons, List.not_mem_nil, List.nodup_nil, or_false, not_false_eq_true, and_true, true_and] <;> omega)
  have e := de_wX12_X8_10 (a := a) (ac := ac) (j1 := j1) (τ := (σ.2.2.2.2.2.2.2.2.1 j1))
  exact e ▸ h2
set_option maxHeartbeats 40000000 in
set_option maxRecDepth 100000 in
theorem dy_wX12_X8_10 {D : va_G} {U : State} {ac : Nat → ClassId} {j1 : Nat} (hj1 : j1 < 9) (h : va_K D vwCl (dk_X12 ac) U) : va_K D vwCl (dk_X8 (fun k => ac (k + j1 * 5 + 57))) U := (dq_X12_P8 hj1 h)
set_option maxHeartbeats 40000000 in
set_option maxRecDepth 100000 in
theorem dn_wX12_X8_10 {A0 : Nat → Prop} {D : va_G} {H H1 : Heap} {a : Nat → Nat} {ac : Nat → ClassId} {σ : St × Rw × (St) × (St × (St)) × (St) × (St × (St × (St × (St)))) × (St) × (St) × (Nat → St) × (Nat → St) × (Nat → St × (St))} {τ : St} {j1 : Nat} (hj1 : j1 < 9) (hP : va_P D vwCl (dw_X12 a ac σ) H) (hD : va_D A0 (dw_X12 a ac σ)) (hA : ∀ q : Nat, H.size ≤ q → A0 q) (hk : ∀ q : Nat, q < H.size → ¬ va_A (dw_X8 (fun k => a (k + j1 * 5 + 57)) (fun k => ac (k + j1 * 5 + 57)) (σ.2.2.2.2.2.2.2.2.1 j1)) H.size q → H1[q]? = H[q]?) (h1 : va_P D vwCl (dw_X8 (fun k => a (k + j1 * 5 + 57)) (fun k => ac (k + j1 * 5 + 57)) τ) H1) (h2 : va_D (va_A (dw_X8 (fun k => a (k + j1 * 5 + 57)) (fun k => ac (k + j1 * 5 + 57)) (σ.2.2.2.2.2.2.2.2.1 j1)) H.size) (dw_X8 (fun k => a (k + j1 * 5 + 57)) (fun k => ac (k + j1 * 5 + 57)) τ)) : va_P D vwCl (dw_X12 a ac (σ.1, (σ.2.1, (σ.2.2.1, (σ.2.2.2.1, (σ.2.2.2.2.1, (σ.2.2.2.2.2.1, (σ.2.2.2.2.2.2.1, (σ.2.2.2.2.2.2.2.1, ((fun i => if i = j1 then τ else σ.2.2.2.2.2.2.2.2.1 i), σ.2.2.2.2.2.2.2.2.2)))))))))) H1 ∧ va_D A0 (dw_X12 a ac (σ.1, (σ.2.1, (σ.2.2.1, (σ.2.2.2.1, (σ.2.2.2.2.1, (σ.2.2.2.2.2.1, (σ.2.2.2.2.2.2.1, (σ.2.2.2.2.2.2.2.1, ((fun i => if i = j1 then τ else σ.2.2.2.2.2.2.2.2.1 i), σ.2.2.2.2.2.2.2.2.2)))))))))) := by
  have eo := de_wX12_X8_10 (a := a) (ac := ac) (j1 := j1) (τ := (σ.2.2.2.2.2.2.2.2.1 j1))
  have en := de_wX12_X8_10 (a := a) (ac := ac) (j1 := j1) (τ := τ)
  have h := nd_vn (segs := dg_X12 a ac σ) (ix := [18 + j1]) (old := [dw_X8 (fun k => a (k + j1 * 5 + 57)) (fun k => ac (k + j1 * 5 + 57)) (σ.2.2.2.2.2.2.2.2.1 j1)]) (new := [dw_X8 (fun k => a (k + j1 * 5 + 57)) (fun k => ac (k + j1 * 5 + 57)) (τ)]) hP hD (nd_co (dx_X12_P8 hj1) rfl) rfl (fun q z y => hk q z (fun w => y (eo ▸ w))) (en ▸ h1)
  have e0 : (dg_X12 a ac σ).set (18 + j1) (dw_X8 (fun k => a (k + j1 * 5 + 57)) (fun k => ac (k + j1 * 5 + 57)) (τ)) = dg_X12 a ac (σ.1, (σ.2.1, (σ.2.2.1, (σ.2.2.2.1, (σ.2.2.2.2.1, (σ.2.2.2.2.2.1, (σ.2.2.2.2.2.2.1, (σ.2.2.2.2.2.2.2.1, ((fun i => if i = j1 then (τ) else σ.2.2.2.2.2.2.2.2.1 i), σ.2.2.2.2.2.2.2.2.2))))))))) := dz_X12_P8 hj1
  have ee : nd_sets (dg_X12 a ac σ) [18 + j1] [dw_X8 (fun k => a (k + j1 * 5 + 57)) (fun k => ac (k + j1 * 5 + 57)) (τ)] = dg_X12 a ac (σ.1, (σ.2.1, (σ.2.2.1, (σ.2.2.2.1, (σ.2.2.2.2.1, (σ.2.2.2.2.2.1, (σ.2.2.2.2.2.2.1, (σ.2.2.2.2.2.2.2.1, ((fun i => if i = j1 then (τ) else σ.2.2.2.2.2.2.2.2.1 i), σ.2.2.2.2.2.2.2.2.2))))))))) := by
    show (dg_X12 a ac σ).set (18 + j1) (dw_X8 (fun k => a (k + j1 * 5 + 57)) (fun k => ac (k + j1 * 5 + 57)) (τ)) = _
    rw [e0]
  have hz : va_P D vwCl (dg_X12 a ac (σ.1, (σ.2.1, (σ.2.2.1, (σ.2.2.2.1, (σ.2.2.2.2.1, (σ.2.2.2.2.2.1, (σ.2.2.2.2.2.2.1, (σ.2.2.2.2.2.2.2.1, ((fun i => if i = j1 then (τ) else σ.2.2.2.2.2.2.2.2.1 i), σ.2.2.2.2.2.2.2.2.2)))))))))).flatten H1 := by rw [← ee]; exact h
  exact ⟨hz, nd_Da hD dA_X12⟩
def ow_dm_X12_before : List Cond := .code yX12_before cX12_before 4 (some .int) :: ([.methodLink RX12 85 yX12_programOf, .instanceMethod yX12_programOf, .selects RX12 yX12_programOf yX12_programOf, .initialized RX12, .methodLink RX12 111 yX8_labelUpTo, .instanceMethod yX8_labelUpTo, .selects RX8 yX8_labelUpTo yX8_labelUpTo, .initialized RX8] ++ (ow_dm_X12_programOf ++ (ow_dm_X8_labelUpTo ++ [])))
theorem gd_dm_X12_before : ∀ w ∈ ow_dm_X12_before, (w.onTables && w.keeps) = true ∨ ∃ ty, w = Cond.arrayClass ty := List.forall_mem_cons.mpr ⟨good_of_word rfl, List.forall_mem_append.mpr ⟨fun w h => good_of_word (List.all_eq_true.mp (by decide +kernel) w h), List.forall_mem_append.mpr ⟨gd_dm_X12_programOf, List.forall_mem_append.mpr ⟨gd_dm_X8_labelUpTo, fun _ h => nomatch h⟩⟩⟩⟩
theorem gi_dm_X12_before_0 : GoodIn ow_dm_X12_before (wsV RX12 85 RX12 yX12_programOf ow_dm_X12_programOf) := goodIn_app (goodIn_of _ (by decide +kernel)) (fun w h => ⟨List.mem_cons_of_mem _ (List.mem_append_right _ (List.mem_append_left _ h)), gd_dm_X12_programOf w h⟩)
theorem gi_dm_X12_before_1 : GoodIn ow_dm_X12_before (wsV RX12 111 RX8 yX8_labelUpTo ow_dm_X8_labelUpTo) := goodIn_app (goodIn_of _ (by decide +kernel)) (fun w h => ⟨List.mem_cons_of_mem _ (List.mem_append_right _ (List.mem_append_right _ (List.mem_append_left _ h))), gd_dm_X8_labelUpTo w h⟩)
def dj_X12_before_19 (p : Program) (l : Launch) (e : Env) (s : State) (m : MethodId) (args : Array Value) (below : List Frame) (meth : Method) (c : Code) (Q : State → Prop) (A : Nat → Prop) (dC : Nat → ClassId) (dI : Nat → Nat → Nat) (a : Nat → Nat) (ac : Nat → ClassId) (g : Int32 → (St × Rw × (St) × (St × (St)) × (St) × (St × (St × (St × (St)))) × (St) × (St) × (Nat → St) × (Nat → St) × (Nat → St × (St))) → Option (Int32 × (St × Rw × (St) × (St × (St)) × (St) × (St × (St × (St × (St)))) × (St) × (St) × (Nat → St) × (Nat → St) × (Nat → St × (St))))) (r : Int32 × (St × Rw × (St) × (St × (St)) × (St) × (St × (St × (St × (St)))) × (St) × (St) × (Nat → St) × (Nat → St) × (Nat → St × (St)))) : Prop := ∀ (y0 : Int32) (s0 : St × Rw × (St) × (St × (St)) × (St) × (St × (St × (St × (St)))) × (St) × (St) × (Nat → St) × (Nat → St) × (Nat → St × (St))) (H : Heap) (locs : List Loc) (ls : Array Slot), g y0 s0 = some r → va_P (dC, dI) vwCl (dw_X12 a ac s0) H → va_D A (dw_X12 a ac s0) → va_S A s.heap H locs → lv_has ls 4 [] → W p l e (headSpec ow_dm_X12_before ({ frames := 1, cells := 0, slots := 0, locals := 23 })).room s m args below meth c H locs 0 0 Q (F0 m 19 ls [.int y0])
def dj_X12_before_0 (p : Program) (l : Launch) (e : Env) (s : State) (m : MethodId) (args : Array Value) (below : List Frame) (meth : Method) (c : Code) (Q : State → Prop) (A : Nat → Prop) (dC : Nat → ClassId) (dI : Nat → Nat → Nat) (a : Nat → Nat) (ac : Nat → ClassId) (g : Int32 → Int32 → (St × Rw × (St) × (St × (St)) × (St) × (St × (St × (St × (St)))) × (St) × (St) × (Nat → St) × (Nat → St) × (Nat → St × (St))) → Option (Int32 × (St × Rw × (St) × (St × (St)) × (St) × (St × (St × (St × (St)))) × (St) × (St) × (Nat → St) × (Nat → St) × (Nat → St × (St))))) (r : Int32 × (St × Rw × (St) × (St × (St)) × (St) × (St × (St × (St × (St)))) × (St) × (St) × (Nat → St) × (Nat → St) × (Nat → St × (St)))) : Prop := ∀ (v0 : Int32) (v1 : Int32) (s0 : St × Rw × (St) × (St × (St)) × (St) × (St × (St × (St × (St)))) × (St) × (St) × (Nat → St) × (Nat → St) × (Nat → St × (St))) (H : Heap) (locs : List Loc) (ls : Array Slot), g v0 v1 s0 = some r → va_P (dC, dI) vwCl (dw_X12 a ac s0) H → va_D A (dw_X12 a ac s0) → va_S A s.heap H locs → lv_has ls 4 [(0, .ref (a 0)), (1, .int v0), (2, .int v1)] → W p l e (headSpec ow_dm_X12_before ({ frames := 1, cells := 0, slots := 0, locals := 23 })).room s m args below meth c H locs 0 0 Q (F0 m 0 ls [])
set_option maxHeartbeats 40000000 in
set_option maxRecDepth 100000 in
theorem db_X12_before_19 {p : Program} {l : Launch} {e : Env} {s : State} {m : MethodId} {args : Array Value} {below : List Frame} {meth : Method} {c : Code} {Q : State → Prop} {A : Nat → Prop} {dC : Nat → ClassId} {dI : Nat → Nat → Nat} {a : Nat → Nat} {ac : Nat → ClassId} {n : Nat} {r : Int32 × (St × Rw × (St) × (St × (St)) × (St) × (St × (St × (St × (St)))) × (St) × (St) × (Nat → St) × (Nat → St) × (Nat → St × (St)))} (C : nd_C p l s m args c A (dC, dI) cX12_before 4 RX12 ow_dm_X12_before (dk_X12 ac)) (K : nd_Ki p l e (headSpec ow_dm_X12_before ({ frames := 1, cells := 0, slots := 0, locals := 23 })).room s m args below meth c Q A (dC, dI) cX12_before .int (St × Rw × (St) × (St × (St)) × (St) × (St × (St × (St × (St)))) × (St) × (St) × (Nat → St) × (Nat → St) × (Nat → St × (St))) (dw_X12 a ac) r) : dj_X12_before_19 p l e s m args below meth c Q A dC dI a ac (df_X12_before_19 n (a 15) (a 3)) r := by
  obtain ⟨hlt, hx, hb, hml, hown, hts, hN, hA, hK⟩ := id C
  intro y0 s0 H locs ls h hP hD hS hl
  unfold df_X12_before_19 at h
  exact K _ _ _ _ _ _ dX12_before_19 rfl (Option.some.inj h).symm hP hD hS
set_option maxHeartbeats 40000000 in
set_option maxRecDepth 100000 in
theorem db_X12_before_0 {p : Program} {l : Launch} {e : Env} {s : State} {m : MethodId} {args : Array Value} {below : List Frame} {meth : Method} {c : Code} {Q : State → Prop} {A : Nat → Prop} {dC : Nat → ClassId} {dI : Nat → Nat → Nat} {a : Nat → Nat} {ac : Nat → ClassId} {n : Nat} {r : Int32 × (St × Rw × (St) × (St × (St)) × (St) × (St × (St × (St × (St)))) × (St) × (St) × (Nat → St) × (Nat → St) × (Nat → St × (St)))} (C : nd_C p l s m args c A (dC, dI) cX12_before 4 RX12 ow_dm_X12_before (dk_X12 ac)) (K : nd_Ki p l e (headSpec ow_dm_X12_before ({ frames := 1, cells := 0, slots := 0, locals := 23 })).room s m args below meth c Q A (dC, dI) cX12_before .int (St × Rw × (St) × (St × (St)) × (St) × (St × (St × (St × (St)))) × (St) × (St) × (Nat → St) × (Nat → St) × (Nat → St × (St))) (dw_X12 a ac) r) : dj_X12_before_0 p l e s m args below meth c Q A dC dI a ac (df_X12_before_0 n (a 15) (a 3)) r := by
  obtain ⟨hlt, hx, hb, hml, hown, hts, hN, hA, hK⟩ := id C
  intro v0 v1 s0 H locs ls h hP hD hS hl
  unfold df_X12_before_0 at h
  refine lv_aload_n hx hb dX12_before_0 rfl (lv_at hl 0 rfl) ?_
  refine lv_iload_n hx hb dX12_before_1 rfl (lv_at hl 1 rfl) ?_
  obtain ⟨q1, s2, hq, h⟩ := nd_b2_e h
  have hPc := hP
  have hDc := hD
  have hKc := hK
  have hFc := nd_rs hD hS hA
  refine nd_cVq (As := [.int v0]) (rest := []) (q := Option.map (fun j => a (0 + j * 5 + 57)) q1) (w' := dw_X12 a ac s2) ⟨hx, hb, hml, hown, hts⟩ (fun sz => dm_X12_programOf l hlt dC dI a ac n (v0) s0 hq sz) (cwV 1 hts gi_dm_X12_before_0 rfl rfl rfl (by decide +kernel) ⟨Nat.le_of_ble_eq_true rfl, Nat.le_of_ble_eq_true rfl⟩) hPc hDc hKc hS hA hN (va_recv hKc hPc (ci := 13) (q0 := 0) rfl rfl) rfl hl.1 rfl (Nat.le_of_ble_eq_true rfl) dX12_before_2 (fun H locs hP1 hD1 hk1 hS => ?_)
  have hP := hP1
  have hD := hD1.weaken (fun k q _ h => hFc q.1 h)
  cases hrj4 : q1 with
  | none =>
    have h := nd_mN h hrj4
    refine W.eq (g2 := F0 m 5 ls [.null]) (by first | rfl | (show F0 m _ ls (va_rf (Option.map (fun j => a (0 + j * 5 + 57)) q1) :: _) = _; rw [hrj4]; rfl)) ?_
    refine lv_astore_nN (lv' := [(3, .null), (0, .ref (a 0)), (1, .int v0), (2, .int v1)]) hx hb dX12_before_5 rfl hl (by decide) rfl (fun ls hl => ?_)
    refine lv_aload_nN hx hb dX12_before_6 rfl (lv_at hl 0 rfl) ?_
    refine lv_ifnonnullN hx hb dX12_before_7 ?_
    refine lv_iconst (v := (-1)) hx hb dX12_before_10 (by decide) ?_
    refine lv_goto (tgt := 19) hx hb dX12_before_11 (by decide) ?_
    exact (db_X12_before_19 C K) ((-1)) s2 _ _ _ h hP hD hS (lv_sub hl [] rfl)
  | some j4 =>
    have h := nd_mS h hrj4
    refine W.eq (g2 := F0 m 5 ls [.ref (a (0 + j4 * 5 + 57))]) (by first | rfl | (show F0 m _ ls (va_rf (Option.map (fun j => a (0 + j * 5 + 57)) q1) :: _) = _; rw [hrj4]; rfl)) ?_
    refine lv_astore_n (lv' := [(3, .ref (a (0 + j4 * 5 + 57))), (0, .ref (a 0)), (1, .int v0), (2, .int v1)]) hx hb dX12_before_5 rfl hl (by decide) rfl (fun ls hl => ?_)
    refine lv_aload_n hx hb dX12_before_6 rfl (lv_at hl 0 rfl) ?_
    refine lv_ifnonnull (tgt := 14) hx hb dX12_before_7 (by decide) ?_
    refine lv_aload_n hx hb dX12_before_14 rfl (lv_at hl 0 rfl) ?_
    refine lv_iload_n hx hb dX12_before_15 rfl (lv_at hl 3 rfl) ?_
    obtain ⟨l5, h⟩ := nd_lt_e h
    obtain ⟨q6, s7, hq, h⟩ := nd_b2_e h
    have hPc := dp_wX12_X8_10 l5 hP
    have hDc := dd_wX12_X8_10 l5 hD
    have hKc := dy_wX12_X8_10 l5 hK
    have hFc := nd_rs hDc hS hA
    have hzA : ∀ q : Nat, H.size ≤ q → A q := fun q h => hA q (Nat.le_trans hS.1 h)
    refine nd_cVi (As := [.int v1]) (rest := []) (q := q6) (w' := dw_X8 (fun k => a (k + j4 * 5 + 57)) (fun k => ac (k + j4 * 5 + 57)) s7) ⟨hx, hb, hml, hown, hts⟩ (fun sz => dm_X8_labelUpTo l hlt dC dI (fun k => a (k + j4 * 5 + 57)) (fun k => ac (k + j4 * 5 + 57)) n (v1) (s2.2.2.2.2.2.2.2.2.1 j4) hq sz) (cwV 1 hts gi_dm_X12_before_1 rfl rfl rfl (by decide +kernel) ⟨Nat.le_of_ble_eq_true rfl, Nat.le_of_ble_eq_true rfl⟩) hPc hDc hKc hS hA hN (va_recv hKc hPc (ci := 9) (q0 := 0) rfl rfl) rfl hl.1 rfl (Nat.le_of_ble_eq_true rfl) dX12_before_16 (fun H locs hP1 hD1 hk1 hS => ?_)
    obtain ⟨hP, hD⟩ := dn_wX12_X8_10 l5 hP hD hzA hk1 hP1 hD1
    obtain ⟨s9, es9, h⟩ := nd_let_e h
    have hP : va_P (dC, dI) vwCl (dw_X12 a ac s9) H := by rw [es9]; exact hP
    have hD : va_D A (dw_X12 a ac s9) := by rw [es9]; exact hD
    exact (db_X12_before_19 C K) (q6) s9 _ _ _ h hP hD hS (lv_sub hl [] rfl)
set_option maxHeartbeats 40000000 in
set_option maxRecDepth 100000 in
theorem dm_X12_before (l : Launch) (hlt : l.stackTraces = false) (dC : Nat → ClassId) (dI : Nat → Nat → Nat) (a : Nat → Nat) (ac : Nat → ClassId) (n : Nat) (v0 : Int32) (v1 : Int32) (s0 : St × Rw × (St) × (St × (St)) × (St) × (St × (St × (St × (St)))) × (St) × (St) × (Nat → St) × (Nat → St) × (Nat → St × (St))) {r : Int32 × (St × Rw × (St) × (St × (St)) × (St) × (St × (St × (St × (St)))) × (St) × (St) × (Nat → St) × (Nat → St) × (Nat → St × (St)))} (h : df_X12_before n (a 15) (a 3) v0 v1 s0 = some r) (sz : Nat) : Met l yX12_before ow_dm_X12_before ({ frames := 1, cells := 0, slots := 0, locals := 23 }) (va_Pc [.ref (a 0), .int v0, .int v1] (fun U => U.heap.size = sz ∧ va_P (dC, dI) vwCl (dw_X12 a ac s0) U.heap ∧ va_K (dC, dI) vwCl (dk_X12 ac) U ∧ va_D (fun _ => True) (dw_X12 a ac s0) ∧ nv_E (va_A (dw_X12 a ac s0) sz) U)) (va_Qi (fun x _ => x = r.1) (fun (_ : Unit) t => va_P (dC, dI) vwCl (dw_X12 a ac r.2) t.heap ∧ va_K (dC, dI) vwCl (dk_X12 ac) t ∧ va_D (va_A (dw_X12 a ac s0) sz) (dw_X12 a ac r.2)) (va_A (dw_X12 a ac s0) sz)) 0 0 (va_A (dw_X12 a ac s0) sz) := by
  refine Met.ofW (cc := cX12_before) (maxL := 4) (ret := (some .int)) (by decide) rfl ?_
  intro p e s m args below meth c s₁ B hml hv
  obtain ⟨rfl, hsz, hP, hK, hD0, hN⟩ := hv
  have hx := B.exec
  have hb := B.bytes
  have hr := B.returns
  have hts := atoms_spec (ws := ow_dm_X12_before) B.pre
  have hown : s.vm.findClass RX12 = some m.cls := findClass_of_methodNamed B.named
  have hlocks := B.notSynchronized
  subst hsz
  have hD := hD0.self (sz := s.heap.size)
  generalize hAe : va_A (dw_X12 a ac s0) s.heap.size = A at hD hN ⊢
  have hA : ∀ q : Nat, s.heap.size ≤ q → A q := fun q h => by rw [← hAe]; exact Or.inr h
  have hl := lv_entry ([.ref (a 0), .int v0, .int v1]) (n := 4) (Nat.le_of_ble_eq_true rfl)
  rw [lg_entry_eq]
  generalize (lg_sl ([.ref (a 0), .int v0, .int v1]) ++ List.replicate (4 - (lg_sl ([.ref (a 0), .int v0, .int v1])).length) Slot.unset).toArray = ls at hl ⊢
  have hl : lv_has ls 4 [(0, .ref (a 0)), (1, .int v0), (2, .int v1)] := hl
  exact db_X12_before_0 (dC := dC) (dI := dI) (a := a) (ac := ac) (n := n) (r := r) ⟨hlt, hx, hb, hml, hown, hts, hN, hA, hK⟩ (fun pc v τ H locs ls d z er hP hD hS => by subst er; exact W.zret (v := v) hx hb hr z (fun t ht hW => ⟨⟨v, (), rfl, rfl, by rw [ht]; exact hP, va_K.moved hW.alike hK, hD⟩, hS.F ht⟩) hS.2.2 d) v0 v1 s0 _ _ _ h hP hD va_S.rf (lv_sub hl [0, 1, 2] rfl)
def ow_dm_X12_line : List Cond := .code yX12_line cX12_line 4 (some .int) :: ([.methodLink RX12 85 yX12_programOf, .instanceMethod yX12_programOf, .selects RX12 yX12_programOf yX12_programOf, .initialized RX12, .methodLink RX12 115 yX8_lineOf, .instanceMethod yX8_lineOf, .selects RX8 yX8_lineOf yX8_lineOf, .initialized RX8] ++ (ow_dm_X12_programOf ++ (ow_dm_X8_lineOf ++ [])))
theorem gd_dm_X12_line : ∀ w ∈ ow_dm_X12_line, (w.onTables && w.keeps) = true ∨ ∃ ty, w = Cond.arrayClass ty := List.forall_mem_cons.mpr ⟨good_of_word rfl, List.forall_mem_append.mpr ⟨fun w h => good_of_word (List.all_eq_true.mp (by decide +kernel) w h), List.forall_mem_append.mpr ⟨gd_dm_X12_programOf, List.forall_mem_append.mpr ⟨gd_dm_X8_lineOf, fun _ h => nomatch h⟩⟩⟩⟩
theorem gi_dm_X12_line_0 : GoodIn ow_dm_X12_line (wsV RX12 85 RX12 yX12_programOf ow_dm_X12_programOf) := goodIn_app (goodIn_of _ (by decide +kernel)) (fun w h => ⟨List.mem_cons_of_mem _ (List.mem_append_right _ (List.mem_append_left _ h)), gd_dm_X12_programOf w h⟩)
theorem gi_dm_X12_line_1 : GoodIn ow_dm_X12_line (wsV RX12 115 RX8 yX8_lineOf ow_dm_X8_lineOf) := goodIn_app (goodIn_of _ (by decide +kernel)) (fun w h => ⟨List.mem_cons_of_mem _ (List.mem_append_right _ (List.mem_append_right _ (List.mem_append_left _ h))), gd_dm_X8_lineOf w h⟩)
def dj_X12_line_19 (p : Program) (l : Launch) (e : Env) (s : State) (m : MethodId) (args : Array Value) (below : List Frame) (meth : Method) (c : Code) (Q : State → Prop) (A : Nat → Prop) (dC : Nat → ClassId) (dI : Nat → Nat → Nat) (a : Nat → Nat) (ac : Nat → ClassId) (g : Int32 → (St × Rw × (St) × (St × (St)) × (St) × (St × (St × (St × (St)))) × (St) × (St) × (Nat → St) × (Nat → St) × (Nat → St × (St))) → Option (Int32 × (St × Rw × (St) × (St × (St)) × (St) × (St × (St × (St × (St)))) × (St) × (St) × (Nat → St) × (Nat → St) × (Nat → St × (St))))) (r : Int32 × (St × Rw × (St) × (St × (St)) × (St) × (St × (St × (St × (St)))) × (St) × (St) × (Nat → St) × (Nat → St) × (Nat → St × (St)))) : Prop := ∀ (y0 : Int32) (s0 : St × Rw × (St) × (St × (St)) × (St) × (St × (St × (St × (St)))) × (St) × (St) × (Nat → St) × (Nat → St) × (Nat → St × (St))) (H : Heap) (locs : List Loc) (ls : Array Slot), g y0 s0 = some r → va_P (dC, dI) vwCl (dw_X12 a ac s0) H → va_D A (dw_X12 a ac s0) → va_S A s.heap H locs → lv_has ls 4 [] → W p l e (headSpec ow_dm_X12_line ({ frames := 1, cells := 0, slots := 0, locals := 23 })).room s m args below meth c H locs 0 0 Q (F0 m 19 ls [.int y0])
def dj_X12_line_0 (p : Program) (l : Launch) (e : Env) (s : State) (m : MethodId) (args : Array Value) (below : List Frame) (meth : Method) (c : Code) (Q : State → Prop) (A : Nat → Prop) (dC : Nat → ClassId) (dI : Nat → Nat → Nat) (a : Nat → Nat) (ac : Nat → ClassId) (g : Int32 → Int32 → (St × Rw × (St) × (St × (St)) × (St) × (St × (St × (St × (St)))) × (St) × (St) × (Nat → St) × (Nat → St) × (Nat → St × (St))) → Option (Int32 × (St × Rw × (St) × (St × (St)) × (St) × (St × (St × (St × (St)))) × (St) × (St) × (Nat → St) × (Nat → St) × (Nat → St × (St))))) (r : Int32 × (St × Rw × (St) × (St × (St)) × (St) × (St × (St × (St × (St)))) × (St) × (St) × (Nat → St) × (Nat → St) × (Nat → St × (St)))) : Prop := ∀ (v0 : Int32) (v1 : Int32) (s0 : St × Rw × (St) × (St × (St)) × (St) × (St × (St × (St × (St)))) × (St) × (St) × (Nat → St) × (Nat → St) × (Nat → St × (St))) (H : Heap) (locs : List Loc) (ls : Array Slot), g v0 v1 s0 = some r → va_P (dC, dI) vwCl (dw_X12 a ac s0) H → va_D A (dw_X12 a ac s0) → va_S A s.heap H locs → lv_has ls 4 [(0, .ref (a 0)), (1, .int v0), (2, .int v1)] → W p l e (headSpec ow_dm_X12_line ({ frames := 1, cells := 0, slots := 0, locals := 23 })).room s m args below meth c H locs 0 0 Q (F0 m 0 ls [])
set_option maxHeartbeats 40000000 in
set_option maxRecDepth 100000 in
theorem db_X12_line_19 {p : Program} {l : Launch} {e : Env} {s : State} {m : MethodId} {args : Array Value} {below : List Frame} {meth : Method} {c : Code} {Q : State → Prop} {A : Nat → Prop} {dC : Nat → ClassId} {dI : Nat → Nat → Nat} {a : Nat → Nat} {ac : Nat → ClassId} {n : Nat} {r : Int32 × (St × Rw × (St) × (St × (St)) × (St) × (St × (St × (St × (St)))) × (St) × (St) × (Nat → St) × (Nat → St) × (Nat → St × (St)))} (C : nd_C p l s m args c A (dC, dI) cX12_line 4 RX12 ow_dm_X12_line (dk_X12 ac)) (K : nd_Ki p l e (headSpec ow_dm_X12_line ({ frames := 1, cells := 0, slots := 0, locals := 23 })).room s m args below meth c Q A (dC, dI) cX12_line .int (St × Rw × (St) × (St × (St)) × (St) × (St × (St × (St × (St)))) × (St) × (St) × (Nat → St) × (Nat → St) × (Nat → St × (St))) (dw_X12 a ac) r) : dj_X12_line_19 p l e s m args below meth c Q A dC dI a ac (df_X12_line_19 n (a 15) (a 3)) r := by
  obtain ⟨hlt, hx, hb, hml, hown, hts, hN, hA, hK⟩ := id C
  intro y0 s0 H locs ls h hP hD hS hl
  unfold df_X12_line_19 at h
  exact K _ _ _ _ _ _ dX12_line_19 rfl (Option.some.inj h).symm hP hD hS
set_option maxHeartbeats 40000000 in
set_option maxRecDepth 100000 in
theorem db_X12_line_0 {p : Program} {l : Launch} {e : Env} {s : State} {m : MethodId} {args : Array Value} {below : List Frame} {meth : Method} {c : Code} {Q : State → Prop} {A : Nat → Prop} {dC : Nat → ClassId} {dI : Nat → Nat → Nat} {a : Nat → Nat} {ac : Nat → ClassId} {n : Nat} {r : Int32 × (St × Rw × (St) × (St × (St)) × (St) × (St × (St × (St × (St)))) × (St) × (St) × (Nat → St) × (Nat → St) × (Nat → St × (St)))} (C : nd_C p l s m args c A (dC, dI) cX12_line 4 RX12 ow_dm_X12_line (dk_X12 ac)) (K : nd_Ki p l e (headSpec ow_dm_X12_line ({ frames := 1, cells := 0, slots := 0, locals := 23 })).room s m args below meth c Q A (dC, dI) cX12_line .int (St × Rw × (St) × (St × (St)) × (St) × (St × (St × (St × (St)))) × (St) × (St) × (Nat → St) × (Nat → St) × (Nat → St × (St))) (dw_X12 a ac) r) : dj_X12_line_0 p l e s m args below meth c Q A dC dI a ac (df_X12_line_0 n (a 15) (a 3)) r := by
  obtain ⟨hlt, hx, hb, hml, hown, hts, hN, hA, hK⟩ := id C
  intro v0 v1 s0 H locs ls h hP hD hS hl
  unfold df_X12_line_0 at h
  refine lv_aload_n hx hb dX12_line_0 rfl (lv_at hl 0 rfl) ?_
  refine lv_iload_n hx hb dX12_line_1 rfl (lv_at hl 1 rfl) ?_
  obtain ⟨q1, s2, hq, h⟩ := nd_b2_e h
  have hPc := hP
  have hDc := hD
  have hKc := hK
  have hFc := nd_rs hD hS hA
  refine nd_cVq (As := [.int v0]) (rest := []) (q := Option.map (fun j => a (0 + j * 5 + 57)) q1) (w' := dw_X12 a ac s2) ⟨hx, hb, hml, hown, hts⟩ (fun sz => dm_X12_programOf l hlt dC dI a ac n (v0) s0 hq sz) (cwV 1 hts gi_dm_X12_line_0 rfl rfl rfl (by decide +kernel) ⟨Nat.le_of_ble_eq_true rfl, Nat.le_of_ble_eq_true rfl⟩) hPc hDc hKc hS hA hN (va_recv hKc hPc (ci := 13) (q0 := 0) rfl rfl) rfl hl.1 rfl (Nat.le_of_ble_eq_true rfl) dX12_line_2 (fun H locs hP1 hD1 hk1 hS => ?_)
  have hP := hP1
  have hD := hD1.weaken (fun k q _ h => hFc q.1 h)
  cases hrj4 : q1 with
  | none =>
    have h := nd_mN h hrj4
    refine W.eq (g2 := F0 m 5 ls [.null]) (by first | rfl | (show F0 m _ ls (va_rf (Option.map (fun j => a (0 + j * 5 + 57)) q1) :: _) = _; rw [hrj4]; rfl)) ?_
    refine lv_astore_nN (lv' := [(3, .null), (0, .ref (a 0)), (1, .int v0), (2, .int v1)]) hx hb dX12_line_5 rfl hl (by decide) rfl (fun ls hl => ?_)
    refine lv_aload_nN hx hb dX12_line_6 rfl (lv_at hl 0 rfl) ?_
    refine lv_ifnonnullN hx hb dX12_line_7 ?_
    refine lv_iconst (v := 0) hx hb dX12_line_10 (by decide) ?_
    refine lv_goto (tgt := 19) hx hb dX12_line_11 (by decide) ?_
    exact (db_X12_line_19 C K) (0) s2 _ _ _ h hP hD hS (lv_sub hl [] rfl)
  | some j4 =>
    have h := nd_mS h hrj4
    refine W.eq (g2 := F0 m 5 ls [.ref (a (0 + j4 * 5 + 57))]) (by first | rfl | (show F0 m _ ls (va_rf (Option.map (fun j => a (0 + j * 5 + 57)) q1) :: _) = _; rw [hrj4]; rfl)) ?_
    refine lv_astore_n (lv' := [(3, .ref (a (0 + j4 * 5 + 57))), (0, .ref (a 0)), (1, .int v0), (2, .int v1)]) hx hb dX12_line_5 rfl hl (by decide) rfl (fun ls hl => ?_)
    refine lv_aload_n hx hb dX12_line_6 rfl (lv_at hl 0 rfl) ?_
    refine lv_ifnonnull (tgt := 14) hx hb dX12_line_7 (by decide) ?_
    refine lv_aload_n hx hb dX12_line_14 rfl (lv_at hl 0 rfl) ?_
    refine lv_iload_n hx hb dX12_line_15 rfl (lv_at hl 3 rfl) ?_
    obtain ⟨l5, h⟩ := nd_lt_e h
    obtain ⟨q6, s7, hq, h⟩ := nd_b2_e h
    have hPc := dp_wX12_X8_10 l5 hP
    have hDc := dd_wX12_X8_10 l5 hD
    have hKc := dy_wX12_X8_10 l5 hK
    have hFc := nd_rs hDc hS hA
    have hzA : ∀ q : Nat, H.size ≤ q → A q := fun q h => hA q (Nat.le_trans hS.1 h)
    refine nd_cVi (As := [.int v1]) (rest := []) (q := q6) (w' := dw_X8 (fun k => a (k + j4 * 5 + 57)) (fun k => ac (k + j4 * 5 + 57)) s7) ⟨hx, hb, hml, hown, hts⟩ (fun sz => dm_X8_lineOf l hlt dC dI (fun k => a (k + j4 * 5 + 57)) (fun k => ac (k + j4 * 5 + 57)) n (v1) (s2.2.2.2.2.2.2.2.2.1 j4) hq sz) (cwV 1 hts gi_dm_X12_line_1 rfl rfl rfl (by decide +kernel) ⟨Nat.le_of_ble_eq_true rfl, Nat.le_of_ble_eq_true rfl⟩) hPc hDc hKc hS hA hN (va_recv hKc hPc (ci := 9) (q0 := 0) rfl rfl) rfl hl.1 rfl (Nat.le_of_ble_eq_true rfl) dX12_line_16 (fun H locs hP1 hD1 hk1 hS => ?_)
    obtain ⟨hP, hD⟩ := dn_wX12_X8_10 l5 hP hD hzA hk1 hP1 hD1
    obtain ⟨s9, es9, h⟩ := nd_let_e h
    have hP : va_P (dC, dI) vwCl (dw_X12 a ac s9) H := by rw [es9]; exact hP
    have hD : va_D A (dw_X12 a ac s9) := by rw [es9]; exact hD
    exact (db_X12_line_19 C K) (q6) s9 _ _ _ h hP hD hS (lv_sub hl [] rfl)
set_option maxHeartbeats 40000000 in
set_option maxRecDepth 100000 in
theorem dm_X12_line (l : Launch) (hlt : l.stackTraces = false) (dC : Nat → ClassId) (dI : Nat → Nat → Nat) (a : Nat → Nat) (ac : Nat → ClassId) (n : Nat) (v0 : Int32) (v1 : Int32) (s0 : St × Rw × (St) × (St × (St)) × (St) × (St × (St × (St × (St)))) × (St) × (St) × (Nat → St) × (Nat → St) × (Nat → St × (St))) {r : Int32 × (St × Rw × (St) × (St × (St)) × (St) × (St × (St × (St × (St)))) × (St) × (St) × (Nat → St) × (Nat → St) × (Nat → St × (St)))} (h : df_X12_line n (a 15) (a 3) v0 v1 s0 = some r) (sz : Nat) : Met l yX12_line ow_dm_X12_line ({ frames := 1, cells := 0, slots := 0, locals := 23 }) (va_Pc [.ref (a 0), .int v0, .int v1] (fun U => U.heap.size = sz ∧ va_P (dC, dI) vwCl (dw_X12 a ac s0) U.heap ∧ va_K (dC, dI) vwCl (dk_X12 ac) U ∧ va_D (fun _ => True) (dw_X12 a ac s0) ∧ nv_E (va_A (dw_X12 a ac s0) sz) U)) (va_Qi (fun x _ => x = r.1) (fun (_ : Unit) t => va_P (dC, dI) vwCl (dw_X12 a ac r.2) t.heap ∧ va_K (dC, dI) vwCl (dk_X12 ac) t ∧ va_D (va_A (dw_X12 a ac s0) sz) (dw_X12 a ac r.2)) (va_A (dw_X12 a ac s0) sz)) 0 0 (va_A (dw_X12 a ac s0) sz) := by
  refine Met.ofW (cc := cX12_line) (maxL := 4) (ret := (some .int)) (by decide) rfl ?_
  intro p e s m args below meth c s₁ B hml hv
  obtain ⟨rfl, hsz, hP, hK, hD0, hN⟩ := hv
  have hx := B.exec
  have hb := B.bytes
  have hr := B.returns
  have hts := atoms_spec (ws := ow_dm_X12_line) B.pre
  have hown : s.vm.findClass RX12 = some m.cls := findClass_of_methodNamed B.named
  have hlocks := B.notSynchronized
  subst hsz
  have hD := hD0.self (sz := s.heap.size)
  generalize hAe : va_A (dw_X12 a ac s0) s.heap.size = A at hD hN ⊢
  have hA : ∀ q : Nat, s.heap.size ≤ q → A q := fun q h => by rw [← hAe]; exact Or.inr h
  have hl := lv_entry ([.ref (a 0), .int v0, .int v1]) (n := 4) (Nat.le_of_ble_eq_true rfl)
  rw [lg_entry_eq]
  generalize (lg_sl ([.ref (a 0), .int v0, .int v1]) ++ List.replicate (4 - (lg_sl ([.ref (a 0), .int v0, .int v1])).length) Slot.unset).toArray = ls at hl ⊢
  have hl : lv_has ls 4 [(0, .ref (a 0)), (1, .int v0), (2, .int v1)] := hl
  exact db_X12_line_0 (dC := dC) (dI := dI) (a := a) (ac := ac) (n := n) (r := r) ⟨hlt, hx, hb, hml, hown, hts, hN, hA, hK⟩ (fun pc v τ H locs ls d z er hP hD hS => by subst er; exact W.zret (v := v) hx hb hr z (fun t ht hW => ⟨⟨v, (), rfl, rfl, by rw [ht]; exact hP, va_K.moved hW.alike hK, hD⟩, hS.F ht⟩) hS.2.2 d) v0 v1 s0 _ _ _ h hP hD va_S.rf (lv_sub hl [0, 1, 2] rfl)
set_option maxHeartbeats 40000000 in
set_option maxRecDepth 100000 in
theorem de_wX12_X11_11 {a : Nat → Nat} {ac : Nat → ClassId} {σ : St × Rw × (St) × (St × (St)) × (St) × (St × (St × (St × (St)))) × (St) × (St) × (Nat → St) × (Nat → St) × (Nat → St × (St))} : dw_X12 a ac σ = ([dw_X12o a ac (σ.1), [(a 1, .inl (ac 1, 9, .inr (.inr (.inr (.inr (fun i => Option.map (fun j => a (0 + j * 5 + 57)) ((σ.2.1) 4 i)))))))], [(a 2, .inl (ac 2, 9, .inr (.inr (.inr (.inr (fun i => Option.map (fun j => a (0 + j * 9 + 102)) ((σ.2.1) 5 i)))))))], dw_LG (fun k => a (k + 3)) (fun k => ac (k + 3)) (σ.2.2.1), dwo_X1 (fun k => a (k + 4)) (fun k => ac (k + 4)) (σ.2.2.2.1.1), dwc_X9 (fun k => a (k + 7)) (fun k => ac (k + 7)) (σ.2.2.2.1.2), [(a 15, .inl (ac 15, 32768, .inl (sR (σ.2.2.2.1.2) 7)))]] : List va_W).flatten ++ dw_X11 (fun k => a (k + 16)) (fun k => ac (k + 16)) (σ.2.2.2.2.1, σ.2.1, σ.2.2.2.2.2.1, σ.2.2.2.2.2.2.1, σ.2.2.2.2.2.2.2.1, σ.2.2.2.2.2.2.2.2.1, σ.2.2.2.2.2.2.2.2.2.1, σ.2.2.2.2.2.2.2.2.2.2) := by
  unfold dw_X12 dw_X11
  rw [← List.flatten_append]
  rfl
set_option maxHeartbeats 40000000 in
set_option maxRecDepth 100000 in
theorem dp_wX12_X11_11 {D : va_G} {H : Heap} {a : Nat → Nat} {ac : Nat → ClassId} {σ : St × Rw × (St) × (St × (St)) × (St) × (St × (St × (St × (St)))) × (St) × (St) × (Nat → St) × (Nat → St) × (Nat → St × (St))} (h : va_P D vwCl (dw_X12 a ac σ) H) : va_P D vwCl (dw_X11 (fun k => a (k + 16)) (fun k => ac (k + 16)) (σ.2.2.2.2.1, σ.2.1, σ.2.2.2.2.2.1, σ.2.2.2.2.2.2.1, σ.2.2.2.2.2.2.2.1, σ.2.2.2.2.2.2.2.2.1, σ.2.2.2.2.2.2.2.2.2.1, σ.2.2.2.2.2.2.2.2.2.2)) H := by
  rw [de_wX12_X11_11] at h
  exact nd_pr h
set_option maxHeartbeats 40000000 in
set_option maxRecDepth 100000 in
theorem dd_wX12_X11_11 {A : Nat → Prop} {a : Nat → Nat} {ac : Nat → ClassId} {σ : St × Rw × (St) × (St × (St)) × (St) × (St × (St × (St × (St)))) × (St) × (St) × (Nat → St) × (Nat → St) × (Nat → St × (St))} (h : va_D A (dw_X12 a ac σ)) : va_D A (dw_X11 (fun k => a (k + 16)) (fun k => ac (k + 16)) (σ.2.2.2.2.1, σ.2.1, σ.2.2.2.2.2.1, σ.2.2.2.2.2.2.1, σ.2.2.2.2.2.2.2.1, σ.2.2.2.2.2.2.2.2.1, σ.2.2.2.2.2.2.2.2.2.1, σ.2.2.2.2.2.2.2.2.2.2)) := by
  rw [de_wX12_X11_11] at h
  exact nd_dr h
set_option maxHeartbeats 40000000 in
set_option maxRecDepth 100000 in
theorem dy_wX12_X11_11 {D : va_G} {U : State} {ac : Nat → ClassId} (h : va_K D vwCl (dk_X12 ac) U) : va_K D vwCl (dk_X11 (fun k => ac (k + 16))) U := (va_K.app (h.sub [13, 14, 15, 16, 17, 18, 19, 20, 21, 22, 23, 24, 25, 26, 27, 28, 29, 30, 31, 32, 33, 34, 35, 36, 37, 38, 39, 40, 41, 42, 43, 44, 45, 46] rfl) (nd_ks h (fun q hq => List.mem_append_right _ hq)))
set_option maxHeartbeats 40000000 in
set_option maxRecDepth 100000 in
theorem dn_wX12_X11_11 {A0 : Nat → Prop} {D : va_G} {H H1 : Heap} {a : Nat → Nat} {ac : Nat → ClassId} {σ : St × Rw × (St) × (St × (St)) × (St) × (St × (St × (St × (St)))) × (St) × (St) × (Nat → St) × (Nat → St) × (Nat → St × (St))} {τ : St × Rw × (St × (St × (St × (St)))) × (St) × (St) × (Nat → St) × (Nat → St) × (Nat → St × (St))} (hP : va_P D vwCl (dw_X12 a ac σ) H) (hD : va_D A0 (dw_X12 a ac σ)) (hA : ∀ q : Nat, H.size ≤ q → A0 q) (hk : ∀ q : Nat, q < H.size → ¬ va_A (dw_X11 (fun k => a (k + 16)) (fun k => ac (k + 16)) (σ.2.2.2.2.1, σ.2.1, σ.2.2.2.2.2.1, σ.2.2.2.2.2.2.1, σ.2.2.2.2.2.2.2.1, σ.2.2.2.2.2.2.2.2.1, σ.2.2.2.2.2.2.2.2.2.1, σ.2.2.2.2.2.2.2.2.2.2)) H.size q → H1[q]? = H[q]?) (h1 : va_P D vwCl (dw_X11 (fun k => a (k + 16)) (fun k => ac (k + 16)) τ) H1) (h2 : va_D (va_A (dw_X11 (fun k => a (k + 16)) (fun k => ac (k + 16)) (σ.2.2.2.2.1, σ.2.1, σ.2.2.2.2.2.1, σ.2.2.2.2.2.2.1, σ.2.2.2.2.2.2.2.1, σ.2.2.2.2.2.2.2.2.1, σ.2.2.2.2.2.2.2.2.2.1, σ.2.2.2.2.2.2.2.2.2.2)) H.size) (dw_X11 (fun k => a (k + 16)) (fun k => ac (k + 16)) τ)) : va_P D vwCl (dw_X12 a ac (σ.1, (nd_mix 4 τ.2.1 σ.2.1), σ.2.2.1, σ.2.2.2.1, τ.1, τ.2.2.1, τ.2.2.2.1, τ.2.2.2.2.1, τ.2.2.2.2.2.1, τ.2.2.2.2.2.2.1, τ.2.2.2.2.2.2.2)) H1 ∧ va_D A0 (dw_X12 a ac (σ.1, (nd_mix 4 τ.2.1 σ.2.1), σ.2.2.1, σ.2.2.2.1, τ.1, τ.2.2.1, τ.2.2.2.1, τ.2.2.2.2.1, τ.2.2.2.2.2.1, τ.2.2.2.2.2.2.1, τ.2.2.2.2.2.2.2)) := by
  have hD0 := hD
  rw [de_wX12_X11_11] at hP hD
  obtain ⟨g1, -, -⟩ := nd_stepR hP hD hk h1 h2
  have e2 : dg_X11 (fun k => a (k + 16)) (fun k => ac (k + 16)) ((σ.1, (nd_mix 4 τ.2.1 σ.2.1), σ.2.2.1, σ.2.2.2.1, τ.1, τ.2.2.1, τ.2.2.2.1, τ.2.2.2.2.1, τ.2.2.2.2.2.1, τ.2.2.2.2.2.2.1, τ.2.2.2.2.2.2.2).2.2.2.2.1, (σ.1, (nd_mix 4 τ.2.1 σ.2.1), σ.2.2.1, σ.2.2.2.1, τ.1, τ.2.2.1, τ.2.2.2.1, τ.2.2.2.2.1, τ.2.2.2.2.2.1, τ.2.2.2.2.2.2.1, τ.2.2.2.2.2.2.2).2.1, (σ.1, (nd_mix 4 τ.2.1 σ.2.1), σ.2.2.1, σ.2.2.2.1, τ.1, τ.2.2.1, τ.2.2.2.1, τ.2.2.2.2.1, τ.2.2.2.2.2.1, τ.2.2.2.2.2.2.1, τ.2.2.2.2.2.2.2).2.2.2.2.2.1, (σ.1, (nd_mix 4 τ.2.1 σ.2.1), σ.2.2.1, σ.2.2.2.1, τ.1, τ.2.2.1, τ.2.2.2.1, τ.2.2.2.2.1, τ.2.2.2.2.2.1, τ.2.2.2.2.2.2.1, τ.2.2.2.2.2.2.2).2.2.2.2.2.2.1, (σ.1, (nd_mix 4 τ.2.1 σ.2.1), σ.2.2.1, σ.2.2.2.1, τ.1, τ.2.2.1, τ.2.2.2.1, τ.2.2.2.2.1, τ.2.2.2.2.2.1, τ.2.2.2.2.2.2.1, τ.2.2.2.2.2.2.2).2.2.2.2.2.2.2.1, (σ.1, (nd_mix 4 τ.2.1 σ.2.1), σ.2.2.1, σ.2.2.2.1, τ.1, τ.2.2.1, τ.2.2.2.1, τ.2.2.2.2.1, τ.2.2.2.2.2.1, τ.2.2.2.2.2.2.1, τ.2.2.2.2.2.2.2).2.2.2.2.2.2.2.2.1, (σ.1, (nd_mix 4 τ.2.1 σ.2.1), σ.2.2.1, σ.2.2.2.1, τ.1, τ.2.2.1, τ.2.2.2.1, τ.2.2.2.2.1, τ.2.2.2.2.2.1, τ.2.2.2.2.2.2.1, τ.2.2.2.2.2.2.2).2.2.2.2.2.2.2.2.2.1, (σ.1, (nd_mix 4 τ.2.1 σ.2.1), σ.2.2.1, σ.2.2.2.1, τ.1, τ.2.2.1, τ.2.2.2.1, τ.2.2.2.2.1, τ.2.2.2.2.2.1, τ.2.2.2.2.2.2.1, τ.2.2.2.2.2.2.2).2.2.2.2.2.2.2.2.2.2) = dg_X11 (fun k => a (k + 16)) (fun k => ac (k + 16)) τ := rfl
  have hz : va_P D vwCl (dw_X12 a ac (σ.1, (nd_mix 4 τ.2.1 σ.2.1), σ.2.2.1, σ.2.2.2.1, τ.1, τ.2.2.1, τ.2.2.2.1, τ.2.2.2.2.1, τ.2.2.2.2.2.1, τ.2.2.2.2.2.2.1, τ.2.2.2.2.2.2.2)) H1 := by
    rw [de_wX12_X11_11]
    unfold dw_X11 at g1 ⊢
    rw [e2]
    exact g1
  exact ⟨hz, nd_Da hD0 dA_X12⟩
def ow_dm_X12_boot : List Cond := .code yX12_boot cX12_boot 2 none :: ([.classLink RX12 70 "java/lang/IllegalArgumentException", .initialized "java/lang/IllegalArgumentException", .fieldLink RX12 16 "TimeMachine" "programs" "[LTimeMachine$Program;", .classLink RX12 118 "java/lang/IllegalStateException", .initialized "java/lang/IllegalStateException", .fieldLink RX12 33 "TimeMachine" "timeline" "LTimeMachine$Timeline;", .methodLink RX12 121 yX11_startWithout, .instanceMethod yX11_startWithout, .selects RX11 yX11_startWithout yX11_startWithout, .initialized RX11] ++ (u_ws RX12 TX12 12 ++ (ow_dm_X11_startWithout ++ ((vx_at0 RX12 72 "java/lang/IllegalArgumentException" ["java/lang/RuntimeException", "java/lang/Exception"]).filter goodWord ++ ((vx_at0 RX12 120 "java/lang/IllegalStateException" ["java/lang/RuntimeException", "java/lang/Exception"]).filter goodWord ++ [])))))
theorem gd_dm_X12_boot : ∀ w ∈ ow_dm_X12_boot, (w.onTables && w.keeps) = true ∨ ∃ ty, w = Cond.arrayClass ty := List.forall_mem_cons.mpr ⟨good_of_word rfl, List.forall_mem_append.mpr ⟨fun w h => good_of_word (List.all_eq_true.mp (by decide +kernel) w h), List.forall_mem_append.mpr ⟨gu_X12, List.forall_mem_append.mpr ⟨gd_dm_X11_startWithout, List.forall_mem_append.mpr ⟨fun w h => good_of_word (List.mem_filter.mp h).2, List.forall_mem_append.mpr ⟨fun w h => good_of_word (List.mem_filter.mp h).2, fun _ h => nomatch h⟩⟩⟩⟩⟩⟩
theorem hi_dm_X12_boot_X12 : ∀ w ∈ u_ws RX12 TX12 12, w ∈ ow_dm_X12_boot := fun w h => List.mem_cons_of_mem _ (List.mem_append_right _ (List.mem_append_left _ h))
theorem gi_dm_X12_boot_0 : GoodIn ow_dm_X12_boot (wsV RX12 121 RX11 yX11_startWithout ow_dm_X11_startWithout) := goodIn_app (goodIn_of _ (by decide +kernel)) (fun w h => ⟨List.mem_cons_of_mem _ (List.mem_append_right _ (List.mem_append_right _ (List.mem_append_left _ h))), gd_dm_X11_startWithout w h⟩)
def dj_X12_boot_9 (p : Program) (l : Launch) (e : Env) (s : State) (m : MethodId) (args : Array Value) (below : List Frame) (meth : Method) (c : Code) (Q : State → Prop) (A : Nat → Prop) (dC : Nat → ClassId) (dI : Nat → Nat → Nat) (a : Nat → Nat) (ac : Nat → ClassId) (g : (St × Rw × (St) × (St × (St)) × (St) × (St × (St × (St × (St)))) × (St) × (St) × (Nat → St) × (Nat → St) × (Nat → St × (St))) → Option ((St × Rw × (St) × (St × (St)) × (St) × (St × (St × (St × (St)))) × (St) × (St) × (Nat → St) × (Nat → St) × (Nat → St × (St))) ⊕ (String × (St × Rw × (St) × (St × (St)) × (St) × (St × (St × (St × (St)))) × (St) × (St) × (Nat → St) × (Nat → St) × (Nat → St × (St)))))) (r : (St × Rw × (St) × (St × (St)) × (St) × (St × (St × (St × (St)))) × (St) × (St) × (Nat → St) × (Nat → St) × (Nat → St × (St))) ⊕ (String × (St × Rw × (St) × (St × (St)) × (St) × (St × (St × (St × (St)))) × (St) × (St) × (Nat → St) × (Nat → St) × (Nat → St × (St))))) : Prop := ∀ (s0 : St × Rw × (St) × (St × (St)) × (St) × (St × (St × (St × (St)))) × (St) × (St) × (Nat → St) × (Nat → St) × (Nat → St × (St))) (H : Heap) (locs : List Loc) (ls : Array Slot), g s0 = some r → va_P (dC, dI) vwCl (dw_X12 a ac s0) H → va_D A (dw_X12 a ac s0) → va_S A s.heap H locs → lv_has ls 2 [] → W p l e (headSpec ow_dm_X12_boot ({ frames := 6, cells := 1, slots := 6, locals := 148 })).room s m args below meth c H locs 0 0 Q (F0 m 9 ls [])
def dj_X12_boot_0 (p : Program) (l : Launch) (e : Env) (s : State) (m : MethodId) (args : Array Value) (below : List Frame) (meth : Method) (c : Code) (Q : State → Prop) (A : Nat → Prop) (dC : Nat → ClassId) (dI : Nat → Nat → Nat) (a : Nat → Nat) (ac : Nat → ClassId) (g : Int32 → (St × Rw × (St) × (St × (St)) × (St) × (St × (St × (St × (St)))) × (St) × (St) × (Nat → St) × (Nat → St) × (Nat → St × (St))) → Option ((St × Rw × (St) × (St × (St)) × (St) × (St × (St × (St × (St)))) × (St) × (St) × (Nat → St) × (Nat → St) × (Nat → St × (St))) ⊕ (String × (St × Rw × (St) × (St × (St)) × (St) × (St × (St × (St × (St)))) × (St) × (St) × (Nat → St) × (Nat → St) × (Nat → St × (St)))))) (r : (St × Rw × (St) × (St × (St)) × (St) × (St × (St × (St × (St)))) × (St) × (St) × (Nat → St) × (Nat → St) × (Nat → St × (St))) ⊕ (String × (St × Rw × (St) × (St × (St)) × (St) × (St × (St × (St × (St)))) × (St) × (St) × (Nat → St) × (Nat → St) × (Nat → St × (St))))) : Prop := ∀ (v0 : Int32) (s0 : St × Rw × (St) × (St × (St)) × (St) × (St × (St × (St × (St)))) × (St) × (St) × (Nat → St) × (Nat → St) × (Nat → St × (St))) (H : Heap) (locs : List Loc) (ls : Array Slot), g v0 s0 = some r → va_P (dC, dI) vwCl (dw_X12 a ac s0) H → va_D A (dw_X12 a ac s0) → va_S A s.heap H locs → lv_has ls 2 [(0, .ref (a 0)), (1, .int v0)] → W p l e (headSpec ow_dm_X12_boot ({ frames := 6, cells := 1, slots := 6, locals := 148 })).room s m args below meth c H locs 0 0 Q (F0 m 0 ls [])
set_option maxHeartbeats 40000000 in
set_option maxRecDepth 100000 in
theorem db_X12_boot_9 {p : Program} {l : Launch} {e : Env} {s : State} {m : MethodId} {args : Array Value} {below : List Frame} {meth : Method} {c : Code} {Qc : Array Value → State → Outcome → State → Prop} {A : Nat → Prop} {dC : Nat → ClassId} {dI : Nat → Nat → Nat} {a : Nat → Nat} {ac : Nat → ClassId} {n : Nat} {r : (St × Rw × (St) × (St × (St)) × (St) × (St × (St × (St × (St)))) × (St) × (St) × (Nat → St) × (Nat → St) × (Nat → St × (St))) ⊕ (String × (St × Rw × (St) × (St × (St)) × (St) × (St × (St × (St × (St)))) × (St) × (St) × (Nat → St) × (Nat → St) × (Nat → St × (St))))} (C : nd_C p l s m args c A (dC, dI) cX12_boot 2 RX12 ow_dm_X12_boot (dk_X12 ac)) (CX : nv_Dc s ∧ (∀ x ∈ c.exceptionTable.toList, False) ∧ meth.locks = false) (K : nd_Tv p l e (headSpec ow_dm_X12_boot ({ frames := 6, cells := 1, slots := 6, locals := 148 })).room s m args below meth c (vx_MQ below Qc (nd_XC (dC, dI) (St × Rw × (St) × (St × (St)) × (St) × (St × (St × (St × (St)))) × (St) × (St) × (Nat → St) × (Nat → St) × (Nat → St × (St))) (dw_X12 a ac) A r) args s 1 6 A) A (dC, dI) cX12_boot (St × Rw × (St) × (St × (St)) × (St) × (St × (St × (St × (St)))) × (St) × (St) × (Nat → St) × (Nat → St) × (Nat → St × (St))) (dw_X12 a ac) r) : dj_X12_boot_9 p l e s m args below meth c (vx_MQ below Qc (nd_XC (dC, dI) (St × Rw × (St) × (St × (St)) × (St) × (St × (St × (St × (St)))) × (St) × (St) × (Nat → St) × (Nat → St) × (Nat → St × (St))) (dw_X12 a ac) A r) args s 1 6 A) A dC dI a ac (df_X12_boot_9 n (a 15) (a 3)) r := by
  obtain ⟨hDe, htb, hlocks⟩ := id CX
  obtain ⟨hlt, hx, hb, hml, hown, hts, hN, hA, hK⟩ := id C
  intro s0 H locs ls h hP hD hS hl
  unfold df_X12_boot_9 at h
  exact vx_throw0 (own := RX12) (cls := "java/lang/IllegalArgumentException") (names := ["java/lang/RuntimeException", "java/lang/Exception"]) (ik := 70) (ic := 72) (A := A) hx hb hlt hown (by decide +kernel) (by decide +kernel) (hts (.classLink RX12 70 "java/lang/IllegalArgumentException") (List.mem_of_getElem? (i := 1) rfl)) (hts (.initialized "java/lang/IllegalArgumentException") (List.mem_of_getElem? (i := 2) rfl)) (vx_hat (B := [.castable "java/lang/IllegalArgumentException" "java/lang/IllegalArgumentException", .declares ⟨"java/lang/RuntimeException", "<init>", "()V"⟩, .declares ⟨"java/lang/Exception", "<init>", "()V"⟩, .declares ⟨"java/lang/Throwable", "<init>", "()V"⟩]) (fun w h => hts w (List.mem_cons_of_mem _ (List.mem_append_right _ (List.mem_append_right _ (List.mem_append_right _ (List.mem_append_left _ h)))))) (by decide +kernel) (vx_c (va_Nw.use rfl hN.2.2.2.2.2.2.2.1) (vx_c (va_Nw.use rfl (hDe _ (by decide +kernel))) (vx_c (va_Nw.use rfl (hDe _ (by decide +kernel))) (vx_c (va_Nw.use rfl (hDe _ (by decide +kernel))) vx_n))))) (by decide +kernel) hN.2.2.2.2.2.1 hN.2.2.2.2.2.2.1 hS (by rw [hml]; exact hl.1) dX12_boot_9 dX12_boot_12 dX12_boot_13 dX12_boot_16 (fun x9 h9 => (htb x9 h9).elim) (Nat.le_of_ble_eq_true rfl) (Nat.le_of_ble_eq_true rfl) (by decide +kernel) (by decide +kernel) hlocks (fun t hvm hz hk => ⟨s0, trivial, ⟨(Option.some.inj h).symm, hP.kept (fun k q hq => hk q.1 (hP k q hq).lt), hD⟩, Nat.le_trans hS.1 hz, fun q h1 h2 => (hk q (Nat.lt_of_lt_of_le h1 hS.1)).trans (hS.2.1 q h1 h2)⟩) hS.2.2 (by decide +kernel) (by decide +kernel)
set_option maxHeartbeats 40000000 in
set_option maxRecDepth 100000 in
theorem db_X12_boot_0 {p : Program} {l : Launch} {e : Env} {s : State} {m : MethodId} {args : Array Value} {below : List Frame} {meth : Method} {c : Code} {Qc : Array Value → State → Outcome → State → Prop} {A : Nat → Prop} {dC : Nat → ClassId} {dI : Nat → Nat → Nat} {a : Nat → Nat} {ac : Nat → ClassId} {n : Nat} {r : (St × Rw × (St) × (St × (St)) × (St) × (St × (St × (St × (St)))) × (St) × (St) × (Nat → St) × (Nat → St) × (Nat → St × (St))) ⊕ (String × (St × Rw × (St) × (St × (St)) × (St) × (St × (St × (St × (St)))) × (St) × (St) × (Nat → St) × (Nat → St) × (Nat → St × (St))))} (C : nd_C p l s m args c A (dC, dI) cX12_boot 2 RX12 ow_dm_X12_boot (dk_X12 ac)) (CX : nv_Dc s ∧ (∀ x ∈ c.exceptionTable.toList, False) ∧ meth.locks = false) (K : nd_Tv p l e (headSpec ow_dm_X12_boot ({ frames := 6, cells := 1, slots := 6, locals := 148 })).room s m args below meth c (vx_MQ below Qc (nd_XC (dC, dI) (St × Rw × (St) × (St × (St)) × (St) × (St × (St × (St × (St)))) × (St) × (St) × (Nat → St) × (Nat → St) × (Nat → St × (St))) (dw_X12 a ac) A r) args s 1 6 A) A (dC, dI) cX12_boot (St × Rw × (St) × (St × (St)) × (St) × (St × (St × (St × (St)))) × (St) × (St) × (Nat → St) × (Nat → St) × (Nat → St × (St))) (dw_X12 a ac) r) : dj_X12_boot_0 p l e s m args below meth c (vx_MQ below Qc (nd_XC (dC, dI) (St × Rw × (St) × (St × (St)) × (St) × (St × (St × (St × (St)))) × (St) × (St) × (Nat → St) × (Nat → St) × (Nat → St × (St))) (dw_X12 a ac) A r) args s 1 6 A) A dC dI a ac (df_X12_boot_0 n (a 15) (a 3)) r := by
  obtain ⟨hDe, htb, hlocks⟩ := id CX
  obtain ⟨hlt, hx, hb, hml, hown, hts, hN, hA, hK⟩ := id C
  intro v0 s0 H locs ls h hP hD hS hl
  unfold df_X12_boot_0 at h
  refine lv_iload_n hx hb dX12_boot_0 rfl (lv_at hl 1 rfl) ?_
  refine lv_if_lt (tgt := 9) hx hb dX12_boot_1 (by decide) (fun c1 => ?_) (fun c1 => ?_)
  · have h := nd_pos h c1
    exact (db_X12_boot_9 C CX K)  s0 _ _ _ h hP hD hS (lv_sub hl [] rfl)
  · have h := nd_neg h c1
    refine lv_iload_n hx hb dX12_boot_4 rfl (lv_at hl 1 rfl) ?_
    refine lv_iconst (v := 4) hx hb dX12_boot_5 (by decide) ?_
    refine lv_icmp_lt (tgt := 17) hx hb dX12_boot_6 (by decide) (fun c2 => ?_) (fun c2 => ?_)
    · have h := nd_pos h c2
      refine lv_aload_n hx hb dX12_boot_17 rfl (lv_at hl 0 rfl) ?_
      refine va_get (D := (dC, dI)) (ci := 13) (v := .ref (a 54)) (C := RX12) (T := TX12) (N := 12) hx hb hts hi_dm_X12_boot_X12 hown hK hP 0 rfl rfl 3 (by decide) (hts (.fieldLink RX12 16 "TimeMachine" "programs" "[LTimeMachine$Program;") (List.mem_of_getElem? (i := 3) rfl)) (fun _ h9 => h9) rfl dX12_boot_18 ?_
      refine lv_iload_n hx hb dX12_boot_21 rfl (lv_at hl 1 rfl) ?_
      obtain ⟨i3, h⟩ := nd_ck_e h
      refine va_aldq (i := v0) hx hb hK hP 54 44 rfl rfl i3 dX12_boot_22 ?_
      cases hrj4 : s0.2.1 1 (Int32.toNatClampNeg v0) with
      | none =>
        have h := nd_mN h hrj4
        refine W.eq (g2 := F0 m 23 ls [.null]) (by first | rfl | (show F0 m _ ls (va_rf (Option.map (fun j => a (0 + j * 5 + 57)) (s0.2.1 1 (Int32.toNatClampNeg v0))) :: _) = _; rw [hrj4]; rfl)) ?_
        refine lv_ifnonnullN hx hb dX12_boot_23 ?_
        exact vx_throw0 (own := RX12) (cls := "java/lang/IllegalStateException") (names := ["java/lang/RuntimeException", "java/lang/Exception"]) (ik := 118) (ic := 120) (A := A) hx hb hlt hown (by decide +kernel) (by decide +kernel) (hts (.classLink RX12 118 "java/lang/IllegalStateException") (List.mem_of_getElem? (i := 4) rfl)) (hts (.initialized "java/lang/IllegalStateException") (List.mem_of_getElem? (i := 5) rfl)) (vx_hat (B := [.castable "java/lang/IllegalStateException" "java/lang/IllegalStateException", .declares ⟨"java/lang/RuntimeException", "<init>", "()V"⟩, .declares ⟨"java/lang/Exception", "<init>", "()V"⟩, .declares ⟨"java/lang/Throwable", "<init>", "()V"⟩]) (fun w h => hts w (List.mem_cons_of_mem _ (List.mem_append_right _ (List.mem_append_right _ (List.mem_append_right _ (List.mem_append_right _ (List.mem_append_left _ h))))))) (by decide +kernel) (vx_c (va_Nw.use rfl hN.2.2.2.2.2.2.2.2.1) (vx_c (va_Nw.use rfl (hDe _ (by decide +kernel))) (vx_c (va_Nw.use rfl (hDe _ (by decide +kernel))) (vx_c (va_Nw.use rfl (hDe _ (by decide +kernel))) vx_n))))) (by decide +kernel) hN.2.2.2.2.2.1 hN.2.2.2.2.2.2.1 hS (by rw [hml]; exact hl.1) dX12_boot_26 dX12_boot_29 dX12_boot_30 dX12_boot_33 (fun x9 h9 => (htb x9 h9).elim) (Nat.le_of_ble_eq_true rfl) (Nat.le_of_ble_eq_true rfl) (by decide +kernel) (by decide +kernel) hlocks (fun t hvm hz hk => ⟨s0, trivial, ⟨(Option.some.inj h).symm, hP.kept (fun k q hq => hk q.1 (hP k q hq).lt), hD⟩, Nat.le_trans hS.1 hz, fun q h1 h2 => (hk q (Nat.lt_of_lt_of_le h1 hS.1)).trans (hS.2.1 q h1 h2)⟩) hS.2.2 (by decide +kernel) (by decide +kernel)
      | some j4 =>
        have h := nd_mS h hrj4
        refine W.eq (g2 := F0 m 23 ls [.ref (a (0 + j4 * 5 + 57))]) (by first | rfl | (show F0 m _ ls (va_rf (Option.map (fun j => a (0 + j * 5 + 57)) (s0.2.1 1 (Int32.toNatClampNeg v0))) :: _) = _; rw [hrj4]; rfl)) ?_
        refine lv_ifnonnull (tgt := 34) hx hb dX12_boot_23 (by decide) ?_
        refine lv_aload_n hx hb dX12_boot_34 rfl (lv_at hl 0 rfl) ?_
        refine va_get (D := (dC, dI)) (ci := 13) (v := .ref (a 16)) (C := RX12) (T := TX12) (N := 12) hx hb hts hi_dm_X12_boot_X12 hown hK hP 0 rfl rfl 6 (by decide) (hts (.fieldLink RX12 33 "TimeMachine" "timeline" "LTimeMachine$Timeline;") (List.mem_of_getElem? (i := 6) rfl)) (fun _ h9 => h9) rfl dX12_boot_35 ?_
        refine lv_aload_n hx hb dX12_boot_38 rfl (lv_at hl 0 rfl) ?_
        refine va_get (D := (dC, dI)) (ci := 13) (v := .ref (a 54)) (C := RX12) (T := TX12) (N := 12) hx hb hts hi_dm_X12_boot_X12 hown hK hP 0 rfl rfl 3 (by decide) (hts (.fieldLink RX12 16 "TimeMachine" "programs" "[LTimeMachine$Program;") (List.mem_of_getElem? (i := 3) rfl)) (fun _ h9 => h9) rfl dX12_boot_39 ?_
        refine lv_iload_n hx hb dX12_boot_42 rfl (lv_at hl 1 rfl) ?_
        obtain ⟨s6, hq, h⟩ := nd_b1_e h
        have hPc := dp_wX12_X11_11 hP
        have hDc := dd_wX12_X11_11 hD
        have hKc := dy_wX12_X11_11 hK
        have hFc := nd_rs hDc hS hA
        have hzA : ∀ q : Nat, H.size ≤ q → A q := fun q h => hA q (Nat.le_trans hS.1 h)
        refine nd_cVv (As := [.ref (a 54), .int v0]) (rest := []) (w' := dw_X11 (fun k => a (k + 16)) (fun k => ac (k + 16)) s6) ⟨hx, hb, hml, hown, hts⟩ (fun sz => dm_X11_startWithout l hlt dC dI (fun k => a (k + 16)) (fun k => ac (k + 16)) n (v0) (s0.2.2.2.2.1, s0.2.1, s0.2.2.2.2.2.1, s0.2.2.2.2.2.2.1, s0.2.2.2.2.2.2.2.1, s0.2.2.2.2.2.2.2.2.1, s0.2.2.2.2.2.2.2.2.2.1, s0.2.2.2.2.2.2.2.2.2.2) hq sz) (cwV 2 hts gi_dm_X12_boot_0 rfl rfl rfl (by decide +kernel) ⟨Nat.le_of_ble_eq_true rfl, Nat.le_of_ble_eq_true rfl⟩) hPc hDc hKc hS hA hN (va_recv hKc hPc (ci := 12) (q0 := 0) rfl rfl) rfl hl.1 rfl (Nat.le_of_ble_eq_true rfl) dX12_boot_43 (fun H locs hP1 hD1 hk1 hS => ?_)
        obtain ⟨hP, hD⟩ := dn_wX12_X11_11 hP hD hzA hk1 hP1 hD1
        obtain ⟨s8, es8, h⟩ := nd_let_e h
        have hP : va_P (dC, dI) vwCl (dw_X12 a ac s8) H := by rw [es8]; exact hP
        have hD : va_D A (dw_X12 a ac s8) := by rw [es8]; exact hD
        exact K _ _ _ _ _ dX12_boot_46 (Option.some.inj h).symm hP hD hS
    · have h := nd_neg h c2
      exact (db_X12_boot_9 C CX K)  s0 _ _ _ h hP hD hS (lv_sub hl [] rfl)
set_option maxHeartbeats 40000000 in
set_option maxRecDepth 100000 in
theorem dm_X12_boot (l : Launch) (hlt : l.stackTraces = false) (dC : Nat → ClassId) (dI : Nat → Nat → Nat) (a : Nat → Nat) (ac : Nat → ClassId) (n : Nat) (v0 : Int32) (s0 : St × Rw × (St) × (St × (St)) × (St) × (St × (St × (St × (St)))) × (St) × (St) × (Nat → St) × (Nat → St) × (Nat → St × (St))) {r : (St × Rw × (St) × (St × (St)) × (St) × (St × (St × (St × (St)))) × (St) × (St) × (Nat → St) × (Nat → St) × (Nat → St × (St))) ⊕ (String × (St × Rw × (St) × (St × (St)) × (St) × (St × (St × (St × (St)))) × (St) × (St) × (Nat → St) × (Nat → St) × (Nat → St × (St))))} (h : df_X12_boot n (a 15) (a 3) v0 s0 = some r) (sz : Nat) : vx_Met l yX12_boot ow_dm_X12_boot ({ frames := 6, cells := 1, slots := 6, locals := 148 }) (va_Pc [.ref (a 0), .int v0] (fun U => U.heap.size = sz ∧ va_P (dC, dI) vwCl (dw_X12 a ac s0) U.heap ∧ va_K (dC, dI) vwCl (dk_X12 ac) U ∧ va_D (fun _ => True) (dw_X12 a ac s0) ∧ nv_E (va_A (dw_X12 a ac s0) sz) U ∧ nv_Dc U)) (va_Qv (fun u => r = Sum.inl u) (fun (u : St × Rw × (St) × (St × (St)) × (St) × (St × (St × (St × (St)))) × (St) × (St) × (Nat → St) × (Nat → St) × (Nat → St × (St))) t => va_P (dC, dI) vwCl (dw_X12 a ac u) t.heap ∧ va_K (dC, dI) vwCl (dk_X12 ac) t ∧ va_D (va_A (dw_X12 a ac s0) sz) (dw_X12 a ac u)) (va_A (dw_X12 a ac s0) sz)) (nd_XC (dC, dI) (St × Rw × (St) × (St × (St)) × (St) × (St × (St × (St × (St)))) × (St) × (St) × (Nat → St) × (Nat → St) × (Nat → St × (St))) (dw_X12 a ac) (va_A (dw_X12 a ac s0) sz) r) 1 6 (va_A (dw_X12 a ac s0) sz) := by
  refine vx_ofW (cc := cX12_boot) (maxL := 2) (ret := none) (by decide) rfl ?_
  intro p e s m args below meth c s₁ B hml htb hv
  obtain ⟨rfl, hsz, hP, hK, hD0, hN, hDe⟩ := hv
  have hx := B.exec
  have hb := B.bytes
  have hr := B.returns
  have hts := atoms_spec (ws := ow_dm_X12_boot) B.pre
  have hown : s.vm.findClass RX12 = some m.cls := findClass_of_methodNamed B.named
  have hlocks := B.notSynchronized
  subst hsz
  have hD := hD0.self (sz := s.heap.size)
  generalize hAe : va_A (dw_X12 a ac s0) s.heap.size = A at hD hN ⊢
  have hA : ∀ q : Nat, s.heap.size ≤ q → A q := fun q h => by rw [← hAe]; exact Or.inr h
  have hl := lv_entry ([.ref (a 0), .int v0]) (n := 2) (Nat.le_of_ble_eq_true rfl)
  rw [lg_entry_eq]
  generalize (lg_sl ([.ref (a 0), .int v0]) ++ List.replicate (2 - (lg_sl ([.ref (a 0), .int v0])).length) Slot.unset).toArray = ls at hl ⊢
  have hl : lv_has ls 2 [(0, .ref (a 0)), (1, .int v0)] := hl
  exact db_X12_boot_0 (dC := dC) (dI := dI) (a := a) (ac := ac) (n := n) (r := r) ⟨hlt, hx, hb, hml, hown, hts, hN, hA, hK⟩ ⟨hDe, htb, hlocks⟩ (fun pc τ H locs ls d er hP hD hS => by subst er; exact W.widen (k := 1) (n := 6) (by decide) (by decide) (vx_ret (W.vret hx hb hr (fun t ht hW => ⟨⟨τ, rfl, rfl, by rw [ht]; exact hP, va_K.moved hW.alike hK, hD⟩, hS.F ht⟩) hS.2.2 d))) v0 s0 _ _ _ h hP hD va_S.rf (lv_sub hl [0, 1] rfl)
set_option maxHeartbeats 40000000 in
set_option maxRecDepth 100000 in
theorem de_wX12_X3s_12 {a : Nat → Nat} {ac : Nat → ClassId} {τ : St × (St)} : ([[(a 15, .inl (ac 15, 32768, .inl (sR (pR nd_st0 7 (sR τ.1 0)) 7)))], dw_X3c (fun k => a (k + 43)) (fun k => ac (k + 43)) (τ.2)] : List va_W).flatten = dw_X3s (fun k => a (if k < 1 then k + 15 else k - 1 + 43)) (fun k => ac (if k < 1 then k + 15 else k - 1 + 43)) τ := by
  first
  | (simp only [List.flatten_cons, List.flatten_nil, List.append_nil]; done)
  | (simp only [List.flatten_cons, List.flatten_nil, List.append_nil]; rfl)
set_option maxHeartbeats 40000000 in
set_option maxRecDepth 100000 in
theorem dp_wX12_X3s_12 {D : va_G} {H : Heap} {a : Nat → Nat} {ac : Nat → ClassId} {σ : St × Rw × (St) × (St × (St)) × (St) × (St × (St × (St × (St)))) × (St) × (St) × (Nat → St) × (Nat → St) × (Nat → St × (St))} (h : va_P D vwCl (dw_X12 a ac σ) H) : va_P D vwCl (dw_X3s (fun k => a (if k < 1 then k + 15 else k - 1 + 43)) (fun k => ac (if k < 1 then k + 15 else k - 1 + 43)) ((pR nd_st0 0 (sR σ.2.2.2.1.2 7)), σ.2.2.2.2.2.2.1)) H := by
  have h2 := nd_vp (segs := dg_X12 a ac σ) (ix := [6, 12]) (old := [[(a 15, .inl (ac 15, 32768, .inl (sR (σ.2.2.2.1.2) 7)))], dw_X3c (fun k => a (k + 43)) (fun k => ac (k + 43)) (σ.2.2.2.2.2.2.1)]) h (nd_co rfl (nd_co rfl rfl))
  have e := de_wX12_X3s_12 (a := a) (ac := ac) (τ := ((pR nd_st0 0 (sR σ.2.2.2.1.2 7)), σ.2.2.2.2.2.2.1))
  exact e ▸ h2
set_option maxHeartbeats 40000000 in
set_option maxRecDepth 100000 in
theorem dd_wX12_X3s_12 {A : Nat → Prop} {a : Nat → Nat} {ac : Nat → ClassId} {σ : St × Rw × (St) × (St × (St)) × (St) × (St × (St × (St × (St)))) × (St) × (St) × (Nat → St) × (Nat → St) × (Nat → St × (St))} (h : va_D A (dw_X12 a ac σ)) : va_D A (dw_X3s (fun k => a (if k < 1 then k + 15 else k - 1 + 43)) (fun k => ac (if k < 1 then k + 15 else k - 1 + 43)) ((pR nd_st0 0 (sR σ.2.2.2.1.2 7)), σ.2.2.2.2.2.2.1)) := by
  have h2 := nd_vd (segs := dg_X12 a ac σ) (ix := [6, 12]) (old := [[(a 15, .inl (ac 15, 32768, .inl (sR (σ.2.2.2.1.2) 7)))], dw_X3c (fun k => a (k + 43)) (fun k => ac (k + 43)) (σ.2.2.2.2.2.2.1)]) h (nd_co rfl (nd_co rfl rfl)) (by decide)
  have e := de_wX12_X3s_12 (a := a) (ac := ac) (τ := ((pR nd_st0 0 (sR σ.2.2.2.1.2 7)), σ.2.2.2.2.2.2.1))
  exact e ▸ h2
set_option maxHeartbeats 40000000 in
set_option maxRecDepth 100000 in
theorem dy_wX12_X3s_12 {D : va_G} {U : State} {ac : Nat → ClassId} (h : va_K D vwCl (dk_X12 ac) U) : va_K D vwCl (dk_X3s (fun k => ac (if k < 1 then k + 15 else k - 1 + 43))) U := (va_K.app (h.sub [12] rfl) (h.sub [35, 36, 37, 38] rfl))
set_option maxHeartbeats 40000000 in
set_option maxRecDepth 100000 in
theorem dn_wX12_X3s_12 {A0 : Nat → Prop} {D : va_G} {H H1 : Heap} {a : Nat → Nat} {ac : Nat → ClassId} {σ : St × Rw × (St) × (St × (St)) × (St) × (St × (St × (St × (St)))) × (St) × (St) × (Nat → St) × (Nat → St) × (Nat → St × (St))} {τ : St × (St)} (hP : va_P D vwCl (dw_X12 a ac σ) H) (hD : va_D A0 (dw_X12 a ac σ)) (hA : ∀ q : Nat, H.size ≤ q → A0 q) (hk : ∀ q : Nat, q < H.size → ¬ va_A (dw_X3s (fun k => a (if k < 1 then k + 15 else k - 1 + 43)) (fun k => ac (if k < 1 then k + 15 else k - 1 + 43)) ((pR nd_st0 0 (sR σ.2.2.2.1.2 7)), σ.2.2.2.2.2.2.1)) H.size q → H1[q]? = H[q]?) (h1 : va_P D vwCl (dw_X3s (fun k => a (if k < 1 then k + 15 else k - 1 + 43)) (fun k => ac (if k < 1 then k + 15 else k - 1 + 43)) τ) H1) (h2 : va_D (va_A (dw_X3s (fun k => a (if k < 1 then k + 15 else k - 1 + 43)) (fun k => ac (if k < 1 then k + 15 else k - 1 + 43)) ((pR nd_st0 0 (sR σ.2.2.2.1.2 7)), σ.2.2.2.2.2.2.1)) H.size) (dw_X3s (fun k => a (if k < 1 then k + 15 else k - 1 + 43)) (fun k => ac (if k < 1 then k + 15 else k - 1 + 43)) τ)) : va_P D vwCl (dw_X12 a ac ((σ.1, (σ.2.1, (σ.2.2.1, ((σ.2.2.2.1.1, (pR σ.2.2.2.1.2 7 (sR τ.1 0))), σ.2.2.2.2)))).1, ((σ.1, (σ.2.1, (σ.2.2.1, ((σ.2.2.2.1.1, (pR σ.2.2.2.1.2 7 (sR τ.1 0))), σ.2.2.2.2)))).2.1, ((σ.1, (σ.2.1, (σ.2.2.1, ((σ.2.2.2.1.1, (pR σ.2.2.2.1.2 7 (sR τ.1 0))), σ.2.2.2.2)))).2.2.1, ((σ.1, (σ.2.1, (σ.2.2.1, ((σ.2.2.2.1.1, (pR σ.2.2.2.1.2 7 (sR τ.1 0))), σ.2.2.2.2)))).2.2.2.1, ((σ.1, (σ.2.1, (σ.2.2.1, ((σ.2.2.2.1.1, (pR σ.2.2.2.1.2 7 (sR τ.1 0))), σ.2.2.2.2)))).2.2.2.2.1, ((σ.1, (σ.2.1, (σ.2.2.1, ((σ.2.2.2.1.1, (pR σ.2.2.2.1.2 7 (sR τ.1 0))), σ.2.2.2.2)))).2.2.2.2.2.1, (τ.2, (σ.1, (σ.2.1, (σ.2.2.1, ((σ.2.2.2.1.1, (pR σ.2.2.2.1.2 7 (sR τ.1 0))), σ.2.2.2.2)))).2.2.2.2.2.2.2)))))))) H1 ∧ va_D A0 (dw_X12 a ac ((σ.1, (σ.2.1, (σ.2.2.1, ((σ.2.2.2.1.1, (pR σ.2.2.2.1.2 7 (sR τ.1 0))), σ.2.2.2.2)))).1, ((σ.1, (σ.2.1, (σ.2.2.1, ((σ.2.2.2.1.1, (pR σ.2.2.2.1.2 7 (sR τ.1 0))), σ.2.2.2.2)))).2.1, ((σ.1, (σ.2.1, (σ.2.2.1, ((σ.2.2.2.1.1, (pR σ.2.2.2.1.2 7 (sR τ.1 0))), σ.2.2.2.2)))).2.2.1, ((σ.1, (σ.2.1, (σ.2.2.1, ((σ.2.2.2.1.1, (pR σ.2.2.2.1.2 7 (sR τ.1 0))), σ.2.2.2.2)))).2.2.2.1, ((σ.1, (σ.2.1, (σ.2.2.1, ((σ.2.2.2.1.1, (pR σ.2.2.2.1.2 7 (sR τ.1 0))), σ.2.2.2.2)))).2.2.2.2.1, ((σ.1, (σ.2.1, (σ.2.2.1, ((σ.2.2.2.1.1, (pR σ.2.2.2.1.2 7 (sR τ.1 0))), σ.2.2.2.2)))).2.2.2.2.2.1, (τ.2, (σ.1, (σ.2.1, (σ.2.2.1, ((σ.2.2.2.1.1, (pR σ.2.2.2.1.2 7 (sR τ.1 0))), σ.2.2.2.2)))).2.2.2.2.2.2.2)))))))) := by
  have eo := de_wX12_X3s_12 (a := a) (ac := ac) (τ := ((pR nd_st0 0 (sR σ.2.2.2.1.2 7)), σ.2.2.2.2.2.2.1))
  have en := de_wX12_X3s_12 (a := a) (ac := ac) (τ := τ)
  have h := nd_vn (segs := dg_X12 a ac σ) (ix := [6, 12]) (old := [[(a 15, .inl (ac 15, 32768, .inl (sR (σ.2.2.2.1.2) 7)))], dw_X3c (fun k => a (k + 43)) (fun k => ac (k + 43)) (σ.2.2.2.2.2.2.1)]) (new := [[(a 15, .inl (ac 15, 32768, .inl (sR (pR nd_st0 7 (sR τ.1 0)) 7)))], dw_X3c (fun k => a (k + 43)) (fun k => ac (k + 43)) (τ.2)]) hP hD (nd_co rfl (nd_co rfl rfl)) rfl (fun q z y => hk q z (fun w => y (eo ▸ w))) (en ▸ h1)
  have ee : nd_sets (dg_X12 a ac σ) [6, 12] [[(a 15, .inl (ac 15, 32768, .inl (sR (pR nd_st0 7 (sR τ.1 0)) 7)))], dw_X3c (fun k => a (k + 43)) (fun k => ac (k + 43)) (τ.2)] = dg_X12 a ac ((σ.1, (σ.2.1, (σ.2.2.1, ((σ.2.2.2.1.1, (pR σ.2.2.2.1.2 7 (sR τ.1 0))), σ.2.2.2.2)))).1, ((σ.1, (σ.2.1, (σ.2.2.1, ((σ.2.2.2.1.1, (pR σ.2.2.2.1.2 7 (sR τ.1 0))), σ.2.2.2.2)))).2.1, ((σ.1, (σ.2.1, (σ.2.2.1, ((σ.2.2.2.1.1, (pR σ.2.2.2.1.2 7 (sR τ.1 0))), σ.2.2.2.2)))).2.2.1, ((σ.1, (σ.2.1, (σ.2.2.1, ((σ.2.2.2.1.1, (pR σ.2.2.2.1.2 7 (sR τ.1 0))), σ.2.2.2.2)))).2.2.2.1, ((σ.1, (σ.2.1, (σ.2.2.1, ((σ.2.2.2.1.1, (pR σ.2.2.2.1.2 7 (sR τ.1 0))), σ.2.2.2.2)))).2.2.2.2.1, ((σ.1, (σ.2.1, (σ.2.2.1, ((σ.2.2.2.1.1, (pR σ.2.2.2.1.2 7 (sR τ.1 0))), σ.2.2.2.2)))).2.2.2.2.2.1, (τ.2, (σ.1, (σ.2.1, (σ.2.2.1, ((σ.2.2.2.1.1, (pR σ.2.2.2.1.2 7 (sR τ.1 0))), σ.2.2.2.2)))).2.2.2.2.2.2.2))))))) := rfl
  have hz : va_P D vwCl (dg_X12 a ac ((σ.1, (σ.2.1, (σ.2.2.1, ((σ.2.2.2.1.1, (pR σ.2.2.2.1.2 7 (sR τ.1 0))), σ.2.2.2.2)))).1, ((σ.1, (σ.2.1, (σ.2.2.1, ((σ.2.2.2.1.1, (pR σ.2.2.2.1.2 7 (sR τ.1 0))), σ.2.2.2.2)))).2.1, ((σ.1, (σ.2.1, (σ.2.2.1, ((σ.2.2.2.1.1, (pR σ.2.2.2.1.2 7 (sR τ.1 0))), σ.2.2.2.2)))).2.2.1, ((σ.1, (σ.2.1, (σ.2.2.1, ((σ.2.2.2.1.1, (pR σ.2.2.2.1.2 7 (sR τ.1 0))), σ.2.2.2.2)))).2.2.2.1, ((σ.1, (σ.2.1, (σ.2.2.1, ((σ.2.2.2.1.1, (pR σ.2.2.2.1.2 7 (sR τ.1 0))), σ.2.2.2.2)))).2.2.2.2.1, ((σ.1, (σ.2.1, (σ.2.2.1, ((σ.2.2.2.1.1, (pR σ.2.2.2.1.2 7 (sR τ.1 0))), σ.2.2.2.2)))).2.2.2.2.2.1, (τ.2, (σ.1, (σ.2.1, (σ.2.2.1, ((σ.2.2.2.1.1, (pR σ.2.2.2.1.2 7 (sR τ.1 0))), σ.2.2.2.2)))).2.2.2.2.2.2.2)))))))).flatten H1 := by rw [← ee]; exact h
  exact ⟨hz, nd_Da hD dA_X12⟩
set_option maxHeartbeats 40000000 in
set_option maxRecDepth 100000 in
theorem de_wX12_X3s_13 {a : Nat → Nat} {ac : Nat → ClassId} {τ : St × (St)} : ([[(a 15, .inl (ac 15, 32768, .inl (sR (pR nd_st0 7 (sR τ.1 0)) 7)))], dw_X3c (fun k => a (k + 48)) (fun k => ac (k + 48)) (τ.2)] : List va_W).flatten = dw_X3s (fun k => a (if k < 1 then k + 15 else k - 1 + 48)) (fun k => ac (if k < 1 then k + 15 else k - 1 + 48)) τ := by
  first
  | (simp only [List.flatten_cons, List.flatten_nil, List.append_nil]; done)
  | (simp only [List.flatten_cons, List.flatten_nil, List.append_nil]; rfl)
set_option maxHeartbeats 40000000 in
set_option maxRecDepth 100000 in
theorem dp_wX12_X3s_13 {D : va_G} {H : Heap} {a : Nat → Nat} {ac : Nat → ClassId} {σ : St × Rw × (St) × (St × (St)) × (St) × (St × (St × (St × (St)))) × (St) × (St) × (Nat → St) × (Nat → St) × (Nat → St × (St))} (h : va_P D vwCl (dw_X12 a ac σ) H) : va_P D vwCl (dw_X3s (fun k => a (if k < 1 then k + 15 else k - 1 + 48)) (fun k => ac (if k < 1 then k + 15 else k - 1 + 48)) ((pR nd_st0 0 (sR σ.2.2.2.1.2 7)), σ.2.2.2.2.2.2.2.1)) H := by
  have h2 := nd_vp (segs := dg_X12 a ac σ) (ix := [6, 13]) (old := [[(a 15, .inl (ac 15, 32768, .inl (sR (σ.2.2.2.1.2) 7)))], dw_X3c (fun k => a (k + 48)) (fun k => ac (k + 48)) (σ.2.2.2.2.2.2.2.1)]) h (nd_co rfl (nd_co rfl rfl))
  have e := de_wX12_X3s_13 (a := a) (ac := ac) (τ := ((pR nd_st0 0 (sR σ.2.2.2.1.2 7)), σ.2.2.2.2.2.2.2.1))
  exact e ▸ h2
set_option maxHeartbeats 40000000 in
set_option maxRecDepth 100000 in
theorem dd_wX12_X3s_13 {A : Nat → Prop} {a : Nat → Nat} {ac : Nat → ClassId} {σ : St × Rw × (St) × (St × (St)) × (St) × (St × (St × (St × (St)))) × (St) × (St) × (Nat → St) × (Nat → St) × (Nat → St × (St))} (h : va_D A (dw_X12 a ac σ)) : va_D A (dw_X3s (fun k => a (if k < 1 then k + 15 else k - 1 + 48)) (fun k => ac (if k < 1 then k + 15 else k - 1 + 48)) ((pR nd_st0 0 (sR σ.2.2.2.1.2 7)), σ.2.2.2.2.2.2.2.1)) := by
  have h2 := nd_vd (segs := dg_X12 a ac σ) (ix := [6, 13]) (old := [[(a 15, .inl (ac 15, 32768, .inl (sR (σ.2.2.2.1.2) 7)))], dw_X3c (fun k => a (k + 48)) (fun k => ac (k + 48)) (σ.2.2.2.2.2.2.2.1)]) h (nd_co rfl (nd_co rfl rfl)) (by decide)
  have e := de_wX12_X3s_13 (a := a) (ac := ac) (τ := ((pR nd_st0 0 (sR σ.2.2.2.1.2 7)), σ.2.2.2.2.2.2.2.1))
  exact e ▸ h2
set_option maxHeartbeats 40000000 in
set_option maxRecDepth 100000 in
theorem dy_wX12_X3s_13 {D : va_G} {U : State} {ac : Nat → ClassId} (h : va_K D vwCl (dk_X12 ac) U) : va_K D vwCl (dk_X3s (fun k => ac (if k < 1 then k + 15 else k - 1 + 48))) U := (va_K.app (h.sub [12] rfl) (h.sub [39, 40, 41, 42] rfl))
set_option maxHeartbeats 40000000 in
set_option maxRecDepth 100000 in
theorem dn_wX12_X3s_13 {A0 : Nat → Prop} {D : va_G} {H H1 : Heap} {a : Nat → Nat} {ac : Nat → ClassId} {σ : St × Rw × (St) × (St × (St)) × (St) × (St × (St × (St × (St)))) × (St) × (St) × (Nat → St) × (Nat → St) × (Nat → St × (St))} {τ : St × (St)} (hP : va_P D vwCl (dw_X12 a ac σ) H) (hD : va_D A0 (dw_X12 a ac σ)) (hA : ∀ q : Nat, H.size ≤ q → A0 q) (hk : ∀ q : Nat, q < H.size → ¬ va_A (dw_X3s (fun k => a (if k < 1 then k + 15 else k - 1 + 48)) (fun k => ac (if k < 1 then k + 15 else k - 1 + 48)) ((pR nd_st0 0 (sR σ.2.2.2.1.2 7)), σ.2.2.2.2.2.2.2.1)) H.size q → H1[q]? = H[q]?) (h1 : va_P D vwCl (dw_X3s (fun k => a (if k < 1 then k + 15 else k - 1 + 48)) (fun k => ac (if k < 1 then k + 15 else k - 1 + 48)) τ) H1) (h2 : va_D (va_A (dw_X3s (fun k => a (if k < 1 then k + 15 else k - 1 + 48)) (fun k => ac (if k < 1 then k + 15 else k - 1 + 48)) ((pR nd_st0 0 (sR σ.2.2.2.1.2 7)), σ.2.2.2.2.2.2.2.1)) H.size) (dw_X3s (fun k => a (if k < 1 then k + 15 else k - 1 + 48)) (fun k => ac (if k < 1 then k + 15 else k - 1 + 48)) τ)) : va_P D vwCl (dw_X12 a ac ((σ.1, (σ.2.1, (σ.2.2.1, ((σ.2.2.2.1.1, (pR σ.2.2.2.1.2 7 (sR τ.1 0))), σ.2.2.2.2)))).1, ((σ.1, (σ.2.1, (σ.2.2.1, ((σ.2.2.2.1.1, (pR σ.2.2.2.1.2 7 (sR τ.1 0))), σ.2.2.2.2)))).2.1, ((σ.1, (σ.2.1, (σ.2.2.1, ((σ.2.2.2.1.1, (pR σ.2.2.2.1.2 7 (sR τ.1 0))), σ.2.2.2.2)))).2.2.1, ((σ.1, (σ.2.1, (σ.2.2.1, ((σ.2.2.2.1.1, (pR σ.2.2.2.1.2 7 (sR τ.1 0))), σ.2.2.2.2)))).2.2.2.1, ((σ.1, (σ.2.1, (σ.2.2.1, ((σ.2.2.2.1.1, (pR σ.2.2.2.1.2 7 (sR τ.1 0))), σ.2.2.2.2)))).2.2.2.2.1, ((σ.1, (σ.2.1, (σ.2.2.1, ((σ.2.2.2.1.1, (pR σ.2.2.2.1.2 7 (sR τ.1 0))), σ.2.2.2.2)))).2.2.2.2.2.1, ((σ.1, (σ.2.1, (σ.2.2.1, ((σ.2.2.2.1.1, (pR σ.2.2.2.1.2 7 (sR τ.1 0))), σ.2.2.2.2)))).2.2.2.2.2.2.1, (τ.2, (σ.1, (σ.2.1, (σ.2.2.1, ((σ.2.2.2.1.1, (pR σ.2.2.2.1.2 7 (sR τ.1 0))), σ.2.2.2.2)))).2.2.2.2.2.2.2.2))))))))) H1 ∧ va_D A0 (dw_X12 a ac ((σ.1, (σ.2.1, (σ.2.2.1, ((σ.2.2.2.1.1, (pR σ.2.2.2.1.2 7 (sR τ.1 0))), σ.2.2.2.2)))).1, ((σ.1, (σ.2.1, (σ.2.2.1, ((σ.2.2.2.1.1, (pR σ.2.2.2.1.2 7 (sR τ.1 0))), σ.2.2.2.2)))).2.1, ((σ.1, (σ.2.1, (σ.2.2.1, ((σ.2.2.2.1.1, (pR σ.2.2.2.1.2 7 (sR τ.1 0))), σ.2.2.2.2)))).2.2.1, ((σ.1, (σ.2.1, (σ.2.2.1, ((σ.2.2.2.1.1, (pR σ.2.2.2.1.2 7 (sR τ.1 0))), σ.2.2.2.2)))).2.2.2.1, ((σ.1, (σ.2.1, (σ.2.2.1, ((σ.2.2.2.1.1, (pR σ.2.2.2.1.2 7 (sR τ.1 0))), σ.2.2.2.2)))).2.2.2.2.1, ((σ.1, (σ.2.1, (σ.2.2.1, ((σ.2.2.2.1.1, (pR σ.2.2.2.1.2 7 (sR τ.1 0))), σ.2.2.2.2)))).2.2.2.2.2.1, ((σ.1, (σ.2.1, (σ.2.2.1, ((σ.2.2.2.1.1, (pR σ.2.2.2.1.2 7 (sR τ.1 0))), σ.2.2.2.2)))).2.2.2.2.2.2.1, (τ.2, (σ.1, (σ.2.1, (σ.2.2.1, ((σ.2.2.2.1.1, (pR σ.2.2.2.1.2 7 (sR τ.1 0))), σ.2.2.2.2)))).2.2.2.2.2.2.2.2))))))))) := by
  have eo := de_wX12_X3s_13 (a := a) (ac := ac) (τ := ((pR nd_st0 0 (sR σ.2.2.2.1.2 7)), σ.2.2.2.2.2.2.2.1))
  have en := de_wX12_X3s_13 (a := a) (ac := ac) (τ := τ)
  have h := nd_vn (segs := dg_X12 a ac σ) (ix := [6, 13]) (old := [[(a 15, .inl (ac 15, 32768, .inl (sR (σ.2.2.2.1.2) 7)))], dw_X3c (fun k => a (k + 48)) (fun k => ac (k + 48)) (σ.2.2.2.2.2.2.2.1)]) (new := [[(a 15, .inl (ac 15, 32768, .inl (sR (pR nd_st0 7 (sR τ.1 0)) 7)))], dw_X3c (fun k => a (k + 48)) (fun k => ac (k + 48)) (τ.2)]) hP hD (nd_co rfl (nd_co rfl rfl)) rfl (fun q z y => hk q z (fun w => y (eo ▸ w))) (en ▸ h1)
  have ee : nd_sets (dg_X12 a ac σ) [6, 13] [[(a 15, .inl (ac 15, 32768, .inl (sR (pR nd_st0 7 (sR τ.1 0)) 7)))], dw_X3c (fun k => a (k + 48)) (fun k => ac (k + 48)) (τ.2)] = dg_X12 a ac ((σ.1, (σ.2.1, (σ.2.2.1, ((σ.2.2.2.1.1, (pR σ.2.2.2.1.2 7 (sR τ.1 0))), σ.2.2.2.2)))).1, ((σ.1, (σ.2.1, (σ.2.2.1, ((σ.2.2.2.1.1, (pR σ.2.2.2.1.2 7 (sR τ.1 0))), σ.2.2.2.2)))).2.1, ((σ.1, (σ.2.1, (σ.2.2.1, ((σ.2.2.2.1.1, (pR σ.2.2.2.1.2 7 (sR τ.1 0))), σ.2.2.2.2)))).2.2.1, ((σ.1, (σ.2.1, (σ.2.2.1, ((σ.2.2.2.1.1, (pR σ.2.2.2.1.2 7 (sR τ.1 0))), σ.2.2.2.2)))).2.2.2.1, ((σ.1, (σ.2.1, (σ.2.2.1, ((σ.2.2.2.1.1, (pR σ.2.2.2.1.2 7 (sR τ.1 0))), σ.2.2.2.2)))).2.2.2.2.1, ((σ.1, (σ.2.1, (σ.2.2.1, ((σ.2.2.2.1.1, (pR σ.2.2.2.1.2 7 (sR τ.1 0))), σ.2.2.2.2)))).2.2.2.2.2.1, ((σ.1, (σ.2.1, (σ.2.2.1, ((σ.2.2.2.1.1, (pR σ.2.2.2.1.2 7 (sR τ.1 0))), σ.2.2.2.2)))).2.2.2.2.2.2.1, (τ.2, (σ.1, (σ.2.1, (σ.2.2.1, ((σ.2.2.2.1.1, (pR σ.2.2.2.1.2 7 (sR τ.1 0))), σ.2.2.2.2)))).2.2.2.2.2.2.2.2)))))))) := rfl
  have hz : va_P D vwCl (dg_X12 a ac ((σ.1, (σ.2.1, (σ.2.2.1, ((σ.2.2.2.1.1, (pR σ.2.2.2.1.2 7 (sR τ.1 0))), σ.2.2.2.2)))).1, ((σ.1, (σ.2.1, (σ.2.2.1, ((σ.2.2.2.1.1, (pR σ.2.2.2.1.2 7 (sR τ.1 0))), σ.2.2.2.2)))).2.1, ((σ.1, (σ.2.1, (σ.2.2.1, ((σ.2.2.2.1.1, (pR σ.2.2.2.1.2 7 (sR τ.1 0))), σ.2.2.2.2)))).2.2.1, ((σ.1, (σ.2.1, (σ.2.2.1, ((σ.2.2.2.1.1, (pR σ.2.2.2.1.2 7 (sR τ.1 0))), σ.2.2.2.2)))).2.2.2.1, ((σ.1, (σ.2.1, (σ.2.2.1, ((σ.2.2.2.1.1, (pR σ.2.2.2.1.2 7 (sR τ.1 0))), σ.2.2.2.2)))).2.2.2.2.1, ((σ.1, (σ.2.1, (σ.2.2.1, ((σ.2.2.2.1.1, (pR σ.2.2.2.1.2 7 (sR τ.1 0))), σ.2.2.2.2)))).2.2.2.2.2.1, ((σ.1, (σ.2.1, (σ.2.2.1, ((σ.2.2.2.1.1, (pR σ.2.2.2.1.2 7 (sR τ.1 0))), σ.2.2.2.2)))).2.2.2.2.2.2.1, (τ.2, (σ.1, (σ.2.1, (σ.2.2.1, ((σ.2.2.2.1.1, (pR σ.2.2.2.1.2 7 (sR τ.1 0))), σ.2.2.2.2)))).2.2.2.2.2.2.2.2))))))))).flatten H1 := by rw [← ee]; exact h
  exact ⟨hz, nd_Da hD dA_X12⟩
def ow_dm_X12_replay : List Cond := .code yX12_replay cX12_replay 3 (some .int) :: ([.classLink RX12 70 "java/lang/IllegalArgumentException", .initialized "java/lang/IllegalArgumentException", .fieldLink RX12 16 "TimeMachine" "programs" "[LTimeMachine$Program;", .classLink RX12 118 "java/lang/IllegalStateException", .initialized "java/lang/IllegalStateException", .fieldLink RX12 33 "TimeMachine" "timeline" "LTimeMachine$Timeline;", .fieldLink RX12 125 "TimeMachine$Timeline" "spareEvents" "LTimeMachine$Events;", .fieldLink RX12 10 "TimeMachine" "tape" "[B", .methodLink RX12 77 yX12_useTape, .instanceMethod yX12_useTape, .selects RX12 yX12_useTape yX12_useTape, .initialized RX12, .methodLink RX12 129 yX3_readLog, .instanceMethod yX3_readLog, .selects RX3 yX3_readLog yX3_readLog, .initialized RX3, .methodLink RX12 135 yX11_startWith, .instanceMethod yX11_startWith, .selects RX11 yX11_startWith yX11_startWith, .initialized RX11] ++ (u_ws RX12 TX12 12 ++ (u_ws RX11 TX11 16 ++ (ow_dm_X12_useTape ++ (ow_dm_X3_readLog ++ (ow_dm_X11_startWith ++ ((vx_at0 RX12 72 "java/lang/IllegalArgumentException" ["java/lang/RuntimeException", "java/lang/Exception"]).filter goodWord ++ ((vx_at0 RX12 120 "java/lang/IllegalStateException" ["java/lang/RuntimeException", "java/lang/Exception"]).filter goodWord ++ []))))))))
theorem gd_dm_X12_replay : ∀ w ∈ ow_dm_X12_replay, (w.onTables && w.keeps) = true ∨ ∃ ty, w = Cond.arrayClass ty := List.forall_mem_cons.mpr ⟨good_of_word rfl, List.forall_mem_append.mpr ⟨fun w h => good_of_word (List.all_eq_true.mp (by decide +kernel) w h), List.forall_mem_append.mpr ⟨gu_X12, List.forall_mem_append.mpr ⟨gu_X11, List.forall_mem_append.mpr ⟨gd_dm_X12_useTape, List.forall_mem_append.mpr ⟨gd_dm_X3_readLog, List.forall_mem_append.mpr ⟨gd_dm_X11_startWith, List.forall_mem_append.mpr ⟨fun w h => good_of_word (List.mem_filter.mp h).2, List.forall_mem_append.mpr ⟨fun w h => good_of_word (List.mem_filter.mp h).2, fun _ h => nomatch h⟩⟩⟩⟩⟩⟩⟩⟩⟩
theorem hi_dm_X12_replay_X12 : ∀ w ∈ u_ws RX12 TX12 12, w ∈ ow_dm_X12_replay := fun w h => List.mem_cons_of_mem _ (List.mem_append_right _ (List.mem_append_left _ h))
theorem hi_dm_X12_replay_X11 : ∀ w ∈ u_ws RX11 TX11 16, w ∈ ow_dm_X12_replay := fun w h => List.mem_cons_of_mem _ (List.mem_append_right _ (List.mem_append_right _ (List.mem_append_left _ h)))
theorem gi_dm_X12_replay_0 : GoodIn ow_dm_X12_replay (wsV RX12 77 RX12 yX12_useTape ow_dm_X12_useTape) := goodIn_app (goodIn_of _ (by decide +kernel)) (fun w h => ⟨List.mem_cons_of_mem _ (List.mem_append_right _ (List.mem_append_right _ (List.mem_append_right _ (List.mem_append_left _ h)))), gd_dm_X12_useTape w h⟩)
theorem gi_dm_X12_replay_1 : GoodIn ow_dm_X12_replay (wsV RX12 129 RX3 yX3_readLog ow_dm_X3_readLog) := goodIn_app (goodIn_of _ (by decide +kernel)) (fun w h => ⟨List.mem_cons_of_mem _ (List.mem_append_right _ (List.mem_append_right _ (List.mem_append_right _ (List.mem_append_right _ (List.mem_append_left _ h))))), gd_dm_X3_readLog w h⟩)
theorem gi_dm_X12_replay_2 : GoodIn ow_dm_X12_replay (wsV RX12 135 RX11 yX11_startWith ow_dm_X11_startWith) := goodIn_app (goodIn_of _ (by decide +kernel)) (fun w h => ⟨List.mem_cons_of_mem _ (List.mem_append_right _ (List.mem_append_right _ (List.mem_append_right _ (List.mem_append_right _ (List.mem_append_right _ (List.mem_append_left _ h)))))), gd_dm_X11_startWith w h⟩)
def dj_X12_replay_9 (p : Program) (l : Launch) (e : Env) (s : State) (m : MethodId) (args : Array Value) (below : List Frame) (meth : Method) (c : Code) (Q : State → Prop) (A : Nat → Prop) (dC : Nat → ClassId) (dI : Nat → Nat → Nat) (a : Nat → Nat) (ac : Nat → ClassId) (g : (St × Rw × (St) × (St × (St)) × (St) × (St × (St × (St × (St)))) × (St) × (St) × (Nat → St) × (Nat → St) × (Nat → St × (St))) → Option ((Int32 × (St × Rw × (St) × (St × (St)) × (St) × (St × (St × (St × (St)))) × (St) × (St) × (Nat → St) × (Nat → St) × (Nat → St × (St)))) ⊕ (String × (St × Rw × (St) × (St × (St)) × (St) × (St × (St × (St × (St)))) × (St) × (St) × (Nat → St) × (Nat → St) × (Nat → St × (St)))))) (r : (Int32 × (St × Rw × (St) × (St × (St)) × (St) × (St × (St × (St × (St)))) × (St) × (St) × (Nat → St) × (Nat → St) × (Nat → St × (St)))) ⊕ (String × (St × Rw × (St) × (St × (St)) × (St) × (St × (St × (St × (St)))) × (St) × (St) × (Nat → St) × (Nat → St) × (Nat → St × (St))))) : Prop := ∀ (s0 : St × Rw × (St) × (St × (St)) × (St) × (St × (St × (St × (St)))) × (St) × (St) × (Nat → St) × (Nat → St) × (Nat → St × (St))) (H : Heap) (locs : List Loc) (ls : Array Slot), g s0 = some r → va_P (dC, dI) vwCl (dw_X12 a ac s0) H → va_D A (dw_X12 a ac s0) → va_S A s.heap H locs → lv_has ls 3 [] → W p l e (headSpec ow_dm_X12_replay ({ frames := 6, cells := 1, slots := 6, locals := 152 })).room s m args below meth c H locs 0 0 Q (F0 m 9 ls [])
def dj_X12_replay_69 (p : Program) (l : Launch) (e : Env) (s : State) (m : MethodId) (args : Array Value) (below : List Frame) (meth : Method) (c : Code) (Q : State → Prop) (A : Nat → Prop) (dC : Nat → ClassId) (dI : Nat → Nat → Nat) (a : Nat → Nat) (ac : Nat → ClassId) (g : Int32 → (St × Rw × (St) × (St × (St)) × (St) × (St × (St × (St × (St)))) × (St) × (St) × (Nat → St) × (Nat → St) × (Nat → St × (St))) → Option ((Int32 × (St × Rw × (St) × (St × (St)) × (St) × (St × (St × (St × (St)))) × (St) × (St) × (Nat → St) × (Nat → St) × (Nat → St × (St)))) ⊕ (String × (St × Rw × (St) × (St × (St)) × (St) × (St × (St × (St × (St)))) × (St) × (St) × (Nat → St) × (Nat → St) × (Nat → St × (St)))))) (r : (Int32 × (St × Rw × (St) × (St × (St)) × (St) × (St × (St × (St × (St)))) × (St) × (St) × (Nat → St) × (Nat → St) × (Nat → St × (St)))) ⊕ (String × (St × Rw × (St) × (St × (St)) × (St) × (St × (St × (St × (St)))) × (St) × (St) × (Nat → St) × (Nat → St) × (Nat → St × (St))))) : Prop := ∀ (x2 : Int32) (s0 : St × Rw × (St) × (St × (St)) × (St) × (St × (St × (St × (St)))) × (St) × (St) × (Nat → St) × (Nat → St) × (Nat → St × (St))) (H : Heap) (locs : List Loc) (ls : Array Slot), g x2 s0 = some r → va_P (dC, dI) vwCl (dw_X12 a ac s0) H → va_D A (dw_X12 a ac s0) → va_S A s.heap H locs → lv_has ls 3 [(2, .int x2)] → W p l e (headSpec ow_dm_X12_replay ({ frames := 6, cells := 1, slots := 6, locals := 152 })).room s m args below meth c H locs 0 0 Q (F0 m 69 ls [])
def dj_X12_replay_0 (p : Program) (l : Launch) (e : Env) (s : State) (m : MethodId) (args : Array Value) (below : List Frame) (meth : Method) (c : Code) (Q : State → Prop) (A : Nat → Prop) (dC : Nat → ClassId) (dI : Nat → Nat → Nat) (a : Nat → Nat) (ac : Nat → ClassId) (g : Int32 → (St × Rw × (St) × (St × (St)) × (St) × (St × (St × (St × (St)))) × (St) × (St) × (Nat → St) × (Nat → St) × (Nat → St × (St))) → Option ((Int32 × (St × Rw × (St) × (St × (St)) × (St) × (St × (St × (St × (St)))) × (St) × (St) × (Nat → St) × (Nat → St) × (Nat → St × (St)))) ⊕ (String × (St × Rw × (St) × (St × (St)) × (St) × (St × (St × (St × (St)))) × (St) × (St) × (Nat → St) × (Nat → St) × (Nat → St × (St)))))) (r : (Int32 × (St × Rw × (St) × (St × (St)) × (St) × (St × (St × (St × (St)))) × (St) × (St) × (Nat → St) × (Nat → St) × (Nat → St × (St)))) ⊕ (String × (St × Rw × (St) × (St × (St)) × (St) × (St × (St × (St × (St)))) × (St) × (St) × (Nat → St) × (Nat → St) × (Nat → St × (St))))) : Prop := ∀ (v0 : Int32) (s0 : St × Rw × (St) × (St × (St)) × (St) × (St × (St × (St × (St)))) × (St) × (St) × (Nat → St) × (Nat → St) × (Nat → St × (St))) (H : Heap) (locs : List Loc) (ls : Array Slot), g v0 s0 = some r → va_P (dC, dI) vwCl (dw_X12 a ac s0) H → va_D A (dw_X12 a ac s0) → va_S A s.heap H locs → lv_has ls 3 [(0, .ref (a 0)), (1, .int v0)] → W p l e (headSpec ow_dm_X12_replay ({ frames := 6, cells := 1, slots := 6, locals := 152 })).room s m args below meth c H locs 0 0 Q (F0 m 0 ls [])
set_option maxHeartbeats 40000000 in
set_option maxRecDepth 100000 in
theorem db_X12_replay_9 {p : Program} {l : Launch} {e : Env} {s : State} {m : MethodId} {args : Array Value} {below : List Frame} {meth : Method} {c : Code} {Qc : Array Value → State → Outcome → State → Prop} {A : Nat → Prop} {dC : Nat → ClassId} {dI : Nat → Nat → Nat} {a : Nat → Nat} {ac : Nat → ClassId} {n : Nat} {r : (Int32 × (St × Rw × (St) × (St × (St)) × (St) × (St × (St × (St × (St)))) × (St) × (St) × (Nat → St) × (Nat → St) × (Nat → St × (St)))) ⊕ (String × (St × Rw × (St) × (St × (St)) × (St) × (St × (St × (St × (St)))) × (St) × (St) × (Nat → St) × (Nat → St) × (Nat → St × (St))))} (C : nd_C p l s m args c A (dC, dI) cX12_replay 3 RX12 ow_dm_X12_replay (dk_X12 ac)) (CX : nv_Dc s ∧ (∀ x ∈ c.exceptionTable.toList, False) ∧ meth.locks = false) (K : nd_Ti p l e (headSpec ow_dm_X12_replay ({ frames := 6, cells := 1, slots := 6, locals := 152 })).room s m args below meth c (vx_MQ below Qc (nd_XC (dC, dI) (St × Rw × (St) × (St × (St)) × (St) × (St × (St × (St × (St)))) × (St) × (St) × (Nat → St) × (Nat → St) × (Nat → St × (St))) (dw_X12 a ac) A r) args s 1 6 A) A (dC, dI) cX12_replay .int (St × Rw × (St) × (St × (St)) × (St) × (St × (St × (St × (St)))) × (St) × (St) × (Nat → St) × (Nat → St) × (Nat → St × (St))) (dw_X12 a ac) r) : dj_X12_replay_9 p l e s m args below meth c (vx_MQ below Qc (nd_XC (dC, dI) (St × Rw × (St) × (St × (St)) × (St) × (St × (St × (St × (St)))) × (St) × (St) × (Nat → St) × (Nat → St) × (Nat → St × (St))) (dw_X12 a ac) A r) args s 1 6 A) A dC dI a ac (df_X12_replay_9 n (a 15) (a 3)) r := by
  obtain ⟨hDe, htb, hlocks⟩ := id CX
  obtain ⟨hlt, hx, hb, hml, hown, hts, hN, hA, hK⟩ := id C
  intro s0 H locs ls h hP hD hS hl
  unfold df_X12_replay_9 at h
  exact vx_throw0 (own := RX12) (cls := "java/lang/IllegalArgumentException") (names := ["java/lang/RuntimeException", "java/lang/Exception"]) (ik := 70) (ic := 72) (A := A) hx hb hlt hown (by decide +kernel) (by decide +kernel) (hts (.classLink RX12 70 "java/lang/IllegalArgumentException") (List.mem_of_getElem? (i := 1) rfl)) (hts (.initialized "java/lang/IllegalArgumentException") (List.mem_of_getElem? (i := 2) rfl)) (vx_hat (B := [.castable "java/lang/IllegalArgumentException" "java/lang/IllegalArgumentException", .declares ⟨"java/lang/RuntimeException", "<init>", "()V"⟩, .declares ⟨"java/lang/Exception", "<init>", "()V"⟩, .declares ⟨"java/lang/Throwable", "<init>", "()V"⟩]) (fun w h => hts w (List.mem_cons_of_mem _ (List.mem_append_right _ (List.mem_append_right _ (List.mem_append_right _ (List.mem_append_right _ (List.mem_append_right _ (List.mem_append_right _ (List.mem_append_left _ h))))))))) (by decide +kernel) (vx_c (va_Nw.use rfl hN.2.2.2.2.2.2.2.1) (vx_c (va_Nw.use rfl (hDe _ (by decide +kernel))) (vx_c (va_Nw.use rfl (hDe _ (by decide +kernel))) (vx_c (va_Nw.use rfl (hDe _ (by decide +kernel))) vx_n))))) (by decide +kernel) hN.2.2.2.2.2.1 hN.2.2.2.2.2.2.1 hS (by rw [hml]; exact hl.1) dX12_replay_9 dX12_replay_12 dX12_replay_13 dX12_replay_16 (fun x9 h9 => (htb x9 h9).elim) (Nat.le_of_ble_eq_true rfl) (Nat.le_of_ble_eq_true rfl) (by decide +kernel) (by decide +kernel) hlocks (fun t hvm hz hk => ⟨s0, trivial, ⟨(Option.some.inj h).symm, hP.kept (fun k q hq => hk q.1 (hP k q hq).lt), hD⟩, Nat.le_trans hS.1 hz, fun q h1 h2 => (hk q (Nat.lt_of_lt_of_le h1 hS.1)).trans (hS.2.1 q h1 h2)⟩) hS.2.2 (by decide +kernel) (by decide +kernel)
set_option maxHeartbeats 40000000 in
set_option maxRecDepth 100000 in
theorem db_X12_replay_69 {p : Program} {l : Launch} {e : Env} {s : State} {m : MethodId} {args : Array Value} {below : List Frame} {meth : Method} {c : Code} {Qc : Array Value → State → Outcome → State → Prop} {A : Nat → Prop} {dC : Nat → ClassId} {dI : Nat → Nat → Nat} {a : Nat → Nat} {ac : Nat → ClassId} {n : Nat} {r : (Int32 × (St × Rw × (St) × (St × (St)) × (St) × (St × (St × (St × (St)))) × (St) × (St) × (Nat → St) × (Nat → St) × (Nat → St × (St)))) ⊕ (String × (St × Rw × (St) × (St × (St)) × (St) × (St × (St × (St × (St)))) × (St) × (St) × (Nat → St) × (Nat → St) × (Nat → St × (St))))} (C : nd_C p l s m args c A (dC, dI) cX12_replay 3 RX12 ow_dm_X12_replay (dk_X12 ac)) (CX : nv_Dc s ∧ (∀ x ∈ c.exceptionTable.toList, False) ∧ meth.locks = false) (K : nd_Ti p l e (headSpec ow_dm_X12_replay ({ frames := 6, cells := 1, slots := 6, locals := 152 })).room s m args below meth c (vx_MQ below Qc (nd_XC (dC, dI) (St × Rw × (St) × (St × (St)) × (St) × (St × (St × (St × (St)))) × (St) × (St) × (Nat → St) × (Nat → St) × (Nat → St × (St))) (dw_X12 a ac) A r) args s 1 6 A) A (dC, dI) cX12_replay .int (St × Rw × (St) × (St × (St)) × (St) × (St × (St × (St × (St)))) × (St) × (St) × (Nat → St) × (Nat → St) × (Nat → St × (St))) (dw_X12 a ac) r) : dj_X12_replay_69 p l e s m args below meth c (vx_MQ below Qc (nd_XC (dC, dI) (St × Rw × (St) × (St × (St)) × (St) × (St × (St × (St × (St)))) × (St) × (St) × (Nat → St) × (Nat → St) × (Nat → St × (St))) (dw_X12 a ac) A r) args s 1 6 A) A dC dI a ac (df_X12_replay_69 n (a 15) (a 3)) r := by
  obtain ⟨hDe, htb, hlocks⟩ := id CX
  obtain ⟨hlt, hx, hb, hml, hown, hts, hN, hA, hK⟩ := id C
  intro x2 s0 H locs ls h hP hD hS hl
  unfold df_X12_replay_69 at h
  refine lv_iload_n hx hb dX12_replay_69 rfl (lv_at hl 0 rfl) ?_
  exact K _ _ _ _ _ _ dX12_replay_70 rfl (Option.some.inj h).symm hP hD hS
set_option maxHeartbeats 40000000 in
set_option maxRecDepth 100000 in
theorem db_X12_replay_0 {p : Program} {l : Launch} {e : Env} {s : State} {m : MethodId} {args : Array Value} {below : List Frame} {meth : Method} {c : Code} {Qc : Array Value → State → Outcome → State → Prop} {A : Nat → Prop} {dC : Nat → ClassId} {dI : Nat → Nat → Nat} {a : Nat → Nat} {ac : Nat → ClassId} {n : Nat} {r : (Int32 × (St × Rw × (St) × (St × (St)) × (St) × (St × (St × (St × (St)))) × (St) × (St) × (Nat → St) × (Nat → St) × (Nat → St × (St)))) ⊕ (String × (St × Rw × (St) × (St × (St)) × (St) × (St × (St × (St × (St)))) × (St) × (St) × (Nat → St) × (Nat → St) × (Nat → St × (St))))} (C : nd_C p l s m args c A (dC, dI) cX12_replay 3 RX12 ow_dm_X12_replay (dk_X12 ac)) (CX : nv_Dc s ∧ (∀ x ∈ c.exceptionTable.toList, False) ∧ meth.locks = false) (K : nd_Ti p l e (headSpec ow_dm_X12_replay ({ frames := 6, cells := 1, slots := 6, locals := 152 })).room s m args below meth c (vx_MQ below Qc (nd_XC (dC, dI) (St × Rw × (St) × (St × (St)) × (St) × (St × (St × (St × (St)))) × (St) × (St) × (Nat → St) × (Nat → St) × (Nat → St × (St))) (dw_X12 a ac) A r) args s 1 6 A) A (dC, dI) cX12_replay .int (St × Rw × (St) × (St × (St)) × (St) × (St × (St × (St × (St)))) × (St) × (St) × (Nat → St) × (Nat → St) × (Nat → St × (St))) (dw_X12 a ac) r) : dj_X12_replay_0 p l e s m args below meth c (vx_MQ below Qc (nd_XC (dC, dI) (St × Rw × (St) × (St × (St)) × (St) × (St × (St × (St × (St)))) × (St) × (St) × (Nat → St) × (Nat → St) × (Nat → St × (St))) (dw_X12 a ac) A r) args s 1 6 A) A dC dI a ac (df_X12_replay_0 n (a 15) (a 3)) r := by
  obtain ⟨hDe, htb, hlocks⟩ := id CX
  obtain ⟨hlt, hx, hb, hml, hown, hts, hN, hA, hK⟩ := id C
  intro v0 s0 H locs ls h hP hD hS hl
  unfold df_X12_replay_0 at h
  refine lv_iload_n hx hb dX12_replay_0 rfl (lv_at hl 1 rfl) ?_
  refine lv_if_lt (tgt := 9) hx hb dX12_replay_1 (by decide) (fun c1 => ?_) (fun c1 => ?_)
  · have h := nd_pos h c1
    exact (db_X12_replay_9 C CX K)  s0 _ _ _ h hP hD hS (lv_sub hl [] rfl)
  · have h := nd_neg h c1
    refine lv_iload_n hx hb dX12_replay_4 rfl (lv_at hl 1 rfl) ?_
    refine lv_iconst (v := 4) hx hb dX12_replay_5 (by decide) ?_
    refine lv_icmp_lt (tgt := 17) hx hb dX12_replay_6 (by decide) (fun c2 => ?_) (fun c2 => ?_)
    · have h := nd_pos h c2
      refine lv_aload_n hx hb dX12_replay_17 rfl (lv_at hl 0 rfl) ?_
      refine va_get (D := (dC, dI)) (ci := 13) (v := .ref (a 54)) (C := RX12) (T := TX12) (N := 12) hx hb hts hi_dm_X12_replay_X12 hown hK hP 0 rfl rfl 3 (by decide) (hts (.fieldLink RX12 16 "TimeMachine" "programs" "[LTimeMachine$Program;") (List.mem_of_getElem? (i := 3) rfl)) (fun _ h9 => h9) rfl dX12_replay_18 ?_
      refine lv_iload_n hx hb dX12_replay_21 rfl (lv_at hl 1 rfl) ?_
      obtain ⟨i3, h⟩ := nd_ck_e h
      refine va_aldq (i := v0) hx hb hK hP 54 44 rfl rfl i3 dX12_replay_22 ?_
      cases hrj4 : s0.2.1 1 (Int32.toNatClampNeg v0) with
      | none =>
        have h := nd_mN h hrj4
        refine W.eq (g2 := F0 m 23 ls [.null]) (by first | rfl | (show F0 m _ ls (va_rf (Option.map (fun j => a (0 + j * 5 + 57)) (s0.2.1 1 (Int32.toNatClampNeg v0))) :: _) = _; rw [hrj4]; rfl)) ?_
        refine lv_ifnonnullN hx hb dX12_replay_23 ?_
        exact vx_throw0 (own := RX12) (cls := "java/lang/IllegalStateException") (names := ["java/lang/RuntimeException", "java/lang/Exception"]) (ik := 118) (ic := 120) (A := A) hx hb hlt hown (by decide +kernel) (by decide +kernel) (hts (.classLink RX12 118 "java/lang/IllegalStateException") (List.mem_of_getElem? (i := 4) rfl)) (hts (.initialized "java/lang/IllegalStateException") (List.mem_of_getElem? (i := 5) rfl)) (vx_hat (B := [.castable "java/lang/IllegalStateException" "java/lang/IllegalStateException", .declares ⟨"java/lang/RuntimeException", "<init>", "()V"⟩, .declares ⟨"java/lang/Exception", "<init>", "()V"⟩, .declares ⟨"java/lang/Throwable", "<init>", "()V"⟩]) (fun w h => hts w (List.mem_cons_of_mem _ (List.mem_append_right _ (List.mem_append_right _ (List.mem_append_right _ (List.mem_append_right _ (List.mem_append_right _ (List.mem_append_right _ (List.mem_append_right _ (List.mem_append_left _ h)))))))))) (by decide +kernel) (vx_c (va_Nw.use rfl hN.2.2.2.2.2.2.2.2.1) (vx_c (va_Nw.use rfl (hDe _ (by decide +kernel))) (vx_c (va_Nw.use rfl (hDe _ (by decide +kernel))) (vx_c (va_Nw.use rfl (hDe _ (by decide +kernel))) vx_n))))) (by decide +kernel) hN.2.2.2.2.2.1 hN.2.2.2.2.2.2.1 hS (by rw [hml]; exact hl.1) dX12_replay_26 dX12_replay_29 dX12_replay_30 dX12_replay_33 (fun x9 h9 => (htb x9 h9).elim) (Nat.le_of_ble_eq_true rfl) (Nat.le_of_ble_eq_true rfl) (by decide +kernel) (by decide +kernel) hlocks (fun t hvm hz hk => ⟨s0, trivial, ⟨(Option.some.inj h).symm, hP.kept (fun k q hq => hk q.1 (hP k q hq).lt), hD⟩, Nat.le_trans hS.1 hz, fun q h1 h2 => (hk q (Nat.lt_of_lt_of_le h1 hS.1)).trans (hS.2.1 q h1 h2)⟩) hS.2.2 (by decide +kernel) (by decide +kernel)
      | some j4 =>
        have h := nd_mS h hrj4
        refine W.eq (g2 := F0 m 23 ls [.ref (a (0 + j4 * 5 + 57))]) (by first | rfl | (show F0 m _ ls (va_rf (Option.map (fun j => a (0 + j * 5 + 57)) (s0.2.1 1 (Int32.toNatClampNeg v0))) :: _) = _; rw [hrj4]; rfl)) ?_
        refine lv_ifnonnull (tgt := 34) hx hb dX12_replay_23 (by decide) ?_
        refine lv_aload_n hx hb dX12_replay_34 rfl (lv_at hl 0 rfl) ?_
        refine va_get (D := (dC, dI)) (ci := 13) (v := .ref (a 16)) (C := RX12) (T := TX12) (N := 12) hx hb hts hi_dm_X12_replay_X12 hown hK hP 0 rfl rfl 6 (by decide) (hts (.fieldLink RX12 33 "TimeMachine" "timeline" "LTimeMachine$Timeline;") (List.mem_of_getElem? (i := 6) rfl)) (fun _ h9 => h9) rfl dX12_replay_35 ?_
        by_cases o5 : sO s0.2.2.2.2.1 1 = some 27
        · have h := nd_pos h o5
          refine va_get (D := (dC, dI)) (ci := 12) (v := .ref (a 43)) (C := RX11) (T := TX11) (N := 16) hx hb hts hi_dm_X12_replay_X11 hown hK hP 16 rfl rfl 2 (by decide) (hts (.fieldLink RX12 125 "TimeMachine$Timeline" "spareEvents" "LTimeMachine$Events;") (List.mem_of_getElem? (i := 7) rfl)) (fun _ h9 => h9) (congrArg (fun z => some (va_rf (Option.map (fun k => a (k + 16)) z))) o5) dX12_replay_38 ?_
          refine lv_aload_n hx hb dX12_replay_41 rfl (lv_at hl 0 rfl) ?_
          refine va_get (D := (dC, dI)) (ci := 13) (v := .ref (a 15)) (C := RX12) (T := TX12) (N := 12) hx hb hts hi_dm_X12_replay_X12 hown hK hP 0 rfl rfl 0 (by decide) (hts (.fieldLink RX12 10 "TimeMachine" "tape" "[B") (List.mem_of_getElem? (i := 8) rfl)) (fun _ h9 => h9) rfl dX12_replay_42 ?_
          refine lv_aload_n hx hb dX12_replay_45 rfl (lv_at hl 0 rfl) ?_
          obtain ⟨q6, s7, hq, h⟩ := nd_b2_e h
          have hPc := hP
          have hDc := hD
          have hKc := hK
          have hFc := nd_rs hD hS hA
          refine nd_cVi (As := []) (rest := [.ref (a 15), .ref (a 43)]) (q := q6) (w' := dw_X12 a ac s7) ⟨hx, hb, hml, hown, hts⟩ (fun sz => dm_X12_useTape l hlt dC dI a ac n  s0 hq sz) (cwV 0 hts gi_dm_X12_replay_0 rfl rfl rfl (by decide +kernel) ⟨Nat.le_of_ble_eq_true rfl, Nat.le_of_ble_eq_true rfl⟩) hPc hDc hKc hS hA hN (va_recv hKc hPc (ci := 13) (q0 := 0) rfl rfl) rfl hl.1 rfl (Nat.le_of_ble_eq_true rfl) dX12_replay_46 (fun H locs hP1 hD1 hk1 hS => ?_)
          have hP := hP1
          have hD := hD1.weaken (fun k q _ h => hFc q.1 h)
          obtain ⟨q9, s10, hq, h⟩ := nd_b2_e h
          have hPc := dp_wX12_X3s_12 hP
          have hDc := dd_wX12_X3s_12 hD
          have hKc := dy_wX12_X3s_12 hK
          have hFc := nd_rs hDc hS hA
          have hzA : ∀ q : Nat, H.size ≤ q → A q := fun q h => hA q (Nat.le_trans hS.1 h)
          refine nd_cVi (As := [.ref (a 15), .int q6]) (rest := []) (q := q9) (w' := dw_X3s (fun k => a (if k < 1 then k + 15 else k - 1 + 43)) (fun k => ac (if k < 1 then k + 15 else k - 1 + 43)) s10) ⟨hx, hb, hml, hown, hts⟩ (fun sz => dm_X3_readLog l hlt dC dI (fun k => a (if k < 1 then k + 15 else k - 1 + 43)) (fun k => ac (if k < 1 then k + 15 else k - 1 + 43)) n (q6) ((pR nd_st0 0 (sR s7.2.2.2.1.2 7)), s7.2.2.2.2.2.2.1) hq sz) (cwV 2 hts gi_dm_X12_replay_1 rfl rfl rfl (by decide +kernel) ⟨Nat.le_of_ble_eq_true rfl, Nat.le_of_ble_eq_true rfl⟩) hPc hDc hKc hS hA hN (va_recv hKc hPc (ci := 4) (q0 := 1) rfl rfl) rfl hl.1 rfl (Nat.le_of_ble_eq_true rfl) dX12_replay_49 (fun H locs hP1 hD1 hk1 hS => ?_)
          obtain ⟨hP, hD⟩ := dn_wX12_X3s_12 hP hD hzA hk1 hP1 hD1
          obtain ⟨s12, es12, h⟩ := nd_let_e h
          have hP : va_P (dC, dI) vwCl (dw_X12 a ac s12) H := by rw [es12]; exact hP
          have hD : va_D A (dw_X12 a ac s12) := by rw [es12]; exact hD
          refine lv_istore_n (lv' := [(2, .int q9), (0, .ref (a 0)), (1, .int v0)]) hx hb dX12_replay_52 rfl hl (by decide) rfl (fun ls hl => ?_)
          refine lv_iload_n hx hb dX12_replay_53 rfl (lv_at hl 0 rfl) ?_
          refine lv_if_lt (tgt := 69) hx hb dX12_replay_54 (by decide) (fun c13 => ?_) (fun c13 => ?_)
          · have h := nd_pos h c13
            exact (db_X12_replay_69 C CX K) (q9) s12 _ _ _ h hP hD hS (lv_sub hl [0] rfl)
          · have h := nd_neg h c13
            refine lv_aload_n hx hb dX12_replay_57 rfl (lv_at hl 1 rfl) ?_
            refine va_get (D := (dC, dI)) (ci := 13) (v := .ref (a 16)) (C := RX12) (T := TX12) (N := 12) hx hb hts hi_dm_X12_replay_X12 hown hK hP 0 rfl rfl 6 (by decide) (hts (.fieldLink RX12 33 "TimeMachine" "timeline" "LTimeMachine$Timeline;") (List.mem_of_getElem? (i := 6) rfl)) (fun _ h9 => h9) rfl dX12_replay_58 ?_
            refine lv_aload_n hx hb dX12_replay_61 rfl (lv_at hl 1 rfl) ?_
            refine va_get (D := (dC, dI)) (ci := 13) (v := .ref (a 54)) (C := RX12) (T := TX12) (N := 12) hx hb hts hi_dm_X12_replay_X12 hown hK hP 0 rfl rfl 3 (by decide) (hts (.fieldLink RX12 16 "TimeMachine" "programs" "[LTimeMachine$Program;") (List.mem_of_getElem? (i := 3) rfl)) (fun _ h9 => h9) rfl dX12_replay_62 ?_
            refine lv_iload_n hx hb dX12_replay_65 rfl (lv_at hl 2 rfl) ?_
            obtain ⟨s15, hq, h⟩ := nd_b1_e h
            have hPc := dp_wX12_X11_11 hP
            have hDc := dd_wX12_X11_11 hD
            have hKc := dy_wX12_X11_11 hK
            have hFc := nd_rs hDc hS hA
            have hzA : ∀ q : Nat, H.size ≤ q → A q := fun q h => hA q (Nat.le_trans hS.1 h)
            refine nd_cVv (As := [.ref (a 54), .int v0]) (rest := []) (w' := dw_X11 (fun k => a (k + 16)) (fun k => ac (k + 16)) s15) ⟨hx, hb, hml, hown, hts⟩ (fun sz => dm_X11_startWith l hlt dC dI (fun k => a (k + 16)) (fun k => ac (k + 16)) n (v0) (s12.2.2.2.2.1, s12.2.1, s12.2.2.2.2.2.1, s12.2.2.2.2.2.2.1, s12.2.2.2.2.2.2.2.1, s12.2.2.2.2.2.2.2.2.1, s12.2.2.2.2.2.2.2.2.2.1, s12.2.2.2.2.2.2.2.2.2.2) hq sz) (cwV 2 hts gi_dm_X12_replay_2 rfl rfl rfl (by decide +kernel) ⟨Nat.le_of_ble_eq_true rfl, Nat.le_of_ble_eq_true rfl⟩) hPc hDc hKc hS hA hN (va_recv hKc hPc (ci := 12) (q0 := 0) rfl rfl) rfl hl.1 rfl (Nat.le_of_ble_eq_true rfl) dX12_replay_66 (fun H locs hP1 hD1 hk1 hS => ?_)
            obtain ⟨hP, hD⟩ := dn_wX12_X11_11 hP hD hzA hk1 hP1 hD1
            obtain ⟨s17, es17, h⟩ := nd_let_e h
            have hP : va_P (dC, dI) vwCl (dw_X12 a ac s17) H := by rw [es17]; exact hP
            have hD : va_D A (dw_X12 a ac s17) := by rw [es17]; exact hD
            exact (db_X12_replay_69 C CX K) (q9) s17 _ _ _ h hP hD hS (lv_sub hl [0] rfl)
        have h := nd_neg h o5
        by_cases o18 : sO s0.2.2.2.2.1 1 = some 32
        · have h := nd_pos h o18
          refine va_get (D := (dC, dI)) (ci := 12) (v := .ref (a 48)) (C := RX11) (T := TX11) (N := 16) hx hb hts hi_dm_X12_replay_X11 hown hK hP 16 rfl rfl 2 (by decide) (hts (.fieldLink RX12 125 "TimeMachine$Timeline" "spareEvents" "LTimeMachine$Events;") (List.mem_of_getElem? (i := 7) rfl)) (fun _ h9 => h9) (congrArg (fun z => some (va_rf (Option.map (fun k => a (k + 16)) z))) o18) dX12_replay_38 ?_
          refine lv_aload_n hx hb dX12_replay_41 rfl (lv_at hl 0 rfl) ?_
          refine va_get (D := (dC, dI)) (ci := 13) (v := .ref (a 15)) (C := RX12) (T := TX12) (N := 12) hx hb hts hi_dm_X12_replay_X12 hown hK hP 0 rfl rfl 0 (by decide) (hts (.fieldLink RX12 10 "TimeMachine" "tape" "[B") (List.mem_of_getElem? (i := 8) rfl)) (fun _ h9 => h9) rfl dX12_replay_42 ?_
          refine lv_aload_n hx hb dX12_replay_45 rfl (lv_at hl 0 rfl) ?_
          obtain ⟨q19, s20, hq, h⟩ := nd_b2_e h
          have hPc := hP
          have hDc := hD
          have hKc := hK
          have hFc := nd_rs hD hS hA
          refine nd_cVi (As := []) (rest := [.ref (a 15), .ref (a 48)]) (q := q19) (w' := dw_X12 a ac s20) ⟨hx, hb, hml, hown, hts⟩ (fun sz => dm_X12_useTape l hlt dC dI a ac n  s0 hq sz) (cwV 0 hts gi_dm_X12_replay_0 rfl rfl rfl (by decide +kernel) ⟨Nat.le_of_ble_eq_true rfl, Nat.le_of_ble_eq_true rfl⟩) hPc hDc hKc hS hA hN (va_recv hKc hPc (ci := 13) (q0 := 0) rfl rfl) rfl hl.1 rfl (Nat.le_of_ble_eq_true rfl) dX12_replay_46 (fun H locs hP1 hD1 hk1 hS => ?_)
          have hP := hP1
          have hD := hD1.weaken (fun k q _ h => hFc q.1 h)
          obtain ⟨q22, s23, hq, h⟩ := nd_b2_e h
          have hPc := dp_wX12_X3s_13 hP
          have hDc := dd_wX12_X3s_13 hD
          have hKc := dy_wX12_X3s_13 hK
          have hFc := nd_rs hDc hS hA
          have hzA : ∀ q : Nat, H.size ≤ q → A q := fun q h => hA q (Nat.le_trans hS.1 h)
          refine nd_cVi (As := [.ref (a 15), .int q19]) (rest := []) (q := q22) (w' := dw_X3s (fun k => a (if k < 1 then k + 15 else k - 1 + 48)) (fun k => ac (if k < 1 then k + 15 else k - 1 + 48)) s23) ⟨hx, hb, hml, hown, hts⟩ (fun sz => dm_X3_readLog l hlt dC dI (fun k => a (if k < 1 then k + 15 else k - 1 + 48)) (fun k => ac (if k < 1 then k + 15 else k - 1 + 48)) n (q19) ((pR nd_st0 0 (sR s20.2.2.2.1.2 7)), s20.2.2.2.2.2.2.2.1) hq sz) (cwV 2 hts gi_dm_X12_replay_1 rfl rfl rfl (by decide +kernel) ⟨Nat.le_of_ble_eq_true rfl, Nat.le_of_ble_eq_true rfl⟩) hPc hDc hKc hS hA hN (va_recv hKc hPc (ci := 4) (q0 := 1) rfl rfl) rfl hl.1 rfl (Nat.le_of_ble_eq_true rfl) dX12_replay_49 (fun H locs hP1 hD1 hk1 hS => ?_)
          obtain ⟨hP, hD⟩ := dn_wX12_X3s_13 hP hD hzA hk1 hP1 hD1
          obtain ⟨s25, es25, h⟩ := nd_let_e h
          have hP : va_P (dC, dI) vwCl (dw_X12 a ac s25) H := by rw [es25]; exact hP
          have hD : va_D A (dw_X12 a ac s25) := by rw [es25]; exact hD
          refine lv_istore_n (lv' := [(2, .int q22), (0, .ref (a 0)), (1, .int v0)]) hx hb dX12_replay_52 rfl hl (by decide) rfl (fun ls hl => ?_)
          refine lv_iload_n hx hb dX12_replay_53 rfl (lv_at hl 0 rfl) ?_
          refine lv_if_lt (tgt := 69) hx hb dX12_replay_54 (by decide) (fun c26 => ?_) (fun c26 => ?_)
          · have h := nd_pos h c26
            exact (db_X12_replay_69 C CX K) (q22) s25 _ _ _ h hP hD hS (lv_sub hl [0] rfl)
          · have h := nd_neg h c26
            refine lv_aload_n hx hb dX12_replay_57 rfl (lv_at hl 1 rfl) ?_
            refine va_get (D := (dC, dI)) (ci := 13) (v := .ref (a 16)) (C := RX12) (T := TX12) (N := 12) hx hb hts hi_dm_X12_replay_X12 hown hK hP 0 rfl rfl 6 (by decide) (hts (.fieldLink RX12 33 "TimeMachine" "timeline" "LTimeMachine$Timeline;") (List.mem_of_getElem? (i := 6) rfl)) (fun _ h9 => h9) rfl dX12_replay_58 ?_
            refine lv_aload_n hx hb dX12_replay_61 rfl (lv_at hl 1 rfl) ?_
            refine va_get (D := (dC, dI)) (ci := 13) (v := .ref (a 54)) (C := RX12) (T := TX12) (N := 12) hx hb hts hi_dm_X12_replay_X12 hown hK hP 0 rfl rfl 3 (by decide) (hts (.fieldLink RX12 16 "TimeMachine" "programs" "[LTimeMachine$Program;") (List.mem_of_getElem? (i := 3) rfl)) (fun _ h9 => h9) rfl dX12_replay_62 ?_
            refine lv_iload_n hx hb dX12_replay_65 rfl (lv_at hl 2 rfl) ?_
            obtain ⟨s28, hq, h⟩ := nd_b1_e h
            have hPc := dp_wX12_X11_11 hP
            have hDc := dd_wX12_X11_11 hD
            have hKc := dy_wX12_X11_11 hK
            have hFc := nd_rs hDc hS hA
            have hzA : ∀ q : Nat, H.size ≤ q → A q := fun q h => hA q (Nat.le_trans hS.1 h)
            refine nd_cVv (As := [.ref (a 54), .int v0]) (rest := []) (w' := dw_X11 (fun k => a (k + 16)) (fun k => ac (k + 16)) s28) ⟨hx, hb, hml, hown, hts⟩ (fun sz => dm_X11_startWith l hlt dC dI (fun k => a (k + 16)) (fun k => ac (k + 16)) n (v0) (s25.2.2.2.2.1, s25.2.1, s25.2.2.2.2.2.1, s25.2.2.2.2.2.2.1, s25.2.2.2.2.2.2.2.1, s25.2.2.2.2.2.2.2.2.1, s25.2.2.2.2.2.2.2.2.2.1, s25.2.2.2.2.2.2.2.2.2.2) hq sz) (cwV 2 hts gi_dm_X12_replay_2 rfl rfl rfl (by decide +kernel) ⟨Nat.le_of_ble_eq_true rfl, Nat.le_of_ble_eq_true rfl⟩) hPc hDc hKc hS hA hN (va_recv hKc hPc (ci := 12) (q0 := 0) rfl rfl) rfl hl.1 rfl (Nat.le_of_ble_eq_true rfl) dX12_replay_66 (fun H locs hP1 hD1 hk1 hS => ?_)
            obtain ⟨hP, hD⟩ := dn_wX12_X11_11 hP hD hzA hk1 hP1 hD1
            obtain ⟨s30, es30, h⟩ := nd_let_e h
            have hP : va_P (dC, dI) vwCl (dw_X12 a ac s30) H := by rw [es30]; exact hP
            have hD : va_D A (dw_X12 a ac s30) := by rw [es30]; exact hD
            exact (db_X12_replay_69 C CX K) (q22) s30 _ _ _ h hP hD hS (lv_sub hl [0] rfl)
        have h := nd_neg h o18
        exact nomatch h
    · have h := nd_neg h c2
      exact (db_X12_replay_9 C CX K)  s0 _ _ _ h hP hD hS (lv_sub hl [] rfl)
set_option maxHeartbeats 40000000 in
set_option maxRecDepth 100000 in
theorem dm_X12_replay (l : Launch) (hlt : l.stackTraces = false) (dC : Nat → ClassId) (dI : Nat → Nat → Nat) (a : Nat → Nat) (ac : Nat → ClassId) (n : Nat) (v0 : Int32) (s0 : St × Rw × (St) × (St × (St)) × (St) × (St × (St × (St × (St)))) × (St) × (St) × (Nat → St) × (Nat → St) × (Nat → St × (St))) {r : (Int32 × (St × Rw × (St) × (St × (St)) × (St) × (St × (St × (St × (St)))) × (St) × (St) × (Nat → St) × (Nat → St) × (Nat → St × (St)))) ⊕ (String × (St × Rw × (St) × (St × (St)) × (St) × (St × (St × (St × (St)))) × (St) × (St) × (Nat → St) × (Nat → St) × (Nat → St × (St))))} (h : df_X12_replay n (a 15) (a 3) v0 s0 = some r) (sz : Nat) : vx_Met l yX12_replay ow_dm_X12_replay ({ frames := 6, cells := 1, slots := 6, locals := 152 }) (va_Pc [.ref (a 0), .int v0] (fun U => U.heap.size = sz ∧ va_P (dC, dI) vwCl (dw_X12 a ac s0) U.heap ∧ va_K (dC, dI) vwCl (dk_X12 ac) U ∧ va_D (fun _ => True) (dw_X12 a ac s0) ∧ nv_E (va_A (dw_X12 a ac s0) sz) U ∧ nv_Dc U)) (va_Qi (fun x u => r = Sum.inl (x, u)) (fun (u : St × Rw × (St) × (St × (St)) × (St) × (St × (St × (St × (St)))) × (St) × (St) × (Nat → St) × (Nat → St) × (Nat → St × (St))) t => va_P (dC, dI) vwCl (dw_X12 a ac u) t.heap ∧ va_K (dC, dI) vwCl (dk_X12 ac) t ∧ va_D (va_A (dw_X12 a ac s0) sz) (dw_X12 a ac u)) (va_A (dw_X12 a ac s0) sz)) (nd_XC (dC, dI) (St × Rw × (St) × (St × (St)) × (St) × (St × (St × (St × (St)))) × (St) × (St) × (Nat → St) × (Nat → St) × (Nat → St × (St))) (dw_X12 a ac) (va_A (dw_X12 a ac s0) sz) r) 1 6 (va_A (dw_X12 a ac s0) sz) := by
  refine vx_ofW (cc := cX12_replay) (maxL := 3) (ret := (some .int)) (by decide) rfl ?_
  intro p e s m args below meth c s₁ B hml htb hv
  obtain ⟨rfl, hsz, hP, hK, hD0, hN, hDe⟩ := hv
  have hx := B.exec
  have hb := B.bytes
  have hr := B.returns
  have hts := atoms_spec (ws := ow_dm_X12_replay) B.pre
  have hown : s.vm.findClass RX12 = some m.cls := findClass_of_methodNamed B.named
  have hlocks := B.notSynchronized
  subst hsz
  have hD := hD0.self (sz := s.heap.size)
  generalize hAe : va_A (dw_X12 a ac s0) s.heap.size = A at hD hN ⊢
  have hA : ∀ q : Nat, s.heap.size ≤ q → A q := fun q h => by rw [← hAe]; exact Or.inr h
  have hl := lv_entry ([.ref (a 0), .int v0]) (n := 3) (Nat.le_of_ble_eq_true rfl)
  rw [lg_entry_eq]
  generalize (lg_sl ([.ref (a 0), .int v0]) ++ List.replicate (3 - (lg_sl ([.ref (a 0), .int v0])).length) Slot.unset).toArray = ls at hl ⊢
  have hl : lv_has ls 3 [(0, .ref (a 0)), (1, .int v0)] := hl
  exact db_X12_replay_0 (dC := dC) (dI := dI) (a := a) (ac := ac) (n := n) (r := r) ⟨hlt, hx, hb, hml, hown, hts, hN, hA, hK⟩ ⟨hDe, htb, hlocks⟩ (fun pc v τ H locs ls d z er hP hD hS => by subst er; exact W.widen (k := 1) (n := 6) (by decide) (by decide) (vx_ret (W.zret (v := v) hx hb hr z (fun t ht hW => ⟨⟨v, τ, rfl, rfl, by rw [ht]; exact hP, va_K.moved hW.alike hK, hD⟩, hS.F ht⟩) hS.2.2 d))) v0 s0 _ _ _ h hP hD va_S.rf (lv_sub hl [0, 1] rfl)
def ow_dm_X12_outside : List Cond := .code yX12_outside cX12_outside 5 (some .int) :: ([.methodLink RX12 138 yX3_isEvent, .static yX3_isEvent, .initialized RX3, .fieldLink RX12 33 "TimeMachine" "timeline" "LTimeMachine$Timeline;", .fieldLink RX12 142 "TimeMachine$Timeline" "booted" "Z", .methodLink RX12 145 yX3_first, .static yX3_first, .methodLink RX12 149 yX3_second, .static yX3_second, .methodLink RX12 153 yX11_come, .instanceMethod yX11_come, .selects RX11 yX11_come yX11_come, .initialized RX11, .classLink RX12 118 "java/lang/IllegalStateException", .initialized "java/lang/IllegalStateException", .classLink RX12 70 "java/lang/IllegalArgumentException", .initialized "java/lang/IllegalArgumentException"] ++ (u_ws RX12 TX12 12 ++ (u_ws RX11 TX11 16 ++ (ow_dm_X3_isEvent ++ (ow_dm_X3_first ++ (ow_dm_X3_second ++ (ow_dm_X11_come ++ ((vx_at0 RX12 120 "java/lang/IllegalStateException" ["java/lang/RuntimeException", "java/lang/Exception"]).filter goodWord ++ ((vx_at0 RX12 72 "java/lang/IllegalArgumentException" ["java/lang/RuntimeException", "java/lang/Exception"]).filter goodWord ++ [])))))))))
theorem gd_dm_X12_outside : ∀ w ∈ ow_dm_X12_outside, (w.onTables && w.keeps) = true ∨ ∃ ty, w = Cond.arrayClass ty := List.forall_mem_cons.mpr ⟨good_of_word rfl, List.forall_mem_append.mpr ⟨fun w h => good_of_word (List.all_eq_true.mp (by decide +kernel) w h), List.forall_mem_append.mpr ⟨gu_X12, List.forall_mem_append.mpr ⟨gu_X11, List.forall_mem_append.mpr ⟨gd_dm_X3_isEvent, List.forall_mem_append.mpr ⟨gd_dm_X3_first, List.forall_mem_append.mpr ⟨gd_dm_X3_second, List.forall_mem_append.mpr ⟨gd_dm_X11_come, List.forall_mem_append.mpr ⟨fun w h => good_of_word (List.mem_filter.mp h).2, List.forall_mem_append.mpr ⟨fun w h => good_of_word (List.mem_filter.mp h).2, fun _ h => nomatch h⟩⟩⟩⟩⟩⟩⟩⟩⟩⟩
theorem hi_dm_X12_outside_X12 : ∀ w ∈ u_ws RX12 TX12 12, w ∈ ow_dm_X12_outside := fun w h => List.mem_cons_of_mem _ (List.mem_append_right _ (List.mem_append_left _ h))
theorem hi_dm_X12_outside_X11 : ∀ w ∈ u_ws RX11 TX11 16, w ∈ ow_dm_X12_outside := fun w h => List.mem_cons_of_mem _ (List.mem_append_right _ (List.mem_append_right _ (List.mem_append_left _ h)))
theorem gi_dm_X12_outside_0 : GoodIn ow_dm_X12_outside (va_wsS RX12 138 yX3_isEvent ow_dm_X3_isEvent) := goodIn_app (goodIn_of _ (by decide +kernel)) (fun w h => ⟨List.mem_cons_of_mem _ (List.mem_append_right _ (List.mem_append_right _ (List.mem_append_right _ (List.mem_append_left _ h)))), gd_dm_X3_isEvent w h⟩)
theorem gi_dm_X12_outside_1 : GoodIn ow_dm_X12_outside (va_wsS RX12 145 yX3_first ow_dm_X3_first) := goodIn_app (goodIn_of _ (by decide +kernel)) (fun w h => ⟨List.mem_cons_of_mem _ (List.mem_append_right _ (List.mem_append_right _ (List.mem_append_right _ (List.mem_append_right _ (List.mem_append_left _ h))))), gd_dm_X3_first w h⟩)
theorem gi_dm_X12_outside_2 : GoodIn ow_dm_X12_outside (va_wsS RX12 149 yX3_second ow_dm_X3_second) := goodIn_app (goodIn_of _ (by decide +kernel)) (fun w h => ⟨List.mem_cons_of_mem _ (List.mem_append_right _ (List.mem_append_right _ (List.mem_append_right _ (List.mem_append_right _ (List.mem_append_right _ (List.mem_append_left _ h)))))), gd_dm_X3_second w h⟩)
theorem gi_dm_X12_outside_3 : GoodIn ow_dm_X12_outside (wsV RX12 153 RX11 yX11_come ow_dm_X11_come) := goodIn_app (goodIn_of _ (by decide +kernel)) (fun w h => ⟨List.mem_cons_of_mem _ (List.mem_append_right _ (List.mem_append_right _ (List.mem_append_right _ (List.mem_append_right _ (List.mem_append_right _ (List.mem_append_right _ (List.mem_append_left _ h))))))), gd_dm_X11_come w h⟩)
def dj_X12_outside_0 (p : Program) (l : Launch) (e : Env) (s : State) (m : MethodId) (args : Array Value) (below : List Frame) (meth : Method) (c : Code) (Q : State → Prop) (A : Nat → Prop) (dC : Nat → ClassId) (dI : Nat → Nat → Nat) (a : Nat → Nat) (ac : Nat → ClassId) (g : Int32 → Int64 → Int32 → (St × Rw × (St) × (St × (St)) × (St) × (St × (St × (St × (St)))) × (St) × (St) × (Nat → St) × (Nat → St) × (Nat → St × (St))) → Option ((Int32 × (St × Rw × (St) × (St × (St)) × (St) × (St × (St × (St × (St)))) × (St) × (St) × (Nat → St) × (Nat → St) × (Nat → St × (St)))) ⊕ (String × (St × Rw × (St) × (St × (St)) × (St) × (St × (St × (St × (St)))) × (St) × (St) × (Nat → St) × (Nat → St) × (Nat → St × (St)))))) (r : (Int32 × (St × Rw × (St) × (St × (St)) × (St) × (St × (St × (St × (St)))) × (St) × (St) × (Nat → St) × (Nat → St) × (Nat → St × (St)))) ⊕ (String × (St × Rw × (St) × (St × (St)) × (St) × (St × (St × (St × (St)))) × (St) × (St) × (Nat → St) × (Nat → St) × (Nat → St × (St))))) : Prop := ∀ (v0 : Int32) (v1 : Int64) (v2 : Int32) (s0 : St × Rw × (St) × (St × (St)) × (St) × (St × (St × (St × (St)))) × (St) × (St) × (Nat → St) × (Nat → St) × (Nat → St × (St))) (H : Heap) (locs : List Loc) (ls : Array Slot), g v0 v1 v2 s0 = some r → va_P (dC, dI) vwCl (dw_X12 a ac s0) H → va_D A (dw_X12 a ac s0) → va_S A s.heap H locs → lv_has ls 5 [(0, .ref (a 0)), (1, .int v0), (2, .long v1), (4, .int v2)] → W p l e (headSpec ow_dm_X12_outside ({ frames := 6, cells := 1, slots := 6, locals := 119 })).room s m args below meth c H locs 0 0 Q (F0 m 0 ls [])
set_option maxHeartbeats 40000000 in
set_option maxRecDepth 100000 in
theorem db_X12_outside_0 {p : Program} {l : Launch} {e : Env} {s : State} {m : MethodId} {args : Array Value} {below : List Frame} {meth : Method} {c : Code} {Qc : Array Value → State → Outcome → State → Prop} {A : Nat → Prop} {dC : Nat → ClassId} {dI : Nat → Nat → Nat} {a : Nat → Nat} {ac : Nat → ClassId} {n : Nat} {r : (Int32 × (St × Rw × (St) × (St × (St)) × (St) × (St × (St × (St × (St)))) × (St) × (St) × (Nat → St) × (Nat → St) × (Nat → St × (St)))) ⊕ (String × (St × Rw × (St) × (St × (St)) × (St) × (St × (St × (St × (St)))) × (St) × (St) × (Nat → St) × (Nat → St) × (Nat → St × (St))))} (C : nd_C p l s m args c A (dC, dI) cX12_outside 5 RX12 ow_dm_X12_outside (dk_X12 ac)) (CX : nv_Dc s ∧ (∀ x ∈ c.exceptionTable.toList, False) ∧ meth.locks = false) (K : nd_Ti p l e (headSpec ow_dm_X12_outside ({ frames := 6, cells := 1, slots := 6, locals := 119 })).room s m args below meth c (vx_MQ below Qc (nd_XC (dC, dI) (St × Rw × (St) × (St × (St)) × (St) × (St × (St × (St × (St)))) × (St) × (St) × (Nat → St) × (Nat → St) × (Nat → St × (St))) (dw_X12 a ac) A r) args s 1 6 A) A (dC, dI) cX12_outside .int (St × Rw × (St) × (St × (St)) × (St) × (St × (St × (St × (St)))) × (St) × (St) × (Nat → St) × (Nat → St) × (Nat → St × (St))) (dw_X12 a ac) r) : dj_X12_outside_0 p l e s m args below meth c (vx_MQ below Qc (nd_XC (dC, dI) (St × Rw × (St) × (St × (St)) × (St) × (St × (St × (St × (St)))) × (St) × (St) × (Nat → St) × (Nat → St) × (Nat → St × (St))) (dw_X12 a ac) A r) args s 1 6 A) A dC dI a ac (df_X12_outside_0 n (a 15) (a 3)) r := by
  obtain ⟨hDe, htb, hlocks⟩ := id CX
  obtain ⟨hlt, hx, hb, hml, hown, hts, hN, hA, hK⟩ := id C
  intro v0 v1 v2 s0 H locs ls h hP hD hS hl
  unfold df_X12_outside_0 at h
  refine lv_iload_n hx hb dX12_outside_0 rfl (lv_at hl 1 rfl) ?_
  refine lv_lload_n hx hb dX12_outside_1 rfl (lv_at hl 2 rfl) ?_
  refine lv_iload hx hb dX12_outside_2 (lv_at hl 3 rfl) ?_
  obtain ⟨q1, s2, hq, h⟩ := nd_b2_e h
  have hPc : va_P (dC, dI) vwCl (dw_P a ac ()) H := nd_p0
  have hDc : va_D A (dw_P a ac ()) := nd_d0
  have hKc : va_K (dC, dI) vwCl (dk_P ac) s := nd_y0 hK
  have hFc : ∀ q, va_A (dw_P a ac ()) H.size q → A q := nd_r0 hS hA
  refine nd_cSi (As := [.int v0, .long v1, .int v2]) (rest := []) (q := q1) (w' := dw_P a ac s2) ⟨hx, hb, hml, hown, hts⟩ (fun sz => dm_X3_isEvent l hlt dC dI a ac n (v0) (v1) (v2) () hq sz) (va_cwS 3 hts gi_dm_X12_outside_0 rfl rfl rfl (by decide +kernel) ⟨Nat.le_of_ble_eq_true rfl, Nat.le_of_ble_eq_true rfl⟩) hPc hDc hKc hS hA hN rfl hl.1 rfl (Nat.le_of_ble_eq_true rfl) dX12_outside_4 (fun H locs hP1 hD1 hk1 hS => ?_)
  have hP := nd_n0 hP hk1
  refine lv_if_ne (tgt := 18) hx hb dX12_outside_7 (by decide) (fun c4 => ?_) (fun c4 => ?_)
  · have h := nd_neg h c4
    refine lv_aload_n hx hb dX12_outside_18 rfl (lv_at hl 0 rfl) ?_
    refine va_get (D := (dC, dI)) (ci := 13) (v := .ref (a 16)) (C := RX12) (T := TX12) (N := 12) hx hb hts hi_dm_X12_outside_X12 hown hK hP 0 rfl rfl 6 (by decide) (hts (.fieldLink RX12 33 "TimeMachine" "timeline" "LTimeMachine$Timeline;") (List.mem_of_getElem? (i := 4) rfl)) (fun _ h9 => h9) rfl dX12_outside_19 ?_
    refine va_get (D := (dC, dI)) (ci := 12) (v := .int (sI s0.2.2.2.2.1 0)) (C := RX11) (T := TX11) (N := 16) hx hb hts hi_dm_X12_outside_X11 hown hK hP 16 rfl rfl 6 (by decide) (hts (.fieldLink RX12 142 "TimeMachine$Timeline" "booted" "Z") (List.mem_of_getElem? (i := 5) rfl)) (fun _ h9 => h9) rfl dX12_outside_22 ?_
    refine lv_if_ne (tgt := 36) hx hb dX12_outside_25 (by decide) (fun c5 => ?_) (fun c5 => ?_)
    · have h := nd_neg h c5
      refine lv_aload_n hx hb dX12_outside_36 rfl (lv_at hl 0 rfl) ?_
      refine va_get (D := (dC, dI)) (ci := 13) (v := .ref (a 16)) (C := RX12) (T := TX12) (N := 12) hx hb hts hi_dm_X12_outside_X12 hown hK hP 0 rfl rfl 6 (by decide) (hts (.fieldLink RX12 33 "TimeMachine" "timeline" "LTimeMachine$Timeline;") (List.mem_of_getElem? (i := 4) rfl)) (fun _ h9 => h9) rfl dX12_outside_37 ?_
      refine lv_iload_n hx hb dX12_outside_40 rfl (lv_at hl 1 rfl) ?_
      refine lv_iload_n hx hb dX12_outside_41 rfl (lv_at hl 1 rfl) ?_
      refine lv_lload_n hx hb dX12_outside_42 rfl (lv_at hl 2 rfl) ?_
      refine lv_iload hx hb dX12_outside_43 (lv_at hl 3 rfl) ?_
      obtain ⟨q6, s7, hq, h⟩ := nd_b2_e h
      have hPc : va_P (dC, dI) vwCl (dw_P a ac ()) H := nd_p0
      have hDc : va_D A (dw_P a ac ()) := nd_d0
      have hKc : va_K (dC, dI) vwCl (dk_P ac) s := nd_y0 hK
      have hFc : ∀ q, va_A (dw_P a ac ()) H.size q → A q := nd_r0 hS hA
      refine nd_cSl (As := [.int v0, .long v1, .int v2]) (rest := [.int v0, .ref (a 16)]) (q := q6) (w' := dw_P a ac s7) ⟨hx, hb, hml, hown, hts⟩ (fun sz => dm_X3_first l hlt dC dI a ac n (v0) (v1) (v2) () hq sz) (va_cwS 3 hts gi_dm_X12_outside_1 rfl rfl rfl (by decide +kernel) ⟨Nat.le_of_ble_eq_true rfl, Nat.le_of_ble_eq_true rfl⟩) hPc hDc hKc hS hA hN rfl hl.1 rfl (Nat.le_of_ble_eq_true rfl) dX12_outside_45 (fun H locs hP1 hD1 hk1 hS => ?_)
      have hP := nd_n0 hP hk1
      refine lv_iload_n hx hb dX12_outside_48 rfl (lv_at hl 1 rfl) ?_
      refine lv_iload hx hb dX12_outside_49 (lv_at hl 3 rfl) ?_
      obtain ⟨q9, s10, hq, h⟩ := nd_b2_e h
      have hPc : va_P (dC, dI) vwCl (dw_P a ac ()) H := nd_p0
      have hDc : va_D A (dw_P a ac ()) := nd_d0
      have hKc : va_K (dC, dI) vwCl (dk_P ac) s := nd_y0 hK
      have hFc : ∀ q, va_A (dw_P a ac ()) H.size q → A q := nd_r0 hS hA
      refine nd_cSi (As := [.int v0, .int v2]) (rest := [.long q6, .int v0, .ref (a 16)]) (q := q9) (w' := dw_P a ac s10) ⟨hx, hb, hml, hown, hts⟩ (fun sz => dm_X3_second l hlt dC dI a ac n (v0) (v2) () hq sz) (va_cwS 2 hts gi_dm_X12_outside_2 rfl rfl rfl (by decide +kernel) ⟨Nat.le_of_ble_eq_true rfl, Nat.le_of_ble_eq_true rfl⟩) hPc hDc hKc hS hA hN rfl hl.1 rfl (Nat.le_of_ble_eq_true rfl) dX12_outside_51 (fun H locs hP1 hD1 hk1 hS => ?_)
      have hP := nd_n0 hP hk1
      obtain ⟨q12, s13, hq, h⟩ := nd_b2_e h
      have hPc := dp_wX12_X11_11 hP
      have hDc := dd_wX12_X11_11 hD
      have hKc := dy_wX12_X11_11 hK
      have hFc := nd_rs hDc hS hA
      have hzA : ∀ q : Nat, H.size ≤ q → A q := fun q h => hA q (Nat.le_trans hS.1 h)
      refine nd_cVi (As := [.int v0, .long q6, .int q9]) (rest := []) (q := q12) (w' := dw_X11 (fun k => a (k + 16)) (fun k => ac (k + 16)) s13) ⟨hx, hb, hml, hown, hts⟩ (fun sz => dm_X11_come l hlt dC dI (fun k => a (k + 16)) (fun k => ac (k + 16)) n (v0) (q6) (q9) (s0.2.2.2.2.1, s0.2.1, s0.2.2.2.2.2.1, s0.2.2.2.2.2.2.1, s0.2.2.2.2.2.2.2.1, s0.2.2.2.2.2.2.2.2.1, s0.2.2.2.2.2.2.2.2.2.1, s0.2.2.2.2.2.2.2.2.2.2) hq sz) (cwV 3 hts gi_dm_X12_outside_3 rfl rfl rfl (by decide +kernel) ⟨Nat.le_of_ble_eq_true rfl, Nat.le_of_ble_eq_true rfl⟩) hPc hDc hKc hS hA hN (va_recv hKc hPc (ci := 12) (q0 := 0) rfl rfl) rfl hl.1 rfl (Nat.le_of_ble_eq_true rfl) dX12_outside_54 (fun H locs hP1 hD1 hk1 hS => ?_)
      obtain ⟨hP, hD⟩ := dn_wX12_X11_11 hP hD hzA hk1 hP1 hD1
      obtain ⟨s15, es15, h⟩ := nd_let_e h
      have hP : va_P (dC, dI) vwCl (dw_X12 a ac s15) H := by rw [es15]; exact hP
      have hD : va_D A (dw_X12 a ac s15) := by rw [es15]; exact hD
      exact K _ _ _ _ _ _ dX12_outside_57 rfl (Option.some.inj h).symm hP hD hS
    · have h := nd_pos h c5
      exact vx_throw0 (own := RX12) (cls := "java/lang/IllegalStateException") (names := ["java/lang/RuntimeException", "java/lang/Exception"]) (ik := 118) (ic := 120) (A := A) hx hb hlt hown (by decide +kernel) (by decide +kernel) (hts (.classLink RX12 118 "java/lang/IllegalStateException") (List.mem_of_getElem? (i := 14) rfl)) (hts (.initialized "java/lang/IllegalStateException") (List.mem_of_getElem? (i := 15) rfl)) (vx_hat (B := [.castable "java/lang/IllegalStateException" "java/lang/IllegalStateException", .declares ⟨"java/lang/RuntimeException", "<init>", "()V"⟩, .declares ⟨"java/lang/Exception", "<init>", "()V"⟩, .declares ⟨"java/lang/Throwable", "<init>", "()V"⟩]) (fun w h => hts w (List.mem_cons_of_mem _ (List.mem_append_right _ (List.mem_append_right _ (List.mem_append_right _ (List.mem_append_right _ (List.mem_append_right _ (List.mem_append_right _ (List.mem_append_right _ (List.mem_append_left _ h)))))))))) (by decide +kernel) (vx_c (va_Nw.use rfl hN.2.2.2.2.2.2.2.2.1) (vx_c (va_Nw.use rfl (hDe _ (by decide +kernel))) (vx_c (va_Nw.use rfl (hDe _ (by decide +kernel))) (vx_c (va_Nw.use rfl (hDe _ (by decide +kernel))) vx_n))))) (by decide +kernel) hN.2.2.2.2.2.1 hN.2.2.2.2.2.2.1 hS (by rw [hml]; exact hl.1) dX12_outside_28 dX12_outside_31 dX12_outside_32 dX12_outside_35 (fun x9 h9 => (htb x9 h9).elim) (Nat.le_of_ble_eq_true rfl) (Nat.le_of_ble_eq_true rfl) (by decide +kernel) (by decide +kernel) hlocks (fun t hvm hz hk => ⟨s0, trivial, ⟨(Option.some.inj h).symm, hP.kept (fun k q hq => hk q.1 (hP k q hq).lt), hD⟩, Nat.le_trans hS.1 hz, fun q h1 h2 => (hk q (Nat.lt_of_lt_of_le h1 hS.1)).trans (hS.2.1 q h1 h2)⟩) hS.2.2 (by decide +kernel) (by decide +kernel)
  · have h := nd_pos h c4
    exact vx_throw0 (own := RX12) (cls := "java/lang/IllegalArgumentException") (names := ["java/lang/RuntimeException", "java/lang/Exception"]) (ik := 70) (ic := 72) (A := A) hx hb hlt hown (by decide +kernel) (by decide +kernel) (hts (.classLink RX12 70 "java/lang/IllegalArgumentException") (List.mem_of_getElem? (i := 16) rfl)) (hts (.initialized "java/lang/IllegalArgumentException") (List.mem_of_getElem? (i := 17) rfl)) (vx_hat (B := [.castable "java/lang/IllegalArgumentException" "java/lang/IllegalArgumentException", .declares ⟨"java/lang/RuntimeException", "<init>", "()V"⟩, .declares ⟨"java/lang/Exception", "<init>", "()V"⟩, .declares ⟨"java/lang/Throwable", "<init>", "()V"⟩]) (fun w h => hts w (List.mem_cons_of_mem _ (List.mem_append_right _ (List.mem_append_right _ (List.mem_append_right _ (List.mem_append_right _ (List.mem_append_right _ (List.mem_append_right _ (List.mem_append_right _ (List.mem_append_right _ (List.mem_append_left _ h))))))))))) (by decide +kernel) (vx_c (va_Nw.use rfl hN.2.2.2.2.2.2.2.1) (vx_c (va_Nw.use rfl (hDe _ (by decide +kernel))) (vx_c (va_Nw.use rfl (hDe _ (by decide +kernel))) (vx_c (va_Nw.use rfl (hDe _ (by decide +kernel))) vx_n))))) (by decide +kernel) hN.2.2.2.2.2.1 hN.2.2.2.2.2.2.1 hS (by rw [hml]; exact hl.1) dX12_outside_10 dX12_outside_13 dX12_outside_14 dX12_outside_17 (fun x9 h9 => (htb x9 h9).elim) (Nat.le_of_ble_eq_true rfl) (Nat.le_of_ble_eq_true rfl) (by decide +kernel) (by decide +kernel) hlocks (fun t hvm hz hk => ⟨s0, trivial, ⟨(Option.some.inj h).symm, hP.kept (fun k q hq => hk q.1 (hP k q hq).lt), hD⟩, Nat.le_trans hS.1 hz, fun q h1 h2 => (hk q (Nat.lt_of_lt_of_le h1 hS.1)).trans (hS.2.1 q h1 h2)⟩) hS.2.2 (by decide +kernel) (by decide +kernel)
set_option maxHeartbeats 40000000 in
set_option maxRecDepth 100000 in
theorem dm_X12_outside (l : Launch) (hlt : l.stackTraces = false) (dC : Nat → ClassId) (dI : Nat → Nat → Nat) (a : Nat → Nat) (ac : Nat → ClassId) (n : Nat) (v0 : Int32) (v1 : Int64) (v2 : Int32) (s0 : St × Rw × (St) × (St × (St)) × (St) × (St × (St × (St × (St)))) × (St) × (St) × (Nat → St) × (Nat → St) × (Nat → St × (St))) {r : (Int32 × (St × Rw × (St) × (St × (St)) × (St) × (St × (St × (St × (St)))) × (St) × (St) × (Nat → St) × (Nat → St) × (Nat → St × (St)))) ⊕ (String × (St × Rw × (St) × (St × (St)) × (St) × (St × (St × (St × (St)))) × (St) × (St) × (Nat → St) × (Nat → St) × (Nat → St × (St))))} (h : df_X12_outside n (a 15) (a 3) v0 v1 v2 s0 = some r) (sz : Nat) : vx_Met l yX12_outside ow_dm_X12_outside ({ frames := 6, cells := 1, slots := 6, locals := 119 }) (va_Pc [.ref (a 0), .int v0, .long v1, .int v2] (fun U => U.heap.size = sz ∧ va_P (dC, dI) vwCl (dw_X12 a ac s0) U.heap ∧ va_K (dC, dI) vwCl (dk_X12 ac) U ∧ va_D (fun _ => True) (dw_X12 a ac s0) ∧ nv_E (va_A (dw_X12 a ac s0) sz) U ∧ nv_Dc U)) (va_Qi (fun x u => r = Sum.inl (x, u)) (fun (u : St × Rw × (St) × (St × (St)) × (St) × (St × (St × (St × (St)))) × (St) × (St) × (Nat → St) × (Nat → St) × (Nat → St × (St))) t => va_P (dC, dI) vwCl (dw_X12 a ac u) t.heap ∧ va_K (dC, dI) vwCl (dk_X12 ac) t ∧ va_D (va_A (dw_X12 a ac s0) sz) (dw_X12 a ac u)) (va_A (dw_X12 a ac s0) sz)) (nd_XC (dC, dI) (St × Rw × (St) × (St × (St)) × (St) × (St × (St × (St × (St)))) × (St) × (St) × (Nat → St) × (Nat → St) × (Nat → St × (St))) (dw_X12 a ac) (va_A (dw_X12 a ac s0) sz) r) 1 6 (va_A (dw_X12 a ac s0) sz) := by
  refine vx_ofW (cc := cX12_outside) (maxL := 5) (ret := (some .int)) (by decide) rfl ?_
  intro p e s m args below meth c s₁ B hml htb hv
  obtain ⟨rfl, hsz, hP, hK, hD0, hN, hDe⟩ := hv
  have hx := B.exec
  have hb := B.bytes
  have hr := B.returns
  have hts := atoms_spec (ws := ow_dm_X12_outside) B.pre
  have hown : s.vm.findClass RX12 = some m.cls := findClass_of_methodNamed B.named
  have hlocks := B.notSynchronized
  subst hsz
  have hD := hD0.self (sz := s.heap.size)
  generalize hAe : va_A (dw_X12 a ac s0) s.heap.size = A at hD hN ⊢
  have hA : ∀ q : Nat, s.heap.size ≤ q → A q := fun q h => by rw [← hAe]; exact Or.inr h
  have hl := lv_entry ([.ref (a 0), .int v0, .long v1, .int v2]) (n := 5) (Nat.le_of_ble_eq_true rfl)
  rw [lg_entry_eq]
  generalize (lg_sl ([.ref (a 0), .int v0, .long v1, .int v2]) ++ List.replicate (5 - (lg_sl ([.ref (a 0), .int v0, .long v1, .int v2])).length) Slot.unset).toArray = ls at hl ⊢
  have hl : lv_has ls 5 [(0, .ref (a 0)), (1, .int v0), (2, .long v1), (4, .int v2)] := hl
  exact db_X12_outside_0 (dC := dC) (dI := dI) (a := a) (ac := ac) (n := n) (r := r) ⟨hlt, hx, hb, hml, hown, hts, hN, hA, hK⟩ ⟨hDe, htb, hlocks⟩ (fun pc v τ H locs ls d z er hP hD hS => by subst er; exact W.widen (k := 1) (n := 6) (by decide) (by decide) (vx_ret (W.zret (v := v) hx hb hr z (fun t ht hW => ⟨⟨v, τ, rfl, rfl, by rw [ht]; exact hP, va_K.moved hW.alike hK, hD⟩, hS.F ht⟩) hS.2.2 d))) v0 v1 v2 s0 _ _ _ h hP hD va_S.rf (lv_sub hl [0, 1, 2, 3] rfl)
def ow_dm_X12_run : List Cond := .code yX12_run cX12_run 2 (some .int) :: ([.classLink RX12 70 "java/lang/IllegalArgumentException", .initialized "java/lang/IllegalArgumentException", .constant RX12 157 (60000), .fieldLink RX12 33 "TimeMachine" "timeline" "LTimeMachine$Timeline;", .fieldLink RX12 142 "TimeMachine$Timeline" "booted" "Z", .fieldLink RX12 39 "TimeMachine" "breaks" "[LTimeMachine$Condition;", .methodLink RX12 158 yX11_ticks, .instanceMethod yX11_ticks, .selects RX11 yX11_ticks yX11_ticks, .initialized RX11, .classLink RX12 118 "java/lang/IllegalStateException", .initialized "java/lang/IllegalStateException"] ++ (u_ws RX12 TX12 12 ++ (u_ws RX11 TX11 16 ++ (ow_dm_X11_ticks ++ ((vx_at0 RX12 72 "java/lang/IllegalArgumentException" ["java/lang/RuntimeException", "java/lang/Exception"]).filter goodWord ++ ((vx_at0 RX12 120 "java/lang/IllegalStateException" ["java/lang/RuntimeException", "java/lang/Exception"]).filter goodWord ++ []))))))
theorem gd_dm_X12_run : ∀ w ∈ ow_dm_X12_run, (w.onTables && w.keeps) = true ∨ ∃ ty, w = Cond.arrayClass ty := List.forall_mem_cons.mpr ⟨good_of_word rfl, List.forall_mem_append.mpr ⟨fun w h => good_of_word (List.all_eq_true.mp (by decide +kernel) w h), List.forall_mem_append.mpr ⟨gu_X12, List.forall_mem_append.mpr ⟨gu_X11, List.forall_mem_append.mpr ⟨gd_dm_X11_ticks, List.forall_mem_append.mpr ⟨fun w h => good_of_word (List.mem_filter.mp h).2, List.forall_mem_append.mpr ⟨fun w h => good_of_word (List.mem_filter.mp h).2, fun _ h => nomatch h⟩⟩⟩⟩⟩⟩⟩
theorem hi_dm_X12_run_X12 : ∀ w ∈ u_ws RX12 TX12 12, w ∈ ow_dm_X12_run := fun w h => List.mem_cons_of_mem _ (List.mem_append_right _ (List.mem_append_left _ h))
theorem hi_dm_X12_run_X11 : ∀ w ∈ u_ws RX11 TX11 16, w ∈ ow_dm_X12_run := fun w h => List.mem_cons_of_mem _ (List.mem_append_right _ (List.mem_append_right _ (List.mem_append_left _ h)))
theorem gi_dm_X12_run_0 : GoodIn ow_dm_X12_run (wsV RX12 158 RX11 yX11_ticks ow_dm_X11_ticks) := goodIn_app (goodIn_of _ (by decide +kernel)) (fun w h => ⟨List.mem_cons_of_mem _ (List.mem_append_right _ (List.mem_append_right _ (List.mem_append_right _ (List.mem_append_left _ h)))), gd_dm_X11_ticks w h⟩)
def dj_X12_run_10 (p : Program) (l : Launch) (e : Env) (s : State) (m : MethodId) (args : Array Value) (below : List Frame) (meth : Method) (c : Code) (Q : State → Prop) (A : Nat → Prop) (dC : Nat → ClassId) (dI : Nat → Nat → Nat) (a : Nat → Nat) (ac : Nat → ClassId) (g : (St × Rw × (St) × (St × (St)) × (St) × (St × (St × (St × (St)))) × (St) × (St) × (Nat → St) × (Nat → St) × (Nat → St × (St))) → Option ((Int32 × (St × Rw × (St) × (St × (St)) × (St) × (St × (St × (St × (St)))) × (St) × (St) × (Nat → St) × (Nat → St) × (Nat → St × (St)))) ⊕ (String × (St × Rw × (St) × (St × (St)) × (St) × (St × (St × (St × (St)))) × (St) × (St) × (Nat → St) × (Nat → St) × (Nat → St × (St)))))) (r : (Int32 × (St × Rw × (St) × (St × (St)) × (St) × (St × (St × (St × (St)))) × (St) × (St) × (Nat → St) × (Nat → St) × (Nat → St × (St)))) ⊕ (String × (St × Rw × (St) × (St × (St)) × (St) × (St × (St × (St × (St)))) × (St) × (St) × (Nat → St) × (Nat → St) × (Nat → St × (St))))) : Prop := ∀ (s0 : St × Rw × (St) × (St × (St)) × (St) × (St × (St × (St × (St)))) × (St) × (St) × (Nat → St) × (Nat → St) × (Nat → St × (St))) (H : Heap) (locs : List Loc) (ls : Array Slot), g s0 = some r → va_P (dC, dI) vwCl (dw_X12 a ac s0) H → va_D A (dw_X12 a ac s0) → va_S A s.heap H locs → lv_has ls 2 [] → W p l e (headSpec ow_dm_X12_run ({ frames := 9, cells := 1, slots := 6, locals := 205 })).room s m args below meth c H locs 0 0 Q (F0 m 10 ls [])
def dj_X12_run_0 (p : Program) (l : Launch) (e : Env) (s : State) (m : MethodId) (args : Array Value) (below : List Frame) (meth : Method) (c : Code) (Q : State → Prop) (A : Nat → Prop) (dC : Nat → ClassId) (dI : Nat → Nat → Nat) (a : Nat → Nat) (ac : Nat → ClassId) (g : Int32 → (St × Rw × (St) × (St × (St)) × (St) × (St × (St × (St × (St)))) × (St) × (St) × (Nat → St) × (Nat → St) × (Nat → St × (St))) → Option ((Int32 × (St × Rw × (St) × (St × (St)) × (St) × (St × (St × (St × (St)))) × (St) × (St) × (Nat → St) × (Nat → St) × (Nat → St × (St)))) ⊕ (String × (St × Rw × (St) × (St × (St)) × (St) × (St × (St × (St × (St)))) × (St) × (St) × (Nat → St) × (Nat → St) × (Nat → St × (St)))))) (r : (Int32 × (St × Rw × (St) × (St × (St)) × (St) × (St × (St × (St × (St)))) × (St) × (St) × (Nat → St) × (Nat → St) × (Nat → St × (St)))) ⊕ (String × (St × Rw × (St) × (St × (St)) × (St) × (St × (St × (St × (St)))) × (St) × (St) × (Nat → St) × (Nat → St) × (Nat → St × (St))))) : Prop := ∀ (v0 : Int32) (s0 : St × Rw × (St) × (St × (St)) × (St) × (St × (St × (St × (St)))) × (St) × (St) × (Nat → St) × (Nat → St) × (Nat → St × (St))) (H : Heap) (locs : List Loc) (ls : Array Slot), g v0 s0 = some r → va_P (dC, dI) vwCl (dw_X12 a ac s0) H → va_D A (dw_X12 a ac s0) → va_S A s.heap H locs → lv_has ls 2 [(0, .ref (a 0)), (1, .int v0)] → W p l e (headSpec ow_dm_X12_run ({ frames := 9, cells := 1, slots := 6, locals := 205 })).room s m args below meth c H locs 0 0 Q (F0 m 0 ls [])
set_option maxHeartbeats 40000000 in
set_option maxRecDepth 100000 in
theorem db_X12_run_10 {p : Program} {l : Launch} {e : Env} {s : State} {m : MethodId} {args : Array Value} {below : List Frame} {meth : Method} {c : Code} {Qc : Array Value → State → Outcome → State → Prop} {A : Nat → Prop} {dC : Nat → ClassId} {dI : Nat → Nat → Nat} {a : Nat → Nat} {ac : Nat → ClassId} {n : Nat} {r : (Int32 × (St × Rw × (St) × (St × (St)) × (St) × (St × (St × (St × (St)))) × (St) × (St) × (Nat → St) × (Nat → St) × (Nat → St × (St)))) ⊕ (String × (St × Rw × (St) × (St × (St)) × (St) × (St × (St × (St × (St)))) × (St) × (St) × (Nat → St) × (Nat → St) × (Nat → St × (St))))} (C : nd_C p l s m args c A (dC, dI) cX12_run 2 RX12 ow_dm_X12_run (dk_X12 ac)) (CX : nv_Dc s ∧ (∀ x ∈ c.exceptionTable.toList, False) ∧ meth.locks = false) (K : nd_Ti p l e (headSpec ow_dm_X12_run ({ frames := 9, cells := 1, slots := 6, locals := 205 })).room s m args below meth c (vx_MQ below Qc (nd_XC (dC, dI) (St × Rw × (St) × (St × (St)) × (St) × (St × (St × (St × (St)))) × (St) × (St) × (Nat → St) × (Nat → St) × (Nat → St × (St))) (dw_X12 a ac) A r) args s 1 6 A) A (dC, dI) cX12_run .int (St × Rw × (St) × (St × (St)) × (St) × (St × (St × (St × (St)))) × (St) × (St) × (Nat → St) × (Nat → St) × (Nat → St × (St))) (dw_X12 a ac) r) : dj_X12_run_10 p l e s m args below meth c (vx_MQ below Qc (nd_XC (dC, dI) (St × Rw × (St) × (St × (St)) × (St) × (St × (St × (St × (St)))) × (St) × (St) × (Nat → St) × (Nat → St) × (Nat → St × (St))) (dw_X12 a ac) A r) args s 1 6 A) A dC dI a ac (df_X12_run_10 n (a 15) (a 3)) r := by
  obtain ⟨hDe, htb, hlocks⟩ := id CX
  obtain ⟨hlt, hx, hb, hml, hown, hts, hN, hA, hK⟩ := id C
  intro s0 H locs ls h hP hD hS hl
  unfold df_X12_run_10 at h
  exact vx_throw0 (own := RX12) (cls := "java/lang/IllegalArgumentException") (names := ["java/lang/RuntimeException", "java/lang/Exception"]) (ik := 70) (ic := 72) (A := A) hx hb hlt hown (by decide +kernel) (by decide +kernel) (hts (.classLink RX12 70 "java/lang/IllegalArgumentException") (List.mem_of_getElem? (i := 1) rfl)) (hts (.initialized "java/lang/IllegalArgumentException") (List.mem_of_getElem? (i := 2) rfl)) (vx_hat (B := [.castable "java/lang/IllegalArgumentException" "java/lang/IllegalArgumentException", .declares ⟨"java/lang/RuntimeException", "<init>", "()V"⟩, .declares ⟨"java/lang/Exception", "<init>", "()V"⟩, .declares ⟨"java/lang/Throwable", "<init>", "()V"⟩]) (fun w h => hts w (List.mem_cons_of_mem _ (List.mem_append_right _ (List.mem_append_right _ (List.mem_append_right _ (List.mem_append_right _ (List.mem_append_left _ h))))))) (by decide +kernel) (vx_c (va_Nw.use rfl hN.2.2.2.2.2.2.2.1) (vx_c (va_Nw.use rfl (hDe _ (by decide +kernel))) (vx_c (va_Nw.use rfl (hDe _ (by decide +kernel))) (vx_c (va_Nw.use rfl (hDe _ (by decide +kernel))) vx_n))))) (by decide +kernel) hN.2.2.2.2.2.1 hN.2.2.2.2.2.2.1 hS (by rw [hml]; exact hl.1) dX12_run_10 dX12_run_13 dX12_run_14 dX12_run_17 (fun x9 h9 => (htb x9 h9).elim) (Nat.le_of_ble_eq_true rfl) (Nat.le_of_ble_eq_true rfl) (by decide +kernel) (by decide +kernel) hlocks (fun t hvm hz hk => ⟨s0, trivial, ⟨(Option.some.inj h).symm, hP.kept (fun k q hq => hk q.1 (hP k q hq).lt), hD⟩, Nat.le_trans hS.1 hz, fun q h1 h2 => (hk q (Nat.lt_of_lt_of_le h1 hS.1)).trans (hS.2.1 q h1 h2)⟩) hS.2.2 (by decide +kernel) (by decide +kernel)
set_option maxHeartbeats 40000000 in
set_option maxRecDepth 100000 in
theorem db_X12_run_0 {p : Program} {l : Launch} {e : Env} {s : State} {m : MethodId} {args : Array Value} {below : List Frame} {meth : Method} {c : Code} {Qc : Array Value → State → Outcome → State → Prop} {A : Nat → Prop} {dC : Nat → ClassId} {dI : Nat → Nat → Nat} {a : Nat → Nat} {ac : Nat → ClassId} {n : Nat} {r : (Int32 × (St × Rw × (St) × (St × (St)) × (St) × (St × (St × (St × (St)))) × (St) × (St) × (Nat → St) × (Nat → St) × (Nat → St × (St)))) ⊕ (String × (St × Rw × (St) × (St × (St)) × (St) × (St × (St × (St × (St)))) × (St) × (St) × (Nat → St) × (Nat → St) × (Nat → St × (St))))} (C : nd_C p l s m args c A (dC, dI) cX12_run 2 RX12 ow_dm_X12_run (dk_X12 ac)) (CX : nv_Dc s ∧ (∀ x ∈ c.exceptionTable.toList, False) ∧ meth.locks = false) (K : nd_Ti p l e (headSpec ow_dm_X12_run ({ frames := 9, cells := 1, slots := 6, locals := 205 })).room s m args below meth c (vx_MQ below Qc (nd_XC (dC, dI) (St × Rw × (St) × (St × (St)) × (St) × (St × (St × (St × (St)))) × (St) × (St) × (Nat → St) × (Nat → St) × (Nat → St × (St))) (dw_X12 a ac) A r) args s 1 6 A) A (dC, dI) cX12_run .int (St × Rw × (St) × (St × (St)) × (St) × (St × (St × (St × (St)))) × (St) × (St) × (Nat → St) × (Nat → St) × (Nat → St × (St))) (dw_X12 a ac) r) : dj_X12_run_0 p l e s m args below meth c (vx_MQ below Qc (nd_XC (dC, dI) (St × Rw × (St) × (St × (St)) × (St) × (St × (St × (St × (St)))) × (St) × (St) × (Nat → St) × (Nat → St) × (Nat → St × (St))) (dw_X12 a ac) A r) args s 1 6 A) A dC dI a ac (df_X12_run_0 n (a 15) (a 3)) r := by
  obtain ⟨hDe, htb, hlocks⟩ := id CX
  obtain ⟨hlt, hx, hb, hml, hown, hts, hN, hA, hK⟩ := id C
  intro v0 s0 H locs ls h hP hD hS hl
  unfold df_X12_run_0 at h
  refine lv_iload_n hx hb dX12_run_0 rfl (lv_at hl 1 rfl) ?_
  refine lv_if_lt (tgt := 10) hx hb dX12_run_1 (by decide) (fun c1 => ?_) (fun c1 => ?_)
  · have h := nd_pos h c1
    exact (db_X12_run_10 C CX K)  s0 _ _ _ h hP hD hS (lv_sub hl [] rfl)
  · have h := nd_neg h c1
    refine lv_iload_n hx hb dX12_run_4 rfl (lv_at hl 1 rfl) ?_
    refine lv_ldc hx hb hown (hts (.constant RX12 157 (60000)) (List.mem_of_getElem? (i := 3) rfl)) dX12_run_5 ?_
    refine lv_icmp_le (tgt := 18) hx hb dX12_run_7 (by decide) (fun c2 => ?_) (fun c2 => ?_)
    · have h := nd_pos h c2
      refine lv_aload_n hx hb dX12_run_18 rfl (lv_at hl 0 rfl) ?_
      refine va_get (D := (dC, dI)) (ci := 13) (v := .ref (a 16)) (C := RX12) (T := TX12) (N := 12) hx hb hts hi_dm_X12_run_X12 hown hK hP 0 rfl rfl 6 (by decide) (hts (.fieldLink RX12 33 "TimeMachine" "timeline" "LTimeMachine$Timeline;") (List.mem_of_getElem? (i := 4) rfl)) (fun _ h9 => h9) rfl dX12_run_19 ?_
      refine va_get (D := (dC, dI)) (ci := 12) (v := .int (sI s0.2.2.2.2.1 0)) (C := RX11) (T := TX11) (N := 16) hx hb hts hi_dm_X12_run_X11 hown hK hP 16 rfl rfl 6 (by decide) (hts (.fieldLink RX12 142 "TimeMachine$Timeline" "booted" "Z") (List.mem_of_getElem? (i := 5) rfl)) (fun _ h9 => h9) rfl dX12_run_22 ?_
      refine lv_if_ne (tgt := 36) hx hb dX12_run_25 (by decide) (fun c3 => ?_) (fun c3 => ?_)
      · have h := nd_neg h c3
        refine lv_aload_n hx hb dX12_run_36 rfl (lv_at hl 0 rfl) ?_
        refine va_get (D := (dC, dI)) (ci := 13) (v := .ref (a 16)) (C := RX12) (T := TX12) (N := 12) hx hb hts hi_dm_X12_run_X12 hown hK hP 0 rfl rfl 6 (by decide) (hts (.fieldLink RX12 33 "TimeMachine" "timeline" "LTimeMachine$Timeline;") (List.mem_of_getElem? (i := 4) rfl)) (fun _ h9 => h9) rfl dX12_run_37 ?_
        refine lv_iload_n hx hb dX12_run_40 rfl (lv_at hl 1 rfl) ?_
        refine lv_aload_n hx hb dX12_run_41 rfl (lv_at hl 0 rfl) ?_
        refine va_get (D := (dC, dI)) (ci := 13) (v := .ref (a 55)) (C := RX12) (T := TX12) (N := 12) hx hb hts hi_dm_X12_run_X12 hown hK hP 0 rfl rfl 7 (by decide) (hts (.fieldLink RX12 39 "TimeMachine" "breaks" "[LTimeMachine$Condition;") (List.mem_of_getElem? (i := 6) rfl)) (fun _ h9 => h9) rfl dX12_run_42 ?_
        obtain ⟨q4, s5, hq, h⟩ := nd_b2_e h
        have hPc := dp_wX12_X11_11 hP
        have hDc := dd_wX12_X11_11 hD
        have hKc := dy_wX12_X11_11 hK
        have hFc := nd_rs hDc hS hA
        have hzA : ∀ q : Nat, H.size ≤ q → A q := fun q h => hA q (Nat.le_trans hS.1 h)
        refine nd_cVi (As := [.int v0, .ref (a 55)]) (rest := []) (q := q4) (w' := dw_X11 (fun k => a (k + 16)) (fun k => ac (k + 16)) s5) ⟨hx, hb, hml, hown, hts⟩ (fun sz => dm_X11_ticks l hlt dC dI (fun k => a (k + 16)) (fun k => ac (k + 16)) n (v0) (s0.2.2.2.2.1, s0.2.1, s0.2.2.2.2.2.1, s0.2.2.2.2.2.2.1, s0.2.2.2.2.2.2.2.1, s0.2.2.2.2.2.2.2.2.1, s0.2.2.2.2.2.2.2.2.2.1, s0.2.2.2.2.2.2.2.2.2.2) hq sz) (cwV 2 hts gi_dm_X12_run_0 rfl rfl rfl (by decide +kernel) ⟨Nat.le_of_ble_eq_true rfl, Nat.le_of_ble_eq_true rfl⟩) hPc hDc hKc hS hA hN (va_recv hKc hPc (ci := 12) (q0 := 0) rfl rfl) rfl hl.1 rfl (Nat.le_of_ble_eq_true rfl) dX12_run_45 (fun H locs hP1 hD1 hk1 hS => ?_)
        obtain ⟨hP, hD⟩ := dn_wX12_X11_11 hP hD hzA hk1 hP1 hD1
        obtain ⟨s7, es7, h⟩ := nd_let_e h
        have hP : va_P (dC, dI) vwCl (dw_X12 a ac s7) H := by rw [es7]; exact hP
        have hD : va_D A (dw_X12 a ac s7) := by rw [es7]; exact hD
        exact K _ _ _ _ _ _ dX12_run_48 rfl (Option.some.inj h).symm hP hD hS
      · have h := nd_pos h c3
        exact vx_throw0 (own := RX12) (cls := "java/lang/IllegalStateException") (names := ["java/lang/RuntimeException", "java/lang/Exception"]) (ik := 118) (ic := 120) (A := A) hx hb hlt hown (by decide +kernel) (by decide +kernel) (hts (.classLink RX12 118 "java/lang/IllegalStateException") (List.mem_of_getElem? (i := 11) rfl)) (hts (.initialized "java/lang/IllegalStateException") (List.mem_of_getElem? (i := 12) rfl)) (vx_hat (B := [.castable "java/lang/IllegalStateException" "java/lang/IllegalStateException", .declares ⟨"java/lang/RuntimeException", "<init>", "()V"⟩, .declares ⟨"java/lang/Exception", "<init>", "()V"⟩, .declares ⟨"java/lang/Throwable", "<init>", "()V"⟩]) (fun w h => hts w (List.mem_cons_of_mem _ (List.mem_append_right _ (List.mem_append_right _ (List.mem_append_right _ (List.mem_append_right _ (List.mem_append_right _ (List.mem_append_left _ h)))))))) (by decide +kernel) (vx_c (va_Nw.use rfl hN.2.2.2.2.2.2.2.2.1) (vx_c (va_Nw.use rfl (hDe _ (by decide +kernel))) (vx_c (va_Nw.use rfl (hDe _ (by decide +kernel))) (vx_c (va_Nw.use rfl (hDe _ (by decide +kernel))) vx_n))))) (by decide +kernel) hN.2.2.2.2.2.1 hN.2.2.2.2.2.2.1 hS (by rw [hml]; exact hl.1) dX12_run_28 dX12_run_31 dX12_run_32 dX12_run_35 (fun x9 h9 => (htb x9 h9).elim) (Nat.le_of_ble_eq_true rfl) (Nat.le_of_ble_eq_true rfl) (by decide +kernel) (by decide +kernel) hlocks (fun t hvm hz hk => ⟨s0, trivial, ⟨(Option.some.inj h).symm, hP.kept (fun k q hq => hk q.1 (hP k q hq).lt), hD⟩, Nat.le_trans hS.1 hz, fun q h1 h2 => (hk q (Nat.lt_of_lt_of_le h1 hS.1)).trans (hS.2.1 q h1 h2)⟩) hS.2.2 (by decide +kernel) (by decide +kernel)
    · have h := nd_neg h c2
      exact (db_X12_run_10 C CX K)  s0 _ _ _ h hP hD hS (lv_sub hl [] rfl)
