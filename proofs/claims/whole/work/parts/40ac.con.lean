set_option maxHeartbeats 40000000 in
set_option maxRecDepth 100000 in
theorem db_X12_descriptor_0 {p : Program} {l : Launch} {e : Env} {s : State} {m : MethodId} {args : Array Value} {below : List Frame} {meth : Method} {c : Code} {Q : State → Prop} {A : Nat → Prop} {dC : Nat → ClassId} {dI : Nat → Nat → Nat} {a : Nat → Nat} {ac : Nat → ClassId} {n : Nat} {r : Int32 × (St × Rw × (St) × (St × (St)) × (St) × (St × (St × (St × (St)))) × (St) × (St) × (Nat → St) × (Nat → St) × (Nat → St × (St)))} (C : nd_C p l s m args c A (dC, dI) cX12_descriptor 5 RX12 ow_dm_X12_descriptor (dk_X12 ac)) (K : nd_Ki p l e (headSpec ow_dm_X12_descriptor ({ frames := 2, cells := 0, slots := 0, locals := 45 })).room s m args below meth c Q A (dC, dI) cX12_descriptor .int (St × Rw × (St) × (St × (St)) × (St) × (St × (St × (St × (St)))) × (St) × (St) × (Nat → St) × (Nat → St) × (Nat → St × (St))) (dw_X12 a ac) r) : dj_X12_descriptor_0 p l e s m args below meth c Q A dC dI a ac (df_X12_descriptor_0 n (a 15) (a 3)) r := by
  obtain ⟨hlt, hx, hb, hml, hown, hts, hN, hA, hK⟩ := id C
  intro v0 v1 v2 s0 H locs ls h hP hD hS hl
  unfold df_X12_descriptor_0 at h
  refine lv_iload_n hx hb dX12_descriptor_0 rfl (lv_at hl 2 rfl) ?_
  refine lv_if_lt (tgt := 19) hx hb dX12_descriptor_1 (by decide) (fun c1 => ?_) (fun c1 => ?_)
  · have h := nd_pos h c1
    exact (db_X12_descriptor_19 C K)  s0 _ _ _ h hP hD hS (lv_sub hl [] rfl)
  · have h := nd_neg h c1
    refine lv_iload_n hx hb dX12_descriptor_4 rfl (lv_at hl 2 rfl) ?_
    refine lv_bipush (v := 16) hx hb dX12_descriptor_5 (by decide) ?_
    refine lv_icmp_ge (tgt := 19) hx hb dX12_descriptor_7 (by decide) (fun c2 => ?_) (fun c2 => ?_)
    · have h := nd_pos h c2
      exact (db_X12_descriptor_19 C K)  s0 _ _ _ h hP hD hS (lv_sub hl [] rfl)
    · have h := nd_neg h c2
      refine lv_iload_n hx hb dX12_descriptor_10 rfl (lv_at hl 3 rfl) ?_
      refine lv_if_lt (tgt := 19) hx hb dX12_descriptor_11 (by decide) (fun c3 => ?_) (fun c3 => ?_)
      · have h := nd_pos h c3
        exact (db_X12_descriptor_19 C K)  s0 _ _ _ h hP hD hS (lv_sub hl [] rfl)
      · have h := nd_neg h c3
        refine lv_iload_n hx hb dX12_descriptor_14 rfl (lv_at hl 3 rfl) ?_
        refine lv_iconst (v := 4) hx hb dX12_descriptor_15 (by decide) ?_
        refine lv_icmp_le (tgt := 21) hx hb dX12_descriptor_16 (by decide) (fun c4 => ?_) (fun c4 => ?_)
        · have h := nd_pos h c4
          refine lv_aload_n hx hb dX12_descriptor_21 rfl (lv_at hl 0 rfl) ?_
          refine lv_iload_n hx hb dX12_descriptor_22 rfl (lv_at hl 1 rfl) ?_
          obtain ⟨q5, s6, hq, h⟩ := nd_b2_e h
          have hPc := hP
          have hDc := hD
          have hKc := hK
          have hFc := nd_rs hD hS hA
          refine nd_cVi (As := [.int v0]) (rest := []) (q := q5) (w' := dw_X12 a ac s6) ⟨hx, hb, hml, hown, hts⟩ (fun sz => dm_X12_isThere l hlt dC dI a ac n (v0) s0 hq sz) (cwV 1 hts gi_dm_X12_descriptor_0 rfl rfl rfl (by decide +kernel) ⟨Nat.le_of_ble_eq_true rfl, Nat.le_of_ble_eq_true rfl⟩) hPc hDc hKc hS hA hN (va_recv hKc hPc (ci := 13) (q0 := 0) rfl rfl) rfl hl.1 rfl (Nat.le_of_ble_eq_true rfl) dX12_descriptor_23 (fun H locs hP1 hD1 hk1 hS => ?_)
          have hP := hP1
          have hD := hD1.weaken (fun k q _ h => hFc q.1 h)
          refine lv_if_eq (tgt := 47) hx hb dX12_descriptor_26 (by decide) (fun c8 => ?_) (fun c8 => ?_)
          · have h := nd_pos h c8
            refine lv_iconst (v := (-1)) hx hb dX12_descriptor_47 (by decide) ?_
            exact (db_X12_descriptor_48 C K) (v2) ((-1)) s6 _ _ _ h hP hD hS (lv_sub hl [0, 3] rfl)
          · have h := nd_neg h c8
            refine lv_aload_n hx hb dX12_descriptor_29 rfl (lv_at hl 0 rfl) ?_
            refine va_get (D := (dC, dI)) (ci := 13) (v := .ref (a 16)) (C := RX12) (T := TX12) (N := 12) hx hb hts hi_dm_X12_descriptor_X12 hown hK hP 0 rfl rfl 6 (by decide) (hts (.fieldLink RX12 33 "TimeMachine" "timeline" "LTimeMachine$Timeline;") (List.mem_of_getElem? (i := 5) rfl)) (fun _ h9 => h9) rfl dX12_descriptor_30 ?_
            refine va_get (D := (dC, dI)) (ci := 12) (v := .ref (a 23)) (C := RX11) (T := TX11) (N := 16) hx hb hts hi_dm_X12_descriptor_X11 hown hK hP 16 rfl rfl 3 (by decide) (hts (.fieldLink RX12 192 "TimeMachine$Timeline" "machine" "LTimeMachine$Machine;") (List.mem_of_getElem? (i := 6) rfl)) (fun _ h9 => h9) rfl dX12_descriptor_33 ?_
            refine va_get (D := (dC, dI)) (ci := 7) (v := .ref (a 33)) (C := RX6) (T := TX6) (N := 20) hx hb hts hi_dm_X12_descriptor_X6 hown hK hP 23 rfl rfl 11 (by decide) (hts (.fieldLink RX12 252 "TimeMachine$Machine" "things" "LTimeMachine$Things;") (List.mem_of_getElem? (i := 7) rfl)) (fun _ h9 => h9) rfl dX12_descriptor_36 ?_
            refine lv_iload_n hx hb dX12_descriptor_39 rfl (lv_at hl 1 rfl) ?_
            refine lv_iload_n hx hb dX12_descriptor_40 rfl (lv_at hl 2 rfl) ?_
            obtain ⟨q15, s16, hq, h⟩ := nd_b2_e h
            have hPc := dp_wX12_X10_18 hP
            have hDc := dd_wX12_X10_18 hD
            have hKc := dy_wX12_X10_18 hK
            have hFc := nd_rs hDc hS hA
            have hzA : ∀ q : Nat, H.size ≤ q → A q := fun q h => hA q (Nat.le_trans hS.1 h)
            refine nd_cVi (As := [.int v0, .int v1]) (rest := []) (q := q15) (w' := dw_X10 (fun k => a (k + 33)) (fun k => ac (k + 33)) s16) ⟨hx, hb, hml, hown, hts⟩ (fun sz => dm_X10_openingOf l hlt dC dI (fun k => a (k + 33)) (fun k => ac (k + 33)) n (v0) (v1) s6.2.2.2.2.2.1.2.2.2 hq sz) (cwV 2 hts gi_dm_X12_descriptor_2 rfl rfl rfl (by decide +kernel) ⟨Nat.le_of_ble_eq_true rfl, Nat.le_of_ble_eq_true rfl⟩) hPc hDc hKc hS hA hN (va_recv hKc hPc (ci := 11) (q0 := 0) rfl rfl) rfl hl.1 rfl (Nat.le_of_ble_eq_true rfl) dX12_descriptor_41 (fun H locs hP1 hD1 hk1 hS => ?_)
            obtain ⟨hP, hD⟩ := dn_wX12_X10_18 hP hD hzA hk1 hP1 hD1
            obtain ⟨s18, es18, h⟩ := nd_let_e h
            have hP : va_P (dC, dI) vwCl (dw_X12 a ac s18) H := by rw [es18]; exact hP
            have hD : va_D A (dw_X12 a ac s18) := by rw [es18]; exact hD
            refine lv_goto (tgt := 48) hx hb dX12_descriptor_44 (by decide) ?_
            exact (db_X12_descriptor_48 C K) (v2) (q15) s18 _ _ _ h hP hD hS (lv_sub hl [0, 3] rfl)
        · have h := nd_neg h c4
          exact (db_X12_descriptor_19 C K)  s0 _ _ _ h hP hD hS (lv_sub hl [] rfl)
set_option maxHeartbeats 40000000 in
set_option maxRecDepth 100000 in
theorem dm_X12_descriptor (l : Launch) (hlt : l.stackTraces = false) (dC : Nat → ClassId) (dI : Nat → Nat → Nat) (a : Nat → Nat) (ac : Nat → ClassId) (n : Nat) (v0 : Int32) (v1 : Int32) (v2 : Int32) (s0 : St × Rw × (St) × (St × (St)) × (St) × (St × (St × (St × (St)))) × (St) × (St) × (Nat → St) × (Nat → St) × (Nat → St × (St))) {r : Int32 × (St × Rw × (St) × (St × (St)) × (St) × (St × (St × (St × (St)))) × (St) × (St) × (Nat → St) × (Nat → St) × (Nat → St × (St)))} (h : df_X12_descriptor n (a 15) (a 3) v0 v1 v2 s0 = some r) (sz : Nat) : Met l yX12_descriptor ow_dm_X12_descriptor ({ frames := 2, cells := 0, slots := 0, locals := 45 }) (va_Pc [.ref (a 0), .int v0, .int v1, .int v2] (fun U => U.heap.size = sz ∧ va_P (dC, dI) vwCl (dw_X12 a ac s0) U.heap ∧ va_K (dC, dI) vwCl (dk_X12 ac) U ∧ va_D (fun _ => True) (dw_X12 a ac s0) ∧ nv_E dI (va_A (dw_X12 a ac s0) sz) U)) (va_Qi (fun x _ => x = r.1) (fun (_ : Unit) t => va_P (dC, dI) vwCl (dw_X12 a ac r.2) t.heap ∧ va_K (dC, dI) vwCl (dk_X12 ac) t ∧ va_D (va_A (dw_X12 a ac s0) sz) (dw_X12 a ac r.2)) (va_A (dw_X12 a ac s0) sz)) 0 0 (va_A (dw_X12 a ac s0) sz) := by
  refine Met.ofW (cc := cX12_descriptor) (maxL := 5) (ret := (some .int)) (by decide) rfl ?_
  intro p e s m args below meth c s₁ B hml hv
  obtain ⟨rfl, hsz, hP, hK, hD0, hN⟩ := hv
  have hx := B.exec
  have hb := B.bytes
  have hr := B.returns
  have hts := atoms_spec (ws := ow_dm_X12_descriptor) B.pre
  have hown : s.vm.findClass RX12 = some m.cls := findClass_of_methodNamed B.named
  have hlocks := B.notSynchronized
  subst hsz
  have hD := hD0.self (sz := s.heap.size)
  generalize hAe : va_A (dw_X12 a ac s0) s.heap.size = A at hD hN ⊢
  have hA : ∀ q : Nat, s.heap.size ≤ q → A q := fun q h => by rw [← hAe]; exact Or.inr h
  have hl := lv_entry ([.ref (a 0), .int v0, .int v1, .int v2]) (n := 5) (Nat.le_of_ble_eq_true rfl)
  rw [lg_entry_eq]
  generalize (lg_sl ([.ref (a 0), .int v0, .int v1, .int v2]) ++ List.replicate (5 - (lg_sl ([.ref (a 0), .int v0, .int v1, .int v2])).length) Slot.unset).toArray = ls at hl ⊢
  have hl : lv_has ls 5 [(0, .ref (a 0)), (1, .int v0), (2, .int v1), (3, .int v2)] := hl
  exact db_X12_descriptor_0 (dC := dC) (dI := dI) (a := a) (ac := ac) (n := n) (r := r) ⟨hlt, hx, hb, hml, hown, hts, hN, hA, hK⟩ (fun pc v τ H locs ls d z er hP hD hS => by subst er; exact W.zret (v := v) hx hb hr z (fun t ht hW => ⟨⟨v, (), rfl, rfl, by rw [ht]; exact hP, va_K.moved hW.alike hK, hD⟩, hS.F ht⟩) hS.2.2 d) v0 v1 v2 s0 _ _ _ h hP hD va_S.rf (lv_sub hl [0, 1, 2, 3] rfl)
def ow_dm_X12_held : List Cond := Cond.code yX12_held cX12_held 5 (some .int) :: ([Cond.methodLink RX12 208 yX12_isThere, Cond.instanceMethod yX12_isThere, Cond.selects RX12 yX12_isThere yX12_isThere, Cond.initialized RX12, Cond.fieldLink RX12 33 "TimeMachine" "timeline" "LTimeMachine$Timeline;", Cond.fieldLink RX12 192 "TimeMachine$Timeline" "machine" "LTimeMachine$Machine;", Cond.fieldLink RX12 252 "TimeMachine$Machine" "things" "LTimeMachine$Things;", Cond.methodLink RX12 260 yX10_amount, Cond.instanceMethod yX10_amount, Cond.selects RX10 yX10_amount yX10_amount, Cond.initialized RX10, Cond.methodLink RX12 263 yX10_byteOf, Cond.instanceMethod yX10_byteOf, Cond.selects RX10 yX10_byteOf yX10_byteOf, Cond.methodLink RX12 256 yX10_openingOf, Cond.instanceMethod yX10_openingOf, Cond.selects RX10 yX10_openingOf yX10_openingOf] ++ (u_ws RX12 TX12 12 ++ (u_ws RX11 TX11 16 ++ (u_ws RX6 TX6 20 ++ (ow_dm_X12_isThere ++ (ow_dm_X10_amount ++ (ow_dm_X10_byteOf ++ (ow_dm_X10_openingOf ++ []))))))))
theorem gd_dm_X12_held : ∀ w ∈ ow_dm_X12_held, (w.onTables && w.keeps) = true ∨ ∃ ty, w = Cond.arrayClass ty := List.forall_mem_cons.mpr ⟨good_of_word rfl, List.forall_mem_append.mpr ⟨fun w h => good_of_word (List.all_eq_true.mp (by decide +kernel) w h), List.forall_mem_append.mpr ⟨gu_X12, List.forall_mem_append.mpr ⟨gu_X11, List.forall_mem_append.mpr ⟨gu_X6, List.forall_mem_append.mpr ⟨gd_dm_X12_isThere, List.forall_mem_append.mpr ⟨gd_dm_X10_amount, List.forall_mem_append.mpr ⟨gd_dm_X10_byteOf, List.forall_mem_append.mpr ⟨gd_dm_X10_openingOf, fun _ h => nomatch h⟩⟩⟩⟩⟩⟩⟩⟩⟩
theorem hi_dm_X12_held_X12 : ∀ w ∈ u_ws RX12 TX12 12, w ∈ ow_dm_X12_held := fun w h => List.mem_cons_of_mem _ (List.mem_append_right _ (List.mem_append_left _ h))
theorem hi_dm_X12_held_X11 : ∀ w ∈ u_ws RX11 TX11 16, w ∈ ow_dm_X12_held := fun w h => List.mem_cons_of_mem _ (List.mem_append_right _ (List.mem_append_right _ (List.mem_append_left _ h)))
theorem hi_dm_X12_held_X6 : ∀ w ∈ u_ws RX6 TX6 20, w ∈ ow_dm_X12_held := fun w h => List.mem_cons_of_mem _ (List.mem_append_right _ (List.mem_append_right _ (List.mem_append_right _ (List.mem_append_left _ h))))
theorem gi_dm_X12_held_0 : GoodIn ow_dm_X12_held (wsV RX12 208 RX12 yX12_isThere ow_dm_X12_isThere) := goodIn_app (goodIn_of _ (by decide +kernel)) (fun w h => ⟨List.mem_cons_of_mem _ (List.mem_append_right _ (List.mem_append_right _ (List.mem_append_right _ (List.mem_append_right _ (List.mem_append_left _ h))))), gd_dm_X12_isThere w h⟩)
theorem gi_dm_X12_held_1 : GoodIn ow_dm_X12_held (wsV RX12 260 RX10 yX10_amount ow_dm_X10_amount) := goodIn_app (goodIn_of _ (by decide +kernel)) (fun w h => ⟨List.mem_cons_of_mem _ (List.mem_append_right _ (List.mem_append_right _ (List.mem_append_right _ (List.mem_append_right _ (List.mem_append_right _ (List.mem_append_left _ h)))))), gd_dm_X10_amount w h⟩)
theorem gi_dm_X12_held_2 : GoodIn ow_dm_X12_held (wsV RX12 263 RX10 yX10_byteOf ow_dm_X10_byteOf) := goodIn_app (goodIn_of _ (by decide +kernel)) (fun w h => ⟨List.mem_cons_of_mem _ (List.mem_append_right _ (List.mem_append_right _ (List.mem_append_right _ (List.mem_append_right _ (List.mem_append_right _ (List.mem_append_right _ (List.mem_append_left _ h))))))), gd_dm_X10_byteOf w h⟩)
theorem gi_dm_X12_held_3 : GoodIn ow_dm_X12_held (wsV RX12 256 RX10 yX10_openingOf ow_dm_X10_openingOf) := goodIn_app (goodIn_of _ (by decide +kernel)) (fun w h => ⟨List.mem_cons_of_mem _ (List.mem_append_right _ (List.mem_append_right _ (List.mem_append_right _ (List.mem_append_right _ (List.mem_append_right _ (List.mem_append_right _ (List.mem_append_right _ (List.mem_append_left _ h)))))))), gd_dm_X10_openingOf w h⟩)
def dj_X12_held_57 (p : Program) (l : Launch) (e : Env) (s : State) (m : MethodId) (args : Array Value) (below : List Frame) (meth : Method) (c : Code) (Q : State → Prop) (A : Nat → Prop) (dC : Nat → ClassId) (dI : Nat → Nat → Nat) (a : Nat → Nat) (ac : Nat → ClassId) (g : (St × Rw × (St) × (St × (St)) × (St) × (St × (St × (St × (St)))) × (St) × (St) × (Nat → St) × (Nat → St) × (Nat → St × (St))) → Option (Int32 × (St × Rw × (St) × (St × (St)) × (St) × (St × (St × (St × (St)))) × (St) × (St) × (Nat → St) × (Nat → St) × (Nat → St × (St))))) (r : Int32 × (St × Rw × (St) × (St × (St)) × (St) × (St × (St × (St × (St)))) × (St) × (St) × (Nat → St) × (Nat → St) × (Nat → St × (St)))) : Prop := ∀ (s0 : St × Rw × (St) × (St × (St)) × (St) × (St × (St × (St × (St)))) × (St) × (St) × (Nat → St) × (Nat → St) × (Nat → St × (St))) (H : Heap) (locs : List Loc) (ls : Array Slot), g s0 = some r → va_P (dC, dI) vwCl (dw_X12 a ac s0) H → va_D A (dw_X12 a ac s0) → va_S A s.heap H locs → lv_has ls 5 [] → W p l e (headSpec ow_dm_X12_held ({ frames := 1, cells := 0, slots := 0, locals := 23 })).room s m args below meth c H locs 0 0 Q (F0 m 57 ls [])
def dj_X12_held_27 (p : Program) (l : Launch) (e : Env) (s : State) (m : MethodId) (args : Array Value) (below : List Frame) (meth : Method) (c : Code) (Q : State → Prop) (A : Nat → Prop) (dC : Nat → ClassId) (dI : Nat → Nat → Nat) (a : Nat → Nat) (ac : Nat → ClassId) (g : Int32 → Int32 → (St × Rw × (St) × (St × (St)) × (St) × (St × (St × (St × (St)))) × (St) × (St) × (Nat → St) × (Nat → St) × (Nat → St × (St))) → Option (Int32 × (St × Rw × (St) × (St × (St)) × (St) × (St × (St × (St × (St)))) × (St) × (St) × (Nat → St) × (Nat → St) × (Nat → St × (St))))) (r : Int32 × (St × Rw × (St) × (St × (St)) × (St) × (St × (St × (St × (St)))) × (St) × (St) × (Nat → St) × (Nat → St) × (Nat → St × (St)))) : Prop := ∀ (x3 : Int32) (y0 : Int32) (s0 : St × Rw × (St) × (St × (St)) × (St) × (St × (St × (St × (St)))) × (St) × (St) × (Nat → St) × (Nat → St) × (Nat → St × (St))) (H : Heap) (locs : List Loc) (ls : Array Slot), g x3 y0 s0 = some r → va_P (dC, dI) vwCl (dw_X12 a ac s0) H → va_D A (dw_X12 a ac s0) → va_S A s.heap H locs → lv_has ls 5 [(0, .ref (a 0)), (3, .int x3)] → W p l e (headSpec ow_dm_X12_held ({ frames := 1, cells := 0, slots := 0, locals := 23 })).room s m args below meth c H locs 0 0 Q (F0 m 27 ls [.int y0])
def dj_X12_held_0 (p : Program) (l : Launch) (e : Env) (s : State) (m : MethodId) (args : Array Value) (below : List Frame) (meth : Method) (c : Code) (Q : State → Prop) (A : Nat → Prop) (dC : Nat → ClassId) (dI : Nat → Nat → Nat) (a : Nat → Nat) (ac : Nat → ClassId) (g : Int32 → Int32 → Int32 → (St × Rw × (St) × (St × (St)) × (St) × (St × (St × (St × (St)))) × (St) × (St) × (Nat → St) × (Nat → St) × (Nat → St × (St))) → Option (Int32 × (St × Rw × (St) × (St × (St)) × (St) × (St × (St × (St × (St)))) × (St) × (St) × (Nat → St) × (Nat → St) × (Nat → St × (St))))) (r : Int32 × (St × Rw × (St) × (St × (St)) × (St) × (St × (St × (St × (St)))) × (St) × (St) × (Nat → St) × (Nat → St) × (Nat → St × (St)))) : Prop := ∀ (v0 : Int32) (v1 : Int32) (v2 : Int32) (s0 : St × Rw × (St) × (St × (St)) × (St) × (St × (St × (St × (St)))) × (St) × (St) × (Nat → St) × (Nat → St) × (Nat → St × (St))) (H : Heap) (locs : List Loc) (ls : Array Slot), g v0 v1 v2 s0 = some r → va_P (dC, dI) vwCl (dw_X12 a ac s0) H → va_D A (dw_X12 a ac s0) → va_S A s.heap H locs → lv_has ls 5 [(0, .ref (a 0)), (1, .int v0), (2, .int v1), (3, .int v2)] → W p l e (headSpec ow_dm_X12_held ({ frames := 1, cells := 0, slots := 0, locals := 23 })).room s m args below meth c H locs 0 0 Q (F0 m 0 ls [])
set_option maxHeartbeats 40000000 in
set_option maxRecDepth 100000 in
theorem db_X12_held_57 {p : Program} {l : Launch} {e : Env} {s : State} {m : MethodId} {args : Array Value} {below : List Frame} {meth : Method} {c : Code} {Q : State → Prop} {A : Nat → Prop} {dC : Nat → ClassId} {dI : Nat → Nat → Nat} {a : Nat → Nat} {ac : Nat → ClassId} {n : Nat} {r : Int32 × (St × Rw × (St) × (St × (St)) × (St) × (St × (St × (St × (St)))) × (St) × (St) × (Nat → St) × (Nat → St) × (Nat → St × (St)))} (C : nd_C p l s m args c A (dC, dI) cX12_held 5 RX12 ow_dm_X12_held (dk_X12 ac)) (K : nd_Ki p l e (headSpec ow_dm_X12_held ({ frames := 1, cells := 0, slots := 0, locals := 23 })).room s m args below meth c Q A (dC, dI) cX12_held .int (St × Rw × (St) × (St × (St)) × (St) × (St × (St × (St × (St)))) × (St) × (St) × (Nat → St) × (Nat → St) × (Nat → St × (St))) (dw_X12 a ac) r) : dj_X12_held_57 p l e s m args below meth c Q A dC dI a ac (df_X12_held_57 n (a 15) (a 3)) r := by
  obtain ⟨hlt, hx, hb, hml, hown, hts, hN, hA, hK⟩ := id C
  intro s0 H locs ls h hP hD hS hl
  unfold df_X12_held_57 at h
  refine lv_iconst (v := (-1)) hx hb dX12_held_57 (by decide) ?_
  exact K _ _ _ _ _ _ dX12_held_58 rfl (Option.some.inj h).symm hP hD hS
set_option maxHeartbeats 40000000 in
set_option maxRecDepth 100000 in
theorem db_X12_held_27 {p : Program} {l : Launch} {e : Env} {s : State} {m : MethodId} {args : Array Value} {below : List Frame} {meth : Method} {c : Code} {Q : State → Prop} {A : Nat → Prop} {dC : Nat → ClassId} {dI : Nat → Nat → Nat} {a : Nat → Nat} {ac : Nat → ClassId} {n : Nat} {r : Int32 × (St × Rw × (St) × (St × (St)) × (St) × (St × (St × (St × (St)))) × (St) × (St) × (Nat → St) × (Nat → St) × (Nat → St × (St)))} (C : nd_C p l s m args c A (dC, dI) cX12_held 5 RX12 ow_dm_X12_held (dk_X12 ac)) (K : nd_Ki p l e (headSpec ow_dm_X12_held ({ frames := 1, cells := 0, slots := 0, locals := 23 })).room s m args below meth c Q A (dC, dI) cX12_held .int (St × Rw × (St) × (St × (St)) × (St) × (St × (St × (St × (St)))) × (St) × (St) × (Nat → St) × (Nat → St) × (Nat → St × (St))) (dw_X12 a ac) r) : dj_X12_held_27 p l e s m args below meth c Q A dC dI a ac (df_X12_held_27 n (a 15) (a 3)) r := by
  obtain ⟨hlt, hx, hb, hml, hown, hts, hN, hA, hK⟩ := id C
  intro x3 y0 s0 H locs ls h hP hD hS hl
  unfold df_X12_held_27 at h
  refine lv_istore (lv' := [(4, .int y0), (0, .ref (a 0)), (3, .int x3)]) hx hb dX12_held_27 hl (by decide) rfl (fun ls hl => ?_)
  refine lv_iload hx hb dX12_held_29 (lv_at hl 0 rfl) ?_
  refine lv_if_lt (tgt := 57) hx hb dX12_held_31 (by decide) (fun c5 => ?_) (fun c5 => ?_)
  · have h := nd_pos h c5
    exact (db_X12_held_57 C K)  s0 _ _ _ h hP hD hS (lv_sub hl [] rfl)
  · have h := nd_neg h c5
    refine lv_iload_n hx hb dX12_held_34 rfl (lv_at hl 2 rfl) ?_
    refine lv_if_lt (tgt := 57) hx hb dX12_held_35 (by decide) (fun c6 => ?_) (fun c6 => ?_)
    · have h := nd_pos h c6
      exact (db_X12_held_57 C K)  s0 _ _ _ h hP hD hS (lv_sub hl [] rfl)
    · have h := nd_neg h c6
      refine lv_iload_n hx hb dX12_held_38 rfl (lv_at hl 2 rfl) ?_
      refine lv_aload_n hx hb dX12_held_39 rfl (lv_at hl 1 rfl) ?_
      refine va_get (D := (dC, dI)) (ci := 13) (v := .ref (a 16)) (C := RX12) (T := TX12) (N := 12) hx hb hts hi_dm_X12_held_X12 hown hK hP 0 rfl rfl 6 (by decide) (hts (.fieldLink RX12 33 "TimeMachine" "timeline" "LTimeMachine$Timeline;") (List.mem_of_getElem? (i := 5) rfl)) (fun _ h9 => h9) rfl dX12_held_40 ?_
      refine va_get (D := (dC, dI)) (ci := 12) (v := .ref (a 23)) (C := RX11) (T := TX11) (N := 16) hx hb hts hi_dm_X12_held_X11 hown hK hP 16 rfl rfl 3 (by decide) (hts (.fieldLink RX12 192 "TimeMachine$Timeline" "machine" "LTimeMachine$Machine;") (List.mem_of_getElem? (i := 6) rfl)) (fun _ h9 => h9) rfl dX12_held_43 ?_
      refine va_get (D := (dC, dI)) (ci := 7) (v := .ref (a 33)) (C := RX6) (T := TX6) (N := 20) hx hb hts hi_dm_X12_held_X6 hown hK hP 23 rfl rfl 11 (by decide) (hts (.fieldLink RX12 252 "TimeMachine$Machine" "things" "LTimeMachine$Things;") (List.mem_of_getElem? (i := 7) rfl)) (fun _ h9 => h9) rfl dX12_held_46 ?_
      refine lv_iload hx hb dX12_held_49 (lv_at hl 0 rfl) ?_
      obtain ⟨q7, s8, hq, h⟩ := nd_b2_e h
      have hPc := dp_wX12_X10_18 hP
      have hDc := dd_wX12_X10_18 hD
      have hKc := dy_wX12_X10_18 hK
      have hFc := nd_rs hDc hS hA
      have hzA : ∀ q : Nat, H.size ≤ q → A q := fun q h => hA q (Nat.le_trans hS.1 h)
      refine nd_cVi (As := [.int y0]) (rest := [.int x3]) (q := q7) (w' := dw_X10 (fun k => a (k + 33)) (fun k => ac (k + 33)) s8) ⟨hx, hb, hml, hown, hts⟩ (fun sz => dm_X10_amount l hlt dC dI (fun k => a (k + 33)) (fun k => ac (k + 33)) n (y0) s0.2.2.2.2.2.1.2.2.2 hq sz) (cwV 1 hts gi_dm_X12_held_1 rfl rfl rfl (by decide +kernel) ⟨Nat.le_of_ble_eq_true rfl, Nat.le_of_ble_eq_true rfl⟩) hPc hDc hKc hS hA hN (va_recv hKc hPc (ci := 11) (q0 := 0) rfl rfl) rfl hl.1 rfl (Nat.le_of_ble_eq_true rfl) dX12_held_51 (fun H locs hP1 hD1 hk1 hS => ?_)
      obtain ⟨hP, hD⟩ := dn_wX12_X10_18 hP hD hzA hk1 hP1 hD1
      obtain ⟨s10, es10, h⟩ := nd_let_e h
      have hP : va_P (dC, dI) vwCl (dw_X12 a ac s10) H := by rw [es10]; exact hP
      have hD : va_D A (dw_X12 a ac s10) := by rw [es10]; exact hD
      refine lv_icmp_lt (tgt := 59) hx hb dX12_held_54 (by decide) (fun c11 => ?_) (fun c11 => ?_)
      · have h := nd_pos h c11
        refine lv_aload_n hx hb dX12_held_59 rfl (lv_at hl 1 rfl) ?_
        refine va_get (D := (dC, dI)) (ci := 13) (v := .ref (a 16)) (C := RX12) (T := TX12) (N := 12) hx hb hts hi_dm_X12_held_X12 hown hK hP 0 rfl rfl 6 (by decide) (hts (.fieldLink RX12 33 "TimeMachine" "timeline" "LTimeMachine$Timeline;") (List.mem_of_getElem? (i := 5) rfl)) (fun _ h9 => h9) rfl dX12_held_60 ?_
        refine va_get (D := (dC, dI)) (ci := 12) (v := .ref (a 23)) (C := RX11) (T := TX11) (N := 16) hx hb hts hi_dm_X12_held_X11 hown hK hP 16 rfl rfl 3 (by decide) (hts (.fieldLink RX12 192 "TimeMachine$Timeline" "machine" "LTimeMachine$Machine;") (List.mem_of_getElem? (i := 6) rfl)) (fun _ h9 => h9) rfl dX12_held_63 ?_
        refine va_get (D := (dC, dI)) (ci := 7) (v := .ref (a 33)) (C := RX6) (T := TX6) (N := 20) hx hb hts hi_dm_X12_held_X6 hown hK hP 23 rfl rfl 11 (by decide) (hts (.fieldLink RX12 252 "TimeMachine$Machine" "things" "LTimeMachine$Things;") (List.mem_of_getElem? (i := 7) rfl)) (fun _ h9 => h9) rfl dX12_held_66 ?_
        refine lv_iload hx hb dX12_held_69 (lv_at hl 0 rfl) ?_
        refine lv_iload_n hx hb dX12_held_71 rfl (lv_at hl 2 rfl) ?_
        obtain ⟨q12, s13, hq, h⟩ := nd_b2_e h
        have hPc := dp_wX12_X10_18 hP
        have hDc := dd_wX12_X10_18 hD
        have hKc := dy_wX12_X10_18 hK
        have hFc := nd_rs hDc hS hA
        have hzA : ∀ q : Nat, H.size ≤ q → A q := fun q h => hA q (Nat.le_trans hS.1 h)
        refine nd_cVi (As := [.int y0, .int x3]) (rest := []) (q := q12) (w' := dw_X10 (fun k => a (k + 33)) (fun k => ac (k + 33)) s13) ⟨hx, hb, hml, hown, hts⟩ (fun sz => dm_X10_byteOf l hlt dC dI (fun k => a (k + 33)) (fun k => ac (k + 33)) n (y0) (x3) s10.2.2.2.2.2.1.2.2.2 hq sz) (cwV 2 hts gi_dm_X12_held_2 rfl rfl rfl (by decide +kernel) ⟨Nat.le_of_ble_eq_true rfl, Nat.le_of_ble_eq_true rfl⟩) hPc hDc hKc hS hA hN (va_recv hKc hPc (ci := 11) (q0 := 0) rfl rfl) rfl hl.1 rfl (Nat.le_of_ble_eq_true rfl) dX12_held_72 (fun H locs hP1 hD1 hk1 hS => ?_)
        obtain ⟨hP, hD⟩ := dn_wX12_X10_18 hP hD hzA hk1 hP1 hD1
        obtain ⟨s15, es15, h⟩ := nd_let_e h
        have hP : va_P (dC, dI) vwCl (dw_X12 a ac s15) H := by rw [es15]; exact hP
        have hD : va_D A (dw_X12 a ac s15) := by rw [es15]; exact hD
        exact K _ _ _ _ _ _ dX12_held_75 rfl (Option.some.inj h).symm hP hD hS
      · have h := nd_neg h c11
        exact (db_X12_held_57 C K)  s10 _ _ _ h hP hD hS (lv_sub hl [] rfl)
set_option maxHeartbeats 40000000 in
set_option maxRecDepth 100000 in
theorem db_X12_held_0 {p : Program} {l : Launch} {e : Env} {s : State} {m : MethodId} {args : Array Value} {below : List Frame} {meth : Method} {c : Code} {Q : State → Prop} {A : Nat → Prop} {dC : Nat → ClassId} {dI : Nat → Nat → Nat} {a : Nat → Nat} {ac : Nat → ClassId} {n : Nat} {r : Int32 × (St × Rw × (St) × (St × (St)) × (St) × (St × (St × (St × (St)))) × (St) × (St) × (Nat → St) × (Nat → St) × (Nat → St × (St)))} (C : nd_C p l s m args c A (dC, dI) cX12_held 5 RX12 ow_dm_X12_held (dk_X12 ac)) (K : nd_Ki p l e (headSpec ow_dm_X12_held ({ frames := 1, cells := 0, slots := 0, locals := 23 })).room s m args below meth c Q A (dC, dI) cX12_held .int (St × Rw × (St) × (St × (St)) × (St) × (St × (St × (St × (St)))) × (St) × (St) × (Nat → St) × (Nat → St) × (Nat → St × (St))) (dw_X12 a ac) r) : dj_X12_held_0 p l e s m args below meth c Q A dC dI a ac (df_X12_held_0 n (a 15) (a 3)) r := by
  obtain ⟨hlt, hx, hb, hml, hown, hts, hN, hA, hK⟩ := id C
  intro v0 v1 v2 s0 H locs ls h hP hD hS hl
  unfold df_X12_held_0 at h
  refine lv_aload_n hx hb dX12_held_0 rfl (lv_at hl 0 rfl) ?_
  refine lv_iload_n hx hb dX12_held_1 rfl (lv_at hl 1 rfl) ?_
  obtain ⟨q1, s2, hq, h⟩ := nd_b2_e h
  have hPc := hP
  have hDc := hD
  have hKc := hK
  have hFc := nd_rs hD hS hA
  refine nd_cVi (As := [.int v0]) (rest := []) (q := q1) (w' := dw_X12 a ac s2) ⟨hx, hb, hml, hown, hts⟩ (fun sz => dm_X12_isThere l hlt dC dI a ac n (v0) s0 hq sz) (cwV 1 hts gi_dm_X12_held_0 rfl rfl rfl (by decide +kernel) ⟨Nat.le_of_ble_eq_true rfl, Nat.le_of_ble_eq_true rfl⟩) hPc hDc hKc hS hA hN (va_recv hKc hPc (ci := 13) (q0 := 0) rfl rfl) rfl hl.1 rfl (Nat.le_of_ble_eq_true rfl) dX12_held_2 (fun H locs hP1 hD1 hk1 hS => ?_)
  have hP := hP1
  have hD := hD1.weaken (fun k q _ h => hFc q.1 h)
  refine lv_if_eq (tgt := 26) hx hb dX12_held_5 (by decide) (fun c4 => ?_) (fun c4 => ?_)
  · have h := nd_pos h c4
    refine lv_iconst (v := (-1)) hx hb dX12_held_26 (by decide) ?_
    exact (db_X12_held_27 C K) (v2) ((-1)) s2 _ _ _ h hP hD hS (lv_sub hl [0, 3] rfl)
  · have h := nd_neg h c4
    refine lv_aload_n hx hb dX12_held_8 rfl (lv_at hl 0 rfl) ?_
    refine va_get (D := (dC, dI)) (ci := 13) (v := .ref (a 16)) (C := RX12) (T := TX12) (N := 12) hx hb hts hi_dm_X12_held_X12 hown hK hP 0 rfl rfl 6 (by decide) (hts (.fieldLink RX12 33 "TimeMachine" "timeline" "LTimeMachine$Timeline;") (List.mem_of_getElem? (i := 5) rfl)) (fun _ h9 => h9) rfl dX12_held_9 ?_
    refine va_get (D := (dC, dI)) (ci := 12) (v := .ref (a 23)) (C := RX11) (T := TX11) (N := 16) hx hb hts hi_dm_X12_held_X11 hown hK hP 16 rfl rfl 3 (by decide) (hts (.fieldLink RX12 192 "TimeMachine$Timeline" "machine" "LTimeMachine$Machine;") (List.mem_of_getElem? (i := 6) rfl)) (fun _ h9 => h9) rfl dX12_held_12 ?_
    refine va_get (D := (dC, dI)) (ci := 7) (v := .ref (a 33)) (C := RX6) (T := TX6) (N := 20) hx hb hts hi_dm_X12_held_X6 hown hK hP 23 rfl rfl 11 (by decide) (hts (.fieldLink RX12 252 "TimeMachine$Machine" "things" "LTimeMachine$Things;") (List.mem_of_getElem? (i := 7) rfl)) (fun _ h9 => h9) rfl dX12_held_15 ?_
    refine lv_iload_n hx hb dX12_held_18 rfl (lv_at hl 1 rfl) ?_
    refine lv_iload_n hx hb dX12_held_19 rfl (lv_at hl 2 rfl) ?_
    obtain ⟨q16, s17, hq, h⟩ := nd_b2_e h
    have hPc := dp_wX12_X10_18 hP
    have hDc := dd_wX12_X10_18 hD
    have hKc := dy_wX12_X10_18 hK
    have hFc := nd_rs hDc hS hA
    have hzA : ∀ q : Nat, H.size ≤ q → A q := fun q h => hA q (Nat.le_trans hS.1 h)
    refine nd_cVi (As := [.int v0, .int v1]) (rest := []) (q := q16) (w' := dw_X10 (fun k => a (k + 33)) (fun k => ac (k + 33)) s17) ⟨hx, hb, hml, hown, hts⟩ (fun sz => dm_X10_openingOf l hlt dC dI (fun k => a (k + 33)) (fun k => ac (k + 33)) n (v0) (v1) s2.2.2.2.2.2.1.2.2.2 hq sz) (cwV 2 hts gi_dm_X12_held_3 rfl rfl rfl (by decide +kernel) ⟨Nat.le_of_ble_eq_true rfl, Nat.le_of_ble_eq_true rfl⟩) hPc hDc hKc hS hA hN (va_recv hKc hPc (ci := 11) (q0 := 0) rfl rfl) rfl hl.1 rfl (Nat.le_of_ble_eq_true rfl) dX12_held_20 (fun H locs hP1 hD1 hk1 hS => ?_)
    obtain ⟨hP, hD⟩ := dn_wX12_X10_18 hP hD hzA hk1 hP1 hD1
    obtain ⟨s19, es19, h⟩ := nd_let_e h
    have hP : va_P (dC, dI) vwCl (dw_X12 a ac s19) H := by rw [es19]; exact hP
    have hD : va_D A (dw_X12 a ac s19) := by rw [es19]; exact hD
    refine lv_goto (tgt := 27) hx hb dX12_held_23 (by decide) ?_
    exact (db_X12_held_27 C K) (v2) (q16) s19 _ _ _ h hP hD hS (lv_sub hl [0, 3] rfl)
set_option maxHeartbeats 40000000 in
set_option maxRecDepth 100000 in
theorem dm_X12_held (l : Launch) (hlt : l.stackTraces = false) (dC : Nat → ClassId) (dI : Nat → Nat → Nat) (a : Nat → Nat) (ac : Nat → ClassId) (n : Nat) (v0 : Int32) (v1 : Int32) (v2 : Int32) (s0 : St × Rw × (St) × (St × (St)) × (St) × (St × (St × (St × (St)))) × (St) × (St) × (Nat → St) × (Nat → St) × (Nat → St × (St))) {r : Int32 × (St × Rw × (St) × (St × (St)) × (St) × (St × (St × (St × (St)))) × (St) × (St) × (Nat → St) × (Nat → St) × (Nat → St × (St)))} (h : df_X12_held n (a 15) (a 3) v0 v1 v2 s0 = some r) (sz : Nat) : Met l yX12_held ow_dm_X12_held ({ frames := 1, cells := 0, slots := 0, locals := 23 }) (va_Pc [.ref (a 0), .int v0, .int v1, .int v2] (fun U => U.heap.size = sz ∧ va_P (dC, dI) vwCl (dw_X12 a ac s0) U.heap ∧ va_K (dC, dI) vwCl (dk_X12 ac) U ∧ va_D (fun _ => True) (dw_X12 a ac s0) ∧ nv_E dI (va_A (dw_X12 a ac s0) sz) U)) (va_Qi (fun x _ => x = r.1) (fun (_ : Unit) t => va_P (dC, dI) vwCl (dw_X12 a ac r.2) t.heap ∧ va_K (dC, dI) vwCl (dk_X12 ac) t ∧ va_D (va_A (dw_X12 a ac s0) sz) (dw_X12 a ac r.2)) (va_A (dw_X12 a ac s0) sz)) 0 0 (va_A (dw_X12 a ac s0) sz) := by
  refine Met.ofW (cc := cX12_held) (maxL := 5) (ret := (some .int)) (by decide) rfl ?_
  intro p e s m args below meth c s₁ B hml hv
  obtain ⟨rfl, hsz, hP, hK, hD0, hN⟩ := hv
  have hx := B.exec
  have hb := B.bytes
  have hr := B.returns
  have hts := atoms_spec (ws := ow_dm_X12_held) B.pre
  have hown : s.vm.findClass RX12 = some m.cls := findClass_of_methodNamed B.named
  have hlocks := B.notSynchronized
  subst hsz
  have hD := hD0.self (sz := s.heap.size)
  generalize hAe : va_A (dw_X12 a ac s0) s.heap.size = A at hD hN ⊢
  have hA : ∀ q : Nat, s.heap.size ≤ q → A q := fun q h => by rw [← hAe]; exact Or.inr h
  have hl := lv_entry ([.ref (a 0), .int v0, .int v1, .int v2]) (n := 5) (Nat.le_of_ble_eq_true rfl)
  rw [lg_entry_eq]
  generalize (lg_sl ([.ref (a 0), .int v0, .int v1, .int v2]) ++ List.replicate (5 - (lg_sl ([.ref (a 0), .int v0, .int v1, .int v2])).length) Slot.unset).toArray = ls at hl ⊢
  have hl : lv_has ls 5 [(0, .ref (a 0)), (1, .int v0), (2, .int v1), (3, .int v2)] := hl
  exact db_X12_held_0 (dC := dC) (dI := dI) (a := a) (ac := ac) (n := n) (r := r) ⟨hlt, hx, hb, hml, hown, hts, hN, hA, hK⟩ (fun pc v τ H locs ls d z er hP hD hS => by subst er; exact W.zret (v := v) hx hb hr z (fun t ht hW => ⟨⟨v, (), rfl, rfl, by rw [ht]; exact hP, va_K.moved hW.alike hK, hD⟩, hS.F ht⟩) hS.2.2 d) v0 v1 v2 s0 _ _ _ h hP hD va_S.rf (lv_sub hl [0, 1, 2, 3] rfl)
def ow_dm_X12_shown : List Cond := Cond.code yX12_shown cX12_shown 2 (some .int) :: ([Cond.fieldLink RX12 33 "TimeMachine" "timeline" "LTimeMachine$Timeline;", Cond.fieldLink RX12 142 "TimeMachine$Timeline" "booted" "Z", Cond.fieldLink RX12 192 "TimeMachine$Timeline" "machine" "LTimeMachine$Machine;", Cond.fieldLink RX12 252 "TimeMachine$Machine" "things" "LTimeMachine$Things;", Cond.methodLink RX12 266 yX10_shownByte, Cond.instanceMethod yX10_shownByte, Cond.selects RX10 yX10_shownByte yX10_shownByte, Cond.initialized RX10] ++ (u_ws RX12 TX12 12 ++ (u_ws RX11 TX11 16 ++ (u_ws RX6 TX6 20 ++ (ow_dm_X10_shownByte ++ [])))))
theorem gd_dm_X12_shown : ∀ w ∈ ow_dm_X12_shown, (w.onTables && w.keeps) = true ∨ ∃ ty, w = Cond.arrayClass ty := List.forall_mem_cons.mpr ⟨good_of_word rfl, List.forall_mem_append.mpr ⟨fun w h => good_of_word (List.all_eq_true.mp (by decide +kernel) w h), List.forall_mem_append.mpr ⟨gu_X12, List.forall_mem_append.mpr ⟨gu_X11, List.forall_mem_append.mpr ⟨gu_X6, List.forall_mem_append.mpr ⟨gd_dm_X10_shownByte, fun _ h => nomatch h⟩⟩⟩⟩⟩⟩
theorem hi_dm_X12_shown_X12 : ∀ w ∈ u_ws RX12 TX12 12, w ∈ ow_dm_X12_shown := fun w h => List.mem_cons_of_mem _ (List.mem_append_right _ (List.mem_append_left _ h))
theorem hi_dm_X12_shown_X11 : ∀ w ∈ u_ws RX11 TX11 16, w ∈ ow_dm_X12_shown := fun w h => List.mem_cons_of_mem _ (List.mem_append_right _ (List.mem_append_right _ (List.mem_append_left _ h)))
theorem hi_dm_X12_shown_X6 : ∀ w ∈ u_ws RX6 TX6 20, w ∈ ow_dm_X12_shown := fun w h => List.mem_cons_of_mem _ (List.mem_append_right _ (List.mem_append_right _ (List.mem_append_right _ (List.mem_append_left _ h))))
theorem gi_dm_X12_shown_0 : GoodIn ow_dm_X12_shown (wsV RX12 266 RX10 yX10_shownByte ow_dm_X10_shownByte) := goodIn_app (goodIn_of _ (by decide +kernel)) (fun w h => ⟨List.mem_cons_of_mem _ (List.mem_append_right _ (List.mem_append_right _ (List.mem_append_right _ (List.mem_append_right _ (List.mem_append_left _ h))))), gd_dm_X10_shownByte w h⟩)
def dj_X12_shown_28 (p : Program) (l : Launch) (e : Env) (s : State) (m : MethodId) (args : Array Value) (below : List Frame) (meth : Method) (c : Code) (Q : State → Prop) (A : Nat → Prop) (dC : Nat → ClassId) (dI : Nat → Nat → Nat) (a : Nat → Nat) (ac : Nat → ClassId) (g : Int32 → (St × Rw × (St) × (St × (St)) × (St) × (St × (St × (St × (St)))) × (St) × (St) × (Nat → St) × (Nat → St) × (Nat → St × (St))) → Option (Int32 × (St × Rw × (St) × (St × (St)) × (St) × (St × (St × (St × (St)))) × (St) × (St) × (Nat → St) × (Nat → St) × (Nat → St × (St))))) (r : Int32 × (St × Rw × (St) × (St × (St)) × (St) × (St × (St × (St × (St)))) × (St) × (St) × (Nat → St) × (Nat → St) × (Nat → St × (St)))) : Prop := ∀ (y0 : Int32) (s0 : St × Rw × (St) × (St × (St)) × (St) × (St × (St × (St × (St)))) × (St) × (St) × (Nat → St) × (Nat → St) × (Nat → St × (St))) (H : Heap) (locs : List Loc) (ls : Array Slot), g y0 s0 = some r → va_P (dC, dI) vwCl (dw_X12 a ac s0) H → va_D A (dw_X12 a ac s0) → va_S A s.heap H locs → lv_has ls 2 [] → W p l e (headSpec ow_dm_X12_shown ({ frames := 2, cells := 0, slots := 0, locals := 38 })).room s m args below meth c H locs 0 0 Q (F0 m 28 ls [.int y0])
def dj_X12_shown_0 (p : Program) (l : Launch) (e : Env) (s : State) (m : MethodId) (args : Array Value) (below : List Frame) (meth : Method) (c : Code) (Q : State → Prop) (A : Nat → Prop) (dC : Nat → ClassId) (dI : Nat → Nat → Nat) (a : Nat → Nat) (ac : Nat → ClassId) (g : Int32 → (St × Rw × (St) × (St × (St)) × (St) × (St × (St × (St × (St)))) × (St) × (St) × (Nat → St) × (Nat → St) × (Nat → St × (St))) → Option (Int32 × (St × Rw × (St) × (St × (St)) × (St) × (St × (St × (St × (St)))) × (St) × (St) × (Nat → St) × (Nat → St) × (Nat → St × (St))))) (r : Int32 × (St × Rw × (St) × (St × (St)) × (St) × (St × (St × (St × (St)))) × (St) × (St) × (Nat → St) × (Nat → St) × (Nat → St × (St)))) : Prop := ∀ (v0 : Int32) (s0 : St × Rw × (St) × (St × (St)) × (St) × (St × (St × (St × (St)))) × (St) × (St) × (Nat → St) × (Nat → St) × (Nat → St × (St))) (H : Heap) (locs : List Loc) (ls : Array Slot), g v0 s0 = some r → va_P (dC, dI) vwCl (dw_X12 a ac s0) H → va_D A (dw_X12 a ac s0) → va_S A s.heap H locs → lv_has ls 2 [(0, .ref (a 0)), (1, .int v0)] → W p l e (headSpec ow_dm_X12_shown ({ frames := 2, cells := 0, slots := 0, locals := 38 })).room s m args below meth c H locs 0 0 Q (F0 m 0 ls [])
set_option maxHeartbeats 40000000 in
set_option maxRecDepth 100000 in
theorem db_X12_shown_28 {p : Program} {l : Launch} {e : Env} {s : State} {m : MethodId} {args : Array Value} {below : List Frame} {meth : Method} {c : Code} {Q : State → Prop} {A : Nat → Prop} {dC : Nat → ClassId} {dI : Nat → Nat → Nat} {a : Nat → Nat} {ac : Nat → ClassId} {n : Nat} {r : Int32 × (St × Rw × (St) × (St × (St)) × (St) × (St × (St × (St × (St)))) × (St) × (St) × (Nat → St) × (Nat → St) × (Nat → St × (St)))} (C : nd_C p l s m args c A (dC, dI) cX12_shown 2 RX12 ow_dm_X12_shown (dk_X12 ac)) (K : nd_Ki p l e (headSpec ow_dm_X12_shown ({ frames := 2, cells := 0, slots := 0, locals := 38 })).room s m args below meth c Q A (dC, dI) cX12_shown .int (St × Rw × (St) × (St × (St)) × (St) × (St × (St × (St × (St)))) × (St) × (St) × (Nat → St) × (Nat → St) × (Nat → St × (St))) (dw_X12 a ac) r) : dj_X12_shown_28 p l e s m args below meth c Q A dC dI a ac (df_X12_shown_28 n (a 15) (a 3)) r := by
  obtain ⟨hlt, hx, hb, hml, hown, hts, hN, hA, hK⟩ := id C
  intro y0 s0 H locs ls h hP hD hS hl
  unfold df_X12_shown_28 at h
  exact K _ _ _ _ _ _ dX12_shown_28 rfl (Option.some.inj h).symm hP hD hS
set_option maxHeartbeats 40000000 in
set_option maxRecDepth 100000 in
theorem db_X12_shown_0 {p : Program} {l : Launch} {e : Env} {s : State} {m : MethodId} {args : Array Value} {below : List Frame} {meth : Method} {c : Code} {Q : State → Prop} {A : Nat → Prop} {dC : Nat → ClassId} {dI : Nat → Nat → Nat} {a : Nat → Nat} {ac : Nat → ClassId} {n : Nat} {r : Int32 × (St × Rw × (St) × (St × (St)) × (St) × (St × (St × (St × (St)))) × (St) × (St) × (Nat → St) × (Nat → St) × (Nat → St × (St)))} (C : nd_C p l s m args c A (dC, dI) cX12_shown 2 RX12 ow_dm_X12_shown (dk_X12 ac)) (K : nd_Ki p l e (headSpec ow_dm_X12_shown ({ frames := 2, cells := 0, slots := 0, locals := 38 })).room s m args below meth c Q A (dC, dI) cX12_shown .int (St × Rw × (St) × (St × (St)) × (St) × (St × (St × (St × (St)))) × (St) × (St) × (Nat → St) × (Nat → St) × (Nat → St × (St))) (dw_X12 a ac) r) : dj_X12_shown_0 p l e s m args below meth c Q A dC dI a ac (df_X12_shown_0 n (a 15) (a 3)) r := by
  obtain ⟨hlt, hx, hb, hml, hown, hts, hN, hA, hK⟩ := id C
  intro v0 s0 H locs ls h hP hD hS hl
  unfold df_X12_shown_0 at h
  refine lv_aload_n hx hb dX12_shown_0 rfl (lv_at hl 0 rfl) ?_
  refine va_get (D := (dC, dI)) (ci := 13) (v := .ref (a 16)) (C := RX12) (T := TX12) (N := 12) hx hb hts hi_dm_X12_shown_X12 hown hK hP 0 rfl rfl 6 (by decide) (hts (.fieldLink RX12 33 "TimeMachine" "timeline" "LTimeMachine$Timeline;") (List.mem_of_getElem? (i := 1) rfl)) (fun _ h9 => h9) rfl dX12_shown_1 ?_
  refine va_get (D := (dC, dI)) (ci := 12) (v := .int (sI s0.2.2.2.2.1 0)) (C := RX11) (T := TX11) (N := 16) hx hb hts hi_dm_X12_shown_X11 hown hK hP 16 rfl rfl 6 (by decide) (hts (.fieldLink RX12 142 "TimeMachine$Timeline" "booted" "Z") (List.mem_of_getElem? (i := 2) rfl)) (fun _ h9 => h9) rfl dX12_shown_4 ?_
  refine lv_if_eq (tgt := 27) hx hb dX12_shown_7 (by decide) (fun c1 => ?_) (fun c1 => ?_)
  · have h := nd_pos h c1
    refine lv_iconst (v := (-1)) hx hb dX12_shown_27 (by decide) ?_
    exact (db_X12_shown_28 C K) ((-1)) s0 _ _ _ h hP hD hS (lv_sub hl [] rfl)
  · have h := nd_neg h c1
    refine lv_aload_n hx hb dX12_shown_10 rfl (lv_at hl 0 rfl) ?_
    refine va_get (D := (dC, dI)) (ci := 13) (v := .ref (a 16)) (C := RX12) (T := TX12) (N := 12) hx hb hts hi_dm_X12_shown_X12 hown hK hP 0 rfl rfl 6 (by decide) (hts (.fieldLink RX12 33 "TimeMachine" "timeline" "LTimeMachine$Timeline;") (List.mem_of_getElem? (i := 1) rfl)) (fun _ h9 => h9) rfl dX12_shown_11 ?_
    refine va_get (D := (dC, dI)) (ci := 12) (v := .ref (a 23)) (C := RX11) (T := TX11) (N := 16) hx hb hts hi_dm_X12_shown_X11 hown hK hP 16 rfl rfl 3 (by decide) (hts (.fieldLink RX12 192 "TimeMachine$Timeline" "machine" "LTimeMachine$Machine;") (List.mem_of_getElem? (i := 3) rfl)) (fun _ h9 => h9) rfl dX12_shown_14 ?_
    refine va_get (D := (dC, dI)) (ci := 7) (v := .ref (a 33)) (C := RX6) (T := TX6) (N := 20) hx hb hts hi_dm_X12_shown_X6 hown hK hP 23 rfl rfl 11 (by decide) (hts (.fieldLink RX12 252 "TimeMachine$Machine" "things" "LTimeMachine$Things;") (List.mem_of_getElem? (i := 4) rfl)) (fun _ h9 => h9) rfl dX12_shown_17 ?_
    refine lv_iload_n hx hb dX12_shown_20 rfl (lv_at hl 1 rfl) ?_
    obtain ⟨q2, s3, hq, h⟩ := nd_b2_e h
    have hPc := dp_wX12_X10_18 hP
    have hDc := dd_wX12_X10_18 hD
    have hKc := dy_wX12_X10_18 hK
    have hFc := nd_rs hDc hS hA
    have hzA : ∀ q : Nat, H.size ≤ q → A q := fun q h => hA q (Nat.le_trans hS.1 h)
    refine nd_cVi (As := [.int v0]) (rest := []) (q := q2) (w' := dw_X10 (fun k => a (k + 33)) (fun k => ac (k + 33)) s3) ⟨hx, hb, hml, hown, hts⟩ (fun sz => dm_X10_shownByte l hlt dC dI (fun k => a (k + 33)) (fun k => ac (k + 33)) n (v0) s0.2.2.2.2.2.1.2.2.2 hq sz) (cwV 1 hts gi_dm_X12_shown_0 rfl rfl rfl (by decide +kernel) ⟨Nat.le_of_ble_eq_true rfl, Nat.le_of_ble_eq_true rfl⟩) hPc hDc hKc hS hA hN (va_recv hKc hPc (ci := 11) (q0 := 0) rfl rfl) rfl hl.1 rfl (Nat.le_of_ble_eq_true rfl) dX12_shown_21 (fun H locs hP1 hD1 hk1 hS => ?_)
    obtain ⟨hP, hD⟩ := dn_wX12_X10_18 hP hD hzA hk1 hP1 hD1
    obtain ⟨s5, es5, h⟩ := nd_let_e h
    have hP : va_P (dC, dI) vwCl (dw_X12 a ac s5) H := by rw [es5]; exact hP
    have hD : va_D A (dw_X12 a ac s5) := by rw [es5]; exact hD
    refine lv_goto (tgt := 28) hx hb dX12_shown_24 (by decide) ?_
    exact (db_X12_shown_28 C K) (q2) s5 _ _ _ h hP hD hS (lv_sub hl [] rfl)
set_option maxHeartbeats 40000000 in
set_option maxRecDepth 100000 in
theorem dm_X12_shown (l : Launch) (hlt : l.stackTraces = false) (dC : Nat → ClassId) (dI : Nat → Nat → Nat) (a : Nat → Nat) (ac : Nat → ClassId) (n : Nat) (v0 : Int32) (s0 : St × Rw × (St) × (St × (St)) × (St) × (St × (St × (St × (St)))) × (St) × (St) × (Nat → St) × (Nat → St) × (Nat → St × (St))) {r : Int32 × (St × Rw × (St) × (St × (St)) × (St) × (St × (St × (St × (St)))) × (St) × (St) × (Nat → St) × (Nat → St) × (Nat → St × (St)))} (h : df_X12_shown n (a 15) (a 3) v0 s0 = some r) (sz : Nat) : Met l yX12_shown ow_dm_X12_shown ({ frames := 2, cells := 0, slots := 0, locals := 38 }) (va_Pc [.ref (a 0), .int v0] (fun U => U.heap.size = sz ∧ va_P (dC, dI) vwCl (dw_X12 a ac s0) U.heap ∧ va_K (dC, dI) vwCl (dk_X12 ac) U ∧ va_D (fun _ => True) (dw_X12 a ac s0) ∧ nv_E dI (va_A (dw_X12 a ac s0) sz) U)) (va_Qi (fun x _ => x = r.1) (fun (_ : Unit) t => va_P (dC, dI) vwCl (dw_X12 a ac r.2) t.heap ∧ va_K (dC, dI) vwCl (dk_X12 ac) t ∧ va_D (va_A (dw_X12 a ac s0) sz) (dw_X12 a ac r.2)) (va_A (dw_X12 a ac s0) sz)) 0 0 (va_A (dw_X12 a ac s0) sz) := by
  refine Met.ofW (cc := cX12_shown) (maxL := 2) (ret := (some .int)) (by decide) rfl ?_
  intro p e s m args below meth c s₁ B hml hv
  obtain ⟨rfl, hsz, hP, hK, hD0, hN⟩ := hv
  have hx := B.exec
  have hb := B.bytes
  have hr := B.returns
  have hts := atoms_spec (ws := ow_dm_X12_shown) B.pre
  have hown : s.vm.findClass RX12 = some m.cls := findClass_of_methodNamed B.named
  have hlocks := B.notSynchronized
  subst hsz
  have hD := hD0.self (sz := s.heap.size)
  generalize hAe : va_A (dw_X12 a ac s0) s.heap.size = A at hD hN ⊢
  have hA : ∀ q : Nat, s.heap.size ≤ q → A q := fun q h => by rw [← hAe]; exact Or.inr h
  have hl := lv_entry ([.ref (a 0), .int v0]) (n := 2) (Nat.le_of_ble_eq_true rfl)
  rw [lg_entry_eq]
  generalize (lg_sl ([.ref (a 0), .int v0]) ++ List.replicate (2 - (lg_sl ([.ref (a 0), .int v0])).length) Slot.unset).toArray = ls at hl ⊢
  have hl : lv_has ls 2 [(0, .ref (a 0)), (1, .int v0)] := hl
  exact db_X12_shown_0 (dC := dC) (dI := dI) (a := a) (ac := ac) (n := n) (r := r) ⟨hlt, hx, hb, hml, hown, hts, hN, hA, hK⟩ (fun pc v τ H locs ls d z er hP hD hS => by subst er; exact W.zret (v := v) hx hb hr z (fun t ht hW => ⟨⟨v, (), rfl, rfl, by rw [ht]; exact hP, va_K.moved hW.alike hK, hD⟩, hS.F ht⟩) hS.2.2 d) v0 s0 _ _ _ h hP hD va_S.rf (lv_sub hl [0, 1] rfl)
def ow_dm_X12_breaksThere : List Cond := Cond.code yX12_breaksThere cX12_breaksThere 3 (some .int) :: ([Cond.fieldLink RX12 39 "TimeMachine" "breaks" "[LTimeMachine$Condition;"] ++ (u_ws RX12 TX12 12 ++ []))
theorem gd_dm_X12_breaksThere : ∀ w ∈ ow_dm_X12_breaksThere, (w.onTables && w.keeps) = true ∨ ∃ ty, w = Cond.arrayClass ty := List.forall_mem_cons.mpr ⟨good_of_word rfl, List.forall_mem_append.mpr ⟨fun w h => good_of_word (List.all_eq_true.mp (by decide +kernel) w h), List.forall_mem_append.mpr ⟨gu_X12, fun _ h => nomatch h⟩⟩⟩
theorem hi_dm_X12_breaksThere_X12 : ∀ w ∈ u_ws RX12 TX12 12, w ∈ ow_dm_X12_breaksThere := fun w h => List.mem_cons_of_mem _ (List.mem_append_right _ (List.mem_append_left _ h))
def dj_X12_breaksThere_22 (p : Program) (l : Launch) (e : Env) (s : State) (m : MethodId) (args : Array Value) (below : List Frame) (meth : Method) (c : Code) (Q : State → Prop) (A : Nat → Prop) (dC : Nat → ClassId) (dI : Nat → Nat → Nat) (a : Nat → Nat) (ac : Nat → ClassId) (g : Int32 → Int32 → (St × Rw × (St) × (St × (St)) × (St) × (St × (St × (St × (St)))) × (St) × (St) × (Nat → St) × (Nat → St) × (Nat → St × (St))) → Option (Int32 × (St × Rw × (St) × (St × (St)) × (St) × (St × (St × (St × (St)))) × (St) × (St) × (Nat → St) × (Nat → St) × (Nat → St × (St))))) (r : Int32 × (St × Rw × (St) × (St × (St)) × (St) × (St × (St × (St × (St)))) × (St) × (St) × (Nat → St) × (Nat → St) × (Nat → St × (St)))) : Prop := ∀ (x1 : Int32) (x2 : Int32) (s0 : St × Rw × (St) × (St × (St)) × (St) × (St × (St × (St × (St)))) × (St) × (St) × (Nat → St) × (Nat → St) × (Nat → St × (St))) (H : Heap) (locs : List Loc) (ls : Array Slot), g x1 x2 s0 = some r → va_P (dC, dI) vwCl (dw_X12 a ac s0) H → va_D A (dw_X12 a ac s0) → va_S A s.heap H locs → lv_has ls 3 [(0, .ref (a 0)), (1, .int x1), (2, .int x2)] → W p l e (headSpec ow_dm_X12_breaksThere ({ frames := 0, cells := 0, slots := 0, locals := 0 })).room s m args below meth c H locs 0 0 Q (F0 m 22 ls [])
def dj_X12_breaksThere_4 (p : Program) (l : Launch) (e : Env) (s : State) (m : MethodId) (args : Array Value) (below : List Frame) (meth : Method) (c : Code) (Q : State → Prop) (A : Nat → Prop) (dC : Nat → ClassId) (dI : Nat → Nat → Nat) (a : Nat → Nat) (ac : Nat → ClassId) (g : Int32 → Int32 → (St × Rw × (St) × (St × (St)) × (St) × (St × (St × (St × (St)))) × (St) × (St) × (Nat → St) × (Nat → St) × (Nat → St × (St))) → Option (Int32 × (St × Rw × (St) × (St × (St)) × (St) × (St × (St × (St × (St)))) × (St) × (St) × (Nat → St) × (Nat → St) × (Nat → St × (St))))) (r : Int32 × (St × Rw × (St) × (St × (St)) × (St) × (St × (St × (St × (St)))) × (St) × (St) × (Nat → St) × (Nat → St) × (Nat → St × (St)))) : Prop := ∀ (x1 : Int32) (x2 : Int32) (s0 : St × Rw × (St) × (St × (St)) × (St) × (St × (St × (St × (St)))) × (St) × (St) × (Nat → St) × (Nat → St) × (Nat → St × (St))) (H : Heap) (locs : List Loc) (ls : Array Slot), g x1 x2 s0 = some r → va_P (dC, dI) vwCl (dw_X12 a ac s0) H → va_D A (dw_X12 a ac s0) → va_S A s.heap H locs → lv_has ls 3 [(0, .ref (a 0)), (1, .int x1), (2, .int x2)] → W p l e (headSpec ow_dm_X12_breaksThere ({ frames := 0, cells := 0, slots := 0, locals := 0 })).room s m args below meth c H locs 0 0 Q (F0 m 4 ls [])
def dj_X12_breaksThere_0 (p : Program) (l : Launch) (e : Env) (s : State) (m : MethodId) (args : Array Value) (below : List Frame) (meth : Method) (c : Code) (Q : State → Prop) (A : Nat → Prop) (dC : Nat → ClassId) (dI : Nat → Nat → Nat) (a : Nat → Nat) (ac : Nat → ClassId) (g : (St × Rw × (St) × (St × (St)) × (St) × (St × (St × (St × (St)))) × (St) × (St) × (Nat → St) × (Nat → St) × (Nat → St × (St))) → Option (Int32 × (St × Rw × (St) × (St × (St)) × (St) × (St × (St × (St × (St)))) × (St) × (St) × (Nat → St) × (Nat → St) × (Nat → St × (St))))) (r : Int32 × (St × Rw × (St) × (St × (St)) × (St) × (St × (St × (St × (St)))) × (St) × (St) × (Nat → St) × (Nat → St) × (Nat → St × (St)))) : Prop := ∀ (s0 : St × Rw × (St) × (St × (St)) × (St) × (St × (St × (St × (St)))) × (St) × (St) × (Nat → St) × (Nat → St) × (Nat → St × (St))) (H : Heap) (locs : List Loc) (ls : Array Slot), g s0 = some r → va_P (dC, dI) vwCl (dw_X12 a ac s0) H → va_D A (dw_X12 a ac s0) → va_S A s.heap H locs → lv_has ls 3 [(0, .ref (a 0))] → W p l e (headSpec ow_dm_X12_breaksThere ({ frames := 0, cells := 0, slots := 0, locals := 0 })).room s m args below meth c H locs 0 0 Q (F0 m 0 ls [])
set_option maxHeartbeats 40000000 in
set_option maxRecDepth 100000 in
theorem db_X12_breaksThere_22 {p : Program} {l : Launch} {e : Env} {s : State} {m : MethodId} {args : Array Value} {below : List Frame} {meth : Method} {c : Code} {Q : State → Prop} {A : Nat → Prop} {dC : Nat → ClassId} {dI : Nat → Nat → Nat} {a : Nat → Nat} {ac : Nat → ClassId} {n : Nat} {r : Int32 × (St × Rw × (St) × (St × (St)) × (St) × (St × (St × (St × (St)))) × (St) × (St) × (Nat → St) × (Nat → St) × (Nat → St × (St)))} (C : nd_C p l s m args c A (dC, dI) cX12_breaksThere 3 RX12 ow_dm_X12_breaksThere (dk_X12 ac)) (K : nd_Ki p l e (headSpec ow_dm_X12_breaksThere ({ frames := 0, cells := 0, slots := 0, locals := 0 })).room s m args below meth c Q A (dC, dI) cX12_breaksThere .int (St × Rw × (St) × (St × (St)) × (St) × (St × (St × (St × (St)))) × (St) × (St) × (Nat → St) × (Nat → St) × (Nat → St × (St))) (dw_X12 a ac) r) {g4 : Int32 → Int32 → (St × Rw × (St) × (St × (St)) × (St) × (St × (St × (St × (St)))) × (St) × (St) × (Nat → St) × (Nat → St) × (Nat → St × (St))) → Option (Int32 × (St × Rw × (St) × (St × (St)) × (St) × (St × (St × (St × (St)))) × (St) × (St) × (Nat → St) × (Nat → St) × (Nat → St × (St))))} (J4 : dj_X12_breaksThere_4 p l e s m args below meth c Q A dC dI a ac g4 r) : dj_X12_breaksThere_22 p l e s m args below meth c Q A dC dI a ac (df_X12_breaksThere_22 n (a 15) (a 3) g4) r := by
  obtain ⟨hlt, hx, hb, hml, hown, hts, hN, hA, hK⟩ := id C
  intro x1 x2 s0 H locs ls h hP hD hS hl
  unfold df_X12_breaksThere_22 at h
  obtain ⟨z4, ez4, h⟩ := nd_let_e h
  refine lv_iinc (v := z4) (lv' := [(2, .int z4), (0, .ref (a 0)), (1, .int x1)]) hx hb dX12_breaksThere_22 hl (k := 2) rfl (by rw [ez4]) (by decide) rfl (fun ls hl => ?_)
  refine lv_goto (tgt := 4) hx hb dX12_breaksThere_25 (by decide) ?_
  exact (J4) (x1) (z4) s0 _ _ _ h hP hD hS (lv_sub hl [1, 2, 0] rfl)
set_option maxHeartbeats 40000000 in
set_option maxRecDepth 100000 in
theorem dB_X12_breaksThere_4 {p : Program} {l : Launch} {e : Env} {s : State} {m : MethodId} {args : Array Value} {below : List Frame} {meth : Method} {c : Code} {Q : State → Prop} {A : Nat → Prop} {dC : Nat → ClassId} {dI : Nat → Nat → Nat} {a : Nat → Nat} {ac : Nat → ClassId} {n : Nat} {r : Int32 × (St × Rw × (St) × (St × (St)) × (St) × (St × (St × (St × (St)))) × (St) × (St) × (Nat → St) × (Nat → St) × (Nat → St × (St)))} (C : nd_C p l s m args c A (dC, dI) cX12_breaksThere 3 RX12 ow_dm_X12_breaksThere (dk_X12 ac)) (K : nd_Ki p l e (headSpec ow_dm_X12_breaksThere ({ frames := 0, cells := 0, slots := 0, locals := 0 })).room s m args below meth c Q A (dC, dI) cX12_breaksThere .int (St × Rw × (St) × (St × (St)) × (St) × (St × (St × (St × (St)))) × (St) × (St) × (Nat → St) × (Nat → St) × (Nat → St × (St))) (dw_X12 a ac) r) {g4 : Int32 → Int32 → (St × Rw × (St) × (St × (St)) × (St) × (St × (St × (St × (St)))) × (St) × (St) × (Nat → St) × (Nat → St) × (Nat → St × (St))) → Option (Int32 × (St × Rw × (St) × (St × (St)) × (St) × (St × (St × (St × (St)))) × (St) × (St) × (Nat → St) × (Nat → St) × (Nat → St × (St))))} (J4 : dj_X12_breaksThere_4 p l e s m args below meth c Q A dC dI a ac g4 r) : dj_X12_breaksThere_4 p l e s m args below meth c Q A dC dI a ac (dF_X12_breaksThere_4 n (a 15) (a 3) g4) r := by
  obtain ⟨hlt, hx, hb, hml, hown, hts, hN, hA, hK⟩ := id C
  intro x1 x2 s0 H locs ls h hP hD hS hl
  unfold dF_X12_breaksThere_4 at h
  refine lv_iload_n hx hb dX12_breaksThere_4 rfl (lv_at hl 2 rfl) ?_
  refine lv_bipush (v := 8) hx hb dX12_breaksThere_5 (by decide) ?_
  refine lv_icmp_ge (tgt := 28) hx hb dX12_breaksThere_7 (by decide) (fun c1 => ?_) (fun c1 => ?_)
  · have h := nd_pos h c1
    refine lv_iload_n hx hb dX12_breaksThere_28 rfl (lv_at hl 1 rfl) ?_
    exact K _ _ _ _ _ _ dX12_breaksThere_29 rfl (Option.some.inj h).symm hP hD hS
  · have h := nd_neg h c1
    refine lv_aload_n hx hb dX12_breaksThere_10 rfl (lv_at hl 0 rfl) ?_
    refine va_get (D := (dC, dI)) (ci := 13) (v := .ref (a 55)) (C := RX12) (T := TX12) (N := 12) hx hb hts hi_dm_X12_breaksThere_X12 hown hK hP 0 rfl rfl 7 (by decide) (hts (.fieldLink RX12 39 "TimeMachine" "breaks" "[LTimeMachine$Condition;") (List.mem_of_getElem? (i := 1) rfl)) (fun _ h9 => h9) rfl dX12_breaksThere_11 ?_
    refine lv_iload_n hx hb dX12_breaksThere_14 rfl (lv_at hl 2 rfl) ?_
    obtain ⟨i2, h⟩ := nd_ck_e h
    refine va_aldq (i := x2) hx hb hK hP 55 45 rfl rfl i2 dX12_breaksThere_15 ?_
    cases hrj3 : s0.2.1 2 (Int32.toNatClampNeg x2) with
    | none =>
      have h := nd_mN h hrj3
      refine W.eq (g2 := F0 m 16 ls [.null]) (by first | rfl | (show F0 m _ ls (va_rf (Option.map (fun j => a (0 + j * 9 + 102)) (s0.2.1 2 (Int32.toNatClampNeg x2))) :: _) = _; rw [hrj3]; rfl)) ?_
      refine lv_ifnullN (tgt := 22) hx hb dX12_breaksThere_16 (by decide) ?_
      exact (db_X12_breaksThere_22 C K J4) (x1) (x2) s0 _ _ _ h hP hD hS (lv_sub hl [0, 1, 2] rfl)
    | some j3 =>
      have h := nd_mS h hrj3
      refine W.eq (g2 := F0 m 16 ls [.ref (a (0 + j3 * 9 + 102))]) (by first | rfl | (show F0 m _ ls (va_rf (Option.map (fun j => a (0 + j * 9 + 102)) (s0.2.1 2 (Int32.toNatClampNeg x2))) :: _) = _; rw [hrj3]; rfl)) ?_
      refine lv_ifnull hx hb dX12_breaksThere_16 ?_
      obtain ⟨z5, ez5, h⟩ := nd_let_e h
      refine lv_iinc (v := z5) (lv' := [(1, .int z5), (0, .ref (a 0)), (2, .int x2)]) hx hb dX12_breaksThere_19 hl (k := 1) rfl (by rw [ez5]) (by decide) rfl (fun ls hl => ?_)
      exact (db_X12_breaksThere_22 C K J4) (z5) (x2) s0 _ _ _ h hP hD hS (lv_sub hl [1, 0, 2] rfl)
set_option maxHeartbeats 40000000 in
set_option maxRecDepth 100000 in
theorem db_X12_breaksThere_4 {p : Program} {l : Launch} {e : Env} {s : State} {m : MethodId} {args : Array Value} {below : List Frame} {meth : Method} {c : Code} {Q : State → Prop} {A : Nat → Prop} {dC : Nat → ClassId} {dI : Nat → Nat → Nat} {a : Nat → Nat} {ac : Nat → ClassId} {n : Nat} {r : Int32 × (St × Rw × (St) × (St × (St)) × (St) × (St × (St × (St × (St)))) × (St) × (St) × (Nat → St) × (Nat → St) × (Nat → St × (St)))} (C : nd_C p l s m args c A (dC, dI) cX12_breaksThere 3 RX12 ow_dm_X12_breaksThere (dk_X12 ac)) (K : nd_Ki p l e (headSpec ow_dm_X12_breaksThere ({ frames := 0, cells := 0, slots := 0, locals := 0 })).room s m args below meth c Q A (dC, dI) cX12_breaksThere .int (St × Rw × (St) × (St × (St)) × (St) × (St × (St × (St × (St)))) × (St) × (St) × (Nat → St) × (Nat → St) × (Nat → St × (St))) (dw_X12 a ac) r) (k : Nat) : dj_X12_breaksThere_4 p l e s m args below meth c Q A dC dI a ac (df_X12_breaksThere_4 n (a 15) (a 3) k) r := by
  induction k with
  | zero => intro x1 x2 s0 H locs ls h; exact nomatch (show (none : Option (Int32 × (St × Rw × (St) × (St × (St)) × (St) × (St × (St × (St × (St)))) × (St) × (St) × (Nat → St) × (Nat → St) × (Nat → St × (St))))) = some r from h)
  | succ k ih => exact dB_X12_breaksThere_4 C K ih
set_option maxHeartbeats 40000000 in
set_option maxRecDepth 100000 in
theorem db_X12_breaksThere_0 {p : Program} {l : Launch} {e : Env} {s : State} {m : MethodId} {args : Array Value} {below : List Frame} {meth : Method} {c : Code} {Q : State → Prop} {A : Nat → Prop} {dC : Nat → ClassId} {dI : Nat → Nat → Nat} {a : Nat → Nat} {ac : Nat → ClassId} {n : Nat} {r : Int32 × (St × Rw × (St) × (St × (St)) × (St) × (St × (St × (St × (St)))) × (St) × (St) × (Nat → St) × (Nat → St) × (Nat → St × (St)))} (C : nd_C p l s m args c A (dC, dI) cX12_breaksThere 3 RX12 ow_dm_X12_breaksThere (dk_X12 ac)) (K : nd_Ki p l e (headSpec ow_dm_X12_breaksThere ({ frames := 0, cells := 0, slots := 0, locals := 0 })).room s m args below meth c Q A (dC, dI) cX12_breaksThere .int (St × Rw × (St) × (St × (St)) × (St) × (St × (St × (St × (St)))) × (St) × (St) × (Nat → St) × (Nat → St) × (Nat → St × (St))) (dw_X12 a ac) r) : dj_X12_breaksThere_0 p l e s m args below meth c Q A dC dI a ac (df_X12_breaksThere_0 n (a 15) (a 3)) r := by
  obtain ⟨hlt, hx, hb, hml, hown, hts, hN, hA, hK⟩ := id C
  intro s0 H locs ls h hP hD hS hl
  unfold df_X12_breaksThere_0 at h
  refine lv_iconst (v := 0) hx hb dX12_breaksThere_0 (by decide) ?_
  refine lv_istore_n (lv' := [(1, .int 0), (0, .ref (a 0))]) hx hb dX12_breaksThere_1 rfl hl (by decide) rfl (fun ls hl => ?_)
  refine lv_iconst (v := 0) hx hb dX12_breaksThere_2 (by decide) ?_
  refine lv_istore_n (lv' := [(2, .int 0), (1, .int 0), (0, .ref (a 0))]) hx hb dX12_breaksThere_3 rfl hl (by decide) rfl (fun ls hl => ?_)
  exact (db_X12_breaksThere_4 C K n) (0) (0) s0 _ _ _ h hP hD hS (lv_sub hl [2, 1, 0] rfl)
set_option maxHeartbeats 40000000 in
set_option maxRecDepth 100000 in
theorem dm_X12_breaksThere (l : Launch) (hlt : l.stackTraces = false) (dC : Nat → ClassId) (dI : Nat → Nat → Nat) (a : Nat → Nat) (ac : Nat → ClassId) (n : Nat) (s0 : St × Rw × (St) × (St × (St)) × (St) × (St × (St × (St × (St)))) × (St) × (St) × (Nat → St) × (Nat → St) × (Nat → St × (St))) {r : Int32 × (St × Rw × (St) × (St × (St)) × (St) × (St × (St × (St × (St)))) × (St) × (St) × (Nat → St) × (Nat → St) × (Nat → St × (St)))} (h : df_X12_breaksThere n (a 15) (a 3) s0 = some r) (sz : Nat) : Met l yX12_breaksThere ow_dm_X12_breaksThere ({ frames := 0, cells := 0, slots := 0, locals := 0 }) (va_Pc [.ref (a 0)] (fun U => U.heap.size = sz ∧ va_P (dC, dI) vwCl (dw_X12 a ac s0) U.heap ∧ va_K (dC, dI) vwCl (dk_X12 ac) U ∧ va_D (fun _ => True) (dw_X12 a ac s0) ∧ nv_E dI (va_A (dw_X12 a ac s0) sz) U)) (va_Qi (fun x _ => x = r.1) (fun (_ : Unit) t => va_P (dC, dI) vwCl (dw_X12 a ac r.2) t.heap ∧ va_K (dC, dI) vwCl (dk_X12 ac) t ∧ va_D (va_A (dw_X12 a ac s0) sz) (dw_X12 a ac r.2)) (va_A (dw_X12 a ac s0) sz)) 0 0 (va_A (dw_X12 a ac s0) sz) := by
  refine Met.ofW (cc := cX12_breaksThere) (maxL := 3) (ret := (some .int)) (by decide) rfl ?_
  intro p e s m args below meth c s₁ B hml hv
  obtain ⟨rfl, hsz, hP, hK, hD0, hN⟩ := hv
  have hx := B.exec
  have hb := B.bytes
  have hr := B.returns
  have hts := atoms_spec (ws := ow_dm_X12_breaksThere) B.pre
  have hown : s.vm.findClass RX12 = some m.cls := findClass_of_methodNamed B.named
  have hlocks := B.notSynchronized
  subst hsz
  have hD := hD0.self (sz := s.heap.size)
  generalize hAe : va_A (dw_X12 a ac s0) s.heap.size = A at hD hN ⊢
  have hA : ∀ q : Nat, s.heap.size ≤ q → A q := fun q h => by rw [← hAe]; exact Or.inr h
  have hl := lv_entry ([.ref (a 0)]) (n := 3) (Nat.le_of_ble_eq_true rfl)
  rw [lg_entry_eq]
  generalize (lg_sl ([.ref (a 0)]) ++ List.replicate (3 - (lg_sl ([.ref (a 0)])).length) Slot.unset).toArray = ls at hl ⊢
  have hl : lv_has ls 3 [(0, .ref (a 0))] := hl
  exact db_X12_breaksThere_0 (dC := dC) (dI := dI) (a := a) (ac := ac) (n := n) (r := r) ⟨hlt, hx, hb, hml, hown, hts, hN, hA, hK⟩ (fun pc v τ H locs ls d z er hP hD hS => by subst er; exact W.zret (v := v) hx hb hr z (fun t ht hW => ⟨⟨v, (), rfl, rfl, by rw [ht]; exact hP, va_K.moved hW.alike hK, hD⟩, hS.F ht⟩) hS.2.2 d) s0 _ _ _ h hP hD va_S.rf (lv_sub hl [0] rfl)
def ow_dm_X12_count : List Cond := Cond.code yX12_count cX12_count 2 (some .long) :: ([Cond.constantLong RX12 272 (-1), Cond.fieldLink RX12 33 "TimeMachine" "timeline" "LTimeMachine$Timeline;", Cond.fieldLink RX12 142 "TimeMachine$Timeline" "booted" "Z", Cond.fieldLink RX12 192 "TimeMachine$Timeline" "machine" "LTimeMachine$Machine;", Cond.methodLink RX12 277 yX6_counted, Cond.instanceMethod yX6_counted, Cond.selects RX6 yX6_counted yX6_counted, Cond.initialized RX6, Cond.methodLink RX12 274 yX11_told, Cond.instanceMethod yX11_told, Cond.selects RX11 yX11_told yX11_told, Cond.initialized RX11, Cond.methodLink RX12 269 yX12_breaksThere, Cond.instanceMethod yX12_breaksThere, Cond.selects RX12 yX12_breaksThere yX12_breaksThere, Cond.initialized RX12, Cond.fieldLink RX12 58 "TimeMachine" "taped" "I"] ++ (u_ws RX12 TX12 12 ++ (u_ws RX11 TX11 16 ++ (ow_dm_X6_counted ++ (ow_dm_X11_told ++ (ow_dm_X12_breaksThere ++ []))))))
theorem gd_dm_X12_count : ∀ w ∈ ow_dm_X12_count, (w.onTables && w.keeps) = true ∨ ∃ ty, w = Cond.arrayClass ty := List.forall_mem_cons.mpr ⟨good_of_word rfl, List.forall_mem_append.mpr ⟨fun w h => good_of_word (List.all_eq_true.mp (by decide +kernel) w h), List.forall_mem_append.mpr ⟨gu_X12, List.forall_mem_append.mpr ⟨gu_X11, List.forall_mem_append.mpr ⟨gd_dm_X6_counted, List.forall_mem_append.mpr ⟨gd_dm_X11_told, List.forall_mem_append.mpr ⟨gd_dm_X12_breaksThere, fun _ h => nomatch h⟩⟩⟩⟩⟩⟩⟩
theorem hi_dm_X12_count_X12 : ∀ w ∈ u_ws RX12 TX12 12, w ∈ ow_dm_X12_count := fun w h => List.mem_cons_of_mem _ (List.mem_append_right _ (List.mem_append_left _ h))
theorem hi_dm_X12_count_X11 : ∀ w ∈ u_ws RX11 TX11 16, w ∈ ow_dm_X12_count := fun w h => List.mem_cons_of_mem _ (List.mem_append_right _ (List.mem_append_right _ (List.mem_append_left _ h)))
theorem gi_dm_X12_count_0 : GoodIn ow_dm_X12_count (wsV RX12 277 RX6 yX6_counted ow_dm_X6_counted) := goodIn_app (goodIn_of _ (by decide +kernel)) (fun w h => ⟨List.mem_cons_of_mem _ (List.mem_append_right _ (List.mem_append_right _ (List.mem_append_right _ (List.mem_append_left _ h)))), gd_dm_X6_counted w h⟩)
theorem gi_dm_X12_count_1 : GoodIn ow_dm_X12_count (wsV RX12 274 RX11 yX11_told ow_dm_X11_told) := goodIn_app (goodIn_of _ (by decide +kernel)) (fun w h => ⟨List.mem_cons_of_mem _ (List.mem_append_right _ (List.mem_append_right _ (List.mem_append_right _ (List.mem_append_right _ (List.mem_append_left _ h))))), gd_dm_X11_told w h⟩)
theorem gi_dm_X12_count_2 : GoodIn ow_dm_X12_count (wsV RX12 269 RX12 yX12_breaksThere ow_dm_X12_breaksThere) := goodIn_app (goodIn_of _ (by decide +kernel)) (fun w h => ⟨List.mem_cons_of_mem _ (List.mem_append_right _ (List.mem_append_right _ (List.mem_append_right _ (List.mem_append_right _ (List.mem_append_right _ (List.mem_append_left _ h)))))), gd_dm_X12_breaksThere w h⟩)
def dj_X12_count_34 (p : Program) (l : Launch) (e : Env) (s : State) (m : MethodId) (args : Array Value) (below : List Frame) (meth : Method) (c : Code) (Q : State → Prop) (A : Nat → Prop) (dC : Nat → ClassId) (dI : Nat → Nat → Nat) (a : Nat → Nat) (ac : Nat → ClassId) (g : (St × Rw × (St) × (St × (St)) × (St) × (St × (St × (St × (St)))) × (St) × (St) × (Nat → St) × (Nat → St) × (Nat → St × (St))) → Option (Int64 × (St × Rw × (St) × (St × (St)) × (St) × (St × (St × (St × (St)))) × (St) × (St) × (Nat → St) × (Nat → St) × (Nat → St × (St))))) (r : Int64 × (St × Rw × (St) × (St × (St)) × (St) × (St × (St × (St × (St)))) × (St) × (St) × (Nat → St) × (Nat → St) × (Nat → St × (St)))) : Prop := ∀ (s0 : St × Rw × (St) × (St × (St)) × (St) × (St × (St × (St × (St)))) × (St) × (St) × (Nat → St) × (Nat → St) × (Nat → St × (St))) (H : Heap) (locs : List Loc) (ls : Array Slot), g s0 = some r → va_P (dC, dI) vwCl (dw_X12 a ac s0) H → va_D A (dw_X12 a ac s0) → va_S A s.heap H locs → lv_has ls 2 [] → W p l e (headSpec ow_dm_X12_count ({ frames := 3, cells := 0, slots := 0, locals := 65 })).room s m args below meth c H locs 0 0 Q (F0 m 34 ls [])
def dj_X12_count_89 (p : Program) (l : Launch) (e : Env) (s : State) (m : MethodId) (args : Array Value) (below : List Frame) (meth : Method) (c : Code) (Q : State → Prop) (A : Nat → Prop) (dC : Nat → ClassId) (dI : Nat → Nat → Nat) (a : Nat → Nat) (ac : Nat → ClassId) (g : Int64 → (St × Rw × (St) × (St × (St)) × (St) × (St × (St × (St × (St)))) × (St) × (St) × (Nat → St) × (Nat → St) × (Nat → St × (St))) → Option (Int64 × (St × Rw × (St) × (St × (St)) × (St) × (St × (St × (St × (St)))) × (St) × (St) × (Nat → St) × (Nat → St) × (Nat → St × (St))))) (r : Int64 × (St × Rw × (St) × (St × (St)) × (St) × (St × (St × (St × (St)))) × (St) × (St) × (Nat → St) × (Nat → St) × (Nat → St × (St)))) : Prop := ∀ (y0 : Int64) (s0 : St × Rw × (St) × (St × (St)) × (St) × (St × (St × (St × (St)))) × (St) × (St) × (Nat → St) × (Nat → St) × (Nat → St × (St))) (H : Heap) (locs : List Loc) (ls : Array Slot), g y0 s0 = some r → va_P (dC, dI) vwCl (dw_X12 a ac s0) H → va_D A (dw_X12 a ac s0) → va_S A s.heap H locs → lv_has ls 2 [] → W p l e (headSpec ow_dm_X12_count ({ frames := 3, cells := 0, slots := 0, locals := 65 })).room s m args below meth c H locs 0 0 Q (F0 m 89 ls [.long y0])
def dj_X12_count_60 (p : Program) (l : Launch) (e : Env) (s : State) (m : MethodId) (args : Array Value) (below : List Frame) (meth : Method) (c : Code) (Q : State → Prop) (A : Nat → Prop) (dC : Nat → ClassId) (dI : Nat → Nat → Nat) (a : Nat → Nat) (ac : Nat → ClassId) (g : Int64 → (St × Rw × (St) × (St × (St)) × (St) × (St × (St × (St × (St)))) × (St) × (St) × (Nat → St) × (Nat → St) × (Nat → St × (St))) → Option (Int64 × (St × Rw × (St) × (St × (St)) × (St) × (St × (St × (St × (St)))) × (St) × (St) × (Nat → St) × (Nat → St) × (Nat → St × (St))))) (r : Int64 × (St × Rw × (St) × (St × (St)) × (St) × (St × (St × (St × (St)))) × (St) × (St) × (Nat → St) × (Nat → St) × (Nat → St × (St)))) : Prop := ∀ (y0 : Int64) (s0 : St × Rw × (St) × (St × (St)) × (St) × (St × (St × (St × (St)))) × (St) × (St) × (Nat → St) × (Nat → St) × (Nat → St × (St))) (H : Heap) (locs : List Loc) (ls : Array Slot), g y0 s0 = some r → va_P (dC, dI) vwCl (dw_X12 a ac s0) H → va_D A (dw_X12 a ac s0) → va_S A s.heap H locs → lv_has ls 2 [] → W p l e (headSpec ow_dm_X12_count ({ frames := 3, cells := 0, slots := 0, locals := 65 })).room s m args below meth c H locs 0 0 Q (F0 m 60 ls [.long y0])
def dj_X12_count_0 (p : Program) (l : Launch) (e : Env) (s : State) (m : MethodId) (args : Array Value) (below : List Frame) (meth : Method) (c : Code) (Q : State → Prop) (A : Nat → Prop) (dC : Nat → ClassId) (dI : Nat → Nat → Nat) (a : Nat → Nat) (ac : Nat → ClassId) (g : Int32 → (St × Rw × (St) × (St × (St)) × (St) × (St × (St × (St × (St)))) × (St) × (St) × (Nat → St) × (Nat → St) × (Nat → St × (St))) → Option (Int64 × (St × Rw × (St) × (St × (St)) × (St) × (St × (St × (St × (St)))) × (St) × (St) × (Nat → St) × (Nat → St) × (Nat → St × (St))))) (r : Int64 × (St × Rw × (St) × (St × (St)) × (St) × (St × (St × (St × (St)))) × (St) × (St) × (Nat → St) × (Nat → St) × (Nat → St × (St)))) : Prop := ∀ (v0 : Int32) (s0 : St × Rw × (St) × (St × (St)) × (St) × (St × (St × (St × (St)))) × (St) × (St) × (Nat → St) × (Nat → St) × (Nat → St × (St))) (H : Heap) (locs : List Loc) (ls : Array Slot), g v0 s0 = some r → va_P (dC, dI) vwCl (dw_X12 a ac s0) H → va_D A (dw_X12 a ac s0) → va_S A s.heap H locs → lv_has ls 2 [(0, .ref (a 0)), (1, .int v0)] → W p l e (headSpec ow_dm_X12_count ({ frames := 3, cells := 0, slots := 0, locals := 65 })).room s m args below meth c H locs 0 0 Q (F0 m 0 ls [])
set_option maxHeartbeats 40000000 in
set_option maxRecDepth 100000 in
theorem db_X12_count_34 {p : Program} {l : Launch} {e : Env} {s : State} {m : MethodId} {args : Array Value} {below : List Frame} {meth : Method} {c : Code} {Q : State → Prop} {A : Nat → Prop} {dC : Nat → ClassId} {dI : Nat → Nat → Nat} {a : Nat → Nat} {ac : Nat → ClassId} {n : Nat} {r : Int64 × (St × Rw × (St) × (St × (St)) × (St) × (St × (St × (St × (St)))) × (St) × (St) × (Nat → St) × (Nat → St) × (Nat → St × (St)))} (C : nd_C p l s m args c A (dC, dI) cX12_count 2 RX12 ow_dm_X12_count (dk_X12 ac)) (K : nd_Kl p l e (headSpec ow_dm_X12_count ({ frames := 3, cells := 0, slots := 0, locals := 65 })).room s m args below meth c Q A (dC, dI) cX12_count (St × Rw × (St) × (St × (St)) × (St) × (St × (St × (St × (St)))) × (St) × (St) × (Nat → St) × (Nat → St) × (Nat → St × (St))) (dw_X12 a ac) r) : dj_X12_count_34 p l e s m args below meth c Q A dC dI a ac (df_X12_count_34 n (a 15) (a 3)) r := by
  obtain ⟨hlt, hx, hb, hml, hown, hts, hN, hA, hK⟩ := id C
  intro s0 H locs ls h hP hD hS hl
  unfold df_X12_count_34 at h
  refine lv_ldc2 hx hb hown (hts (.constantLong RX12 272 (-1)) (List.mem_of_getElem? (i := 1) rfl)) dX12_count_34 ?_
  exact K _ _ _ _ _ _ dX12_count_37 (Option.some.inj h).symm hP hD hS
set_option maxHeartbeats 40000000 in
set_option maxRecDepth 100000 in
theorem db_X12_count_89 {p : Program} {l : Launch} {e : Env} {s : State} {m : MethodId} {args : Array Value} {below : List Frame} {meth : Method} {c : Code} {Q : State → Prop} {A : Nat → Prop} {dC : Nat → ClassId} {dI : Nat → Nat → Nat} {a : Nat → Nat} {ac : Nat → ClassId} {n : Nat} {r : Int64 × (St × Rw × (St) × (St × (St)) × (St) × (St × (St × (St × (St)))) × (St) × (St) × (Nat → St) × (Nat → St) × (Nat → St × (St)))} (C : nd_C p l s m args c A (dC, dI) cX12_count 2 RX12 ow_dm_X12_count (dk_X12 ac)) (K : nd_Kl p l e (headSpec ow_dm_X12_count ({ frames := 3, cells := 0, slots := 0, locals := 65 })).room s m args below meth c Q A (dC, dI) cX12_count (St × Rw × (St) × (St × (St)) × (St) × (St × (St × (St × (St)))) × (St) × (St) × (Nat → St) × (Nat → St) × (Nat → St × (St))) (dw_X12 a ac) r) : dj_X12_count_89 p l e s m args below meth c Q A dC dI a ac (df_X12_count_89 n (a 15) (a 3)) r := by
  obtain ⟨hlt, hx, hb, hml, hown, hts, hN, hA, hK⟩ := id C
  intro y0 s0 H locs ls h hP hD hS hl
  unfold df_X12_count_89 at h
  exact K _ _ _ _ _ _ dX12_count_89 (Option.some.inj h).symm hP hD hS
set_option maxHeartbeats 40000000 in
set_option maxRecDepth 100000 in
theorem db_X12_count_60 {p : Program} {l : Launch} {e : Env} {s : State} {m : MethodId} {args : Array Value} {below : List Frame} {meth : Method} {c : Code} {Q : State → Prop} {A : Nat → Prop} {dC : Nat → ClassId} {dI : Nat → Nat → Nat} {a : Nat → Nat} {ac : Nat → ClassId} {n : Nat} {r : Int64 × (St × Rw × (St) × (St × (St)) × (St) × (St × (St × (St × (St)))) × (St) × (St) × (Nat → St) × (Nat → St) × (Nat → St × (St)))} (C : nd_C p l s m args c A (dC, dI) cX12_count 2 RX12 ow_dm_X12_count (dk_X12 ac)) (K : nd_Kl p l e (headSpec ow_dm_X12_count ({ frames := 3, cells := 0, slots := 0, locals := 65 })).room s m args below meth c Q A (dC, dI) cX12_count (St × Rw × (St) × (St × (St)) × (St) × (St × (St × (St × (St)))) × (St) × (St) × (Nat → St) × (Nat → St) × (Nat → St × (St))) (dw_X12 a ac) r) : dj_X12_count_60 p l e s m args below meth c Q A dC dI a ac (df_X12_count_60 n (a 15) (a 3)) r := by
  obtain ⟨hlt, hx, hb, hml, hown, hts, hN, hA, hK⟩ := id C
  intro y0 s0 H locs ls h hP hD hS hl
  unfold df_X12_count_60 at h
  exact K _ _ _ _ _ _ dX12_count_60 (Option.some.inj h).symm hP hD hS
set_option maxHeartbeats 40000000 in
set_option maxRecDepth 100000 in
theorem db_X12_count_0 {p : Program} {l : Launch} {e : Env} {s : State} {m : MethodId} {args : Array Value} {below : List Frame} {meth : Method} {c : Code} {Q : State → Prop} {A : Nat → Prop} {dC : Nat → ClassId} {dI : Nat → Nat → Nat} {a : Nat → Nat} {ac : Nat → ClassId} {n : Nat} {r : Int64 × (St × Rw × (St) × (St × (St)) × (St) × (St × (St × (St × (St)))) × (St) × (St) × (Nat → St) × (Nat → St) × (Nat → St × (St)))} (C : nd_C p l s m args c A (dC, dI) cX12_count 2 RX12 ow_dm_X12_count (dk_X12 ac)) (K : nd_Kl p l e (headSpec ow_dm_X12_count ({ frames := 3, cells := 0, slots := 0, locals := 65 })).room s m args below meth c Q A (dC, dI) cX12_count (St × Rw × (St) × (St × (St)) × (St) × (St × (St × (St × (St)))) × (St) × (St) × (Nat → St) × (Nat → St) × (Nat → St × (St))) (dw_X12 a ac) r) : dj_X12_count_0 p l e s m args below meth c Q A dC dI a ac (df_X12_count_0 n (a 15) (a 3)) r := by
  obtain ⟨hlt, hx, hb, hml, hown, hts, hN, hA, hK⟩ := id C
  intro v0 s0 H locs ls h hP hD hS hl
  unfold df_X12_count_0 at h
  refine lv_iload_n hx hb dX12_count_0 rfl (lv_at hl 1 rfl) ?_
  refine lv_bipush (v := 15) hx hb dX12_count_1 (by decide) ?_
  refine lv_icmp_ne (tgt := 12) hx hb dX12_count_3 (by decide) (fun c1 => ?_) (fun c1 => ?_)
  · have h := nd_neg h c1
    refine lv_iload_n hx hb dX12_count_12 rfl (lv_at hl 1 rfl) ?_
    refine lv_bipush (v := 16) hx hb dX12_count_13 (by decide) ?_
    refine lv_icmp_ne (tgt := 24) hx hb dX12_count_15 (by decide) (fun c2 => ?_) (fun c2 => ?_)
    · have h := nd_neg h c2
      refine lv_iload_n hx hb dX12_count_24 rfl (lv_at hl 1 rfl) ?_
      refine lv_if_lt (tgt := 34) hx hb dX12_count_25 (by decide) (fun c3 => ?_) (fun c3 => ?_)
      · have h := nd_pos h c3
        exact (db_X12_count_34 C K)  s0 _ _ _ h hP hD hS (lv_sub hl [] rfl)
      · have h := nd_neg h c3
        refine lv_iload_n hx hb dX12_count_28 rfl (lv_at hl 1 rfl) ?_
        refine lv_bipush (v := 14) hx hb dX12_count_29 (by decide) ?_
        refine lv_icmp_le (tgt := 38) hx hb dX12_count_31 (by decide) (fun c4 => ?_) (fun c4 => ?_)
        · have h := nd_pos h c4
          refine lv_aload_n hx hb dX12_count_38 rfl (lv_at hl 0 rfl) ?_
          refine va_get (D := (dC, dI)) (ci := 13) (v := .ref (a 16)) (C := RX12) (T := TX12) (N := 12) hx hb hts hi_dm_X12_count_X12 hown hK hP 0 rfl rfl 6 (by decide) (hts (.fieldLink RX12 33 "TimeMachine" "timeline" "LTimeMachine$Timeline;") (List.mem_of_getElem? (i := 2) rfl)) (fun _ h9 => h9) rfl dX12_count_39 ?_
          refine va_get (D := (dC, dI)) (ci := 12) (v := .int (sI s0.2.2.2.2.1 0)) (C := RX11) (T := TX11) (N := 16) hx hb hts hi_dm_X12_count_X11 hown hK hP 16 rfl rfl 6 (by decide) (hts (.fieldLink RX12 142 "TimeMachine$Timeline" "booted" "Z") (List.mem_of_getElem? (i := 3) rfl)) (fun _ h9 => h9) rfl dX12_count_42 ?_
          refine lv_if_ne (tgt := 61) hx hb dX12_count_45 (by decide) (fun c5 => ?_) (fun c5 => ?_)
          · have h := nd_neg h c5
            refine lv_iload_n hx hb dX12_count_61 rfl (lv_at hl 1 rfl) ?_
            refine lv_bipush (v := 6) hx hb dX12_count_62 (by decide) ?_
            refine lv_icmp_ge (tgt := 78) hx hb dX12_count_64 (by decide) (fun c6 => ?_) (fun c6 => ?_)
            · have h := nd_pos h c6
              refine lv_aload_n hx hb dX12_count_78 rfl (lv_at hl 0 rfl) ?_
              refine va_get (D := (dC, dI)) (ci := 13) (v := .ref (a 16)) (C := RX12) (T := TX12) (N := 12) hx hb hts hi_dm_X12_count_X12 hown hK hP 0 rfl rfl 6 (by decide) (hts (.fieldLink RX12 33 "TimeMachine" "timeline" "LTimeMachine$Timeline;") (List.mem_of_getElem? (i := 2) rfl)) (fun _ h9 => h9) rfl dX12_count_79 ?_
              refine va_get (D := (dC, dI)) (ci := 12) (v := .ref (a 23)) (C := RX11) (T := TX11) (N := 16) hx hb hts hi_dm_X12_count_X11 hown hK hP 16 rfl rfl 3 (by decide) (hts (.fieldLink RX12 192 "TimeMachine$Timeline" "machine" "LTimeMachine$Machine;") (List.mem_of_getElem? (i := 4) rfl)) (fun _ h9 => h9) rfl dX12_count_82 ?_
              refine lv_iload_n hx hb dX12_count_85 rfl (lv_at hl 1 rfl) ?_
              obtain ⟨q7, s8, hq, h⟩ := nd_b2_e h
              have hPc := dp_wX12_X6_17 hP
              have hDc := dd_wX12_X6_17 hD
              have hKc := dy_wX12_X6_17 hK
              have hFc := nd_rs hDc hS hA
              have hzA : ∀ q : Nat, H.size ≤ q → A q := fun q h => hA q (Nat.le_trans hS.1 h)
              refine nd_cVl (As := [.int v0]) (rest := []) (q := q7) (w' := dw_X6 (fun k => a (k + 23)) (fun k => ac (k + 23)) s8) ⟨hx, hb, hml, hown, hts⟩ (fun sz => dm_X6_counted l hlt dC dI (fun k => a (k + 23)) (fun k => ac (k + 23)) n (v0) s0.2.2.2.2.2.1.2.2 hq sz) (cwV 1 hts gi_dm_X12_count_0 rfl rfl rfl (by decide +kernel) ⟨Nat.le_of_ble_eq_true rfl, Nat.le_of_ble_eq_true rfl⟩) hPc hDc hKc hS hA hN (va_recv hKc hPc (ci := 7) (q0 := 0) rfl rfl) rfl hl.1 rfl (Nat.le_of_ble_eq_true rfl) dX12_count_86 (fun H locs hP1 hD1 hk1 hS => ?_)
              obtain ⟨hP, hD⟩ := dn_wX12_X6_17 hP hD hzA hk1 hP1 hD1
              obtain ⟨s10, es10, h⟩ := nd_let_e h
              have hP : va_P (dC, dI) vwCl (dw_X12 a ac s10) H := by rw [es10]; exact hP
              have hD : va_D A (dw_X12 a ac s10) := by rw [es10]; exact hD
              exact (db_X12_count_89 C K) (q7) s10 _ _ _ h hP hD hS (lv_sub hl [] rfl)
            · have h := nd_neg h c6
              refine lv_aload_n hx hb dX12_count_67 rfl (lv_at hl 0 rfl) ?_
              refine va_get (D := (dC, dI)) (ci := 13) (v := .ref (a 16)) (C := RX12) (T := TX12) (N := 12) hx hb hts hi_dm_X12_count_X12 hown hK hP 0 rfl rfl 6 (by decide) (hts (.fieldLink RX12 33 "TimeMachine" "timeline" "LTimeMachine$Timeline;") (List.mem_of_getElem? (i := 2) rfl)) (fun _ h9 => h9) rfl dX12_count_68 ?_
              refine lv_iload_n hx hb dX12_count_71 rfl (lv_at hl 1 rfl) ?_
              obtain ⟨q11, s12, hq, h⟩ := nd_b2_e h
              have hPc := dp_wX12_X11_12 hP
              have hDc := dd_wX12_X11_12 hD
              have hKc := dy_wX12_X11_12 hK
              have hFc := nd_rs hDc hS hA
              have hzA : ∀ q : Nat, H.size ≤ q → A q := fun q h => hA q (Nat.le_trans hS.1 h)
              refine nd_cVl (As := [.int v0]) (rest := []) (q := q11) (w' := dw_X11 (fun k => a (k + 16)) (fun k => ac (k + 16)) s12) ⟨hx, hb, hml, hown, hts⟩ (fun sz => dm_X11_told l hlt dC dI (fun k => a (k + 16)) (fun k => ac (k + 16)) n (v0) (s0.2.2.2.2.1, s0.2.1, s0.2.2.2.2.2.1, s0.2.2.2.2.2.2.1, s0.2.2.2.2.2.2.2.1, s0.2.2.2.2.2.2.2.2.1, s0.2.2.2.2.2.2.2.2.2.1, s0.2.2.2.2.2.2.2.2.2.2) hq sz) (cwV 1 hts gi_dm_X12_count_1 rfl rfl rfl (by decide +kernel) ⟨Nat.le_of_ble_eq_true rfl, Nat.le_of_ble_eq_true rfl⟩) hPc hDc hKc hS hA hN (va_recv hKc hPc (ci := 12) (q0 := 0) rfl rfl) rfl hl.1 rfl (Nat.le_of_ble_eq_true rfl) dX12_count_72 (fun H locs hP1 hD1 hk1 hS => ?_)
              obtain ⟨hP, hD⟩ := dn_wX12_X11_12 hP hD hzA hk1 hP1 hD1
              obtain ⟨s14, es14, h⟩ := nd_let_e h
              have hP : va_P (dC, dI) vwCl (dw_X12 a ac s14) H := by rw [es14]; exact hP
              have hD : va_D A (dw_X12 a ac s14) := by rw [es14]; exact hD
              refine lv_goto (tgt := 89) hx hb dX12_count_75 (by decide) ?_
              exact (db_X12_count_89 C K) (q11) s14 _ _ _ h hP hD hS (lv_sub hl [] rfl)
          · have h := nd_pos h c5
            refine lv_iload_n hx hb dX12_count_48 rfl (lv_at hl 1 rfl) ?_
            refine lv_iconst (v := 2) hx hb dX12_count_49 (by decide) ?_
            refine lv_icmp_ne (tgt := 59) hx hb dX12_count_50 (by decide) (fun c15 => ?_) (fun c15 => ?_)
            · have h := nd_neg h c15
              refine lv_lconst (v := 0) hx hb dX12_count_59 (by decide) ?_
              exact (db_X12_count_60 C K) (0) s0 _ _ _ h hP hD hS (lv_sub hl [] rfl)
            · have h := nd_pos h c15
              refine lv_ldc2 hx hb hown (hts (.constantLong RX12 272 (-1)) (List.mem_of_getElem? (i := 1) rfl)) dX12_count_53 ?_
              refine lv_goto (tgt := 60) hx hb dX12_count_56 (by decide) ?_
              exact (db_X12_count_60 C K) ((-1)) s0 _ _ _ h hP hD hS (lv_sub hl [] rfl)
        · have h := nd_neg h c4
          exact (db_X12_count_34 C K)  s0 _ _ _ h hP hD hS (lv_sub hl [] rfl)
    · have h := nd_pos h c2
      refine lv_aload_n hx hb dX12_count_18 rfl (lv_at hl 0 rfl) ?_
      obtain ⟨q16, s17, hq, h⟩ := nd_b2_e h
      have hPc := hP
      have hDc := hD
      have hKc := hK
      have hFc := nd_rs hD hS hA
      refine nd_cVi (As := []) (rest := []) (q := q16) (w' := dw_X12 a ac s17) ⟨hx, hb, hml, hown, hts⟩ (fun sz => dm_X12_breaksThere l hlt dC dI a ac n  s0 hq sz) (cwV 0 hts gi_dm_X12_count_2 rfl rfl rfl (by decide +kernel) ⟨Nat.le_of_ble_eq_true rfl, Nat.le_of_ble_eq_true rfl⟩) hPc hDc hKc hS hA hN (va_recv hKc hPc (ci := 13) (q0 := 0) rfl rfl) rfl hl.1 rfl (Nat.le_of_ble_eq_true rfl) dX12_count_19 (fun H locs hP1 hD1 hk1 hS => ?_)
      have hP := hP1
      have hD := hD1.weaken (fun k q _ h => hFc q.1 h)
      refine lv_i2l hx hb dX12_count_22 rfl ?_
      exact K _ _ _ _ _ _ dX12_count_23 (Option.some.inj h).symm hP hD hS
  · have h := nd_pos h c1
    refine lv_aload_n hx hb dX12_count_6 rfl (lv_at hl 0 rfl) ?_
    refine va_get (D := (dC, dI)) (ci := 13) (v := .int (sI s0.1 0)) (C := RX12) (T := TX12) (N := 12) hx hb hts hi_dm_X12_count_X12 hown hK hP 0 rfl rfl 1 (by decide) (hts (.fieldLink RX12 58 "TimeMachine" "taped" "I") (List.mem_of_getElem? (i := 17) rfl)) (fun _ h9 => h9) rfl dX12_count_7 ?_
    refine lv_i2l hx hb dX12_count_10 rfl ?_
    exact K _ _ _ _ _ _ dX12_count_11 (Option.some.inj h).symm hP hD hS
set_option maxHeartbeats 40000000 in
set_option maxRecDepth 100000 in
theorem dm_X12_count (l : Launch) (hlt : l.stackTraces = false) (dC : Nat → ClassId) (dI : Nat → Nat → Nat) (a : Nat → Nat) (ac : Nat → ClassId) (n : Nat) (v0 : Int32) (s0 : St × Rw × (St) × (St × (St)) × (St) × (St × (St × (St × (St)))) × (St) × (St) × (Nat → St) × (Nat → St) × (Nat → St × (St))) {r : Int64 × (St × Rw × (St) × (St × (St)) × (St) × (St × (St × (St × (St)))) × (St) × (St) × (Nat → St) × (Nat → St) × (Nat → St × (St)))} (h : df_X12_count n (a 15) (a 3) v0 s0 = some r) (sz : Nat) : Met l yX12_count ow_dm_X12_count ({ frames := 3, cells := 0, slots := 0, locals := 65 }) (va_Pc [.ref (a 0), .int v0] (fun U => U.heap.size = sz ∧ va_P (dC, dI) vwCl (dw_X12 a ac s0) U.heap ∧ va_K (dC, dI) vwCl (dk_X12 ac) U ∧ va_D (fun _ => True) (dw_X12 a ac s0) ∧ nv_E dI (va_A (dw_X12 a ac s0) sz) U)) (va_Ql (fun x _ => x = r.1) (fun (_ : Unit) t => va_P (dC, dI) vwCl (dw_X12 a ac r.2) t.heap ∧ va_K (dC, dI) vwCl (dk_X12 ac) t ∧ va_D (va_A (dw_X12 a ac s0) sz) (dw_X12 a ac r.2)) (va_A (dw_X12 a ac s0) sz)) 0 0 (va_A (dw_X12 a ac s0) sz) := by
  refine Met.ofW (cc := cX12_count) (maxL := 2) (ret := (some .long)) (by decide) rfl ?_
  intro p e s m args below meth c s₁ B hml hv
  obtain ⟨rfl, hsz, hP, hK, hD0, hN⟩ := hv
  have hx := B.exec
  have hb := B.bytes
  have hr := B.returns
  have hts := atoms_spec (ws := ow_dm_X12_count) B.pre
  have hown : s.vm.findClass RX12 = some m.cls := findClass_of_methodNamed B.named
  have hlocks := B.notSynchronized
  subst hsz
  have hD := hD0.self (sz := s.heap.size)
  generalize hAe : va_A (dw_X12 a ac s0) s.heap.size = A at hD hN ⊢
  have hA : ∀ q : Nat, s.heap.size ≤ q → A q := fun q h => by rw [← hAe]; exact Or.inr h
  have hl := lv_entry ([.ref (a 0), .int v0]) (n := 2) (Nat.le_of_ble_eq_true rfl)
  rw [lg_entry_eq]
  generalize (lg_sl ([.ref (a 0), .int v0]) ++ List.replicate (2 - (lg_sl ([.ref (a 0), .int v0])).length) Slot.unset).toArray = ls at hl ⊢
  have hl : lv_has ls 2 [(0, .ref (a 0)), (1, .int v0)] := hl
  exact db_X12_count_0 (dC := dC) (dI := dI) (a := a) (ac := ac) (n := n) (r := r) ⟨hlt, hx, hb, hml, hown, hts, hN, hA, hK⟩ (fun pc v τ H locs ls d er hP hD hS => by subst er; exact W.lret (v := v) hx hb hr (fun t ht hW => ⟨⟨v, (), rfl, rfl, by rw [ht]; exact hP, va_K.moved hW.alike hK, hD⟩, hS.F ht⟩) hS.2.2 d) v0 s0 _ _ _ h hP hD va_S.rf (lv_sub hl [0, 1] rfl)
set_option maxHeartbeats 40000000 in
set_option maxRecDepth 100000 in
theorem de_wX12_X3s_19 {a : Nat → Nat} {ac : Nat → ClassId} {τ : St × (St)} : ([dw_LG (fun k => a (k + 3)) (fun k => ac (k + 3)) τ.1, dw_X3c (fun k => a (k + 43)) (fun k => ac (k + 43)) (τ.2)] : List va_W).flatten = dw_X3s (fun k => a (if k < 1 then k + 3 else k - 1 + 43)) (fun k => ac (if k < 1 then k + 3 else k - 1 + 43)) τ := by
  first
  | (simp only [List.flatten_cons, List.flatten_nil, List.append_nil]; done)
  | (simp only [List.flatten_cons, List.flatten_nil, List.append_nil]; rfl)
set_option maxHeartbeats 40000000 in
set_option maxRecDepth 100000 in
theorem dp_wX12_X3s_19 {D : va_G} {H : Heap} {a : Nat → Nat} {ac : Nat → ClassId} {σ : St × Rw × (St) × (St × (St)) × (St) × (St × (St × (St × (St)))) × (St) × (St) × (Nat → St) × (Nat → St) × (Nat → St × (St))} (h : va_P D vwCl (dw_X12 a ac σ) H) : va_P D vwCl (dw_X3s (fun k => a (if k < 1 then k + 3 else k - 1 + 43)) (fun k => ac (if k < 1 then k + 3 else k - 1 + 43)) (σ.2.2.1, σ.2.2.2.2.2.2.1)) H := by
  have h2 := nd_vp (segs := dg_X12 a ac σ) (ix := [3, 12]) (old := [dw_LG (fun k => a (k + 3)) (fun k => ac (k + 3)) (σ.2.2.1), dw_X3c (fun k => a (k + 43)) (fun k => ac (k + 43)) (σ.2.2.2.2.2.2.1)]) h (nd_co rfl (nd_co rfl rfl))
  have e := de_wX12_X3s_19 (a := a) (ac := ac) (τ := (σ.2.2.1, σ.2.2.2.2.2.2.1))
  exact e ▸ h2
set_option maxHeartbeats 40000000 in
set_option maxRecDepth 100000 in
theorem dd_wX12_X3s_19 {A : Nat → Prop} {a : Nat → Nat} {ac : Nat → ClassId} {σ : St × Rw × (St) × (St × (St)) × (St) × (St × (St × (St × (St)))) × (St) × (St) × (Nat → St) × (Nat → St) × (Nat → St × (St))} (h : va_D A (dw_X12 a ac σ)) : va_D A (dw_X3s (fun k => a (if k < 1 then k + 3 else k - 1 + 43)) (fun k => ac (if k < 1 then k + 3 else k - 1 + 43)) (σ.2.2.1, σ.2.2.2.2.2.2.1)) := by
  have h2 := nd_vd (segs := dg_X12 a ac σ) (ix := [3, 12]) (old := [dw_LG (fun k => a (k + 3)) (fun k => ac (k + 3)) (σ.2.2.1), dw_X3c (fun k => a (k + 43)) (fun k => ac (k + 43)) (σ.2.2.2.2.2.2.1)]) h (nd_co rfl (nd_co rfl rfl)) (by decide)
  have e := de_wX12_X3s_19 (a := a) (ac := ac) (τ := (σ.2.2.1, σ.2.2.2.2.2.2.1))
  exact e ▸ h2
set_option maxHeartbeats 40000000 in
set_option maxRecDepth 100000 in
theorem dy_wX12_X3s_19 {D : va_G} {U : State} {ac : Nat → ClassId} (h : va_K D vwCl (dk_X12 ac) U) : va_K D vwCl (dk_X3s (fun k => ac (if k < 1 then k + 3 else k - 1 + 43))) U := (va_K.app (h.sub [2] rfl) (h.sub [35, 36, 37, 38] rfl))
set_option maxHeartbeats 40000000 in
set_option maxRecDepth 100000 in
theorem dn_wX12_X3s_19 {A0 : Nat → Prop} {D : va_G} {H H1 : Heap} {a : Nat → Nat} {ac : Nat → ClassId} {σ : St × Rw × (St) × (St × (St)) × (St) × (St × (St × (St × (St)))) × (St) × (St) × (Nat → St) × (Nat → St) × (Nat → St × (St))} {τ : St × (St)} (hP : va_P D vwCl (dw_X12 a ac σ) H) (hD : va_D A0 (dw_X12 a ac σ)) (hA : ∀ q : Nat, H.size ≤ q → A0 q) (hk : ∀ q : Nat, q < H.size → ¬ va_A (dw_X3s (fun k => a (if k < 1 then k + 3 else k - 1 + 43)) (fun k => ac (if k < 1 then k + 3 else k - 1 + 43)) (σ.2.2.1, σ.2.2.2.2.2.2.1)) H.size q → H1[q]? = H[q]?) (h1 : va_P D vwCl (dw_X3s (fun k => a (if k < 1 then k + 3 else k - 1 + 43)) (fun k => ac (if k < 1 then k + 3 else k - 1 + 43)) τ) H1) (h2 : va_D (va_A (dw_X3s (fun k => a (if k < 1 then k + 3 else k - 1 + 43)) (fun k => ac (if k < 1 then k + 3 else k - 1 + 43)) (σ.2.2.1, σ.2.2.2.2.2.2.1)) H.size) (dw_X3s (fun k => a (if k < 1 then k + 3 else k - 1 + 43)) (fun k => ac (if k < 1 then k + 3 else k - 1 + 43)) τ)) : va_P D vwCl (dw_X12 a ac ((σ.1, (σ.2.1, (τ.1, σ.2.2.2))).1, ((σ.1, (σ.2.1, (τ.1, σ.2.2.2))).2.1, ((σ.1, (σ.2.1, (τ.1, σ.2.2.2))).2.2.1, ((σ.1, (σ.2.1, (τ.1, σ.2.2.2))).2.2.2.1, ((σ.1, (σ.2.1, (τ.1, σ.2.2.2))).2.2.2.2.1, ((σ.1, (σ.2.1, (τ.1, σ.2.2.2))).2.2.2.2.2.1, (τ.2, (σ.1, (σ.2.1, (τ.1, σ.2.2.2))).2.2.2.2.2.2.2)))))))) H1 ∧ va_D A0 (dw_X12 a ac ((σ.1, (σ.2.1, (τ.1, σ.2.2.2))).1, ((σ.1, (σ.2.1, (τ.1, σ.2.2.2))).2.1, ((σ.1, (σ.2.1, (τ.1, σ.2.2.2))).2.2.1, ((σ.1, (σ.2.1, (τ.1, σ.2.2.2))).2.2.2.1, ((σ.1, (σ.2.1, (τ.1, σ.2.2.2))).2.2.2.2.1, ((σ.1, (σ.2.1, (τ.1, σ.2.2.2))).2.2.2.2.2.1, (τ.2, (σ.1, (σ.2.1, (τ.1, σ.2.2.2))).2.2.2.2.2.2.2)))))))) := by
  have eo := de_wX12_X3s_19 (a := a) (ac := ac) (τ := (σ.2.2.1, σ.2.2.2.2.2.2.1))
  have en := de_wX12_X3s_19 (a := a) (ac := ac) (τ := τ)
  have h := nd_vn (segs := dg_X12 a ac σ) (ix := [3, 12]) (old := [dw_LG (fun k => a (k + 3)) (fun k => ac (k + 3)) (σ.2.2.1), dw_X3c (fun k => a (k + 43)) (fun k => ac (k + 43)) (σ.2.2.2.2.2.2.1)]) (new := [dw_LG (fun k => a (k + 3)) (fun k => ac (k + 3)) τ.1, dw_X3c (fun k => a (k + 43)) (fun k => ac (k + 43)) (τ.2)]) hP hD (nd_co rfl (nd_co rfl rfl)) rfl (fun q z y => hk q z (fun w => y (eo ▸ w))) (en ▸ h1)
  have ee : nd_sets (dg_X12 a ac σ) [3, 12] [dw_LG (fun k => a (k + 3)) (fun k => ac (k + 3)) τ.1, dw_X3c (fun k => a (k + 43)) (fun k => ac (k + 43)) (τ.2)] = dg_X12 a ac ((σ.1, (σ.2.1, (τ.1, σ.2.2.2))).1, ((σ.1, (σ.2.1, (τ.1, σ.2.2.2))).2.1, ((σ.1, (σ.2.1, (τ.1, σ.2.2.2))).2.2.1, ((σ.1, (σ.2.1, (τ.1, σ.2.2.2))).2.2.2.1, ((σ.1, (σ.2.1, (τ.1, σ.2.2.2))).2.2.2.2.1, ((σ.1, (σ.2.1, (τ.1, σ.2.2.2))).2.2.2.2.2.1, (τ.2, (σ.1, (σ.2.1, (τ.1, σ.2.2.2))).2.2.2.2.2.2.2))))))) := rfl
  have hz : va_P D vwCl (dg_X12 a ac ((σ.1, (σ.2.1, (τ.1, σ.2.2.2))).1, ((σ.1, (σ.2.1, (τ.1, σ.2.2.2))).2.1, ((σ.1, (σ.2.1, (τ.1, σ.2.2.2))).2.2.1, ((σ.1, (σ.2.1, (τ.1, σ.2.2.2))).2.2.2.1, ((σ.1, (σ.2.1, (τ.1, σ.2.2.2))).2.2.2.2.1, ((σ.1, (σ.2.1, (τ.1, σ.2.2.2))).2.2.2.2.2.1, (τ.2, (σ.1, (σ.2.1, (τ.1, σ.2.2.2))).2.2.2.2.2.2.2)))))))).flatten H1 := by rw [← ee]; exact h
  exact ⟨hz, nd_Da hD dA_X12⟩
set_option maxHeartbeats 40000000 in
set_option maxRecDepth 100000 in
theorem de_wX12_X3s_20 {a : Nat → Nat} {ac : Nat → ClassId} {τ : St × (St)} : ([dw_LG (fun k => a (k + 3)) (fun k => ac (k + 3)) τ.1, dw_X3c (fun k => a (k + 48)) (fun k => ac (k + 48)) (τ.2)] : List va_W).flatten = dw_X3s (fun k => a (if k < 1 then k + 3 else k - 1 + 48)) (fun k => ac (if k < 1 then k + 3 else k - 1 + 48)) τ := by
  first
  | (simp only [List.flatten_cons, List.flatten_nil, List.append_nil]; done)
  | (simp only [List.flatten_cons, List.flatten_nil, List.append_nil]; rfl)
set_option maxHeartbeats 40000000 in
set_option maxRecDepth 100000 in
theorem dp_wX12_X3s_20 {D : va_G} {H : Heap} {a : Nat → Nat} {ac : Nat → ClassId} {σ : St × Rw × (St) × (St × (St)) × (St) × (St × (St × (St × (St)))) × (St) × (St) × (Nat → St) × (Nat → St) × (Nat → St × (St))} (h : va_P D vwCl (dw_X12 a ac σ) H) : va_P D vwCl (dw_X3s (fun k => a (if k < 1 then k + 3 else k - 1 + 48)) (fun k => ac (if k < 1 then k + 3 else k - 1 + 48)) (σ.2.2.1, σ.2.2.2.2.2.2.2.1)) H := by
  have h2 := nd_vp (segs := dg_X12 a ac σ) (ix := [3, 13]) (old := [dw_LG (fun k => a (k + 3)) (fun k => ac (k + 3)) (σ.2.2.1), dw_X3c (fun k => a (k + 48)) (fun k => ac (k + 48)) (σ.2.2.2.2.2.2.2.1)]) h (nd_co rfl (nd_co rfl rfl))
  have e := de_wX12_X3s_20 (a := a) (ac := ac) (τ := (σ.2.2.1, σ.2.2.2.2.2.2.2.1))
  exact e ▸ h2
set_option maxHeartbeats 40000000 in
set_option maxRecDepth 100000 in
theorem dd_wX12_X3s_20 {A : Nat → Prop} {a : Nat → Nat} {ac : Nat → ClassId} {σ : St × Rw × (St) × (St × (St)) × (St) × (St × (St × (St × (St)))) × (St) × (St) × (Nat → St) × (Nat → St) × (Nat → St × (St))} (h : va_D A (dw_X12 a ac σ)) : va_D A (dw_X3s (fun k => a (if k < 1 then k + 3 else k - 1 + 48)) (fun k => ac (if k < 1 then k + 3 else k - 1 + 48)) (σ.2.2.1, σ.2.2.2.2.2.2.2.1)) := by
  have h2 := nd_vd (segs := dg_X12 a ac σ) (ix := [3, 13]) (old := [dw_LG (fun k => a (k + 3)) (fun k => ac (k + 3)) (σ.2.2.1), dw_X3c (fun k => a (k + 48)) (fun k => ac (k + 48)) (σ.2.2.2.2.2.2.2.1)]) h (nd_co rfl (nd_co rfl rfl)) (by decide)
  have e := de_wX12_X3s_20 (a := a) (ac := ac) (τ := (σ.2.2.1, σ.2.2.2.2.2.2.2.1))
  exact e ▸ h2
set_option maxHeartbeats 40000000 in
set_option maxRecDepth 100000 in
theorem dy_wX12_X3s_20 {D : va_G} {U : State} {ac : Nat → ClassId} (h : va_K D vwCl (dk_X12 ac) U) : va_K D vwCl (dk_X3s (fun k => ac (if k < 1 then k + 3 else k - 1 + 48))) U := (va_K.app (h.sub [2] rfl) (h.sub [39, 40, 41, 42] rfl))
set_option maxHeartbeats 40000000 in
set_option maxRecDepth 100000 in
theorem dn_wX12_X3s_20 {A0 : Nat → Prop} {D : va_G} {H H1 : Heap} {a : Nat → Nat} {ac : Nat → ClassId} {σ : St × Rw × (St) × (St × (St)) × (St) × (St × (St × (St × (St)))) × (St) × (St) × (Nat → St) × (Nat → St) × (Nat → St × (St))} {τ : St × (St)} (hP : va_P D vwCl (dw_X12 a ac σ) H) (hD : va_D A0 (dw_X12 a ac σ)) (hA : ∀ q : Nat, H.size ≤ q → A0 q) (hk : ∀ q : Nat, q < H.size → ¬ va_A (dw_X3s (fun k => a (if k < 1 then k + 3 else k - 1 + 48)) (fun k => ac (if k < 1 then k + 3 else k - 1 + 48)) (σ.2.2.1, σ.2.2.2.2.2.2.2.1)) H.size q → H1[q]? = H[q]?) (h1 : va_P D vwCl (dw_X3s (fun k => a (if k < 1 then k + 3 else k - 1 + 48)) (fun k => ac (if k < 1 then k + 3 else k - 1 + 48)) τ) H1) (h2 : va_D (va_A (dw_X3s (fun k => a (if k < 1 then k + 3 else k - 1 + 48)) (fun k => ac (if k < 1 then k + 3 else k - 1 + 48)) (σ.2.2.1, σ.2.2.2.2.2.2.2.1)) H.size) (dw_X3s (fun k => a (if k < 1 then k + 3 else k - 1 + 48)) (fun k => ac (if k < 1 then k + 3 else k - 1 + 48)) τ)) : va_P D vwCl (dw_X12 a ac ((σ.1, (σ.2.1, (τ.1, σ.2.2.2))).1, ((σ.1, (σ.2.1, (τ.1, σ.2.2.2))).2.1, ((σ.1, (σ.2.1, (τ.1, σ.2.2.2))).2.2.1, ((σ.1, (σ.2.1, (τ.1, σ.2.2.2))).2.2.2.1, ((σ.1, (σ.2.1, (τ.1, σ.2.2.2))).2.2.2.2.1, ((σ.1, (σ.2.1, (τ.1, σ.2.2.2))).2.2.2.2.2.1, ((σ.1, (σ.2.1, (τ.1, σ.2.2.2))).2.2.2.2.2.2.1, (τ.2, (σ.1, (σ.2.1, (τ.1, σ.2.2.2))).2.2.2.2.2.2.2.2))))))))) H1 ∧ va_D A0 (dw_X12 a ac ((σ.1, (σ.2.1, (τ.1, σ.2.2.2))).1, ((σ.1, (σ.2.1, (τ.1, σ.2.2.2))).2.1, ((σ.1, (σ.2.1, (τ.1, σ.2.2.2))).2.2.1, ((σ.1, (σ.2.1, (τ.1, σ.2.2.2))).2.2.2.1, ((σ.1, (σ.2.1, (τ.1, σ.2.2.2))).2.2.2.2.1, ((σ.1, (σ.2.1, (τ.1, σ.2.2.2))).2.2.2.2.2.1, ((σ.1, (σ.2.1, (τ.1, σ.2.2.2))).2.2.2.2.2.2.1, (τ.2, (σ.1, (σ.2.1, (τ.1, σ.2.2.2))).2.2.2.2.2.2.2.2))))))))) := by
  have eo := de_wX12_X3s_20 (a := a) (ac := ac) (τ := (σ.2.2.1, σ.2.2.2.2.2.2.2.1))
  have en := de_wX12_X3s_20 (a := a) (ac := ac) (τ := τ)
  have h := nd_vn (segs := dg_X12 a ac σ) (ix := [3, 13]) (old := [dw_LG (fun k => a (k + 3)) (fun k => ac (k + 3)) (σ.2.2.1), dw_X3c (fun k => a (k + 48)) (fun k => ac (k + 48)) (σ.2.2.2.2.2.2.2.1)]) (new := [dw_LG (fun k => a (k + 3)) (fun k => ac (k + 3)) τ.1, dw_X3c (fun k => a (k + 48)) (fun k => ac (k + 48)) (τ.2)]) hP hD (nd_co rfl (nd_co rfl rfl)) rfl (fun q z y => hk q z (fun w => y (eo ▸ w))) (en ▸ h1)
  have ee : nd_sets (dg_X12 a ac σ) [3, 13] [dw_LG (fun k => a (k + 3)) (fun k => ac (k + 3)) τ.1, dw_X3c (fun k => a (k + 48)) (fun k => ac (k + 48)) (τ.2)] = dg_X12 a ac ((σ.1, (σ.2.1, (τ.1, σ.2.2.2))).1, ((σ.1, (σ.2.1, (τ.1, σ.2.2.2))).2.1, ((σ.1, (σ.2.1, (τ.1, σ.2.2.2))).2.2.1, ((σ.1, (σ.2.1, (τ.1, σ.2.2.2))).2.2.2.1, ((σ.1, (σ.2.1, (τ.1, σ.2.2.2))).2.2.2.2.1, ((σ.1, (σ.2.1, (τ.1, σ.2.2.2))).2.2.2.2.2.1, ((σ.1, (σ.2.1, (τ.1, σ.2.2.2))).2.2.2.2.2.2.1, (τ.2, (σ.1, (σ.2.1, (τ.1, σ.2.2.2))).2.2.2.2.2.2.2.2)))))))) := rfl
  have hz : va_P D vwCl (dg_X12 a ac ((σ.1, (σ.2.1, (τ.1, σ.2.2.2))).1, ((σ.1, (σ.2.1, (τ.1, σ.2.2.2))).2.1, ((σ.1, (σ.2.1, (τ.1, σ.2.2.2))).2.2.1, ((σ.1, (σ.2.1, (τ.1, σ.2.2.2))).2.2.2.1, ((σ.1, (σ.2.1, (τ.1, σ.2.2.2))).2.2.2.2.1, ((σ.1, (σ.2.1, (τ.1, σ.2.2.2))).2.2.2.2.2.1, ((σ.1, (σ.2.1, (τ.1, σ.2.2.2))).2.2.2.2.2.2.1, (τ.2, (σ.1, (σ.2.1, (τ.1, σ.2.2.2))).2.2.2.2.2.2.2.2))))))))).flatten H1 := by rw [← ee]; exact h
  exact ⟨hz, nd_Da hD dA_X12⟩
def ow_dm_X12_pack : List Cond := Cond.code yX12_pack cX12_pack 1 (some .int) :: ([Cond.fieldLink RX12 33 "TimeMachine" "timeline" "LTimeMachine$Timeline;", Cond.fieldLink RX12 280 "TimeMachine$Timeline" "events" "LTimeMachine$Events;", Cond.fieldLink RX12 46 "TimeMachine" "log" "[B", Cond.methodLink RX12 283 yX3_writeLog, Cond.instanceMethod yX3_writeLog, Cond.selects RX3 yX3_writeLog yX3_writeLog, Cond.initialized RX3, Cond.fieldLink RX12 287 "TimeMachine" "logged" "I"] ++ (u_ws RX12 TX12 12 ++ (u_ws RX11 TX11 16 ++ (ow_dm_X3_writeLog ++ []))))
theorem gd_dm_X12_pack : ∀ w ∈ ow_dm_X12_pack, (w.onTables && w.keeps) = true ∨ ∃ ty, w = Cond.arrayClass ty := List.forall_mem_cons.mpr ⟨good_of_word rfl, List.forall_mem_append.mpr ⟨fun w h => good_of_word (List.all_eq_true.mp (by decide +kernel) w h), List.forall_mem_append.mpr ⟨gu_X12, List.forall_mem_append.mpr ⟨gu_X11, List.forall_mem_append.mpr ⟨gd_dm_X3_writeLog, fun _ h => nomatch h⟩⟩⟩⟩⟩
theorem hi_dm_X12_pack_X12 : ∀ w ∈ u_ws RX12 TX12 12, w ∈ ow_dm_X12_pack := fun w h => List.mem_cons_of_mem _ (List.mem_append_right _ (List.mem_append_left _ h))
theorem hi_dm_X12_pack_X11 : ∀ w ∈ u_ws RX11 TX11 16, w ∈ ow_dm_X12_pack := fun w h => List.mem_cons_of_mem _ (List.mem_append_right _ (List.mem_append_right _ (List.mem_append_left _ h)))
theorem gi_dm_X12_pack_0 : GoodIn ow_dm_X12_pack (wsV RX12 283 RX3 yX3_writeLog ow_dm_X3_writeLog) := goodIn_app (goodIn_of _ (by decide +kernel)) (fun w h => ⟨List.mem_cons_of_mem _ (List.mem_append_right _ (List.mem_append_right _ (List.mem_append_right _ (List.mem_append_left _ h)))), gd_dm_X3_writeLog w h⟩)
def dj_X12_pack_0 (p : Program) (l : Launch) (e : Env) (s : State) (m : MethodId) (args : Array Value) (below : List Frame) (meth : Method) (c : Code) (Q : State → Prop) (A : Nat → Prop) (dC : Nat → ClassId) (dI : Nat → Nat → Nat) (a : Nat → Nat) (ac : Nat → ClassId) (g : (St × Rw × (St) × (St × (St)) × (St) × (St × (St × (St × (St)))) × (St) × (St) × (Nat → St) × (Nat → St) × (Nat → St × (St))) → Option (Int32 × (St × Rw × (St) × (St × (St)) × (St) × (St × (St × (St × (St)))) × (St) × (St) × (Nat → St) × (Nat → St) × (Nat → St × (St))))) (r : Int32 × (St × Rw × (St) × (St × (St)) × (St) × (St × (St × (St × (St)))) × (St) × (St) × (Nat → St) × (Nat → St) × (Nat → St × (St)))) : Prop := ∀ (s0 : St × Rw × (St) × (St × (St)) × (St) × (St × (St × (St × (St)))) × (St) × (St) × (Nat → St) × (Nat → St) × (Nat → St × (St))) (H : Heap) (locs : List Loc) (ls : Array Slot), g s0 = some r → va_P (dC, dI) vwCl (dw_X12 a ac s0) H → va_D A (dw_X12 a ac s0) → va_S A s.heap H locs → lv_has ls 1 [(0, .ref (a 0))] → W p l e (headSpec ow_dm_X12_pack ({ frames := 4, cells := 0, slots := 0, locals := 96 })).room s m args below meth c H locs 0 0 Q (F0 m 0 ls [])
set_option maxHeartbeats 40000000 in
set_option maxRecDepth 100000 in
theorem db_X12_pack_0 {p : Program} {l : Launch} {e : Env} {s : State} {m : MethodId} {args : Array Value} {below : List Frame} {meth : Method} {c : Code} {Q : State → Prop} {A : Nat → Prop} {dC : Nat → ClassId} {dI : Nat → Nat → Nat} {a : Nat → Nat} {ac : Nat → ClassId} {n : Nat} {r : Int32 × (St × Rw × (St) × (St × (St)) × (St) × (St × (St × (St × (St)))) × (St) × (St) × (Nat → St) × (Nat → St) × (Nat → St × (St)))} (C : nd_C p l s m args c A (dC, dI) cX12_pack 1 RX12 ow_dm_X12_pack (dk_X12 ac)) (K : nd_Ki p l e (headSpec ow_dm_X12_pack ({ frames := 4, cells := 0, slots := 0, locals := 96 })).room s m args below meth c Q A (dC, dI) cX12_pack .int (St × Rw × (St) × (St × (St)) × (St) × (St × (St × (St × (St)))) × (St) × (St) × (Nat → St) × (Nat → St) × (Nat → St × (St))) (dw_X12 a ac) r) : dj_X12_pack_0 p l e s m args below meth c Q A dC dI a ac (df_X12_pack_0 n (a 15) (a 3)) r := by
  obtain ⟨hlt, hx, hb, hml, hown, hts, hN, hA, hK⟩ := id C
  intro s0 H locs ls h hP hD hS hl
  unfold df_X12_pack_0 at h
  refine lv_aload_n hx hb dX12_pack_0 rfl (lv_at hl 0 rfl) ?_
  refine lv_aload_n hx hb dX12_pack_1 rfl (lv_at hl 0 rfl) ?_
  refine va_get (D := (dC, dI)) (ci := 13) (v := .ref (a 16)) (C := RX12) (T := TX12) (N := 12) hx hb hts hi_dm_X12_pack_X12 hown hK hP 0 rfl rfl 6 (by decide) (hts (.fieldLink RX12 33 "TimeMachine" "timeline" "LTimeMachine$Timeline;") (List.mem_of_getElem? (i := 1) rfl)) (fun _ h9 => h9) rfl dX12_pack_2 ?_
  by_cases o1 : sO s0.2.2.2.2.1 0 = some 27
  · have h := nd_pos h o1
    refine va_get (D := (dC, dI)) (ci := 12) (v := .ref (a 43)) (C := RX11) (T := TX11) (N := 16) hx hb hts hi_dm_X12_pack_X11 hown hK hP 16 rfl rfl 1 (by decide) (hts (.fieldLink RX12 280 "TimeMachine$Timeline" "events" "LTimeMachine$Events;") (List.mem_of_getElem? (i := 2) rfl)) (fun _ h9 => h9) (congrArg (fun z => some (va_rf (Option.map (fun k => a (k + 16)) z))) o1) dX12_pack_5 ?_
    refine lv_aload_n hx hb dX12_pack_8 rfl (lv_at hl 0 rfl) ?_
    refine va_get (D := (dC, dI)) (ci := 13) (v := .ref (a 3)) (C := RX12) (T := TX12) (N := 12) hx hb hts hi_dm_X12_pack_X12 hown hK hP 0 rfl rfl 9 (by decide) (hts (.fieldLink RX12 46 "TimeMachine" "log" "[B") (List.mem_of_getElem? (i := 3) rfl)) (fun _ h9 => h9) rfl dX12_pack_9 ?_
    obtain ⟨q2, s3, hq, h⟩ := nd_b2_e h
    have hPc := dp_wX12_X3s_19 hP
    have hDc := dd_wX12_X3s_19 hD
    have hKc := dy_wX12_X3s_19 hK
    have hFc := nd_rs hDc hS hA
    have hzA : ∀ q : Nat, H.size ≤ q → A q := fun q h => hA q (Nat.le_trans hS.1 h)
    refine nd_cVi (As := [.ref (a 3)]) (rest := [.ref (a 0)]) (q := q2) (w' := dw_X3s (fun k => a (if k < 1 then k + 3 else k - 1 + 43)) (fun k => ac (if k < 1 then k + 3 else k - 1 + 43)) s3) ⟨hx, hb, hml, hown, hts⟩ (fun sz => dm_X3_writeLog l hlt dC dI (fun k => a (if k < 1 then k + 3 else k - 1 + 43)) (fun k => ac (if k < 1 then k + 3 else k - 1 + 43)) n  (s0.2.2.1, s0.2.2.2.2.2.2.1) hq sz) (cwV 1 hts gi_dm_X12_pack_0 rfl rfl rfl (by decide +kernel) ⟨Nat.le_of_ble_eq_true rfl, Nat.le_of_ble_eq_true rfl⟩) hPc hDc hKc hS hA hN (va_recv hKc hPc (ci := 4) (q0 := 1) rfl rfl) rfl hl.1 rfl (Nat.le_of_ble_eq_true rfl) dX12_pack_12 (fun H locs hP1 hD1 hk1 hS => ?_)
    obtain ⟨hP, hD⟩ := dn_wX12_X3s_19 hP hD hzA hk1 hP1 hD1
    obtain ⟨s5, es5, h⟩ := nd_let_e h
    have hP : va_P (dC, dI) vwCl (dw_X12 a ac s5) H := by rw [es5]; exact hP
    have hD : va_D A (dw_X12 a ac s5) := by rw [es5]; exact hD
    have o1 : sO s5.2.2.2.2.1 0 = some 27 := by rw [es5]; exact o1
    refine va_put (D := (dC, dI)) (ci := 13) (v := .int q2) (ty := .int) (C := RX12) (T := TX12) (N := 12) hx hb hts hi_dm_X12_pack_X12 tyX12 tyX12_ok nmX12 hown hK hP hD hS 0 rfl rfl 10 (by decide) (hts (.fieldLink RX12 287 "TimeMachine" "logged" "I") (List.mem_of_getElem? (i := 8) rfl)) (fun _ h9 => h9) rfl (by decide +kernel) rfl rfl (Nat.le_of_ble_eq_true rfl) dX12_pack_15 (fun H locs hP hD hS => ?_)
    obtain ⟨s6, es6, h⟩ := nd_let_e h
    have hP : va_P (dC, dI) vwCl (dw_X12 a ac s6) H := by rw [es6]; exact hP
    have hD : va_D A (dw_X12 a ac s6) := by rw [es6]; exact hD
    have o1 : sO s6.2.2.2.2.1 0 = some 27 := by rw [es6]; exact o1
    refine lv_aload_n hx hb dX12_pack_18 rfl (lv_at hl 0 rfl) ?_
    refine va_get (D := (dC, dI)) (ci := 13) (v := .int (sI s6.1 2)) (C := RX12) (T := TX12) (N := 12) hx hb hts hi_dm_X12_pack_X12 hown hK hP 0 rfl rfl 10 (by decide) (hts (.fieldLink RX12 287 "TimeMachine" "logged" "I") (List.mem_of_getElem? (i := 8) rfl)) (fun _ h9 => h9) rfl dX12_pack_19 ?_
    exact K _ _ _ _ _ _ dX12_pack_22 rfl (Option.some.inj h).symm hP hD hS
  have h := nd_neg h o1
  by_cases o7 : sO s0.2.2.2.2.1 0 = some 32
  · have h := nd_pos h o7
    refine va_get (D := (dC, dI)) (ci := 12) (v := .ref (a 48)) (C := RX11) (T := TX11) (N := 16) hx hb hts hi_dm_X12_pack_X11 hown hK hP 16 rfl rfl 1 (by decide) (hts (.fieldLink RX12 280 "TimeMachine$Timeline" "events" "LTimeMachine$Events;") (List.mem_of_getElem? (i := 2) rfl)) (fun _ h9 => h9) (congrArg (fun z => some (va_rf (Option.map (fun k => a (k + 16)) z))) o7) dX12_pack_5 ?_
    refine lv_aload_n hx hb dX12_pack_8 rfl (lv_at hl 0 rfl) ?_
    refine va_get (D := (dC, dI)) (ci := 13) (v := .ref (a 3)) (C := RX12) (T := TX12) (N := 12) hx hb hts hi_dm_X12_pack_X12 hown hK hP 0 rfl rfl 9 (by decide) (hts (.fieldLink RX12 46 "TimeMachine" "log" "[B") (List.mem_of_getElem? (i := 3) rfl)) (fun _ h9 => h9) rfl dX12_pack_9 ?_
    obtain ⟨q8, s9, hq, h⟩ := nd_b2_e h
    have hPc := dp_wX12_X3s_20 hP
    have hDc := dd_wX12_X3s_20 hD
    have hKc := dy_wX12_X3s_20 hK
    have hFc := nd_rs hDc hS hA
    have hzA : ∀ q : Nat, H.size ≤ q → A q := fun q h => hA q (Nat.le_trans hS.1 h)
    refine nd_cVi (As := [.ref (a 3)]) (rest := [.ref (a 0)]) (q := q8) (w' := dw_X3s (fun k => a (if k < 1 then k + 3 else k - 1 + 48)) (fun k => ac (if k < 1 then k + 3 else k - 1 + 48)) s9) ⟨hx, hb, hml, hown, hts⟩ (fun sz => dm_X3_writeLog l hlt dC dI (fun k => a (if k < 1 then k + 3 else k - 1 + 48)) (fun k => ac (if k < 1 then k + 3 else k - 1 + 48)) n  (s0.2.2.1, s0.2.2.2.2.2.2.2.1) hq sz) (cwV 1 hts gi_dm_X12_pack_0 rfl rfl rfl (by decide +kernel) ⟨Nat.le_of_ble_eq_true rfl, Nat.le_of_ble_eq_true rfl⟩) hPc hDc hKc hS hA hN (va_recv hKc hPc (ci := 4) (q0 := 1) rfl rfl) rfl hl.1 rfl (Nat.le_of_ble_eq_true rfl) dX12_pack_12 (fun H locs hP1 hD1 hk1 hS => ?_)
    obtain ⟨hP, hD⟩ := dn_wX12_X3s_20 hP hD hzA hk1 hP1 hD1
    obtain ⟨s11, es11, h⟩ := nd_let_e h
    have hP : va_P (dC, dI) vwCl (dw_X12 a ac s11) H := by rw [es11]; exact hP
    have hD : va_D A (dw_X12 a ac s11) := by rw [es11]; exact hD
    have o7 : sO s11.2.2.2.2.1 0 = some 32 := by rw [es11]; exact o7
    refine va_put (D := (dC, dI)) (ci := 13) (v := .int q8) (ty := .int) (C := RX12) (T := TX12) (N := 12) hx hb hts hi_dm_X12_pack_X12 tyX12 tyX12_ok nmX12 hown hK hP hD hS 0 rfl rfl 10 (by decide) (hts (.fieldLink RX12 287 "TimeMachine" "logged" "I") (List.mem_of_getElem? (i := 8) rfl)) (fun _ h9 => h9) rfl (by decide +kernel) rfl rfl (Nat.le_of_ble_eq_true rfl) dX12_pack_15 (fun H locs hP hD hS => ?_)
    obtain ⟨s12, es12, h⟩ := nd_let_e h
    have hP : va_P (dC, dI) vwCl (dw_X12 a ac s12) H := by rw [es12]; exact hP
    have hD : va_D A (dw_X12 a ac s12) := by rw [es12]; exact hD
    have o7 : sO s12.2.2.2.2.1 0 = some 32 := by rw [es12]; exact o7
    refine lv_aload_n hx hb dX12_pack_18 rfl (lv_at hl 0 rfl) ?_
    refine va_get (D := (dC, dI)) (ci := 13) (v := .int (sI s12.1 2)) (C := RX12) (T := TX12) (N := 12) hx hb hts hi_dm_X12_pack_X12 hown hK hP 0 rfl rfl 10 (by decide) (hts (.fieldLink RX12 287 "TimeMachine" "logged" "I") (List.mem_of_getElem? (i := 8) rfl)) (fun _ h9 => h9) rfl dX12_pack_19 ?_
    exact K _ _ _ _ _ _ dX12_pack_22 rfl (Option.some.inj h).symm hP hD hS
  have h := nd_neg h o7
  exact nomatch h
set_option maxHeartbeats 40000000 in
set_option maxRecDepth 100000 in
theorem dm_X12_pack (l : Launch) (hlt : l.stackTraces = false) (dC : Nat → ClassId) (dI : Nat → Nat → Nat) (a : Nat → Nat) (ac : Nat → ClassId) (n : Nat) (s0 : St × Rw × (St) × (St × (St)) × (St) × (St × (St × (St × (St)))) × (St) × (St) × (Nat → St) × (Nat → St) × (Nat → St × (St))) {r : Int32 × (St × Rw × (St) × (St × (St)) × (St) × (St × (St × (St × (St)))) × (St) × (St) × (Nat → St) × (Nat → St) × (Nat → St × (St)))} (h : df_X12_pack n (a 15) (a 3) s0 = some r) (sz : Nat) : Met l yX12_pack ow_dm_X12_pack ({ frames := 4, cells := 0, slots := 0, locals := 96 }) (va_Pc [.ref (a 0)] (fun U => U.heap.size = sz ∧ va_P (dC, dI) vwCl (dw_X12 a ac s0) U.heap ∧ va_K (dC, dI) vwCl (dk_X12 ac) U ∧ va_D (fun _ => True) (dw_X12 a ac s0) ∧ nv_E dI (va_A (dw_X12 a ac s0) sz) U)) (va_Qi (fun x _ => x = r.1) (fun (_ : Unit) t => va_P (dC, dI) vwCl (dw_X12 a ac r.2) t.heap ∧ va_K (dC, dI) vwCl (dk_X12 ac) t ∧ va_D (va_A (dw_X12 a ac s0) sz) (dw_X12 a ac r.2)) (va_A (dw_X12 a ac s0) sz)) 0 0 (va_A (dw_X12 a ac s0) sz) := by
  refine Met.ofW (cc := cX12_pack) (maxL := 1) (ret := (some .int)) (by decide) rfl ?_
  intro p e s m args below meth c s₁ B hml hv
  obtain ⟨rfl, hsz, hP, hK, hD0, hN⟩ := hv
  have hx := B.exec
  have hb := B.bytes
  have hr := B.returns
  have hts := atoms_spec (ws := ow_dm_X12_pack) B.pre
  have hown : s.vm.findClass RX12 = some m.cls := findClass_of_methodNamed B.named
  have hlocks := B.notSynchronized
  subst hsz
  have hD := hD0.self (sz := s.heap.size)
  generalize hAe : va_A (dw_X12 a ac s0) s.heap.size = A at hD hN ⊢
  have hA : ∀ q : Nat, s.heap.size ≤ q → A q := fun q h => by rw [← hAe]; exact Or.inr h
  have hl := lv_entry ([.ref (a 0)]) (n := 1) (Nat.le_of_ble_eq_true rfl)
  rw [lg_entry_eq]
  generalize (lg_sl ([.ref (a 0)]) ++ List.replicate (1 - (lg_sl ([.ref (a 0)])).length) Slot.unset).toArray = ls at hl ⊢
  have hl : lv_has ls 1 [(0, .ref (a 0))] := hl
  exact db_X12_pack_0 (dC := dC) (dI := dI) (a := a) (ac := ac) (n := n) (r := r) ⟨hlt, hx, hb, hml, hown, hts, hN, hA, hK⟩ (fun pc v τ H locs ls d z er hP hD hS => by subst er; exact W.zret (v := v) hx hb hr z (fun t ht hW => ⟨⟨v, (), rfl, rfl, by rw [ht]; exact hP, va_K.moved hW.alike hK, hD⟩, hS.F ht⟩) hS.2.2 d) s0 _ _ _ h hP hD va_S.rf (lv_sub hl [0] rfl)
def ow_dm_X12_logByte : List Cond := Cond.code yX12_logByte cX12_logByte 2 (some .int) :: ([Cond.fieldLink RX12 287 "TimeMachine" "logged" "I", Cond.fieldLink RX12 46 "TimeMachine" "log" "[B"] ++ (u_ws RX12 TX12 12 ++ []))
theorem gd_dm_X12_logByte : ∀ w ∈ ow_dm_X12_logByte, (w.onTables && w.keeps) = true ∨ ∃ ty, w = Cond.arrayClass ty := List.forall_mem_cons.mpr ⟨good_of_word rfl, List.forall_mem_append.mpr ⟨fun w h => good_of_word (List.all_eq_true.mp (by decide +kernel) w h), List.forall_mem_append.mpr ⟨gu_X12, fun _ h => nomatch h⟩⟩⟩
theorem hi_dm_X12_logByte_X12 : ∀ w ∈ u_ws RX12 TX12 12, w ∈ ow_dm_X12_logByte := fun w h => List.mem_cons_of_mem _ (List.mem_append_right _ (List.mem_append_left _ h))
def dj_X12_logByte_26 (p : Program) (l : Launch) (e : Env) (s : State) (m : MethodId) (args : Array Value) (below : List Frame) (meth : Method) (c : Code) (Q : State → Prop) (A : Nat → Prop) (dC : Nat → ClassId) (dI : Nat → Nat → Nat) (a : Nat → Nat) (ac : Nat → ClassId) (g : Int32 → (St × Rw × (St) × (St × (St)) × (St) × (St × (St × (St × (St)))) × (St) × (St) × (Nat → St) × (Nat → St) × (Nat → St × (St))) → Option (Int32 × (St × Rw × (St) × (St × (St)) × (St) × (St × (St × (St × (St)))) × (St) × (St) × (Nat → St) × (Nat → St) × (Nat → St × (St))))) (r : Int32 × (St × Rw × (St) × (St × (St)) × (St) × (St × (St × (St × (St)))) × (St) × (St) × (Nat → St) × (Nat → St) × (Nat → St × (St)))) : Prop := ∀ (y0 : Int32) (s0 : St × Rw × (St) × (St × (St)) × (St) × (St × (St × (St × (St)))) × (St) × (St) × (Nat → St) × (Nat → St) × (Nat → St × (St))) (H : Heap) (locs : List Loc) (ls : Array Slot), g y0 s0 = some r → va_P (dC, dI) vwCl (dw_X12 a ac s0) H → va_D A (dw_X12 a ac s0) → va_S A s.heap H locs → lv_has ls 2 [] → W p l e (headSpec ow_dm_X12_logByte ({ frames := 0, cells := 0, slots := 0, locals := 0 })).room s m args below meth c H locs 0 0 Q (F0 m 26 ls [.int y0])
def dj_X12_logByte_12 (p : Program) (l : Launch) (e : Env) (s : State) (m : MethodId) (args : Array Value) (below : List Frame) (meth : Method) (c : Code) (Q : State → Prop) (A : Nat → Prop) (dC : Nat → ClassId) (dI : Nat → Nat → Nat) (a : Nat → Nat) (ac : Nat → ClassId) (g : (St × Rw × (St) × (St × (St)) × (St) × (St × (St × (St × (St)))) × (St) × (St) × (Nat → St) × (Nat → St) × (Nat → St × (St))) → Option (Int32 × (St × Rw × (St) × (St × (St)) × (St) × (St × (St × (St × (St)))) × (St) × (St) × (Nat → St) × (Nat → St) × (Nat → St × (St))))) (r : Int32 × (St × Rw × (St) × (St × (St)) × (St) × (St × (St × (St × (St)))) × (St) × (St) × (Nat → St) × (Nat → St) × (Nat → St × (St)))) : Prop := ∀ (s0 : St × Rw × (St) × (St × (St)) × (St) × (St × (St × (St × (St)))) × (St) × (St) × (Nat → St) × (Nat → St) × (Nat → St × (St))) (H : Heap) (locs : List Loc) (ls : Array Slot), g s0 = some r → va_P (dC, dI) vwCl (dw_X12 a ac s0) H → va_D A (dw_X12 a ac s0) → va_S A s.heap H locs → lv_has ls 2 [] → W p l e (headSpec ow_dm_X12_logByte ({ frames := 0, cells := 0, slots := 0, locals := 0 })).room s m args below meth c H locs 0 0 Q (F0 m 12 ls [])
def dj_X12_logByte_0 (p : Program) (l : Launch) (e : Env) (s : State) (m : MethodId) (args : Array Value) (below : List Frame) (meth : Method) (c : Code) (Q : State → Prop) (A : Nat → Prop) (dC : Nat → ClassId) (dI : Nat → Nat → Nat) (a : Nat → Nat) (ac : Nat → ClassId) (g : Int32 → (St × Rw × (St) × (St × (St)) × (St) × (St × (St × (St × (St)))) × (St) × (St) × (Nat → St) × (Nat → St) × (Nat → St × (St))) → Option (Int32 × (St × Rw × (St) × (St × (St)) × (St) × (St × (St × (St × (St)))) × (St) × (St) × (Nat → St) × (Nat → St) × (Nat → St × (St))))) (r : Int32 × (St × Rw × (St) × (St × (St)) × (St) × (St × (St × (St × (St)))) × (St) × (St) × (Nat → St) × (Nat → St) × (Nat → St × (St)))) : Prop := ∀ (v0 : Int32) (s0 : St × Rw × (St) × (St × (St)) × (St) × (St × (St × (St × (St)))) × (St) × (St) × (Nat → St) × (Nat → St) × (Nat → St × (St))) (H : Heap) (locs : List Loc) (ls : Array Slot), g v0 s0 = some r → va_P (dC, dI) vwCl (dw_X12 a ac s0) H → va_D A (dw_X12 a ac s0) → va_S A s.heap H locs → lv_has ls 2 [(0, .ref (a 0)), (1, .int v0)] → W p l e (headSpec ow_dm_X12_logByte ({ frames := 0, cells := 0, slots := 0, locals := 0 })).room s m args below meth c H locs 0 0 Q (F0 m 0 ls [])
set_option maxHeartbeats 40000000 in
set_option maxRecDepth 100000 in
theorem db_X12_logByte_26 {p : Program} {l : Launch} {e : Env} {s : State} {m : MethodId} {args : Array Value} {below : List Frame} {meth : Method} {c : Code} {Q : State → Prop} {A : Nat → Prop} {dC : Nat → ClassId} {dI : Nat → Nat → Nat} {a : Nat → Nat} {ac : Nat → ClassId} {n : Nat} {r : Int32 × (St × Rw × (St) × (St × (St)) × (St) × (St × (St × (St × (St)))) × (St) × (St) × (Nat → St) × (Nat → St) × (Nat → St × (St)))} (C : nd_C p l s m args c A (dC, dI) cX12_logByte 2 RX12 ow_dm_X12_logByte (dk_X12 ac)) (K : nd_Ki p l e (headSpec ow_dm_X12_logByte ({ frames := 0, cells := 0, slots := 0, locals := 0 })).room s m args below meth c Q A (dC, dI) cX12_logByte .int (St × Rw × (St) × (St × (St)) × (St) × (St × (St × (St × (St)))) × (St) × (St) × (Nat → St) × (Nat → St) × (Nat → St × (St))) (dw_X12 a ac) r) : dj_X12_logByte_26 p l e s m args below meth c Q A dC dI a ac (df_X12_logByte_26 n (a 15) (a 3)) r := by
  obtain ⟨hlt, hx, hb, hml, hown, hts, hN, hA, hK⟩ := id C
  intro y0 s0 H locs ls h hP hD hS hl
  unfold df_X12_logByte_26 at h
  exact K _ _ _ _ _ _ dX12_logByte_26 rfl (Option.some.inj h).symm hP hD hS
set_option maxHeartbeats 40000000 in
set_option maxRecDepth 100000 in
theorem db_X12_logByte_12 {p : Program} {l : Launch} {e : Env} {s : State} {m : MethodId} {args : Array Value} {below : List Frame} {meth : Method} {c : Code} {Q : State → Prop} {A : Nat → Prop} {dC : Nat → ClassId} {dI : Nat → Nat → Nat} {a : Nat → Nat} {ac : Nat → ClassId} {n : Nat} {r : Int32 × (St × Rw × (St) × (St × (St)) × (St) × (St × (St × (St × (St)))) × (St) × (St) × (Nat → St) × (Nat → St) × (Nat → St × (St)))} (C : nd_C p l s m args c A (dC, dI) cX12_logByte 2 RX12 ow_dm_X12_logByte (dk_X12 ac)) (K : nd_Ki p l e (headSpec ow_dm_X12_logByte ({ frames := 0, cells := 0, slots := 0, locals := 0 })).room s m args below meth c Q A (dC, dI) cX12_logByte .int (St × Rw × (St) × (St × (St)) × (St) × (St × (St × (St × (St)))) × (St) × (St) × (Nat → St) × (Nat → St) × (Nat → St × (St))) (dw_X12 a ac) r) : dj_X12_logByte_12 p l e s m args below meth c Q A dC dI a ac (df_X12_logByte_12 n (a 15) (a 3)) r := by
  obtain ⟨hlt, hx, hb, hml, hown, hts, hN, hA, hK⟩ := id C
  intro s0 H locs ls h hP hD hS hl
  unfold df_X12_logByte_12 at h
  refine lv_iconst (v := (-1)) hx hb dX12_logByte_12 (by decide) ?_
  refine lv_goto (tgt := 26) hx hb dX12_logByte_13 (by decide) ?_
  exact (db_X12_logByte_26 C K) ((-1)) s0 _ _ _ h hP hD hS (lv_sub hl [] rfl)
set_option maxHeartbeats 40000000 in
set_option maxRecDepth 100000 in
theorem db_X12_logByte_0 {p : Program} {l : Launch} {e : Env} {s : State} {m : MethodId} {args : Array Value} {below : List Frame} {meth : Method} {c : Code} {Q : State → Prop} {A : Nat → Prop} {dC : Nat → ClassId} {dI : Nat → Nat → Nat} {a : Nat → Nat} {ac : Nat → ClassId} {n : Nat} {r : Int32 × (St × Rw × (St) × (St × (St)) × (St) × (St × (St × (St × (St)))) × (St) × (St) × (Nat → St) × (Nat → St) × (Nat → St × (St)))} (C : nd_C p l s m args c A (dC, dI) cX12_logByte 2 RX12 ow_dm_X12_logByte (dk_X12 ac)) (K : nd_Ki p l e (headSpec ow_dm_X12_logByte ({ frames := 0, cells := 0, slots := 0, locals := 0 })).room s m args below meth c Q A (dC, dI) cX12_logByte .int (St × Rw × (St) × (St × (St)) × (St) × (St × (St × (St × (St)))) × (St) × (St) × (Nat → St) × (Nat → St) × (Nat → St × (St))) (dw_X12 a ac) r) : dj_X12_logByte_0 p l e s m args below meth c Q A dC dI a ac (df_X12_logByte_0 n (a 15) (a 3)) r := by
  obtain ⟨hlt, hx, hb, hml, hown, hts, hN, hA, hK⟩ := id C
  intro v0 s0 H locs ls h hP hD hS hl
  unfold df_X12_logByte_0 at h
  refine lv_iload_n hx hb dX12_logByte_0 rfl (lv_at hl 1 rfl) ?_
  refine lv_if_lt (tgt := 12) hx hb dX12_logByte_1 (by decide) (fun c1 => ?_) (fun c1 => ?_)
  · have h := nd_pos h c1
    exact (db_X12_logByte_12 C K)  s0 _ _ _ h hP hD hS (lv_sub hl [] rfl)
  · have h := nd_neg h c1
    refine lv_iload_n hx hb dX12_logByte_4 rfl (lv_at hl 1 rfl) ?_
    refine lv_aload_n hx hb dX12_logByte_5 rfl (lv_at hl 0 rfl) ?_
    refine va_get (D := (dC, dI)) (ci := 13) (v := .int (sI s0.1 2)) (C := RX12) (T := TX12) (N := 12) hx hb hts hi_dm_X12_logByte_X12 hown hK hP 0 rfl rfl 10 (by decide) (hts (.fieldLink RX12 287 "TimeMachine" "logged" "I") (List.mem_of_getElem? (i := 1) rfl)) (fun _ h9 => h9) rfl dX12_logByte_6 ?_
    refine lv_icmp_lt (tgt := 16) hx hb dX12_logByte_9 (by decide) (fun c2 => ?_) (fun c2 => ?_)
    · have h := nd_pos h c2
      refine lv_aload_n hx hb dX12_logByte_16 rfl (lv_at hl 0 rfl) ?_
      refine va_get (D := (dC, dI)) (ci := 13) (v := .ref (a 3)) (C := RX12) (T := TX12) (N := 12) hx hb hts hi_dm_X12_logByte_X12 hown hK hP 0 rfl rfl 9 (by decide) (hts (.fieldLink RX12 46 "TimeMachine" "log" "[B") (List.mem_of_getElem? (i := 2) rfl)) (fun _ h9 => h9) rfl dX12_logByte_17 ?_
      refine lv_iload_n hx hb dX12_logByte_20 rfl (lv_at hl 1 rfl) ?_
      obtain ⟨i3, h⟩ := nd_ck_e h
      refine va_bald (i := v0) hx hb hK hP 3 2 rfl rfl i3 dX12_logByte_21 ?_
      refine lv_sipush (v := 255) hx hb dX12_logByte_22 (by decide) ?_
      refine lv_iand hx hb dX12_logByte_25 ?_
      exact (db_X12_logByte_26 C K) (((sR s0.2.2.1 0 (Int32.toNatClampNeg v0)) &&& 255)) s0 _ _ _ h hP hD hS (lv_sub hl [] rfl)
    · have h := nd_neg h c2
      exact (db_X12_logByte_12 C K)  s0 _ _ _ h hP hD hS (lv_sub hl [] rfl)
set_option maxHeartbeats 40000000 in
set_option maxRecDepth 100000 in
theorem dm_X12_logByte (l : Launch) (hlt : l.stackTraces = false) (dC : Nat → ClassId) (dI : Nat → Nat → Nat) (a : Nat → Nat) (ac : Nat → ClassId) (n : Nat) (v0 : Int32) (s0 : St × Rw × (St) × (St × (St)) × (St) × (St × (St × (St × (St)))) × (St) × (St) × (Nat → St) × (Nat → St) × (Nat → St × (St))) {r : Int32 × (St × Rw × (St) × (St × (St)) × (St) × (St × (St × (St × (St)))) × (St) × (St) × (Nat → St) × (Nat → St) × (Nat → St × (St)))} (h : df_X12_logByte n (a 15) (a 3) v0 s0 = some r) (sz : Nat) : Met l yX12_logByte ow_dm_X12_logByte ({ frames := 0, cells := 0, slots := 0, locals := 0 }) (va_Pc [.ref (a 0), .int v0] (fun U => U.heap.size = sz ∧ va_P (dC, dI) vwCl (dw_X12 a ac s0) U.heap ∧ va_K (dC, dI) vwCl (dk_X12 ac) U ∧ va_D (fun _ => True) (dw_X12 a ac s0) ∧ nv_E dI (va_A (dw_X12 a ac s0) sz) U)) (va_Qi (fun x _ => x = r.1) (fun (_ : Unit) t => va_P (dC, dI) vwCl (dw_X12 a ac r.2) t.heap ∧ va_K (dC, dI) vwCl (dk_X12 ac) t ∧ va_D (va_A (dw_X12 a ac s0) sz) (dw_X12 a ac r.2)) (va_A (dw_X12 a ac s0) sz)) 0 0 (va_A (dw_X12 a ac s0) sz) := by
  refine Met.ofW (cc := cX12_logByte) (maxL := 2) (ret := (some .int)) (by decide) rfl ?_
  intro p e s m args below meth c s₁ B hml hv
  obtain ⟨rfl, hsz, hP, hK, hD0, hN⟩ := hv
  have hx := B.exec
  have hb := B.bytes
  have hr := B.returns
  have hts := atoms_spec (ws := ow_dm_X12_logByte) B.pre
  have hown : s.vm.findClass RX12 = some m.cls := findClass_of_methodNamed B.named
  have hlocks := B.notSynchronized
  subst hsz
  have hD := hD0.self (sz := s.heap.size)
  generalize hAe : va_A (dw_X12 a ac s0) s.heap.size = A at hD hN ⊢
  have hA : ∀ q : Nat, s.heap.size ≤ q → A q := fun q h => by rw [← hAe]; exact Or.inr h
  have hl := lv_entry ([.ref (a 0), .int v0]) (n := 2) (Nat.le_of_ble_eq_true rfl)
  rw [lg_entry_eq]
  generalize (lg_sl ([.ref (a 0), .int v0]) ++ List.replicate (2 - (lg_sl ([.ref (a 0), .int v0])).length) Slot.unset).toArray = ls at hl ⊢
  have hl : lv_has ls 2 [(0, .ref (a 0)), (1, .int v0)] := hl
  exact db_X12_logByte_0 (dC := dC) (dI := dI) (a := a) (ac := ac) (n := n) (r := r) ⟨hlt, hx, hb, hml, hown, hts, hN, hA, hK⟩ (fun pc v τ H locs ls d z er hP hD hS => by subst er; exact W.zret (v := v) hx hb hr z (fun t ht hW => ⟨⟨v, (), rfl, rfl, by rw [ht]; exact hP, va_K.moved hW.alike hK, hD⟩, hS.F ht⟩) hS.2.2 d) v0 s0 _ _ _ h hP hD va_S.rf (lv_sub hl [0, 1] rfl)
set_option maxHeartbeats 40000000 in
set_option maxRecDepth 100000 in
theorem de_wX12_X3c_21 {a : Nat → Nat} {ac : Nat → ClassId} {τ : St} : ([dw_X3c (fun k => a (k + 43)) (fun k => ac (k + 43)) (τ)] : List va_W).flatten = dw_X3c (fun k => a (k + 43)) (fun k => ac (k + 43)) τ := by
  first
  | (simp only [List.flatten_cons, List.flatten_nil, List.append_nil]; done)
  | (simp only [List.flatten_cons, List.flatten_nil, List.append_nil]; rfl)
set_option maxHeartbeats 40000000 in
set_option maxRecDepth 100000 in
theorem dp_wX12_X3c_21 {D : va_G} {H : Heap} {a : Nat → Nat} {ac : Nat → ClassId} {σ : St × Rw × (St) × (St × (St)) × (St) × (St × (St × (St × (St)))) × (St) × (St) × (Nat → St) × (Nat → St) × (Nat → St × (St))} (h : va_P D vwCl (dw_X12 a ac σ) H) : va_P D vwCl (dw_X3c (fun k => a (k + 43)) (fun k => ac (k + 43)) σ.2.2.2.2.2.2.1) H := by
  have h2 := nd_vp (segs := dg_X12 a ac σ) (ix := [12]) (old := [dw_X3c (fun k => a (k + 43)) (fun k => ac (k + 43)) (σ.2.2.2.2.2.2.1)]) h (nd_co rfl rfl)
  have e := de_wX12_X3c_21 (a := a) (ac := ac) (τ := σ.2.2.2.2.2.2.1)
  exact e ▸ h2
set_option maxHeartbeats 40000000 in
set_option maxRecDepth 100000 in
theorem dd_wX12_X3c_21 {A : Nat → Prop} {a : Nat → Nat} {ac : Nat → ClassId} {σ : St × Rw × (St) × (St × (St)) × (St) × (St × (St × (St × (St)))) × (St) × (St) × (Nat → St) × (Nat → St) × (Nat → St × (St))} (h : va_D A (dw_X12 a ac σ)) : va_D A (dw_X3c (fun k => a (k + 43)) (fun k => ac (k + 43)) σ.2.2.2.2.2.2.1) := by
  have h2 := nd_vd (segs := dg_X12 a ac σ) (ix := [12]) (old := [dw_X3c (fun k => a (k + 43)) (fun k => ac (k + 43)) (σ.2.2.2.2.2.2.1)]) h (nd_co rfl rfl) (by decide)
  have e := de_wX12_X3c_21 (a := a) (ac := ac) (τ := σ.2.2.2.2.2.2.1)
  exact e ▸ h2
set_option maxHeartbeats 40000000 in
set_option maxRecDepth 100000 in
theorem dy_wX12_X3c_21 {D : va_G} {U : State} {ac : Nat → ClassId} (h : va_K D vwCl (dk_X12 ac) U) : va_K D vwCl (dk_X3c (fun k => ac (k + 43))) U := (h.sub [35, 36, 37, 38] rfl)
set_option maxHeartbeats 40000000 in
set_option maxRecDepth 100000 in
theorem dn_wX12_X3c_21 {A0 : Nat → Prop} {D : va_G} {H H1 : Heap} {a : Nat → Nat} {ac : Nat → ClassId} {σ : St × Rw × (St) × (St × (St)) × (St) × (St × (St × (St × (St)))) × (St) × (St) × (Nat → St) × (Nat → St) × (Nat → St × (St))} {τ : St} (hP : va_P D vwCl (dw_X12 a ac σ) H) (hD : va_D A0 (dw_X12 a ac σ)) (hA : ∀ q : Nat, H.size ≤ q → A0 q) (hk : ∀ q : Nat, q < H.size → ¬ va_A (dw_X3c (fun k => a (k + 43)) (fun k => ac (k + 43)) σ.2.2.2.2.2.2.1) H.size q → H1[q]? = H[q]?) (h1 : va_P D vwCl (dw_X3c (fun k => a (k + 43)) (fun k => ac (k + 43)) τ) H1) (h2 : va_D (va_A (dw_X3c (fun k => a (k + 43)) (fun k => ac (k + 43)) σ.2.2.2.2.2.2.1) H.size) (dw_X3c (fun k => a (k + 43)) (fun k => ac (k + 43)) τ)) : va_P D vwCl (dw_X12 a ac (σ.1, (σ.2.1, (σ.2.2.1, (σ.2.2.2.1, (σ.2.2.2.2.1, (σ.2.2.2.2.2.1, (τ, σ.2.2.2.2.2.2.2)))))))) H1 ∧ va_D A0 (dw_X12 a ac (σ.1, (σ.2.1, (σ.2.2.1, (σ.2.2.2.1, (σ.2.2.2.2.1, (σ.2.2.2.2.2.1, (τ, σ.2.2.2.2.2.2.2)))))))) := by
  have eo := de_wX12_X3c_21 (a := a) (ac := ac) (τ := σ.2.2.2.2.2.2.1)
  have en := de_wX12_X3c_21 (a := a) (ac := ac) (τ := τ)
  have h := nd_vn (segs := dg_X12 a ac σ) (ix := [12]) (old := [dw_X3c (fun k => a (k + 43)) (fun k => ac (k + 43)) (σ.2.2.2.2.2.2.1)]) (new := [dw_X3c (fun k => a (k + 43)) (fun k => ac (k + 43)) (τ)]) hP hD (nd_co rfl rfl) rfl (fun q z y => hk q z (fun w => y (eo ▸ w))) (en ▸ h1)
  have ee : nd_sets (dg_X12 a ac σ) [12] [dw_X3c (fun k => a (k + 43)) (fun k => ac (k + 43)) (τ)] = dg_X12 a ac (σ.1, (σ.2.1, (σ.2.2.1, (σ.2.2.2.1, (σ.2.2.2.2.1, (σ.2.2.2.2.2.1, (τ, σ.2.2.2.2.2.2.2))))))) := rfl
  have hz : va_P D vwCl (dg_X12 a ac (σ.1, (σ.2.1, (σ.2.2.1, (σ.2.2.2.1, (σ.2.2.2.2.1, (σ.2.2.2.2.2.1, (τ, σ.2.2.2.2.2.2.2)))))))).flatten H1 := by rw [← ee]; exact h
  exact ⟨hz, nd_Da hD dA_X12⟩
set_option maxHeartbeats 40000000 in
set_option maxRecDepth 100000 in
theorem de_wX12_X3c_22 {a : Nat → Nat} {ac : Nat → ClassId} {τ : St} : ([dw_X3c (fun k => a (k + 48)) (fun k => ac (k + 48)) (τ)] : List va_W).flatten = dw_X3c (fun k => a (k + 48)) (fun k => ac (k + 48)) τ := by
  first
  | (simp only [List.flatten_cons, List.flatten_nil, List.append_nil]; done)
  | (simp only [List.flatten_cons, List.flatten_nil, List.append_nil]; rfl)
set_option maxHeartbeats 40000000 in
set_option maxRecDepth 100000 in
theorem dp_wX12_X3c_22 {D : va_G} {H : Heap} {a : Nat → Nat} {ac : Nat → ClassId} {σ : St × Rw × (St) × (St × (St)) × (St) × (St × (St × (St × (St)))) × (St) × (St) × (Nat → St) × (Nat → St) × (Nat → St × (St))} (h : va_P D vwCl (dw_X12 a ac σ) H) : va_P D vwCl (dw_X3c (fun k => a (k + 48)) (fun k => ac (k + 48)) σ.2.2.2.2.2.2.2.1) H := by
  have h2 := nd_vp (segs := dg_X12 a ac σ) (ix := [13]) (old := [dw_X3c (fun k => a (k + 48)) (fun k => ac (k + 48)) (σ.2.2.2.2.2.2.2.1)]) h (nd_co rfl rfl)
  have e := de_wX12_X3c_22 (a := a) (ac := ac) (τ := σ.2.2.2.2.2.2.2.1)
  exact e ▸ h2
set_option maxHeartbeats 40000000 in
set_option maxRecDepth 100000 in
theorem dd_wX12_X3c_22 {A : Nat → Prop} {a : Nat → Nat} {ac : Nat → ClassId} {σ : St × Rw × (St) × (St × (St)) × (St) × (St × (St × (St × (St)))) × (St) × (St) × (Nat → St) × (Nat → St) × (Nat → St × (St))} (h : va_D A (dw_X12 a ac σ)) : va_D A (dw_X3c (fun k => a (k + 48)) (fun k => ac (k + 48)) σ.2.2.2.2.2.2.2.1) := by
  have h2 := nd_vd (segs := dg_X12 a ac σ) (ix := [13]) (old := [dw_X3c (fun k => a (k + 48)) (fun k => ac (k + 48)) (σ.2.2.2.2.2.2.2.1)]) h (nd_co rfl rfl) (by decide)
  have e := de_wX12_X3c_22 (a := a) (ac := ac) (τ := σ.2.2.2.2.2.2.2.1)
  exact e ▸ h2
set_option maxHeartbeats 40000000 in
set_option maxRecDepth 100000 in
theorem dy_wX12_X3c_22 {D : va_G} {U : State} {ac : Nat → ClassId} (h : va_K D vwCl (dk_X12 ac) U) : va_K D vwCl (dk_X3c (fun k => ac (k + 48))) U := (h.sub [39, 40, 41, 42] rfl)
set_option maxHeartbeats 40000000 in
set_option maxRecDepth 100000 in
theorem dn_wX12_X3c_22 {A0 : Nat → Prop} {D : va_G} {H H1 : Heap} {a : Nat → Nat} {ac : Nat → ClassId} {σ : St × Rw × (St) × (St × (St)) × (St) × (St × (St × (St × (St)))) × (St) × (St) × (Nat → St) × (Nat → St) × (Nat → St × (St))} {τ : St} (hP : va_P D vwCl (dw_X12 a ac σ) H) (hD : va_D A0 (dw_X12 a ac σ)) (hA : ∀ q : Nat, H.size ≤ q → A0 q) (hk : ∀ q : Nat, q < H.size → ¬ va_A (dw_X3c (fun k => a (k + 48)) (fun k => ac (k + 48)) σ.2.2.2.2.2.2.2.1) H.size q → H1[q]? = H[q]?) (h1 : va_P D vwCl (dw_X3c (fun k => a (k + 48)) (fun k => ac (k + 48)) τ) H1) (h2 : va_D (va_A (dw_X3c (fun k => a (k + 48)) (fun k => ac (k + 48)) σ.2.2.2.2.2.2.2.1) H.size) (dw_X3c (fun k => a (k + 48)) (fun k => ac (k + 48)) τ)) : va_P D vwCl (dw_X12 a ac (σ.1, (σ.2.1, (σ.2.2.1, (σ.2.2.2.1, (σ.2.2.2.2.1, (σ.2.2.2.2.2.1, (σ.2.2.2.2.2.2.1, (τ, σ.2.2.2.2.2.2.2.2))))))))) H1 ∧ va_D A0 (dw_X12 a ac (σ.1, (σ.2.1, (σ.2.2.1, (σ.2.2.2.1, (σ.2.2.2.2.1, (σ.2.2.2.2.2.1, (σ.2.2.2.2.2.2.1, (τ, σ.2.2.2.2.2.2.2.2))))))))) := by
  have eo := de_wX12_X3c_22 (a := a) (ac := ac) (τ := σ.2.2.2.2.2.2.2.1)
  have en := de_wX12_X3c_22 (a := a) (ac := ac) (τ := τ)
  have h := nd_vn (segs := dg_X12 a ac σ) (ix := [13]) (old := [dw_X3c (fun k => a (k + 48)) (fun k => ac (k + 48)) (σ.2.2.2.2.2.2.2.1)]) (new := [dw_X3c (fun k => a (k + 48)) (fun k => ac (k + 48)) (τ)]) hP hD (nd_co rfl rfl) rfl (fun q z y => hk q z (fun w => y (eo ▸ w))) (en ▸ h1)
  have ee : nd_sets (dg_X12 a ac σ) [13] [dw_X3c (fun k => a (k + 48)) (fun k => ac (k + 48)) (τ)] = dg_X12 a ac (σ.1, (σ.2.1, (σ.2.2.1, (σ.2.2.2.1, (σ.2.2.2.2.1, (σ.2.2.2.2.2.1, (σ.2.2.2.2.2.2.1, (τ, σ.2.2.2.2.2.2.2.2)))))))) := rfl
  have hz : va_P D vwCl (dg_X12 a ac (σ.1, (σ.2.1, (σ.2.2.1, (σ.2.2.2.1, (σ.2.2.2.2.1, (σ.2.2.2.2.2.1, (σ.2.2.2.2.2.2.1, (τ, σ.2.2.2.2.2.2.2.2))))))))).flatten H1 := by rw [← ee]; exact h
  exact ⟨hz, nd_Da hD dA_X12⟩
def ow_dm_X12_event : List Cond := Cond.code yX12_event cX12_event 3 (some .long) :: ([Cond.fieldLink RX12 33 "TimeMachine" "timeline" "LTimeMachine$Timeline;", Cond.fieldLink RX12 280 "TimeMachine$Timeline" "events" "LTimeMachine$Events;", Cond.methodLink RX12 290 yX3_told, Cond.instanceMethod yX3_told, Cond.selects RX3 yX3_told yX3_told, Cond.initialized RX3] ++ (u_ws RX12 TX12 12 ++ (u_ws RX11 TX11 16 ++ (ow_dm_X3_told ++ []))))
theorem gd_dm_X12_event : ∀ w ∈ ow_dm_X12_event, (w.onTables && w.keeps) = true ∨ ∃ ty, w = Cond.arrayClass ty := List.forall_mem_cons.mpr ⟨good_of_word rfl, List.forall_mem_append.mpr ⟨fun w h => good_of_word (List.all_eq_true.mp (by decide +kernel) w h), List.forall_mem_append.mpr ⟨gu_X12, List.forall_mem_append.mpr ⟨gu_X11, List.forall_mem_append.mpr ⟨gd_dm_X3_told, fun _ h => nomatch h⟩⟩⟩⟩⟩
theorem hi_dm_X12_event_X12 : ∀ w ∈ u_ws RX12 TX12 12, w ∈ ow_dm_X12_event := fun w h => List.mem_cons_of_mem _ (List.mem_append_right _ (List.mem_append_left _ h))
theorem hi_dm_X12_event_X11 : ∀ w ∈ u_ws RX11 TX11 16, w ∈ ow_dm_X12_event := fun w h => List.mem_cons_of_mem _ (List.mem_append_right _ (List.mem_append_right _ (List.mem_append_left _ h)))
theorem gi_dm_X12_event_0 : GoodIn ow_dm_X12_event (wsV RX12 290 RX3 yX3_told ow_dm_X3_told) := goodIn_app (goodIn_of _ (by decide +kernel)) (fun w h => ⟨List.mem_cons_of_mem _ (List.mem_append_right _ (List.mem_append_right _ (List.mem_append_right _ (List.mem_append_left _ h)))), gd_dm_X3_told w h⟩)
def dj_X12_event_0 (p : Program) (l : Launch) (e : Env) (s : State) (m : MethodId) (args : Array Value) (below : List Frame) (meth : Method) (c : Code) (Q : State → Prop) (A : Nat → Prop) (dC : Nat → ClassId) (dI : Nat → Nat → Nat) (a : Nat → Nat) (ac : Nat → ClassId) (g : Int32 → Int32 → (St × Rw × (St) × (St × (St)) × (St) × (St × (St × (St × (St)))) × (St) × (St) × (Nat → St) × (Nat → St) × (Nat → St × (St))) → Option (Int64 × (St × Rw × (St) × (St × (St)) × (St) × (St × (St × (St × (St)))) × (St) × (St) × (Nat → St) × (Nat → St) × (Nat → St × (St))))) (r : Int64 × (St × Rw × (St) × (St × (St)) × (St) × (St × (St × (St × (St)))) × (St) × (St) × (Nat → St) × (Nat → St) × (Nat → St × (St)))) : Prop := ∀ (v0 : Int32) (v1 : Int32) (s0 : St × Rw × (St) × (St × (St)) × (St) × (St × (St × (St × (St)))) × (St) × (St) × (Nat → St) × (Nat → St) × (Nat → St × (St))) (H : Heap) (locs : List Loc) (ls : Array Slot), g v0 v1 s0 = some r → va_P (dC, dI) vwCl (dw_X12 a ac s0) H → va_D A (dw_X12 a ac s0) → va_S A s.heap H locs → lv_has ls 3 [(0, .ref (a 0)), (1, .int v0), (2, .int v1)] → W p l e (headSpec ow_dm_X12_event ({ frames := 1, cells := 0, slots := 0, locals := 22 })).room s m args below meth c H locs 0 0 Q (F0 m 0 ls [])
set_option maxHeartbeats 40000000 in
set_option maxRecDepth 100000 in
theorem db_X12_event_0 {p : Program} {l : Launch} {e : Env} {s : State} {m : MethodId} {args : Array Value} {below : List Frame} {meth : Method} {c : Code} {Q : State → Prop} {A : Nat → Prop} {dC : Nat → ClassId} {dI : Nat → Nat → Nat} {a : Nat → Nat} {ac : Nat → ClassId} {n : Nat} {r : Int64 × (St × Rw × (St) × (St × (St)) × (St) × (St × (St × (St × (St)))) × (St) × (St) × (Nat → St) × (Nat → St) × (Nat → St × (St)))} (C : nd_C p l s m args c A (dC, dI) cX12_event 3 RX12 ow_dm_X12_event (dk_X12 ac)) (K : nd_Kl p l e (headSpec ow_dm_X12_event ({ frames := 1, cells := 0, slots := 0, locals := 22 })).room s m args below meth c Q A (dC, dI) cX12_event (St × Rw × (St) × (St × (St)) × (St) × (St × (St × (St × (St)))) × (St) × (St) × (Nat → St) × (Nat → St) × (Nat → St × (St))) (dw_X12 a ac) r) : dj_X12_event_0 p l e s m args below meth c Q A dC dI a ac (df_X12_event_0 n (a 15) (a 3)) r := by
  obtain ⟨hlt, hx, hb, hml, hown, hts, hN, hA, hK⟩ := id C
  intro v0 v1 s0 H locs ls h hP hD hS hl
  unfold df_X12_event_0 at h
  refine lv_aload_n hx hb dX12_event_0 rfl (lv_at hl 0 rfl) ?_
  refine va_get (D := (dC, dI)) (ci := 13) (v := .ref (a 16)) (C := RX12) (T := TX12) (N := 12) hx hb hts hi_dm_X12_event_X12 hown hK hP 0 rfl rfl 6 (by decide) (hts (.fieldLink RX12 33 "TimeMachine" "timeline" "LTimeMachine$Timeline;") (List.mem_of_getElem? (i := 1) rfl)) (fun _ h9 => h9) rfl dX12_event_1 ?_
  by_cases o1 : sO s0.2.2.2.2.1 0 = some 27
  · have h := nd_pos h o1
    refine va_get (D := (dC, dI)) (ci := 12) (v := .ref (a 43)) (C := RX11) (T := TX11) (N := 16) hx hb hts hi_dm_X12_event_X11 hown hK hP 16 rfl rfl 1 (by decide) (hts (.fieldLink RX12 280 "TimeMachine$Timeline" "events" "LTimeMachine$Events;") (List.mem_of_getElem? (i := 2) rfl)) (fun _ h9 => h9) (congrArg (fun z => some (va_rf (Option.map (fun k => a (k + 16)) z))) o1) dX12_event_4 ?_
    refine lv_iload_n hx hb dX12_event_7 rfl (lv_at hl 1 rfl) ?_
    refine lv_iload_n hx hb dX12_event_8 rfl (lv_at hl 2 rfl) ?_
    obtain ⟨q2, s3, hq, h⟩ := nd_b2_e h
    have hPc := dp_wX12_X3c_21 hP
    have hDc := dd_wX12_X3c_21 hD
    have hKc := dy_wX12_X3c_21 hK
    have hFc := nd_rs hDc hS hA
    have hzA : ∀ q : Nat, H.size ≤ q → A q := fun q h => hA q (Nat.le_trans hS.1 h)
    refine nd_cVl (As := [.int v0, .int v1]) (rest := []) (q := q2) (w' := dw_X3c (fun k => a (k + 43)) (fun k => ac (k + 43)) s3) ⟨hx, hb, hml, hown, hts⟩ (fun sz => dm_X3_told l hlt dC dI (fun k => a (k + 43)) (fun k => ac (k + 43)) n (v0) (v1) s0.2.2.2.2.2.2.1 hq sz) (cwV 2 hts gi_dm_X12_event_0 rfl rfl rfl (by decide +kernel) ⟨Nat.le_of_ble_eq_true rfl, Nat.le_of_ble_eq_true rfl⟩) hPc hDc hKc hS hA hN (va_recv hKc hPc (ci := 4) (q0 := 0) rfl rfl) rfl hl.1 rfl (Nat.le_of_ble_eq_true rfl) dX12_event_9 (fun H locs hP1 hD1 hk1 hS => ?_)
    obtain ⟨hP, hD⟩ := dn_wX12_X3c_21 hP hD hzA hk1 hP1 hD1
    obtain ⟨s5, es5, h⟩ := nd_let_e h
    have hP : va_P (dC, dI) vwCl (dw_X12 a ac s5) H := by rw [es5]; exact hP
    have hD : va_D A (dw_X12 a ac s5) := by rw [es5]; exact hD
    have o1 : sO s5.2.2.2.2.1 0 = some 27 := by rw [es5]; exact o1
    exact K _ _ _ _ _ _ dX12_event_12 (Option.some.inj h).symm hP hD hS
  have h := nd_neg h o1
  by_cases o6 : sO s0.2.2.2.2.1 0 = some 32
  · have h := nd_pos h o6
    refine va_get (D := (dC, dI)) (ci := 12) (v := .ref (a 48)) (C := RX11) (T := TX11) (N := 16) hx hb hts hi_dm_X12_event_X11 hown hK hP 16 rfl rfl 1 (by decide) (hts (.fieldLink RX12 280 "TimeMachine$Timeline" "events" "LTimeMachine$Events;") (List.mem_of_getElem? (i := 2) rfl)) (fun _ h9 => h9) (congrArg (fun z => some (va_rf (Option.map (fun k => a (k + 16)) z))) o6) dX12_event_4 ?_
    refine lv_iload_n hx hb dX12_event_7 rfl (lv_at hl 1 rfl) ?_
    refine lv_iload_n hx hb dX12_event_8 rfl (lv_at hl 2 rfl) ?_
    obtain ⟨q7, s8, hq, h⟩ := nd_b2_e h
    have hPc := dp_wX12_X3c_22 hP
    have hDc := dd_wX12_X3c_22 hD
    have hKc := dy_wX12_X3c_22 hK
    have hFc := nd_rs hDc hS hA
    have hzA : ∀ q : Nat, H.size ≤ q → A q := fun q h => hA q (Nat.le_trans hS.1 h)
    refine nd_cVl (As := [.int v0, .int v1]) (rest := []) (q := q7) (w' := dw_X3c (fun k => a (k + 48)) (fun k => ac (k + 48)) s8) ⟨hx, hb, hml, hown, hts⟩ (fun sz => dm_X3_told l hlt dC dI (fun k => a (k + 48)) (fun k => ac (k + 48)) n (v0) (v1) s0.2.2.2.2.2.2.2.1 hq sz) (cwV 2 hts gi_dm_X12_event_0 rfl rfl rfl (by decide +kernel) ⟨Nat.le_of_ble_eq_true rfl, Nat.le_of_ble_eq_true rfl⟩) hPc hDc hKc hS hA hN (va_recv hKc hPc (ci := 4) (q0 := 0) rfl rfl) rfl hl.1 rfl (Nat.le_of_ble_eq_true rfl) dX12_event_9 (fun H locs hP1 hD1 hk1 hS => ?_)
    obtain ⟨hP, hD⟩ := dn_wX12_X3c_22 hP hD hzA hk1 hP1 hD1
    obtain ⟨s10, es10, h⟩ := nd_let_e h
    have hP : va_P (dC, dI) vwCl (dw_X12 a ac s10) H := by rw [es10]; exact hP
    have hD : va_D A (dw_X12 a ac s10) := by rw [es10]; exact hD
    have o6 : sO s10.2.2.2.2.1 0 = some 32 := by rw [es10]; exact o6
    exact K _ _ _ _ _ _ dX12_event_12 (Option.some.inj h).symm hP hD hS
  have h := nd_neg h o6
  exact nomatch h
set_option maxHeartbeats 40000000 in
set_option maxRecDepth 100000 in
theorem dm_X12_event (l : Launch) (hlt : l.stackTraces = false) (dC : Nat → ClassId) (dI : Nat → Nat → Nat) (a : Nat → Nat) (ac : Nat → ClassId) (n : Nat) (v0 : Int32) (v1 : Int32) (s0 : St × Rw × (St) × (St × (St)) × (St) × (St × (St × (St × (St)))) × (St) × (St) × (Nat → St) × (Nat → St) × (Nat → St × (St))) {r : Int64 × (St × Rw × (St) × (St × (St)) × (St) × (St × (St × (St × (St)))) × (St) × (St) × (Nat → St) × (Nat → St) × (Nat → St × (St)))} (h : df_X12_event n (a 15) (a 3) v0 v1 s0 = some r) (sz : Nat) : Met l yX12_event ow_dm_X12_event ({ frames := 1, cells := 0, slots := 0, locals := 22 }) (va_Pc [.ref (a 0), .int v0, .int v1] (fun U => U.heap.size = sz ∧ va_P (dC, dI) vwCl (dw_X12 a ac s0) U.heap ∧ va_K (dC, dI) vwCl (dk_X12 ac) U ∧ va_D (fun _ => True) (dw_X12 a ac s0) ∧ nv_E dI (va_A (dw_X12 a ac s0) sz) U)) (va_Ql (fun x _ => x = r.1) (fun (_ : Unit) t => va_P (dC, dI) vwCl (dw_X12 a ac r.2) t.heap ∧ va_K (dC, dI) vwCl (dk_X12 ac) t ∧ va_D (va_A (dw_X12 a ac s0) sz) (dw_X12 a ac r.2)) (va_A (dw_X12 a ac s0) sz)) 0 0 (va_A (dw_X12 a ac s0) sz) := by
  refine Met.ofW (cc := cX12_event) (maxL := 3) (ret := (some .long)) (by decide) rfl ?_
  intro p e s m args below meth c s₁ B hml hv
  obtain ⟨rfl, hsz, hP, hK, hD0, hN⟩ := hv
  have hx := B.exec
  have hb := B.bytes
  have hr := B.returns
  have hts := atoms_spec (ws := ow_dm_X12_event) B.pre
  have hown : s.vm.findClass RX12 = some m.cls := findClass_of_methodNamed B.named
  have hlocks := B.notSynchronized
  subst hsz
  have hD := hD0.self (sz := s.heap.size)
  generalize hAe : va_A (dw_X12 a ac s0) s.heap.size = A at hD hN ⊢
  have hA : ∀ q : Nat, s.heap.size ≤ q → A q := fun q h => by rw [← hAe]; exact Or.inr h
  have hl := lv_entry ([.ref (a 0), .int v0, .int v1]) (n := 3) (Nat.le_of_ble_eq_true rfl)
  rw [lg_entry_eq]
  generalize (lg_sl ([.ref (a 0), .int v0, .int v1]) ++ List.replicate (3 - (lg_sl ([.ref (a 0), .int v0, .int v1])).length) Slot.unset).toArray = ls at hl ⊢
  have hl : lv_has ls 3 [(0, .ref (a 0)), (1, .int v0), (2, .int v1)] := hl
  exact db_X12_event_0 (dC := dC) (dI := dI) (a := a) (ac := ac) (n := n) (r := r) ⟨hlt, hx, hb, hml, hown, hts, hN, hA, hK⟩ (fun pc v τ H locs ls d er hP hD hS => by subst er; exact W.lret (v := v) hx hb hr (fun t ht hW => ⟨⟨v, (), rfl, rfl, by rw [ht]; exact hP, va_K.moved hW.alike hK, hD⟩, hS.F ht⟩) hS.2.2 d) v0 v1 s0 _ _ _ h hP hD va_S.rf (lv_sub hl [0, 1, 2] rfl)

