set_option maxHeartbeats 40000000 in
set_option maxRecDepth 100000 in
theorem dm_X13_jumpBits (l : Launch) (hlt : l.stackTraces = false) (dC : Nat → ClassId) (dI : Nat → Nat → Nat) (a : Nat → Nat) (ac : Nat → ClassId) (n : Nat) (v0 : Int32) (s0 : Unit) {r : Int32 × (Unit)} (h : df_X13_jumpBits n v0 s0 = some r) (sz : Nat) : Met l yX13_jumpBits ow_dm_X13_jumpBits ({ frames := 1, cells := 0, slots := 0, locals := 23 }) (va_Pc [.int v0] (fun U => U.heap.size = sz ∧ va_P (dC, dI) vwCl (dw_P a ac s0) U.heap ∧ va_K (dC, dI) vwCl (dk_P ac) U ∧ va_D (fun _ => True) (dw_P a ac s0) ∧ nv_E dI (va_A (dw_P a ac s0) sz) U)) (va_Qi (fun x _ => x = r.1) (fun (_ : Unit) t => va_P (dC, dI) vwCl (dw_P a ac r.2) t.heap ∧ va_K (dC, dI) vwCl (dk_P ac) t ∧ va_D (va_A (dw_P a ac s0) sz) (dw_P a ac r.2)) (va_A (dw_P a ac s0) sz)) 0 0 (va_A (dw_P a ac s0) sz) := by
  refine Met.ofW (cc := cX13_jumpBits) (maxL := 1) (ret := (some .int)) (by decide) rfl ?_
  intro p e s m args below meth c s₁ B hml hv
  obtain ⟨rfl, hsz, hP, hK, hD0, hN⟩ := hv
  have hx := B.exec
  have hb := B.bytes
  have hr := B.returns
  have hts := atoms_spec (ws := ow_dm_X13_jumpBits) B.pre
  have hown : s.vm.findClass RX13 = some m.cls := findClass_of_methodNamed B.named
  have hlocks := B.notSynchronized
  subst hsz
  have hD := hD0.self (sz := s.heap.size)
  generalize hAe : va_A (dw_P a ac s0) s.heap.size = A at hD hN ⊢
  have hA : ∀ q : Nat, s.heap.size ≤ q → A q := fun q h => by rw [← hAe]; exact Or.inr h
  have hl := lv_entry ([.int v0]) (n := 1) (Nat.le_of_ble_eq_true rfl)
  rw [lg_entry_eq]
  generalize (lg_sl ([.int v0]) ++ List.replicate (1 - (lg_sl ([.int v0])).length) Slot.unset).toArray = ls at hl ⊢
  have hl : lv_has ls 1 [(0, .int v0)] := hl
  exact db_X13_jumpBits_0 (dC := dC) (dI := dI) (a := a) (ac := ac) (n := n) (r := r) ⟨hlt, hx, hb, hml, hown, hts, hN, hA, hK⟩ (fun pc v τ H locs ls d z er hP hD hS => by subst er; exact W.zret (v := v) hx hb hr z (fun t ht hW => ⟨⟨v, (), rfl, rfl, by rw [ht]; exact hP, va_K.moved hW.alike hK, hD⟩, hS.F ht⟩) hS.2.2 d) v0 s0 _ _ _ h hP hD va_S.rf (lv_sub hl [0] rfl)
def ow_dm_X13_shortJump : List Cond := Cond.code yX13_shortJump cX13_shortJump 1 (some .int) :: ([Cond.methodLink RX13 550 yX13_bits, Cond.static yX13_bits, Cond.initialized RX13] ++ (ow_dm_X13_bits ++ []))
theorem gd_dm_X13_shortJump : ∀ w ∈ ow_dm_X13_shortJump, (w.onTables && w.keeps) = true ∨ ∃ ty, w = Cond.arrayClass ty := List.forall_mem_cons.mpr ⟨good_of_word rfl, List.forall_mem_append.mpr ⟨fun w h => good_of_word (List.all_eq_true.mp (by decide +kernel) w h), List.forall_mem_append.mpr ⟨gd_dm_X13_bits, fun _ h => nomatch h⟩⟩⟩
theorem gi_dm_X13_shortJump_0 : GoodIn ow_dm_X13_shortJump (wsS RX13 550 yX13_bits ow_dm_X13_bits) := goodIn_app (goodIn_of _ (by decide +kernel)) (fun w h => ⟨List.mem_cons_of_mem _ (List.mem_append_right _ (List.mem_append_left _ h)), gd_dm_X13_bits w h⟩)
def dj_X13_shortJump_0 (p : Program) (l : Launch) (e : Env) (s : State) (m : MethodId) (args : Array Value) (below : List Frame) (meth : Method) (c : Code) (Q : State → Prop) (A : Nat → Prop) (dC : Nat → ClassId) (dI : Nat → Nat → Nat) (a : Nat → Nat) (ac : Nat → ClassId) (g : Int32 → (Unit) → Option (Int32 × (Unit))) (r : Int32 × (Unit)) : Prop := ∀ (v0 : Int32) (s0 : Unit) (H : Heap) (locs : List Loc) (ls : Array Slot), g v0 s0 = some r → va_P (dC, dI) vwCl (dw_P a ac s0) H → va_D A (dw_P a ac s0) → va_S A s.heap H locs → lv_has ls 1 [(0, .int v0)] → W p l e (headSpec ow_dm_X13_shortJump ({ frames := 1, cells := 0, slots := 0, locals := 23 })).room s m args below meth c H locs 0 0 Q (F0 m 0 ls [])
set_option maxHeartbeats 40000000 in
set_option maxRecDepth 100000 in
theorem db_X13_shortJump_0 {p : Program} {l : Launch} {e : Env} {s : State} {m : MethodId} {args : Array Value} {below : List Frame} {meth : Method} {c : Code} {Q : State → Prop} {A : Nat → Prop} {dC : Nat → ClassId} {dI : Nat → Nat → Nat} {a : Nat → Nat} {ac : Nat → ClassId} {n : Nat} {r : Int32 × (Unit)} (C : nd_C p l s m args c A (dC, dI) cX13_shortJump 1 RX13 ow_dm_X13_shortJump (dk_P ac)) (K : nd_Ki p l e (headSpec ow_dm_X13_shortJump ({ frames := 1, cells := 0, slots := 0, locals := 23 })).room s m args below meth c Q A (dC, dI) cX13_shortJump .int (Unit) (dw_P a ac) r) : dj_X13_shortJump_0 p l e s m args below meth c Q A dC dI a ac (df_X13_shortJump_0 n) r := by
  obtain ⟨hlt, hx, hb, hml, hown, hts, hN, hA, hK⟩ := id C
  intro v0 s0 H locs ls h hP hD hS hl
  unfold df_X13_shortJump_0 at h
  refine lv_iload_n hx hb dX13_shortJump_0 rfl (lv_at hl 0 rfl) ?_
  refine lv_bipush (v := 11) hx hb dX13_shortJump_1 (by decide) ?_
  refine lv_bipush (v := 11) hx hb dX13_shortJump_3 (by decide) ?_
  refine lv_bipush (v := 12) hx hb dX13_shortJump_5 (by decide) ?_
  obtain ⟨q1, s2, hq, h⟩ := nd_b2_e h
  have hPc : va_P (dC, dI) vwCl (dw_P a ac ()) H := nd_p0
  have hDc : va_D A (dw_P a ac ()) := nd_d0
  have hKc : va_K (dC, dI) vwCl (dk_P ac) s := nd_y0 hK
  have hFc : ∀ q, va_A (dw_P a ac ()) H.size q → A q := nd_r0 hS hA
  refine nd_cSi (As := [.int v0, .int 11, .int 11, .int 12]) (rest := []) (q := q1) (w' := dw_P a ac s2) ⟨hx, hb, hml, hown, hts⟩ (fun sz => dm_X13_bits l hlt dC dI a ac n (v0) (11) (11) (12) () hq sz) (cwS 4 hts gi_dm_X13_shortJump_0 rfl rfl rfl (by decide +kernel) ⟨Nat.le_of_ble_eq_true rfl, Nat.le_of_ble_eq_true rfl⟩) hPc hDc hKc hS hA hN rfl hl.1 rfl (Nat.le_of_ble_eq_true rfl) dX13_shortJump_7 (fun H locs hP1 hD1 hk1 hS => ?_)
  have hP := nd_n0 hP hk1
  refine lv_iload_n hx hb dX13_shortJump_10 rfl (lv_at hl 0 rfl) ?_
  refine lv_iconst (v := 4) hx hb dX13_shortJump_11 (by decide) ?_
  refine lv_iconst (v := 4) hx hb dX13_shortJump_12 (by decide) ?_
  refine lv_bipush (v := 11) hx hb dX13_shortJump_13 (by decide) ?_
  obtain ⟨q4, s5, hq, h⟩ := nd_b2_e h
  have hPc : va_P (dC, dI) vwCl (dw_P a ac ()) H := nd_p0
  have hDc : va_D A (dw_P a ac ()) := nd_d0
  have hKc : va_K (dC, dI) vwCl (dk_P ac) s := nd_y0 hK
  have hFc : ∀ q, va_A (dw_P a ac ()) H.size q → A q := nd_r0 hS hA
  refine nd_cSi (As := [.int v0, .int 4, .int 4, .int 11]) (rest := [.int q1]) (q := q4) (w' := dw_P a ac s5) ⟨hx, hb, hml, hown, hts⟩ (fun sz => dm_X13_bits l hlt dC dI a ac n (v0) (4) (4) (11) () hq sz) (cwS 4 hts gi_dm_X13_shortJump_0 rfl rfl rfl (by decide +kernel) ⟨Nat.le_of_ble_eq_true rfl, Nat.le_of_ble_eq_true rfl⟩) hPc hDc hKc hS hA hN rfl hl.1 rfl (Nat.le_of_ble_eq_true rfl) dX13_shortJump_15 (fun H locs hP1 hD1 hk1 hS => ?_)
  have hP := nd_n0 hP hk1
  refine lv_ior hx hb dX13_shortJump_18 ?_
  refine lv_iload_n hx hb dX13_shortJump_19 rfl (lv_at hl 0 rfl) ?_
  refine lv_bipush (v := 9) hx hb dX13_shortJump_20 (by decide) ?_
  refine lv_bipush (v := 8) hx hb dX13_shortJump_22 (by decide) ?_
  refine lv_bipush (v := 9) hx hb dX13_shortJump_24 (by decide) ?_
  obtain ⟨q7, s8, hq, h⟩ := nd_b2_e h
  have hPc : va_P (dC, dI) vwCl (dw_P a ac ()) H := nd_p0
  have hDc : va_D A (dw_P a ac ()) := nd_d0
  have hKc : va_K (dC, dI) vwCl (dk_P ac) s := nd_y0 hK
  have hFc : ∀ q, va_A (dw_P a ac ()) H.size q → A q := nd_r0 hS hA
  refine nd_cSi (As := [.int v0, .int 9, .int 8, .int 9]) (rest := [.int (q1 ||| q4)]) (q := q7) (w' := dw_P a ac s8) ⟨hx, hb, hml, hown, hts⟩ (fun sz => dm_X13_bits l hlt dC dI a ac n (v0) (9) (8) (9) () hq sz) (cwS 4 hts gi_dm_X13_shortJump_0 rfl rfl rfl (by decide +kernel) ⟨Nat.le_of_ble_eq_true rfl, Nat.le_of_ble_eq_true rfl⟩) hPc hDc hKc hS hA hN rfl hl.1 rfl (Nat.le_of_ble_eq_true rfl) dX13_shortJump_26 (fun H locs hP1 hD1 hk1 hS => ?_)
  have hP := nd_n0 hP hk1
  refine lv_ior hx hb dX13_shortJump_29 ?_
  refine lv_iload_n hx hb dX13_shortJump_30 rfl (lv_at hl 0 rfl) ?_
  refine lv_bipush (v := 10) hx hb dX13_shortJump_31 (by decide) ?_
  refine lv_bipush (v := 10) hx hb dX13_shortJump_33 (by decide) ?_
  refine lv_bipush (v := 8) hx hb dX13_shortJump_35 (by decide) ?_
  obtain ⟨q10, s11, hq, h⟩ := nd_b2_e h
  have hPc : va_P (dC, dI) vwCl (dw_P a ac ()) H := nd_p0
  have hDc : va_D A (dw_P a ac ()) := nd_d0
  have hKc : va_K (dC, dI) vwCl (dk_P ac) s := nd_y0 hK
  have hFc : ∀ q, va_A (dw_P a ac ()) H.size q → A q := nd_r0 hS hA
  refine nd_cSi (As := [.int v0, .int 10, .int 10, .int 8]) (rest := [.int ((q1 ||| q4) ||| q7)]) (q := q10) (w' := dw_P a ac s11) ⟨hx, hb, hml, hown, hts⟩ (fun sz => dm_X13_bits l hlt dC dI a ac n (v0) (10) (10) (8) () hq sz) (cwS 4 hts gi_dm_X13_shortJump_0 rfl rfl rfl (by decide +kernel) ⟨Nat.le_of_ble_eq_true rfl, Nat.le_of_ble_eq_true rfl⟩) hPc hDc hKc hS hA hN rfl hl.1 rfl (Nat.le_of_ble_eq_true rfl) dX13_shortJump_37 (fun H locs hP1 hD1 hk1 hS => ?_)
  have hP := nd_n0 hP hk1
  refine lv_ior hx hb dX13_shortJump_40 ?_
  refine lv_iload_n hx hb dX13_shortJump_41 rfl (lv_at hl 0 rfl) ?_
  refine lv_bipush (v := 6) hx hb dX13_shortJump_42 (by decide) ?_
  refine lv_bipush (v := 6) hx hb dX13_shortJump_44 (by decide) ?_
  refine lv_bipush (v := 7) hx hb dX13_shortJump_46 (by decide) ?_
  obtain ⟨q13, s14, hq, h⟩ := nd_b2_e h
  have hPc : va_P (dC, dI) vwCl (dw_P a ac ()) H := nd_p0
  have hDc : va_D A (dw_P a ac ()) := nd_d0
  have hKc : va_K (dC, dI) vwCl (dk_P ac) s := nd_y0 hK
  have hFc : ∀ q, va_A (dw_P a ac ()) H.size q → A q := nd_r0 hS hA
  refine nd_cSi (As := [.int v0, .int 6, .int 6, .int 7]) (rest := [.int (((q1 ||| q4) ||| q7) ||| q10)]) (q := q13) (w' := dw_P a ac s14) ⟨hx, hb, hml, hown, hts⟩ (fun sz => dm_X13_bits l hlt dC dI a ac n (v0) (6) (6) (7) () hq sz) (cwS 4 hts gi_dm_X13_shortJump_0 rfl rfl rfl (by decide +kernel) ⟨Nat.le_of_ble_eq_true rfl, Nat.le_of_ble_eq_true rfl⟩) hPc hDc hKc hS hA hN rfl hl.1 rfl (Nat.le_of_ble_eq_true rfl) dX13_shortJump_48 (fun H locs hP1 hD1 hk1 hS => ?_)
  have hP := nd_n0 hP hk1
  refine lv_ior hx hb dX13_shortJump_51 ?_
  refine lv_iload_n hx hb dX13_shortJump_52 rfl (lv_at hl 0 rfl) ?_
  refine lv_bipush (v := 7) hx hb dX13_shortJump_53 (by decide) ?_
  refine lv_bipush (v := 7) hx hb dX13_shortJump_55 (by decide) ?_
  refine lv_bipush (v := 6) hx hb dX13_shortJump_57 (by decide) ?_
  obtain ⟨q16, s17, hq, h⟩ := nd_b2_e h
  have hPc : va_P (dC, dI) vwCl (dw_P a ac ()) H := nd_p0
  have hDc : va_D A (dw_P a ac ()) := nd_d0
  have hKc : va_K (dC, dI) vwCl (dk_P ac) s := nd_y0 hK
  have hFc : ∀ q, va_A (dw_P a ac ()) H.size q → A q := nd_r0 hS hA
  refine nd_cSi (As := [.int v0, .int 7, .int 7, .int 6]) (rest := [.int ((((q1 ||| q4) ||| q7) ||| q10) ||| q13)]) (q := q16) (w' := dw_P a ac s17) ⟨hx, hb, hml, hown, hts⟩ (fun sz => dm_X13_bits l hlt dC dI a ac n (v0) (7) (7) (6) () hq sz) (cwS 4 hts gi_dm_X13_shortJump_0 rfl rfl rfl (by decide +kernel) ⟨Nat.le_of_ble_eq_true rfl, Nat.le_of_ble_eq_true rfl⟩) hPc hDc hKc hS hA hN rfl hl.1 rfl (Nat.le_of_ble_eq_true rfl) dX13_shortJump_59 (fun H locs hP1 hD1 hk1 hS => ?_)
  have hP := nd_n0 hP hk1
  refine lv_ior hx hb dX13_shortJump_62 ?_
  refine lv_iload_n hx hb dX13_shortJump_63 rfl (lv_at hl 0 rfl) ?_
  refine lv_iconst (v := 3) hx hb dX13_shortJump_64 (by decide) ?_
  refine lv_iconst (v := 1) hx hb dX13_shortJump_65 (by decide) ?_
  refine lv_iconst (v := 3) hx hb dX13_shortJump_66 (by decide) ?_
  obtain ⟨q19, s20, hq, h⟩ := nd_b2_e h
  have hPc : va_P (dC, dI) vwCl (dw_P a ac ()) H := nd_p0
  have hDc : va_D A (dw_P a ac ()) := nd_d0
  have hKc : va_K (dC, dI) vwCl (dk_P ac) s := nd_y0 hK
  have hFc : ∀ q, va_A (dw_P a ac ()) H.size q → A q := nd_r0 hS hA
  refine nd_cSi (As := [.int v0, .int 3, .int 1, .int 3]) (rest := [.int (((((q1 ||| q4) ||| q7) ||| q10) ||| q13) ||| q16)]) (q := q19) (w' := dw_P a ac s20) ⟨hx, hb, hml, hown, hts⟩ (fun sz => dm_X13_bits l hlt dC dI a ac n (v0) (3) (1) (3) () hq sz) (cwS 4 hts gi_dm_X13_shortJump_0 rfl rfl rfl (by decide +kernel) ⟨Nat.le_of_ble_eq_true rfl, Nat.le_of_ble_eq_true rfl⟩) hPc hDc hKc hS hA hN rfl hl.1 rfl (Nat.le_of_ble_eq_true rfl) dX13_shortJump_67 (fun H locs hP1 hD1 hk1 hS => ?_)
  have hP := nd_n0 hP hk1
  refine lv_ior hx hb dX13_shortJump_70 ?_
  refine lv_iload_n hx hb dX13_shortJump_71 rfl (lv_at hl 0 rfl) ?_
  refine lv_iconst (v := 5) hx hb dX13_shortJump_72 (by decide) ?_
  refine lv_iconst (v := 5) hx hb dX13_shortJump_73 (by decide) ?_
  refine lv_iconst (v := 2) hx hb dX13_shortJump_74 (by decide) ?_
  obtain ⟨q22, s23, hq, h⟩ := nd_b2_e h
  have hPc : va_P (dC, dI) vwCl (dw_P a ac ()) H := nd_p0
  have hDc : va_D A (dw_P a ac ()) := nd_d0
  have hKc : va_K (dC, dI) vwCl (dk_P ac) s := nd_y0 hK
  have hFc : ∀ q, va_A (dw_P a ac ()) H.size q → A q := nd_r0 hS hA
  refine nd_cSi (As := [.int v0, .int 5, .int 5, .int 2]) (rest := [.int ((((((q1 ||| q4) ||| q7) ||| q10) ||| q13) ||| q16) ||| q19)]) (q := q22) (w' := dw_P a ac s23) ⟨hx, hb, hml, hown, hts⟩ (fun sz => dm_X13_bits l hlt dC dI a ac n (v0) (5) (5) (2) () hq sz) (cwS 4 hts gi_dm_X13_shortJump_0 rfl rfl rfl (by decide +kernel) ⟨Nat.le_of_ble_eq_true rfl, Nat.le_of_ble_eq_true rfl⟩) hPc hDc hKc hS hA hN rfl hl.1 rfl (Nat.le_of_ble_eq_true rfl) dX13_shortJump_75 (fun H locs hP1 hD1 hk1 hS => ?_)
  have hP := nd_n0 hP hk1
  refine lv_ior hx hb dX13_shortJump_78 ?_
  exact K _ _ _ _ _ _ dX13_shortJump_79 rfl (Option.some.inj h).symm hP hD hS
set_option maxHeartbeats 40000000 in
set_option maxRecDepth 100000 in
theorem dm_X13_shortJump (l : Launch) (hlt : l.stackTraces = false) (dC : Nat → ClassId) (dI : Nat → Nat → Nat) (a : Nat → Nat) (ac : Nat → ClassId) (n : Nat) (v0 : Int32) (s0 : Unit) {r : Int32 × (Unit)} (h : df_X13_shortJump n v0 s0 = some r) (sz : Nat) : Met l yX13_shortJump ow_dm_X13_shortJump ({ frames := 1, cells := 0, slots := 0, locals := 23 }) (va_Pc [.int v0] (fun U => U.heap.size = sz ∧ va_P (dC, dI) vwCl (dw_P a ac s0) U.heap ∧ va_K (dC, dI) vwCl (dk_P ac) U ∧ va_D (fun _ => True) (dw_P a ac s0) ∧ nv_E dI (va_A (dw_P a ac s0) sz) U)) (va_Qi (fun x _ => x = r.1) (fun (_ : Unit) t => va_P (dC, dI) vwCl (dw_P a ac r.2) t.heap ∧ va_K (dC, dI) vwCl (dk_P ac) t ∧ va_D (va_A (dw_P a ac s0) sz) (dw_P a ac r.2)) (va_A (dw_P a ac s0) sz)) 0 0 (va_A (dw_P a ac s0) sz) := by
  refine Met.ofW (cc := cX13_shortJump) (maxL := 1) (ret := (some .int)) (by decide) rfl ?_
  intro p e s m args below meth c s₁ B hml hv
  obtain ⟨rfl, hsz, hP, hK, hD0, hN⟩ := hv
  have hx := B.exec
  have hb := B.bytes
  have hr := B.returns
  have hts := atoms_spec (ws := ow_dm_X13_shortJump) B.pre
  have hown : s.vm.findClass RX13 = some m.cls := findClass_of_methodNamed B.named
  have hlocks := B.notSynchronized
  subst hsz
  have hD := hD0.self (sz := s.heap.size)
  generalize hAe : va_A (dw_P a ac s0) s.heap.size = A at hD hN ⊢
  have hA : ∀ q : Nat, s.heap.size ≤ q → A q := fun q h => by rw [← hAe]; exact Or.inr h
  have hl := lv_entry ([.int v0]) (n := 1) (Nat.le_of_ble_eq_true rfl)
  rw [lg_entry_eq]
  generalize (lg_sl ([.int v0]) ++ List.replicate (1 - (lg_sl ([.int v0])).length) Slot.unset).toArray = ls at hl ⊢
  have hl : lv_has ls 1 [(0, .int v0)] := hl
  exact db_X13_shortJump_0 (dC := dC) (dI := dI) (a := a) (ac := ac) (n := n) (r := r) ⟨hlt, hx, hb, hml, hown, hts, hN, hA, hK⟩ (fun pc v τ H locs ls d z er hP hD hS => by subst er; exact W.zret (v := v) hx hb hr z (fun t ht hW => ⟨⟨v, (), rfl, rfl, by rw [ht]; exact hP, va_K.moved hW.alike hK, hD⟩, hS.F ht⟩) hS.2.2 d) v0 s0 _ _ _ h hP hD va_S.rf (lv_sub hl [0] rfl)
def ow_dm_X13_shortBranch : List Cond := Cond.code yX13_shortBranch cX13_shortBranch 1 (some .int) :: ([Cond.methodLink RX13 550 yX13_bits, Cond.static yX13_bits, Cond.initialized RX13] ++ (ow_dm_X13_bits ++ []))
theorem gd_dm_X13_shortBranch : ∀ w ∈ ow_dm_X13_shortBranch, (w.onTables && w.keeps) = true ∨ ∃ ty, w = Cond.arrayClass ty := List.forall_mem_cons.mpr ⟨good_of_word rfl, List.forall_mem_append.mpr ⟨fun w h => good_of_word (List.all_eq_true.mp (by decide +kernel) w h), List.forall_mem_append.mpr ⟨gd_dm_X13_bits, fun _ h => nomatch h⟩⟩⟩
theorem gi_dm_X13_shortBranch_0 : GoodIn ow_dm_X13_shortBranch (wsS RX13 550 yX13_bits ow_dm_X13_bits) := goodIn_app (goodIn_of _ (by decide +kernel)) (fun w h => ⟨List.mem_cons_of_mem _ (List.mem_append_right _ (List.mem_append_left _ h)), gd_dm_X13_bits w h⟩)
def dj_X13_shortBranch_0 (p : Program) (l : Launch) (e : Env) (s : State) (m : MethodId) (args : Array Value) (below : List Frame) (meth : Method) (c : Code) (Q : State → Prop) (A : Nat → Prop) (dC : Nat → ClassId) (dI : Nat → Nat → Nat) (a : Nat → Nat) (ac : Nat → ClassId) (g : Int32 → (Unit) → Option (Int32 × (Unit))) (r : Int32 × (Unit)) : Prop := ∀ (v0 : Int32) (s0 : Unit) (H : Heap) (locs : List Loc) (ls : Array Slot), g v0 s0 = some r → va_P (dC, dI) vwCl (dw_P a ac s0) H → va_D A (dw_P a ac s0) → va_S A s.heap H locs → lv_has ls 1 [(0, .int v0)] → W p l e (headSpec ow_dm_X13_shortBranch ({ frames := 1, cells := 0, slots := 0, locals := 23 })).room s m args below meth c H locs 0 0 Q (F0 m 0 ls [])
set_option maxHeartbeats 40000000 in
set_option maxRecDepth 100000 in
theorem db_X13_shortBranch_0 {p : Program} {l : Launch} {e : Env} {s : State} {m : MethodId} {args : Array Value} {below : List Frame} {meth : Method} {c : Code} {Q : State → Prop} {A : Nat → Prop} {dC : Nat → ClassId} {dI : Nat → Nat → Nat} {a : Nat → Nat} {ac : Nat → ClassId} {n : Nat} {r : Int32 × (Unit)} (C : nd_C p l s m args c A (dC, dI) cX13_shortBranch 1 RX13 ow_dm_X13_shortBranch (dk_P ac)) (K : nd_Ki p l e (headSpec ow_dm_X13_shortBranch ({ frames := 1, cells := 0, slots := 0, locals := 23 })).room s m args below meth c Q A (dC, dI) cX13_shortBranch .int (Unit) (dw_P a ac) r) : dj_X13_shortBranch_0 p l e s m args below meth c Q A dC dI a ac (df_X13_shortBranch_0 n) r := by
  obtain ⟨hlt, hx, hb, hml, hown, hts, hN, hA, hK⟩ := id C
  intro v0 s0 H locs ls h hP hD hS hl
  unfold df_X13_shortBranch_0 at h
  refine lv_iload_n hx hb dX13_shortBranch_0 rfl (lv_at hl 0 rfl) ?_
  refine lv_bipush (v := 8) hx hb dX13_shortBranch_1 (by decide) ?_
  refine lv_bipush (v := 8) hx hb dX13_shortBranch_3 (by decide) ?_
  refine lv_bipush (v := 12) hx hb dX13_shortBranch_5 (by decide) ?_
  obtain ⟨q1, s2, hq, h⟩ := nd_b2_e h
  have hPc : va_P (dC, dI) vwCl (dw_P a ac ()) H := nd_p0
  have hDc : va_D A (dw_P a ac ()) := nd_d0
  have hKc : va_K (dC, dI) vwCl (dk_P ac) s := nd_y0 hK
  have hFc : ∀ q, va_A (dw_P a ac ()) H.size q → A q := nd_r0 hS hA
  refine nd_cSi (As := [.int v0, .int 8, .int 8, .int 12]) (rest := []) (q := q1) (w' := dw_P a ac s2) ⟨hx, hb, hml, hown, hts⟩ (fun sz => dm_X13_bits l hlt dC dI a ac n (v0) (8) (8) (12) () hq sz) (cwS 4 hts gi_dm_X13_shortBranch_0 rfl rfl rfl (by decide +kernel) ⟨Nat.le_of_ble_eq_true rfl, Nat.le_of_ble_eq_true rfl⟩) hPc hDc hKc hS hA hN rfl hl.1 rfl (Nat.le_of_ble_eq_true rfl) dX13_shortBranch_7 (fun H locs hP1 hD1 hk1 hS => ?_)
  have hP := nd_n0 hP hk1
  refine lv_iload_n hx hb dX13_shortBranch_10 rfl (lv_at hl 0 rfl) ?_
  refine lv_iconst (v := 4) hx hb dX13_shortBranch_11 (by decide) ?_
  refine lv_iconst (v := 3) hx hb dX13_shortBranch_12 (by decide) ?_
  refine lv_bipush (v := 10) hx hb dX13_shortBranch_13 (by decide) ?_
  obtain ⟨q4, s5, hq, h⟩ := nd_b2_e h
  have hPc : va_P (dC, dI) vwCl (dw_P a ac ()) H := nd_p0
  have hDc : va_D A (dw_P a ac ()) := nd_d0
  have hKc : va_K (dC, dI) vwCl (dk_P ac) s := nd_y0 hK
  have hFc : ∀ q, va_A (dw_P a ac ()) H.size q → A q := nd_r0 hS hA
  refine nd_cSi (As := [.int v0, .int 4, .int 3, .int 10]) (rest := [.int q1]) (q := q4) (w' := dw_P a ac s5) ⟨hx, hb, hml, hown, hts⟩ (fun sz => dm_X13_bits l hlt dC dI a ac n (v0) (4) (3) (10) () hq sz) (cwS 4 hts gi_dm_X13_shortBranch_0 rfl rfl rfl (by decide +kernel) ⟨Nat.le_of_ble_eq_true rfl, Nat.le_of_ble_eq_true rfl⟩) hPc hDc hKc hS hA hN rfl hl.1 rfl (Nat.le_of_ble_eq_true rfl) dX13_shortBranch_15 (fun H locs hP1 hD1 hk1 hS => ?_)
  have hP := nd_n0 hP hk1
  refine lv_ior hx hb dX13_shortBranch_18 ?_
  refine lv_iload_n hx hb dX13_shortBranch_19 rfl (lv_at hl 0 rfl) ?_
  refine lv_bipush (v := 7) hx hb dX13_shortBranch_20 (by decide) ?_
  refine lv_bipush (v := 6) hx hb dX13_shortBranch_22 (by decide) ?_
  refine lv_iconst (v := 5) hx hb dX13_shortBranch_24 (by decide) ?_
  obtain ⟨q7, s8, hq, h⟩ := nd_b2_e h
  have hPc : va_P (dC, dI) vwCl (dw_P a ac ()) H := nd_p0
  have hDc : va_D A (dw_P a ac ()) := nd_d0
  have hKc : va_K (dC, dI) vwCl (dk_P ac) s := nd_y0 hK
  have hFc : ∀ q, va_A (dw_P a ac ()) H.size q → A q := nd_r0 hS hA
  refine nd_cSi (As := [.int v0, .int 7, .int 6, .int 5]) (rest := [.int (q1 ||| q4)]) (q := q7) (w' := dw_P a ac s8) ⟨hx, hb, hml, hown, hts⟩ (fun sz => dm_X13_bits l hlt dC dI a ac n (v0) (7) (6) (5) () hq sz) (cwS 4 hts gi_dm_X13_shortBranch_0 rfl rfl rfl (by decide +kernel) ⟨Nat.le_of_ble_eq_true rfl, Nat.le_of_ble_eq_true rfl⟩) hPc hDc hKc hS hA hN rfl hl.1 rfl (Nat.le_of_ble_eq_true rfl) dX13_shortBranch_25 (fun H locs hP1 hD1 hk1 hS => ?_)
  have hP := nd_n0 hP hk1
  refine lv_ior hx hb dX13_shortBranch_28 ?_
  refine lv_iload_n hx hb dX13_shortBranch_29 rfl (lv_at hl 0 rfl) ?_
  refine lv_iconst (v := 2) hx hb dX13_shortBranch_30 (by decide) ?_
  refine lv_iconst (v := 1) hx hb dX13_shortBranch_31 (by decide) ?_
  refine lv_iconst (v := 3) hx hb dX13_shortBranch_32 (by decide) ?_
  obtain ⟨q10, s11, hq, h⟩ := nd_b2_e h
  have hPc : va_P (dC, dI) vwCl (dw_P a ac ()) H := nd_p0
  have hDc : va_D A (dw_P a ac ()) := nd_d0
  have hKc : va_K (dC, dI) vwCl (dk_P ac) s := nd_y0 hK
  have hFc : ∀ q, va_A (dw_P a ac ()) H.size q → A q := nd_r0 hS hA
  refine nd_cSi (As := [.int v0, .int 2, .int 1, .int 3]) (rest := [.int ((q1 ||| q4) ||| q7)]) (q := q10) (w' := dw_P a ac s11) ⟨hx, hb, hml, hown, hts⟩ (fun sz => dm_X13_bits l hlt dC dI a ac n (v0) (2) (1) (3) () hq sz) (cwS 4 hts gi_dm_X13_shortBranch_0 rfl rfl rfl (by decide +kernel) ⟨Nat.le_of_ble_eq_true rfl, Nat.le_of_ble_eq_true rfl⟩) hPc hDc hKc hS hA hN rfl hl.1 rfl (Nat.le_of_ble_eq_true rfl) dX13_shortBranch_33 (fun H locs hP1 hD1 hk1 hS => ?_)
  have hP := nd_n0 hP hk1
  refine lv_ior hx hb dX13_shortBranch_36 ?_
  refine lv_iload_n hx hb dX13_shortBranch_37 rfl (lv_at hl 0 rfl) ?_
  refine lv_iconst (v := 5) hx hb dX13_shortBranch_38 (by decide) ?_
  refine lv_iconst (v := 5) hx hb dX13_shortBranch_39 (by decide) ?_
  refine lv_iconst (v := 2) hx hb dX13_shortBranch_40 (by decide) ?_
  obtain ⟨q13, s14, hq, h⟩ := nd_b2_e h
  have hPc : va_P (dC, dI) vwCl (dw_P a ac ()) H := nd_p0
  have hDc : va_D A (dw_P a ac ()) := nd_d0
  have hKc : va_K (dC, dI) vwCl (dk_P ac) s := nd_y0 hK
  have hFc : ∀ q, va_A (dw_P a ac ()) H.size q → A q := nd_r0 hS hA
  refine nd_cSi (As := [.int v0, .int 5, .int 5, .int 2]) (rest := [.int (((q1 ||| q4) ||| q7) ||| q10)]) (q := q13) (w' := dw_P a ac s14) ⟨hx, hb, hml, hown, hts⟩ (fun sz => dm_X13_bits l hlt dC dI a ac n (v0) (5) (5) (2) () hq sz) (cwS 4 hts gi_dm_X13_shortBranch_0 rfl rfl rfl (by decide +kernel) ⟨Nat.le_of_ble_eq_true rfl, Nat.le_of_ble_eq_true rfl⟩) hPc hDc hKc hS hA hN rfl hl.1 rfl (Nat.le_of_ble_eq_true rfl) dX13_shortBranch_41 (fun H locs hP1 hD1 hk1 hS => ?_)
  have hP := nd_n0 hP hk1
  refine lv_ior hx hb dX13_shortBranch_44 ?_
  exact K _ _ _ _ _ _ dX13_shortBranch_45 rfl (Option.some.inj h).symm hP hD hS
set_option maxHeartbeats 40000000 in
set_option maxRecDepth 100000 in
theorem dm_X13_shortBranch (l : Launch) (hlt : l.stackTraces = false) (dC : Nat → ClassId) (dI : Nat → Nat → Nat) (a : Nat → Nat) (ac : Nat → ClassId) (n : Nat) (v0 : Int32) (s0 : Unit) {r : Int32 × (Unit)} (h : df_X13_shortBranch n v0 s0 = some r) (sz : Nat) : Met l yX13_shortBranch ow_dm_X13_shortBranch ({ frames := 1, cells := 0, slots := 0, locals := 23 }) (va_Pc [.int v0] (fun U => U.heap.size = sz ∧ va_P (dC, dI) vwCl (dw_P a ac s0) U.heap ∧ va_K (dC, dI) vwCl (dk_P ac) U ∧ va_D (fun _ => True) (dw_P a ac s0) ∧ nv_E dI (va_A (dw_P a ac s0) sz) U)) (va_Qi (fun x _ => x = r.1) (fun (_ : Unit) t => va_P (dC, dI) vwCl (dw_P a ac r.2) t.heap ∧ va_K (dC, dI) vwCl (dk_P ac) t ∧ va_D (va_A (dw_P a ac s0) sz) (dw_P a ac r.2)) (va_A (dw_P a ac s0) sz)) 0 0 (va_A (dw_P a ac s0) sz) := by
  refine Met.ofW (cc := cX13_shortBranch) (maxL := 1) (ret := (some .int)) (by decide) rfl ?_
  intro p e s m args below meth c s₁ B hml hv
  obtain ⟨rfl, hsz, hP, hK, hD0, hN⟩ := hv
  have hx := B.exec
  have hb := B.bytes
  have hr := B.returns
  have hts := atoms_spec (ws := ow_dm_X13_shortBranch) B.pre
  have hown : s.vm.findClass RX13 = some m.cls := findClass_of_methodNamed B.named
  have hlocks := B.notSynchronized
  subst hsz
  have hD := hD0.self (sz := s.heap.size)
  generalize hAe : va_A (dw_P a ac s0) s.heap.size = A at hD hN ⊢
  have hA : ∀ q : Nat, s.heap.size ≤ q → A q := fun q h => by rw [← hAe]; exact Or.inr h
  have hl := lv_entry ([.int v0]) (n := 1) (Nat.le_of_ble_eq_true rfl)
  rw [lg_entry_eq]
  generalize (lg_sl ([.int v0]) ++ List.replicate (1 - (lg_sl ([.int v0])).length) Slot.unset).toArray = ls at hl ⊢
  have hl : lv_has ls 1 [(0, .int v0)] := hl
  exact db_X13_shortBranch_0 (dC := dC) (dI := dI) (a := a) (ac := ac) (n := n) (r := r) ⟨hlt, hx, hb, hml, hown, hts, hN, hA, hK⟩ (fun pc v τ H locs ls d z er hP hD hS => by subst er; exact W.zret (v := v) hx hb hr z (fun t ht hW => ⟨⟨v, (), rfl, rfl, by rw [ht]; exact hP, va_K.moved hW.alike hK, hD⟩, hS.F ht⟩) hS.2.2 d) v0 s0 _ _ _ h hP hD va_S.rf (lv_sub hl [0] rfl)
def ow_dm_X13_six : List Cond := Cond.code yX13_six cX13_six 1 (some .int) :: ([Cond.methodLink RX13 550 yX13_bits, Cond.static yX13_bits, Cond.initialized RX13] ++ (ow_dm_X13_bits ++ []))
theorem gd_dm_X13_six : ∀ w ∈ ow_dm_X13_six, (w.onTables && w.keeps) = true ∨ ∃ ty, w = Cond.arrayClass ty := List.forall_mem_cons.mpr ⟨good_of_word rfl, List.forall_mem_append.mpr ⟨fun w h => good_of_word (List.all_eq_true.mp (by decide +kernel) w h), List.forall_mem_append.mpr ⟨gd_dm_X13_bits, fun _ h => nomatch h⟩⟩⟩
theorem gi_dm_X13_six_0 : GoodIn ow_dm_X13_six (wsS RX13 550 yX13_bits ow_dm_X13_bits) := goodIn_app (goodIn_of _ (by decide +kernel)) (fun w h => ⟨List.mem_cons_of_mem _ (List.mem_append_right _ (List.mem_append_left _ h)), gd_dm_X13_bits w h⟩)
def dj_X13_six_0 (p : Program) (l : Launch) (e : Env) (s : State) (m : MethodId) (args : Array Value) (below : List Frame) (meth : Method) (c : Code) (Q : State → Prop) (A : Nat → Prop) (dC : Nat → ClassId) (dI : Nat → Nat → Nat) (a : Nat → Nat) (ac : Nat → ClassId) (g : Int32 → (Unit) → Option (Int32 × (Unit))) (r : Int32 × (Unit)) : Prop := ∀ (v0 : Int32) (s0 : Unit) (H : Heap) (locs : List Loc) (ls : Array Slot), g v0 s0 = some r → va_P (dC, dI) vwCl (dw_P a ac s0) H → va_D A (dw_P a ac s0) → va_S A s.heap H locs → lv_has ls 1 [(0, .int v0)] → W p l e (headSpec ow_dm_X13_six ({ frames := 1, cells := 0, slots := 0, locals := 23 })).room s m args below meth c H locs 0 0 Q (F0 m 0 ls [])
set_option maxHeartbeats 40000000 in
set_option maxRecDepth 100000 in
theorem db_X13_six_0 {p : Program} {l : Launch} {e : Env} {s : State} {m : MethodId} {args : Array Value} {below : List Frame} {meth : Method} {c : Code} {Q : State → Prop} {A : Nat → Prop} {dC : Nat → ClassId} {dI : Nat → Nat → Nat} {a : Nat → Nat} {ac : Nat → ClassId} {n : Nat} {r : Int32 × (Unit)} (C : nd_C p l s m args c A (dC, dI) cX13_six 1 RX13 ow_dm_X13_six (dk_P ac)) (K : nd_Ki p l e (headSpec ow_dm_X13_six ({ frames := 1, cells := 0, slots := 0, locals := 23 })).room s m args below meth c Q A (dC, dI) cX13_six .int (Unit) (dw_P a ac) r) : dj_X13_six_0 p l e s m args below meth c Q A dC dI a ac (df_X13_six_0 n) r := by
  obtain ⟨hlt, hx, hb, hml, hown, hts, hN, hA, hK⟩ := id C
  intro v0 s0 H locs ls h hP hD hS hl
  unfold df_X13_six_0 at h
  refine lv_iload_n hx hb dX13_six_0 rfl (lv_at hl 0 rfl) ?_
  refine lv_iconst (v := 5) hx hb dX13_six_1 (by decide) ?_
  refine lv_iconst (v := 5) hx hb dX13_six_2 (by decide) ?_
  refine lv_bipush (v := 12) hx hb dX13_six_3 (by decide) ?_
  obtain ⟨q1, s2, hq, h⟩ := nd_b2_e h
  have hPc : va_P (dC, dI) vwCl (dw_P a ac ()) H := nd_p0
  have hDc : va_D A (dw_P a ac ()) := nd_d0
  have hKc : va_K (dC, dI) vwCl (dk_P ac) s := nd_y0 hK
  have hFc : ∀ q, va_A (dw_P a ac ()) H.size q → A q := nd_r0 hS hA
  refine nd_cSi (As := [.int v0, .int 5, .int 5, .int 12]) (rest := []) (q := q1) (w' := dw_P a ac s2) ⟨hx, hb, hml, hown, hts⟩ (fun sz => dm_X13_bits l hlt dC dI a ac n (v0) (5) (5) (12) () hq sz) (cwS 4 hts gi_dm_X13_six_0 rfl rfl rfl (by decide +kernel) ⟨Nat.le_of_ble_eq_true rfl, Nat.le_of_ble_eq_true rfl⟩) hPc hDc hKc hS hA hN rfl hl.1 rfl (Nat.le_of_ble_eq_true rfl) dX13_six_5 (fun H locs hP1 hD1 hk1 hS => ?_)
  have hP := nd_n0 hP hk1
  refine lv_iload_n hx hb dX13_six_8 rfl (lv_at hl 0 rfl) ?_
  refine lv_iconst (v := 4) hx hb dX13_six_9 (by decide) ?_
  refine lv_iconst (v := 0) hx hb dX13_six_10 (by decide) ?_
  refine lv_iconst (v := 2) hx hb dX13_six_11 (by decide) ?_
  obtain ⟨q4, s5, hq, h⟩ := nd_b2_e h
  have hPc : va_P (dC, dI) vwCl (dw_P a ac ()) H := nd_p0
  have hDc : va_D A (dw_P a ac ()) := nd_d0
  have hKc : va_K (dC, dI) vwCl (dk_P ac) s := nd_y0 hK
  have hFc : ∀ q, va_A (dw_P a ac ()) H.size q → A q := nd_r0 hS hA
  refine nd_cSi (As := [.int v0, .int 4, .int 0, .int 2]) (rest := [.int q1]) (q := q4) (w' := dw_P a ac s5) ⟨hx, hb, hml, hown, hts⟩ (fun sz => dm_X13_bits l hlt dC dI a ac n (v0) (4) (0) (2) () hq sz) (cwS 4 hts gi_dm_X13_six_0 rfl rfl rfl (by decide +kernel) ⟨Nat.le_of_ble_eq_true rfl, Nat.le_of_ble_eq_true rfl⟩) hPc hDc hKc hS hA hN rfl hl.1 rfl (Nat.le_of_ble_eq_true rfl) dX13_six_12 (fun H locs hP1 hD1 hk1 hS => ?_)
  have hP := nd_n0 hP hk1
  refine lv_ior hx hb dX13_six_15 ?_
  exact K _ _ _ _ _ _ dX13_six_16 rfl (Option.some.inj h).symm hP hD hS
set_option maxHeartbeats 40000000 in
set_option maxRecDepth 100000 in
theorem dm_X13_six (l : Launch) (hlt : l.stackTraces = false) (dC : Nat → ClassId) (dI : Nat → Nat → Nat) (a : Nat → Nat) (ac : Nat → ClassId) (n : Nat) (v0 : Int32) (s0 : Unit) {r : Int32 × (Unit)} (h : df_X13_six n v0 s0 = some r) (sz : Nat) : Met l yX13_six ow_dm_X13_six ({ frames := 1, cells := 0, slots := 0, locals := 23 }) (va_Pc [.int v0] (fun U => U.heap.size = sz ∧ va_P (dC, dI) vwCl (dw_P a ac s0) U.heap ∧ va_K (dC, dI) vwCl (dk_P ac) U ∧ va_D (fun _ => True) (dw_P a ac s0) ∧ nv_E dI (va_A (dw_P a ac s0) sz) U)) (va_Qi (fun x _ => x = r.1) (fun (_ : Unit) t => va_P (dC, dI) vwCl (dw_P a ac r.2) t.heap ∧ va_K (dC, dI) vwCl (dk_P ac) t ∧ va_D (va_A (dw_P a ac s0) sz) (dw_P a ac r.2)) (va_A (dw_P a ac s0) sz)) 0 0 (va_A (dw_P a ac s0) sz) := by
  refine Met.ofW (cc := cX13_six) (maxL := 1) (ret := (some .int)) (by decide) rfl ?_
  intro p e s m args below meth c s₁ B hml hv
  obtain ⟨rfl, hsz, hP, hK, hD0, hN⟩ := hv
  have hx := B.exec
  have hb := B.bytes
  have hr := B.returns
  have hts := atoms_spec (ws := ow_dm_X13_six) B.pre
  have hown : s.vm.findClass RX13 = some m.cls := findClass_of_methodNamed B.named
  have hlocks := B.notSynchronized
  subst hsz
  have hD := hD0.self (sz := s.heap.size)
  generalize hAe : va_A (dw_P a ac s0) s.heap.size = A at hD hN ⊢
  have hA : ∀ q : Nat, s.heap.size ≤ q → A q := fun q h => by rw [← hAe]; exact Or.inr h
  have hl := lv_entry ([.int v0]) (n := 1) (Nat.le_of_ble_eq_true rfl)
  rw [lg_entry_eq]
  generalize (lg_sl ([.int v0]) ++ List.replicate (1 - (lg_sl ([.int v0])).length) Slot.unset).toArray = ls at hl ⊢
  have hl : lv_has ls 1 [(0, .int v0)] := hl
  exact db_X13_six_0 (dC := dC) (dI := dI) (a := a) (ac := ac) (n := n) (r := r) ⟨hlt, hx, hb, hml, hown, hts, hN, hA, hK⟩ (fun pc v τ H locs ls d z er hP hD hS => by subst er; exact W.zret (v := v) hx hb hr z (fun t ht hW => ⟨⟨v, (), rfl, rfl, by rw [ht]; exact hP, va_K.moved hW.alike hK, hD⟩, hS.F ht⟩) hS.2.2 d) v0 s0 _ _ _ h hP hD va_S.rf (lv_sub hl [0] rfl)
def ow_dm_X13_level : List Cond := Cond.code yX13_level cX13_level 1 (some .int) :: ([Cond.fieldLink RX13 328 "TimeMachineModel$Assembler" "place" "[I", Cond.fieldLink RX13 454 "TimeMachineModel$Assembler" "current" "I"] ++ (u_ws RX13 TX13 37 ++ []))
theorem gd_dm_X13_level : ∀ w ∈ ow_dm_X13_level, (w.onTables && w.keeps) = true ∨ ∃ ty, w = Cond.arrayClass ty := List.forall_mem_cons.mpr ⟨good_of_word rfl, List.forall_mem_append.mpr ⟨fun w h => good_of_word (List.all_eq_true.mp (by decide +kernel) w h), List.forall_mem_append.mpr ⟨gu_X13, fun _ h => nomatch h⟩⟩⟩
theorem hi_dm_X13_level_X13 : ∀ w ∈ u_ws RX13 TX13 37, w ∈ ow_dm_X13_level := fun w h => List.mem_cons_of_mem _ (List.mem_append_right _ (List.mem_append_left _ h))
def dj_X13_level_0 (p : Program) (l : Launch) (e : Env) (s : State) (m : MethodId) (args : Array Value) (below : List Frame) (meth : Method) (c : Code) (Q : State → Prop) (A : Nat → Prop) (dC : Nat → ClassId) (dI : Nat → Nat → Nat) (a : Nat → Nat) (ac : Nat → ClassId) (g : (St) → Option (Int32 × (St))) (r : Int32 × (St)) : Prop := ∀ (s0 : St) (H : Heap) (locs : List Loc) (ls : Array Slot), g s0 = some r → va_P (dC, dI) vwCl (dw_X13 a ac s0) H → va_D A (dw_X13 a ac s0) → va_S A s.heap H locs → lv_has ls 1 [(0, .ref (a 0))] → W p l e (headSpec ow_dm_X13_level ({ frames := 0, cells := 0, slots := 0, locals := 0 })).room s m args below meth c H locs 0 0 Q (F0 m 0 ls [])
set_option maxHeartbeats 40000000 in
set_option maxRecDepth 100000 in
theorem db_X13_level_0 {p : Program} {l : Launch} {e : Env} {s : State} {m : MethodId} {args : Array Value} {below : List Frame} {meth : Method} {c : Code} {Q : State → Prop} {A : Nat → Prop} {dC : Nat → ClassId} {dI : Nat → Nat → Nat} {a : Nat → Nat} {ac : Nat → ClassId} {n : Nat} {r : Int32 × (St)} (C : nd_C p l s m args c A (dC, dI) cX13_level 1 RX13 ow_dm_X13_level (dk_X13 ac)) (K : nd_Ki p l e (headSpec ow_dm_X13_level ({ frames := 0, cells := 0, slots := 0, locals := 0 })).room s m args below meth c Q A (dC, dI) cX13_level .int (St) (dw_X13 a ac) r) : dj_X13_level_0 p l e s m args below meth c Q A dC dI a ac (df_X13_level_0 n) r := by
  obtain ⟨hlt, hx, hb, hml, hown, hts, hN, hA, hK⟩ := id C
  intro s0 H locs ls h hP hD hS hl
  unfold df_X13_level_0 at h
  refine lv_aload_n hx hb dX13_level_0 rfl (lv_at hl 0 rfl) ?_
  refine va_get (D := (dC, dI)) (ci := 14) (v := .ref (a 5)) (C := RX13) (T := TX13) (N := 37) hx hb hts hi_dm_X13_level_X13 hown hK hP 0 rfl rfl 7 (by decide) (hts (.fieldLink RX13 328 "TimeMachineModel$Assembler" "place" "[I") (List.mem_of_getElem? (i := 1) rfl)) (fun _ h9 => h9) rfl dX13_level_1 ?_
  refine lv_aload_n hx hb dX13_level_4 rfl (lv_at hl 0 rfl) ?_
  refine va_get (D := (dC, dI)) (ci := 14) (v := .int (sI s0 16)) (C := RX13) (T := TX13) (N := 37) hx hb hts hi_dm_X13_level_X13 hown hK hP 0 rfl rfl 25 (by decide) (hts (.fieldLink RX13 454 "TimeMachineModel$Assembler" "current" "I") (List.mem_of_getElem? (i := 2) rfl)) (fun _ h9 => h9) rfl dX13_level_5 ?_
  obtain ⟨i1, h⟩ := nd_ck_e h
  refine va_iald (i := (sI s0 16)) hx hb hK hP 5 4 rfl rfl i1 dX13_level_8 ?_
  refine lv_bipush (v := 17) hx hb dX13_level_9 (by decide) ?_
  refine lv_ishr hx hb dX13_level_11 ?_
  refine lv_iconst (v := 3) hx hb dX13_level_12 (by decide) ?_
  refine lv_iand hx hb dX13_level_13 ?_
  exact K _ _ _ _ _ _ dX13_level_14 rfl (Option.some.inj h).symm hP hD hS
set_option maxHeartbeats 40000000 in
set_option maxRecDepth 100000 in
theorem dm_X13_level (l : Launch) (hlt : l.stackTraces = false) (dC : Nat → ClassId) (dI : Nat → Nat → Nat) (a : Nat → Nat) (ac : Nat → ClassId) (n : Nat) (s0 : St) {r : Int32 × (St)} (h : df_X13_level n s0 = some r) (sz : Nat) : Met l yX13_level ow_dm_X13_level ({ frames := 0, cells := 0, slots := 0, locals := 0 }) (va_Pc [.ref (a 0)] (fun U => U.heap.size = sz ∧ va_P (dC, dI) vwCl (dw_X13 a ac s0) U.heap ∧ va_K (dC, dI) vwCl (dk_X13 ac) U ∧ va_D (fun _ => True) (dw_X13 a ac s0) ∧ nv_E dI (va_A (dw_X13 a ac s0) sz) U)) (va_Qi (fun x _ => x = r.1) (fun (_ : Unit) t => va_P (dC, dI) vwCl (dw_X13 a ac r.2) t.heap ∧ va_K (dC, dI) vwCl (dk_X13 ac) t ∧ va_D (va_A (dw_X13 a ac s0) sz) (dw_X13 a ac r.2)) (va_A (dw_X13 a ac s0) sz)) 0 0 (va_A (dw_X13 a ac s0) sz) := by
  refine Met.ofW (cc := cX13_level) (maxL := 1) (ret := (some .int)) (by decide) rfl ?_
  intro p e s m args below meth c s₁ B hml hv
  obtain ⟨rfl, hsz, hP, hK, hD0, hN⟩ := hv
  have hx := B.exec
  have hb := B.bytes
  have hr := B.returns
  have hts := atoms_spec (ws := ow_dm_X13_level) B.pre
  have hown : s.vm.findClass RX13 = some m.cls := findClass_of_methodNamed B.named
  have hlocks := B.notSynchronized
  subst hsz
  have hD := hD0.self (sz := s.heap.size)
  generalize hAe : va_A (dw_X13 a ac s0) s.heap.size = A at hD hN ⊢
  have hA : ∀ q : Nat, s.heap.size ≤ q → A q := fun q h => by rw [← hAe]; exact Or.inr h
  have hl := lv_entry ([.ref (a 0)]) (n := 1) (Nat.le_of_ble_eq_true rfl)
  rw [lg_entry_eq]
  generalize (lg_sl ([.ref (a 0)]) ++ List.replicate (1 - (lg_sl ([.ref (a 0)])).length) Slot.unset).toArray = ls at hl ⊢
  have hl : lv_has ls 1 [(0, .ref (a 0))] := hl
  exact db_X13_level_0 (dC := dC) (dI := dI) (a := a) (ac := ac) (n := n) (r := r) ⟨hlt, hx, hb, hml, hown, hts, hN, hA, hK⟩ (fun pc v τ H locs ls d z er hP hD hS => by subst er; exact W.zret (v := v) hx hb hr z (fun t ht hW => ⟨⟨v, (), rfl, rfl, by rw [ht]; exact hP, va_K.moved hW.alike hK, hD⟩, hS.F ht⟩) hS.2.2 d) s0 _ _ _ h hP hD va_S.rf (lv_sub hl [0] rfl)
def ow_dm_X13_target : List Cond := Cond.code yX13_target cX13_target 7 (some .int) :: ([Cond.methodLink RX13 525 yX13_expression, Cond.instanceMethod yX13_expression, Cond.selects RX13 yX13_expression yX13_expression, Cond.initialized RX13, Cond.fieldLink RX13 486 "TimeMachineModel$Assembler" "address" "I", Cond.fieldLink RX13 522 "TimeMachineModel$Assembler" "mode" "I", Cond.methodLink RX13 554 yX13_level, Cond.instanceMethod yX13_level, Cond.selects RX13 yX13_level yX13_level, Cond.constant RX13 557 (1048574), Cond.methodLink RX13 528 yX13_fits, Cond.instanceMethod yX13_fits, Cond.selects RX13 yX13_fits yX13_fits, Cond.fieldLink RX13 558 "TimeMachineModel$Assembler" "grows" "Z", Cond.fieldLink RX13 457 "TimeMachineModel$Assembler" "missing" "Z", Cond.fieldLink RX13 470 "TimeMachineModel$Assembler" "divided" "Z", Cond.fieldLink RX13 328 "TimeMachineModel$Assembler" "place" "[I", Cond.fieldLink RX13 454 "TimeMachineModel$Assembler" "current" "I"] ++ (u_ws RX13 TX13 37 ++ (ow_dm_X13_expression ++ (ow_dm_X13_level ++ (ow_dm_X13_fits ++ [])))))
theorem gd_dm_X13_target : ∀ w ∈ ow_dm_X13_target, (w.onTables && w.keeps) = true ∨ ∃ ty, w = Cond.arrayClass ty := List.forall_mem_cons.mpr ⟨good_of_word rfl, List.forall_mem_append.mpr ⟨fun w h => good_of_word (List.all_eq_true.mp (by decide +kernel) w h), List.forall_mem_append.mpr ⟨gu_X13, List.forall_mem_append.mpr ⟨gd_dm_X13_expression, List.forall_mem_append.mpr ⟨gd_dm_X13_level, List.forall_mem_append.mpr ⟨gd_dm_X13_fits, fun _ h => nomatch h⟩⟩⟩⟩⟩⟩
theorem hi_dm_X13_target_X13 : ∀ w ∈ u_ws RX13 TX13 37, w ∈ ow_dm_X13_target := fun w h => List.mem_cons_of_mem _ (List.mem_append_right _ (List.mem_append_left _ h))
theorem gi_dm_X13_target_0 : GoodIn ow_dm_X13_target (wsV RX13 525 RX13 yX13_expression ow_dm_X13_expression) := goodIn_app (goodIn_of _ (by decide +kernel)) (fun w h => ⟨List.mem_cons_of_mem _ (List.mem_append_right _ (List.mem_append_right _ (List.mem_append_left _ h))), gd_dm_X13_expression w h⟩)
theorem gi_dm_X13_target_1 : GoodIn ow_dm_X13_target (wsV RX13 554 RX13 yX13_level ow_dm_X13_level) := goodIn_app (goodIn_of _ (by decide +kernel)) (fun w h => ⟨List.mem_cons_of_mem _ (List.mem_append_right _ (List.mem_append_right _ (List.mem_append_right _ (List.mem_append_left _ h)))), gd_dm_X13_level w h⟩)
theorem gi_dm_X13_target_2 : GoodIn ow_dm_X13_target (wsV RX13 528 RX13 yX13_fits ow_dm_X13_fits) := goodIn_app (goodIn_of _ (by decide +kernel)) (fun w h => ⟨List.mem_cons_of_mem _ (List.mem_append_right _ (List.mem_append_right _ (List.mem_append_right _ (List.mem_append_right _ (List.mem_append_left _ h))))), gd_dm_X13_fits w h⟩)
def dj_X13_target_202 (p : Program) (l : Launch) (e : Env) (s : State) (m : MethodId) (args : Array Value) (below : List Frame) (meth : Method) (c : Code) (Q : State → Prop) (A : Nat → Prop) (dC : Nat → ClassId) (dI : Nat → Nat → Nat) (a : Nat → Nat) (ac : Nat → ClassId) (g : Int32 → Int32 → (St) → Option (Int32 × (St))) (r : Int32 × (St)) : Prop := ∀ (x3 : Int32) (y1 : Int32) (s0 : St) (H : Heap) (locs : List Loc) (ls : Array Slot), g x3 y1 s0 = some r → va_P (dC, dI) vwCl (dw_X13 a ac s0) H → va_D A (dw_X13 a ac s0) → va_S A s.heap H locs → lv_has ls 7 [(3, .int x3)] → W p l e (headSpec ow_dm_X13_target ({ frames := 8, cells := 0, slots := 0, locals := 182 })).room s m args below meth c H locs 0 0 Q (F0 m 202 ls [.int y1, .ref (a 0)])
def dj_X13_target_201 (p : Program) (l : Launch) (e : Env) (s : State) (m : MethodId) (args : Array Value) (below : List Frame) (meth : Method) (c : Code) (Q : State → Prop) (A : Nat → Prop) (dC : Nat → ClassId) (dI : Nat → Nat → Nat) (a : Nat → Nat) (ac : Nat → ClassId) (g : Int32 → (St) → Option (Int32 × (St))) (r : Int32 × (St)) : Prop := ∀ (x3 : Int32) (s0 : St) (H : Heap) (locs : List Loc) (ls : Array Slot), g x3 s0 = some r → va_P (dC, dI) vwCl (dw_X13 a ac s0) H → va_D A (dw_X13 a ac s0) → va_S A s.heap H locs → lv_has ls 7 [(3, .int x3)] → W p l e (headSpec ow_dm_X13_target ({ frames := 8, cells := 0, slots := 0, locals := 182 })).room s m args below meth c H locs 0 0 Q (F0 m 201 ls [.ref (a 0)])
def dj_X13_target_197 (p : Program) (l : Launch) (e : Env) (s : State) (m : MethodId) (args : Array Value) (below : List Frame) (meth : Method) (c : Code) (Q : State → Prop) (A : Nat → Prop) (dC : Nat → ClassId) (dI : Nat → Nat → Nat) (a : Nat → Nat) (ac : Nat → ClassId) (g : Int32 → (St) → Option (Int32 × (St))) (r : Int32 × (St)) : Prop := ∀ (x3 : Int32) (s0 : St) (H : Heap) (locs : List Loc) (ls : Array Slot), g x3 s0 = some r → va_P (dC, dI) vwCl (dw_X13 a ac s0) H → va_D A (dw_X13 a ac s0) → va_S A s.heap H locs → lv_has ls 7 [(3, .int x3)] → W p l e (headSpec ow_dm_X13_target ({ frames := 8, cells := 0, slots := 0, locals := 182 })).room s m args below meth c H locs 0 0 Q (F0 m 197 ls [.ref (a 0)])
def dj_X13_target_170 (p : Program) (l : Launch) (e : Env) (s : State) (m : MethodId) (args : Array Value) (below : List Frame) (meth : Method) (c : Code) (Q : State → Prop) (A : Nat → Prop) (dC : Nat → ClassId) (dI : Nat → Nat → Nat) (a : Nat → Nat) (ac : Nat → ClassId) (g : Int32 → Int32 → Int32 → Int32 → Int32 → (St) → Option (Int32 × (St))) (r : Int32 × (St)) : Prop := ∀ (x3 : Int32) (x5 : Int32) (x6 : Int32) (y1 : Int32) (y2 : Int32) (s0 : St) (H : Heap) (locs : List Loc) (ls : Array Slot), g x3 x5 x6 y1 y2 s0 = some r → va_P (dC, dI) vwCl (dw_X13 a ac s0) H → va_D A (dw_X13 a ac s0) → va_S A s.heap H locs → lv_has ls 7 [(3, .int x3), (5, .int x5), (6, .int x6)] → W p l e (headSpec ow_dm_X13_target ({ frames := 8, cells := 0, slots := 0, locals := 182 })).room s m args below meth c H locs 0 0 Q (F0 m 170 ls [.int y2, .int y1, .ref (a 0)])
def dj_X13_target_119 (p : Program) (l : Launch) (e : Env) (s : State) (m : MethodId) (args : Array Value) (below : List Frame) (meth : Method) (c : Code) (Q : State → Prop) (A : Nat → Prop) (dC : Nat → ClassId) (dI : Nat → Nat → Nat) (a : Nat → Nat) (ac : Nat → ClassId) (g : Int32 → Int32 → Int32 → Int32 → Int32 → (St) → Option (Int32 × (St))) (r : Int32 × (St)) : Prop := ∀ (x1 : Int32) (x3 : Int32) (x4 : Int32) (x5 : Int32) (y0 : Int32) (s0 : St) (H : Heap) (locs : List Loc) (ls : Array Slot), g x1 x3 x4 x5 y0 s0 = some r → va_P (dC, dI) vwCl (dw_X13 a ac s0) H → va_D A (dw_X13 a ac s0) → va_S A s.heap H locs → lv_has ls 7 [(0, .ref (a 0)), (1, .int x1), (3, .int x3), (4, .int x4), (5, .int x5)] → W p l e (headSpec ow_dm_X13_target ({ frames := 8, cells := 0, slots := 0, locals := 182 })).room s m args below meth c H locs 0 0 Q (F0 m 119 ls [.int y0])
def dj_X13_target_87 (p : Program) (l : Launch) (e : Env) (s : State) (m : MethodId) (args : Array Value) (below : List Frame) (meth : Method) (c : Code) (Q : State → Prop) (A : Nat → Prop) (dC : Nat → ClassId) (dI : Nat → Nat → Nat) (a : Nat → Nat) (ac : Nat → ClassId) (g : Int32 → Int32 → Int32 → Int32 → (St) → Option (Int32 × (St))) (r : Int32 × (St)) : Prop := ∀ (x1 : Int32) (x3 : Int32) (x4 : Int32) (x5 : Int32) (s0 : St) (H : Heap) (locs : List Loc) (ls : Array Slot), g x1 x3 x4 x5 s0 = some r → va_P (dC, dI) vwCl (dw_X13 a ac s0) H → va_D A (dw_X13 a ac s0) → va_S A s.heap H locs → lv_has ls 7 [(0, .ref (a 0)), (1, .int x1), (3, .int x3), (4, .int x4), (5, .int x5)] → W p l e (headSpec ow_dm_X13_target ({ frames := 8, cells := 0, slots := 0, locals := 182 })).room s m args below meth c H locs 0 0 Q (F0 m 87 ls [])
def dj_X13_target_93 (p : Program) (l : Launch) (e : Env) (s : State) (m : MethodId) (args : Array Value) (below : List Frame) (meth : Method) (c : Code) (Q : State → Prop) (A : Nat → Prop) (dC : Nat → ClassId) (dI : Nat → Nat → Nat) (a : Nat → Nat) (ac : Nat → ClassId) (g : Int32 → Int32 → Int32 → Int32 → (St) → Option (Int32 × (St))) (r : Int32 × (St)) : Prop := ∀ (x1 : Int32) (x3 : Int32) (x4 : Int32) (x5 : Int32) (s0 : St) (H : Heap) (locs : List Loc) (ls : Array Slot), g x1 x3 x4 x5 s0 = some r → va_P (dC, dI) vwCl (dw_X13 a ac s0) H → va_D A (dw_X13 a ac s0) → va_S A s.heap H locs → lv_has ls 7 [(0, .ref (a 0)), (1, .int x1), (3, .int x3), (4, .int x4), (5, .int x5)] → W p l e (headSpec ow_dm_X13_target ({ frames := 8, cells := 0, slots := 0, locals := 182 })).room s m args below meth c H locs 0 0 Q (F0 m 93 ls [])
def dj_X13_target_68 (p : Program) (l : Launch) (e : Env) (s : State) (m : MethodId) (args : Array Value) (below : List Frame) (meth : Method) (c : Code) (Q : State → Prop) (A : Nat → Prop) (dC : Nat → ClassId) (dI : Nat → Nat → Nat) (a : Nat → Nat) (ac : Nat → ClassId) (g : Int32 → Int32 → Int32 → Int32 → (St) → Option (Int32 × (St))) (r : Int32 × (St)) : Prop := ∀ (x1 : Int32) (x3 : Int32) (x4 : Int32) (y0 : Int32) (s0 : St) (H : Heap) (locs : List Loc) (ls : Array Slot), g x1 x3 x4 y0 s0 = some r → va_P (dC, dI) vwCl (dw_X13 a ac s0) H → va_D A (dw_X13 a ac s0) → va_S A s.heap H locs → lv_has ls 7 [(0, .ref (a 0)), (1, .int x1), (3, .int x3), (4, .int x4)] → W p l e (headSpec ow_dm_X13_target ({ frames := 8, cells := 0, slots := 0, locals := 182 })).room s m args below meth c H locs 0 0 Q (F0 m 68 ls [.int y0])
def dj_X13_target_53 (p : Program) (l : Launch) (e : Env) (s : State) (m : MethodId) (args : Array Value) (below : List Frame) (meth : Method) (c : Code) (Q : State → Prop) (A : Nat → Prop) (dC : Nat → ClassId) (dI : Nat → Nat → Nat) (a : Nat → Nat) (ac : Nat → ClassId) (g : Int32 → Int32 → Int32 → (St) → Option (Int32 × (St))) (r : Int32 × (St)) : Prop := ∀ (x1 : Int32) (x3 : Int32) (y0 : Int32) (s0 : St) (H : Heap) (locs : List Loc) (ls : Array Slot), g x1 x3 y0 s0 = some r → va_P (dC, dI) vwCl (dw_X13 a ac s0) H → va_D A (dw_X13 a ac s0) → va_S A s.heap H locs → lv_has ls 7 [(0, .ref (a 0)), (1, .int x1), (3, .int x3)] → W p l e (headSpec ow_dm_X13_target ({ frames := 8, cells := 0, slots := 0, locals := 182 })).room s m args below meth c H locs 0 0 Q (F0 m 53 ls [.int y0])
def dj_X13_target_38 (p : Program) (l : Launch) (e : Env) (s : State) (m : MethodId) (args : Array Value) (below : List Frame) (meth : Method) (c : Code) (Q : State → Prop) (A : Nat → Prop) (dC : Nat → ClassId) (dI : Nat → Nat → Nat) (a : Nat → Nat) (ac : Nat → ClassId) (g : Int32 → Int32 → Int32 → (St) → Option (Int32 × (St))) (r : Int32 × (St)) : Prop := ∀ (x1 : Int32) (x2 : Int32) (x3 : Int32) (s0 : St) (H : Heap) (locs : List Loc) (ls : Array Slot), g x1 x2 x3 s0 = some r → va_P (dC, dI) vwCl (dw_X13 a ac s0) H → va_D A (dw_X13 a ac s0) → va_S A s.heap H locs → lv_has ls 7 [(0, .ref (a 0)), (1, .int x1), (2, .int x2), (3, .int x3)] → W p l e (headSpec ow_dm_X13_target ({ frames := 8, cells := 0, slots := 0, locals := 182 })).room s m args below meth c H locs 0 0 Q (F0 m 38 ls [])
def dj_X13_target_0 (p : Program) (l : Launch) (e : Env) (s : State) (m : MethodId) (args : Array Value) (below : List Frame) (meth : Method) (c : Code) (Q : State → Prop) (A : Nat → Prop) (dC : Nat → ClassId) (dI : Nat → Nat → Nat) (a : Nat → Nat) (ac : Nat → ClassId) (g : Int32 → Int32 → (St) → Option (Int32 × (St))) (r : Int32 × (St)) : Prop := ∀ (v0 : Int32) (v1 : Int32) (s0 : St) (H : Heap) (locs : List Loc) (ls : Array Slot), g v0 v1 s0 = some r → va_P (dC, dI) vwCl (dw_X13 a ac s0) H → va_D A (dw_X13 a ac s0) → va_S A s.heap H locs → lv_has ls 7 [(0, .ref (a 0)), (1, .int v0), (2, .int v1)] → W p l e (headSpec ow_dm_X13_target ({ frames := 8, cells := 0, slots := 0, locals := 182 })).room s m args below meth c H locs 0 0 Q (F0 m 0 ls [])
set_option maxHeartbeats 40000000 in
set_option maxRecDepth 100000 in
theorem db_X13_target_202 {p : Program} {l : Launch} {e : Env} {s : State} {m : MethodId} {args : Array Value} {below : List Frame} {meth : Method} {c : Code} {Q : State → Prop} {A : Nat → Prop} {dC : Nat → ClassId} {dI : Nat → Nat → Nat} {a : Nat → Nat} {ac : Nat → ClassId} {n : Nat} {r : Int32 × (St)} (C : nd_C p l s m args c A (dC, dI) cX13_target 7 RX13 ow_dm_X13_target (dk_X13 ac)) (K : nd_Ki p l e (headSpec ow_dm_X13_target ({ frames := 8, cells := 0, slots := 0, locals := 182 })).room s m args below meth c Q A (dC, dI) cX13_target .int (St) (dw_X13 a ac) r) : dj_X13_target_202 p l e s m args below meth c Q A dC dI a ac (df_X13_target_202 n) r := by
  obtain ⟨hlt, hx, hb, hml, hown, hts, hN, hA, hK⟩ := id C
  intro x3 y1 s0 H locs ls h hP hD hS hl
  unfold df_X13_target_202 at h
  obtain ⟨n16, h⟩ := nd_f_e h
  obtain ⟨n17, h⟩ := nd_z_e ⟨_, rfl⟩ h
  refine va_put (D := (dC, dI)) (ci := 14) (v := .int y1) (ty := .boolean) (C := RX13) (T := TX13) (N := 37) hx hb hts hi_dm_X13_target_X13 tyX13 tyX13_ok nmX13 hown hK hP hD hS 0 rfl rfl 30 (by decide) (hts (.fieldLink RX13 558 "TimeMachineModel$Assembler" "grows" "Z") (List.mem_of_getElem? (i := 14) rfl)) (fun _ h9 => h9) rfl (by decide +kernel) n17 n16 (Nat.le_of_ble_eq_true rfl) dX13_target_202 (fun H locs hP hD hS => ?_)
  obtain ⟨s18, es18, h⟩ := nd_let_e h
  have hP : va_P (dC, dI) vwCl (dw_X13 a ac s18) H := by rw [es18]; exact hP
  have hD : va_D A (dw_X13 a ac s18) := by rw [es18]; exact hD
  refine lv_iload_n hx hb dX13_target_205 rfl (lv_at hl 0 rfl) ?_
  exact K _ _ _ _ _ _ dX13_target_206 rfl (Option.some.inj h).symm hP hD hS
set_option maxHeartbeats 40000000 in
set_option maxRecDepth 100000 in
theorem db_X13_target_201 {p : Program} {l : Launch} {e : Env} {s : State} {m : MethodId} {args : Array Value} {below : List Frame} {meth : Method} {c : Code} {Q : State → Prop} {A : Nat → Prop} {dC : Nat → ClassId} {dI : Nat → Nat → Nat} {a : Nat → Nat} {ac : Nat → ClassId} {n : Nat} {r : Int32 × (St)} (C : nd_C p l s m args c A (dC, dI) cX13_target 7 RX13 ow_dm_X13_target (dk_X13 ac)) (K : nd_Ki p l e (headSpec ow_dm_X13_target ({ frames := 8, cells := 0, slots := 0, locals := 182 })).room s m args below meth c Q A (dC, dI) cX13_target .int (St) (dw_X13 a ac) r) : dj_X13_target_201 p l e s m args below meth c Q A dC dI a ac (df_X13_target_201 n) r := by
  obtain ⟨hlt, hx, hb, hml, hown, hts, hN, hA, hK⟩ := id C
  intro x3 s0 H locs ls h hP hD hS hl
  unfold df_X13_target_201 at h
  refine lv_iconst (v := 0) hx hb dX13_target_201 (by decide) ?_
  exact (db_X13_target_202 C K) (x3) (0) s0 _ _ _ h hP hD hS (lv_sub hl [0] rfl)
set_option maxHeartbeats 40000000 in
set_option maxRecDepth 100000 in
theorem db_X13_target_197 {p : Program} {l : Launch} {e : Env} {s : State} {m : MethodId} {args : Array Value} {below : List Frame} {meth : Method} {c : Code} {Q : State → Prop} {A : Nat → Prop} {dC : Nat → ClassId} {dI : Nat → Nat → Nat} {a : Nat → Nat} {ac : Nat → ClassId} {n : Nat} {r : Int32 × (St)} (C : nd_C p l s m args c A (dC, dI) cX13_target 7 RX13 ow_dm_X13_target (dk_X13 ac)) (K : nd_Ki p l e (headSpec ow_dm_X13_target ({ frames := 8, cells := 0, slots := 0, locals := 182 })).room s m args below meth c Q A (dC, dI) cX13_target .int (St) (dw_X13 a ac) r) : dj_X13_target_197 p l e s m args below meth c Q A dC dI a ac (df_X13_target_197 n) r := by
  obtain ⟨hlt, hx, hb, hml, hown, hts, hN, hA, hK⟩ := id C
  intro x3 s0 H locs ls h hP hD hS hl
  unfold df_X13_target_197 at h
  refine lv_iconst (v := 1) hx hb dX13_target_197 (by decide) ?_
  refine lv_goto (tgt := 202) hx hb dX13_target_198 (by decide) ?_
  exact (db_X13_target_202 C K) (x3) (1) s0 _ _ _ h hP hD hS (lv_sub hl [0] rfl)
set_option maxHeartbeats 40000000 in
set_option maxRecDepth 100000 in
theorem db_X13_target_170 {p : Program} {l : Launch} {e : Env} {s : State} {m : MethodId} {args : Array Value} {below : List Frame} {meth : Method} {c : Code} {Q : State → Prop} {A : Nat → Prop} {dC : Nat → ClassId} {dI : Nat → Nat → Nat} {a : Nat → Nat} {ac : Nat → ClassId} {n : Nat} {r : Int32 × (St)} (C : nd_C p l s m args c A (dC, dI) cX13_target 7 RX13 ow_dm_X13_target (dk_X13 ac)) (K : nd_Ki p l e (headSpec ow_dm_X13_target ({ frames := 8, cells := 0, slots := 0, locals := 182 })).room s m args below meth c Q A (dC, dI) cX13_target .int (St) (dw_X13 a ac) r) : dj_X13_target_170 p l e s m args below meth c Q A dC dI a ac (df_X13_target_170 n) r := by
  obtain ⟨hlt, hx, hb, hml, hown, hts, hN, hA, hK⟩ := id C
  intro x3 x5 x6 y1 y2 s0 H locs ls h hP hD hS hl
  unfold df_X13_target_170 at h
  refine lv_icmp_ge (tgt := 201) hx hb dX13_target_170 (by decide) (fun c22 => ?_) (fun c22 => ?_)
  · have h := nd_pos h c22
    exact (db_X13_target_201 C K) (x3) s0 _ _ _ h hP hD hS (lv_sub hl [0] rfl)
  · have h := nd_neg h c22
    refine lv_iload hx hb dX13_target_173 (lv_at hl 1 rfl) ?_
    refine lv_iload hx hb dX13_target_175 (lv_at hl 2 rfl) ?_
    refine lv_ineg hx hb dX13_target_177 ?_
    refine lv_iconst (v := 2) hx hb dX13_target_178 (by decide) ?_
    refine lv_isub hx hb dX13_target_179 ?_
    refine lv_icmp_lt (tgt := 197) hx hb dX13_target_180 (by decide) (fun c23 => ?_) (fun c23 => ?_)
    · have h := nd_pos h c23
      exact (db_X13_target_197 C K) (x3) s0 _ _ _ h hP hD hS (lv_sub hl [0] rfl)
    · have h := nd_neg h c23
      refine lv_iload hx hb dX13_target_183 (lv_at hl 1 rfl) ?_
      refine lv_iload hx hb dX13_target_185 (lv_at hl 2 rfl) ?_
      refine lv_icmp_gt (tgt := 197) hx hb dX13_target_187 (by decide) (fun c24 => ?_) (fun c24 => ?_)
      · have h := nd_pos h c24
        exact (db_X13_target_197 C K) (x3) s0 _ _ _ h hP hD hS (lv_sub hl [0] rfl)
      · have h := nd_neg h c24
        refine lv_iload hx hb dX13_target_190 (lv_at hl 1 rfl) ?_
        refine lv_iconst (v := 2) hx hb dX13_target_192 (by decide) ?_
        refine lv_irem hx hb dX13_target_193 (by decide) ?_
        refine lv_if_eq (tgt := 201) hx hb dX13_target_194 (by decide) (fun c25 => ?_) (fun c25 => ?_)
        · have h := nd_pos h c25
          exact (db_X13_target_201 C K) (x3) s0 _ _ _ h hP hD hS (lv_sub hl [0] rfl)
        · have h := nd_neg h c25
          exact (db_X13_target_197 C K) (x3) s0 _ _ _ h hP hD hS (lv_sub hl [0] rfl)
set_option maxHeartbeats 40000000 in
set_option maxRecDepth 100000 in
theorem db_X13_target_119 {p : Program} {l : Launch} {e : Env} {s : State} {m : MethodId} {args : Array Value} {below : List Frame} {meth : Method} {c : Code} {Q : State → Prop} {A : Nat → Prop} {dC : Nat → ClassId} {dI : Nat → Nat → Nat} {a : Nat → Nat} {ac : Nat → ClassId} {n : Nat} {r : Int32 × (St)} (C : nd_C p l s m args c A (dC, dI) cX13_target 7 RX13 ow_dm_X13_target (dk_X13 ac)) (K : nd_Ki p l e (headSpec ow_dm_X13_target ({ frames := 8, cells := 0, slots := 0, locals := 182 })).room s m args below meth c Q A (dC, dI) cX13_target .int (St) (dw_X13 a ac) r) : dj_X13_target_119 p l e s m args below meth c Q A dC dI a ac (df_X13_target_119 n) r := by
  obtain ⟨hlt, hx, hb, hml, hown, hts, hN, hA, hK⟩ := id C
  intro x1 x3 x4 x5 y0 s0 H locs ls h hP hD hS hl
  unfold df_X13_target_119 at h
  refine lv_istore (lv' := [(6, .int y0), (0, .ref (a 0)), (1, .int x1), (3, .int x3), (4, .int x4), (5, .int x5)]) hx hb dX13_target_119 hl (by decide) rfl (fun ls hl => ?_)
  refine lv_aload_n hx hb dX13_target_121 rfl (lv_at hl 1 rfl) ?_
  refine lv_iload hx hb dX13_target_122 (lv_at hl 5 rfl) ?_
  refine lv_iload hx hb dX13_target_124 (lv_at hl 0 rfl) ?_
  refine lv_ineg hx hb dX13_target_126 ?_
  refine lv_iconst (v := 2) hx hb dX13_target_127 (by decide) ?_
  refine lv_isub hx hb dX13_target_128 ?_
  refine lv_iload hx hb dX13_target_129 (lv_at hl 0 rfl) ?_
  refine lv_iconst (v := 2) hx hb dX13_target_131 (by decide) ?_
  obtain ⟨s13, hq, h⟩ := nd_b1_e h
  have hPc := hP
  have hDc := hD
  have hKc := hK
  have hFc := nd_rs hD hS hA
  refine nd_cVv (As := [.int x5, .int ((-y0) - 2), .int y0, .int 2]) (rest := []) (w' := dw_X13 a ac s13) ⟨hx, hb, hml, hown, hts⟩ (fun sz => dm_X13_fits l hlt dC dI a ac n (x5) (((-y0) - 2)) (y0) (2) s0 hq sz) (cwV 4 hts gi_dm_X13_target_2 rfl rfl rfl (by decide +kernel) ⟨Nat.le_of_ble_eq_true rfl, Nat.le_of_ble_eq_true rfl⟩) hPc hDc hKc hS hA hN (va_recv hKc hPc (ci := 14) (q0 := 0) rfl rfl) rfl hl.1 rfl (Nat.le_of_ble_eq_true rfl) dX13_target_132 (fun H locs hP1 hD1 hk1 hS => ?_)
  have hP := hP1
  have hD := hD1.weaken (fun k q _ h => hFc q.1 h)
  refine lv_aload_n hx hb dX13_target_135 rfl (lv_at hl 1 rfl) ?_
  refine lv_aload_n hx hb dX13_target_136 rfl (lv_at hl 1 rfl) ?_
  refine va_get (D := (dC, dI)) (ci := 14) (v := .int (sI s13 15)) (C := RX13) (T := TX13) (N := 37) hx hb hts hi_dm_X13_target_X13 hown hK hP 0 rfl rfl 24 (by decide) (hts (.fieldLink RX13 522 "TimeMachineModel$Assembler" "mode" "I") (List.mem_of_getElem? (i := 6) rfl)) (fun _ h9 => h9) rfl dX13_target_137 ?_
  refine lv_iconst (v := 1) hx hb dX13_target_140 (by decide) ?_
  refine lv_icmp_ne (tgt := 201) hx hb dX13_target_141 (by decide) (fun c15 => ?_) (fun c15 => ?_)
  · have h := nd_neg h c15
    exact (db_X13_target_201 C K) (x3) s13 _ _ _ h hP hD hS (lv_sub hl [3] rfl)
  · have h := nd_pos h c15
    refine lv_aload_n hx hb dX13_target_144 rfl (lv_at hl 1 rfl) ?_
    refine va_get (D := (dC, dI)) (ci := 14) (v := .int (sI s13 21)) (C := RX13) (T := TX13) (N := 37) hx hb hts hi_dm_X13_target_X13 hown hK hP 0 rfl rfl 31 (by decide) (hts (.fieldLink RX13 457 "TimeMachineModel$Assembler" "missing" "Z") (List.mem_of_getElem? (i := 15) rfl)) (fun _ h9 => h9) rfl dX13_target_145 ?_
    refine lv_if_ne (tgt := 201) hx hb dX13_target_148 (by decide) (fun c19 => ?_) (fun c19 => ?_)
    · have h := nd_neg h c19
      exact (db_X13_target_201 C K) (x3) s13 _ _ _ h hP hD hS (lv_sub hl [3] rfl)
    · have h := nd_pos h c19
      refine lv_aload_n hx hb dX13_target_151 rfl (lv_at hl 1 rfl) ?_
      refine va_get (D := (dC, dI)) (ci := 14) (v := .int (sI s13 22)) (C := RX13) (T := TX13) (N := 37) hx hb hts hi_dm_X13_target_X13 hown hK hP 0 rfl rfl 32 (by decide) (hts (.fieldLink RX13 470 "TimeMachineModel$Assembler" "divided" "Z") (List.mem_of_getElem? (i := 16) rfl)) (fun _ h9 => h9) rfl dX13_target_152 ?_
      refine lv_if_ne (tgt := 201) hx hb dX13_target_155 (by decide) (fun c20 => ?_) (fun c20 => ?_)
      · have h := nd_neg h c20
        exact (db_X13_target_201 C K) (x3) s13 _ _ _ h hP hD hS (lv_sub hl [3] rfl)
      · have h := nd_pos h c20
        refine lv_iload hx hb dX13_target_158 (lv_at hl 4 rfl) ?_
        refine lv_iload_n hx hb dX13_target_160 rfl (lv_at hl 2 rfl) ?_
        refine lv_iconst (v := 1) hx hb dX13_target_161 (by decide) ?_
        refine lv_icmp_ne (tgt := 169) hx hb dX13_target_162 (by decide) (fun c21 => ?_) (fun c21 => ?_)
        · have h := nd_neg h c21
          refine lv_iconst (v := 2) hx hb dX13_target_169 (by decide) ?_
          exact (db_X13_target_170 C K) (x3) (x5) (y0) (x4) (2) s13 _ _ _ h hP hD hS (lv_sub hl [3, 5, 0] rfl)
        · have h := nd_pos h c21
          refine lv_iconst (v := 1) hx hb dX13_target_165 (by decide) ?_
          refine lv_goto (tgt := 170) hx hb dX13_target_166 (by decide) ?_
          exact (db_X13_target_170 C K) (x3) (x5) (y0) (x4) (1) s13 _ _ _ h hP hD hS (lv_sub hl [3, 5, 0] rfl)
set_option maxHeartbeats 40000000 in
set_option maxRecDepth 100000 in
theorem db_X13_target_87 {p : Program} {l : Launch} {e : Env} {s : State} {m : MethodId} {args : Array Value} {below : List Frame} {meth : Method} {c : Code} {Q : State → Prop} {A : Nat → Prop} {dC : Nat → ClassId} {dI : Nat → Nat → Nat} {a : Nat → Nat} {ac : Nat → ClassId} {n : Nat} {r : Int32 × (St)} (C : nd_C p l s m args c A (dC, dI) cX13_target 7 RX13 ow_dm_X13_target (dk_X13 ac)) (K : nd_Ki p l e (headSpec ow_dm_X13_target ({ frames := 8, cells := 0, slots := 0, locals := 182 })).room s m args below meth c Q A (dC, dI) cX13_target .int (St) (dw_X13 a ac) r) : dj_X13_target_87 p l e s m args below meth c Q A dC dI a ac (df_X13_target_87 n) r := by
  obtain ⟨hlt, hx, hb, hml, hown, hts, hN, hA, hK⟩ := id C
  intro x1 x3 x4 x5 s0 H locs ls h hP hD hS hl
  unfold df_X13_target_87 at h
  refine lv_ldcw hx hb hown (hts (.constant RX13 557 (1048574)) (List.mem_of_getElem? (i := 10) rfl)) dX13_target_87 ?_
  refine lv_goto (tgt := 119) hx hb dX13_target_90 (by decide) ?_
  exact (db_X13_target_119 C K) (x1) (x3) (x4) (x5) (1048574) s0 _ _ _ h hP hD hS (lv_sub hl [0, 1, 2, 3, 4] rfl)
set_option maxHeartbeats 40000000 in
set_option maxRecDepth 100000 in
theorem db_X13_target_93 {p : Program} {l : Launch} {e : Env} {s : State} {m : MethodId} {args : Array Value} {below : List Frame} {meth : Method} {c : Code} {Q : State → Prop} {A : Nat → Prop} {dC : Nat → ClassId} {dI : Nat → Nat → Nat} {a : Nat → Nat} {ac : Nat → ClassId} {n : Nat} {r : Int32 × (St)} (C : nd_C p l s m args c A (dC, dI) cX13_target 7 RX13 ow_dm_X13_target (dk_X13 ac)) (K : nd_Ki p l e (headSpec ow_dm_X13_target ({ frames := 8, cells := 0, slots := 0, locals := 182 })).room s m args below meth c Q A (dC, dI) cX13_target .int (St) (dw_X13 a ac) r) : dj_X13_target_93 p l e s m args below meth c Q A dC dI a ac (df_X13_target_93 n) r := by
  obtain ⟨hlt, hx, hb, hml, hown, hts, hN, hA, hK⟩ := id C
  intro x1 x3 x4 x5 s0 H locs ls h hP hD hS hl
  unfold df_X13_target_93 at h
  refine lv_iload hx hb dX13_target_93 (lv_at hl 3 rfl) ?_
  refine lv_iconst (v := 1) hx hb dX13_target_95 (by decide) ?_
  refine lv_icmp_ne (tgt := 105) hx hb dX13_target_96 (by decide) (fun c27 => ?_) (fun c27 => ?_)
  · have h := nd_neg h c27
    refine lv_iload_n hx hb dX13_target_105 rfl (lv_at hl 1 rfl) ?_
    refine lv_iconst (v := 1) hx hb dX13_target_106 (by decide) ?_
    refine lv_icmp_ne (tgt := 116) hx hb dX13_target_107 (by decide) (fun c28 => ?_) (fun c28 => ?_)
    · have h := nd_neg h c28
      refine lv_sipush (v := 254) hx hb dX13_target_116 (by decide) ?_
      exact (db_X13_target_119 C K) (x1) (x3) (x4) (x5) (254) s0 _ _ _ h hP hD hS (lv_sub hl [0, 1, 2, 3, 4] rfl)
    · have h := nd_pos h c28
      refine lv_sipush (v := 2046) hx hb dX13_target_110 (by decide) ?_
      refine lv_goto (tgt := 119) hx hb dX13_target_113 (by decide) ?_
      exact (db_X13_target_119 C K) (x1) (x3) (x4) (x5) (2046) s0 _ _ _ h hP hD hS (lv_sub hl [0, 1, 2, 3, 4] rfl)
  · have h := nd_pos h c27
    refine lv_sipush (v := 4094) hx hb dX13_target_99 (by decide) ?_
    refine lv_goto (tgt := 119) hx hb dX13_target_102 (by decide) ?_
    exact (db_X13_target_119 C K) (x1) (x3) (x4) (x5) (4094) s0 _ _ _ h hP hD hS (lv_sub hl [0, 1, 2, 3, 4] rfl)
set_option maxHeartbeats 40000000 in
set_option maxRecDepth 100000 in
theorem db_X13_target_68 {p : Program} {l : Launch} {e : Env} {s : State} {m : MethodId} {args : Array Value} {below : List Frame} {meth : Method} {c : Code} {Q : State → Prop} {A : Nat → Prop} {dC : Nat → ClassId} {dI : Nat → Nat → Nat} {a : Nat → Nat} {ac : Nat → ClassId} {n : Nat} {r : Int32 × (St)} (C : nd_C p l s m args c A (dC, dI) cX13_target 7 RX13 ow_dm_X13_target (dk_X13 ac)) (K : nd_Ki p l e (headSpec ow_dm_X13_target ({ frames := 8, cells := 0, slots := 0, locals := 182 })).room s m args below meth c Q A (dC, dI) cX13_target .int (St) (dw_X13 a ac) r) : dj_X13_target_68 p l e s m args below meth c Q A dC dI a ac (df_X13_target_68 n) r := by
  obtain ⟨hlt, hx, hb, hml, hown, hts, hN, hA, hK⟩ := id C
  intro x1 x3 x4 y0 s0 H locs ls h hP hD hS hl
  unfold df_X13_target_68 at h
  refine lv_istore (lv' := [(5, .int y0), (0, .ref (a 0)), (1, .int x1), (3, .int x3), (4, .int x4)]) hx hb dX13_target_68 hl (by decide) rfl (fun ls hl => ?_)
  refine lv_iload hx hb dX13_target_70 (lv_at hl 4 rfl) ?_
  refine lv_iconst (v := 2) hx hb dX13_target_72 (by decide) ?_
  refine lv_icmp_eq (tgt := 87) hx hb dX13_target_73 (by decide) (fun c11 => ?_) (fun c11 => ?_)
  · have h := nd_pos h c11
    exact (db_X13_target_87 C K) (x1) (x3) (x4) (y0) s0 _ _ _ h hP hD hS (lv_sub hl [1, 2, 3, 4, 0] rfl)
  · have h := nd_neg h c11
    refine lv_iload hx hb dX13_target_76 (lv_at hl 4 rfl) ?_
    refine lv_iconst (v := 1) hx hb dX13_target_78 (by decide) ?_
    refine lv_icmp_ne (tgt := 93) hx hb dX13_target_79 (by decide) (fun c26 => ?_) (fun c26 => ?_)
    · have h := nd_neg h c26
      exact (db_X13_target_93 C K) (x1) (x3) (x4) (y0) s0 _ _ _ h hP hD hS (lv_sub hl [1, 2, 3, 4, 0] rfl)
    · have h := nd_pos h c26
      refine lv_iload_n hx hb dX13_target_82 rfl (lv_at hl 2 rfl) ?_
      refine lv_iconst (v := 1) hx hb dX13_target_83 (by decide) ?_
      refine lv_icmp_ne (tgt := 93) hx hb dX13_target_84 (by decide) (fun c29 => ?_) (fun c29 => ?_)
      · have h := nd_neg h c29
        exact (db_X13_target_93 C K) (x1) (x3) (x4) (y0) s0 _ _ _ h hP hD hS (lv_sub hl [1, 2, 3, 4, 0] rfl)
      · have h := nd_pos h c29
        exact (db_X13_target_87 C K) (x1) (x3) (x4) (y0) s0 _ _ _ h hP hD hS (lv_sub hl [1, 2, 3, 4, 0] rfl)
set_option maxHeartbeats 40000000 in
set_option maxRecDepth 100000 in
theorem db_X13_target_53 {p : Program} {l : Launch} {e : Env} {s : State} {m : MethodId} {args : Array Value} {below : List Frame} {meth : Method} {c : Code} {Q : State → Prop} {A : Nat → Prop} {dC : Nat → ClassId} {dI : Nat → Nat → Nat} {a : Nat → Nat} {ac : Nat → ClassId} {n : Nat} {r : Int32 × (St)} (C : nd_C p l s m args c A (dC, dI) cX13_target 7 RX13 ow_dm_X13_target (dk_X13 ac)) (K : nd_Ki p l e (headSpec ow_dm_X13_target ({ frames := 8, cells := 0, slots := 0, locals := 182 })).room s m args below meth c Q A (dC, dI) cX13_target .int (St) (dw_X13 a ac) r) : dj_X13_target_53 p l e s m args below meth c Q A dC dI a ac (df_X13_target_53 n) r := by
  obtain ⟨hlt, hx, hb, hml, hown, hts, hN, hA, hK⟩ := id C
  intro x1 x3 y0 s0 H locs ls h hP hD hS hl
  unfold df_X13_target_53 at h
  refine lv_istore (lv' := [(4, .int y0), (0, .ref (a 0)), (1, .int x1), (3, .int x3)]) hx hb dX13_target_53 hl (by decide) rfl (fun ls hl => ?_)
  refine lv_iload hx hb dX13_target_55 (lv_at hl 0 rfl) ?_
  refine lv_iconst (v := 2) hx hb dX13_target_57 (by decide) ?_
  refine lv_icmp_ne (tgt := 67) hx hb dX13_target_58 (by decide) (fun c10 => ?_) (fun c10 => ?_)
  · have h := nd_neg h c10
    refine lv_iload_n hx hb dX13_target_67 rfl (lv_at hl 3 rfl) ?_
    exact (db_X13_target_68 C K) (x1) (x3) (y0) (x3) s0 _ _ _ h hP hD hS (lv_sub hl [1, 2, 3, 0] rfl)
  · have h := nd_pos h c10
    refine lv_iload_n hx hb dX13_target_61 rfl (lv_at hl 3 rfl) ?_
    refine lv_iconst (v := 4) hx hb dX13_target_62 (by decide) ?_
    refine lv_isub hx hb dX13_target_63 ?_
    refine lv_goto (tgt := 68) hx hb dX13_target_64 (by decide) ?_
    exact (db_X13_target_68 C K) (x1) (x3) (y0) ((x3 - 4)) s0 _ _ _ h hP hD hS (lv_sub hl [1, 2, 3, 0] rfl)
set_option maxHeartbeats 40000000 in
set_option maxRecDepth 100000 in
theorem db_X13_target_38 {p : Program} {l : Launch} {e : Env} {s : State} {m : MethodId} {args : Array Value} {below : List Frame} {meth : Method} {c : Code} {Q : State → Prop} {A : Nat → Prop} {dC : Nat → ClassId} {dI : Nat → Nat → Nat} {a : Nat → Nat} {ac : Nat → ClassId} {n : Nat} {r : Int32 × (St)} (C : nd_C p l s m args c A (dC, dI) cX13_target 7 RX13 ow_dm_X13_target (dk_X13 ac)) (K : nd_Ki p l e (headSpec ow_dm_X13_target ({ frames := 8, cells := 0, slots := 0, locals := 182 })).room s m args below meth c Q A (dC, dI) cX13_target .int (St) (dw_X13 a ac) r) : dj_X13_target_38 p l e s m args below meth c Q A dC dI a ac (df_X13_target_38 n) r := by
  obtain ⟨hlt, hx, hb, hml, hown, hts, hN, hA, hK⟩ := id C
  intro x1 x2 x3 s0 H locs ls h hP hD hS hl
  unfold df_X13_target_38 at h
  refine lv_aload_n hx hb dX13_target_38 rfl (lv_at hl 0 rfl) ?_
  refine va_get (D := (dC, dI)) (ci := 14) (v := .int (sI s0 15)) (C := RX13) (T := TX13) (N := 37) hx hb hts hi_dm_X13_target_X13 hown hK hP 0 rfl rfl 24 (by decide) (hts (.fieldLink RX13 522 "TimeMachineModel$Assembler" "mode" "I") (List.mem_of_getElem? (i := 6) rfl)) (fun _ h9 => h9) rfl dX13_target_39 ?_
  refine lv_if_ne (tgt := 49) hx hb dX13_target_42 (by decide) (fun c6 => ?_) (fun c6 => ?_)
  · have h := nd_neg h c6
    refine lv_aload_n hx hb dX13_target_49 rfl (lv_at hl 0 rfl) ?_
    obtain ⟨q7, s8, hq, h⟩ := nd_b2_e h
    have hPc := hP
    have hDc := hD
    have hKc := hK
    have hFc := nd_rs hD hS hA
    refine nd_cVi (As := []) (rest := []) (q := q7) (w' := dw_X13 a ac s8) ⟨hx, hb, hml, hown, hts⟩ (fun sz => dm_X13_level l hlt dC dI a ac n  s0 hq sz) (cwV 0 hts gi_dm_X13_target_1 rfl rfl rfl (by decide +kernel) ⟨Nat.le_of_ble_eq_true rfl, Nat.le_of_ble_eq_true rfl⟩) hPc hDc hKc hS hA hN (va_recv hKc hPc (ci := 14) (q0 := 0) rfl rfl) rfl hl.1 rfl (Nat.le_of_ble_eq_true rfl) dX13_target_50 (fun H locs hP1 hD1 hk1 hS => ?_)
    have hP := hP1
    have hD := hD1.weaken (fun k q _ h => hFc q.1 h)
    exact (db_X13_target_53 C K) (x1) (x3) (q7) s8 _ _ _ h hP hD hS (lv_sub hl [0, 1, 3] rfl)
  · have h := nd_pos h c6
    refine lv_iload_n hx hb dX13_target_45 rfl (lv_at hl 2 rfl) ?_
    refine lv_goto (tgt := 53) hx hb dX13_target_46 (by decide) ?_
    exact (db_X13_target_53 C K) (x1) (x3) (x2) s0 _ _ _ h hP hD hS (lv_sub hl [0, 1, 3] rfl)
set_option maxHeartbeats 40000000 in
set_option maxRecDepth 100000 in
theorem db_X13_target_0 {p : Program} {l : Launch} {e : Env} {s : State} {m : MethodId} {args : Array Value} {below : List Frame} {meth : Method} {c : Code} {Q : State → Prop} {A : Nat → Prop} {dC : Nat → ClassId} {dI : Nat → Nat → Nat} {a : Nat → Nat} {ac : Nat → ClassId} {n : Nat} {r : Int32 × (St)} (C : nd_C p l s m args c A (dC, dI) cX13_target 7 RX13 ow_dm_X13_target (dk_X13 ac)) (K : nd_Ki p l e (headSpec ow_dm_X13_target ({ frames := 8, cells := 0, slots := 0, locals := 182 })).room s m args below meth c Q A (dC, dI) cX13_target .int (St) (dw_X13 a ac) r) : dj_X13_target_0 p l e s m args below meth c Q A dC dI a ac (df_X13_target_0 n) r := by
  obtain ⟨hlt, hx, hb, hml, hown, hts, hN, hA, hK⟩ := id C
  intro v0 v1 s0 H locs ls h hP hD hS hl
  unfold df_X13_target_0 at h
  refine lv_aload_n hx hb dX13_target_0 rfl (lv_at hl 0 rfl) ?_
  obtain ⟨q1, s2, hq, h⟩ := nd_b2_e h
  have hPc := hP
  have hDc := hD
  have hKc := hK
  have hFc := nd_rs hD hS hA
  refine nd_cVi (As := []) (rest := []) (q := q1) (w' := dw_X13 a ac s2) ⟨hx, hb, hml, hown, hts⟩ (fun sz => dm_X13_expression l hlt dC dI a ac n  s0 hq sz) (cwV 0 hts gi_dm_X13_target_0 rfl rfl rfl (by decide +kernel) ⟨Nat.le_of_ble_eq_true rfl, Nat.le_of_ble_eq_true rfl⟩) hPc hDc hKc hS hA hN (va_recv hKc hPc (ci := 14) (q0 := 0) rfl rfl) rfl hl.1 rfl (Nat.le_of_ble_eq_true rfl) dX13_target_1 (fun H locs hP1 hD1 hk1 hS => ?_)
  have hP := hP1
  have hD := hD1.weaken (fun k q _ h => hFc q.1 h)
  refine lv_aload_n hx hb dX13_target_4 rfl (lv_at hl 0 rfl) ?_
  refine va_get (D := (dC, dI)) (ci := 14) (v := .int (sI s2 17)) (C := RX13) (T := TX13) (N := 37) hx hb hts hi_dm_X13_target_X13 hown hK hP 0 rfl rfl 26 (by decide) (hts (.fieldLink RX13 486 "TimeMachineModel$Assembler" "address" "I") (List.mem_of_getElem? (i := 5) rfl)) (fun _ h9 => h9) rfl dX13_target_5 ?_
  refine lv_isub hx hb dX13_target_8 ?_
  refine lv_topi (fun z4 ez4 => ?_)
  have h := nd_at h ez4
  refine lv_istore_n (lv' := [(3, .int z4), (0, .ref (a 0)), (1, .int v0), (2, .int v1)]) hx hb dX13_target_9 rfl hl (by decide) rfl (fun ls hl => ?_)
  refine lv_aload_n hx hb dX13_target_10 rfl (lv_at hl 1 rfl) ?_
  refine va_get (D := (dC, dI)) (ci := 14) (v := .int (sI s2 15)) (C := RX13) (T := TX13) (N := 37) hx hb hts hi_dm_X13_target_X13 hown hK hP 0 rfl rfl 24 (by decide) (hts (.fieldLink RX13 522 "TimeMachineModel$Assembler" "mode" "I") (List.mem_of_getElem? (i := 6) rfl)) (fun _ h9 => h9) rfl dX13_target_11 ?_
  refine lv_if_ne (tgt := 38) hx hb dX13_target_14 (by decide) (fun c5 => ?_) (fun c5 => ?_)
  · have h := nd_neg h c5
    exact (db_X13_target_38 C K) (v0) (v1) (z4) s2 _ _ _ h hP hD hS (lv_sub hl [1, 2, 3, 0] rfl)
  · have h := nd_pos h c5
    refine lv_aload_n hx hb dX13_target_17 rfl (lv_at hl 1 rfl) ?_
    refine va_get (D := (dC, dI)) (ci := 14) (v := .ref (a 5)) (C := RX13) (T := TX13) (N := 37) hx hb hts hi_dm_X13_target_X13 hown hK hP 0 rfl rfl 7 (by decide) (hts (.fieldLink RX13 328 "TimeMachineModel$Assembler" "place" "[I") (List.mem_of_getElem? (i := 17) rfl)) (fun _ h9 => h9) rfl dX13_target_18 ?_
    refine lv_aload_n hx hb dX13_target_21 rfl (lv_at hl 1 rfl) ?_
    refine va_get (D := (dC, dI)) (ci := 14) (v := .int (sI s2 16)) (C := RX13) (T := TX13) (N := 37) hx hb hts hi_dm_X13_target_X13 hown hK hP 0 rfl rfl 25 (by decide) (hts (.fieldLink RX13 454 "TimeMachineModel$Assembler" "current" "I") (List.mem_of_getElem? (i := 18) rfl)) (fun _ h9 => h9) rfl dX13_target_22 ?_
    refine lv_dup2_11 hx hb dX13_target_25 rfl rfl ?_
    obtain ⟨i30, h⟩ := nd_ck_e h
    refine va_iald (i := (sI s2 16)) hx hb hK hP 5 4 rfl rfl i30 dX13_target_26 ?_
    refine lv_iload_n hx hb dX13_target_27 rfl (lv_at hl 2 rfl) ?_
    refine lv_bipush (v := 20) hx hb dX13_target_28 (by decide) ?_
    refine lv_ishl hx hb dX13_target_30 ?_
    refine lv_iload_n hx hb dX13_target_31 rfl (lv_at hl 3 rfl) ?_
    refine lv_bipush (v := 17) hx hb dX13_target_32 (by decide) ?_
    refine lv_ishl hx hb dX13_target_34 ?_
    refine lv_ior hx hb dX13_target_35 ?_
    refine lv_ior hx hb dX13_target_36 ?_
    obtain ⟨i31, h⟩ := nd_ck_e h
    refine va_iast (i := (sI s2 16)) (x := ((sR s2 3 (Int32.toNatClampNeg (sI s2 16))) ||| (((v0 : Int32) <<< ((20 : Int32) &&& 31)) ||| ((v1 : Int32) <<< ((17 : Int32) &&& 31))))) hx hb hK hP hD hS 5 4 rfl rfl i31 dX13_target_37 (fun H locs hP hD hS => ?_)
    obtain ⟨s32, es32, h⟩ := nd_let_e h
    have hP : va_P (dC, dI) vwCl (dw_X13 a ac s32) H := by rw [es32]; exact hP
    have hD : va_D A (dw_X13 a ac s32) := by rw [es32]; exact hD
    exact (db_X13_target_38 C K) (v0) (v1) (z4) s32 _ _ _ h hP hD hS (lv_sub hl [1, 2, 3, 0] rfl)
set_option maxHeartbeats 40000000 in
set_option maxRecDepth 100000 in
theorem dm_X13_target (l : Launch) (hlt : l.stackTraces = false) (dC : Nat → ClassId) (dI : Nat → Nat → Nat) (a : Nat → Nat) (ac : Nat → ClassId) (n : Nat) (v0 : Int32) (v1 : Int32) (s0 : St) {r : Int32 × (St)} (h : df_X13_target n v0 v1 s0 = some r) (sz : Nat) : Met l yX13_target ow_dm_X13_target ({ frames := 8, cells := 0, slots := 0, locals := 182 }) (va_Pc [.ref (a 0), .int v0, .int v1] (fun U => U.heap.size = sz ∧ va_P (dC, dI) vwCl (dw_X13 a ac s0) U.heap ∧ va_K (dC, dI) vwCl (dk_X13 ac) U ∧ va_D (fun _ => True) (dw_X13 a ac s0) ∧ nv_E dI (va_A (dw_X13 a ac s0) sz) U)) (va_Qi (fun x _ => x = r.1) (fun (_ : Unit) t => va_P (dC, dI) vwCl (dw_X13 a ac r.2) t.heap ∧ va_K (dC, dI) vwCl (dk_X13 ac) t ∧ va_D (va_A (dw_X13 a ac s0) sz) (dw_X13 a ac r.2)) (va_A (dw_X13 a ac s0) sz)) 0 0 (va_A (dw_X13 a ac s0) sz) := by
  refine Met.ofW (cc := cX13_target) (maxL := 7) (ret := (some .int)) (by decide) rfl ?_
  intro p e s m args below meth c s₁ B hml hv
  obtain ⟨rfl, hsz, hP, hK, hD0, hN⟩ := hv
  have hx := B.exec
  have hb := B.bytes
  have hr := B.returns
  have hts := atoms_spec (ws := ow_dm_X13_target) B.pre
  have hown : s.vm.findClass RX13 = some m.cls := findClass_of_methodNamed B.named
  have hlocks := B.notSynchronized
  subst hsz
  have hD := hD0.self (sz := s.heap.size)
  generalize hAe : va_A (dw_X13 a ac s0) s.heap.size = A at hD hN ⊢
  have hA : ∀ q : Nat, s.heap.size ≤ q → A q := fun q h => by rw [← hAe]; exact Or.inr h
  have hl := lv_entry ([.ref (a 0), .int v0, .int v1]) (n := 7) (Nat.le_of_ble_eq_true rfl)
  rw [lg_entry_eq]
  generalize (lg_sl ([.ref (a 0), .int v0, .int v1]) ++ List.replicate (7 - (lg_sl ([.ref (a 0), .int v0, .int v1])).length) Slot.unset).toArray = ls at hl ⊢
  have hl : lv_has ls 7 [(0, .ref (a 0)), (1, .int v0), (2, .int v1)] := hl
  exact db_X13_target_0 (dC := dC) (dI := dI) (a := a) (ac := ac) (n := n) (r := r) ⟨hlt, hx, hb, hml, hown, hts, hN, hA, hK⟩ (fun pc v τ H locs ls d z er hP hD hS => by subst er; exact W.zret (v := v) hx hb hr z (fun t ht hW => ⟨⟨v, (), rfl, rfl, by rw [ht]; exact hP, va_K.moved hW.alike hK, hD⟩, hS.F ht⟩) hS.2.2 d) v0 v1 s0 _ _ _ h hP hD va_S.rf (lv_sub hl [0, 1, 2] rfl)
def ow_dm_X13_jump : List Cond := Cond.code yX13_jump cX13_jump 3 none :: ([Cond.methodLink RX13 561 yX13_target, Cond.instanceMethod yX13_target, Cond.selects RX13 yX13_target yX13_target, Cond.initialized RX13, Cond.methodLink RX13 554 yX13_level, Cond.instanceMethod yX13_level, Cond.selects RX13 yX13_level yX13_level, Cond.methodLink RX13 567 yX13_jumpBits, Cond.static yX13_jumpBits, Cond.methodLink RX13 570 yX13_word, Cond.instanceMethod yX13_word, Cond.selects RX13 yX13_word yX13_word, Cond.methodLink RX13 564 yX13_shortJump, Cond.static yX13_shortJump, Cond.methodLink RX13 547 yX13_half, Cond.instanceMethod yX13_half, Cond.selects RX13 yX13_half yX13_half] ++ (ow_dm_X13_target ++ (ow_dm_X13_level ++ (ow_dm_X13_jumpBits ++ (ow_dm_X13_word ++ (ow_dm_X13_shortJump ++ (ow_dm_X13_half ++ [])))))))
theorem gd_dm_X13_jump : ∀ w ∈ ow_dm_X13_jump, (w.onTables && w.keeps) = true ∨ ∃ ty, w = Cond.arrayClass ty := List.forall_mem_cons.mpr ⟨good_of_word rfl, List.forall_mem_append.mpr ⟨fun w h => good_of_word (List.all_eq_true.mp (by decide +kernel) w h), List.forall_mem_append.mpr ⟨gd_dm_X13_target, List.forall_mem_append.mpr ⟨gd_dm_X13_level, List.forall_mem_append.mpr ⟨gd_dm_X13_jumpBits, List.forall_mem_append.mpr ⟨gd_dm_X13_word, List.forall_mem_append.mpr ⟨gd_dm_X13_shortJump, List.forall_mem_append.mpr ⟨gd_dm_X13_half, fun _ h => nomatch h⟩⟩⟩⟩⟩⟩⟩⟩
theorem gi_dm_X13_jump_0 : GoodIn ow_dm_X13_jump (wsV RX13 561 RX13 yX13_target ow_dm_X13_target) := goodIn_app (goodIn_of _ (by decide +kernel)) (fun w h => ⟨List.mem_cons_of_mem _ (List.mem_append_right _ (List.mem_append_left _ h)), gd_dm_X13_target w h⟩)
theorem gi_dm_X13_jump_1 : GoodIn ow_dm_X13_jump (wsV RX13 554 RX13 yX13_level ow_dm_X13_level) := goodIn_app (goodIn_of _ (by decide +kernel)) (fun w h => ⟨List.mem_cons_of_mem _ (List.mem_append_right _ (List.mem_append_right _ (List.mem_append_left _ h))), gd_dm_X13_level w h⟩)
theorem gi_dm_X13_jump_2 : GoodIn ow_dm_X13_jump (wsS RX13 567 yX13_jumpBits ow_dm_X13_jumpBits) := goodIn_app (goodIn_of _ (by decide +kernel)) (fun w h => ⟨List.mem_cons_of_mem _ (List.mem_append_right _ (List.mem_append_right _ (List.mem_append_right _ (List.mem_append_left _ h)))), gd_dm_X13_jumpBits w h⟩)
theorem gi_dm_X13_jump_3 : GoodIn ow_dm_X13_jump (wsV RX13 570 RX13 yX13_word ow_dm_X13_word) := goodIn_app (goodIn_of _ (by decide +kernel)) (fun w h => ⟨List.mem_cons_of_mem _ (List.mem_append_right _ (List.mem_append_right _ (List.mem_append_right _ (List.mem_append_right _ (List.mem_append_left _ h))))), gd_dm_X13_word w h⟩)
theorem gi_dm_X13_jump_4 : GoodIn ow_dm_X13_jump (wsS RX13 564 yX13_shortJump ow_dm_X13_shortJump) := goodIn_app (goodIn_of _ (by decide +kernel)) (fun w h => ⟨List.mem_cons_of_mem _ (List.mem_append_right _ (List.mem_append_right _ (List.mem_append_right _ (List.mem_append_right _ (List.mem_append_right _ (List.mem_append_left _ h)))))), gd_dm_X13_shortJump w h⟩)
theorem gi_dm_X13_jump_5 : GoodIn ow_dm_X13_jump (wsV RX13 547 RX13 yX13_half ow_dm_X13_half) := goodIn_app (goodIn_of _ (by decide +kernel)) (fun w h => ⟨List.mem_cons_of_mem _ (List.mem_append_right _ (List.mem_append_right _ (List.mem_append_right _ (List.mem_append_right _ (List.mem_append_right _ (List.mem_append_right _ (List.mem_append_left _ h))))))), gd_dm_X13_half w h⟩)
def dj_X13_jump_57 (p : Program) (l : Launch) (e : Env) (s : State) (m : MethodId) (args : Array Value) (below : List Frame) (meth : Method) (c : Code) (Q : State → Prop) (A : Nat → Prop) (dC : Nat → ClassId) (dI : Nat → Nat → Nat) (a : Nat → Nat) (ac : Nat → ClassId) (g : (St) → Option (St)) (r : St) : Prop := ∀ (s0 : St) (H : Heap) (locs : List Loc) (ls : Array Slot), g s0 = some r → va_P (dC, dI) vwCl (dw_X13 a ac s0) H → va_D A (dw_X13 a ac s0) → va_S A s.heap H locs → lv_has ls 3 [] → W p l e (headSpec ow_dm_X13_jump ({ frames := 9, cells := 0, slots := 0, locals := 208 })).room s m args below meth c H locs 0 0 Q (F0 m 57 ls [])
def dj_X13_jump_26 (p : Program) (l : Launch) (e : Env) (s : State) (m : MethodId) (args : Array Value) (below : List Frame) (meth : Method) (c : Code) (Q : State → Prop) (A : Nat → Prop) (dC : Nat → ClassId) (dI : Nat → Nat → Nat) (a : Nat → Nat) (ac : Nat → ClassId) (g : Int32 → Int32 → Int32 → (St) → Option (St)) (r : St) : Prop := ∀ (x2 : Int32) (y1 : Int32) (y2 : Int32) (s0 : St) (H : Heap) (locs : List Loc) (ls : Array Slot), g x2 y1 y2 s0 = some r → va_P (dC, dI) vwCl (dw_X13 a ac s0) H → va_D A (dw_X13 a ac s0) → va_S A s.heap H locs → lv_has ls 3 [(2, .int x2)] → W p l e (headSpec ow_dm_X13_jump ({ frames := 9, cells := 0, slots := 0, locals := 208 })).room s m args below meth c H locs 0 0 Q (F0 m 26 ls [.int y2, .int y1, .ref (a 0)])
def dj_X13_jump_0 (p : Program) (l : Launch) (e : Env) (s : State) (m : MethodId) (args : Array Value) (below : List Frame) (meth : Method) (c : Code) (Q : State → Prop) (A : Nat → Prop) (dC : Nat → ClassId) (dI : Nat → Nat → Nat) (a : Nat → Nat) (ac : Nat → ClassId) (g : Int32 → (St) → Option (St)) (r : St) : Prop := ∀ (v0 : Int32) (s0 : St) (H : Heap) (locs : List Loc) (ls : Array Slot), g v0 s0 = some r → va_P (dC, dI) vwCl (dw_X13 a ac s0) H → va_D A (dw_X13 a ac s0) → va_S A s.heap H locs → lv_has ls 3 [(0, .ref (a 0)), (1, .int v0)] → W p l e (headSpec ow_dm_X13_jump ({ frames := 9, cells := 0, slots := 0, locals := 208 })).room s m args below meth c H locs 0 0 Q (F0 m 0 ls [])
set_option maxHeartbeats 40000000 in
set_option maxRecDepth 100000 in
theorem db_X13_jump_57 {p : Program} {l : Launch} {e : Env} {s : State} {m : MethodId} {args : Array Value} {below : List Frame} {meth : Method} {c : Code} {Q : State → Prop} {A : Nat → Prop} {dC : Nat → ClassId} {dI : Nat → Nat → Nat} {a : Nat → Nat} {ac : Nat → ClassId} {n : Nat} {r : St} (C : nd_C p l s m args c A (dC, dI) cX13_jump 3 RX13 ow_dm_X13_jump (dk_X13 ac)) (K : nd_Kv p l e (headSpec ow_dm_X13_jump ({ frames := 9, cells := 0, slots := 0, locals := 208 })).room s m args below meth c Q A (dC, dI) cX13_jump (St) (dw_X13 a ac) r) : dj_X13_jump_57 p l e s m args below meth c Q A dC dI a ac (df_X13_jump_57 n) r := by
  obtain ⟨hlt, hx, hb, hml, hown, hts, hN, hA, hK⟩ := id C
  intro s0 H locs ls h hP hD hS hl
  unfold df_X13_jump_57 at h
  exact K _ _ _ _ _ dX13_jump_57 (Option.some.inj h).symm hP hD hS
set_option maxHeartbeats 40000000 in
set_option maxRecDepth 100000 in
theorem db_X13_jump_26 {p : Program} {l : Launch} {e : Env} {s : State} {m : MethodId} {args : Array Value} {below : List Frame} {meth : Method} {c : Code} {Q : State → Prop} {A : Nat → Prop} {dC : Nat → ClassId} {dI : Nat → Nat → Nat} {a : Nat → Nat} {ac : Nat → ClassId} {n : Nat} {r : St} (C : nd_C p l s m args c A (dC, dI) cX13_jump 3 RX13 ow_dm_X13_jump (dk_X13 ac)) (K : nd_Kv p l e (headSpec ow_dm_X13_jump ({ frames := 9, cells := 0, slots := 0, locals := 208 })).room s m args below meth c Q A (dC, dI) cX13_jump (St) (dw_X13 a ac) r) : dj_X13_jump_26 p l e s m args below meth c Q A dC dI a ac (df_X13_jump_26 n) r := by
  obtain ⟨hlt, hx, hb, hml, hown, hts, hN, hA, hK⟩ := id C
  intro x2 y1 y2 s0 H locs ls h hP hD hS hl
  unfold df_X13_jump_26 at h
  refine lv_bipush (v := 13) hx hb dX13_jump_26 (by decide) ?_
  refine lv_ishl hx hb dX13_jump_28 ?_
  refine lv_ior hx hb dX13_jump_29 ?_
  refine lv_iload_n hx hb dX13_jump_30 rfl (lv_at hl 0 rfl) ?_
  obtain ⟨q15, s16, hq, h⟩ := nd_b2_e h
  have hPc : va_P (dC, dI) vwCl (dw_P a ac ()) H := nd_p0
  have hDc : va_D A (dw_P a ac ()) := nd_d0
  have hKc : va_K (dC, dI) vwCl (dk_P ac) s := nd_y0 hK
  have hFc : ∀ q, va_A (dw_P a ac ()) H.size q → A q := nd_r0 hS hA
  refine nd_cSi (As := [.int x2]) (rest := [.int (y1 ||| ((y2 : Int32) <<< ((13 : Int32) &&& 31))), .ref (a 0)]) (q := q15) (w' := dw_P a ac s16) ⟨hx, hb, hml, hown, hts⟩ (fun sz => dm_X13_shortJump l hlt dC dI a ac n (x2) () hq sz) (cwS 1 hts gi_dm_X13_jump_4 rfl rfl rfl (by decide +kernel) ⟨Nat.le_of_ble_eq_true rfl, Nat.le_of_ble_eq_true rfl⟩) hPc hDc hKc hS hA hN rfl hl.1 rfl (Nat.le_of_ble_eq_true rfl) dX13_jump_31 (fun H locs hP1 hD1 hk1 hS => ?_)
  have hP := nd_n0 hP hk1
  refine lv_ior hx hb dX13_jump_34 ?_
  obtain ⟨s19, hq, h⟩ := nd_b1_e h
  have hPc := hP
  have hDc := hD
  have hKc := hK
  have hFc := nd_rs hD hS hA
  refine nd_cVv (As := [.int ((y1 ||| ((y2 : Int32) <<< ((13 : Int32) &&& 31))) ||| q15)]) (rest := []) (w' := dw_X13 a ac s19) ⟨hx, hb, hml, hown, hts⟩ (fun sz => dm_X13_half l hlt dC dI a ac n (((y1 ||| ((y2 : Int32) <<< ((13 : Int32) &&& 31))) ||| q15)) s0 hq sz) (cwV 1 hts gi_dm_X13_jump_5 rfl rfl rfl (by decide +kernel) ⟨Nat.le_of_ble_eq_true rfl, Nat.le_of_ble_eq_true rfl⟩) hPc hDc hKc hS hA hN (va_recv hKc hPc (ci := 14) (q0 := 0) rfl rfl) rfl hl.1 rfl (Nat.le_of_ble_eq_true rfl) dX13_jump_35 (fun H locs hP1 hD1 hk1 hS => ?_)
  have hP := hP1
  have hD := hD1.weaken (fun k q _ h => hFc q.1 h)
  refine lv_goto (tgt := 57) hx hb dX13_jump_38 (by decide) ?_
  exact (db_X13_jump_57 C K)  s19 _ _ _ h hP hD hS (lv_sub hl [] rfl)
set_option maxHeartbeats 40000000 in
set_option maxRecDepth 100000 in
theorem db_X13_jump_0 {p : Program} {l : Launch} {e : Env} {s : State} {m : MethodId} {args : Array Value} {below : List Frame} {meth : Method} {c : Code} {Q : State → Prop} {A : Nat → Prop} {dC : Nat → ClassId} {dI : Nat → Nat → Nat} {a : Nat → Nat} {ac : Nat → ClassId} {n : Nat} {r : St} (C : nd_C p l s m args c A (dC, dI) cX13_jump 3 RX13 ow_dm_X13_jump (dk_X13 ac)) (K : nd_Kv p l e (headSpec ow_dm_X13_jump ({ frames := 9, cells := 0, slots := 0, locals := 208 })).room s m args below meth c Q A (dC, dI) cX13_jump (St) (dw_X13 a ac) r) : dj_X13_jump_0 p l e s m args below meth c Q A dC dI a ac (df_X13_jump_0 n) r := by
  obtain ⟨hlt, hx, hb, hml, hown, hts, hN, hA, hK⟩ := id C
  intro v0 s0 H locs ls h hP hD hS hl
  unfold df_X13_jump_0 at h
  refine lv_aload_n hx hb dX13_jump_0 rfl (lv_at hl 0 rfl) ?_
  refine lv_iconst (v := 1) hx hb dX13_jump_1 (by decide) ?_
  refine lv_iconst (v := 0) hx hb dX13_jump_2 (by decide) ?_
  obtain ⟨q1, s2, hq, h⟩ := nd_b2_e h
  have hPc := hP
  have hDc := hD
  have hKc := hK
  have hFc := nd_rs hD hS hA
  refine nd_cVi (As := [.int 1, .int 0]) (rest := []) (q := q1) (w' := dw_X13 a ac s2) ⟨hx, hb, hml, hown, hts⟩ (fun sz => dm_X13_target l hlt dC dI a ac n (1) (0) s0 hq sz) (cwV 2 hts gi_dm_X13_jump_0 rfl rfl rfl (by decide +kernel) ⟨Nat.le_of_ble_eq_true rfl, Nat.le_of_ble_eq_true rfl⟩) hPc hDc hKc hS hA hN (va_recv hKc hPc (ci := 14) (q0 := 0) rfl rfl) rfl hl.1 rfl (Nat.le_of_ble_eq_true rfl) dX13_jump_3 (fun H locs hP1 hD1 hk1 hS => ?_)
  have hP := hP1
  have hD := hD1.weaken (fun k q _ h => hFc q.1 h)
  refine lv_istore_n (lv' := [(2, .int q1), (0, .ref (a 0)), (1, .int v0)]) hx hb dX13_jump_6 rfl hl (by decide) rfl (fun ls hl => ?_)
  refine lv_aload_n hx hb dX13_jump_7 rfl (lv_at hl 1 rfl) ?_
  obtain ⟨q4, s5, hq, h⟩ := nd_b2_e h
  have hPc := hP
  have hDc := hD
  have hKc := hK
  have hFc := nd_rs hD hS hA
  refine nd_cVi (As := []) (rest := []) (q := q4) (w' := dw_X13 a ac s5) ⟨hx, hb, hml, hown, hts⟩ (fun sz => dm_X13_level l hlt dC dI a ac n  s2 hq sz) (cwV 0 hts gi_dm_X13_jump_1 rfl rfl rfl (by decide +kernel) ⟨Nat.le_of_ble_eq_true rfl, Nat.le_of_ble_eq_true rfl⟩) hPc hDc hKc hS hA hN (va_recv hKc hPc (ci := 14) (q0 := 0) rfl rfl) rfl hl.1 rfl (Nat.le_of_ble_eq_true rfl) dX13_jump_8 (fun H locs hP1 hD1 hk1 hS => ?_)
  have hP := hP1
  have hD := hD1.weaken (fun k q _ h => hFc q.1 h)
  refine lv_if_ne (tgt := 41) hx hb dX13_jump_11 (by decide) (fun c7 => ?_) (fun c7 => ?_)
  · have h := nd_neg h c7
    refine lv_aload_n hx hb dX13_jump_41 rfl (lv_at hl 1 rfl) ?_
    refine lv_bipush (v := 111) hx hb dX13_jump_42 (by decide) ?_
    refine lv_iload_n hx hb dX13_jump_44 rfl (lv_at hl 2 rfl) ?_
    refine lv_bipush (v := 7) hx hb dX13_jump_45 (by decide) ?_
    refine lv_ishl hx hb dX13_jump_47 ?_
    refine lv_ior hx hb dX13_jump_48 ?_
    refine lv_iload_n hx hb dX13_jump_49 rfl (lv_at hl 0 rfl) ?_
    obtain ⟨q8, s9, hq, h⟩ := nd_b2_e h
    have hPc : va_P (dC, dI) vwCl (dw_P a ac ()) H := nd_p0
    have hDc : va_D A (dw_P a ac ()) := nd_d0
    have hKc : va_K (dC, dI) vwCl (dk_P ac) s := nd_y0 hK
    have hFc : ∀ q, va_A (dw_P a ac ()) H.size q → A q := nd_r0 hS hA
    refine nd_cSi (As := [.int q1]) (rest := [.int (111 ||| ((v0 : Int32) <<< ((7 : Int32) &&& 31))), .ref (a 0)]) (q := q8) (w' := dw_P a ac s9) ⟨hx, hb, hml, hown, hts⟩ (fun sz => dm_X13_jumpBits l hlt dC dI a ac n (q1) () hq sz) (cwS 1 hts gi_dm_X13_jump_2 rfl rfl rfl (by decide +kernel) ⟨Nat.le_of_ble_eq_true rfl, Nat.le_of_ble_eq_true rfl⟩) hPc hDc hKc hS hA hN rfl hl.1 rfl (Nat.le_of_ble_eq_true rfl) dX13_jump_50 (fun H locs hP1 hD1 hk1 hS => ?_)
    have hP := nd_n0 hP hk1
    refine lv_ior hx hb dX13_jump_53 ?_
    obtain ⟨s12, hq, h⟩ := nd_b1_e h
    have hPc := hP
    have hDc := hD
    have hKc := hK
    have hFc := nd_rs hD hS hA
    refine nd_cVv (As := [.int ((111 ||| ((v0 : Int32) <<< ((7 : Int32) &&& 31))) ||| q8)]) (rest := []) (w' := dw_X13 a ac s12) ⟨hx, hb, hml, hown, hts⟩ (fun sz => dm_X13_word l hlt dC dI a ac n (((111 ||| ((v0 : Int32) <<< ((7 : Int32) &&& 31))) ||| q8)) s5 hq sz) (cwV 1 hts gi_dm_X13_jump_3 rfl rfl rfl (by decide +kernel) ⟨Nat.le_of_ble_eq_true rfl, Nat.le_of_ble_eq_true rfl⟩) hPc hDc hKc hS hA hN (va_recv hKc hPc (ci := 14) (q0 := 0) rfl rfl) rfl hl.1 rfl (Nat.le_of_ble_eq_true rfl) dX13_jump_54 (fun H locs hP1 hD1 hk1 hS => ?_)
    have hP := hP1
    have hD := hD1.weaken (fun k q _ h => hFc q.1 h)
    exact (db_X13_jump_57 C K)  s12 _ _ _ h hP hD hS (lv_sub hl [] rfl)
  · have h := nd_pos h c7
    refine lv_aload_n hx hb dX13_jump_14 rfl (lv_at hl 1 rfl) ?_
    refine lv_iconst (v := 1) hx hb dX13_jump_15 (by decide) ?_
    refine lv_iload_n hx hb dX13_jump_16 rfl (lv_at hl 2 rfl) ?_
    refine lv_iconst (v := 1) hx hb dX13_jump_17 (by decide) ?_
    refine lv_icmp_ne (tgt := 25) hx hb dX13_jump_18 (by decide) (fun c14 => ?_) (fun c14 => ?_)
    · have h := nd_neg h c14
      refine lv_iconst (v := 5) hx hb dX13_jump_25 (by decide) ?_
      exact (db_X13_jump_26 C K) (q1) (1) (5) s5 _ _ _ h hP hD hS (lv_sub hl [0] rfl)
    · have h := nd_pos h c14
      refine lv_iconst (v := 1) hx hb dX13_jump_21 (by decide) ?_
      refine lv_goto (tgt := 26) hx hb dX13_jump_22 (by decide) ?_
      exact (db_X13_jump_26 C K) (q1) (1) (1) s5 _ _ _ h hP hD hS (lv_sub hl [0] rfl)
set_option maxHeartbeats 40000000 in
set_option maxRecDepth 100000 in
theorem dm_X13_jump (l : Launch) (hlt : l.stackTraces = false) (dC : Nat → ClassId) (dI : Nat → Nat → Nat) (a : Nat → Nat) (ac : Nat → ClassId) (n : Nat) (v0 : Int32) (s0 : St) {r : St} (h : df_X13_jump n v0 s0 = some r) (sz : Nat) : Met l yX13_jump ow_dm_X13_jump ({ frames := 9, cells := 0, slots := 0, locals := 208 }) (va_Pc [.ref (a 0), .int v0] (fun U => U.heap.size = sz ∧ va_P (dC, dI) vwCl (dw_X13 a ac s0) U.heap ∧ va_K (dC, dI) vwCl (dk_X13 ac) U ∧ va_D (fun _ => True) (dw_X13 a ac s0) ∧ nv_E dI (va_A (dw_X13 a ac s0) sz) U)) (va_Qv (fun _ => True) (fun (_ : Unit) t => va_P (dC, dI) vwCl (dw_X13 a ac r) t.heap ∧ va_K (dC, dI) vwCl (dk_X13 ac) t ∧ va_D (va_A (dw_X13 a ac s0) sz) (dw_X13 a ac r)) (va_A (dw_X13 a ac s0) sz)) 0 0 (va_A (dw_X13 a ac s0) sz) := by
  refine Met.ofW (cc := cX13_jump) (maxL := 3) (ret := none) (by decide) rfl ?_
  intro p e s m args below meth c s₁ B hml hv
  obtain ⟨rfl, hsz, hP, hK, hD0, hN⟩ := hv
  have hx := B.exec
  have hb := B.bytes
  have hr := B.returns
  have hts := atoms_spec (ws := ow_dm_X13_jump) B.pre
  have hown : s.vm.findClass RX13 = some m.cls := findClass_of_methodNamed B.named
  have hlocks := B.notSynchronized
  subst hsz
  have hD := hD0.self (sz := s.heap.size)
  generalize hAe : va_A (dw_X13 a ac s0) s.heap.size = A at hD hN ⊢
  have hA : ∀ q : Nat, s.heap.size ≤ q → A q := fun q h => by rw [← hAe]; exact Or.inr h
  have hl := lv_entry ([.ref (a 0), .int v0]) (n := 3) (Nat.le_of_ble_eq_true rfl)
  rw [lg_entry_eq]
  generalize (lg_sl ([.ref (a 0), .int v0]) ++ List.replicate (3 - (lg_sl ([.ref (a 0), .int v0])).length) Slot.unset).toArray = ls at hl ⊢
  have hl : lv_has ls 3 [(0, .ref (a 0)), (1, .int v0)] := hl
  exact db_X13_jump_0 (dC := dC) (dI := dI) (a := a) (ac := ac) (n := n) (r := r) ⟨hlt, hx, hb, hml, hown, hts, hN, hA, hK⟩ (fun pc τ H locs ls d er hP hD hS => by subst er; exact W.vret hx hb hr (fun t ht hW => ⟨⟨(), rfl, trivial, by rw [ht]; exact hP, va_K.moved hW.alike hK, hD⟩, hS.F ht⟩) hS.2.2 d) v0 s0 _ _ _ h hP hD va_S.rf (lv_sub hl [0, 1] rfl)
def ow_dm_X13_branch : List Cond := Cond.code yX13_branch cX13_branch 8 none :: ([Cond.methodLink RX13 561 yX13_target, Cond.instanceMethod yX13_target, Cond.selects RX13 yX13_target yX13_target, Cond.initialized RX13, Cond.methodLink RX13 554 yX13_level, Cond.instanceMethod yX13_level, Cond.selects RX13 yX13_level yX13_level, Cond.methodLink RX13 576 yX13_branchBits, Cond.static yX13_branchBits, Cond.methodLink RX13 570 yX13_word, Cond.instanceMethod yX13_word, Cond.selects RX13 yX13_word yX13_word, Cond.methodLink RX13 567 yX13_jumpBits, Cond.static yX13_jumpBits, Cond.methodLink RX13 573 yX13_shortBranch, Cond.static yX13_shortBranch, Cond.methodLink RX13 547 yX13_half, Cond.instanceMethod yX13_half, Cond.selects RX13 yX13_half yX13_half] ++ (ow_dm_X13_target ++ (ow_dm_X13_level ++ (ow_dm_X13_branchBits ++ (ow_dm_X13_word ++ (ow_dm_X13_jumpBits ++ (ow_dm_X13_shortBranch ++ (ow_dm_X13_half ++ []))))))))
theorem gd_dm_X13_branch : ∀ w ∈ ow_dm_X13_branch, (w.onTables && w.keeps) = true ∨ ∃ ty, w = Cond.arrayClass ty := List.forall_mem_cons.mpr ⟨good_of_word rfl, List.forall_mem_append.mpr ⟨fun w h => good_of_word (List.all_eq_true.mp (by decide +kernel) w h), List.forall_mem_append.mpr ⟨gd_dm_X13_target, List.forall_mem_append.mpr ⟨gd_dm_X13_level, List.forall_mem_append.mpr ⟨gd_dm_X13_branchBits, List.forall_mem_append.mpr ⟨gd_dm_X13_word, List.forall_mem_append.mpr ⟨gd_dm_X13_jumpBits, List.forall_mem_append.mpr ⟨gd_dm_X13_shortBranch, List.forall_mem_append.mpr ⟨gd_dm_X13_half, fun _ h => nomatch h⟩⟩⟩⟩⟩⟩⟩⟩⟩
theorem gi_dm_X13_branch_0 : GoodIn ow_dm_X13_branch (wsV RX13 561 RX13 yX13_target ow_dm_X13_target) := goodIn_app (goodIn_of _ (by decide +kernel)) (fun w h => ⟨List.mem_cons_of_mem _ (List.mem_append_right _ (List.mem_append_left _ h)), gd_dm_X13_target w h⟩)
theorem gi_dm_X13_branch_1 : GoodIn ow_dm_X13_branch (wsV RX13 554 RX13 yX13_level ow_dm_X13_level) := goodIn_app (goodIn_of _ (by decide +kernel)) (fun w h => ⟨List.mem_cons_of_mem _ (List.mem_append_right _ (List.mem_append_right _ (List.mem_append_left _ h))), gd_dm_X13_level w h⟩)
theorem gi_dm_X13_branch_2 : GoodIn ow_dm_X13_branch (wsS RX13 576 yX13_branchBits ow_dm_X13_branchBits) := goodIn_app (goodIn_of _ (by decide +kernel)) (fun w h => ⟨List.mem_cons_of_mem _ (List.mem_append_right _ (List.mem_append_right _ (List.mem_append_right _ (List.mem_append_left _ h)))), gd_dm_X13_branchBits w h⟩)
theorem gi_dm_X13_branch_3 : GoodIn ow_dm_X13_branch (wsV RX13 570 RX13 yX13_word ow_dm_X13_word) := goodIn_app (goodIn_of _ (by decide +kernel)) (fun w h => ⟨List.mem_cons_of_mem _ (List.mem_append_right _ (List.mem_append_right _ (List.mem_append_right _ (List.mem_append_right _ (List.mem_append_left _ h))))), gd_dm_X13_word w h⟩)
theorem gi_dm_X13_branch_4 : GoodIn ow_dm_X13_branch (wsS RX13 567 yX13_jumpBits ow_dm_X13_jumpBits) := goodIn_app (goodIn_of _ (by decide +kernel)) (fun w h => ⟨List.mem_cons_of_mem _ (List.mem_append_right _ (List.mem_append_right _ (List.mem_append_right _ (List.mem_append_right _ (List.mem_append_right _ (List.mem_append_left _ h)))))), gd_dm_X13_jumpBits w h⟩)
theorem gi_dm_X13_branch_5 : GoodIn ow_dm_X13_branch (wsS RX13 573 yX13_shortBranch ow_dm_X13_shortBranch) := goodIn_app (goodIn_of _ (by decide +kernel)) (fun w h => ⟨List.mem_cons_of_mem _ (List.mem_append_right _ (List.mem_append_right _ (List.mem_append_right _ (List.mem_append_right _ (List.mem_append_right _ (List.mem_append_right _ (List.mem_append_left _ h))))))), gd_dm_X13_shortBranch w h⟩)
theorem gi_dm_X13_branch_6 : GoodIn ow_dm_X13_branch (wsV RX13 547 RX13 yX13_half ow_dm_X13_half) := goodIn_app (goodIn_of _ (by decide +kernel)) (fun w h => ⟨List.mem_cons_of_mem _ (List.mem_append_right _ (List.mem_append_right _ (List.mem_append_right _ (List.mem_append_right _ (List.mem_append_right _ (List.mem_append_right _ (List.mem_append_right _ (List.mem_append_left _ h)))))))), gd_dm_X13_half w h⟩)
def dj_X13_branch_111 (p : Program) (l : Launch) (e : Env) (s : State) (m : MethodId) (args : Array Value) (below : List Frame) (meth : Method) (c : Code) (Q : State → Prop) (A : Nat → Prop) (dC : Nat → ClassId) (dI : Nat → Nat → Nat) (a : Nat → Nat) (ac : Nat → ClassId) (g : Int32 → Int32 → Int32 → Int32 → (St) → Option (St)) (r : St) : Prop := ∀ (x1 : Int32) (x5 : Int32) (x6 : Int32) (x7 : Int32) (s0 : St) (H : Heap) (locs : List Loc) (ls : Array Slot), g x1 x5 x6 x7 s0 = some r → va_P (dC, dI) vwCl (dw_X13 a ac s0) H → va_D A (dw_X13 a ac s0) → va_S A s.heap H locs → lv_has ls 8 [(0, .ref (a 0)), (1, .int x1), (5, .int x5), (6, .int x6), (7, .int x7)] → W p l e (headSpec ow_dm_X13_branch ({ frames := 9, cells := 0, slots := 0, locals := 208 })).room s m args below meth c H locs 0 0 Q (F0 m 111 ls [])
def dj_X13_branch_91 (p : Program) (l : Launch) (e : Env) (s : State) (m : MethodId) (args : Array Value) (below : List Frame) (meth : Method) (c : Code) (Q : State → Prop) (A : Nat → Prop) (dC : Nat → ClassId) (dI : Nat → Nat → Nat) (a : Nat → Nat) (ac : Nat → ClassId) (g : Int32 → Int32 → Int32 → Int32 → (St) → Option (St)) (r : St) : Prop := ∀ (x1 : Int32) (x5 : Int32) (x6 : Int32) (x7 : Int32) (s0 : St) (H : Heap) (locs : List Loc) (ls : Array Slot), g x1 x5 x6 x7 s0 = some r → va_P (dC, dI) vwCl (dw_X13 a ac s0) H → va_D A (dw_X13 a ac s0) → va_S A s.heap H locs → lv_has ls 8 [(0, .ref (a 0)), (1, .int x1), (5, .int x5), (6, .int x6), (7, .int x7)] → W p l e (headSpec ow_dm_X13_branch ({ frames := 9, cells := 0, slots := 0, locals := 208 })).room s m args below meth c H locs 0 0 Q (F0 m 91 ls [])
def dj_X13_branch_67 (p : Program) (l : Launch) (e : Env) (s : State) (m : MethodId) (args : Array Value) (below : List Frame) (meth : Method) (c : Code) (Q : State → Prop) (A : Nat → Prop) (dC : Nat → ClassId) (dI : Nat → Nat → Nat) (a : Nat → Nat) (ac : Nat → ClassId) (g : Int32 → Int32 → Int32 → Int32 → Int32 → Int32 → Int32 → (St) → Option (St)) (r : St) : Prop := ∀ (x1 : Int32) (x2 : Int32) (x5 : Int32) (x6 : Int32) (x7 : Int32) (y1 : Int32) (y2 : Int32) (s0 : St) (H : Heap) (locs : List Loc) (ls : Array Slot), g x1 x2 x5 x6 x7 y1 y2 s0 = some r → va_P (dC, dI) vwCl (dw_X13 a ac s0) H → va_D A (dw_X13 a ac s0) → va_S A s.heap H locs → lv_has ls 8 [(0, .ref (a 0)), (1, .int x1), (2, .int x2), (5, .int x5), (6, .int x6), (7, .int x7)] → W p l e (headSpec ow_dm_X13_branch ({ frames := 9, cells := 0, slots := 0, locals := 208 })).room s m args below meth c H locs 0 0 Q (F0 m 67 ls [.int y2, .int y1, .ref (a 0)])
def dj_X13_branch_21 (p : Program) (l : Launch) (e : Env) (s : State) (m : MethodId) (args : Array Value) (below : List Frame) (meth : Method) (c : Code) (Q : State → Prop) (A : Nat → Prop) (dC : Nat → ClassId) (dI : Nat → Nat → Nat) (a : Nat → Nat) (ac : Nat → ClassId) (g : Int32 → Int32 → Int32 → Int32 → Int32 → (St) → Option (St)) (r : St) : Prop := ∀ (x1 : Int32) (x2 : Int32) (x3 : Int32) (y1 : Int32) (y2 : Int32) (s0 : St) (H : Heap) (locs : List Loc) (ls : Array Slot), g x1 x2 x3 y1 y2 s0 = some r → va_P (dC, dI) vwCl (dw_X13 a ac s0) H → va_D A (dw_X13 a ac s0) → va_S A s.heap H locs → lv_has ls 8 [(0, .ref (a 0)), (1, .int x1), (2, .int x2), (3, .int x3)] → W p l e (headSpec ow_dm_X13_branch ({ frames := 9, cells := 0, slots := 0, locals := 208 })).room s m args below meth c H locs 0 0 Q (F0 m 21 ls [.int y2, .int y1, .ref (a 0)])
def dj_X13_branch_11 (p : Program) (l : Launch) (e : Env) (s : State) (m : MethodId) (args : Array Value) (below : List Frame) (meth : Method) (c : Code) (Q : State → Prop) (A : Nat → Prop) (dC : Nat → ClassId) (dI : Nat → Nat → Nat) (a : Nat → Nat) (ac : Nat → ClassId) (g : Int32 → Int32 → Int32 → Int32 → Int32 → (St) → Option (St)) (r : St) : Prop := ∀ (x1 : Int32) (x2 : Int32) (x3 : Int32) (x4 : Int32) (y1 : Int32) (s0 : St) (H : Heap) (locs : List Loc) (ls : Array Slot), g x1 x2 x3 x4 y1 s0 = some r → va_P (dC, dI) vwCl (dw_X13 a ac s0) H → va_D A (dw_X13 a ac s0) → va_S A s.heap H locs → lv_has ls 8 [(0, .ref (a 0)), (1, .int x1), (2, .int x2), (3, .int x3), (4, .int x4)] → W p l e (headSpec ow_dm_X13_branch ({ frames := 9, cells := 0, slots := 0, locals := 208 })).room s m args below meth c H locs 0 0 Q (F0 m 11 ls [.int y1, .ref (a 0)])
def dj_X13_branch_0 (p : Program) (l : Launch) (e : Env) (s : State) (m : MethodId) (args : Array Value) (below : List Frame) (meth : Method) (c : Code) (Q : State → Prop) (A : Nat → Prop) (dC : Nat → ClassId) (dI : Nat → Nat → Nat) (a : Nat → Nat) (ac : Nat → ClassId) (g : Int32 → Int32 → Int32 → Int32 → (St) → Option (St)) (r : St) : Prop := ∀ (v0 : Int32) (v1 : Int32) (v2 : Int32) (v3 : Int32) (s0 : St) (H : Heap) (locs : List Loc) (ls : Array Slot), g v0 v1 v2 v3 s0 = some r → va_P (dC, dI) vwCl (dw_X13 a ac s0) H → va_D A (dw_X13 a ac s0) → va_S A s.heap H locs → lv_has ls 8 [(0, .ref (a 0)), (1, .int v0), (2, .int v1), (3, .int v2), (4, .int v3)] → W p l e (headSpec ow_dm_X13_branch ({ frames := 9, cells := 0, slots := 0, locals := 208 })).room s m args below meth c H locs 0 0 Q (F0 m 0 ls [])
set_option maxHeartbeats 40000000 in
set_option maxRecDepth 100000 in
theorem db_X13_branch_111 {p : Program} {l : Launch} {e : Env} {s : State} {m : MethodId} {args : Array Value} {below : List Frame} {meth : Method} {c : Code} {Q : State → Prop} {A : Nat → Prop} {dC : Nat → ClassId} {dI : Nat → Nat → Nat} {a : Nat → Nat} {ac : Nat → ClassId} {n : Nat} {r : St} (C : nd_C p l s m args c A (dC, dI) cX13_branch 8 RX13 ow_dm_X13_branch (dk_X13 ac)) (K : nd_Kv p l e (headSpec ow_dm_X13_branch ({ frames := 9, cells := 0, slots := 0, locals := 208 })).room s m args below meth c Q A (dC, dI) cX13_branch (St) (dw_X13 a ac) r) : dj_X13_branch_111 p l e s m args below meth c Q A dC dI a ac (df_X13_branch_111 n) r := by
  obtain ⟨hlt, hx, hb, hml, hown, hts, hN, hA, hK⟩ := id C
  intro x1 x5 x6 x7 s0 H locs ls h hP hD hS hl
  unfold df_X13_branch_111 at h
  refine lv_iload hx hb dX13_branch_111 (lv_at hl 3 rfl) ?_
  refine lv_iconst (v := 2) hx hb dX13_branch_113 (by decide) ?_
  refine lv_icmp_ge (tgt := 118) hx hb dX13_branch_114 (by decide) (fun c12 => ?_) (fun c12 => ?_)
  · have h := nd_pos h c12
    refine lv_aload_n hx hb dX13_branch_118 rfl (lv_at hl 0 rfl) ?_
    refine lv_iload_n hx hb dX13_branch_119 rfl (lv_at hl 1 rfl) ?_
    refine lv_sipush (v := 4096) hx hb dX13_branch_120 (by decide) ?_
    refine lv_ixor hx hb dX13_branch_123 ?_
    refine lv_iload hx hb dX13_branch_124 (lv_at hl 4 rfl) ?_
    refine lv_ior hx hb dX13_branch_126 ?_
    refine lv_bipush (v := 8) hx hb dX13_branch_127 (by decide) ?_
    obtain ⟨q13, s14, hq, h⟩ := nd_b2_e h
    have hPc : va_P (dC, dI) vwCl (dw_P a ac ()) H := nd_p0
    have hDc : va_D A (dw_P a ac ()) := nd_d0
    have hKc : va_K (dC, dI) vwCl (dk_P ac) s := nd_y0 hK
    have hFc : ∀ q, va_A (dw_P a ac ()) H.size q → A q := nd_r0 hS hA
    refine nd_cSi (As := [.int 8]) (rest := [.int ((x1 ^^^ 4096) ||| x7), .ref (a 0)]) (q := q13) (w' := dw_P a ac s14) ⟨hx, hb, hml, hown, hts⟩ (fun sz => dm_X13_branchBits l hlt dC dI a ac n (8) () hq sz) (cwS 1 hts gi_dm_X13_branch_2 rfl rfl rfl (by decide +kernel) ⟨Nat.le_of_ble_eq_true rfl, Nat.le_of_ble_eq_true rfl⟩) hPc hDc hKc hS hA hN rfl hl.1 rfl (Nat.le_of_ble_eq_true rfl) dX13_branch_129 (fun H locs hP1 hD1 hk1 hS => ?_)
    have hP := nd_n0 hP hk1
    refine lv_ior hx hb dX13_branch_132 ?_
    obtain ⟨s17, hq, h⟩ := nd_b1_e h
    have hPc := hP
    have hDc := hD
    have hKc := hK
    have hFc := nd_rs hD hS hA
    refine nd_cVv (As := [.int (((x1 ^^^ 4096) ||| x7) ||| q13)]) (rest := []) (w' := dw_X13 a ac s17) ⟨hx, hb, hml, hown, hts⟩ (fun sz => dm_X13_word l hlt dC dI a ac n ((((x1 ^^^ 4096) ||| x7) ||| q13)) s0 hq sz) (cwV 1 hts gi_dm_X13_branch_3 rfl rfl rfl (by decide +kernel) ⟨Nat.le_of_ble_eq_true rfl, Nat.le_of_ble_eq_true rfl⟩) hPc hDc hKc hS hA hN (va_recv hKc hPc (ci := 14) (q0 := 0) rfl rfl) rfl hl.1 rfl (Nat.le_of_ble_eq_true rfl) dX13_branch_133 (fun H locs hP1 hD1 hk1 hS => ?_)
    have hP := hP1
    have hD := hD1.weaken (fun k q _ h => hFc q.1 h)
    refine lv_aload_n hx hb dX13_branch_136 rfl (lv_at hl 0 rfl) ?_
    refine lv_bipush (v := 111) hx hb dX13_branch_137 (by decide) ?_
    refine lv_iload hx hb dX13_branch_139 (lv_at hl 2 rfl) ?_
    refine lv_iconst (v := 4) hx hb dX13_branch_141 (by decide) ?_
    refine lv_isub hx hb dX13_branch_142 ?_
    obtain ⟨q19, s20, hq, h⟩ := nd_b2_e h
    have hPc : va_P (dC, dI) vwCl (dw_P a ac ()) H := nd_p0
    have hDc : va_D A (dw_P a ac ()) := nd_d0
    have hKc : va_K (dC, dI) vwCl (dk_P ac) s := nd_y0 hK
    have hFc : ∀ q, va_A (dw_P a ac ()) H.size q → A q := nd_r0 hS hA
    refine nd_cSi (As := [.int (x5 - 4)]) (rest := [.int 111, .ref (a 0)]) (q := q19) (w' := dw_P a ac s20) ⟨hx, hb, hml, hown, hts⟩ (fun sz => dm_X13_jumpBits l hlt dC dI a ac n ((x5 - 4)) () hq sz) (cwS 1 hts gi_dm_X13_branch_4 rfl rfl rfl (by decide +kernel) ⟨Nat.le_of_ble_eq_true rfl, Nat.le_of_ble_eq_true rfl⟩) hPc hDc hKc hS hA hN rfl hl.1 rfl (Nat.le_of_ble_eq_true rfl) dX13_branch_143 (fun H locs hP1 hD1 hk1 hS => ?_)
    have hP := nd_n0 hP hk1
    refine lv_ior hx hb dX13_branch_146 ?_
    obtain ⟨s23, hq, h⟩ := nd_b1_e h
    have hPc := hP
    have hDc := hD
    have hKc := hK
    have hFc := nd_rs hD hS hA
    refine nd_cVv (As := [.int (111 ||| q19)]) (rest := []) (w' := dw_X13 a ac s23) ⟨hx, hb, hml, hown, hts⟩ (fun sz => dm_X13_word l hlt dC dI a ac n ((111 ||| q19)) s17 hq sz) (cwV 1 hts gi_dm_X13_branch_3 rfl rfl rfl (by decide +kernel) ⟨Nat.le_of_ble_eq_true rfl, Nat.le_of_ble_eq_true rfl⟩) hPc hDc hKc hS hA hN (va_recv hKc hPc (ci := 14) (q0 := 0) rfl rfl) rfl hl.1 rfl (Nat.le_of_ble_eq_true rfl) dX13_branch_147 (fun H locs hP1 hD1 hk1 hS => ?_)
    have hP := hP1
    have hD := hD1.weaken (fun k q _ h => hFc q.1 h)
    exact K _ _ _ _ _ dX13_branch_150 (Option.some.inj h).symm hP hD hS
  · have h := nd_neg h c12
    exact K _ _ _ _ _ dX13_branch_117 (Option.some.inj h).symm hP hD hS
set_option maxHeartbeats 40000000 in
set_option maxRecDepth 100000 in
theorem db_X13_branch_91 {p : Program} {l : Launch} {e : Env} {s : State} {m : MethodId} {args : Array Value} {below : List Frame} {meth : Method} {c : Code} {Q : State → Prop} {A : Nat → Prop} {dC : Nat → ClassId} {dI : Nat → Nat → Nat} {a : Nat → Nat} {ac : Nat → ClassId} {n : Nat} {r : St} (C : nd_C p l s m args c A (dC, dI) cX13_branch 8 RX13 ow_dm_X13_branch (dk_X13 ac)) (K : nd_Kv p l e (headSpec ow_dm_X13_branch ({ frames := 9, cells := 0, slots := 0, locals := 208 })).room s m args below meth c Q A (dC, dI) cX13_branch (St) (dw_X13 a ac) r) : dj_X13_branch_91 p l e s m args below meth c Q A dC dI a ac (df_X13_branch_91 n) r := by
  obtain ⟨hlt, hx, hb, hml, hown, hts, hN, hA, hK⟩ := id C
  intro x1 x5 x6 x7 s0 H locs ls h hP hD hS hl
  unfold df_X13_branch_91 at h
  refine lv_iload hx hb dX13_branch_91 (lv_at hl 3 rfl) ?_
  refine lv_iconst (v := 1) hx hb dX13_branch_93 (by decide) ?_
  refine lv_icmp_ne (tgt := 111) hx hb dX13_branch_94 (by decide) (fun c11 => ?_) (fun c11 => ?_)
  · have h := nd_neg h c11
    exact (db_X13_branch_111 C K) (x1) (x5) (x6) (x7) s0 _ _ _ h hP hD hS (lv_sub hl [0, 1, 2, 3, 4] rfl)
  · have h := nd_pos h c11
    refine lv_aload_n hx hb dX13_branch_97 rfl (lv_at hl 0 rfl) ?_
    refine lv_iload_n hx hb dX13_branch_98 rfl (lv_at hl 1 rfl) ?_
    refine lv_iload hx hb dX13_branch_99 (lv_at hl 4 rfl) ?_
    refine lv_ior hx hb dX13_branch_101 ?_
    refine lv_iload hx hb dX13_branch_102 (lv_at hl 2 rfl) ?_
    obtain ⟨q25, s26, hq, h⟩ := nd_b2_e h
    have hPc : va_P (dC, dI) vwCl (dw_P a ac ()) H := nd_p0
    have hDc : va_D A (dw_P a ac ()) := nd_d0
    have hKc : va_K (dC, dI) vwCl (dk_P ac) s := nd_y0 hK
    have hFc : ∀ q, va_A (dw_P a ac ()) H.size q → A q := nd_r0 hS hA
    refine nd_cSi (As := [.int x5]) (rest := [.int (x1 ||| x7), .ref (a 0)]) (q := q25) (w' := dw_P a ac s26) ⟨hx, hb, hml, hown, hts⟩ (fun sz => dm_X13_branchBits l hlt dC dI a ac n (x5) () hq sz) (cwS 1 hts gi_dm_X13_branch_2 rfl rfl rfl (by decide +kernel) ⟨Nat.le_of_ble_eq_true rfl, Nat.le_of_ble_eq_true rfl⟩) hPc hDc hKc hS hA hN rfl hl.1 rfl (Nat.le_of_ble_eq_true rfl) dX13_branch_104 (fun H locs hP1 hD1 hk1 hS => ?_)
    have hP := nd_n0 hP hk1
    refine lv_ior hx hb dX13_branch_107 ?_
    obtain ⟨s29, hq, h⟩ := nd_b1_e h
    have hPc := hP
    have hDc := hD
    have hKc := hK
    have hFc := nd_rs hD hS hA
    refine nd_cVv (As := [.int ((x1 ||| x7) ||| q25)]) (rest := []) (w' := dw_X13 a ac s29) ⟨hx, hb, hml, hown, hts⟩ (fun sz => dm_X13_word l hlt dC dI a ac n (((x1 ||| x7) ||| q25)) s0 hq sz) (cwV 1 hts gi_dm_X13_branch_3 rfl rfl rfl (by decide +kernel) ⟨Nat.le_of_ble_eq_true rfl, Nat.le_of_ble_eq_true rfl⟩) hPc hDc hKc hS hA hN (va_recv hKc hPc (ci := 14) (q0 := 0) rfl rfl) rfl hl.1 rfl (Nat.le_of_ble_eq_true rfl) dX13_branch_108 (fun H locs hP1 hD1 hk1 hS => ?_)
    have hP := hP1
    have hD := hD1.weaken (fun k q _ h => hFc q.1 h)
    exact (db_X13_branch_111 C K) (x1) (x5) (x6) (x7) s29 _ _ _ h hP hD hS (lv_sub hl [0, 1, 2, 3, 4] rfl)
set_option maxHeartbeats 40000000 in
set_option maxRecDepth 100000 in
theorem db_X13_branch_67 {p : Program} {l : Launch} {e : Env} {s : State} {m : MethodId} {args : Array Value} {below : List Frame} {meth : Method} {c : Code} {Q : State → Prop} {A : Nat → Prop} {dC : Nat → ClassId} {dI : Nat → Nat → Nat} {a : Nat → Nat} {ac : Nat → ClassId} {n : Nat} {r : St} (C : nd_C p l s m args c A (dC, dI) cX13_branch 8 RX13 ow_dm_X13_branch (dk_X13 ac)) (K : nd_Kv p l e (headSpec ow_dm_X13_branch ({ frames := 9, cells := 0, slots := 0, locals := 208 })).room s m args below meth c Q A (dC, dI) cX13_branch (St) (dw_X13 a ac) r) : dj_X13_branch_67 p l e s m args below meth c Q A dC dI a ac (df_X13_branch_67 n) r := by
  obtain ⟨hlt, hx, hb, hml, hown, hts, hN, hA, hK⟩ := id C
  intro x1 x2 x5 x6 x7 y1 y2 s0 H locs ls h hP hD hS hl
  unfold df_X13_branch_67 at h
  refine lv_bipush (v := 13) hx hb dX13_branch_67 (by decide) ?_
  refine lv_ishl hx hb dX13_branch_69 ?_
  refine lv_ior hx hb dX13_branch_70 ?_
  refine lv_iload_n hx hb dX13_branch_71 rfl (lv_at hl 2 rfl) ?_
  refine lv_bipush (v := 8) hx hb dX13_branch_72 (by decide) ?_
  refine lv_isub hx hb dX13_branch_74 ?_
  refine lv_bipush (v := 7) hx hb dX13_branch_75 (by decide) ?_
  refine lv_iand hx hb dX13_branch_77 ?_
  refine lv_bipush (v := 7) hx hb dX13_branch_78 (by decide) ?_
  refine lv_ishl hx hb dX13_branch_80 ?_
  refine lv_ior hx hb dX13_branch_81 ?_
  refine lv_iload hx hb dX13_branch_82 (lv_at hl 3 rfl) ?_
  obtain ⟨q32, s33, hq, h⟩ := nd_b2_e h
  have hPc : va_P (dC, dI) vwCl (dw_P a ac ()) H := nd_p0
  have hDc : va_D A (dw_P a ac ()) := nd_d0
  have hKc : va_K (dC, dI) vwCl (dk_P ac) s := nd_y0 hK
  have hFc : ∀ q, va_A (dw_P a ac ()) H.size q → A q := nd_r0 hS hA
  refine nd_cSi (As := [.int x5]) (rest := [.int ((y1 ||| ((y2 : Int32) <<< ((13 : Int32) &&& 31))) ||| ((((x2 - 8) &&& 7) : Int32) <<< ((7 : Int32) &&& 31))), .ref (a 0)]) (q := q32) (w' := dw_P a ac s33) ⟨hx, hb, hml, hown, hts⟩ (fun sz => dm_X13_shortBranch l hlt dC dI a ac n (x5) () hq sz) (cwS 1 hts gi_dm_X13_branch_5 rfl rfl rfl (by decide +kernel) ⟨Nat.le_of_ble_eq_true rfl, Nat.le_of_ble_eq_true rfl⟩) hPc hDc hKc hS hA hN rfl hl.1 rfl (Nat.le_of_ble_eq_true rfl) dX13_branch_84 (fun H locs hP1 hD1 hk1 hS => ?_)
  have hP := nd_n0 hP hk1
  refine lv_ior hx hb dX13_branch_87 ?_
  obtain ⟨s36, hq, h⟩ := nd_b1_e h
  have hPc := hP
  have hDc := hD
  have hKc := hK
  have hFc := nd_rs hD hS hA
  refine nd_cVv (As := [.int (((y1 ||| ((y2 : Int32) <<< ((13 : Int32) &&& 31))) ||| ((((x2 - 8) &&& 7) : Int32) <<< ((7 : Int32) &&& 31))) ||| q32)]) (rest := []) (w' := dw_X13 a ac s36) ⟨hx, hb, hml, hown, hts⟩ (fun sz => dm_X13_half l hlt dC dI a ac n ((((y1 ||| ((y2 : Int32) <<< ((13 : Int32) &&& 31))) ||| ((((x2 - 8) &&& 7) : Int32) <<< ((7 : Int32) &&& 31))) ||| q32)) s0 hq sz) (cwV 1 hts gi_dm_X13_branch_6 rfl rfl rfl (by decide +kernel) ⟨Nat.le_of_ble_eq_true rfl, Nat.le_of_ble_eq_true rfl⟩) hPc hDc hKc hS hA hN (va_recv hKc hPc (ci := 14) (q0 := 0) rfl rfl) rfl hl.1 rfl (Nat.le_of_ble_eq_true rfl) dX13_branch_88 (fun H locs hP1 hD1 hk1 hS => ?_)
  have hP := hP1
  have hD := hD1.weaken (fun k q _ h => hFc q.1 h)
  exact (db_X13_branch_91 C K) (x1) (x5) (x6) (x7) s36 _ _ _ h hP hD hS (lv_sub hl [0, 1, 3, 4, 5] rfl)
set_option maxHeartbeats 40000000 in
set_option maxRecDepth 100000 in
theorem db_X13_branch_21 {p : Program} {l : Launch} {e : Env} {s : State} {m : MethodId} {args : Array Value} {below : List Frame} {meth : Method} {c : Code} {Q : State → Prop} {A : Nat → Prop} {dC : Nat → ClassId} {dI : Nat → Nat → Nat} {a : Nat → Nat} {ac : Nat → ClassId} {n : Nat} {r : St} (C : nd_C p l s m args c A (dC, dI) cX13_branch 8 RX13 ow_dm_X13_branch (dk_X13 ac)) (K : nd_Kv p l e (headSpec ow_dm_X13_branch ({ frames := 9, cells := 0, slots := 0, locals := 208 })).room s m args below meth c Q A (dC, dI) cX13_branch (St) (dw_X13 a ac) r) : dj_X13_branch_21 p l e s m args below meth c Q A dC dI a ac (df_X13_branch_21 n) r := by
  obtain ⟨hlt, hx, hb, hml, hown, hts, hN, hA, hK⟩ := id C
  intro x1 x2 x3 y1 y2 s0 H locs ls h hP hD hS hl
  unfold df_X13_branch_21 at h
  obtain ⟨q3, s4, hq, h⟩ := nd_b2_e h
  have hPc := hP
  have hDc := hD
  have hKc := hK
  have hFc := nd_rs hD hS hA
  refine nd_cVi (As := [.int y1, .int y2]) (rest := []) (q := q3) (w' := dw_X13 a ac s4) ⟨hx, hb, hml, hown, hts⟩ (fun sz => dm_X13_target l hlt dC dI a ac n (y1) (y2) s0 hq sz) (cwV 2 hts gi_dm_X13_branch_0 rfl rfl rfl (by decide +kernel) ⟨Nat.le_of_ble_eq_true rfl, Nat.le_of_ble_eq_true rfl⟩) hPc hDc hKc hS hA hN (va_recv hKc hPc (ci := 14) (q0 := 0) rfl rfl) rfl hl.1 rfl (Nat.le_of_ble_eq_true rfl) dX13_branch_21 (fun H locs hP1 hD1 hk1 hS => ?_)
  have hP := hP1
  have hD := hD1.weaken (fun k q _ h => hFc q.1 h)
  refine lv_istore (lv' := [(5, .int q3), (0, .ref (a 0)), (1, .int x1), (2, .int x2), (3, .int x3)]) hx hb dX13_branch_24 hl (by decide) rfl (fun ls hl => ?_)
  refine lv_aload_n hx hb dX13_branch_26 rfl (lv_at hl 1 rfl) ?_
  obtain ⟨q6, s7, hq, h⟩ := nd_b2_e h
  have hPc := hP
  have hDc := hD
  have hKc := hK
  have hFc := nd_rs hD hS hA
  refine nd_cVi (As := []) (rest := []) (q := q6) (w' := dw_X13 a ac s7) ⟨hx, hb, hml, hown, hts⟩ (fun sz => dm_X13_level l hlt dC dI a ac n  s4 hq sz) (cwV 0 hts gi_dm_X13_branch_1 rfl rfl rfl (by decide +kernel) ⟨Nat.le_of_ble_eq_true rfl, Nat.le_of_ble_eq_true rfl⟩) hPc hDc hKc hS hA hN (va_recv hKc hPc (ci := 14) (q0 := 0) rfl rfl) rfl hl.1 rfl (Nat.le_of_ble_eq_true rfl) dX13_branch_27 (fun H locs hP1 hD1 hk1 hS => ?_)
  have hP := hP1
  have hD := hD1.weaken (fun k q _ h => hFc q.1 h)
  refine lv_istore (lv' := [(6, .int q6), (5, .int q3), (0, .ref (a 0)), (1, .int x1), (2, .int x2), (3, .int x3)]) hx hb dX13_branch_30 hl (by decide) rfl (fun ls hl => ?_)
  refine lv_iload_n hx hb dX13_branch_32 rfl (lv_at hl 4 rfl) ?_
  refine lv_bipush (v := 15) hx hb dX13_branch_33 (by decide) ?_
  refine lv_ishl hx hb dX13_branch_35 ?_
  refine lv_iload_n hx hb dX13_branch_36 rfl (lv_at hl 5 rfl) ?_
  refine lv_bipush (v := 20) hx hb dX13_branch_37 (by decide) ?_
  refine lv_ishl hx hb dX13_branch_39 ?_
  refine lv_ior hx hb dX13_branch_40 ?_
  refine lv_topi (fun z9 ez9 => ?_)
  have h := nd_at h ez9
  refine lv_istore (lv' := [(7, .int z9), (6, .int q6), (5, .int q3), (0, .ref (a 0)), (1, .int x1), (2, .int x2), (3, .int x3)]) hx hb dX13_branch_41 hl (by decide) rfl (fun ls hl => ?_)
  refine lv_iload hx hb dX13_branch_43 (lv_at hl 1 rfl) ?_
  refine lv_if_ne (tgt := 91) hx hb dX13_branch_45 (by decide) (fun c10 => ?_) (fun c10 => ?_)
  · have h := nd_neg h c10
    exact (db_X13_branch_91 C K) (x1) (q3) (q6) (z9) s7 _ _ _ h hP hD hS (lv_sub hl [3, 4, 2, 1, 0] rfl)
  · have h := nd_pos h c10
    refine lv_aload_n hx hb dX13_branch_48 rfl (lv_at hl 3 rfl) ?_
    refine lv_iconst (v := 1) hx hb dX13_branch_49 (by decide) ?_
    refine lv_iload_n hx hb dX13_branch_50 rfl (lv_at hl 4 rfl) ?_
    refine lv_bipush (v := 12) hx hb dX13_branch_51 (by decide) ?_
    refine lv_ishr hx hb dX13_branch_53 ?_
    refine lv_bipush (v := 7) hx hb dX13_branch_54 (by decide) ?_
    refine lv_iand hx hb dX13_branch_56 ?_
    refine lv_if_ne (tgt := 65) hx hb dX13_branch_57 (by decide) (fun c31 => ?_) (fun c31 => ?_)
    · have h := nd_neg h c31
      refine lv_bipush (v := 7) hx hb dX13_branch_65 (by decide) ?_
      exact (db_X13_branch_67 C K) (x1) (x2) (q3) (q6) (z9) (1) (7) s7 _ _ _ h hP hD hS (lv_sub hl [3, 4, 5, 2, 1, 0] rfl)
    · have h := nd_pos h c31
      refine lv_bipush (v := 6) hx hb dX13_branch_60 (by decide) ?_
      refine lv_goto (tgt := 67) hx hb dX13_branch_62 (by decide) ?_
      exact (db_X13_branch_67 C K) (x1) (x2) (q3) (q6) (z9) (1) (6) s7 _ _ _ h hP hD hS (lv_sub hl [3, 4, 5, 2, 1, 0] rfl)
set_option maxHeartbeats 40000000 in
set_option maxRecDepth 100000 in
theorem db_X13_branch_11 {p : Program} {l : Launch} {e : Env} {s : State} {m : MethodId} {args : Array Value} {below : List Frame} {meth : Method} {c : Code} {Q : State → Prop} {A : Nat → Prop} {dC : Nat → ClassId} {dI : Nat → Nat → Nat} {a : Nat → Nat} {ac : Nat → ClassId} {n : Nat} {r : St} (C : nd_C p l s m args c A (dC, dI) cX13_branch 8 RX13 ow_dm_X13_branch (dk_X13 ac)) (K : nd_Kv p l e (headSpec ow_dm_X13_branch ({ frames := 9, cells := 0, slots := 0, locals := 208 })).room s m args below meth c Q A (dC, dI) cX13_branch (St) (dw_X13 a ac) r) : dj_X13_branch_11 p l e s m args below meth c Q A dC dI a ac (df_X13_branch_11 n) r := by
  obtain ⟨hlt, hx, hb, hml, hown, hts, hN, hA, hK⟩ := id C
  intro x1 x2 x3 x4 y1 s0 H locs ls h hP hD hS hl
  unfold df_X13_branch_11 at h
  refine lv_iload hx hb dX13_branch_11 (lv_at hl 4 rfl) ?_
  refine lv_if_eq (tgt := 20) hx hb dX13_branch_13 (by decide) (fun c2 => ?_) (fun c2 => ?_)
  · have h := nd_pos h c2
    refine lv_iconst (v := 1) hx hb dX13_branch_20 (by decide) ?_
    exact (db_X13_branch_21 C K) (x1) (x2) (x3) (y1) (1) s0 _ _ _ h hP hD hS (lv_sub hl [0, 1, 2, 3] rfl)
  · have h := nd_neg h c2
    refine lv_iconst (v := 0) hx hb dX13_branch_16 (by decide) ?_
    refine lv_goto (tgt := 21) hx hb dX13_branch_17 (by decide) ?_
    exact (db_X13_branch_21 C K) (x1) (x2) (x3) (y1) (0) s0 _ _ _ h hP hD hS (lv_sub hl [0, 1, 2, 3] rfl)
set_option maxHeartbeats 40000000 in
set_option maxRecDepth 100000 in
theorem db_X13_branch_0 {p : Program} {l : Launch} {e : Env} {s : State} {m : MethodId} {args : Array Value} {below : List Frame} {meth : Method} {c : Code} {Q : State → Prop} {A : Nat → Prop} {dC : Nat → ClassId} {dI : Nat → Nat → Nat} {a : Nat → Nat} {ac : Nat → ClassId} {n : Nat} {r : St} (C : nd_C p l s m args c A (dC, dI) cX13_branch 8 RX13 ow_dm_X13_branch (dk_X13 ac)) (K : nd_Kv p l e (headSpec ow_dm_X13_branch ({ frames := 9, cells := 0, slots := 0, locals := 208 })).room s m args below meth c Q A (dC, dI) cX13_branch (St) (dw_X13 a ac) r) : dj_X13_branch_0 p l e s m args below meth c Q A dC dI a ac (df_X13_branch_0 n) r := by
  obtain ⟨hlt, hx, hb, hml, hown, hts, hN, hA, hK⟩ := id C
  intro v0 v1 v2 v3 s0 H locs ls h hP hD hS hl
  unfold df_X13_branch_0 at h
  refine lv_aload_n hx hb dX13_branch_0 rfl (lv_at hl 0 rfl) ?_
  refine lv_iload hx hb dX13_branch_1 (lv_at hl 4 rfl) ?_
  refine lv_if_eq (tgt := 10) hx hb dX13_branch_3 (by decide) (fun c1 => ?_) (fun c1 => ?_)
  · have h := nd_pos h c1
    refine lv_iconst (v := 3) hx hb dX13_branch_10 (by decide) ?_
    exact (db_X13_branch_11 C K) (v0) (v1) (v2) (v3) (3) s0 _ _ _ h hP hD hS (lv_sub hl [0, 1, 2, 3, 4] rfl)
  · have h := nd_neg h c1
    refine lv_iconst (v := 2) hx hb dX13_branch_6 (by decide) ?_
    refine lv_goto (tgt := 11) hx hb dX13_branch_7 (by decide) ?_
    exact (db_X13_branch_11 C K) (v0) (v1) (v2) (v3) (2) s0 _ _ _ h hP hD hS (lv_sub hl [0, 1, 2, 3, 4] rfl)
set_option maxHeartbeats 40000000 in
set_option maxRecDepth 100000 in
theorem dm_X13_branch (l : Launch) (hlt : l.stackTraces = false) (dC : Nat → ClassId) (dI : Nat → Nat → Nat) (a : Nat → Nat) (ac : Nat → ClassId) (n : Nat) (v0 : Int32) (v1 : Int32) (v2 : Int32) (v3 : Int32) (s0 : St) {r : St} (h : df_X13_branch n v0 v1 v2 v3 s0 = some r) (sz : Nat) : Met l yX13_branch ow_dm_X13_branch ({ frames := 9, cells := 0, slots := 0, locals := 208 }) (va_Pc [.ref (a 0), .int v0, .int v1, .int v2, .int v3] (fun U => U.heap.size = sz ∧ va_P (dC, dI) vwCl (dw_X13 a ac s0) U.heap ∧ va_K (dC, dI) vwCl (dk_X13 ac) U ∧ va_D (fun _ => True) (dw_X13 a ac s0) ∧ nv_E dI (va_A (dw_X13 a ac s0) sz) U)) (va_Qv (fun _ => True) (fun (_ : Unit) t => va_P (dC, dI) vwCl (dw_X13 a ac r) t.heap ∧ va_K (dC, dI) vwCl (dk_X13 ac) t ∧ va_D (va_A (dw_X13 a ac s0) sz) (dw_X13 a ac r)) (va_A (dw_X13 a ac s0) sz)) 0 0 (va_A (dw_X13 a ac s0) sz) := by
  refine Met.ofW (cc := cX13_branch) (maxL := 8) (ret := none) (by decide) rfl ?_
  intro p e s m args below meth c s₁ B hml hv
  obtain ⟨rfl, hsz, hP, hK, hD0, hN⟩ := hv
  have hx := B.exec
  have hb := B.bytes
  have hr := B.returns
  have hts := atoms_spec (ws := ow_dm_X13_branch) B.pre
  have hown : s.vm.findClass RX13 = some m.cls := findClass_of_methodNamed B.named
  have hlocks := B.notSynchronized
  subst hsz
  have hD := hD0.self (sz := s.heap.size)
  generalize hAe : va_A (dw_X13 a ac s0) s.heap.size = A at hD hN ⊢
  have hA : ∀ q : Nat, s.heap.size ≤ q → A q := fun q h => by rw [← hAe]; exact Or.inr h
  have hl := lv_entry ([.ref (a 0), .int v0, .int v1, .int v2, .int v3]) (n := 8) (Nat.le_of_ble_eq_true rfl)
  rw [lg_entry_eq]
  generalize (lg_sl ([.ref (a 0), .int v0, .int v1, .int v2, .int v3]) ++ List.replicate (8 - (lg_sl ([.ref (a 0), .int v0, .int v1, .int v2, .int v3])).length) Slot.unset).toArray = ls at hl ⊢
  have hl : lv_has ls 8 [(0, .ref (a 0)), (1, .int v0), (2, .int v1), (3, .int v2), (4, .int v3)] := hl
  exact db_X13_branch_0 (dC := dC) (dI := dI) (a := a) (ac := ac) (n := n) (r := r) ⟨hlt, hx, hb, hml, hown, hts, hN, hA, hK⟩ (fun pc τ H locs ls d er hP hD hS => by subst er; exact W.vret hx hb hr (fun t ht hW => ⟨⟨(), rfl, trivial, by rw [ht]; exact hP, va_K.moved hW.alike hK, hD⟩, hS.F ht⟩) hS.2.2 d) v0 v1 v2 v3 s0 _ _ _ h hP hD va_S.rf (lv_sub hl [0, 1, 2, 3, 4] rfl)
def ow_dm_X13_comma : List Cond := Cond.code yX13_comma cX13_comma 1 (some .boolean) :: ([Cond.fieldLink RX13 410 "TimeMachineModel$Assembler" "fault" "I", Cond.methodLink RX13 506 yX13_needs, Cond.instanceMethod yX13_needs, Cond.selects RX13 yX13_needs yX13_needs, Cond.initialized RX13] ++ (u_ws RX13 TX13 37 ++ (ow_dm_X13_needs ++ [])))
theorem gd_dm_X13_comma : ∀ w ∈ ow_dm_X13_comma, (w.onTables && w.keeps) = true ∨ ∃ ty, w = Cond.arrayClass ty := List.forall_mem_cons.mpr ⟨good_of_word rfl, List.forall_mem_append.mpr ⟨fun w h => good_of_word (List.all_eq_true.mp (by decide +kernel) w h), List.forall_mem_append.mpr ⟨gu_X13, List.forall_mem_append.mpr ⟨gd_dm_X13_needs, fun _ h => nomatch h⟩⟩⟩⟩
theorem hi_dm_X13_comma_X13 : ∀ w ∈ u_ws RX13 TX13 37, w ∈ ow_dm_X13_comma := fun w h => List.mem_cons_of_mem _ (List.mem_append_right _ (List.mem_append_left _ h))
theorem gi_dm_X13_comma_0 : GoodIn ow_dm_X13_comma (wsV RX13 506 RX13 yX13_needs ow_dm_X13_needs) := goodIn_app (goodIn_of _ (by decide +kernel)) (fun w h => ⟨List.mem_cons_of_mem _ (List.mem_append_right _ (List.mem_append_right _ (List.mem_append_left _ h))), gd_dm_X13_needs w h⟩)
def dj_X13_comma_21 (p : Program) (l : Launch) (e : Env) (s : State) (m : MethodId) (args : Array Value) (below : List Frame) (meth : Method) (c : Code) (Q : State → Prop) (A : Nat → Prop) (dC : Nat → ClassId) (dI : Nat → Nat → Nat) (a : Nat → Nat) (ac : Nat → ClassId) (g : Int32 → (St) → Option (Int32 × (St))) (r : Int32 × (St)) : Prop := ∀ (y0 : Int32) (s0 : St) (H : Heap) (locs : List Loc) (ls : Array Slot), g y0 s0 = some r → va_P (dC, dI) vwCl (dw_X13 a ac s0) H → va_D A (dw_X13 a ac s0) → va_S A s.heap H locs → lv_has ls 1 [] → W p l e (headSpec ow_dm_X13_comma ({ frames := 6, cells := 0, slots := 0, locals := 135 })).room s m args below meth c H locs 0 0 Q (F0 m 21 ls [.int y0])
def dj_X13_comma_20 (p : Program) (l : Launch) (e : Env) (s : State) (m : MethodId) (args : Array Value) (below : List Frame) (meth : Method) (c : Code) (Q : State → Prop) (A : Nat → Prop) (dC : Nat → ClassId) (dI : Nat → Nat → Nat) (a : Nat → Nat) (ac : Nat → ClassId) (g : (St) → Option (Int32 × (St))) (r : Int32 × (St)) : Prop := ∀ (s0 : St) (H : Heap) (locs : List Loc) (ls : Array Slot), g s0 = some r → va_P (dC, dI) vwCl (dw_X13 a ac s0) H → va_D A (dw_X13 a ac s0) → va_S A s.heap H locs → lv_has ls 1 [] → W p l e (headSpec ow_dm_X13_comma ({ frames := 6, cells := 0, slots := 0, locals := 135 })).room s m args below meth c H locs 0 0 Q (F0 m 20 ls [])
def dj_X13_comma_0 (p : Program) (l : Launch) (e : Env) (s : State) (m : MethodId) (args : Array Value) (below : List Frame) (meth : Method) (c : Code) (Q : State → Prop) (A : Nat → Prop) (dC : Nat → ClassId) (dI : Nat → Nat → Nat) (a : Nat → Nat) (ac : Nat → ClassId) (g : (St) → Option (Int32 × (St))) (r : Int32 × (St)) : Prop := ∀ (s0 : St) (H : Heap) (locs : List Loc) (ls : Array Slot), g s0 = some r → va_P (dC, dI) vwCl (dw_X13 a ac s0) H → va_D A (dw_X13 a ac s0) → va_S A s.heap H locs → lv_has ls 1 [(0, .ref (a 0))] → W p l e (headSpec ow_dm_X13_comma ({ frames := 6, cells := 0, slots := 0, locals := 135 })).room s m args below meth c H locs 0 0 Q (F0 m 0 ls [])
set_option maxHeartbeats 40000000 in
set_option maxRecDepth 100000 in
theorem db_X13_comma_21 {p : Program} {l : Launch} {e : Env} {s : State} {m : MethodId} {args : Array Value} {below : List Frame} {meth : Method} {c : Code} {Q : State → Prop} {A : Nat → Prop} {dC : Nat → ClassId} {dI : Nat → Nat → Nat} {a : Nat → Nat} {ac : Nat → ClassId} {n : Nat} {r : Int32 × (St)} (C : nd_C p l s m args c A (dC, dI) cX13_comma 1 RX13 ow_dm_X13_comma (dk_X13 ac)) (K : nd_Ki p l e (headSpec ow_dm_X13_comma ({ frames := 6, cells := 0, slots := 0, locals := 135 })).room s m args below meth c Q A (dC, dI) cX13_comma .boolean (St) (dw_X13 a ac) r) : dj_X13_comma_21 p l e s m args below meth c Q A dC dI a ac (df_X13_comma_21 n) r := by
  obtain ⟨hlt, hx, hb, hml, hown, hts, hN, hA, hK⟩ := id C
  intro y0 s0 H locs ls h hP hD hS hl
  unfold df_X13_comma_21 at h
  obtain ⟨n2, h⟩ := nd_z_e ⟨_, rfl⟩ h
  exact K _ _ _ _ _ _ dX13_comma_21 n2 (Option.some.inj h).symm hP hD hS
set_option maxHeartbeats 40000000 in
set_option maxRecDepth 100000 in
theorem db_X13_comma_20 {p : Program} {l : Launch} {e : Env} {s : State} {m : MethodId} {args : Array Value} {below : List Frame} {meth : Method} {c : Code} {Q : State → Prop} {A : Nat → Prop} {dC : Nat → ClassId} {dI : Nat → Nat → Nat} {a : Nat → Nat} {ac : Nat → ClassId} {n : Nat} {r : Int32 × (St)} (C : nd_C p l s m args c A (dC, dI) cX13_comma 1 RX13 ow_dm_X13_comma (dk_X13 ac)) (K : nd_Ki p l e (headSpec ow_dm_X13_comma ({ frames := 6, cells := 0, slots := 0, locals := 135 })).room s m args below meth c Q A (dC, dI) cX13_comma .boolean (St) (dw_X13 a ac) r) : dj_X13_comma_20 p l e s m args below meth c Q A dC dI a ac (df_X13_comma_20 n) r := by
  obtain ⟨hlt, hx, hb, hml, hown, hts, hN, hA, hK⟩ := id C
  intro s0 H locs ls h hP hD hS hl
  unfold df_X13_comma_20 at h
  refine lv_iconst (v := 0) hx hb dX13_comma_20 (by decide) ?_
  exact (db_X13_comma_21 C K) (0) s0 _ _ _ h hP hD hS (lv_sub hl [] rfl)
set_option maxHeartbeats 40000000 in
set_option maxRecDepth 100000 in
theorem db_X13_comma_0 {p : Program} {l : Launch} {e : Env} {s : State} {m : MethodId} {args : Array Value} {below : List Frame} {meth : Method} {c : Code} {Q : State → Prop} {A : Nat → Prop} {dC : Nat → ClassId} {dI : Nat → Nat → Nat} {a : Nat → Nat} {ac : Nat → ClassId} {n : Nat} {r : Int32 × (St)} (C : nd_C p l s m args c A (dC, dI) cX13_comma 1 RX13 ow_dm_X13_comma (dk_X13 ac)) (K : nd_Ki p l e (headSpec ow_dm_X13_comma ({ frames := 6, cells := 0, slots := 0, locals := 135 })).room s m args below meth c Q A (dC, dI) cX13_comma .boolean (St) (dw_X13 a ac) r) : dj_X13_comma_0 p l e s m args below meth c Q A dC dI a ac (df_X13_comma_0 n) r := by
  obtain ⟨hlt, hx, hb, hml, hown, hts, hN, hA, hK⟩ := id C
  intro s0 H locs ls h hP hD hS hl
  unfold df_X13_comma_0 at h
  refine lv_aload_n hx hb dX13_comma_0 rfl (lv_at hl 0 rfl) ?_
  refine va_get (D := (dC, dI)) (ci := 14) (v := .int (sI s0 12)) (C := RX13) (T := TX13) (N := 37) hx hb hts hi_dm_X13_comma_X13 hown hK hP 0 rfl rfl 21 (by decide) (hts (.fieldLink RX13 410 "TimeMachineModel$Assembler" "fault" "I") (List.mem_of_getElem? (i := 1) rfl)) (fun _ h9 => h9) rfl dX13_comma_1 ?_
  refine lv_if_ne (tgt := 20) hx hb dX13_comma_4 (by decide) (fun c1 => ?_) (fun c1 => ?_)
  · have h := nd_neg h c1
    exact (db_X13_comma_20 C K)  s0 _ _ _ h hP hD hS (lv_sub hl [] rfl)
  · have h := nd_pos h c1
    refine lv_aload_n hx hb dX13_comma_7 rfl (lv_at hl 0 rfl) ?_
    refine lv_bipush (v := 44) hx hb dX13_comma_8 (by decide) ?_
    obtain ⟨q3, s4, hq, h⟩ := nd_b2_e h
    have hPc := hP
    have hDc := hD
    have hKc := hK
    have hFc := nd_rs hD hS hA
    refine nd_cVi (As := [.int 44]) (rest := []) (q := q3) (w' := dw_X13 a ac s4) ⟨hx, hb, hml, hown, hts⟩ (fun sz => dm_X13_needs l hlt dC dI a ac n (44) s0 hq sz) (cwV 1 hts gi_dm_X13_comma_0 rfl rfl rfl (by decide +kernel) ⟨Nat.le_of_ble_eq_true rfl, Nat.le_of_ble_eq_true rfl⟩) hPc hDc hKc hS hA hN (va_recv hKc hPc (ci := 14) (q0 := 0) rfl rfl) rfl hl.1 rfl (Nat.le_of_ble_eq_true rfl) dX13_comma_10 (fun H locs hP1 hD1 hk1 hS => ?_)
    have hP := hP1
    have hD := hD1.weaken (fun k q _ h => hFc q.1 h)
    refine lv_if_eq (tgt := 20) hx hb dX13_comma_13 (by decide) (fun c6 => ?_) (fun c6 => ?_)
    · have h := nd_pos h c6
      exact (db_X13_comma_20 C K)  s4 _ _ _ h hP hD hS (lv_sub hl [] rfl)
    · have h := nd_neg h c6
      refine lv_iconst (v := 1) hx hb dX13_comma_16 (by decide) ?_
      refine lv_goto (tgt := 21) hx hb dX13_comma_17 (by decide) ?_
      exact (db_X13_comma_21 C K) (1) s4 _ _ _ h hP hD hS (lv_sub hl [] rfl)
set_option maxHeartbeats 40000000 in
set_option maxRecDepth 100000 in
theorem dm_X13_comma (l : Launch) (hlt : l.stackTraces = false) (dC : Nat → ClassId) (dI : Nat → Nat → Nat) (a : Nat → Nat) (ac : Nat → ClassId) (n : Nat) (s0 : St) {r : Int32 × (St)} (h : df_X13_comma n s0 = some r) (sz : Nat) : Met l yX13_comma ow_dm_X13_comma ({ frames := 6, cells := 0, slots := 0, locals := 135 }) (va_Pc [.ref (a 0)] (fun U => U.heap.size = sz ∧ va_P (dC, dI) vwCl (dw_X13 a ac s0) U.heap ∧ va_K (dC, dI) vwCl (dk_X13 ac) U ∧ va_D (fun _ => True) (dw_X13 a ac s0) ∧ nv_E dI (va_A (dw_X13 a ac s0) sz) U)) (va_Qi (fun x _ => x = r.1) (fun (_ : Unit) t => va_P (dC, dI) vwCl (dw_X13 a ac r.2) t.heap ∧ va_K (dC, dI) vwCl (dk_X13 ac) t ∧ va_D (va_A (dw_X13 a ac s0) sz) (dw_X13 a ac r.2)) (va_A (dw_X13 a ac s0) sz)) 0 0 (va_A (dw_X13 a ac s0) sz) := by
  refine Met.ofW (cc := cX13_comma) (maxL := 1) (ret := (some .boolean)) (by decide) rfl ?_
  intro p e s m args below meth c s₁ B hml hv
  obtain ⟨rfl, hsz, hP, hK, hD0, hN⟩ := hv
  have hx := B.exec
  have hb := B.bytes
  have hr := B.returns
  have hts := atoms_spec (ws := ow_dm_X13_comma) B.pre
  have hown : s.vm.findClass RX13 = some m.cls := findClass_of_methodNamed B.named
  have hlocks := B.notSynchronized
  subst hsz
  have hD := hD0.self (sz := s.heap.size)
  generalize hAe : va_A (dw_X13 a ac s0) s.heap.size = A at hD hN ⊢
  have hA : ∀ q : Nat, s.heap.size ≤ q → A q := fun q h => by rw [← hAe]; exact Or.inr h
  have hl := lv_entry ([.ref (a 0)]) (n := 1) (Nat.le_of_ble_eq_true rfl)
  rw [lg_entry_eq]
  generalize (lg_sl ([.ref (a 0)]) ++ List.replicate (1 - (lg_sl ([.ref (a 0)])).length) Slot.unset).toArray = ls at hl ⊢
  have hl : lv_has ls 1 [(0, .ref (a 0))] := hl
  exact db_X13_comma_0 (dC := dC) (dI := dI) (a := a) (ac := ac) (n := n) (r := r) ⟨hlt, hx, hb, hml, hown, hts, hN, hA, hK⟩ (fun pc v τ H locs ls d z er hP hD hS => by subst er; exact W.zret (v := v) hx hb hr z (fun t ht hW => ⟨⟨v, (), rfl, rfl, by rw [ht]; exact hP, va_K.moved hW.alike hK, hD⟩, hS.F ht⟩) hS.2.2 d) s0 _ _ _ h hP hD va_S.rf (lv_sub hl [0] rfl)
def ow_dm_X13_longs : List Cond := Cond.code yX13_longs cX13_longs 6 none :: ([Cond.methodLink RX13 532 yX13_taken, Cond.instanceMethod yX13_taken, Cond.selects RX13 yX13_taken yX13_taken, Cond.initialized RX13, Cond.methodLink RX13 582 yX13_comma, Cond.instanceMethod yX13_comma, Cond.selects RX13 yX13_comma yX13_comma, Cond.methodLink RX13 585 yX13_within, Cond.instanceMethod yX13_within, Cond.selects RX13 yX13_within yX13_within, Cond.fieldLink RX13 410 "TimeMachineModel$Assembler" "fault" "I", Cond.methodLink RX13 570 yX13_word, Cond.instanceMethod yX13_word, Cond.selects RX13 yX13_word yX13_word, Cond.methodLink RX13 550 yX13_bits, Cond.static yX13_bits, Cond.methodLink RX13 588 yX13_bracketed, Cond.instanceMethod yX13_bracketed, Cond.selects RX13 yX13_bracketed yX13_bracketed, Cond.constant RX13 591 (1048575), Cond.methodLink RX13 579 yX13_isEnd, Cond.instanceMethod yX13_isEnd, Cond.selects RX13 yX13_isEnd yX13_isEnd] ++ (u_ws RX13 TX13 37 ++ (ow_dm_X13_taken ++ (ow_dm_X13_comma ++ (ow_dm_X13_within ++ (ow_dm_X13_word ++ (ow_dm_X13_bits ++ (ow_dm_X13_bracketed ++ (ow_dm_X13_isEnd ++ [])))))))))
theorem gd_dm_X13_longs : ∀ w ∈ ow_dm_X13_longs, (w.onTables && w.keeps) = true ∨ ∃ ty, w = Cond.arrayClass ty := List.forall_mem_cons.mpr ⟨good_of_word rfl, List.forall_mem_append.mpr ⟨fun w h => good_of_word (List.all_eq_true.mp (by decide +kernel) w h), List.forall_mem_append.mpr ⟨gu_X13, List.forall_mem_append.mpr ⟨gd_dm_X13_taken, List.forall_mem_append.mpr ⟨gd_dm_X13_comma, List.forall_mem_append.mpr ⟨gd_dm_X13_within, List.forall_mem_append.mpr ⟨gd_dm_X13_word, List.forall_mem_append.mpr ⟨gd_dm_X13_bits, List.forall_mem_append.mpr ⟨gd_dm_X13_bracketed, List.forall_mem_append.mpr ⟨gd_dm_X13_isEnd, fun _ h => nomatch h⟩⟩⟩⟩⟩⟩⟩⟩⟩⟩
theorem hi_dm_X13_longs_X13 : ∀ w ∈ u_ws RX13 TX13 37, w ∈ ow_dm_X13_longs := fun w h => List.mem_cons_of_mem _ (List.mem_append_right _ (List.mem_append_left _ h))
theorem gi_dm_X13_longs_0 : GoodIn ow_dm_X13_longs (wsV RX13 532 RX13 yX13_taken ow_dm_X13_taken) := goodIn_app (goodIn_of _ (by decide +kernel)) (fun w h => ⟨List.mem_cons_of_mem _ (List.mem_append_right _ (List.mem_append_right _ (List.mem_append_left _ h))), gd_dm_X13_taken w h⟩)
theorem gi_dm_X13_longs_1 : GoodIn ow_dm_X13_longs (wsV RX13 582 RX13 yX13_comma ow_dm_X13_comma) := goodIn_app (goodIn_of _ (by decide +kernel)) (fun w h => ⟨List.mem_cons_of_mem _ (List.mem_append_right _ (List.mem_append_right _ (List.mem_append_right _ (List.mem_append_left _ h)))), gd_dm_X13_comma w h⟩)
theorem gi_dm_X13_longs_2 : GoodIn ow_dm_X13_longs (wsV RX13 585 RX13 yX13_within ow_dm_X13_within) := goodIn_app (goodIn_of _ (by decide +kernel)) (fun w h => ⟨List.mem_cons_of_mem _ (List.mem_append_right _ (List.mem_append_right _ (List.mem_append_right _ (List.mem_append_right _ (List.mem_append_left _ h))))), gd_dm_X13_within w h⟩)
theorem gi_dm_X13_longs_3 : GoodIn ow_dm_X13_longs (wsV RX13 570 RX13 yX13_word ow_dm_X13_word) := goodIn_app (goodIn_of _ (by decide +kernel)) (fun w h => ⟨List.mem_cons_of_mem _ (List.mem_append_right _ (List.mem_append_right _ (List.mem_append_right _ (List.mem_append_right _ (List.mem_append_right _ (List.mem_append_left _ h)))))), gd_dm_X13_word w h⟩)
theorem gi_dm_X13_longs_4 : GoodIn ow_dm_X13_longs (wsS RX13 550 yX13_bits ow_dm_X13_bits) := goodIn_app (goodIn_of _ (by decide +kernel)) (fun w h => ⟨List.mem_cons_of_mem _ (List.mem_append_right _ (List.mem_append_right _ (List.mem_append_right _ (List.mem_append_right _ (List.mem_append_right _ (List.mem_append_right _ (List.mem_append_left _ h))))))), gd_dm_X13_bits w h⟩)
theorem gi_dm_X13_longs_5 : GoodIn ow_dm_X13_longs (wsV RX13 588 RX13 yX13_bracketed ow_dm_X13_bracketed) := goodIn_app (goodIn_of _ (by decide +kernel)) (fun w h => ⟨List.mem_cons_of_mem _ (List.mem_append_right _ (List.mem_append_right _ (List.mem_append_right _ (List.mem_append_right _ (List.mem_append_right _ (List.mem_append_right _ (List.mem_append_right _ (List.mem_append_left _ h)))))))), gd_dm_X13_bracketed w h⟩)
theorem gi_dm_X13_longs_6 : GoodIn ow_dm_X13_longs (wsV RX13 579 RX13 yX13_isEnd ow_dm_X13_isEnd) := goodIn_app (goodIn_of _ (by decide +kernel)) (fun w h => ⟨List.mem_cons_of_mem _ (List.mem_append_right _ (List.mem_append_right _ (List.mem_append_right _ (List.mem_append_right _ (List.mem_append_right _ (List.mem_append_right _ (List.mem_append_right _ (List.mem_append_right _ (List.mem_append_left _ h))))))))), gd_dm_X13_isEnd w h⟩)
def dj_X13_longs_384 (p : Program) (l : Launch) (e : Env) (s : State) (m : MethodId) (args : Array Value) (below : List Frame) (meth : Method) (c : Code) (Q : State → Prop) (A : Nat → Prop) (dC : Nat → ClassId) (dI : Nat → Nat → Nat) (a : Nat → Nat) (ac : Nat → ClassId) (g : (St) → Option (St)) (r : St) : Prop := ∀ (s0 : St) (H : Heap) (locs : List Loc) (ls : Array Slot), g s0 = some r → va_P (dC, dI) vwCl (dw_X13 a ac s0) H → va_D A (dw_X13 a ac s0) → va_S A s.heap H locs → lv_has ls 6 [] → W p l e (headSpec ow_dm_X13_longs ({ frames := 9, cells := 0, slots := 0, locals := 206 })).room s m args below meth c H locs 0 0 Q (F0 m 384 ls [])
def dj_X13_longs_171 (p : Program) (l : Launch) (e : Env) (s : State) (m : MethodId) (args : Array Value) (below : List Frame) (meth : Method) (c : Code) (Q : State → Prop) (A : Nat → Prop) (dC : Nat → ClassId) (dI : Nat → Nat → Nat) (a : Nat → Nat) (ac : Nat → ClassId) (g : Int32 → (St) → Option (St)) (r : St) : Prop := ∀ (y1 : Int32) (s0 : St) (H : Heap) (locs : List Loc) (ls : Array Slot), g y1 s0 = some r → va_P (dC, dI) vwCl (dw_X13 a ac s0) H → va_D A (dw_X13 a ac s0) → va_S A s.heap H locs → lv_has ls 6 [] → W p l e (headSpec ow_dm_X13_longs ({ frames := 9, cells := 0, slots := 0, locals := 206 })).room s m args below meth c H locs 0 0 Q (F0 m 171 ls [.int y1, .ref (a 0)])
def dj_X13_longs_109 (p : Program) (l : Launch) (e : Env) (s : State) (m : MethodId) (args : Array Value) (below : List Frame) (meth : Method) (c : Code) (Q : State → Prop) (A : Nat → Prop) (dC : Nat → ClassId) (dI : Nat → Nat → Nat) (a : Nat → Nat) (ac : Nat → ClassId) (g : Int32 → Int32 → Int32 → Int32 → Int32 → (St) → Option (St)) (r : St) : Prop := ∀ (x1 : Int32) (x2 : Int32) (x3 : Int32) (x4 : Int32) (y0 : Int32) (s0 : St) (H : Heap) (locs : List Loc) (ls : Array Slot), g x1 x2 x3 x4 y0 s0 = some r → va_P (dC, dI) vwCl (dw_X13 a ac s0) H → va_D A (dw_X13 a ac s0) → va_S A s.heap H locs → lv_has ls 6 [(0, .ref (a 0)), (1, .int x1), (2, .int x2), (3, .int x3), (4, .int x4)] → W p l e (headSpec ow_dm_X13_longs ({ frames := 9, cells := 0, slots := 0, locals := 206 })).room s m args below meth c H locs 0 0 Q (F0 m 109 ls [.int y0])
def dj_X13_longs_81 (p : Program) (l : Launch) (e : Env) (s : State) (m : MethodId) (args : Array Value) (below : List Frame) (meth : Method) (c : Code) (Q : State → Prop) (A : Nat → Prop) (dC : Nat → ClassId) (dI : Nat → Nat → Nat) (a : Nat → Nat) (ac : Nat → ClassId) (g : Int32 → Int32 → Int32 → (St) → Option (St)) (r : St) : Prop := ∀ (x1 : Int32) (x2 : Int32) (x3 : Int32) (s0 : St) (H : Heap) (locs : List Loc) (ls : Array Slot), g x1 x2 x3 s0 = some r → va_P (dC, dI) vwCl (dw_X13 a ac s0) H → va_D A (dw_X13 a ac s0) → va_S A s.heap H locs → lv_has ls 6 [(0, .ref (a 0)), (1, .int x1), (2, .int x2), (3, .int x3)] → W p l e (headSpec ow_dm_X13_longs ({ frames := 9, cells := 0, slots := 0, locals := 206 })).room s m args below meth c H locs 0 0 Q (F0 m 81 ls [])
def dj_X13_longs_40 (p : Program) (l : Launch) (e : Env) (s : State) (m : MethodId) (args : Array Value) (below : List Frame) (meth : Method) (c : Code) (Q : State → Prop) (A : Nat → Prop) (dC : Nat → ClassId) (dI : Nat → Nat → Nat) (a : Nat → Nat) (ac : Nat → ClassId) (g : Int32 → Int32 → Int32 → (St) → Option (St)) (r : St) : Prop := ∀ (x1 : Int32) (x2 : Int32) (x3 : Int32) (s0 : St) (H : Heap) (locs : List Loc) (ls : Array Slot), g x1 x2 x3 s0 = some r → va_P (dC, dI) vwCl (dw_X13 a ac s0) H → va_D A (dw_X13 a ac s0) → va_S A s.heap H locs → lv_has ls 6 [(0, .ref (a 0)), (1, .int x1), (2, .int x2), (3, .int x3)] → W p l e (headSpec ow_dm_X13_longs ({ frames := 9, cells := 0, slots := 0, locals := 206 })).room s m args below meth c H locs 0 0 Q (F0 m 40 ls [])
def dj_X13_longs_0 (p : Program) (l : Launch) (e : Env) (s : State) (m : MethodId) (args : Array Value) (below : List Frame) (meth : Method) (c : Code) (Q : State → Prop) (A : Nat → Prop) (dC : Nat → ClassId) (dI : Nat → Nat → Nat) (a : Nat → Nat) (ac : Nat → ClassId) (g : Int32 → Int32 → (St) → Option (St)) (r : St) : Prop := ∀ (v0 : Int32) (v1 : Int32) (s0 : St) (H : Heap) (locs : List Loc) (ls : Array Slot), g v0 v1 s0 = some r → va_P (dC, dI) vwCl (dw_X13 a ac s0) H → va_D A (dw_X13 a ac s0) → va_S A s.heap H locs → lv_has ls 6 [(0, .ref (a 0)), (1, .int v0), (2, .int v1)] → W p l e (headSpec ow_dm_X13_longs ({ frames := 9, cells := 0, slots := 0, locals := 206 })).room s m args below meth c H locs 0 0 Q (F0 m 0 ls [])
set_option maxHeartbeats 40000000 in
set_option maxRecDepth 100000 in
theorem db_X13_longs_384 {p : Program} {l : Launch} {e : Env} {s : State} {m : MethodId} {args : Array Value} {below : List Frame} {meth : Method} {c : Code} {Q : State → Prop} {A : Nat → Prop} {dC : Nat → ClassId} {dI : Nat → Nat → Nat} {a : Nat → Nat} {ac : Nat → ClassId} {n : Nat} {r : St} (C : nd_C p l s m args c A (dC, dI) cX13_longs 6 RX13 ow_dm_X13_longs (dk_X13 ac)) (K : nd_Kv p l e (headSpec ow_dm_X13_longs ({ frames := 9, cells := 0, slots := 0, locals := 206 })).room s m args below meth c Q A (dC, dI) cX13_longs (St) (dw_X13 a ac) r) : dj_X13_longs_384 p l e s m args below meth c Q A dC dI a ac (df_X13_longs_384 n) r := by
  obtain ⟨hlt, hx, hb, hml, hown, hts, hN, hA, hK⟩ := id C
  intro s0 H locs ls h hP hD hS hl
  unfold df_X13_longs_384 at h
  exact K _ _ _ _ _ dX13_longs_384 (Option.some.inj h).symm hP hD hS
set_option maxHeartbeats 40000000 in
set_option maxRecDepth 100000 in
theorem db_X13_longs_171 {p : Program} {l : Launch} {e : Env} {s : State} {m : MethodId} {args : Array Value} {below : List Frame} {meth : Method} {c : Code} {Q : State → Prop} {A : Nat → Prop} {dC : Nat → ClassId} {dI : Nat → Nat → Nat} {a : Nat → Nat} {ac : Nat → ClassId} {n : Nat} {r : St} (C : nd_C p l s m args c A (dC, dI) cX13_longs 6 RX13 ow_dm_X13_longs (dk_X13 ac)) (K : nd_Kv p l e (headSpec ow_dm_X13_longs ({ frames := 9, cells := 0, slots := 0, locals := 206 })).room s m args below meth c Q A (dC, dI) cX13_longs (St) (dw_X13 a ac) r) : dj_X13_longs_171 p l e s m args below meth c Q A dC dI a ac (df_X13_longs_171 n) r := by
  obtain ⟨hlt, hx, hb, hml, hown, hts, hN, hA, hK⟩ := id C
  intro y1 s0 H locs ls h hP hD hS hl
  unfold df_X13_longs_171 at h
  obtain ⟨s17, hq, h⟩ := nd_b1_e h
  have hPc := hP
  have hDc := hD
  have hKc := hK
  have hFc := nd_rs hD hS hA
  refine nd_cVv (As := [.int y1]) (rest := []) (w' := dw_X13 a ac s17) ⟨hx, hb, hml, hown, hts⟩ (fun sz => dm_X13_word l hlt dC dI a ac n (y1) s0 hq sz) (cwV 1 hts gi_dm_X13_longs_3 rfl rfl rfl (by decide +kernel) ⟨Nat.le_of_ble_eq_true rfl, Nat.le_of_ble_eq_true rfl⟩) hPc hDc hKc hS hA hN (va_recv hKc hPc (ci := 14) (q0 := 0) rfl rfl) rfl hl.1 rfl (Nat.le_of_ble_eq_true rfl) dX13_longs_171 (fun H locs hP1 hD1 hk1 hS => ?_)
  have hP := hP1
  have hD := hD1.weaken (fun k q _ h => hFc q.1 h)
  refine lv_goto (tgt := 384) hx hb dX13_longs_174 (by decide) ?_
  exact (db_X13_longs_384 C K)  s17 _ _ _ h hP hD hS (lv_sub hl [] rfl)
set_option maxHeartbeats 40000000 in
set_option maxRecDepth 100000 in
theorem db_X13_longs_109 {p : Program} {l : Launch} {e : Env} {s : State} {m : MethodId} {args : Array Value} {below : List Frame} {meth : Method} {c : Code} {Q : State → Prop} {A : Nat → Prop} {dC : Nat → ClassId} {dI : Nat → Nat → Nat} {a : Nat → Nat} {ac : Nat → ClassId} {n : Nat} {r : St} (C : nd_C p l s m args c A (dC, dI) cX13_longs 6 RX13 ow_dm_X13_longs (dk_X13 ac)) (K : nd_Kv p l e (headSpec ow_dm_X13_longs ({ frames := 9, cells := 0, slots := 0, locals := 206 })).room s m args below meth c Q A (dC, dI) cX13_longs (St) (dw_X13 a ac) r) : dj_X13_longs_109 p l e s m args below meth c Q A dC dI a ac (df_X13_longs_109 n) r := by
  obtain ⟨hlt, hx, hb, hml, hown, hts, hN, hA, hK⟩ := id C
  intro x1 x2 x3 x4 y0 s0 H locs ls h hP hD hS hl
  unfold df_X13_longs_109 at h
  refine lv_istore (lv' := [(5, .int y0), (0, .ref (a 0)), (1, .int x1), (2, .int x2), (3, .int x3), (4, .int x4)]) hx hb dX13_longs_109 hl (by decide) rfl (fun ls hl => ?_)
  refine lv_aload_n hx hb dX13_longs_111 rfl (lv_at hl 1 rfl) ?_
  refine lv_iload_n hx hb dX13_longs_112 rfl (lv_at hl 2 rfl) ?_
  refine lv_iconst (v := 5) hx hb dX13_longs_113 (by decide) ?_
  refine lv_icmp_ne (tgt := 153) hx hb dX13_longs_114 (by decide) (fun c15 => ?_) (fun c15 => ?_)
  · have h := nd_neg h c15
    refine lv_iload_n hx hb dX13_longs_153 rfl (lv_at hl 3 rfl) ?_
    refine lv_iload_n hx hb dX13_longs_154 rfl (lv_at hl 4 rfl) ?_
    refine lv_bipush (v := 7) hx hb dX13_longs_155 (by decide) ?_
    refine lv_ishl hx hb dX13_longs_157 ?_
    refine lv_ior hx hb dX13_longs_158 ?_
    refine lv_iload hx hb dX13_longs_159 (lv_at hl 0 rfl) ?_
    refine lv_bipush (v := 15) hx hb dX13_longs_161 (by decide) ?_
    refine lv_ishl hx hb dX13_longs_163 ?_
    refine lv_ior hx hb dX13_longs_164 ?_
    refine lv_iload hx hb dX13_longs_165 (lv_at hl 5 rfl) ?_
    refine lv_bipush (v := 20) hx hb dX13_longs_167 (by decide) ?_
    refine lv_ishl hx hb dX13_longs_169 ?_
    refine lv_ior hx hb dX13_longs_170 ?_
    exact (db_X13_longs_171 C K) ((((x2 ||| ((x3 : Int32) <<< ((7 : Int32) &&& 31))) ||| ((y0 : Int32) <<< ((15 : Int32) &&& 31))) ||| ((x4 : Int32) <<< ((20 : Int32) &&& 31)))) s0 _ _ _ h hP hD hS (lv_sub hl [] rfl)
  · have h := nd_pos h c15
    refine lv_iload_n hx hb dX13_longs_117 rfl (lv_at hl 3 rfl) ?_
    refine lv_iload hx hb dX13_longs_118 (lv_at hl 5 rfl) ?_
    refine lv_bipush (v := 11) hx hb dX13_longs_120 (by decide) ?_
    refine lv_iconst (v := 5) hx hb dX13_longs_122 (by decide) ?_
    refine lv_bipush (v := 25) hx hb dX13_longs_123 (by decide) ?_
    obtain ⟨q19, s20, hq, h⟩ := nd_b2_e h
    have hPc : va_P (dC, dI) vwCl (dw_P a ac ()) H := nd_p0
    have hDc : va_D A (dw_P a ac ()) := nd_d0
    have hKc : va_K (dC, dI) vwCl (dk_P ac) s := nd_y0 hK
    have hFc : ∀ q, va_A (dw_P a ac ()) H.size q → A q := nd_r0 hS hA
    refine nd_cSi (As := [.int x4, .int 11, .int 5, .int 25]) (rest := [.int x2, .ref (a 0)]) (q := q19) (w' := dw_P a ac s20) ⟨hx, hb, hml, hown, hts⟩ (fun sz => dm_X13_bits l hlt dC dI a ac n (x4) (11) (5) (25) () hq sz) (cwS 4 hts gi_dm_X13_longs_4 rfl rfl rfl (by decide +kernel) ⟨Nat.le_of_ble_eq_true rfl, Nat.le_of_ble_eq_true rfl⟩) hPc hDc hKc hS hA hN rfl hl.1 rfl (Nat.le_of_ble_eq_true rfl) dX13_longs_125 (fun H locs hP1 hD1 hk1 hS => ?_)
    have hP := nd_n0 hP hk1
    refine lv_ior hx hb dX13_longs_128 ?_
    refine lv_iload hx hb dX13_longs_129 (lv_at hl 5 rfl) ?_
    refine lv_iconst (v := 4) hx hb dX13_longs_131 (by decide) ?_
    refine lv_iconst (v := 0) hx hb dX13_longs_132 (by decide) ?_
    refine lv_bipush (v := 7) hx hb dX13_longs_133 (by decide) ?_
    obtain ⟨q22, s23, hq, h⟩ := nd_b2_e h
    have hPc : va_P (dC, dI) vwCl (dw_P a ac ()) H := nd_p0
    have hDc : va_D A (dw_P a ac ()) := nd_d0
    have hKc : va_K (dC, dI) vwCl (dk_P ac) s := nd_y0 hK
    have hFc : ∀ q, va_A (dw_P a ac ()) H.size q → A q := nd_r0 hS hA
    refine nd_cSi (As := [.int x4, .int 4, .int 0, .int 7]) (rest := [.int (x2 ||| q19), .ref (a 0)]) (q := q22) (w' := dw_P a ac s23) ⟨hx, hb, hml, hown, hts⟩ (fun sz => dm_X13_bits l hlt dC dI a ac n (x4) (4) (0) (7) () hq sz) (cwS 4 hts gi_dm_X13_longs_4 rfl rfl rfl (by decide +kernel) ⟨Nat.le_of_ble_eq_true rfl, Nat.le_of_ble_eq_true rfl⟩) hPc hDc hKc hS hA hN rfl hl.1 rfl (Nat.le_of_ble_eq_true rfl) dX13_longs_135 (fun H locs hP1 hD1 hk1 hS => ?_)
    have hP := nd_n0 hP hk1
    refine lv_ior hx hb dX13_longs_138 ?_
    refine lv_iload hx hb dX13_longs_139 (lv_at hl 0 rfl) ?_
    refine lv_bipush (v := 15) hx hb dX13_longs_141 (by decide) ?_
    refine lv_ishl hx hb dX13_longs_143 ?_
    refine lv_ior hx hb dX13_longs_144 ?_
    refine lv_iload_n hx hb dX13_longs_145 rfl (lv_at hl 4 rfl) ?_
    refine lv_bipush (v := 20) hx hb dX13_longs_146 (by decide) ?_
    refine lv_ishl hx hb dX13_longs_148 ?_
    refine lv_ior hx hb dX13_longs_149 ?_
    refine lv_goto (tgt := 171) hx hb dX13_longs_150 (by decide) ?_
    exact (db_X13_longs_171 C K) (((((x2 ||| q19) ||| q22) ||| ((y0 : Int32) <<< ((15 : Int32) &&& 31))) ||| ((x3 : Int32) <<< ((20 : Int32) &&& 31)))) s0 _ _ _ h hP hD hS (lv_sub hl [] rfl)
set_option maxHeartbeats 40000000 in
set_option maxRecDepth 100000 in
theorem db_X13_longs_81 {p : Program} {l : Launch} {e : Env} {s : State} {m : MethodId} {args : Array Value} {below : List Frame} {meth : Method} {c : Code} {Q : State → Prop} {A : Nat → Prop} {dC : Nat → ClassId} {dI : Nat → Nat → Nat} {a : Nat → Nat} {ac : Nat → ClassId} {n : Nat} {r : St} (C : nd_C p l s m args c A (dC, dI) cX13_longs 6 RX13 ow_dm_X13_longs (dk_X13 ac)) (K : nd_Kv p l e (headSpec ow_dm_X13_longs ({ frames := 9, cells := 0, slots := 0, locals := 206 })).room s m args below meth c Q A (dC, dI) cX13_longs (St) (dw_X13 a ac) r) : dj_X13_longs_81 p l e s m args below meth c Q A dC dI a ac (df_X13_longs_81 n) r := by
  obtain ⟨hlt, hx, hb, hml, hown, hts, hN, hA, hK⟩ := id C
  intro x1 x2 x3 s0 H locs ls h hP hD hS hl
  unfold df_X13_longs_81 at h
  refine lv_aload_n hx hb dX13_longs_81 rfl (lv_at hl 0 rfl) ?_
  refine lv_sipush (v := (-2048)) hx hb dX13_longs_82 (by decide) ?_
  refine lv_sipush (v := 2047) hx hb dX13_longs_85 (by decide) ?_
  refine lv_iconst (v := 1) hx hb dX13_longs_88 (by decide) ?_
  obtain ⟨q11, s12, hq, h⟩ := nd_b2_e h
  have hPc := hP
  have hDc := hD
  have hKc := hK
  have hFc := nd_rs hD hS hA
  refine nd_cVi (As := [.int (-2048), .int 2047, .int 1]) (rest := []) (q := q11) (w' := dw_X13 a ac s12) ⟨hx, hb, hml, hown, hts⟩ (fun sz => dm_X13_within l hlt dC dI a ac n ((-2048)) (2047) (1) s0 hq sz) (cwV 3 hts gi_dm_X13_longs_2 rfl rfl rfl (by decide +kernel) ⟨Nat.le_of_ble_eq_true rfl, Nat.le_of_ble_eq_true rfl⟩) hPc hDc hKc hS hA hN (va_recv hKc hPc (ci := 14) (q0 := 0) rfl rfl) rfl hl.1 rfl (Nat.le_of_ble_eq_true rfl) dX13_longs_89 (fun H locs hP1 hD1 hk1 hS => ?_)
  have hP := hP1
  have hD := hD1.weaken (fun k q _ h => hFc q.1 h)
  refine lv_istore (lv' := [(4, .int q11), (0, .ref (a 0)), (1, .int x1), (2, .int x2), (3, .int x3)]) hx hb dX13_longs_92 hl (by decide) rfl (fun ls hl => ?_)
  refine lv_aload_n hx hb dX13_longs_94 rfl (lv_at hl 1 rfl) ?_
  refine va_get (D := (dC, dI)) (ci := 14) (v := .int (sI s12 12)) (C := RX13) (T := TX13) (N := 37) hx hb hts hi_dm_X13_longs_X13 hown hK hP 0 rfl rfl 21 (by decide) (hts (.fieldLink RX13 410 "TimeMachineModel$Assembler" "fault" "I") (List.mem_of_getElem? (i := 11) rfl)) (fun _ h9 => h9) rfl dX13_longs_95 ?_
  refine lv_if_ne (tgt := 108) hx hb dX13_longs_98 (by decide) (fun c14 => ?_) (fun c14 => ?_)
  · have h := nd_neg h c14
    refine lv_iconst (v := 0) hx hb dX13_longs_108 (by decide) ?_
    exact (db_X13_longs_109 C K) (x1) (x2) (x3) (q11) (0) s12 _ _ _ h hP hD hS (lv_sub hl [1, 2, 3, 4, 0] rfl)
  · have h := nd_pos h c14
    refine lv_aload_n hx hb dX13_longs_101 rfl (lv_at hl 1 rfl) ?_
    obtain ⟨q25, s26, hq, h⟩ := nd_b2_e h
    have hPc := hP
    have hDc := hD
    have hKc := hK
    have hFc := nd_rs hD hS hA
    refine nd_cVi (As := []) (rest := []) (q := q25) (w' := dw_X13 a ac s26) ⟨hx, hb, hml, hown, hts⟩ (fun sz => dm_X13_bracketed l hlt dC dI a ac n  s12 hq sz) (cwV 0 hts gi_dm_X13_longs_5 rfl rfl rfl (by decide +kernel) ⟨Nat.le_of_ble_eq_true rfl, Nat.le_of_ble_eq_true rfl⟩) hPc hDc hKc hS hA hN (va_recv hKc hPc (ci := 14) (q0 := 0) rfl rfl) rfl hl.1 rfl (Nat.le_of_ble_eq_true rfl) dX13_longs_102 (fun H locs hP1 hD1 hk1 hS => ?_)
    have hP := hP1
    have hD := hD1.weaken (fun k q _ h => hFc q.1 h)
    refine lv_goto (tgt := 109) hx hb dX13_longs_105 (by decide) ?_
    exact (db_X13_longs_109 C K) (x1) (x2) (x3) (q11) (q25) s26 _ _ _ h hP hD hS (lv_sub hl [1, 2, 3, 4, 0] rfl)
set_option maxHeartbeats 40000000 in
set_option maxRecDepth 100000 in
theorem db_X13_longs_40 {p : Program} {l : Launch} {e : Env} {s : State} {m : MethodId} {args : Array Value} {below : List Frame} {meth : Method} {c : Code} {Q : State → Prop} {A : Nat → Prop} {dC : Nat → ClassId} {dI : Nat → Nat → Nat} {a : Nat → Nat} {ac : Nat → ClassId} {n : Nat} {r : St} (C : nd_C p l s m args c A (dC, dI) cX13_longs 6 RX13 ow_dm_X13_longs (dk_X13 ac)) (K : nd_Kv p l e (headSpec ow_dm_X13_longs ({ frames := 9, cells := 0, slots := 0, locals := 206 })).room s m args below meth c Q A (dC, dI) cX13_longs (St) (dw_X13 a ac) r) : dj_X13_longs_40 p l e s m args below meth c Q A dC dI a ac (df_X13_longs_40 n) r := by
  obtain ⟨hlt, hx, hb, hml, hown, hts, hN, hA, hK⟩ := id C
  intro x1 x2 x3 s0 H locs ls h hP hD hS hl
  unfold df_X13_longs_40 at h
  refine lv_iload_n hx hb dX13_longs_40 rfl (lv_at hl 1 rfl) ?_
  refine lv_bipush (v := 11) hx hb dX13_longs_41 (by decide) ?_
  refine lv_icmp_ne (tgt := 57) hx hb dX13_longs_43 (by decide) (fun c5 => ?_) (fun c5 => ?_)
  · have h := nd_neg h c5
    refine lv_aload_n hx hb dX13_longs_57 rfl (lv_at hl 0 rfl) ?_
    obtain ⟨q6, s7, hq, h⟩ := nd_b2_e h
    have hPc := hP
    have hDc := hD
    have hKc := hK
    have hFc := nd_rs hD hS hA
    refine nd_cVi (As := []) (rest := []) (q := q6) (w' := dw_X13 a ac s7) ⟨hx, hb, hml, hown, hts⟩ (fun sz => dm_X13_comma l hlt dC dI a ac n  s0 hq sz) (cwV 0 hts gi_dm_X13_longs_1 rfl rfl rfl (by decide +kernel) ⟨Nat.le_of_ble_eq_true rfl, Nat.le_of_ble_eq_true rfl⟩) hPc hDc hKc hS hA hN (va_recv hKc hPc (ci := 14) (q0 := 0) rfl rfl) rfl hl.1 rfl (Nat.le_of_ble_eq_true rfl) dX13_longs_58 (fun H locs hP1 hD1 hk1 hS => ?_)
    have hP := hP1
    have hD := hD1.weaken (fun k q _ h => hFc q.1 h)
    refine lv_if_ne (tgt := 65) hx hb dX13_longs_61 (by decide) (fun c9 => ?_) (fun c9 => ?_)
    · have h := nd_neg h c9
      refine lv_iload_n hx hb dX13_longs_65 rfl (lv_at hl 1 rfl) ?_
      refine lv_iconst (v := 4) hx hb dX13_longs_66 (by decide) ?_
      refine lv_icmp_eq (tgt := 81) hx hb dX13_longs_67 (by decide) (fun c10 => ?_) (fun c10 => ?_)
      · have h := nd_pos h c10
        exact (db_X13_longs_81 C K) (x1) (x2) (x3) s7 _ _ _ h hP hD hS (lv_sub hl [0, 1, 2, 3] rfl)
      · have h := nd_neg h c10
        refine lv_iload_n hx hb dX13_longs_70 rfl (lv_at hl 1 rfl) ?_
        refine lv_iconst (v := 5) hx hb dX13_longs_71 (by decide) ?_
        refine lv_icmp_eq (tgt := 81) hx hb dX13_longs_72 (by decide) (fun c28 => ?_) (fun c28 => ?_)
        · have h := nd_pos h c28
          exact (db_X13_longs_81 C K) (x1) (x2) (x3) s7 _ _ _ h hP hD hS (lv_sub hl [0, 1, 2, 3] rfl)
        · have h := nd_neg h c28
          refine lv_iload_n hx hb dX13_longs_75 rfl (lv_at hl 1 rfl) ?_
          refine lv_bipush (v := 30) hx hb dX13_longs_76 (by decide) ?_
          refine lv_icmp_ne (tgt := 177) hx hb dX13_longs_78 (by decide) (fun c29 => ?_) (fun c29 => ?_)
          · have h := nd_neg h c29
            refine lv_iload_n hx hb dX13_longs_177 rfl (lv_at hl 1 rfl) ?_
            refine lv_bipush (v := 6) hx hb dX13_longs_178 (by decide) ?_
            refine lv_icmp_ne (tgt := 209) hx hb dX13_longs_180 (by decide) (fun c30 => ?_) (fun c30 => ?_)
            · have h := nd_neg h c30
              refine lv_iload_n hx hb dX13_longs_209 rfl (lv_at hl 1 rfl) ?_
              refine lv_bipush (v := 10) hx hb dX13_longs_210 (by decide) ?_
              refine lv_icmp_ne (tgt := 236) hx hb dX13_longs_212 (by decide) (fun c31 => ?_) (fun c31 => ?_)
              · have h := nd_neg h c31
                refine lv_aload_n hx hb dX13_longs_236 rfl (lv_at hl 0 rfl) ?_
                obtain ⟨q32, s33, hq, h⟩ := nd_b2_e h
                have hPc := hP
                have hDc := hD
                have hKc := hK
                have hFc := nd_rs hD hS hA
                refine nd_cVi (As := []) (rest := []) (q := q32) (w' := dw_X13 a ac s33) ⟨hx, hb, hml, hown, hts⟩ (fun sz => dm_X13_taken l hlt dC dI a ac n  s7 hq sz) (cwV 0 hts gi_dm_X13_longs_0 rfl rfl rfl (by decide +kernel) ⟨Nat.le_of_ble_eq_true rfl, Nat.le_of_ble_eq_true rfl⟩) hPc hDc hKc hS hA hN (va_recv hKc hPc (ci := 14) (q0 := 0) rfl rfl) rfl hl.1 rfl (Nat.le_of_ble_eq_true rfl) dX13_longs_237 (fun H locs hP1 hD1 hk1 hS => ?_)
                have hP := hP1
                have hD := hD1.weaken (fun k q _ h => hFc q.1 h)
                refine lv_istore (lv' := [(4, .int q32), (0, .ref (a 0)), (1, .int x1), (2, .int x2), (3, .int x3)]) hx hb dX13_longs_240 hl (by decide) rfl (fun ls hl => ?_)
                refine lv_aload_n hx hb dX13_longs_242 rfl (lv_at hl 1 rfl) ?_
                obtain ⟨q35, s36, hq, h⟩ := nd_b2_e h
                have hPc := hP
                have hDc := hD
                have hKc := hK
                have hFc := nd_rs hD hS hA
                refine nd_cVi (As := []) (rest := []) (q := q35) (w' := dw_X13 a ac s36) ⟨hx, hb, hml, hown, hts⟩ (fun sz => dm_X13_comma l hlt dC dI a ac n  s33 hq sz) (cwV 0 hts gi_dm_X13_longs_1 rfl rfl rfl (by decide +kernel) ⟨Nat.le_of_ble_eq_true rfl, Nat.le_of_ble_eq_true rfl⟩) hPc hDc hKc hS hA hN (va_recv hKc hPc (ci := 14) (q0 := 0) rfl rfl) rfl hl.1 rfl (Nat.le_of_ble_eq_true rfl) dX13_longs_243 (fun H locs hP1 hD1 hk1 hS => ?_)
                have hP := hP1
                have hD := hD1.weaken (fun k q _ h => hFc q.1 h)
                refine lv_if_ne (tgt := 250) hx hb dX13_longs_246 (by decide) (fun c38 => ?_) (fun c38 => ?_)
                · have h := nd_neg h c38
                  refine lv_iload_n hx hb dX13_longs_250 rfl (lv_at hl 2 rfl) ?_
                  refine lv_iconst (v := 1) hx hb dX13_longs_251 (by decide) ?_
                  refine lv_icmp_ne (tgt := 282) hx hb dX13_longs_252 (by decide) (fun c39 => ?_) (fun c39 => ?_)
                  · have h := nd_neg h c39
                    refine lv_iload_n hx hb dX13_longs_282 rfl (lv_at hl 2 rfl) ?_
                    refine lv_iconst (v := 2) hx hb dX13_longs_283 (by decide) ?_
                    refine lv_icmp_ne (tgt := 321) hx hb dX13_longs_284 (by decide) (fun c40 => ?_) (fun c40 => ?_)
                    · have h := nd_neg h c40
                      refine lv_iload_n hx hb dX13_longs_321 rfl (lv_at hl 2 rfl) ?_
                      refine lv_iconst (v := 3) hx hb dX13_longs_322 (by decide) ?_
                      refine lv_icmp_ne (tgt := 360) hx hb dX13_longs_323 (by decide) (fun c41 => ?_) (fun c41 => ?_)
                      · have h := nd_neg h c41
                        refine lv_aload_n hx hb dX13_longs_360 rfl (lv_at hl 1 rfl) ?_
                        refine lv_iload_n hx hb dX13_longs_361 rfl (lv_at hl 3 rfl) ?_
                        refine lv_iload_n hx hb dX13_longs_362 rfl (lv_at hl 4 rfl) ?_
                        refine lv_bipush (v := 7) hx hb dX13_longs_363 (by decide) ?_
                        refine lv_ishl hx hb dX13_longs_365 ?_
                        refine lv_ior hx hb dX13_longs_366 ?_
                        refine lv_iload hx hb dX13_longs_367 (lv_at hl 0 rfl) ?_
                        refine lv_bipush (v := 20) hx hb dX13_longs_369 (by decide) ?_
                        refine lv_ishl hx hb dX13_longs_371 ?_
                        refine lv_ior hx hb dX13_longs_372 ?_
                        refine lv_aload_n hx hb dX13_longs_373 rfl (lv_at hl 1 rfl) ?_
                        obtain ⟨q42, s43, hq, h⟩ := nd_b2_e h
                        have hPc := hP
                        have hDc := hD
                        have hKc := hK
                        have hFc := nd_rs hD hS hA
                        refine nd_cVi (As := []) (rest := [.int ((x2 ||| ((x3 : Int32) <<< ((7 : Int32) &&& 31))) ||| ((q32 : Int32) <<< ((20 : Int32) &&& 31))), .ref (a 0)]) (q := q42) (w' := dw_X13 a ac s43) ⟨hx, hb, hml, hown, hts⟩ (fun sz => dm_X13_bracketed l hlt dC dI a ac n  s36 hq sz) (cwV 0 hts gi_dm_X13_longs_5 rfl rfl rfl (by decide +kernel) ⟨Nat.le_of_ble_eq_true rfl, Nat.le_of_ble_eq_true rfl⟩) hPc hDc hKc hS hA hN (va_recv hKc hPc (ci := 14) (q0 := 0) rfl rfl) rfl hl.1 rfl (Nat.le_of_ble_eq_true rfl) dX13_longs_374 (fun H locs hP1 hD1 hk1 hS => ?_)
                        have hP := hP1
                        have hD := hD1.weaken (fun k q _ h => hFc q.1 h)
                        refine lv_bipush (v := 15) hx hb dX13_longs_377 (by decide) ?_
                        refine lv_ishl hx hb dX13_longs_379 ?_
                        refine lv_ior hx hb dX13_longs_380 ?_
                        obtain ⟨s46, hq, h⟩ := nd_b1_e h
                        have hPc := hP
                        have hDc := hD
                        have hKc := hK
                        have hFc := nd_rs hD hS hA
                        refine nd_cVv (As := [.int (((x2 ||| ((x3 : Int32) <<< ((7 : Int32) &&& 31))) ||| ((q32 : Int32) <<< ((20 : Int32) &&& 31))) ||| ((q42 : Int32) <<< ((15 : Int32) &&& 31)))]) (rest := []) (w' := dw_X13 a ac s46) ⟨hx, hb, hml, hown, hts⟩ (fun sz => dm_X13_word l hlt dC dI a ac n ((((x2 ||| ((x3 : Int32) <<< ((7 : Int32) &&& 31))) ||| ((q32 : Int32) <<< ((20 : Int32) &&& 31))) ||| ((q42 : Int32) <<< ((15 : Int32) &&& 31)))) s43 hq sz) (cwV 1 hts gi_dm_X13_longs_3 rfl rfl rfl (by decide +kernel) ⟨Nat.le_of_ble_eq_true rfl, Nat.le_of_ble_eq_true rfl⟩) hPc hDc hKc hS hA hN (va_recv hKc hPc (ci := 14) (q0 := 0) rfl rfl) rfl hl.1 rfl (Nat.le_of_ble_eq_true rfl) dX13_longs_381 (fun H locs hP1 hD1 hk1 hS => ?_)
                        have hP := hP1
                        have hD := hD1.weaken (fun k q _ h => hFc q.1 h)
                        exact (db_X13_longs_384 C K)  s46 _ _ _ h hP hD hS (lv_sub hl [] rfl)
                      · have h := nd_pos h c41
                        refine lv_aload_n hx hb dX13_longs_326 rfl (lv_at hl 1 rfl) ?_
                        refine lv_iload_n hx hb dX13_longs_327 rfl (lv_at hl 3 rfl) ?_
                        refine lv_iload_n hx hb dX13_longs_328 rfl (lv_at hl 4 rfl) ?_
                        refine lv_bipush (v := 7) hx hb dX13_longs_329 (by decide) ?_
                        refine lv_ishl hx hb dX13_longs_331 ?_
                        refine lv_ior hx hb dX13_longs_332 ?_
                        refine lv_iload hx hb dX13_longs_333 (lv_at hl 0 rfl) ?_
                        refine lv_bipush (v := 15) hx hb dX13_longs_335 (by decide) ?_
                        refine lv_ishl hx hb dX13_longs_337 ?_
                        refine lv_ior hx hb dX13_longs_338 ?_
                        refine lv_aload_n hx hb dX13_longs_339 rfl (lv_at hl 1 rfl) ?_
                        refine lv_iconst (v := 0) hx hb dX13_longs_340 (by decide) ?_
                        refine lv_bipush (v := 31) hx hb dX13_longs_341 (by decide) ?_
                        refine lv_iconst (v := 1) hx hb dX13_longs_343 (by decide) ?_
                        obtain ⟨q48, s49, hq, h⟩ := nd_b2_e h
                        have hPc := hP
                        have hDc := hD
                        have hKc := hK
                        have hFc := nd_rs hD hS hA
                        refine nd_cVi (As := [.int 0, .int 31, .int 1]) (rest := [.int ((x2 ||| ((x3 : Int32) <<< ((7 : Int32) &&& 31))) ||| ((q32 : Int32) <<< ((15 : Int32) &&& 31))), .ref (a 0)]) (q := q48) (w' := dw_X13 a ac s49) ⟨hx, hb, hml, hown, hts⟩ (fun sz => dm_X13_within l hlt dC dI a ac n (0) (31) (1) s36 hq sz) (cwV 3 hts gi_dm_X13_longs_2 rfl rfl rfl (by decide +kernel) ⟨Nat.le_of_ble_eq_true rfl, Nat.le_of_ble_eq_true rfl⟩) hPc hDc hKc hS hA hN (va_recv hKc hPc (ci := 14) (q0 := 0) rfl rfl) rfl hl.1 rfl (Nat.le_of_ble_eq_true rfl) dX13_longs_344 (fun H locs hP1 hD1 hk1 hS => ?_)
                        have hP := hP1
                        have hD := hD1.weaken (fun k q _ h => hFc q.1 h)
                        refine lv_bipush (v := 31) hx hb dX13_longs_347 (by decide) ?_
                        refine lv_iand hx hb dX13_longs_349 ?_
                        refine lv_bipush (v := 20) hx hb dX13_longs_350 (by decide) ?_
                        refine lv_ishl hx hb dX13_longs_352 ?_
                        refine lv_ior hx hb dX13_longs_353 ?_
                        obtain ⟨s52, hq, h⟩ := nd_b1_e h
                        have hPc := hP
                        have hDc := hD
                        have hKc := hK
                        have hFc := nd_rs hD hS hA
                        refine nd_cVv (As := [.int (((x2 ||| ((x3 : Int32) <<< ((7 : Int32) &&& 31))) ||| ((q32 : Int32) <<< ((15 : Int32) &&& 31))) ||| (((q48 &&& 31) : Int32) <<< ((20 : Int32) &&& 31)))]) (rest := []) (w' := dw_X13 a ac s52) ⟨hx, hb, hml, hown, hts⟩ (fun sz => dm_X13_word l hlt dC dI a ac n ((((x2 ||| ((x3 : Int32) <<< ((7 : Int32) &&& 31))) ||| ((q32 : Int32) <<< ((15 : Int32) &&& 31))) ||| (((q48 &&& 31) : Int32) <<< ((20 : Int32) &&& 31)))) s49 hq sz) (cwV 1 hts gi_dm_X13_longs_3 rfl rfl rfl (by decide +kernel) ⟨Nat.le_of_ble_eq_true rfl, Nat.le_of_ble_eq_true rfl⟩) hPc hDc hKc hS hA hN (va_recv hKc hPc (ci := 14) (q0 := 0) rfl rfl) rfl hl.1 rfl (Nat.le_of_ble_eq_true rfl) dX13_longs_354 (fun H locs hP1 hD1 hk1 hS => ?_)
                        have hP := hP1
                        have hD := hD1.weaken (fun k q _ h => hFc q.1 h)
                        refine lv_goto (tgt := 384) hx hb dX13_longs_357 (by decide) ?_
                        exact (db_X13_longs_384 C K)  s52 _ _ _ h hP hD hS (lv_sub hl [] rfl)
                    · have h := nd_pos h c40
                      refine lv_aload_n hx hb dX13_longs_287 rfl (lv_at hl 1 rfl) ?_
                      refine lv_iload_n hx hb dX13_longs_288 rfl (lv_at hl 3 rfl) ?_
                      refine lv_iload_n hx hb dX13_longs_289 rfl (lv_at hl 4 rfl) ?_
                      refine lv_bipush (v := 7) hx hb dX13_longs_290 (by decide) ?_
                      refine lv_ishl hx hb dX13_longs_292 ?_
                      refine lv_ior hx hb dX13_longs_293 ?_
                      refine lv_iload hx hb dX13_longs_294 (lv_at hl 0 rfl) ?_
                      refine lv_bipush (v := 15) hx hb dX13_longs_296 (by decide) ?_
                      refine lv_ishl hx hb dX13_longs_298 ?_
                      refine lv_ior hx hb dX13_longs_299 ?_
                      refine lv_aload_n hx hb dX13_longs_300 rfl (lv_at hl 1 rfl) ?_
                      refine lv_sipush (v := (-2048)) hx hb dX13_longs_301 (by decide) ?_
                      refine lv_sipush (v := 2047) hx hb dX13_longs_304 (by decide) ?_
                      refine lv_iconst (v := 1) hx hb dX13_longs_307 (by decide) ?_
                      obtain ⟨q54, s55, hq, h⟩ := nd_b2_e h
                      have hPc := hP
                      have hDc := hD
                      have hKc := hK
                      have hFc := nd_rs hD hS hA
                      refine nd_cVi (As := [.int (-2048), .int 2047, .int 1]) (rest := [.int ((x2 ||| ((x3 : Int32) <<< ((7 : Int32) &&& 31))) ||| ((q32 : Int32) <<< ((15 : Int32) &&& 31))), .ref (a 0)]) (q := q54) (w' := dw_X13 a ac s55) ⟨hx, hb, hml, hown, hts⟩ (fun sz => dm_X13_within l hlt dC dI a ac n ((-2048)) (2047) (1) s36 hq sz) (cwV 3 hts gi_dm_X13_longs_2 rfl rfl rfl (by decide +kernel) ⟨Nat.le_of_ble_eq_true rfl, Nat.le_of_ble_eq_true rfl⟩) hPc hDc hKc hS hA hN (va_recv hKc hPc (ci := 14) (q0 := 0) rfl rfl) rfl hl.1 rfl (Nat.le_of_ble_eq_true rfl) dX13_longs_308 (fun H locs hP1 hD1 hk1 hS => ?_)
                      have hP := hP1
                      have hD := hD1.weaken (fun k q _ h => hFc q.1 h)
                      refine lv_bipush (v := 20) hx hb dX13_longs_311 (by decide) ?_
                      refine lv_ishl hx hb dX13_longs_313 ?_
                      refine lv_ior hx hb dX13_longs_314 ?_
                      obtain ⟨s58, hq, h⟩ := nd_b1_e h
                      have hPc := hP
                      have hDc := hD
                      have hKc := hK
                      have hFc := nd_rs hD hS hA
                      refine nd_cVv (As := [.int (((x2 ||| ((x3 : Int32) <<< ((7 : Int32) &&& 31))) ||| ((q32 : Int32) <<< ((15 : Int32) &&& 31))) ||| ((q54 : Int32) <<< ((20 : Int32) &&& 31)))]) (rest := []) (w' := dw_X13 a ac s58) ⟨hx, hb, hml, hown, hts⟩ (fun sz => dm_X13_word l hlt dC dI a ac n ((((x2 ||| ((x3 : Int32) <<< ((7 : Int32) &&& 31))) ||| ((q32 : Int32) <<< ((15 : Int32) &&& 31))) ||| ((q54 : Int32) <<< ((20 : Int32) &&& 31)))) s55 hq sz) (cwV 1 hts gi_dm_X13_longs_3 rfl rfl rfl (by decide +kernel) ⟨Nat.le_of_ble_eq_true rfl, Nat.le_of_ble_eq_true rfl⟩) hPc hDc hKc hS hA hN (va_recv hKc hPc (ci := 14) (q0 := 0) rfl rfl) rfl hl.1 rfl (Nat.le_of_ble_eq_true rfl) dX13_longs_315 (fun H locs hP1 hD1 hk1 hS => ?_)
                      have hP := hP1
                      have hD := hD1.weaken (fun k q _ h => hFc q.1 h)
                      refine lv_goto (tgt := 384) hx hb dX13_longs_318 (by decide) ?_
                      exact (db_X13_longs_384 C K)  s58 _ _ _ h hP hD hS (lv_sub hl [] rfl)
                  · have h := nd_pos h c39
                    refine lv_aload_n hx hb dX13_longs_255 rfl (lv_at hl 1 rfl) ?_
                    refine lv_iload_n hx hb dX13_longs_256 rfl (lv_at hl 3 rfl) ?_
                    refine lv_iload_n hx hb dX13_longs_257 rfl (lv_at hl 4 rfl) ?_
                    refine lv_bipush (v := 7) hx hb dX13_longs_258 (by decide) ?_
                    refine lv_ishl hx hb dX13_longs_260 ?_
                    refine lv_ior hx hb dX13_longs_261 ?_
                    refine lv_iload hx hb dX13_longs_262 (lv_at hl 0 rfl) ?_
                    refine lv_bipush (v := 15) hx hb dX13_longs_264 (by decide) ?_
                    refine lv_ishl hx hb dX13_longs_266 ?_
                    refine lv_ior hx hb dX13_longs_267 ?_
                    refine lv_aload_n hx hb dX13_longs_268 rfl (lv_at hl 1 rfl) ?_
                    obtain ⟨q60, s61, hq, h⟩ := nd_b2_e h
                    have hPc := hP
                    have hDc := hD
                    have hKc := hK
                    have hFc := nd_rs hD hS hA
                    refine nd_cVi (As := []) (rest := [.int ((x2 ||| ((x3 : Int32) <<< ((7 : Int32) &&& 31))) ||| ((q32 : Int32) <<< ((15 : Int32) &&& 31))), .ref (a 0)]) (q := q60) (w' := dw_X13 a ac s61) ⟨hx, hb, hml, hown, hts⟩ (fun sz => dm_X13_taken l hlt dC dI a ac n  s36 hq sz) (cwV 0 hts gi_dm_X13_longs_0 rfl rfl rfl (by decide +kernel) ⟨Nat.le_of_ble_eq_true rfl, Nat.le_of_ble_eq_true rfl⟩) hPc hDc hKc hS hA hN (va_recv hKc hPc (ci := 14) (q0 := 0) rfl rfl) rfl hl.1 rfl (Nat.le_of_ble_eq_true rfl) dX13_longs_269 (fun H locs hP1 hD1 hk1 hS => ?_)
                    have hP := hP1
                    have hD := hD1.weaken (fun k q _ h => hFc q.1 h)
                    refine lv_bipush (v := 20) hx hb dX13_longs_272 (by decide) ?_
                    refine lv_ishl hx hb dX13_longs_274 ?_
                    refine lv_ior hx hb dX13_longs_275 ?_
                    obtain ⟨s64, hq, h⟩ := nd_b1_e h
                    have hPc := hP
                    have hDc := hD
                    have hKc := hK
                    have hFc := nd_rs hD hS hA
                    refine nd_cVv (As := [.int (((x2 ||| ((x3 : Int32) <<< ((7 : Int32) &&& 31))) ||| ((q32 : Int32) <<< ((15 : Int32) &&& 31))) ||| ((q60 : Int32) <<< ((20 : Int32) &&& 31)))]) (rest := []) (w' := dw_X13 a ac s64) ⟨hx, hb, hml, hown, hts⟩ (fun sz => dm_X13_word l hlt dC dI a ac n ((((x2 ||| ((x3 : Int32) <<< ((7 : Int32) &&& 31))) ||| ((q32 : Int32) <<< ((15 : Int32) &&& 31))) ||| ((q60 : Int32) <<< ((20 : Int32) &&& 31)))) s61 hq sz) (cwV 1 hts gi_dm_X13_longs_3 rfl rfl rfl (by decide +kernel) ⟨Nat.le_of_ble_eq_true rfl, Nat.le_of_ble_eq_true rfl⟩) hPc hDc hKc hS hA hN (va_recv hKc hPc (ci := 14) (q0 := 0) rfl rfl) rfl hl.1 rfl (Nat.le_of_ble_eq_true rfl) dX13_longs_276 (fun H locs hP1 hD1 hk1 hS => ?_)
                    have hP := hP1
                    have hD := hD1.weaken (fun k q _ h => hFc q.1 h)
                    refine lv_goto (tgt := 384) hx hb dX13_longs_279 (by decide) ?_
                    exact (db_X13_longs_384 C K)  s64 _ _ _ h hP hD hS (lv_sub hl [] rfl)
                · have h := nd_pos h c38
                  exact K _ _ _ _ _ dX13_longs_249 (Option.some.inj h).symm hP hD hS
              · have h := nd_pos h c31
                refine lv_aload_n hx hb dX13_longs_215 rfl (lv_at hl 0 rfl) ?_
                refine lv_iload_n hx hb dX13_longs_216 rfl (lv_at hl 2 rfl) ?_
                refine lv_iload_n hx hb dX13_longs_217 rfl (lv_at hl 3 rfl) ?_
                refine lv_bipush (v := 7) hx hb dX13_longs_218 (by decide) ?_
                refine lv_ishl hx hb dX13_longs_220 ?_
                refine lv_ior hx hb dX13_longs_221 ?_
                refine lv_aload_n hx hb dX13_longs_222 rfl (lv_at hl 0 rfl) ?_
                obtain ⟨q66, s67, hq, h⟩ := nd_b2_e h
                have hPc := hP
                have hDc := hD
                have hKc := hK
                have hFc := nd_rs hD hS hA
                refine nd_cVi (As := []) (rest := [.int (x2 ||| ((x3 : Int32) <<< ((7 : Int32) &&& 31))), .ref (a 0)]) (q := q66) (w' := dw_X13 a ac s67) ⟨hx, hb, hml, hown, hts⟩ (fun sz => dm_X13_bracketed l hlt dC dI a ac n  s7 hq sz) (cwV 0 hts gi_dm_X13_longs_5 rfl rfl rfl (by decide +kernel) ⟨Nat.le_of_ble_eq_true rfl, Nat.le_of_ble_eq_true rfl⟩) hPc hDc hKc hS hA hN (va_recv hKc hPc (ci := 14) (q0 := 0) rfl rfl) rfl hl.1 rfl (Nat.le_of_ble_eq_true rfl) dX13_longs_223 (fun H locs hP1 hD1 hk1 hS => ?_)
                have hP := hP1
                have hD := hD1.weaken (fun k q _ h => hFc q.1 h)
                refine lv_bipush (v := 15) hx hb dX13_longs_226 (by decide) ?_
                refine lv_ishl hx hb dX13_longs_228 ?_
                refine lv_ior hx hb dX13_longs_229 ?_
                obtain ⟨s70, hq, h⟩ := nd_b1_e h
                have hPc := hP
                have hDc := hD
                have hKc := hK
                have hFc := nd_rs hD hS hA
                refine nd_cVv (As := [.int ((x2 ||| ((x3 : Int32) <<< ((7 : Int32) &&& 31))) ||| ((q66 : Int32) <<< ((15 : Int32) &&& 31)))]) (rest := []) (w' := dw_X13 a ac s70) ⟨hx, hb, hml, hown, hts⟩ (fun sz => dm_X13_word l hlt dC dI a ac n (((x2 ||| ((x3 : Int32) <<< ((7 : Int32) &&& 31))) ||| ((q66 : Int32) <<< ((15 : Int32) &&& 31)))) s67 hq sz) (cwV 1 hts gi_dm_X13_longs_3 rfl rfl rfl (by decide +kernel) ⟨Nat.le_of_ble_eq_true rfl, Nat.le_of_ble_eq_true rfl⟩) hPc hDc hKc hS hA hN (va_recv hKc hPc (ci := 14) (q0 := 0) rfl rfl) rfl hl.1 rfl (Nat.le_of_ble_eq_true rfl) dX13_longs_230 (fun H locs hP1 hD1 hk1 hS => ?_)
                have hP := hP1
                have hD := hD1.weaken (fun k q _ h => hFc q.1 h)
                refine lv_goto (tgt := 384) hx hb dX13_longs_233 (by decide) ?_
                exact (db_X13_longs_384 C K)  s70 _ _ _ h hP hD hS (lv_sub hl [] rfl)
            · have h := nd_pos h c30
              refine lv_aload_n hx hb dX13_longs_183 rfl (lv_at hl 0 rfl) ?_
              refine lv_iload_n hx hb dX13_longs_184 rfl (lv_at hl 2 rfl) ?_
              refine lv_iload_n hx hb dX13_longs_185 rfl (lv_at hl 3 rfl) ?_
              refine lv_bipush (v := 7) hx hb dX13_longs_186 (by decide) ?_
              refine lv_ishl hx hb dX13_longs_188 ?_
              refine lv_ior hx hb dX13_longs_189 ?_
              refine lv_aload_n hx hb dX13_longs_190 rfl (lv_at hl 0 rfl) ?_
              refine lv_iconst (v := 0) hx hb dX13_longs_191 (by decide) ?_
              refine lv_ldcw hx hb hown (hts (.constant RX13 591 (1048575)) (List.mem_of_getElem? (i := 20) rfl)) dX13_longs_192 ?_
              refine lv_iconst (v := 1) hx hb dX13_longs_195 (by decide) ?_
              obtain ⟨q72, s73, hq, h⟩ := nd_b2_e h
              have hPc := hP
              have hDc := hD
              have hKc := hK
              have hFc := nd_rs hD hS hA
              refine nd_cVi (As := [.int 0, .int 1048575, .int 1]) (rest := [.int (x2 ||| ((x3 : Int32) <<< ((7 : Int32) &&& 31))), .ref (a 0)]) (q := q72) (w' := dw_X13 a ac s73) ⟨hx, hb, hml, hown, hts⟩ (fun sz => dm_X13_within l hlt dC dI a ac n (0) (1048575) (1) s7 hq sz) (cwV 3 hts gi_dm_X13_longs_2 rfl rfl rfl (by decide +kernel) ⟨Nat.le_of_ble_eq_true rfl, Nat.le_of_ble_eq_true rfl⟩) hPc hDc hKc hS hA hN (va_recv hKc hPc (ci := 14) (q0 := 0) rfl rfl) rfl hl.1 rfl (Nat.le_of_ble_eq_true rfl) dX13_longs_196 (fun H locs hP1 hD1 hk1 hS => ?_)
              have hP := hP1
              have hD := hD1.weaken (fun k q _ h => hFc q.1 h)
              refine lv_bipush (v := 12) hx hb dX13_longs_199 (by decide) ?_
              refine lv_ishl hx hb dX13_longs_201 ?_
              refine lv_ior hx hb dX13_longs_202 ?_
              obtain ⟨s76, hq, h⟩ := nd_b1_e h
              have hPc := hP
              have hDc := hD
              have hKc := hK
              have hFc := nd_rs hD hS hA
              refine nd_cVv (As := [.int ((x2 ||| ((x3 : Int32) <<< ((7 : Int32) &&& 31))) ||| ((q72 : Int32) <<< ((12 : Int32) &&& 31)))]) (rest := []) (w' := dw_X13 a ac s76) ⟨hx, hb, hml, hown, hts⟩ (fun sz => dm_X13_word l hlt dC dI a ac n (((x2 ||| ((x3 : Int32) <<< ((7 : Int32) &&& 31))) ||| ((q72 : Int32) <<< ((12 : Int32) &&& 31)))) s73 hq sz) (cwV 1 hts gi_dm_X13_longs_3 rfl rfl rfl (by decide +kernel) ⟨Nat.le_of_ble_eq_true rfl, Nat.le_of_ble_eq_true rfl⟩) hPc hDc hKc hS hA hN (va_recv hKc hPc (ci := 14) (q0 := 0) rfl rfl) rfl hl.1 rfl (Nat.le_of_ble_eq_true rfl) dX13_longs_203 (fun H locs hP1 hD1 hk1 hS => ?_)
              have hP := hP1
              have hD := hD1.weaken (fun k q _ h => hFc q.1 h)
              refine lv_goto (tgt := 384) hx hb dX13_longs_206 (by decide) ?_
              exact (db_X13_longs_384 C K)  s76 _ _ _ h hP hD hS (lv_sub hl [] rfl)
          · have h := nd_pos h c29
            exact (db_X13_longs_81 C K) (x1) (x2) (x3) s7 _ _ _ h hP hD hS (lv_sub hl [0, 1, 2, 3] rfl)
    · have h := nd_pos h c9
      exact K _ _ _ _ _ dX13_longs_64 (Option.some.inj h).symm hP hD hS
  · have h := nd_pos h c5
    refine lv_aload_n hx hb dX13_longs_46 rfl (lv_at hl 0 rfl) ?_
    refine lv_iload_n hx hb dX13_longs_47 rfl (lv_at hl 2 rfl) ?_
    refine lv_iload_n hx hb dX13_longs_48 rfl (lv_at hl 3 rfl) ?_
    refine lv_bipush (v := 7) hx hb dX13_longs_49 (by decide) ?_
    refine lv_ishl hx hb dX13_longs_51 ?_
    refine lv_ior hx hb dX13_longs_52 ?_
    obtain ⟨s79, hq, h⟩ := nd_b1_e h
    have hPc := hP
    have hDc := hD
    have hKc := hK
    have hFc := nd_rs hD hS hA
    refine nd_cVv (As := [.int (x2 ||| ((x3 : Int32) <<< ((7 : Int32) &&& 31)))]) (rest := []) (w' := dw_X13 a ac s79) ⟨hx, hb, hml, hown, hts⟩ (fun sz => dm_X13_word l hlt dC dI a ac n ((x2 ||| ((x3 : Int32) <<< ((7 : Int32) &&& 31)))) s0 hq sz) (cwV 1 hts gi_dm_X13_longs_3 rfl rfl rfl (by decide +kernel) ⟨Nat.le_of_ble_eq_true rfl, Nat.le_of_ble_eq_true rfl⟩) hPc hDc hKc hS hA hN (va_recv hKc hPc (ci := 14) (q0 := 0) rfl rfl) rfl hl.1 rfl (Nat.le_of_ble_eq_true rfl) dX13_longs_53 (fun H locs hP1 hD1 hk1 hS => ?_)
    have hP := hP1
    have hD := hD1.weaken (fun k q _ h => hFc q.1 h)
    exact K _ _ _ _ _ dX13_longs_56 (Option.some.inj h).symm hP hD hS
set_option maxHeartbeats 40000000 in
set_option maxRecDepth 100000 in
theorem db_X13_longs_0 {p : Program} {l : Launch} {e : Env} {s : State} {m : MethodId} {args : Array Value} {below : List Frame} {meth : Method} {c : Code} {Q : State → Prop} {A : Nat → Prop} {dC : Nat → ClassId} {dI : Nat → Nat → Nat} {a : Nat → Nat} {ac : Nat → ClassId} {n : Nat} {r : St} (C : nd_C p l s m args c A (dC, dI) cX13_longs 6 RX13 ow_dm_X13_longs (dk_X13 ac)) (K : nd_Kv p l e (headSpec ow_dm_X13_longs ({ frames := 9, cells := 0, slots := 0, locals := 206 })).room s m args below meth c Q A (dC, dI) cX13_longs (St) (dw_X13 a ac) r) : dj_X13_longs_0 p l e s m args below meth c Q A dC dI a ac (df_X13_longs_0 n) r := by
  obtain ⟨hlt, hx, hb, hml, hown, hts, hN, hA, hK⟩ := id C
  intro v0 v1 s0 H locs ls h hP hD hS hl
  unfold df_X13_longs_0 at h
  refine lv_aload_n hx hb dX13_longs_0 rfl (lv_at hl 0 rfl) ?_
  obtain ⟨q1, s2, hq, h⟩ := nd_b2_e h
  have hPc := hP
  have hDc := hD
  have hKc := hK
  have hFc := nd_rs hD hS hA
  refine nd_cVi (As := []) (rest := []) (q := q1) (w' := dw_X13 a ac s2) ⟨hx, hb, hml, hown, hts⟩ (fun sz => dm_X13_taken l hlt dC dI a ac n  s0 hq sz) (cwV 0 hts gi_dm_X13_longs_0 rfl rfl rfl (by decide +kernel) ⟨Nat.le_of_ble_eq_true rfl, Nat.le_of_ble_eq_true rfl⟩) hPc hDc hKc hS hA hN (va_recv hKc hPc (ci := 14) (q0 := 0) rfl rfl) rfl hl.1 rfl (Nat.le_of_ble_eq_true rfl) dX13_longs_1 (fun H locs hP1 hD1 hk1 hS => ?_)
  have hP := hP1
  have hD := hD1.weaken (fun k q _ h => hFc q.1 h)
  refine lv_istore_n (lv' := [(3, .int q1), (0, .ref (a 0)), (1, .int v0), (2, .int v1)]) hx hb dX13_longs_4 rfl hl (by decide) rfl (fun ls hl => ?_)
  refine lv_iload_n hx hb dX13_longs_5 rfl (lv_at hl 2 rfl) ?_
  refine lv_bipush (v := 30) hx hb dX13_longs_6 (by decide) ?_
  refine lv_icmp_ne (tgt := 40) hx hb dX13_longs_8 (by decide) (fun c4 => ?_) (fun c4 => ?_)
  · have h := nd_neg h c4
    exact (db_X13_longs_40 C K) (v0) (v1) (q1) s2 _ _ _ h hP hD hS (lv_sub hl [1, 2, 3, 0] rfl)
  · have h := nd_pos h c4
    refine lv_aload_n hx hb dX13_longs_11 rfl (lv_at hl 1 rfl) ?_
    refine va_get (D := (dC, dI)) (ci := 14) (v := .int (sI s2 12)) (C := RX13) (T := TX13) (N := 37) hx hb hts hi_dm_X13_longs_X13 hown hK hP 0 rfl rfl 21 (by decide) (hts (.fieldLink RX13 410 "TimeMachineModel$Assembler" "fault" "I") (List.mem_of_getElem? (i := 11) rfl)) (fun _ h9 => h9) rfl dX13_longs_12 ?_
    refine lv_if_ne (tgt := 40) hx hb dX13_longs_15 (by decide) (fun c81 => ?_) (fun c81 => ?_)
    · have h := nd_neg h c81
      exact (db_X13_longs_40 C K) (v0) (v1) (q1) s2 _ _ _ h hP hD hS (lv_sub hl [1, 2, 3, 0] rfl)
    · have h := nd_pos h c81
      refine lv_aload_n hx hb dX13_longs_18 rfl (lv_at hl 1 rfl) ?_
      obtain ⟨q82, s83, hq, h⟩ := nd_b2_e h
      have hPc := hP
      have hDc := hD
      have hKc := hK
      have hFc := nd_rs hD hS hA
      refine nd_cVi (As := []) (rest := []) (q := q82) (w' := dw_X13 a ac s83) ⟨hx, hb, hml, hown, hts⟩ (fun sz => dm_X13_isEnd l hlt dC dI a ac n  s2 hq sz) (cwV 0 hts gi_dm_X13_longs_6 rfl rfl rfl (by decide +kernel) ⟨Nat.le_of_ble_eq_true rfl, Nat.le_of_ble_eq_true rfl⟩) hPc hDc hKc hS hA hN (va_recv hKc hPc (ci := 14) (q0 := 0) rfl rfl) rfl hl.1 rfl (Nat.le_of_ble_eq_true rfl) dX13_longs_19 (fun H locs hP1 hD1 hk1 hS => ?_)
      have hP := hP1
      have hD := hD1.weaken (fun k q _ h => hFc q.1 h)
      refine lv_if_eq (tgt := 40) hx hb dX13_longs_22 (by decide) (fun c85 => ?_) (fun c85 => ?_)
      · have h := nd_pos h c85
        exact (db_X13_longs_40 C K) (v0) (v1) (q1) s83 _ _ _ h hP hD hS (lv_sub hl [1, 2, 3, 0] rfl)
      · have h := nd_neg h c85
        refine lv_aload_n hx hb dX13_longs_25 rfl (lv_at hl 1 rfl) ?_
        refine lv_iload_n hx hb dX13_longs_26 rfl (lv_at hl 3 rfl) ?_
        refine lv_sipush (v := 128) hx hb dX13_longs_27 (by decide) ?_
        refine lv_ior hx hb dX13_longs_30 ?_
        refine lv_iload_n hx hb dX13_longs_31 rfl (lv_at hl 0 rfl) ?_
        refine lv_bipush (v := 15) hx hb dX13_longs_32 (by decide) ?_
        refine lv_ishl hx hb dX13_longs_34 ?_
        refine lv_ior hx hb dX13_longs_35 ?_
        obtain ⟨s87, hq, h⟩ := nd_b1_e h
        have hPc := hP
        have hDc := hD
        have hKc := hK
        have hFc := nd_rs hD hS hA
        refine nd_cVv (As := [.int ((v1 ||| 128) ||| ((q1 : Int32) <<< ((15 : Int32) &&& 31)))]) (rest := []) (w' := dw_X13 a ac s87) ⟨hx, hb, hml, hown, hts⟩ (fun sz => dm_X13_word l hlt dC dI a ac n (((v1 ||| 128) ||| ((q1 : Int32) <<< ((15 : Int32) &&& 31)))) s83 hq sz) (cwV 1 hts gi_dm_X13_longs_3 rfl rfl rfl (by decide +kernel) ⟨Nat.le_of_ble_eq_true rfl, Nat.le_of_ble_eq_true rfl⟩) hPc hDc hKc hS hA hN (va_recv hKc hPc (ci := 14) (q0 := 0) rfl rfl) rfl hl.1 rfl (Nat.le_of_ble_eq_true rfl) dX13_longs_36 (fun H locs hP1 hD1 hk1 hS => ?_)
        have hP := hP1
        have hD := hD1.weaken (fun k q _ h => hFc q.1 h)
        exact K _ _ _ _ _ dX13_longs_39 (Option.some.inj h).symm hP hD hS
set_option maxHeartbeats 40000000 in
set_option maxRecDepth 100000 in
theorem dm_X13_longs (l : Launch) (hlt : l.stackTraces = false) (dC : Nat → ClassId) (dI : Nat → Nat → Nat) (a : Nat → Nat) (ac : Nat → ClassId) (n : Nat) (v0 : Int32) (v1 : Int32) (s0 : St) {r : St} (h : df_X13_longs n v0 v1 s0 = some r) (sz : Nat) : Met l yX13_longs ow_dm_X13_longs ({ frames := 9, cells := 0, slots := 0, locals := 206 }) (va_Pc [.ref (a 0), .int v0, .int v1] (fun U => U.heap.size = sz ∧ va_P (dC, dI) vwCl (dw_X13 a ac s0) U.heap ∧ va_K (dC, dI) vwCl (dk_X13 ac) U ∧ va_D (fun _ => True) (dw_X13 a ac s0) ∧ nv_E dI (va_A (dw_X13 a ac s0) sz) U)) (va_Qv (fun _ => True) (fun (_ : Unit) t => va_P (dC, dI) vwCl (dw_X13 a ac r) t.heap ∧ va_K (dC, dI) vwCl (dk_X13 ac) t ∧ va_D (va_A (dw_X13 a ac s0) sz) (dw_X13 a ac r)) (va_A (dw_X13 a ac s0) sz)) 0 0 (va_A (dw_X13 a ac s0) sz) := by
  refine Met.ofW (cc := cX13_longs) (maxL := 6) (ret := none) (by decide) rfl ?_
  intro p e s m args below meth c s₁ B hml hv
  obtain ⟨rfl, hsz, hP, hK, hD0, hN⟩ := hv
  have hx := B.exec
  have hb := B.bytes
  have hr := B.returns
  have hts := atoms_spec (ws := ow_dm_X13_longs) B.pre
  have hown : s.vm.findClass RX13 = some m.cls := findClass_of_methodNamed B.named
  have hlocks := B.notSynchronized
  subst hsz
  have hD := hD0.self (sz := s.heap.size)
  generalize hAe : va_A (dw_X13 a ac s0) s.heap.size = A at hD hN ⊢
  have hA : ∀ q : Nat, s.heap.size ≤ q → A q := fun q h => by rw [← hAe]; exact Or.inr h
  have hl := lv_entry ([.ref (a 0), .int v0, .int v1]) (n := 6) (Nat.le_of_ble_eq_true rfl)
  rw [lg_entry_eq]
  generalize (lg_sl ([.ref (a 0), .int v0, .int v1]) ++ List.replicate (6 - (lg_sl ([.ref (a 0), .int v0, .int v1])).length) Slot.unset).toArray = ls at hl ⊢
  have hl : lv_has ls 6 [(0, .ref (a 0)), (1, .int v0), (2, .int v1)] := hl
  exact db_X13_longs_0 (dC := dC) (dI := dI) (a := a) (ac := ac) (n := n) (r := r) ⟨hlt, hx, hb, hml, hown, hts, hN, hA, hK⟩ (fun pc τ H locs ls d er hP hD hS => by subst er; exact W.vret hx hb hr (fun t ht hW => ⟨⟨(), rfl, trivial, by rw [ht]; exact hP, va_K.moved hW.alike hK, hD⟩, hS.F ht⟩) hS.2.2 d) v0 v1 s0 _ _ _ h hP hD va_S.rf (lv_sub hl [0, 1, 2] rfl)
def ow_dm_X13_branches : List Cond := Cond.code yX13_branches cX13_branches 6 none :: ([Cond.methodLink RX13 532 yX13_taken, Cond.instanceMethod yX13_taken, Cond.selects RX13 yX13_taken yX13_taken, Cond.initialized RX13, Cond.methodLink RX13 592 yX13_behind, Cond.instanceMethod yX13_behind, Cond.selects RX13 yX13_behind yX13_behind, Cond.methodLink RX13 582 yX13_comma, Cond.instanceMethod yX13_comma, Cond.selects RX13 yX13_comma yX13_comma, Cond.methodLink RX13 595 yX13_branch, Cond.instanceMethod yX13_branch, Cond.selects RX13 yX13_branch yX13_branch] ++ (ow_dm_X13_taken ++ (ow_dm_X13_behind ++ (ow_dm_X13_comma ++ (ow_dm_X13_branch ++ [])))))
theorem gd_dm_X13_branches : ∀ w ∈ ow_dm_X13_branches, (w.onTables && w.keeps) = true ∨ ∃ ty, w = Cond.arrayClass ty := List.forall_mem_cons.mpr ⟨good_of_word rfl, List.forall_mem_append.mpr ⟨fun w h => good_of_word (List.all_eq_true.mp (by decide +kernel) w h), List.forall_mem_append.mpr ⟨gd_dm_X13_taken, List.forall_mem_append.mpr ⟨gd_dm_X13_behind, List.forall_mem_append.mpr ⟨gd_dm_X13_comma, List.forall_mem_append.mpr ⟨gd_dm_X13_branch, fun _ h => nomatch h⟩⟩⟩⟩⟩⟩
theorem gi_dm_X13_branches_0 : GoodIn ow_dm_X13_branches (wsV RX13 532 RX13 yX13_taken ow_dm_X13_taken) := goodIn_app (goodIn_of _ (by decide +kernel)) (fun w h => ⟨List.mem_cons_of_mem _ (List.mem_append_right _ (List.mem_append_left _ h)), gd_dm_X13_taken w h⟩)
theorem gi_dm_X13_branches_1 : GoodIn ow_dm_X13_branches (wsV RX13 592 RX13 yX13_behind ow_dm_X13_behind) := goodIn_app (goodIn_of _ (by decide +kernel)) (fun w h => ⟨List.mem_cons_of_mem _ (List.mem_append_right _ (List.mem_append_right _ (List.mem_append_left _ h))), gd_dm_X13_behind w h⟩)
theorem gi_dm_X13_branches_2 : GoodIn ow_dm_X13_branches (wsV RX13 582 RX13 yX13_comma ow_dm_X13_comma) := goodIn_app (goodIn_of _ (by decide +kernel)) (fun w h => ⟨List.mem_cons_of_mem _ (List.mem_append_right _ (List.mem_append_right _ (List.mem_append_right _ (List.mem_append_left _ h)))), gd_dm_X13_comma w h⟩)
theorem gi_dm_X13_branches_3 : GoodIn ow_dm_X13_branches (wsV RX13 595 RX13 yX13_branch ow_dm_X13_branch) := goodIn_app (goodIn_of _ (by decide +kernel)) (fun w h => ⟨List.mem_cons_of_mem _ (List.mem_append_right _ (List.mem_append_right _ (List.mem_append_right _ (List.mem_append_right _ (List.mem_append_left _ h))))), gd_dm_X13_branch w h⟩)
def dj_X13_branches_105 (p : Program) (l : Launch) (e : Env) (s : State) (m : MethodId) (args : Array Value) (below : List Frame) (meth : Method) (c : Code) (Q : State → Prop) (A : Nat → Prop) (dC : Nat → ClassId) (dI : Nat → Nat → Nat) (a : Nat → Nat) (ac : Nat → ClassId) (g : (St) → Option (St)) (r : St) : Prop := ∀ (s0 : St) (H : Heap) (locs : List Loc) (ls : Array Slot), g s0 = some r → va_P (dC, dI) vwCl (dw_X13 a ac s0) H → va_D A (dw_X13 a ac s0) → va_S A s.heap H locs → lv_has ls 6 [] → W p l e (headSpec ow_dm_X13_branches ({ frames := 10, cells := 0, slots := 0, locals := 235 })).room s m args below meth c H locs 0 0 Q (F0 m 105 ls [])
def dj_X13_branches_83 (p : Program) (l : Launch) (e : Env) (s : State) (m : MethodId) (args : Array Value) (below : List Frame) (meth : Method) (c : Code) (Q : State → Prop) (A : Nat → Prop) (dC : Nat → ClassId) (dI : Nat → Nat → Nat) (a : Nat → Nat) (ac : Nat → ClassId) (g : Int32 → Int32 → Int32 → Int32 → (St) → Option (St)) (r : St) : Prop := ∀ (x2 : Int32) (x3 : Int32) (x4 : Int32) (x5 : Int32) (s0 : St) (H : Heap) (locs : List Loc) (ls : Array Slot), g x2 x3 x4 x5 s0 = some r → va_P (dC, dI) vwCl (dw_X13 a ac s0) H → va_D A (dw_X13 a ac s0) → va_S A s.heap H locs → lv_has ls 6 [(0, .ref (a 0)), (2, .int x2), (3, .int x3), (4, .int x4), (5, .int x5)] → W p l e (headSpec ow_dm_X13_branches ({ frames := 10, cells := 0, slots := 0, locals := 235 })).room s m args below meth c H locs 0 0 Q (F0 m 83 ls [])
def dj_X13_branches_69 (p : Program) (l : Launch) (e : Env) (s : State) (m : MethodId) (args : Array Value) (below : List Frame) (meth : Method) (c : Code) (Q : State → Prop) (A : Nat → Prop) (dC : Nat → ClassId) (dI : Nat → Nat → Nat) (a : Nat → Nat) (ac : Nat → ClassId) (g : Int32 → Int32 → Int32 → Int32 → Int32 → (St) → Option (St)) (r : St) : Prop := ∀ (x1 : Int32) (x2 : Int32) (x3 : Int32) (x4 : Int32) (y0 : Int32) (s0 : St) (H : Heap) (locs : List Loc) (ls : Array Slot), g x1 x2 x3 x4 y0 s0 = some r → va_P (dC, dI) vwCl (dw_X13 a ac s0) H → va_D A (dw_X13 a ac s0) → va_S A s.heap H locs → lv_has ls 6 [(0, .ref (a 0)), (1, .int x1), (2, .int x2), (3, .int x3), (4, .int x4)] → W p l e (headSpec ow_dm_X13_branches ({ frames := 10, cells := 0, slots := 0, locals := 235 })).room s m args below meth c H locs 0 0 Q (F0 m 69 ls [.int y0])
def dj_X13_branches_68 (p : Program) (l : Launch) (e : Env) (s : State) (m : MethodId) (args : Array Value) (below : List Frame) (meth : Method) (c : Code) (Q : State → Prop) (A : Nat → Prop) (dC : Nat → ClassId) (dI : Nat → Nat → Nat) (a : Nat → Nat) (ac : Nat → ClassId) (g : Int32 → Int32 → Int32 → Int32 → (St) → Option (St)) (r : St) : Prop := ∀ (x1 : Int32) (x2 : Int32) (x3 : Int32) (x4 : Int32) (s0 : St) (H : Heap) (locs : List Loc) (ls : Array Slot), g x1 x2 x3 x4 s0 = some r → va_P (dC, dI) vwCl (dw_X13 a ac s0) H → va_D A (dw_X13 a ac s0) → va_S A s.heap H locs → lv_has ls 6 [(0, .ref (a 0)), (1, .int x1), (2, .int x2), (3, .int x3), (4, .int x4)] → W p l e (headSpec ow_dm_X13_branches ({ frames := 10, cells := 0, slots := 0, locals := 235 })).room s m args below meth c H locs 0 0 Q (F0 m 68 ls [])
def dj_X13_branches_25 (p : Program) (l : Launch) (e : Env) (s : State) (m : MethodId) (args : Array Value) (below : List Frame) (meth : Method) (c : Code) (Q : State → Prop) (A : Nat → Prop) (dC : Nat → ClassId) (dI : Nat → Nat → Nat) (a : Nat → Nat) (ac : Nat → ClassId) (g : Int32 → Int32 → Int32 → Int32 → (St) → Option (St)) (r : St) : Prop := ∀ (x1 : Int32) (x2 : Int32) (x3 : Int32) (y0 : Int32) (s0 : St) (H : Heap) (locs : List Loc) (ls : Array Slot), g x1 x2 x3 y0 s0 = some r → va_P (dC, dI) vwCl (dw_X13 a ac s0) H → va_D A (dw_X13 a ac s0) → va_S A s.heap H locs → lv_has ls 6 [(0, .ref (a 0)), (1, .int x1), (2, .int x2), (3, .int x3)] → W p l e (headSpec ow_dm_X13_branches ({ frames := 10, cells := 0, slots := 0, locals := 235 })).room s m args below meth c H locs 0 0 Q (F0 m 25 ls [.int y0])
def dj_X13_branches_17 (p : Program) (l : Launch) (e : Env) (s : State) (m : MethodId) (args : Array Value) (below : List Frame) (meth : Method) (c : Code) (Q : State → Prop) (A : Nat → Prop) (dC : Nat → ClassId) (dI : Nat → Nat → Nat) (a : Nat → Nat) (ac : Nat → ClassId) (g : Int32 → Int32 → Int32 → (St) → Option (St)) (r : St) : Prop := ∀ (x1 : Int32) (x2 : Int32) (x3 : Int32) (s0 : St) (H : Heap) (locs : List Loc) (ls : Array Slot), g x1 x2 x3 s0 = some r → va_P (dC, dI) vwCl (dw_X13 a ac s0) H → va_D A (dw_X13 a ac s0) → va_S A s.heap H locs → lv_has ls 6 [(0, .ref (a 0)), (1, .int x1), (2, .int x2), (3, .int x3)] → W p l e (headSpec ow_dm_X13_branches ({ frames := 10, cells := 0, slots := 0, locals := 235 })).room s m args below meth c H locs 0 0 Q (F0 m 17 ls [])
def dj_X13_branches_0 (p : Program) (l : Launch) (e : Env) (s : State) (m : MethodId) (args : Array Value) (below : List Frame) (meth : Method) (c : Code) (Q : State → Prop) (A : Nat → Prop) (dC : Nat → ClassId) (dI : Nat → Nat → Nat) (a : Nat → Nat) (ac : Nat → ClassId) (g : Int32 → Int32 → (St) → Option (St)) (r : St) : Prop := ∀ (v0 : Int32) (v1 : Int32) (s0 : St) (H : Heap) (locs : List Loc) (ls : Array Slot), g v0 v1 s0 = some r → va_P (dC, dI) vwCl (dw_X13 a ac s0) H → va_D A (dw_X13 a ac s0) → va_S A s.heap H locs → lv_has ls 6 [(0, .ref (a 0)), (1, .int v0), (2, .int v1)] → W p l e (headSpec ow_dm_X13_branches ({ frames := 10, cells := 0, slots := 0, locals := 235 })).room s m args below meth c H locs 0 0 Q (F0 m 0 ls [])
set_option maxHeartbeats 40000000 in
set_option maxRecDepth 100000 in
theorem db_X13_branches_105 {p : Program} {l : Launch} {e : Env} {s : State} {m : MethodId} {args : Array Value} {below : List Frame} {meth : Method} {c : Code} {Q : State → Prop} {A : Nat → Prop} {dC : Nat → ClassId} {dI : Nat → Nat → Nat} {a : Nat → Nat} {ac : Nat → ClassId} {n : Nat} {r : St} (C : nd_C p l s m args c A (dC, dI) cX13_branches 6 RX13 ow_dm_X13_branches (dk_X13 ac)) (K : nd_Kv p l e (headSpec ow_dm_X13_branches ({ frames := 10, cells := 0, slots := 0, locals := 235 })).room s m args below meth c Q A (dC, dI) cX13_branches (St) (dw_X13 a ac) r) : dj_X13_branches_105 p l e s m args below meth c Q A dC dI a ac (df_X13_branches_105 n) r := by
  obtain ⟨hlt, hx, hb, hml, hown, hts, hN, hA, hK⟩ := id C
  intro s0 H locs ls h hP hD hS hl
  unfold df_X13_branches_105 at h
  exact K _ _ _ _ _ dX13_branches_105 (Option.some.inj h).symm hP hD hS
set_option maxHeartbeats 40000000 in
set_option maxRecDepth 100000 in
theorem db_X13_branches_83 {p : Program} {l : Launch} {e : Env} {s : State} {m : MethodId} {args : Array Value} {below : List Frame} {meth : Method} {c : Code} {Q : State → Prop} {A : Nat → Prop} {dC : Nat → ClassId} {dI : Nat → Nat → Nat} {a : Nat → Nat} {ac : Nat → ClassId} {n : Nat} {r : St} (C : nd_C p l s m args c A (dC, dI) cX13_branches 6 RX13 ow_dm_X13_branches (dk_X13 ac)) (K : nd_Kv p l e (headSpec ow_dm_X13_branches ({ frames := 10, cells := 0, slots := 0, locals := 235 })).room s m args below meth c Q A (dC, dI) cX13_branches (St) (dw_X13 a ac) r) : dj_X13_branches_83 p l e s m args below meth c Q A dC dI a ac (df_X13_branches_83 n) r := by
  obtain ⟨hlt, hx, hb, hml, hown, hts, hN, hA, hK⟩ := id C
  intro x2 x3 x4 x5 s0 H locs ls h hP hD hS hl
  unfold df_X13_branches_83 at h
  refine lv_aload_n hx hb dX13_branches_83 rfl (lv_at hl 0 rfl) ?_
  refine lv_iload_n hx hb dX13_branches_84 rfl (lv_at hl 1 rfl) ?_
  refine lv_iload_n hx hb dX13_branches_85 rfl (lv_at hl 2 rfl) ?_
  refine lv_iload hx hb dX13_branches_86 (lv_at hl 3 rfl) ?_
  refine lv_iload hx hb dX13_branches_88 (lv_at hl 4 rfl) ?_
  obtain ⟨s15, hq, h⟩ := nd_b1_e h
  have hPc := hP
  have hDc := hD
  have hKc := hK
  have hFc := nd_rs hD hS hA
  refine nd_cVv (As := [.int x2, .int x3, .int x4, .int x5]) (rest := []) (w' := dw_X13 a ac s15) ⟨hx, hb, hml, hown, hts⟩ (fun sz => dm_X13_branch l hlt dC dI a ac n (x2) (x3) (x4) (x5) s0 hq sz) (cwV 4 hts gi_dm_X13_branches_3 rfl rfl rfl (by decide +kernel) ⟨Nat.le_of_ble_eq_true rfl, Nat.le_of_ble_eq_true rfl⟩) hPc hDc hKc hS hA hN (va_recv hKc hPc (ci := 14) (q0 := 0) rfl rfl) rfl hl.1 rfl (Nat.le_of_ble_eq_true rfl) dX13_branches_90 (fun H locs hP1 hD1 hk1 hS => ?_)
  have hP := hP1
  have hD := hD1.weaken (fun k q _ h => hFc q.1 h)
  refine lv_goto (tgt := 105) hx hb dX13_branches_93 (by decide) ?_
  exact (db_X13_branches_105 C K)  s15 _ _ _ h hP hD hS (lv_sub hl [] rfl)
set_option maxHeartbeats 40000000 in
set_option maxRecDepth 100000 in
theorem db_X13_branches_69 {p : Program} {l : Launch} {e : Env} {s : State} {m : MethodId} {args : Array Value} {below : List Frame} {meth : Method} {c : Code} {Q : State → Prop} {A : Nat → Prop} {dC : Nat → ClassId} {dI : Nat → Nat → Nat} {a : Nat → Nat} {ac : Nat → ClassId} {n : Nat} {r : St} (C : nd_C p l s m args c A (dC, dI) cX13_branches 6 RX13 ow_dm_X13_branches (dk_X13 ac)) (K : nd_Kv p l e (headSpec ow_dm_X13_branches ({ frames := 10, cells := 0, slots := 0, locals := 235 })).room s m args below meth c Q A (dC, dI) cX13_branches (St) (dw_X13 a ac) r) : dj_X13_branches_69 p l e s m args below meth c Q A dC dI a ac (df_X13_branches_69 n) r := by
  obtain ⟨hlt, hx, hb, hml, hown, hts, hN, hA, hK⟩ := id C
  intro x1 x2 x3 x4 y0 s0 H locs ls h hP hD hS hl
  unfold df_X13_branches_69 at h
  refine lv_istore (lv' := [(5, .int y0), (0, .ref (a 0)), (1, .int x1), (2, .int x2), (3, .int x3), (4, .int x4)]) hx hb dX13_branches_69 hl (by decide) rfl (fun ls hl => ?_)
  refine lv_iload_n hx hb dX13_branches_71 rfl (lv_at hl 2 rfl) ?_
  refine lv_bipush (v := 7) hx hb dX13_branches_72 (by decide) ?_
  refine lv_icmp_eq (tgt := 83) hx hb dX13_branches_74 (by decide) (fun c13 => ?_) (fun c13 => ?_)
  · have h := nd_pos h c13
    exact (db_X13_branches_83 C K) (x2) (x3) (x4) (y0) s0 _ _ _ h hP hD hS (lv_sub hl [1, 3, 4, 5, 0] rfl)
  · have h := nd_neg h c13
    refine lv_iload_n hx hb dX13_branches_77 rfl (lv_at hl 2 rfl) ?_
    refine lv_bipush (v := 35) hx hb dX13_branches_78 (by decide) ?_
    refine lv_icmp_ne (tgt := 96) hx hb dX13_branches_80 (by decide) (fun c17 => ?_) (fun c17 => ?_)
    · have h := nd_neg h c17
      refine lv_aload_n hx hb dX13_branches_96 rfl (lv_at hl 1 rfl) ?_
      refine lv_iload_n hx hb dX13_branches_97 rfl (lv_at hl 3 rfl) ?_
      refine lv_iload hx hb dX13_branches_98 (lv_at hl 5 rfl) ?_
      refine lv_iload_n hx hb dX13_branches_100 rfl (lv_at hl 4 rfl) ?_
      refine lv_iconst (v := 0) hx hb dX13_branches_101 (by decide) ?_
      obtain ⟨s19, hq, h⟩ := nd_b1_e h
      have hPc := hP
      have hDc := hD
      have hKc := hK
      have hFc := nd_rs hD hS hA
      refine nd_cVv (As := [.int x2, .int x4, .int x3, .int 0]) (rest := []) (w' := dw_X13 a ac s19) ⟨hx, hb, hml, hown, hts⟩ (fun sz => dm_X13_branch l hlt dC dI a ac n (x2) (x4) (x3) (0) s0 hq sz) (cwV 4 hts gi_dm_X13_branches_3 rfl rfl rfl (by decide +kernel) ⟨Nat.le_of_ble_eq_true rfl, Nat.le_of_ble_eq_true rfl⟩) hPc hDc hKc hS hA hN (va_recv hKc hPc (ci := 14) (q0 := 0) rfl rfl) rfl hl.1 rfl (Nat.le_of_ble_eq_true rfl) dX13_branches_102 (fun H locs hP1 hD1 hk1 hS => ?_)
      have hP := hP1
      have hD := hD1.weaken (fun k q _ h => hFc q.1 h)
      exact (db_X13_branches_105 C K)  s19 _ _ _ h hP hD hS (lv_sub hl [] rfl)
    · have h := nd_pos h c17
      exact (db_X13_branches_83 C K) (x2) (x3) (x4) (y0) s0 _ _ _ h hP hD hS (lv_sub hl [1, 3, 4, 5, 0] rfl)
set_option maxHeartbeats 40000000 in
set_option maxRecDepth 100000 in
theorem db_X13_branches_68 {p : Program} {l : Launch} {e : Env} {s : State} {m : MethodId} {args : Array Value} {below : List Frame} {meth : Method} {c : Code} {Q : State → Prop} {A : Nat → Prop} {dC : Nat → ClassId} {dI : Nat → Nat → Nat} {a : Nat → Nat} {ac : Nat → ClassId} {n : Nat} {r : St} (C : nd_C p l s m args c A (dC, dI) cX13_branches 6 RX13 ow_dm_X13_branches (dk_X13 ac)) (K : nd_Kv p l e (headSpec ow_dm_X13_branches ({ frames := 10, cells := 0, slots := 0, locals := 235 })).room s m args below meth c Q A (dC, dI) cX13_branches (St) (dw_X13 a ac) r) : dj_X13_branches_68 p l e s m args below meth c Q A dC dI a ac (df_X13_branches_68 n) r := by
  obtain ⟨hlt, hx, hb, hml, hown, hts, hN, hA, hK⟩ := id C
  intro x1 x2 x3 x4 s0 H locs ls h hP hD hS hl
  unfold df_X13_branches_68 at h
  refine lv_iconst (v := 0) hx hb dX13_branches_68 (by decide) ?_
  exact (db_X13_branches_69 C K) (x1) (x2) (x3) (x4) (0) s0 _ _ _ h hP hD hS (lv_sub hl [0, 1, 2, 3, 4] rfl)
set_option maxHeartbeats 40000000 in
set_option maxRecDepth 100000 in
theorem db_X13_branches_25 {p : Program} {l : Launch} {e : Env} {s : State} {m : MethodId} {args : Array Value} {below : List Frame} {meth : Method} {c : Code} {Q : State → Prop} {A : Nat → Prop} {dC : Nat → ClassId} {dI : Nat → Nat → Nat} {a : Nat → Nat} {ac : Nat → ClassId} {n : Nat} {r : St} (C : nd_C p l s m args c A (dC, dI) cX13_branches 6 RX13 ow_dm_X13_branches (dk_X13 ac)) (K : nd_Kv p l e (headSpec ow_dm_X13_branches ({ frames := 10, cells := 0, slots := 0, locals := 235 })).room s m args below meth c Q A (dC, dI) cX13_branches (St) (dw_X13 a ac) r) : dj_X13_branches_25 p l e s m args below meth c Q A dC dI a ac (df_X13_branches_25 n) r := by
  obtain ⟨hlt, hx, hb, hml, hown, hts, hN, hA, hK⟩ := id C
  intro x1 x2 x3 y0 s0 H locs ls h hP hD hS hl
  unfold df_X13_branches_25 at h
  refine lv_istore (lv' := [(4, .int y0), (0, .ref (a 0)), (1, .int x1), (2, .int x2), (3, .int x3)]) hx hb dX13_branches_25 hl (by decide) rfl (fun ls hl => ?_)
  refine lv_aload_n hx hb dX13_branches_27 rfl (lv_at hl 1 rfl) ?_
  obtain ⟨q8, s9, hq, h⟩ := nd_b2_e h
  have hPc := hP
  have hDc := hD
  have hKc := hK
  have hFc := nd_rs hD hS hA
  refine nd_cVi (As := []) (rest := []) (q := q8) (w' := dw_X13 a ac s9) ⟨hx, hb, hml, hown, hts⟩ (fun sz => dm_X13_comma l hlt dC dI a ac n  s0 hq sz) (cwV 0 hts gi_dm_X13_branches_2 rfl rfl rfl (by decide +kernel) ⟨Nat.le_of_ble_eq_true rfl, Nat.le_of_ble_eq_true rfl⟩) hPc hDc hKc hS hA hN (va_recv hKc hPc (ci := 14) (q0 := 0) rfl rfl) rfl hl.1 rfl (Nat.le_of_ble_eq_true rfl) dX13_branches_28 (fun H locs hP1 hD1 hk1 hS => ?_)
  have hP := hP1
  have hD := hD1.weaken (fun k q _ h => hFc q.1 h)
  refine lv_if_ne (tgt := 35) hx hb dX13_branches_31 (by decide) (fun c11 => ?_) (fun c11 => ?_)
  · have h := nd_neg h c11
    refine lv_iload_n hx hb dX13_branches_35 rfl (lv_at hl 2 rfl) ?_
    refine lv_bipush (v := 35) hx hb dX13_branches_36 (by decide) ?_
    refine lv_icmp_ne (tgt := 68) hx hb dX13_branches_38 (by decide) (fun c12 => ?_) (fun c12 => ?_)
    · have h := nd_neg h c12
      exact (db_X13_branches_68 C K) (x1) (x2) (x3) (y0) s9 _ _ _ h hP hD hS (lv_sub hl [1, 2, 3, 4, 0] rfl)
    · have h := nd_pos h c12
      refine lv_iload_n hx hb dX13_branches_41 rfl (lv_at hl 3 rfl) ?_
      refine lv_bipush (v := 12) hx hb dX13_branches_42 (by decide) ?_
      refine lv_ishr hx hb dX13_branches_44 ?_
      refine lv_bipush (v := 7) hx hb dX13_branches_45 (by decide) ?_
      refine lv_iand hx hb dX13_branches_47 ?_
      refine lv_iconst (v := 2) hx hb dX13_branches_48 (by decide) ?_
      refine lv_icmp_ge (tgt := 68) hx hb dX13_branches_49 (by decide) (fun c21 => ?_) (fun c21 => ?_)
      · have h := nd_pos h c21
        exact (db_X13_branches_68 C K) (x1) (x2) (x3) (y0) s9 _ _ _ h hP hD hS (lv_sub hl [1, 2, 3, 4, 0] rfl)
      · have h := nd_neg h c21
        refine lv_iload_n hx hb dX13_branches_52 rfl (lv_at hl 4 rfl) ?_
        refine lv_bipush (v := 7) hx hb dX13_branches_53 (by decide) ?_
        refine lv_icmp_le (tgt := 68) hx hb dX13_branches_55 (by decide) (fun c22 => ?_) (fun c22 => ?_)
        · have h := nd_pos h c22
          exact (db_X13_branches_68 C K) (x1) (x2) (x3) (y0) s9 _ _ _ h hP hD hS (lv_sub hl [1, 2, 3, 4, 0] rfl)
        · have h := nd_neg h c22
          refine lv_iload_n hx hb dX13_branches_58 rfl (lv_at hl 4 rfl) ?_
          refine lv_bipush (v := 16) hx hb dX13_branches_59 (by decide) ?_
          refine lv_icmp_ge (tgt := 68) hx hb dX13_branches_61 (by decide) (fun c23 => ?_) (fun c23 => ?_)
          · have h := nd_pos h c23
            exact (db_X13_branches_68 C K) (x1) (x2) (x3) (y0) s9 _ _ _ h hP hD hS (lv_sub hl [1, 2, 3, 4, 0] rfl)
          · have h := nd_neg h c23
            refine lv_iconst (v := 1) hx hb dX13_branches_64 (by decide) ?_
            refine lv_goto (tgt := 69) hx hb dX13_branches_65 (by decide) ?_
            exact (db_X13_branches_69 C K) (x1) (x2) (x3) (y0) (1) s9 _ _ _ h hP hD hS (lv_sub hl [1, 2, 3, 4, 0] rfl)
  · have h := nd_pos h c11
    exact K _ _ _ _ _ dX13_branches_34 (Option.some.inj h).symm hP hD hS
set_option maxHeartbeats 40000000 in
set_option maxRecDepth 100000 in
theorem db_X13_branches_17 {p : Program} {l : Launch} {e : Env} {s : State} {m : MethodId} {args : Array Value} {below : List Frame} {meth : Method} {c : Code} {Q : State → Prop} {A : Nat → Prop} {dC : Nat → ClassId} {dI : Nat → Nat → Nat} {a : Nat → Nat} {ac : Nat → ClassId} {n : Nat} {r : St} (C : nd_C p l s m args c A (dC, dI) cX13_branches 6 RX13 ow_dm_X13_branches (dk_X13 ac)) (K : nd_Kv p l e (headSpec ow_dm_X13_branches ({ frames := 10, cells := 0, slots := 0, locals := 235 })).room s m args below meth c Q A (dC, dI) cX13_branches (St) (dw_X13 a ac) r) : dj_X13_branches_17 p l e s m args below meth c Q A dC dI a ac (df_X13_branches_17 n) r := by
  obtain ⟨hlt, hx, hb, hml, hown, hts, hN, hA, hK⟩ := id C
  intro x1 x2 x3 s0 H locs ls h hP hD hS hl
  unfold df_X13_branches_17 at h
  refine lv_aload_n hx hb dX13_branches_17 rfl (lv_at hl 0 rfl) ?_
  obtain ⟨q5, s6, hq, h⟩ := nd_b2_e h
  have hPc := hP
  have hDc := hD
  have hKc := hK
  have hFc := nd_rs hD hS hA
  refine nd_cVi (As := []) (rest := []) (q := q5) (w' := dw_X13 a ac s6) ⟨hx, hb, hml, hown, hts⟩ (fun sz => dm_X13_behind l hlt dC dI a ac n  s0 hq sz) (cwV 0 hts gi_dm_X13_branches_1 rfl rfl rfl (by decide +kernel) ⟨Nat.le_of_ble_eq_true rfl, Nat.le_of_ble_eq_true rfl⟩) hPc hDc hKc hS hA hN (va_recv hKc hPc (ci := 14) (q0 := 0) rfl rfl) rfl hl.1 rfl (Nat.le_of_ble_eq_true rfl) dX13_branches_18 (fun H locs hP1 hD1 hk1 hS => ?_)
  have hP := hP1
  have hD := hD1.weaken (fun k q _ h => hFc q.1 h)
  refine lv_goto (tgt := 25) hx hb dX13_branches_21 (by decide) ?_
  exact (db_X13_branches_25 C K) (x1) (x2) (x3) (q5) s6 _ _ _ h hP hD hS (lv_sub hl [0, 1, 2, 3] rfl)
set_option maxHeartbeats 40000000 in
set_option maxRecDepth 100000 in
theorem db_X13_branches_0 {p : Program} {l : Launch} {e : Env} {s : State} {m : MethodId} {args : Array Value} {below : List Frame} {meth : Method} {c : Code} {Q : State → Prop} {A : Nat → Prop} {dC : Nat → ClassId} {dI : Nat → Nat → Nat} {a : Nat → Nat} {ac : Nat → ClassId} {n : Nat} {r : St} (C : nd_C p l s m args c A (dC, dI) cX13_branches 6 RX13 ow_dm_X13_branches (dk_X13 ac)) (K : nd_Kv p l e (headSpec ow_dm_X13_branches ({ frames := 10, cells := 0, slots := 0, locals := 235 })).room s m args below meth c Q A (dC, dI) cX13_branches (St) (dw_X13 a ac) r) : dj_X13_branches_0 p l e s m args below meth c Q A dC dI a ac (df_X13_branches_0 n) r := by
  obtain ⟨hlt, hx, hb, hml, hown, hts, hN, hA, hK⟩ := id C
  intro v0 v1 s0 H locs ls h hP hD hS hl
  unfold df_X13_branches_0 at h
  refine lv_aload_n hx hb dX13_branches_0 rfl (lv_at hl 0 rfl) ?_
  obtain ⟨q1, s2, hq, h⟩ := nd_b2_e h
  have hPc := hP
  have hDc := hD
  have hKc := hK
  have hFc := nd_rs hD hS hA
  refine nd_cVi (As := []) (rest := []) (q := q1) (w' := dw_X13 a ac s2) ⟨hx, hb, hml, hown, hts⟩ (fun sz => dm_X13_taken l hlt dC dI a ac n  s0 hq sz) (cwV 0 hts gi_dm_X13_branches_0 rfl rfl rfl (by decide +kernel) ⟨Nat.le_of_ble_eq_true rfl, Nat.le_of_ble_eq_true rfl⟩) hPc hDc hKc hS hA hN (va_recv hKc hPc (ci := 14) (q0 := 0) rfl rfl) rfl hl.1 rfl (Nat.le_of_ble_eq_true rfl) dX13_branches_1 (fun H locs hP1 hD1 hk1 hS => ?_)
  have hP := hP1
  have hD := hD1.weaken (fun k q _ h => hFc q.1 h)
  refine lv_istore_n (lv' := [(3, .int q1), (0, .ref (a 0)), (1, .int v0), (2, .int v1)]) hx hb dX13_branches_4 rfl hl (by decide) rfl (fun ls hl => ?_)
  refine lv_iload_n hx hb dX13_branches_5 rfl (lv_at hl 2 rfl) ?_
  refine lv_bipush (v := 7) hx hb dX13_branches_6 (by decide) ?_
  refine lv_icmp_eq (tgt := 17) hx hb dX13_branches_8 (by decide) (fun c4 => ?_) (fun c4 => ?_)
  · have h := nd_pos h c4
    exact (db_X13_branches_17 C K) (v0) (v1) (q1) s2 _ _ _ h hP hD hS (lv_sub hl [1, 2, 3, 0] rfl)
  · have h := nd_neg h c4
    refine lv_iload_n hx hb dX13_branches_11 rfl (lv_at hl 2 rfl) ?_
    refine lv_bipush (v := 37) hx hb dX13_branches_12 (by decide) ?_
    refine lv_icmp_ne (tgt := 24) hx hb dX13_branches_14 (by decide) (fun c24 => ?_) (fun c24 => ?_)
    · have h := nd_neg h c24
      refine lv_iconst (v := 0) hx hb dX13_branches_24 (by decide) ?_
      exact (db_X13_branches_25 C K) (v0) (v1) (q1) (0) s2 _ _ _ h hP hD hS (lv_sub hl [1, 2, 3, 0] rfl)
    · have h := nd_pos h c24
      exact (db_X13_branches_17 C K) (v0) (v1) (q1) s2 _ _ _ h hP hD hS (lv_sub hl [1, 2, 3, 0] rfl)
set_option maxHeartbeats 40000000 in
set_option maxRecDepth 100000 in
theorem dm_X13_branches (l : Launch) (hlt : l.stackTraces = false) (dC : Nat → ClassId) (dI : Nat → Nat → Nat) (a : Nat → Nat) (ac : Nat → ClassId) (n : Nat) (v0 : Int32) (v1 : Int32) (s0 : St) {r : St} (h : df_X13_branches n v0 v1 s0 = some r) (sz : Nat) : Met l yX13_branches ow_dm_X13_branches ({ frames := 10, cells := 0, slots := 0, locals := 235 }) (va_Pc [.ref (a 0), .int v0, .int v1] (fun U => U.heap.size = sz ∧ va_P (dC, dI) vwCl (dw_X13 a ac s0) U.heap ∧ va_K (dC, dI) vwCl (dk_X13 ac) U ∧ va_D (fun _ => True) (dw_X13 a ac s0) ∧ nv_E dI (va_A (dw_X13 a ac s0) sz) U)) (va_Qv (fun _ => True) (fun (_ : Unit) t => va_P (dC, dI) vwCl (dw_X13 a ac r) t.heap ∧ va_K (dC, dI) vwCl (dk_X13 ac) t ∧ va_D (va_A (dw_X13 a ac s0) sz) (dw_X13 a ac r)) (va_A (dw_X13 a ac s0) sz)) 0 0 (va_A (dw_X13 a ac s0) sz) := by
  refine Met.ofW (cc := cX13_branches) (maxL := 6) (ret := none) (by decide) rfl ?_
  intro p e s m args below meth c s₁ B hml hv
  obtain ⟨rfl, hsz, hP, hK, hD0, hN⟩ := hv
  have hx := B.exec
  have hb := B.bytes
  have hr := B.returns
  have hts := atoms_spec (ws := ow_dm_X13_branches) B.pre
  have hown : s.vm.findClass RX13 = some m.cls := findClass_of_methodNamed B.named
  have hlocks := B.notSynchronized
  subst hsz
  have hD := hD0.self (sz := s.heap.size)
  generalize hAe : va_A (dw_X13 a ac s0) s.heap.size = A at hD hN ⊢
  have hA : ∀ q : Nat, s.heap.size ≤ q → A q := fun q h => by rw [← hAe]; exact Or.inr h
  have hl := lv_entry ([.ref (a 0), .int v0, .int v1]) (n := 6) (Nat.le_of_ble_eq_true rfl)
  rw [lg_entry_eq]
  generalize (lg_sl ([.ref (a 0), .int v0, .int v1]) ++ List.replicate (6 - (lg_sl ([.ref (a 0), .int v0, .int v1])).length) Slot.unset).toArray = ls at hl ⊢
  have hl : lv_has ls 6 [(0, .ref (a 0)), (1, .int v0), (2, .int v1)] := hl
  exact db_X13_branches_0 (dC := dC) (dI := dI) (a := a) (ac := ac) (n := n) (r := r) ⟨hlt, hx, hb, hml, hown, hts, hN, hA, hK⟩ (fun pc τ H locs ls d er hP hD hS => by subst er; exact W.vret hx hb hr (fun t ht hW => ⟨⟨(), rfl, trivial, by rw [ht]; exact hP, va_K.moved hW.alike hK, hD⟩, hS.F ht⟩) hS.2.2 d) v0 v1 s0 _ _ _ h hP hD va_S.rf (lv_sub hl [0, 1, 2] rfl)
def ow_dm_X13_jumps : List Cond := Cond.code yX13_jumps cX13_jumps 7 none :: ([Cond.fieldLink RX13 374 "TimeMachineModel$Assembler" "at" "I", Cond.methodLink RX13 416 yX13_scan, Cond.instanceMethod yX13_scan, Cond.selects RX13 yX13_scan yX13_scan, Cond.initialized RX13, Cond.fieldLink RX13 365 "TimeMachineModel$Assembler" "token" "I", Cond.methodLink RX13 599 yX13_jump, Cond.instanceMethod yX13_jump, Cond.selects RX13 yX13_jump yX13_jump, Cond.methodLink RX13 532 yX13_taken, Cond.instanceMethod yX13_taken, Cond.selects RX13 yX13_taken yX13_taken, Cond.methodLink RX13 582 yX13_comma, Cond.instanceMethod yX13_comma, Cond.selects RX13 yX13_comma yX13_comma, Cond.methodLink RX13 525 yX13_expression, Cond.instanceMethod yX13_expression, Cond.selects RX13 yX13_expression yX13_expression, Cond.fieldLink RX13 486 "TimeMachineModel$Assembler" "address" "I", Cond.constant RX13 602 (-1048576), Cond.constant RX13 557 (1048574), Cond.methodLink RX13 528 yX13_fits, Cond.instanceMethod yX13_fits, Cond.selects RX13 yX13_fits yX13_fits, Cond.methodLink RX13 567 yX13_jumpBits, Cond.static yX13_jumpBits, Cond.methodLink RX13 570 yX13_word, Cond.instanceMethod yX13_word, Cond.selects RX13 yX13_word yX13_word, Cond.fieldLink RX13 368 "TimeMachineModel$Assembler" "from" "I", Cond.fieldLink RX13 371 "TimeMachineModel$Assembler" "to" "I", Cond.methodLink RX13 477 yX13_register, Cond.instanceMethod yX13_register, Cond.selects RX13 yX13_register yX13_register] ++ (u_ws RX13 TX13 37 ++ (ow_dm_X13_scan ++ (ow_dm_X13_jump ++ (ow_dm_X13_taken ++ (ow_dm_X13_comma ++ (ow_dm_X13_expression ++ (ow_dm_X13_fits ++ (ow_dm_X13_jumpBits ++ (ow_dm_X13_word ++ (ow_dm_X13_register ++ [])))))))))))
theorem gd_dm_X13_jumps : ∀ w ∈ ow_dm_X13_jumps, (w.onTables && w.keeps) = true ∨ ∃ ty, w = Cond.arrayClass ty := List.forall_mem_cons.mpr ⟨good_of_word rfl, List.forall_mem_append.mpr ⟨fun w h => good_of_word (List.all_eq_true.mp (by decide +kernel) w h), List.forall_mem_append.mpr ⟨gu_X13, List.forall_mem_append.mpr ⟨gd_dm_X13_scan, List.forall_mem_append.mpr ⟨gd_dm_X13_jump, List.forall_mem_append.mpr ⟨gd_dm_X13_taken, List.forall_mem_append.mpr ⟨gd_dm_X13_comma, List.forall_mem_append.mpr ⟨gd_dm_X13_expression, List.forall_mem_append.mpr ⟨gd_dm_X13_fits, List.forall_mem_append.mpr ⟨gd_dm_X13_jumpBits, List.forall_mem_append.mpr ⟨gd_dm_X13_word, List.forall_mem_append.mpr ⟨gd_dm_X13_register, fun _ h => nomatch h⟩⟩⟩⟩⟩⟩⟩⟩⟩⟩⟩⟩
theorem hi_dm_X13_jumps_X13 : ∀ w ∈ u_ws RX13 TX13 37, w ∈ ow_dm_X13_jumps := fun w h => List.mem_cons_of_mem _ (List.mem_append_right _ (List.mem_append_left _ h))
theorem gi_dm_X13_jumps_0 : GoodIn ow_dm_X13_jumps (wsV RX13 416 RX13 yX13_scan ow_dm_X13_scan) := goodIn_app (goodIn_of _ (by decide +kernel)) (fun w h => ⟨List.mem_cons_of_mem _ (List.mem_append_right _ (List.mem_append_right _ (List.mem_append_left _ h))), gd_dm_X13_scan w h⟩)
theorem gi_dm_X13_jumps_1 : GoodIn ow_dm_X13_jumps (wsV RX13 599 RX13 yX13_jump ow_dm_X13_jump) := goodIn_app (goodIn_of _ (by decide +kernel)) (fun w h => ⟨List.mem_cons_of_mem _ (List.mem_append_right _ (List.mem_append_right _ (List.mem_append_right _ (List.mem_append_left _ h)))), gd_dm_X13_jump w h⟩)
theorem gi_dm_X13_jumps_2 : GoodIn ow_dm_X13_jumps (wsV RX13 532 RX13 yX13_taken ow_dm_X13_taken) := goodIn_app (goodIn_of _ (by decide +kernel)) (fun w h => ⟨List.mem_cons_of_mem _ (List.mem_append_right _ (List.mem_append_right _ (List.mem_append_right _ (List.mem_append_right _ (List.mem_append_left _ h))))), gd_dm_X13_taken w h⟩)
theorem gi_dm_X13_jumps_3 : GoodIn ow_dm_X13_jumps (wsV RX13 582 RX13 yX13_comma ow_dm_X13_comma) := goodIn_app (goodIn_of _ (by decide +kernel)) (fun w h => ⟨List.mem_cons_of_mem _ (List.mem_append_right _ (List.mem_append_right _ (List.mem_append_right _ (List.mem_append_right _ (List.mem_append_right _ (List.mem_append_left _ h)))))), gd_dm_X13_comma w h⟩)
theorem gi_dm_X13_jumps_4 : GoodIn ow_dm_X13_jumps (wsV RX13 525 RX13 yX13_expression ow_dm_X13_expression) := goodIn_app (goodIn_of _ (by decide +kernel)) (fun w h => ⟨List.mem_cons_of_mem _ (List.mem_append_right _ (List.mem_append_right _ (List.mem_append_right _ (List.mem_append_right _ (List.mem_append_right _ (List.mem_append_right _ (List.mem_append_left _ h))))))), gd_dm_X13_expression w h⟩)
theorem gi_dm_X13_jumps_5 : GoodIn ow_dm_X13_jumps (wsV RX13 528 RX13 yX13_fits ow_dm_X13_fits) := goodIn_app (goodIn_of _ (by decide +kernel)) (fun w h => ⟨List.mem_cons_of_mem _ (List.mem_append_right _ (List.mem_append_right _ (List.mem_append_right _ (List.mem_append_right _ (List.mem_append_right _ (List.mem_append_right _ (List.mem_append_right _ (List.mem_append_left _ h)))))))), gd_dm_X13_fits w h⟩)
theorem gi_dm_X13_jumps_6 : GoodIn ow_dm_X13_jumps (wsS RX13 567 yX13_jumpBits ow_dm_X13_jumpBits) := goodIn_app (goodIn_of _ (by decide +kernel)) (fun w h => ⟨List.mem_cons_of_mem _ (List.mem_append_right _ (List.mem_append_right _ (List.mem_append_right _ (List.mem_append_right _ (List.mem_append_right _ (List.mem_append_right _ (List.mem_append_right _ (List.mem_append_right _ (List.mem_append_left _ h))))))))), gd_dm_X13_jumpBits w h⟩)
theorem gi_dm_X13_jumps_7 : GoodIn ow_dm_X13_jumps (wsV RX13 570 RX13 yX13_word ow_dm_X13_word) := goodIn_app (goodIn_of _ (by decide +kernel)) (fun w h => ⟨List.mem_cons_of_mem _ (List.mem_append_right _ (List.mem_append_right _ (List.mem_append_right _ (List.mem_append_right _ (List.mem_append_right _ (List.mem_append_right _ (List.mem_append_right _ (List.mem_append_right _ (List.mem_append_right _ (List.mem_append_left _ h)))))))))), gd_dm_X13_word w h⟩)
theorem gi_dm_X13_jumps_8 : GoodIn ow_dm_X13_jumps (wsV RX13 477 RX13 yX13_register ow_dm_X13_register) := goodIn_app (goodIn_of _ (by decide +kernel)) (fun w h => ⟨List.mem_cons_of_mem _ (List.mem_append_right _ (List.mem_append_right _ (List.mem_append_right _ (List.mem_append_right _ (List.mem_append_right _ (List.mem_append_right _ (List.mem_append_right _ (List.mem_append_right _ (List.mem_append_right _ (List.mem_append_right _ (List.mem_append_left _ h))))))))))), gd_dm_X13_register w h⟩)
def dj_X13_jumps_67 (p : Program) (l : Launch) (e : Env) (s : State) (m : MethodId) (args : Array Value) (below : List Frame) (meth : Method) (c : Code) (Q : State → Prop) (A : Nat → Prop) (dC : Nat → ClassId) (dI : Nat → Nat → Nat) (a : Nat → Nat) (ac : Nat → ClassId) (g : Int32 → (St) → Option (St)) (r : St) : Prop := ∀ (y1 : Int32) (s0 : St) (H : Heap) (locs : List Loc) (ls : Array Slot), g y1 s0 = some r → va_P (dC, dI) vwCl (dw_X13 a ac s0) H → va_D A (dw_X13 a ac s0) → va_S A s.heap H locs → lv_has ls 7 [] → W p l e (headSpec ow_dm_X13_jumps ({ frames := 10, cells := 0, slots := 0, locals := 230 })).room s m args below meth c H locs 0 0 Q (F0 m 67 ls [.int y1, .ref (a 0)])
def dj_X13_jumps_55 (p : Program) (l : Launch) (e : Env) (s : State) (m : MethodId) (args : Array Value) (below : List Frame) (meth : Method) (c : Code) (Q : State → Prop) (A : Nat → Prop) (dC : Nat → ClassId) (dI : Nat → Nat → Nat) (a : Nat → Nat) (ac : Nat → ClassId) (g : Int32 → Int32 → (St) → Option (St)) (r : St) : Prop := ∀ (x1 : Int32) (x2 : Int32) (s0 : St) (H : Heap) (locs : List Loc) (ls : Array Slot), g x1 x2 s0 = some r → va_P (dC, dI) vwCl (dw_X13 a ac s0) H → va_D A (dw_X13 a ac s0) → va_S A s.heap H locs → lv_has ls 7 [(0, .ref (a 0)), (1, .int x1), (2, .int x2)] → W p l e (headSpec ow_dm_X13_jumps ({ frames := 10, cells := 0, slots := 0, locals := 230 })).room s m args below meth c H locs 0 0 Q (F0 m 55 ls [])
def dj_X13_jumps_37 (p : Program) (l : Launch) (e : Env) (s : State) (m : MethodId) (args : Array Value) (below : List Frame) (meth : Method) (c : Code) (Q : State → Prop) (A : Nat → Prop) (dC : Nat → ClassId) (dI : Nat → Nat → Nat) (a : Nat → Nat) (ac : Nat → ClassId) (g : Int32 → Int32 → Int32 → Int32 → (St) → Option (St)) (r : St) : Prop := ∀ (x1 : Int32) (x2 : Int32) (x3 : Int32) (y0 : Int32) (s0 : St) (H : Heap) (locs : List Loc) (ls : Array Slot), g x1 x2 x3 y0 s0 = some r → va_P (dC, dI) vwCl (dw_X13 a ac s0) H → va_D A (dw_X13 a ac s0) → va_S A s.heap H locs → lv_has ls 7 [(0, .ref (a 0)), (1, .int x1), (2, .int x2), (3, .int x3)] → W p l e (headSpec ow_dm_X13_jumps ({ frames := 10, cells := 0, slots := 0, locals := 230 })).room s m args below meth c H locs 0 0 Q (F0 m 37 ls [.int y0])
def dj_X13_jumps_36 (p : Program) (l : Launch) (e : Env) (s : State) (m : MethodId) (args : Array Value) (below : List Frame) (meth : Method) (c : Code) (Q : State → Prop) (A : Nat → Prop) (dC : Nat → ClassId) (dI : Nat → Nat → Nat) (a : Nat → Nat) (ac : Nat → ClassId) (g : Int32 → Int32 → Int32 → (St) → Option (St)) (r : St) : Prop := ∀ (x1 : Int32) (x2 : Int32) (x3 : Int32) (s0 : St) (H : Heap) (locs : List Loc) (ls : Array Slot), g x1 x2 x3 s0 = some r → va_P (dC, dI) vwCl (dw_X13 a ac s0) H → va_D A (dw_X13 a ac s0) → va_S A s.heap H locs → lv_has ls 7 [(0, .ref (a 0)), (1, .int x1), (2, .int x2), (3, .int x3)] → W p l e (headSpec ow_dm_X13_jumps ({ frames := 10, cells := 0, slots := 0, locals := 230 })).room s m args below meth c H locs 0 0 Q (F0 m 36 ls [])
def dj_X13_jumps_0 (p : Program) (l : Launch) (e : Env) (s : State) (m : MethodId) (args : Array Value) (below : List Frame) (meth : Method) (c : Code) (Q : State → Prop) (A : Nat → Prop) (dC : Nat → ClassId) (dI : Nat → Nat → Nat) (a : Nat → Nat) (ac : Nat → ClassId) (g : Int32 → Int32 → (St) → Option (St)) (r : St) : Prop := ∀ (v0 : Int32) (v1 : Int32) (s0 : St) (H : Heap) (locs : List Loc) (ls : Array Slot), g v0 v1 s0 = some r → va_P (dC, dI) vwCl (dw_X13 a ac s0) H → va_D A (dw_X13 a ac s0) → va_S A s.heap H locs → lv_has ls 7 [(0, .ref (a 0)), (1, .int v0), (2, .int v1)] → W p l e (headSpec ow_dm_X13_jumps ({ frames := 10, cells := 0, slots := 0, locals := 230 })).room s m args below meth c H locs 0 0 Q (F0 m 0 ls [])
set_option maxHeartbeats 40000000 in
set_option maxRecDepth 100000 in
theorem db_X13_jumps_67 {p : Program} {l : Launch} {e : Env} {s : State} {m : MethodId} {args : Array Value} {below : List Frame} {meth : Method} {c : Code} {Q : State → Prop} {A : Nat → Prop} {dC : Nat → ClassId} {dI : Nat → Nat → Nat} {a : Nat → Nat} {ac : Nat → ClassId} {n : Nat} {r : St} (C : nd_C p l s m args c A (dC, dI) cX13_jumps 7 RX13 ow_dm_X13_jumps (dk_X13 ac)) (K : nd_Kv p l e (headSpec ow_dm_X13_jumps ({ frames := 10, cells := 0, slots := 0, locals := 230 })).room s m args below meth c Q A (dC, dI) cX13_jumps (St) (dw_X13 a ac) r) : dj_X13_jumps_67 p l e s m args below meth c Q A dC dI a ac (df_X13_jumps_67 n) r := by
  obtain ⟨hlt, hx, hb, hml, hown, hts, hN, hA, hK⟩ := id C
  intro y1 s0 H locs ls h hP hD hS hl
  unfold df_X13_jumps_67 at h
  obtain ⟨s10, hq, h⟩ := nd_b1_e h
  have hPc := hP
  have hDc := hD
  have hKc := hK
  have hFc := nd_rs hD hS hA
  refine nd_cVv (As := [.int y1]) (rest := []) (w' := dw_X13 a ac s10) ⟨hx, hb, hml, hown, hts⟩ (fun sz => dm_X13_jump l hlt dC dI a ac n (y1) s0 hq sz) (cwV 1 hts gi_dm_X13_jumps_1 rfl rfl rfl (by decide +kernel) ⟨Nat.le_of_ble_eq_true rfl, Nat.le_of_ble_eq_true rfl⟩) hPc hDc hKc hS hA hN (va_recv hKc hPc (ci := 14) (q0 := 0) rfl rfl) rfl hl.1 rfl (Nat.le_of_ble_eq_true rfl) dX13_jumps_67 (fun H locs hP1 hD1 hk1 hS => ?_)
  have hP := hP1
  have hD := hD1.weaken (fun k q _ h => hFc q.1 h)
  exact K _ _ _ _ _ dX13_jumps_70 (Option.some.inj h).symm hP hD hS
set_option maxHeartbeats 40000000 in
set_option maxRecDepth 100000 in
theorem db_X13_jumps_55 {p : Program} {l : Launch} {e : Env} {s : State} {m : MethodId} {args : Array Value} {below : List Frame} {meth : Method} {c : Code} {Q : State → Prop} {A : Nat → Prop} {dC : Nat → ClassId} {dI : Nat → Nat → Nat} {a : Nat → Nat} {ac : Nat → ClassId} {n : Nat} {r : St} (C : nd_C p l s m args c A (dC, dI) cX13_jumps 7 RX13 ow_dm_X13_jumps (dk_X13 ac)) (K : nd_Kv p l e (headSpec ow_dm_X13_jumps ({ frames := 10, cells := 0, slots := 0, locals := 230 })).room s m args below meth c Q A (dC, dI) cX13_jumps (St) (dw_X13 a ac) r) : dj_X13_jumps_55 p l e s m args below meth c Q A dC dI a ac (df_X13_jumps_55 n) r := by
  obtain ⟨hlt, hx, hb, hml, hown, hts, hN, hA, hK⟩ := id C
  intro x1 x2 s0 H locs ls h hP hD hS hl
  unfold df_X13_jumps_55 at h
  refine lv_aload_n hx hb dX13_jumps_55 rfl (lv_at hl 0 rfl) ?_
  refine lv_iload_n hx hb dX13_jumps_56 rfl (lv_at hl 1 rfl) ?_
  refine lv_bipush (v := 34) hx hb dX13_jumps_57 (by decide) ?_
  refine lv_icmp_ne (tgt := 66) hx hb dX13_jumps_59 (by decide) (fun c8 => ?_) (fun c8 => ?_)
  · have h := nd_neg h c8
    refine lv_iconst (v := 1) hx hb dX13_jumps_66 (by decide) ?_
    exact (db_X13_jumps_67 C K) (1) s0 _ _ _ h hP hD hS (lv_sub hl [] rfl)
  · have h := nd_pos h c8
    refine lv_iload_n hx hb dX13_jumps_62 rfl (lv_at hl 2 rfl) ?_
    refine lv_goto (tgt := 67) hx hb dX13_jumps_63 (by decide) ?_
    exact (db_X13_jumps_67 C K) (x2) s0 _ _ _ h hP hD hS (lv_sub hl [] rfl)
set_option maxHeartbeats 40000000 in
set_option maxRecDepth 100000 in
theorem db_X13_jumps_37 {p : Program} {l : Launch} {e : Env} {s : State} {m : MethodId} {args : Array Value} {below : List Frame} {meth : Method} {c : Code} {Q : State → Prop} {A : Nat → Prop} {dC : Nat → ClassId} {dI : Nat → Nat → Nat} {a : Nat → Nat} {ac : Nat → ClassId} {n : Nat} {r : St} (C : nd_C p l s m args c A (dC, dI) cX13_jumps 7 RX13 ow_dm_X13_jumps (dk_X13 ac)) (K : nd_Kv p l e (headSpec ow_dm_X13_jumps ({ frames := 10, cells := 0, slots := 0, locals := 230 })).room s m args below meth c Q A (dC, dI) cX13_jumps (St) (dw_X13 a ac) r) : dj_X13_jumps_37 p l e s m args below meth c Q A dC dI a ac (df_X13_jumps_37 n) r := by
  obtain ⟨hlt, hx, hb, hml, hown, hts, hN, hA, hK⟩ := id C
  intro x1 x2 x3 y0 s0 H locs ls h hP hD hS hl
  unfold df_X13_jumps_37 at h
  refine lv_istore (lv' := [(4, .int y0), (0, .ref (a 0)), (1, .int x1), (2, .int x2), (3, .int x3)]) hx hb dX13_jumps_37 hl (by decide) rfl (fun ls hl => ?_)
  refine lv_aload_n hx hb dX13_jumps_39 rfl (lv_at hl 1 rfl) ?_
  refine lv_iload_n hx hb dX13_jumps_40 rfl (lv_at hl 4 rfl) ?_
  refine va_put (D := (dC, dI)) (ci := 14) (v := .int x3) (ty := .int) (C := RX13) (T := TX13) (N := 37) hx hb hts hi_dm_X13_jumps_X13 tyX13 tyX13_ok nmX13 hown hK hP hD hS 0 rfl rfl 16 (by decide) (hts (.fieldLink RX13 374 "TimeMachineModel$Assembler" "at" "I") (List.mem_of_getElem? (i := 1) rfl)) (fun _ h9 => h9) rfl (by decide +kernel) rfl rfl (Nat.le_of_ble_eq_true rfl) dX13_jumps_41 (fun H locs hP hD hS => ?_)
  obtain ⟨s6, es6, h⟩ := nd_let_e h
  have hP : va_P (dC, dI) vwCl (dw_X13 a ac s6) H := by rw [es6]; exact hP
  have hD : va_D A (dw_X13 a ac s6) := by rw [es6]; exact hD
  refine lv_iload_n hx hb dX13_jumps_44 rfl (lv_at hl 2 rfl) ?_
  refine lv_bipush (v := 34) hx hb dX13_jumps_45 (by decide) ?_
  refine lv_icmp_eq (tgt := 55) hx hb dX13_jumps_47 (by decide) (fun c7 => ?_) (fun c7 => ?_)
  · have h := nd_pos h c7
    exact (db_X13_jumps_55 C K) (x1) (x2) s6 _ _ _ h hP hD hS (lv_sub hl [1, 2, 3] rfl)
  · have h := nd_neg h c7
    refine lv_iload hx hb dX13_jumps_50 (lv_at hl 0 rfl) ?_
    refine lv_if_ne (tgt := 71) hx hb dX13_jumps_52 (by decide) (fun c12 => ?_) (fun c12 => ?_)
    · have h := nd_neg h c12
      refine lv_aload_n hx hb dX13_jumps_71 rfl (lv_at hl 1 rfl) ?_
      obtain ⟨q13, s14, hq, h⟩ := nd_b2_e h
      have hPc := hP
      have hDc := hD
      have hKc := hK
      have hFc := nd_rs hD hS hA
      refine nd_cVi (As := []) (rest := []) (q := q13) (w' := dw_X13 a ac s14) ⟨hx, hb, hml, hown, hts⟩ (fun sz => dm_X13_taken l hlt dC dI a ac n  s6 hq sz) (cwV 0 hts gi_dm_X13_jumps_2 rfl rfl rfl (by decide +kernel) ⟨Nat.le_of_ble_eq_true rfl, Nat.le_of_ble_eq_true rfl⟩) hPc hDc hKc hS hA hN (va_recv hKc hPc (ci := 14) (q0 := 0) rfl rfl) rfl hl.1 rfl (Nat.le_of_ble_eq_true rfl) dX13_jumps_72 (fun H locs hP1 hD1 hk1 hS => ?_)
      have hP := hP1
      have hD := hD1.weaken (fun k q _ h => hFc q.1 h)
      refine lv_istore (lv' := [(5, .int q13), (4, .int y0), (0, .ref (a 0)), (1, .int x1), (2, .int x2), (3, .int x3)]) hx hb dX13_jumps_75 hl (by decide) rfl (fun ls hl => ?_)
      refine lv_aload_n hx hb dX13_jumps_77 rfl (lv_at hl 2 rfl) ?_
      obtain ⟨q16, s17, hq, h⟩ := nd_b2_e h
      have hPc := hP
      have hDc := hD
      have hKc := hK
      have hFc := nd_rs hD hS hA
      refine nd_cVi (As := []) (rest := []) (q := q16) (w' := dw_X13 a ac s17) ⟨hx, hb, hml, hown, hts⟩ (fun sz => dm_X13_comma l hlt dC dI a ac n  s14 hq sz) (cwV 0 hts gi_dm_X13_jumps_3 rfl rfl rfl (by decide +kernel) ⟨Nat.le_of_ble_eq_true rfl, Nat.le_of_ble_eq_true rfl⟩) hPc hDc hKc hS hA hN (va_recv hKc hPc (ci := 14) (q0 := 0) rfl rfl) rfl hl.1 rfl (Nat.le_of_ble_eq_true rfl) dX13_jumps_78 (fun H locs hP1 hD1 hk1 hS => ?_)
      have hP := hP1
      have hD := hD1.weaken (fun k q _ h => hFc q.1 h)
      refine lv_if_ne (tgt := 85) hx hb dX13_jumps_81 (by decide) (fun c19 => ?_) (fun c19 => ?_)
      · have h := nd_neg h c19
        refine lv_aload_n hx hb dX13_jumps_85 rfl (lv_at hl 2 rfl) ?_
        obtain ⟨q20, s21, hq, h⟩ := nd_b2_e h
        have hPc := hP
        have hDc := hD
        have hKc := hK
        have hFc := nd_rs hD hS hA
        refine nd_cVi (As := []) (rest := []) (q := q20) (w' := dw_X13 a ac s21) ⟨hx, hb, hml, hown, hts⟩ (fun sz => dm_X13_expression l hlt dC dI a ac n  s17 hq sz) (cwV 0 hts gi_dm_X13_jumps_4 rfl rfl rfl (by decide +kernel) ⟨Nat.le_of_ble_eq_true rfl, Nat.le_of_ble_eq_true rfl⟩) hPc hDc hKc hS hA hN (va_recv hKc hPc (ci := 14) (q0 := 0) rfl rfl) rfl hl.1 rfl (Nat.le_of_ble_eq_true rfl) dX13_jumps_86 (fun H locs hP1 hD1 hk1 hS => ?_)
        have hP := hP1
        have hD := hD1.weaken (fun k q _ h => hFc q.1 h)
        refine lv_aload_n hx hb dX13_jumps_89 rfl (lv_at hl 2 rfl) ?_
        refine va_get (D := (dC, dI)) (ci := 14) (v := .int (sI s21 17)) (C := RX13) (T := TX13) (N := 37) hx hb hts hi_dm_X13_jumps_X13 hown hK hP 0 rfl rfl 26 (by decide) (hts (.fieldLink RX13 486 "TimeMachineModel$Assembler" "address" "I") (List.mem_of_getElem? (i := 19) rfl)) (fun _ h9 => h9) rfl dX13_jumps_90 ?_
        refine lv_isub hx hb dX13_jumps_93 ?_
        refine lv_topi (fun z23 ez23 => ?_)
        have h := nd_at h ez23
        refine lv_istore (lv' := [(6, .int z23), (5, .int q13), (4, .int y0), (0, .ref (a 0)), (1, .int x1), (2, .int x2), (3, .int x3)]) hx hb dX13_jumps_94 hl (by decide) rfl (fun ls hl => ?_)
        refine lv_aload_n hx hb dX13_jumps_96 rfl (lv_at hl 3 rfl) ?_
        refine lv_iload hx hb dX13_jumps_97 (lv_at hl 0 rfl) ?_
        refine lv_ldcw hx hb hown (hts (.constant RX13 602 (-1048576)) (List.mem_of_getElem? (i := 20) rfl)) dX13_jumps_99 ?_
        refine lv_ldcw hx hb hown (hts (.constant RX13 557 (1048574)) (List.mem_of_getElem? (i := 21) rfl)) dX13_jumps_102 ?_
        refine lv_iconst (v := 2) hx hb dX13_jumps_105 (by decide) ?_
        obtain ⟨s25, hq, h⟩ := nd_b1_e h
        have hPc := hP
        have hDc := hD
        have hKc := hK
        have hFc := nd_rs hD hS hA
        refine nd_cVv (As := [.int z23, .int (-1048576), .int 1048574, .int 2]) (rest := []) (w' := dw_X13 a ac s25) ⟨hx, hb, hml, hown, hts⟩ (fun sz => dm_X13_fits l hlt dC dI a ac n (z23) ((-1048576)) (1048574) (2) s21 hq sz) (cwV 4 hts gi_dm_X13_jumps_5 rfl rfl rfl (by decide +kernel) ⟨Nat.le_of_ble_eq_true rfl, Nat.le_of_ble_eq_true rfl⟩) hPc hDc hKc hS hA hN (va_recv hKc hPc (ci := 14) (q0 := 0) rfl rfl) rfl hl.1 rfl (Nat.le_of_ble_eq_true rfl) dX13_jumps_106 (fun H locs hP1 hD1 hk1 hS => ?_)
        have hP := hP1
        have hD := hD1.weaken (fun k q _ h => hFc q.1 h)
        refine lv_aload_n hx hb dX13_jumps_109 rfl (lv_at hl 3 rfl) ?_
        refine lv_iload_n hx hb dX13_jumps_110 rfl (lv_at hl 5 rfl) ?_
        refine lv_iload hx hb dX13_jumps_111 (lv_at hl 1 rfl) ?_
        refine lv_bipush (v := 7) hx hb dX13_jumps_113 (by decide) ?_
        refine lv_ishl hx hb dX13_jumps_115 ?_
        refine lv_ior hx hb dX13_jumps_116 ?_
        refine lv_iload hx hb dX13_jumps_117 (lv_at hl 0 rfl) ?_
        obtain ⟨q27, s28, hq, h⟩ := nd_b2_e h
        have hPc : va_P (dC, dI) vwCl (dw_P a ac ()) H := nd_p0
        have hDc : va_D A (dw_P a ac ()) := nd_d0
        have hKc : va_K (dC, dI) vwCl (dk_P ac) s := nd_y0 hK
        have hFc : ∀ q, va_A (dw_P a ac ()) H.size q → A q := nd_r0 hS hA
        refine nd_cSi (As := [.int z23]) (rest := [.int (x2 ||| ((q13 : Int32) <<< ((7 : Int32) &&& 31))), .ref (a 0)]) (q := q27) (w' := dw_P a ac s28) ⟨hx, hb, hml, hown, hts⟩ (fun sz => dm_X13_jumpBits l hlt dC dI a ac n (z23) () hq sz) (cwS 1 hts gi_dm_X13_jumps_6 rfl rfl rfl (by decide +kernel) ⟨Nat.le_of_ble_eq_true rfl, Nat.le_of_ble_eq_true rfl⟩) hPc hDc hKc hS hA hN rfl hl.1 rfl (Nat.le_of_ble_eq_true rfl) dX13_jumps_119 (fun H locs hP1 hD1 hk1 hS => ?_)
        have hP := nd_n0 hP hk1
        refine lv_ior hx hb dX13_jumps_122 ?_
        obtain ⟨s31, hq, h⟩ := nd_b1_e h
        have hPc := hP
        have hDc := hD
        have hKc := hK
        have hFc := nd_rs hD hS hA
        refine nd_cVv (As := [.int ((x2 ||| ((q13 : Int32) <<< ((7 : Int32) &&& 31))) ||| q27)]) (rest := []) (w' := dw_X13 a ac s31) ⟨hx, hb, hml, hown, hts⟩ (fun sz => dm_X13_word l hlt dC dI a ac n (((x2 ||| ((q13 : Int32) <<< ((7 : Int32) &&& 31))) ||| q27)) s25 hq sz) (cwV 1 hts gi_dm_X13_jumps_7 rfl rfl rfl (by decide +kernel) ⟨Nat.le_of_ble_eq_true rfl, Nat.le_of_ble_eq_true rfl⟩) hPc hDc hKc hS hA hN (va_recv hKc hPc (ci := 14) (q0 := 0) rfl rfl) rfl hl.1 rfl (Nat.le_of_ble_eq_true rfl) dX13_jumps_123 (fun H locs hP1 hD1 hk1 hS => ?_)
        have hP := hP1
        have hD := hD1.weaken (fun k q _ h => hFc q.1 h)
        exact K _ _ _ _ _ dX13_jumps_126 (Option.some.inj h).symm hP hD hS
      · have h := nd_pos h c19
        exact K _ _ _ _ _ dX13_jumps_84 (Option.some.inj h).symm hP hD hS
    · have h := nd_pos h c12
      exact (db_X13_jumps_55 C K) (x1) (x2) s6 _ _ _ h hP hD hS (lv_sub hl [1, 2, 3] rfl)
set_option maxHeartbeats 40000000 in
set_option maxRecDepth 100000 in
theorem db_X13_jumps_36 {p : Program} {l : Launch} {e : Env} {s : State} {m : MethodId} {args : Array Value} {below : List Frame} {meth : Method} {c : Code} {Q : State → Prop} {A : Nat → Prop} {dC : Nat → ClassId} {dI : Nat → Nat → Nat} {a : Nat → Nat} {ac : Nat → ClassId} {n : Nat} {r : St} (C : nd_C p l s m args c A (dC, dI) cX13_jumps 7 RX13 ow_dm_X13_jumps (dk_X13 ac)) (K : nd_Kv p l e (headSpec ow_dm_X13_jumps ({ frames := 10, cells := 0, slots := 0, locals := 230 })).room s m args below meth c Q A (dC, dI) cX13_jumps (St) (dw_X13 a ac) r) : dj_X13_jumps_36 p l e s m args below meth c Q A dC dI a ac (df_X13_jumps_36 n) r := by
  obtain ⟨hlt, hx, hb, hml, hown, hts, hN, hA, hK⟩ := id C
  intro x1 x2 x3 s0 H locs ls h hP hD hS hl
  unfold df_X13_jumps_36 at h
  refine lv_iconst (v := 0) hx hb dX13_jumps_36 (by decide) ?_
  exact (db_X13_jumps_37 C K) (x1) (x2) (x3) (0) s0 _ _ _ h hP hD hS (lv_sub hl [0, 1, 2, 3] rfl)
set_option maxHeartbeats 40000000 in
set_option maxRecDepth 100000 in
theorem db_X13_jumps_0 {p : Program} {l : Launch} {e : Env} {s : State} {m : MethodId} {args : Array Value} {below : List Frame} {meth : Method} {c : Code} {Q : State → Prop} {A : Nat → Prop} {dC : Nat → ClassId} {dI : Nat → Nat → Nat} {a : Nat → Nat} {ac : Nat → ClassId} {n : Nat} {r : St} (C : nd_C p l s m args c A (dC, dI) cX13_jumps 7 RX13 ow_dm_X13_jumps (dk_X13 ac)) (K : nd_Kv p l e (headSpec ow_dm_X13_jumps ({ frames := 10, cells := 0, slots := 0, locals := 230 })).room s m args below meth c Q A (dC, dI) cX13_jumps (St) (dw_X13 a ac) r) : dj_X13_jumps_0 p l e s m args below meth c Q A dC dI a ac (df_X13_jumps_0 n) r := by
  obtain ⟨hlt, hx, hb, hml, hown, hts, hN, hA, hK⟩ := id C
  intro v0 v1 s0 H locs ls h hP hD hS hl
  unfold df_X13_jumps_0 at h
  refine lv_aload_n hx hb dX13_jumps_0 rfl (lv_at hl 0 rfl) ?_
  refine va_get (D := (dC, dI)) (ci := 14) (v := .int (sI s0 7)) (C := RX13) (T := TX13) (N := 37) hx hb hts hi_dm_X13_jumps_X13 hown hK hP 0 rfl rfl 16 (by decide) (hts (.fieldLink RX13 374 "TimeMachineModel$Assembler" "at" "I") (List.mem_of_getElem? (i := 1) rfl)) (fun _ h9 => h9) rfl dX13_jumps_1 ?_
  refine lv_topi (fun z1 ez1 => ?_)
  have h := nd_at h ez1
  refine lv_istore_n (lv' := [(3, .int z1), (0, .ref (a 0)), (1, .int v0), (2, .int v1)]) hx hb dX13_jumps_4 rfl hl (by decide) rfl (fun ls hl => ?_)
  refine lv_aload_n hx hb dX13_jumps_5 rfl (lv_at hl 1 rfl) ?_
  obtain ⟨s3, hq, h⟩ := nd_b1_e h
  have hPc := hP
  have hDc := hD
  have hKc := hK
  have hFc := nd_rs hD hS hA
  refine nd_cVv (As := []) (rest := []) (w' := dw_X13 a ac s3) ⟨hx, hb, hml, hown, hts⟩ (fun sz => dm_X13_scan l hlt dC dI a ac n  s0 hq sz) (cwV 0 hts gi_dm_X13_jumps_0 rfl rfl rfl (by decide +kernel) ⟨Nat.le_of_ble_eq_true rfl, Nat.le_of_ble_eq_true rfl⟩) hPc hDc hKc hS hA hN (va_recv hKc hPc (ci := 14) (q0 := 0) rfl rfl) rfl hl.1 rfl (Nat.le_of_ble_eq_true rfl) dX13_jumps_6 (fun H locs hP1 hD1 hk1 hS => ?_)
  have hP := hP1
  have hD := hD1.weaken (fun k q _ h => hFc q.1 h)
  refine lv_aload_n hx hb dX13_jumps_9 rfl (lv_at hl 1 rfl) ?_
  refine va_get (D := (dC, dI)) (ci := 14) (v := .int (sI s3 8)) (C := RX13) (T := TX13) (N := 37) hx hb hts hi_dm_X13_jumps_X13 hown hK hP 0 rfl rfl 17 (by decide) (hts (.fieldLink RX13 365 "TimeMachineModel$Assembler" "token" "I") (List.mem_of_getElem? (i := 6) rfl)) (fun _ h9 => h9) rfl dX13_jumps_10 ?_
  refine lv_iconst (v := 1) hx hb dX13_jumps_13 (by decide) ?_
  refine lv_icmp_ne (tgt := 36) hx hb dX13_jumps_14 (by decide) (fun c5 => ?_) (fun c5 => ?_)
  · have h := nd_neg h c5
    exact (db_X13_jumps_36 C K) (v0) (v1) (z1) s3 _ _ _ h hP hD hS (lv_sub hl [1, 2, 3, 0] rfl)
  · have h := nd_pos h c5
    refine lv_aload_n hx hb dX13_jumps_17 rfl (lv_at hl 1 rfl) ?_
    refine lv_aload_n hx hb dX13_jumps_18 rfl (lv_at hl 1 rfl) ?_
    refine va_get (D := (dC, dI)) (ci := 14) (v := .int (sI s3 9)) (C := RX13) (T := TX13) (N := 37) hx hb hts hi_dm_X13_jumps_X13 hown hK hP 0 rfl rfl 18 (by decide) (hts (.fieldLink RX13 368 "TimeMachineModel$Assembler" "from" "I") (List.mem_of_getElem? (i := 30) rfl)) (fun _ h9 => h9) rfl dX13_jumps_19 ?_
    refine lv_aload_n hx hb dX13_jumps_22 rfl (lv_at hl 1 rfl) ?_
    refine va_get (D := (dC, dI)) (ci := 14) (v := .int (sI s3 10)) (C := RX13) (T := TX13) (N := 37) hx hb hts hi_dm_X13_jumps_X13 hown hK hP 0 rfl rfl 19 (by decide) (hts (.fieldLink RX13 371 "TimeMachineModel$Assembler" "to" "I") (List.mem_of_getElem? (i := 31) rfl)) (fun _ h9 => h9) rfl dX13_jumps_23 ?_
    obtain ⟨q33, s34, hq, h⟩ := nd_b2_e h
    have hPc := hP
    have hDc := hD
    have hKc := hK
    have hFc := nd_rs hD hS hA
    refine nd_cVi (As := [.int (sI s3 9), .int (sI s3 10)]) (rest := []) (q := q33) (w' := dw_X13 a ac s34) ⟨hx, hb, hml, hown, hts⟩ (fun sz => dm_X13_register l hlt dC dI a ac n ((sI s3 9)) ((sI s3 10)) s3 hq sz) (cwV 2 hts gi_dm_X13_jumps_8 rfl rfl rfl (by decide +kernel) ⟨Nat.le_of_ble_eq_true rfl, Nat.le_of_ble_eq_true rfl⟩) hPc hDc hKc hS hA hN (va_recv hKc hPc (ci := 14) (q0 := 0) rfl rfl) rfl hl.1 rfl (Nat.le_of_ble_eq_true rfl) dX13_jumps_26 (fun H locs hP1 hD1 hk1 hS => ?_)
    have hP := hP1
    have hD := hD1.weaken (fun k q _ h => hFc q.1 h)
    refine lv_if_lt (tgt := 36) hx hb dX13_jumps_29 (by decide) (fun c36 => ?_) (fun c36 => ?_)
    · have h := nd_pos h c36
      exact (db_X13_jumps_36 C K) (v0) (v1) (z1) s34 _ _ _ h hP hD hS (lv_sub hl [1, 2, 3, 0] rfl)
    · have h := nd_neg h c36
      refine lv_iconst (v := 1) hx hb dX13_jumps_32 (by decide) ?_
      refine lv_goto (tgt := 37) hx hb dX13_jumps_33 (by decide) ?_
      exact (db_X13_jumps_37 C K) (v0) (v1) (z1) (1) s34 _ _ _ h hP hD hS (lv_sub hl [1, 2, 3, 0] rfl)
set_option maxHeartbeats 40000000 in
set_option maxRecDepth 100000 in
theorem dm_X13_jumps (l : Launch) (hlt : l.stackTraces = false) (dC : Nat → ClassId) (dI : Nat → Nat → Nat) (a : Nat → Nat) (ac : Nat → ClassId) (n : Nat) (v0 : Int32) (v1 : Int32) (s0 : St) {r : St} (h : df_X13_jumps n v0 v1 s0 = some r) (sz : Nat) : Met l yX13_jumps ow_dm_X13_jumps ({ frames := 10, cells := 0, slots := 0, locals := 230 }) (va_Pc [.ref (a 0), .int v0, .int v1] (fun U => U.heap.size = sz ∧ va_P (dC, dI) vwCl (dw_X13 a ac s0) U.heap ∧ va_K (dC, dI) vwCl (dk_X13 ac) U ∧ va_D (fun _ => True) (dw_X13 a ac s0) ∧ nv_E dI (va_A (dw_X13 a ac s0) sz) U)) (va_Qv (fun _ => True) (fun (_ : Unit) t => va_P (dC, dI) vwCl (dw_X13 a ac r) t.heap ∧ va_K (dC, dI) vwCl (dk_X13 ac) t ∧ va_D (va_A (dw_X13 a ac s0) sz) (dw_X13 a ac r)) (va_A (dw_X13 a ac s0) sz)) 0 0 (va_A (dw_X13 a ac s0) sz) := by
  refine Met.ofW (cc := cX13_jumps) (maxL := 7) (ret := none) (by decide) rfl ?_
  intro p e s m args below meth c s₁ B hml hv
  obtain ⟨rfl, hsz, hP, hK, hD0, hN⟩ := hv
  have hx := B.exec
  have hb := B.bytes
  have hr := B.returns
  have hts := atoms_spec (ws := ow_dm_X13_jumps) B.pre
  have hown : s.vm.findClass RX13 = some m.cls := findClass_of_methodNamed B.named
  have hlocks := B.notSynchronized
  subst hsz
  have hD := hD0.self (sz := s.heap.size)
  generalize hAe : va_A (dw_X13 a ac s0) s.heap.size = A at hD hN ⊢
  have hA : ∀ q : Nat, s.heap.size ≤ q → A q := fun q h => by rw [← hAe]; exact Or.inr h
  have hl := lv_entry ([.ref (a 0), .int v0, .int v1]) (n := 7) (Nat.le_of_ble_eq_true rfl)
  rw [lg_entry_eq]
  generalize (lg_sl ([.ref (a 0), .int v0, .int v1]) ++ List.replicate (7 - (lg_sl ([.ref (a 0), .int v0, .int v1])).length) Slot.unset).toArray = ls at hl ⊢
  have hl : lv_has ls 7 [(0, .ref (a 0)), (1, .int v0), (2, .int v1)] := hl
  exact db_X13_jumps_0 (dC := dC) (dI := dI) (a := a) (ac := ac) (n := n) (r := r) ⟨hlt, hx, hb, hml, hown, hts, hN, hA, hK⟩ (fun pc τ H locs ls d er hP hD hS => by subst er; exact W.vret hx hb hr (fun t ht hW => ⟨⟨(), rfl, trivial, by rw [ht]; exact hP, va_K.moved hW.alike hK, hD⟩, hS.F ht⟩) hS.2.2 d) v0 v1 s0 _ _ _ h hP hD va_S.rf (lv_sub hl [0, 1, 2] rfl)
def ow_dm_X13_others : List Cond := Cond.code yX13_others cX13_others 7 none :: ([Cond.methodLink RX13 532 yX13_taken, Cond.instanceMethod yX13_taken, Cond.selects RX13 yX13_taken yX13_taken, Cond.initialized RX13, Cond.methodLink RX13 582 yX13_comma, Cond.instanceMethod yX13_comma, Cond.selects RX13 yX13_comma yX13_comma, Cond.methodLink RX13 525 yX13_expression, Cond.instanceMethod yX13_expression, Cond.selects RX13 yX13_expression yX13_expression, Cond.fieldLink RX13 486 "TimeMachineModel$Assembler" "address" "I", Cond.methodLink RX13 570 yX13_word, Cond.instanceMethod yX13_word, Cond.selects RX13 yX13_word yX13_word, Cond.methodLink RX13 608 yX13_six, Cond.static yX13_six, Cond.methodLink RX13 547 yX13_half, Cond.instanceMethod yX13_half, Cond.selects RX13 yX13_half yX13_half, Cond.constant RX13 603 (-2147483648), Cond.constant RX13 604 (2147483647), Cond.methodLink RX13 605 yX13_fixed, Cond.instanceMethod yX13_fixed, Cond.selects RX13 yX13_fixed yX13_fixed] ++ (u_ws RX13 TX13 37 ++ (ow_dm_X13_taken ++ (ow_dm_X13_comma ++ (ow_dm_X13_expression ++ (ow_dm_X13_word ++ (ow_dm_X13_six ++ (ow_dm_X13_half ++ (ow_dm_X13_fixed ++ [])))))))))
theorem gd_dm_X13_others : ∀ w ∈ ow_dm_X13_others, (w.onTables && w.keeps) = true ∨ ∃ ty, w = Cond.arrayClass ty := List.forall_mem_cons.mpr ⟨good_of_word rfl, List.forall_mem_append.mpr ⟨fun w h => good_of_word (List.all_eq_true.mp (by decide +kernel) w h), List.forall_mem_append.mpr ⟨gu_X13, List.forall_mem_append.mpr ⟨gd_dm_X13_taken, List.forall_mem_append.mpr ⟨gd_dm_X13_comma, List.forall_mem_append.mpr ⟨gd_dm_X13_expression, List.forall_mem_append.mpr ⟨gd_dm_X13_word, List.forall_mem_append.mpr ⟨gd_dm_X13_six, List.forall_mem_append.mpr ⟨gd_dm_X13_half, List.forall_mem_append.mpr ⟨gd_dm_X13_fixed, fun _ h => nomatch h⟩⟩⟩⟩⟩⟩⟩⟩⟩⟩
theorem hi_dm_X13_others_X13 : ∀ w ∈ u_ws RX13 TX13 37, w ∈ ow_dm_X13_others := fun w h => List.mem_cons_of_mem _ (List.mem_append_right _ (List.mem_append_left _ h))
theorem gi_dm_X13_others_0 : GoodIn ow_dm_X13_others (wsV RX13 532 RX13 yX13_taken ow_dm_X13_taken) := goodIn_app (goodIn_of _ (by decide +kernel)) (fun w h => ⟨List.mem_cons_of_mem _ (List.mem_append_right _ (List.mem_append_right _ (List.mem_append_left _ h))), gd_dm_X13_taken w h⟩)
theorem gi_dm_X13_others_1 : GoodIn ow_dm_X13_others (wsV RX13 582 RX13 yX13_comma ow_dm_X13_comma) := goodIn_app (goodIn_of _ (by decide +kernel)) (fun w h => ⟨List.mem_cons_of_mem _ (List.mem_append_right _ (List.mem_append_right _ (List.mem_append_right _ (List.mem_append_left _ h)))), gd_dm_X13_comma w h⟩)
theorem gi_dm_X13_others_2 : GoodIn ow_dm_X13_others (wsV RX13 525 RX13 yX13_expression ow_dm_X13_expression) := goodIn_app (goodIn_of _ (by decide +kernel)) (fun w h => ⟨List.mem_cons_of_mem _ (List.mem_append_right _ (List.mem_append_right _ (List.mem_append_right _ (List.mem_append_right _ (List.mem_append_left _ h))))), gd_dm_X13_expression w h⟩)
theorem gi_dm_X13_others_3 : GoodIn ow_dm_X13_others (wsV RX13 570 RX13 yX13_word ow_dm_X13_word) := goodIn_app (goodIn_of _ (by decide +kernel)) (fun w h => ⟨List.mem_cons_of_mem _ (List.mem_append_right _ (List.mem_append_right _ (List.mem_append_right _ (List.mem_append_right _ (List.mem_append_right _ (List.mem_append_left _ h)))))), gd_dm_X13_word w h⟩)
theorem gi_dm_X13_others_4 : GoodIn ow_dm_X13_others (wsS RX13 608 yX13_six ow_dm_X13_six) := goodIn_app (goodIn_of _ (by decide +kernel)) (fun w h => ⟨List.mem_cons_of_mem _ (List.mem_append_right _ (List.mem_append_right _ (List.mem_append_right _ (List.mem_append_right _ (List.mem_append_right _ (List.mem_append_right _ (List.mem_append_left _ h))))))), gd_dm_X13_six w h⟩)
theorem gi_dm_X13_others_5 : GoodIn ow_dm_X13_others (wsV RX13 547 RX13 yX13_half ow_dm_X13_half) := goodIn_app (goodIn_of _ (by decide +kernel)) (fun w h => ⟨List.mem_cons_of_mem _ (List.mem_append_right _ (List.mem_append_right _ (List.mem_append_right _ (List.mem_append_right _ (List.mem_append_right _ (List.mem_append_right _ (List.mem_append_right _ (List.mem_append_left _ h)))))))), gd_dm_X13_half w h⟩)
theorem gi_dm_X13_others_6 : GoodIn ow_dm_X13_others (wsV RX13 605 RX13 yX13_fixed ow_dm_X13_fixed) := goodIn_app (goodIn_of _ (by decide +kernel)) (fun w h => ⟨List.mem_cons_of_mem _ (List.mem_append_right _ (List.mem_append_right _ (List.mem_append_right _ (List.mem_append_right _ (List.mem_append_right _ (List.mem_append_right _ (List.mem_append_right _ (List.mem_append_right _ (List.mem_append_left _ h))))))))), gd_dm_X13_fixed w h⟩)
def dj_X13_others_321 (p : Program) (l : Launch) (e : Env) (s : State) (m : MethodId) (args : Array Value) (below : List Frame) (meth : Method) (c : Code) (Q : State → Prop) (A : Nat → Prop) (dC : Nat → ClassId) (dI : Nat → Nat → Nat) (a : Nat → Nat) (ac : Nat → ClassId) (g : (St) → Option (St)) (r : St) : Prop := ∀ (s0 : St) (H : Heap) (locs : List Loc) (ls : Array Slot), g s0 = some r → va_P (dC, dI) vwCl (dw_X13 a ac s0) H → va_D A (dw_X13 a ac s0) → va_S A s.heap H locs → lv_has ls 7 [] → W p l e (headSpec ow_dm_X13_others ({ frames := 9, cells := 0, slots := 0, locals := 205 })).room s m args below meth c H locs 0 0 Q (F0 m 321 ls [])
def dj_X13_others_304 (p : Program) (l : Launch) (e : Env) (s : State) (m : MethodId) (args : Array Value) (below : List Frame) (meth : Method) (c : Code) (Q : State → Prop) (A : Nat → Prop) (dC : Nat → ClassId) (dI : Nat → Nat → Nat) (a : Nat → Nat) (ac : Nat → ClassId) (g : Int32 → Int32 → (St) → Option (St)) (r : St) : Prop := ∀ (x3 : Int32) (x4 : Int32) (s0 : St) (H : Heap) (locs : List Loc) (ls : Array Slot), g x3 x4 s0 = some r → va_P (dC, dI) vwCl (dw_X13 a ac s0) H → va_D A (dw_X13 a ac s0) → va_S A s.heap H locs → lv_has ls 7 [(0, .ref (a 0)), (3, .int x3), (4, .int x4)] → W p l e (headSpec ow_dm_X13_others ({ frames := 9, cells := 0, slots := 0, locals := 205 })).room s m args below meth c H locs 0 0 Q (F0 m 304 ls [])
def dj_X13_others_264 (p : Program) (l : Launch) (e : Env) (s : State) (m : MethodId) (args : Array Value) (below : List Frame) (meth : Method) (c : Code) (Q : State → Prop) (A : Nat → Prop) (dC : Nat → ClassId) (dI : Nat → Nat → Nat) (a : Nat → Nat) (ac : Nat → ClassId) (g : Int32 → Int32 → Int32 → (St) → Option (St)) (r : St) : Prop := ∀ (x1 : Int32) (x3 : Int32) (x4 : Int32) (s0 : St) (H : Heap) (locs : List Loc) (ls : Array Slot), g x1 x3 x4 s0 = some r → va_P (dC, dI) vwCl (dw_X13 a ac s0) H → va_D A (dw_X13 a ac s0) → va_S A s.heap H locs → lv_has ls 7 [(0, .ref (a 0)), (1, .int x1), (3, .int x3), (4, .int x4)] → W p l e (headSpec ow_dm_X13_others ({ frames := 9, cells := 0, slots := 0, locals := 205 })).room s m args below meth c H locs 0 0 Q (F0 m 264 ls [])
def dj_X13_others_242 (p : Program) (l : Launch) (e : Env) (s : State) (m : MethodId) (args : Array Value) (below : List Frame) (meth : Method) (c : Code) (Q : State → Prop) (A : Nat → Prop) (dC : Nat → ClassId) (dI : Nat → Nat → Nat) (a : Nat → Nat) (ac : Nat → ClassId) (g : Int32 → Int32 → Int32 → Int32 → (St) → Option (St)) (r : St) : Prop := ∀ (x1 : Int32) (x3 : Int32) (x4 : Int32) (x6 : Int32) (s0 : St) (H : Heap) (locs : List Loc) (ls : Array Slot), g x1 x3 x4 x6 s0 = some r → va_P (dC, dI) vwCl (dw_X13 a ac s0) H → va_D A (dw_X13 a ac s0) → va_S A s.heap H locs → lv_has ls 7 [(0, .ref (a 0)), (1, .int x1), (3, .int x3), (4, .int x4), (6, .int x6)] → W p l e (headSpec ow_dm_X13_others ({ frames := 9, cells := 0, slots := 0, locals := 205 })).room s m args below meth c H locs 0 0 Q (F0 m 242 ls [])
def dj_X13_others_237 (p : Program) (l : Launch) (e : Env) (s : State) (m : MethodId) (args : Array Value) (below : List Frame) (meth : Method) (c : Code) (Q : State → Prop) (A : Nat → Prop) (dC : Nat → ClassId) (dI : Nat → Nat → Nat) (a : Nat → Nat) (ac : Nat → ClassId) (g : Int32 → Int32 → Int32 → Int32 → (St) → Option (St)) (r : St) : Prop := ∀ (x1 : Int32) (x3 : Int32) (x4 : Int32) (x6 : Int32) (s0 : St) (H : Heap) (locs : List Loc) (ls : Array Slot), g x1 x3 x4 x6 s0 = some r → va_P (dC, dI) vwCl (dw_X13 a ac s0) H → va_D A (dw_X13 a ac s0) → va_S A s.heap H locs → lv_has ls 7 [(0, .ref (a 0)), (1, .int x1), (3, .int x3), (4, .int x4), (6, .int x6)] → W p l e (headSpec ow_dm_X13_others ({ frames := 9, cells := 0, slots := 0, locals := 205 })).room s m args below meth c H locs 0 0 Q (F0 m 237 ls [])
def dj_X13_others_215 (p : Program) (l : Launch) (e : Env) (s : State) (m : MethodId) (args : Array Value) (below : List Frame) (meth : Method) (c : Code) (Q : State → Prop) (A : Nat → Prop) (dC : Nat → ClassId) (dI : Nat → Nat → Nat) (a : Nat → Nat) (ac : Nat → ClassId) (g : Int32 → Int32 → Int32 → Int32 → (St) → Option (St)) (r : St) : Prop := ∀ (x1 : Int32) (x3 : Int32) (x4 : Int32) (x6 : Int32) (s0 : St) (H : Heap) (locs : List Loc) (ls : Array Slot), g x1 x3 x4 x6 s0 = some r → va_P (dC, dI) vwCl (dw_X13 a ac s0) H → va_D A (dw_X13 a ac s0) → va_S A s.heap H locs → lv_has ls 7 [(0, .ref (a 0)), (1, .int x1), (3, .int x3), (4, .int x4), (6, .int x6)] → W p l e (headSpec ow_dm_X13_others ({ frames := 9, cells := 0, slots := 0, locals := 205 })).room s m args below meth c H locs 0 0 Q (F0 m 215 ls [])
def dj_X13_others_198 (p : Program) (l : Launch) (e : Env) (s : State) (m : MethodId) (args : Array Value) (below : List Frame) (meth : Method) (c : Code) (Q : State → Prop) (A : Nat → Prop) (dC : Nat → ClassId) (dI : Nat → Nat → Nat) (a : Nat → Nat) (ac : Nat → ClassId) (g : Int32 → Int32 → Int32 → Int32 → Int32 → (St) → Option (St)) (r : St) : Prop := ∀ (x1 : Int32) (x3 : Int32) (x4 : Int32) (x5 : Int32) (x6 : Int32) (s0 : St) (H : Heap) (locs : List Loc) (ls : Array Slot), g x1 x3 x4 x5 x6 s0 = some r → va_P (dC, dI) vwCl (dw_X13 a ac s0) H → va_D A (dw_X13 a ac s0) → va_S A s.heap H locs → lv_has ls 7 [(0, .ref (a 0)), (1, .int x1), (3, .int x3), (4, .int x4), (5, .int x5), (6, .int x6)] → W p l e (headSpec ow_dm_X13_others ({ frames := 9, cells := 0, slots := 0, locals := 205 })).room s m args below meth c H locs 0 0 Q (F0 m 198 ls [])
def dj_X13_others_182 (p : Program) (l : Launch) (e : Env) (s : State) (m : MethodId) (args : Array Value) (below : List Frame) (meth : Method) (c : Code) (Q : State → Prop) (A : Nat → Prop) (dC : Nat → ClassId) (dI : Nat → Nat → Nat) (a : Nat → Nat) (ac : Nat → ClassId) (g : Int32 → Int32 → Int32 → Int32 → Int32 → (St) → Option (St)) (r : St) : Prop := ∀ (x1 : Int32) (x3 : Int32) (x4 : Int32) (x5 : Int32) (x6 : Int32) (s0 : St) (H : Heap) (locs : List Loc) (ls : Array Slot), g x1 x3 x4 x5 x6 s0 = some r → va_P (dC, dI) vwCl (dw_X13 a ac s0) H → va_D A (dw_X13 a ac s0) → va_S A s.heap H locs → lv_has ls 7 [(0, .ref (a 0)), (1, .int x1), (3, .int x3), (4, .int x4), (5, .int x5), (6, .int x6)] → W p l e (headSpec ow_dm_X13_others ({ frames := 9, cells := 0, slots := 0, locals := 205 })).room s m args below meth c H locs 0 0 Q (F0 m 182 ls [])
def dj_X13_others_94 (p : Program) (l : Launch) (e : Env) (s : State) (m : MethodId) (args : Array Value) (below : List Frame) (meth : Method) (c : Code) (Q : State → Prop) (A : Nat → Prop) (dC : Nat → ClassId) (dI : Nat → Nat → Nat) (a : Nat → Nat) (ac : Nat → ClassId) (g : Int32 → Int32 → Int32 → (St) → Option (St)) (r : St) : Prop := ∀ (x1 : Int32) (x3 : Int32) (y0 : Int32) (s0 : St) (H : Heap) (locs : List Loc) (ls : Array Slot), g x1 x3 y0 s0 = some r → va_P (dC, dI) vwCl (dw_X13 a ac s0) H → va_D A (dw_X13 a ac s0) → va_S A s.heap H locs → lv_has ls 7 [(0, .ref (a 0)), (1, .int x1), (3, .int x3)] → W p l e (headSpec ow_dm_X13_others ({ frames := 9, cells := 0, slots := 0, locals := 205 })).room s m args below meth c H locs 0 0 Q (F0 m 94 ls [.int y0])
def dj_X13_others_60 (p : Program) (l : Launch) (e : Env) (s : State) (m : MethodId) (args : Array Value) (below : List Frame) (meth : Method) (c : Code) (Q : State → Prop) (A : Nat → Prop) (dC : Nat → ClassId) (dI : Nat → Nat → Nat) (a : Nat → Nat) (ac : Nat → ClassId) (g : Int32 → Int32 → Int32 → (St) → Option (St)) (r : St) : Prop := ∀ (y1 : Int32) (y2 : Int32) (y3 : Int32) (s0 : St) (H : Heap) (locs : List Loc) (ls : Array Slot), g y1 y2 y3 s0 = some r → va_P (dC, dI) vwCl (dw_X13 a ac s0) H → va_D A (dw_X13 a ac s0) → va_S A s.heap H locs → lv_has ls 7 [] → W p l e (headSpec ow_dm_X13_others ({ frames := 9, cells := 0, slots := 0, locals := 205 })).room s m args below meth c H locs 0 0 Q (F0 m 60 ls [.int y3, .int y2, .int y1, .ref (a 0)])
def dj_X13_others_0 (p : Program) (l : Launch) (e : Env) (s : State) (m : MethodId) (args : Array Value) (below : List Frame) (meth : Method) (c : Code) (Q : State → Prop) (A : Nat → Prop) (dC : Nat → ClassId) (dI : Nat → Nat → Nat) (a : Nat → Nat) (ac : Nat → ClassId) (g : Int32 → Int32 → (St) → Option (St)) (r : St) : Prop := ∀ (v0 : Int32) (v1 : Int32) (s0 : St) (H : Heap) (locs : List Loc) (ls : Array Slot), g v0 v1 s0 = some r → va_P (dC, dI) vwCl (dw_X13 a ac s0) H → va_D A (dw_X13 a ac s0) → va_S A s.heap H locs → lv_has ls 7 [(0, .ref (a 0)), (1, .int v0), (2, .int v1)] → W p l e (headSpec ow_dm_X13_others ({ frames := 9, cells := 0, slots := 0, locals := 205 })).room s m args below meth c H locs 0 0 Q (F0 m 0 ls [])
set_option maxHeartbeats 40000000 in
set_option maxRecDepth 100000 in
theorem db_X13_others_321 {p : Program} {l : Launch} {e : Env} {s : State} {m : MethodId} {args : Array Value} {below : List Frame} {meth : Method} {c : Code} {Q : State → Prop} {A : Nat → Prop} {dC : Nat → ClassId} {dI : Nat → Nat → Nat} {a : Nat → Nat} {ac : Nat → ClassId} {n : Nat} {r : St} (C : nd_C p l s m args c A (dC, dI) cX13_others 7 RX13 ow_dm_X13_others (dk_X13 ac)) (K : nd_Kv p l e (headSpec ow_dm_X13_others ({ frames := 9, cells := 0, slots := 0, locals := 205 })).room s m args below meth c Q A (dC, dI) cX13_others (St) (dw_X13 a ac) r) : dj_X13_others_321 p l e s m args below meth c Q A dC dI a ac (df_X13_others_321 n) r := by
  obtain ⟨hlt, hx, hb, hml, hown, hts, hN, hA, hK⟩ := id C
  intro s0 H locs ls h hP hD hS hl
  unfold df_X13_others_321 at h
  exact K _ _ _ _ _ dX13_others_321 (Option.some.inj h).symm hP hD hS
set_option maxHeartbeats 40000000 in
set_option maxRecDepth 100000 in
theorem db_X13_others_304 {p : Program} {l : Launch} {e : Env} {s : State} {m : MethodId} {args : Array Value} {below : List Frame} {meth : Method} {c : Code} {Q : State → Prop} {A : Nat → Prop} {dC : Nat → ClassId} {dI : Nat → Nat → Nat} {a : Nat → Nat} {ac : Nat → ClassId} {n : Nat} {r : St} (C : nd_C p l s m args c A (dC, dI) cX13_others 7 RX13 ow_dm_X13_others (dk_X13 ac)) (K : nd_Kv p l e (headSpec ow_dm_X13_others ({ frames := 9, cells := 0, slots := 0, locals := 205 })).room s m args below meth c Q A (dC, dI) cX13_others (St) (dw_X13 a ac) r) : dj_X13_others_304 p l e s m args below meth c Q A dC dI a ac (df_X13_others_304 n) r := by
  obtain ⟨hlt, hx, hb, hml, hown, hts, hN, hA, hK⟩ := id C
  intro x3 x4 s0 H locs ls h hP hD hS hl
  unfold df_X13_others_304 at h
  refine lv_aload_n hx hb dX13_others_304 rfl (lv_at hl 0 rfl) ?_
  refine lv_bipush (v := 19) hx hb dX13_others_305 (by decide) ?_
  refine lv_iload_n hx hb dX13_others_307 rfl (lv_at hl 1 rfl) ?_
  refine lv_bipush (v := 7) hx hb dX13_others_308 (by decide) ?_
  refine lv_ishl hx hb dX13_others_310 ?_
  refine lv_ior hx hb dX13_others_311 ?_
  refine lv_iload hx hb dX13_others_312 (lv_at hl 2 rfl) ?_
  refine lv_bipush (v := 20) hx hb dX13_others_314 (by decide) ?_
  refine lv_ishl hx hb dX13_others_316 ?_
  refine lv_ior hx hb dX13_others_317 ?_
  obtain ⟨s31, hq, h⟩ := nd_b1_e h
  have hPc := hP
  have hDc := hD
  have hKc := hK
  have hFc := nd_rs hD hS hA
  refine nd_cVv (As := [.int ((19 ||| ((x3 : Int32) <<< ((7 : Int32) &&& 31))) ||| ((x4 : Int32) <<< ((20 : Int32) &&& 31)))]) (rest := []) (w' := dw_X13 a ac s31) ⟨hx, hb, hml, hown, hts⟩ (fun sz => dm_X13_word l hlt dC dI a ac n (((19 ||| ((x3 : Int32) <<< ((7 : Int32) &&& 31))) ||| ((x4 : Int32) <<< ((20 : Int32) &&& 31)))) s0 hq sz) (cwV 1 hts gi_dm_X13_others_3 rfl rfl rfl (by decide +kernel) ⟨Nat.le_of_ble_eq_true rfl, Nat.le_of_ble_eq_true rfl⟩) hPc hDc hKc hS hA hN (va_recv hKc hPc (ci := 14) (q0 := 0) rfl rfl) rfl hl.1 rfl (Nat.le_of_ble_eq_true rfl) dX13_others_318 (fun H locs hP1 hD1 hk1 hS => ?_)
  have hP := hP1
  have hD := hD1.weaken (fun k q _ h => hFc q.1 h)
  exact (db_X13_others_321 C K)  s31 _ _ _ h hP hD hS (lv_sub hl [] rfl)
set_option maxHeartbeats 40000000 in
set_option maxRecDepth 100000 in
theorem db_X13_others_264 {p : Program} {l : Launch} {e : Env} {s : State} {m : MethodId} {args : Array Value} {below : List Frame} {meth : Method} {c : Code} {Q : State → Prop} {A : Nat → Prop} {dC : Nat → ClassId} {dI : Nat → Nat → Nat} {a : Nat → Nat} {ac : Nat → ClassId} {n : Nat} {r : St} (C : nd_C p l s m args c A (dC, dI) cX13_others 7 RX13 ow_dm_X13_others (dk_X13 ac)) (K : nd_Kv p l e (headSpec ow_dm_X13_others ({ frames := 9, cells := 0, slots := 0, locals := 205 })).room s m args below meth c Q A (dC, dI) cX13_others (St) (dw_X13 a ac) r) : dj_X13_others_264 p l e s m args below meth c Q A dC dI a ac (df_X13_others_264 n) r := by
  obtain ⟨hlt, hx, hb, hml, hown, hts, hN, hA, hK⟩ := id C
  intro x1 x3 x4 s0 H locs ls h hP hD hS hl
  unfold df_X13_others_264 at h
  refine lv_iload_n hx hb dX13_others_264 rfl (lv_at hl 1 rfl) ?_
  refine lv_bipush (v := 39) hx hb dX13_others_265 (by decide) ?_
  refine lv_icmp_ne (tgt := 321) hx hb dX13_others_267 (by decide) (fun c26 => ?_) (fun c26 => ?_)
  · have h := nd_neg h c26
    exact (db_X13_others_321 C K)  s0 _ _ _ h hP hD hS (lv_sub hl [] rfl)
  · have h := nd_pos h c26
    refine lv_iload hx hb dX13_others_270 (lv_at hl 3 rfl) ?_
    refine lv_sipush (v := (-2049)) hx hb dX13_others_272 (by decide) ?_
    refine lv_icmp_le (tgt := 321) hx hb dX13_others_275 (by decide) (fun c27 => ?_) (fun c27 => ?_)
    · have h := nd_pos h c27
      exact (db_X13_others_321 C K)  s0 _ _ _ h hP hD hS (lv_sub hl [] rfl)
    · have h := nd_neg h c27
      refine lv_iload hx hb dX13_others_278 (lv_at hl 3 rfl) ?_
      refine lv_sipush (v := 2048) hx hb dX13_others_280 (by decide) ?_
      refine lv_icmp_ge (tgt := 321) hx hb dX13_others_283 (by decide) (fun c28 => ?_) (fun c28 => ?_)
      · have h := nd_pos h c28
        exact (db_X13_others_321 C K)  s0 _ _ _ h hP hD hS (lv_sub hl [] rfl)
      · have h := nd_neg h c28
        refine lv_iload_n hx hb dX13_others_286 rfl (lv_at hl 2 rfl) ?_
        refine lv_if_eq (tgt := 304) hx hb dX13_others_287 (by decide) (fun c29 => ?_) (fun c29 => ?_)
        · have h := nd_pos h c29
          exact (db_X13_others_304 C K) (x3) (x4) s0 _ _ _ h hP hD hS (lv_sub hl [0, 2, 3] rfl)
        · have h := nd_neg h c29
          refine lv_iload hx hb dX13_others_290 (lv_at hl 3 rfl) ?_
          refine lv_bipush (v := (-32)) hx hb dX13_others_292 (by decide) ?_
          refine lv_icmp_lt (tgt := 304) hx hb dX13_others_294 (by decide) (fun c33 => ?_) (fun c33 => ?_)
          · have h := nd_pos h c33
            exact (db_X13_others_304 C K) (x3) (x4) s0 _ _ _ h hP hD hS (lv_sub hl [0, 2, 3] rfl)
          · have h := nd_neg h c33
            refine lv_iload hx hb dX13_others_297 (lv_at hl 3 rfl) ?_
            refine lv_bipush (v := 31) hx hb dX13_others_299 (by decide) ?_
            refine lv_icmp_le (tgt := 321) hx hb dX13_others_301 (by decide) (fun c34 => ?_) (fun c34 => ?_)
            · have h := nd_pos h c34
              exact (db_X13_others_321 C K)  s0 _ _ _ h hP hD hS (lv_sub hl [] rfl)
            · have h := nd_neg h c34
              exact (db_X13_others_304 C K) (x3) (x4) s0 _ _ _ h hP hD hS (lv_sub hl [0, 2, 3] rfl)
set_option maxHeartbeats 40000000 in
set_option maxRecDepth 100000 in
theorem db_X13_others_242 {p : Program} {l : Launch} {e : Env} {s : State} {m : MethodId} {args : Array Value} {below : List Frame} {meth : Method} {c : Code} {Q : State → Prop} {A : Nat → Prop} {dC : Nat → ClassId} {dI : Nat → Nat → Nat} {a : Nat → Nat} {ac : Nat → ClassId} {n : Nat} {r : St} (C : nd_C p l s m args c A (dC, dI) cX13_others 7 RX13 ow_dm_X13_others (dk_X13 ac)) (K : nd_Kv p l e (headSpec ow_dm_X13_others ({ frames := 9, cells := 0, slots := 0, locals := 205 })).room s m args below meth c Q A (dC, dI) cX13_others (St) (dw_X13 a ac) r) : dj_X13_others_242 p l e s m args below meth c Q A dC dI a ac (df_X13_others_242 n) r := by
  obtain ⟨hlt, hx, hb, hml, hown, hts, hN, hA, hK⟩ := id C
  intro x1 x3 x4 x6 s0 H locs ls h hP hD hS hl
  unfold df_X13_others_242 at h
  refine lv_aload_n hx hb dX13_others_242 rfl (lv_at hl 0 rfl) ?_
  refine lv_bipush (v := 19) hx hb dX13_others_243 (by decide) ?_
  refine lv_iload_n hx hb dX13_others_245 rfl (lv_at hl 2 rfl) ?_
  refine lv_bipush (v := 7) hx hb dX13_others_246 (by decide) ?_
  refine lv_ishl hx hb dX13_others_248 ?_
  refine lv_ior hx hb dX13_others_249 ?_
  refine lv_iload_n hx hb dX13_others_250 rfl (lv_at hl 2 rfl) ?_
  refine lv_bipush (v := 15) hx hb dX13_others_251 (by decide) ?_
  refine lv_ishl hx hb dX13_others_253 ?_
  refine lv_ior hx hb dX13_others_254 ?_
  refine lv_iload hx hb dX13_others_255 (lv_at hl 4 rfl) ?_
  refine lv_bipush (v := 20) hx hb dX13_others_257 (by decide) ?_
  refine lv_ishl hx hb dX13_others_259 ?_
  refine lv_ior hx hb dX13_others_260 ?_
  obtain ⟨s24, hq, h⟩ := nd_b1_e h
  have hPc := hP
  have hDc := hD
  have hKc := hK
  have hFc := nd_rs hD hS hA
  refine nd_cVv (As := [.int (((19 ||| ((x3 : Int32) <<< ((7 : Int32) &&& 31))) ||| ((x3 : Int32) <<< ((15 : Int32) &&& 31))) ||| ((x6 : Int32) <<< ((20 : Int32) &&& 31)))]) (rest := []) (w' := dw_X13 a ac s24) ⟨hx, hb, hml, hown, hts⟩ (fun sz => dm_X13_word l hlt dC dI a ac n ((((19 ||| ((x3 : Int32) <<< ((7 : Int32) &&& 31))) ||| ((x3 : Int32) <<< ((15 : Int32) &&& 31))) ||| ((x6 : Int32) <<< ((20 : Int32) &&& 31)))) s0 hq sz) (cwV 1 hts gi_dm_X13_others_3 rfl rfl rfl (by decide +kernel) ⟨Nat.le_of_ble_eq_true rfl, Nat.le_of_ble_eq_true rfl⟩) hPc hDc hKc hS hA hN (va_recv hKc hPc (ci := 14) (q0 := 0) rfl rfl) rfl hl.1 rfl (Nat.le_of_ble_eq_true rfl) dX13_others_261 (fun H locs hP1 hD1 hk1 hS => ?_)
  have hP := hP1
  have hD := hD1.weaken (fun k q _ h => hFc q.1 h)
  exact (db_X13_others_264 C K) (x1) (x3) (x4) s24 _ _ _ h hP hD hS (lv_sub hl [0, 1, 2, 3] rfl)
set_option maxHeartbeats 40000000 in
set_option maxRecDepth 100000 in
theorem db_X13_others_237 {p : Program} {l : Launch} {e : Env} {s : State} {m : MethodId} {args : Array Value} {below : List Frame} {meth : Method} {c : Code} {Q : State → Prop} {A : Nat → Prop} {dC : Nat → ClassId} {dI : Nat → Nat → Nat} {a : Nat → Nat} {ac : Nat → ClassId} {n : Nat} {r : St} (C : nd_C p l s m args c A (dC, dI) cX13_others 7 RX13 ow_dm_X13_others (dk_X13 ac)) (K : nd_Kv p l e (headSpec ow_dm_X13_others ({ frames := 9, cells := 0, slots := 0, locals := 205 })).room s m args below meth c Q A (dC, dI) cX13_others (St) (dw_X13 a ac) r) : dj_X13_others_237 p l e s m args below meth c Q A dC dI a ac (df_X13_others_237 n) r := by
  obtain ⟨hlt, hx, hb, hml, hown, hts, hN, hA, hK⟩ := id C
  intro x1 x3 x4 x6 s0 H locs ls h hP hD hS hl
  unfold df_X13_others_237 at h
  refine lv_iload hx hb dX13_others_237 (lv_at hl 4 rfl) ?_
  refine lv_if_eq (tgt := 264) hx hb dX13_others_239 (by decide) (fun c36 => ?_) (fun c36 => ?_)
  · have h := nd_pos h c36
    exact (db_X13_others_264 C K) (x1) (x3) (x4) s0 _ _ _ h hP hD hS (lv_sub hl [0, 1, 2, 3] rfl)
  · have h := nd_neg h c36
    exact (db_X13_others_242 C K) (x1) (x3) (x4) (x6) s0 _ _ _ h hP hD hS (lv_sub hl [0, 1, 2, 3, 4] rfl)
set_option maxHeartbeats 40000000 in
set_option maxRecDepth 100000 in
theorem db_X13_others_215 {p : Program} {l : Launch} {e : Env} {s : State} {m : MethodId} {args : Array Value} {below : List Frame} {meth : Method} {c : Code} {Q : State → Prop} {A : Nat → Prop} {dC : Nat → ClassId} {dI : Nat → Nat → Nat} {a : Nat → Nat} {ac : Nat → ClassId} {n : Nat} {r : St} (C : nd_C p l s m args c A (dC, dI) cX13_others 7 RX13 ow_dm_X13_others (dk_X13 ac)) (K : nd_Kv p l e (headSpec ow_dm_X13_others ({ frames := 9, cells := 0, slots := 0, locals := 205 })).room s m args below meth c Q A (dC, dI) cX13_others (St) (dw_X13 a ac) r) : dj_X13_others_215 p l e s m args below meth c Q A dC dI a ac (df_X13_others_215 n) r := by
  obtain ⟨hlt, hx, hb, hml, hown, hts, hN, hA, hK⟩ := id C
  intro x1 x3 x4 x6 s0 H locs ls h hP hD hS hl
  unfold df_X13_others_215 at h
  refine lv_iload_n hx hb dX13_others_215 rfl (lv_at hl 1 rfl) ?_
  refine lv_bipush (v := 38) hx hb dX13_others_216 (by decide) ?_
  refine lv_icmp_eq (tgt := 242) hx hb dX13_others_218 (by decide) (fun c22 => ?_) (fun c22 => ?_)
  · have h := nd_pos h c22
    exact (db_X13_others_242 C K) (x1) (x3) (x4) (x6) s0 _ _ _ h hP hD hS (lv_sub hl [0, 1, 2, 3, 4] rfl)
  · have h := nd_neg h c22
    refine lv_iload hx hb dX13_others_221 (lv_at hl 3 rfl) ?_
    refine lv_sipush (v := (-2048)) hx hb dX13_others_223 (by decide) ?_
    refine lv_icmp_lt (tgt := 237) hx hb dX13_others_226 (by decide) (fun c35 => ?_) (fun c35 => ?_)
    · have h := nd_pos h c35
      exact (db_X13_others_237 C K) (x1) (x3) (x4) (x6) s0 _ _ _ h hP hD hS (lv_sub hl [0, 1, 2, 3, 4] rfl)
    · have h := nd_neg h c35
      refine lv_iload hx hb dX13_others_229 (lv_at hl 3 rfl) ?_
      refine lv_sipush (v := 2047) hx hb dX13_others_231 (by decide) ?_
      refine lv_icmp_le (tgt := 264) hx hb dX13_others_234 (by decide) (fun c37 => ?_) (fun c37 => ?_)
      · have h := nd_pos h c37
        exact (db_X13_others_264 C K) (x1) (x3) (x4) s0 _ _ _ h hP hD hS (lv_sub hl [0, 1, 2, 3] rfl)
      · have h := nd_neg h c37
        exact (db_X13_others_237 C K) (x1) (x3) (x4) (x6) s0 _ _ _ h hP hD hS (lv_sub hl [0, 1, 2, 3, 4] rfl)
set_option maxHeartbeats 40000000 in
set_option maxRecDepth 100000 in
theorem db_X13_others_198 {p : Program} {l : Launch} {e : Env} {s : State} {m : MethodId} {args : Array Value} {below : List Frame} {meth : Method} {c : Code} {Q : State → Prop} {A : Nat → Prop} {dC : Nat → ClassId} {dI : Nat → Nat → Nat} {a : Nat → Nat} {ac : Nat → ClassId} {n : Nat} {r : St} (C : nd_C p l s m args c A (dC, dI) cX13_others 7 RX13 ow_dm_X13_others (dk_X13 ac)) (K : nd_Kv p l e (headSpec ow_dm_X13_others ({ frames := 9, cells := 0, slots := 0, locals := 205 })).room s m args below meth c Q A (dC, dI) cX13_others (St) (dw_X13 a ac) r) : dj_X13_others_198 p l e s m args below meth c Q A dC dI a ac (df_X13_others_198 n) r := by
  obtain ⟨hlt, hx, hb, hml, hown, hts, hN, hA, hK⟩ := id C
  intro x1 x3 x4 x5 x6 s0 H locs ls h hP hD hS hl
  unfold df_X13_others_198 at h
  refine lv_aload_n hx hb dX13_others_198 rfl (lv_at hl 0 rfl) ?_
  refine lv_bipush (v := 55) hx hb dX13_others_199 (by decide) ?_
  refine lv_iload_n hx hb dX13_others_201 rfl (lv_at hl 2 rfl) ?_
  refine lv_bipush (v := 7) hx hb dX13_others_202 (by decide) ?_
  refine lv_ishl hx hb dX13_others_204 ?_
  refine lv_ior hx hb dX13_others_205 ?_
  refine lv_iload hx hb dX13_others_206 (lv_at hl 4 rfl) ?_
  refine lv_bipush (v := 12) hx hb dX13_others_208 (by decide) ?_
  refine lv_ishl hx hb dX13_others_210 ?_
  refine lv_ior hx hb dX13_others_211 ?_
  obtain ⟨s20, hq, h⟩ := nd_b1_e h
  have hPc := hP
  have hDc := hD
  have hKc := hK
  have hFc := nd_rs hD hS hA
  refine nd_cVv (As := [.int ((55 ||| ((x3 : Int32) <<< ((7 : Int32) &&& 31))) ||| ((x5 : Int32) <<< ((12 : Int32) &&& 31)))]) (rest := []) (w' := dw_X13 a ac s20) ⟨hx, hb, hml, hown, hts⟩ (fun sz => dm_X13_word l hlt dC dI a ac n (((55 ||| ((x3 : Int32) <<< ((7 : Int32) &&& 31))) ||| ((x5 : Int32) <<< ((12 : Int32) &&& 31)))) s0 hq sz) (cwV 1 hts gi_dm_X13_others_3 rfl rfl rfl (by decide +kernel) ⟨Nat.le_of_ble_eq_true rfl, Nat.le_of_ble_eq_true rfl⟩) hPc hDc hKc hS hA hN (va_recv hKc hPc (ci := 14) (q0 := 0) rfl rfl) rfl hl.1 rfl (Nat.le_of_ble_eq_true rfl) dX13_others_212 (fun H locs hP1 hD1 hk1 hS => ?_)
  have hP := hP1
  have hD := hD1.weaken (fun k q _ h => hFc q.1 h)
  exact (db_X13_others_215 C K) (x1) (x3) (x4) (x6) s20 _ _ _ h hP hD hS (lv_sub hl [0, 1, 2, 3, 5] rfl)
set_option maxHeartbeats 40000000 in
set_option maxRecDepth 100000 in
theorem db_X13_others_182 {p : Program} {l : Launch} {e : Env} {s : State} {m : MethodId} {args : Array Value} {below : List Frame} {meth : Method} {c : Code} {Q : State → Prop} {A : Nat → Prop} {dC : Nat → ClassId} {dI : Nat → Nat → Nat} {a : Nat → Nat} {ac : Nat → ClassId} {n : Nat} {r : St} (C : nd_C p l s m args c A (dC, dI) cX13_others 7 RX13 ow_dm_X13_others (dk_X13 ac)) (K : nd_Kv p l e (headSpec ow_dm_X13_others ({ frames := 9, cells := 0, slots := 0, locals := 205 })).room s m args below meth c Q A (dC, dI) cX13_others (St) (dw_X13 a ac) r) : dj_X13_others_182 p l e s m args below meth c Q A dC dI a ac (df_X13_others_182 n) r := by
  obtain ⟨hlt, hx, hb, hml, hown, hts, hN, hA, hK⟩ := id C
  intro x1 x3 x4 x5 x6 s0 H locs ls h hP hD hS hl
  unfold df_X13_others_182 at h
  refine lv_iload hx hb dX13_others_182 (lv_at hl 3 rfl) ?_
  refine lv_sipush (v := (-2048)) hx hb dX13_others_184 (by decide) ?_
  refine lv_icmp_lt (tgt := 198) hx hb dX13_others_187 (by decide) (fun c18 => ?_) (fun c18 => ?_)
  · have h := nd_pos h c18
    exact (db_X13_others_198 C K) (x1) (x3) (x4) (x5) (x6) s0 _ _ _ h hP hD hS (lv_sub hl [0, 1, 2, 3, 4, 5] rfl)
  · have h := nd_neg h c18
    refine lv_iload hx hb dX13_others_190 (lv_at hl 3 rfl) ?_
    refine lv_sipush (v := 2047) hx hb dX13_others_192 (by decide) ?_
    refine lv_icmp_le (tgt := 215) hx hb dX13_others_195 (by decide) (fun c38 => ?_) (fun c38 => ?_)
    · have h := nd_pos h c38
      exact (db_X13_others_215 C K) (x1) (x3) (x4) (x6) s0 _ _ _ h hP hD hS (lv_sub hl [0, 1, 2, 3, 5] rfl)
    · have h := nd_neg h c38
      exact (db_X13_others_198 C K) (x1) (x3) (x4) (x5) (x6) s0 _ _ _ h hP hD hS (lv_sub hl [0, 1, 2, 3, 4, 5] rfl)
set_option maxHeartbeats 40000000 in
set_option maxRecDepth 100000 in
theorem db_X13_others_94 {p : Program} {l : Launch} {e : Env} {s : State} {m : MethodId} {args : Array Value} {below : List Frame} {meth : Method} {c : Code} {Q : State → Prop} {A : Nat → Prop} {dC : Nat → ClassId} {dI : Nat → Nat → Nat} {a : Nat → Nat} {ac : Nat → ClassId} {n : Nat} {r : St} (C : nd_C p l s m args c A (dC, dI) cX13_others 7 RX13 ow_dm_X13_others (dk_X13 ac)) (K : nd_Kv p l e (headSpec ow_dm_X13_others ({ frames := 9, cells := 0, slots := 0, locals := 205 })).room s m args below meth c Q A (dC, dI) cX13_others (St) (dw_X13 a ac) r) : dj_X13_others_94 p l e s m args below meth c Q A dC dI a ac (df_X13_others_94 n) r := by
  obtain ⟨hlt, hx, hb, hml, hown, hts, hN, hA, hK⟩ := id C
  intro x1 x3 y0 s0 H locs ls h hP hD hS hl
  unfold df_X13_others_94 at h
  refine lv_istore (lv' := [(4, .int y0), (0, .ref (a 0)), (1, .int x1), (3, .int x3)]) hx hb dX13_others_94 hl (by decide) rfl (fun ls hl => ?_)
  refine lv_iload hx hb dX13_others_96 (lv_at hl 0 rfl) ?_
  refine lv_sipush (v := 2048) hx hb dX13_others_98 (by decide) ?_
  refine lv_iadd hx hb dX13_others_101 ?_
  refine lv_bipush (v := 12) hx hb dX13_others_102 (by decide) ?_
  refine lv_iushr hx hb dX13_others_104 rfl ?_
  refine lv_topi (fun z14 ez14 => ?_)
  have h := nd_at h ez14
  refine lv_istore (lv' := [(5, .int z14), (4, .int y0), (0, .ref (a 0)), (1, .int x1), (3, .int x3)]) hx hb dX13_others_105 hl (by decide) rfl (fun ls hl => ?_)
  refine lv_iload hx hb dX13_others_107 (lv_at hl 1 rfl) ?_
  refine lv_bipush (v := 20) hx hb dX13_others_109 (by decide) ?_
  refine lv_ishl hx hb dX13_others_111 ?_
  refine lv_bipush (v := 20) hx hb dX13_others_112 (by decide) ?_
  refine lv_ishr hx hb dX13_others_114 ?_
  refine lv_topi (fun z15 ez15 => ?_)
  have h := nd_at h ez15
  refine lv_istore (lv' := [(6, .int z15), (5, .int z14), (4, .int y0), (0, .ref (a 0)), (1, .int x1), (3, .int x3)]) hx hb dX13_others_115 hl (by decide) rfl (fun ls hl => ?_)
  refine lv_iload_n hx hb dX13_others_117 rfl (lv_at hl 4 rfl) ?_
  refine lv_bipush (v := 38) hx hb dX13_others_118 (by decide) ?_
  refine lv_icmp_ne (tgt := 143) hx hb dX13_others_120 (by decide) (fun c16 => ?_) (fun c16 => ?_)
  · have h := nd_neg h c16
    refine lv_iload hx hb dX13_others_143 (lv_at hl 2 rfl) ?_
    refine lv_bipush (v := (-33)) hx hb dX13_others_145 (by decide) ?_
    refine lv_icmp_le (tgt := 182) hx hb dX13_others_147 (by decide) (fun c17 => ?_) (fun c17 => ?_)
    · have h := nd_pos h c17
      exact (db_X13_others_182 C K) (x1) (x3) (y0) (z14) (z15) s0 _ _ _ h hP hD hS (lv_sub hl [3, 4, 5, 2, 1, 0] rfl)
    · have h := nd_neg h c17
      refine lv_iload hx hb dX13_others_150 (lv_at hl 2 rfl) ?_
      refine lv_bipush (v := 32) hx hb dX13_others_152 (by decide) ?_
      refine lv_icmp_ge (tgt := 182) hx hb dX13_others_154 (by decide) (fun c39 => ?_) (fun c39 => ?_)
      · have h := nd_pos h c39
        exact (db_X13_others_182 C K) (x1) (x3) (y0) (z14) (z15) s0 _ _ _ h hP hD hS (lv_sub hl [3, 4, 5, 2, 1, 0] rfl)
      · have h := nd_neg h c39
        refine lv_iload_n hx hb dX13_others_157 rfl (lv_at hl 5 rfl) ?_
        refine lv_if_eq (tgt := 182) hx hb dX13_others_158 (by decide) (fun c40 => ?_) (fun c40 => ?_)
        · have h := nd_pos h c40
          exact (db_X13_others_182 C K) (x1) (x3) (y0) (z14) (z15) s0 _ _ _ h hP hD hS (lv_sub hl [3, 4, 5, 2, 1, 0] rfl)
        · have h := nd_neg h c40
          refine lv_aload_n hx hb dX13_others_161 rfl (lv_at hl 3 rfl) ?_
          refine lv_sipush (v := 16385) hx hb dX13_others_162 (by decide) ?_
          refine lv_iload_n hx hb dX13_others_165 rfl (lv_at hl 5 rfl) ?_
          refine lv_bipush (v := 7) hx hb dX13_others_166 (by decide) ?_
          refine lv_ishl hx hb dX13_others_168 ?_
          refine lv_ior hx hb dX13_others_169 ?_
          refine lv_iload hx hb dX13_others_170 (lv_at hl 2 rfl) ?_
          obtain ⟨q41, s42, hq, h⟩ := nd_b2_e h
          have hPc : va_P (dC, dI) vwCl (dw_P a ac ()) H := nd_p0
          have hDc : va_D A (dw_P a ac ()) := nd_d0
          have hKc : va_K (dC, dI) vwCl (dk_P ac) s := nd_y0 hK
          have hFc : ∀ q, va_A (dw_P a ac ()) H.size q → A q := nd_r0 hS hA
          refine nd_cSi (As := [.int y0]) (rest := [.int (16385 ||| ((x3 : Int32) <<< ((7 : Int32) &&& 31))), .ref (a 0)]) (q := q41) (w' := dw_P a ac s42) ⟨hx, hb, hml, hown, hts⟩ (fun sz => dm_X13_six l hlt dC dI a ac n (y0) () hq sz) (cwS 1 hts gi_dm_X13_others_4 rfl rfl rfl (by decide +kernel) ⟨Nat.le_of_ble_eq_true rfl, Nat.le_of_ble_eq_true rfl⟩) hPc hDc hKc hS hA hN rfl hl.1 rfl (Nat.le_of_ble_eq_true rfl) dX13_others_172 (fun H locs hP1 hD1 hk1 hS => ?_)
          have hP := nd_n0 hP hk1
          refine lv_ior hx hb dX13_others_175 ?_
          obtain ⟨s45, hq, h⟩ := nd_b1_e h
          have hPc := hP
          have hDc := hD
          have hKc := hK
          have hFc := nd_rs hD hS hA
          refine nd_cVv (As := [.int ((16385 ||| ((x3 : Int32) <<< ((7 : Int32) &&& 31))) ||| q41)]) (rest := []) (w' := dw_X13 a ac s45) ⟨hx, hb, hml, hown, hts⟩ (fun sz => dm_X13_half l hlt dC dI a ac n (((16385 ||| ((x3 : Int32) <<< ((7 : Int32) &&& 31))) ||| q41)) s0 hq sz) (cwV 1 hts gi_dm_X13_others_5 rfl rfl rfl (by decide +kernel) ⟨Nat.le_of_ble_eq_true rfl, Nat.le_of_ble_eq_true rfl⟩) hPc hDc hKc hS hA hN (va_recv hKc hPc (ci := 14) (q0 := 0) rfl rfl) rfl hl.1 rfl (Nat.le_of_ble_eq_true rfl) dX13_others_176 (fun H locs hP1 hD1 hk1 hS => ?_)
          have hP := hP1
          have hD := hD1.weaken (fun k q _ h => hFc q.1 h)
          refine lv_goto (tgt := 215) hx hb dX13_others_179 (by decide) ?_
          exact (db_X13_others_215 C K) (x1) (x3) (y0) (z15) s45 _ _ _ h hP hD hS (lv_sub hl [3, 4, 5, 2, 0] rfl)
  · have h := nd_pos h c16
    refine lv_aload_n hx hb dX13_others_123 rfl (lv_at hl 3 rfl) ?_
    refine lv_bipush (v := 23) hx hb dX13_others_124 (by decide) ?_
    refine lv_iload_n hx hb dX13_others_126 rfl (lv_at hl 5 rfl) ?_
    refine lv_bipush (v := 7) hx hb dX13_others_127 (by decide) ?_
    refine lv_ishl hx hb dX13_others_129 ?_
    refine lv_ior hx hb dX13_others_130 ?_
    refine lv_iload hx hb dX13_others_131 (lv_at hl 1 rfl) ?_
    refine lv_bipush (v := 12) hx hb dX13_others_133 (by decide) ?_
    refine lv_ishl hx hb dX13_others_135 ?_
    refine lv_ior hx hb dX13_others_136 ?_
    obtain ⟨s48, hq, h⟩ := nd_b1_e h
    have hPc := hP
    have hDc := hD
    have hKc := hK
    have hFc := nd_rs hD hS hA
    refine nd_cVv (As := [.int ((23 ||| ((x3 : Int32) <<< ((7 : Int32) &&& 31))) ||| ((z14 : Int32) <<< ((12 : Int32) &&& 31)))]) (rest := []) (w' := dw_X13 a ac s48) ⟨hx, hb, hml, hown, hts⟩ (fun sz => dm_X13_word l hlt dC dI a ac n (((23 ||| ((x3 : Int32) <<< ((7 : Int32) &&& 31))) ||| ((z14 : Int32) <<< ((12 : Int32) &&& 31)))) s0 hq sz) (cwV 1 hts gi_dm_X13_others_3 rfl rfl rfl (by decide +kernel) ⟨Nat.le_of_ble_eq_true rfl, Nat.le_of_ble_eq_true rfl⟩) hPc hDc hKc hS hA hN (va_recv hKc hPc (ci := 14) (q0 := 0) rfl rfl) rfl hl.1 rfl (Nat.le_of_ble_eq_true rfl) dX13_others_137 (fun H locs hP1 hD1 hk1 hS => ?_)
    have hP := hP1
    have hD := hD1.weaken (fun k q _ h => hFc q.1 h)
    refine lv_goto (tgt := 215) hx hb dX13_others_140 (by decide) ?_
    exact (db_X13_others_215 C K) (x1) (x3) (y0) (z15) s48 _ _ _ h hP hD hS (lv_sub hl [3, 4, 5, 2, 0] rfl)
set_option maxHeartbeats 40000000 in
set_option maxRecDepth 100000 in
theorem db_X13_others_60 {p : Program} {l : Launch} {e : Env} {s : State} {m : MethodId} {args : Array Value} {below : List Frame} {meth : Method} {c : Code} {Q : State → Prop} {A : Nat → Prop} {dC : Nat → ClassId} {dI : Nat → Nat → Nat} {a : Nat → Nat} {ac : Nat → ClassId} {n : Nat} {r : St} (C : nd_C p l s m args c A (dC, dI) cX13_others 7 RX13 ow_dm_X13_others (dk_X13 ac)) (K : nd_Kv p l e (headSpec ow_dm_X13_others ({ frames := 9, cells := 0, slots := 0, locals := 205 })).room s m args below meth c Q A (dC, dI) cX13_others (St) (dw_X13 a ac) r) : dj_X13_others_60 p l e s m args below meth c Q A dC dI a ac (df_X13_others_60 n) r := by
  obtain ⟨hlt, hx, hb, hml, hown, hts, hN, hA, hK⟩ := id C
  intro y1 y2 y3 s0 H locs ls h hP hD hS hl
  unfold df_X13_others_60 at h
  refine lv_ishl hx hb dX13_others_60 ?_
  refine lv_ior hx hb dX13_others_61 ?_
  obtain ⟨s58, hq, h⟩ := nd_b1_e h
  have hPc := hP
  have hDc := hD
  have hKc := hK
  have hFc := nd_rs hD hS hA
  refine nd_cVv (As := [.int (y1 ||| ((y2 : Int32) <<< ((y3 : Int32) &&& 31)))]) (rest := []) (w' := dw_X13 a ac s58) ⟨hx, hb, hml, hown, hts⟩ (fun sz => dm_X13_word l hlt dC dI a ac n ((y1 ||| ((y2 : Int32) <<< ((y3 : Int32) &&& 31)))) s0 hq sz) (cwV 1 hts gi_dm_X13_others_3 rfl rfl rfl (by decide +kernel) ⟨Nat.le_of_ble_eq_true rfl, Nat.le_of_ble_eq_true rfl⟩) hPc hDc hKc hS hA hN (va_recv hKc hPc (ci := 14) (q0 := 0) rfl rfl) rfl hl.1 rfl (Nat.le_of_ble_eq_true rfl) dX13_others_62 (fun H locs hP1 hD1 hk1 hS => ?_)
  have hP := hP1
  have hD := hD1.weaken (fun k q _ h => hFc q.1 h)
  exact K _ _ _ _ _ dX13_others_65 (Option.some.inj h).symm hP hD hS
set_option maxHeartbeats 40000000 in
set_option maxRecDepth 100000 in
theorem db_X13_others_0 {p : Program} {l : Launch} {e : Env} {s : State} {m : MethodId} {args : Array Value} {below : List Frame} {meth : Method} {c : Code} {Q : State → Prop} {A : Nat → Prop} {dC : Nat → ClassId} {dI : Nat → Nat → Nat} {a : Nat → Nat} {ac : Nat → ClassId} {n : Nat} {r : St} (C : nd_C p l s m args c A (dC, dI) cX13_others 7 RX13 ow_dm_X13_others (dk_X13 ac)) (K : nd_Kv p l e (headSpec ow_dm_X13_others ({ frames := 9, cells := 0, slots := 0, locals := 205 })).room s m args below meth c Q A (dC, dI) cX13_others (St) (dw_X13 a ac) r) : dj_X13_others_0 p l e s m args below meth c Q A dC dI a ac (df_X13_others_0 n) r := by
  obtain ⟨hlt, hx, hb, hml, hown, hts, hN, hA, hK⟩ := id C
  intro v0 v1 s0 H locs ls h hP hD hS hl
  unfold df_X13_others_0 at h
  refine lv_aload_n hx hb dX13_others_0 rfl (lv_at hl 0 rfl) ?_
  obtain ⟨q1, s2, hq, h⟩ := nd_b2_e h
  have hPc := hP
  have hDc := hD
  have hKc := hK
  have hFc := nd_rs hD hS hA
  refine nd_cVi (As := []) (rest := []) (q := q1) (w' := dw_X13 a ac s2) ⟨hx, hb, hml, hown, hts⟩ (fun sz => dm_X13_taken l hlt dC dI a ac n  s0 hq sz) (cwV 0 hts gi_dm_X13_others_0 rfl rfl rfl (by decide +kernel) ⟨Nat.le_of_ble_eq_true rfl, Nat.le_of_ble_eq_true rfl⟩) hPc hDc hKc hS hA hN (va_recv hKc hPc (ci := 14) (q0 := 0) rfl rfl) rfl hl.1 rfl (Nat.le_of_ble_eq_true rfl) dX13_others_1 (fun H locs hP1 hD1 hk1 hS => ?_)
  have hP := hP1
  have hD := hD1.weaken (fun k q _ h => hFc q.1 h)
  refine lv_istore_n (lv' := [(3, .int q1), (0, .ref (a 0)), (1, .int v0), (2, .int v1)]) hx hb dX13_others_4 rfl hl (by decide) rfl (fun ls hl => ?_)
  refine lv_iload_n hx hb dX13_others_5 rfl (lv_at hl 2 rfl) ?_
  refine lv_bipush (v := 33) hx hb dX13_others_6 (by decide) ?_
  refine lv_icmp_ne (tgt := 22) hx hb dX13_others_8 (by decide) (fun c4 => ?_) (fun c4 => ?_)
  · have h := nd_neg h c4
    refine lv_aload_n hx hb dX13_others_22 rfl (lv_at hl 1 rfl) ?_
    obtain ⟨q5, s6, hq, h⟩ := nd_b2_e h
    have hPc := hP
    have hDc := hD
    have hKc := hK
    have hFc := nd_rs hD hS hA
    refine nd_cVi (As := []) (rest := []) (q := q5) (w' := dw_X13 a ac s6) ⟨hx, hb, hml, hown, hts⟩ (fun sz => dm_X13_comma l hlt dC dI a ac n  s2 hq sz) (cwV 0 hts gi_dm_X13_others_1 rfl rfl rfl (by decide +kernel) ⟨Nat.le_of_ble_eq_true rfl, Nat.le_of_ble_eq_true rfl⟩) hPc hDc hKc hS hA hN (va_recv hKc hPc (ci := 14) (q0 := 0) rfl rfl) rfl hl.1 rfl (Nat.le_of_ble_eq_true rfl) dX13_others_23 (fun H locs hP1 hD1 hk1 hS => ?_)
    have hP := hP1
    have hD := hD1.weaken (fun k q _ h => hFc q.1 h)
    refine lv_if_ne (tgt := 30) hx hb dX13_others_26 (by decide) (fun c8 => ?_) (fun c8 => ?_)
    · have h := nd_neg h c8
      refine lv_iload_n hx hb dX13_others_30 rfl (lv_at hl 2 rfl) ?_
      refine lv_bipush (v := 33) hx hb dX13_others_31 (by decide) ?_
      refine lv_icmp_ge (tgt := 66) hx hb dX13_others_33 (by decide) (fun c9 => ?_) (fun c9 => ?_)
      · have h := nd_pos h c9
        refine lv_iload_n hx hb dX13_others_66 rfl (lv_at hl 2 rfl) ?_
        refine lv_bipush (v := 39) hx hb dX13_others_67 (by decide) ?_
        refine lv_icmp_ne (tgt := 85) hx hb dX13_others_69 (by decide) (fun c10 => ?_) (fun c10 => ?_)
        · have h := nd_neg h c10
          refine lv_aload_n hx hb dX13_others_85 rfl (lv_at hl 1 rfl) ?_
          obtain ⟨q11, s12, hq, h⟩ := nd_b2_e h
          have hPc := hP
          have hDc := hD
          have hKc := hK
          have hFc := nd_rs hD hS hA
          refine nd_cVi (As := []) (rest := []) (q := q11) (w' := dw_X13 a ac s12) ⟨hx, hb, hml, hown, hts⟩ (fun sz => dm_X13_expression l hlt dC dI a ac n  s6 hq sz) (cwV 0 hts gi_dm_X13_others_2 rfl rfl rfl (by decide +kernel) ⟨Nat.le_of_ble_eq_true rfl, Nat.le_of_ble_eq_true rfl⟩) hPc hDc hKc hS hA hN (va_recv hKc hPc (ci := 14) (q0 := 0) rfl rfl) rfl hl.1 rfl (Nat.le_of_ble_eq_true rfl) dX13_others_86 (fun H locs hP1 hD1 hk1 hS => ?_)
          have hP := hP1
          have hD := hD1.weaken (fun k q _ h => hFc q.1 h)
          refine lv_aload_n hx hb dX13_others_89 rfl (lv_at hl 1 rfl) ?_
          refine va_get (D := (dC, dI)) (ci := 14) (v := .int (sI s12 17)) (C := RX13) (T := TX13) (N := 37) hx hb hts hi_dm_X13_others_X13 hown hK hP 0 rfl rfl 26 (by decide) (hts (.fieldLink RX13 486 "TimeMachineModel$Assembler" "address" "I") (List.mem_of_getElem? (i := 11) rfl)) (fun _ h9 => h9) rfl dX13_others_90 ?_
          refine lv_isub hx hb dX13_others_93 ?_
          exact (db_X13_others_94 C K) (v0) (q1) ((q11 - (sI s12 17))) s12 _ _ _ h hP hD hS (lv_sub hl [1, 2, 0] rfl)
        · have h := nd_pos h c10
          refine lv_aload_n hx hb dX13_others_72 rfl (lv_at hl 1 rfl) ?_
          refine lv_ldcw hx hb hown (hts (.constant RX13 603 (-2147483648)) (List.mem_of_getElem? (i := 20) rfl)) dX13_others_73 ?_
          refine lv_ldcw hx hb hown (hts (.constant RX13 604 (2147483647)) (List.mem_of_getElem? (i := 21) rfl)) dX13_others_76 ?_
          obtain ⟨q50, s51, hq, h⟩ := nd_b2_e h
          have hPc := hP
          have hDc := hD
          have hKc := hK
          have hFc := nd_rs hD hS hA
          refine nd_cVi (As := [.int (-2147483648), .int 2147483647]) (rest := []) (q := q50) (w' := dw_X13 a ac s51) ⟨hx, hb, hml, hown, hts⟩ (fun sz => dm_X13_fixed l hlt dC dI a ac n ((-2147483648)) (2147483647) s6 hq sz) (cwV 2 hts gi_dm_X13_others_6 rfl rfl rfl (by decide +kernel) ⟨Nat.le_of_ble_eq_true rfl, Nat.le_of_ble_eq_true rfl⟩) hPc hDc hKc hS hA hN (va_recv hKc hPc (ci := 14) (q0 := 0) rfl rfl) rfl hl.1 rfl (Nat.le_of_ble_eq_true rfl) dX13_others_79 (fun H locs hP1 hD1 hk1 hS => ?_)
          have hP := hP1
          have hD := hD1.weaken (fun k q _ h => hFc q.1 h)
          refine lv_goto (tgt := 94) hx hb dX13_others_82 (by decide) ?_
          exact (db_X13_others_94 C K) (v0) (q1) (q50) s51 _ _ _ h hP hD hS (lv_sub hl [1, 2, 0] rfl)
      · have h := nd_neg h c9
        refine lv_aload_n hx hb dX13_others_36 rfl (lv_at hl 1 rfl) ?_
        refine lv_iload_n hx hb dX13_others_37 rfl (lv_at hl 3 rfl) ?_
        refine lv_iload_n hx hb dX13_others_38 rfl (lv_at hl 0 rfl) ?_
        refine lv_bipush (v := 7) hx hb dX13_others_39 (by decide) ?_
        refine lv_ishl hx hb dX13_others_41 ?_
        refine lv_ior hx hb dX13_others_42 ?_
        refine lv_aload_n hx hb dX13_others_43 rfl (lv_at hl 1 rfl) ?_
        obtain ⟨q53, s54, hq, h⟩ := nd_b2_e h
        have hPc := hP
        have hDc := hD
        have hKc := hK
        have hFc := nd_rs hD hS hA
        refine nd_cVi (As := []) (rest := [.int (v1 ||| ((q1 : Int32) <<< ((7 : Int32) &&& 31))), .ref (a 0)]) (q := q53) (w' := dw_X13 a ac s54) ⟨hx, hb, hml, hown, hts⟩ (fun sz => dm_X13_taken l hlt dC dI a ac n  s6 hq sz) (cwV 0 hts gi_dm_X13_others_0 rfl rfl rfl (by decide +kernel) ⟨Nat.le_of_ble_eq_true rfl, Nat.le_of_ble_eq_true rfl⟩) hPc hDc hKc hS hA hN (va_recv hKc hPc (ci := 14) (q0 := 0) rfl rfl) rfl hl.1 rfl (Nat.le_of_ble_eq_true rfl) dX13_others_44 (fun H locs hP1 hD1 hk1 hS => ?_)
        have hP := hP1
        have hD := hD1.weaken (fun k q _ h => hFc q.1 h)
        refine lv_iload_n hx hb dX13_others_47 rfl (lv_at hl 2 rfl) ?_
        refine lv_bipush (v := 31) hx hb dX13_others_48 (by decide) ?_
        refine lv_icmp_ne (tgt := 58) hx hb dX13_others_50 (by decide) (fun c56 => ?_) (fun c56 => ?_)
        · have h := nd_neg h c56
          refine lv_bipush (v := 20) hx hb dX13_others_58 (by decide) ?_
          exact (db_X13_others_60 C K) ((v1 ||| ((q1 : Int32) <<< ((7 : Int32) &&& 31)))) (q53) (20) s54 _ _ _ h hP hD hS (lv_sub hl [] rfl)
        · have h := nd_pos h c56
          refine lv_bipush (v := 15) hx hb dX13_others_53 (by decide) ?_
          refine lv_goto (tgt := 60) hx hb dX13_others_55 (by decide) ?_
          exact (db_X13_others_60 C K) ((v1 ||| ((q1 : Int32) <<< ((7 : Int32) &&& 31)))) (q53) (15) s54 _ _ _ h hP hD hS (lv_sub hl [] rfl)
    · have h := nd_pos h c8
      exact K _ _ _ _ _ dX13_others_29 (Option.some.inj h).symm hP hD hS
  · have h := nd_pos h c4
    refine lv_aload_n hx hb dX13_others_11 rfl (lv_at hl 1 rfl) ?_
    refine lv_iload_n hx hb dX13_others_12 rfl (lv_at hl 3 rfl) ?_
    refine lv_iload_n hx hb dX13_others_13 rfl (lv_at hl 0 rfl) ?_
    refine lv_bipush (v := 15) hx hb dX13_others_14 (by decide) ?_
    refine lv_ishl hx hb dX13_others_16 ?_
    refine lv_ior hx hb dX13_others_17 ?_
    obtain ⟨s61, hq, h⟩ := nd_b1_e h
    have hPc := hP
    have hDc := hD
    have hKc := hK
    have hFc := nd_rs hD hS hA
    refine nd_cVv (As := [.int (v1 ||| ((q1 : Int32) <<< ((15 : Int32) &&& 31)))]) (rest := []) (w' := dw_X13 a ac s61) ⟨hx, hb, hml, hown, hts⟩ (fun sz => dm_X13_word l hlt dC dI a ac n ((v1 ||| ((q1 : Int32) <<< ((15 : Int32) &&& 31)))) s2 hq sz) (cwV 1 hts gi_dm_X13_others_3 rfl rfl rfl (by decide +kernel) ⟨Nat.le_of_ble_eq_true rfl, Nat.le_of_ble_eq_true rfl⟩) hPc hDc hKc hS hA hN (va_recv hKc hPc (ci := 14) (q0 := 0) rfl rfl) rfl hl.1 rfl (Nat.le_of_ble_eq_true rfl) dX13_others_18 (fun H locs hP1 hD1 hk1 hS => ?_)
    have hP := hP1
    have hD := hD1.weaken (fun k q _ h => hFc q.1 h)
    exact K _ _ _ _ _ dX13_others_21 (Option.some.inj h).symm hP hD hS
set_option maxHeartbeats 40000000 in
set_option maxRecDepth 100000 in
theorem dm_X13_others (l : Launch) (hlt : l.stackTraces = false) (dC : Nat → ClassId) (dI : Nat → Nat → Nat) (a : Nat → Nat) (ac : Nat → ClassId) (n : Nat) (v0 : Int32) (v1 : Int32) (s0 : St) {r : St} (h : df_X13_others n v0 v1 s0 = some r) (sz : Nat) : Met l yX13_others ow_dm_X13_others ({ frames := 9, cells := 0, slots := 0, locals := 205 }) (va_Pc [.ref (a 0), .int v0, .int v1] (fun U => U.heap.size = sz ∧ va_P (dC, dI) vwCl (dw_X13 a ac s0) U.heap ∧ va_K (dC, dI) vwCl (dk_X13 ac) U ∧ va_D (fun _ => True) (dw_X13 a ac s0) ∧ nv_E dI (va_A (dw_X13 a ac s0) sz) U)) (va_Qv (fun _ => True) (fun (_ : Unit) t => va_P (dC, dI) vwCl (dw_X13 a ac r) t.heap ∧ va_K (dC, dI) vwCl (dk_X13 ac) t ∧ va_D (va_A (dw_X13 a ac s0) sz) (dw_X13 a ac r)) (va_A (dw_X13 a ac s0) sz)) 0 0 (va_A (dw_X13 a ac s0) sz) := by
  refine Met.ofW (cc := cX13_others) (maxL := 7) (ret := none) (by decide) rfl ?_
  intro p e s m args below meth c s₁ B hml hv
  obtain ⟨rfl, hsz, hP, hK, hD0, hN⟩ := hv
  have hx := B.exec
  have hb := B.bytes
  have hr := B.returns
  have hts := atoms_spec (ws := ow_dm_X13_others) B.pre
  have hown : s.vm.findClass RX13 = some m.cls := findClass_of_methodNamed B.named
  have hlocks := B.notSynchronized
  subst hsz
  have hD := hD0.self (sz := s.heap.size)
  generalize hAe : va_A (dw_X13 a ac s0) s.heap.size = A at hD hN ⊢
  have hA : ∀ q : Nat, s.heap.size ≤ q → A q := fun q h => by rw [← hAe]; exact Or.inr h
  have hl := lv_entry ([.ref (a 0), .int v0, .int v1]) (n := 7) (Nat.le_of_ble_eq_true rfl)
  rw [lg_entry_eq]
  generalize (lg_sl ([.ref (a 0), .int v0, .int v1]) ++ List.replicate (7 - (lg_sl ([.ref (a 0), .int v0, .int v1])).length) Slot.unset).toArray = ls at hl ⊢
  have hl : lv_has ls 7 [(0, .ref (a 0)), (1, .int v0), (2, .int v1)] := hl
  exact db_X13_others_0 (dC := dC) (dI := dI) (a := a) (ac := ac) (n := n) (r := r) ⟨hlt, hx, hb, hml, hown, hts, hN, hA, hK⟩ (fun pc τ H locs ls d er hP hD hS => by subst er; exact W.vret hx hb hr (fun t ht hW => ⟨⟨(), rfl, trivial, by rw [ht]; exact hP, va_K.moved hW.alike hK, hD⟩, hS.F ht⟩) hS.2.2 d) v0 v1 s0 _ _ _ h hP hD va_S.rf (lv_sub hl [0, 1, 2] rfl)
def ow_dm_X13_notZero : List Cond := Cond.code yX13_notZero cX13_notZero 2 none :: ([Cond.fieldLink RX13 522 "TimeMachineModel$Assembler" "mode" "I", Cond.methodLink RX13 419 yX13_blame, Cond.instanceMethod yX13_blame, Cond.selects RX13 yX13_blame yX13_blame, Cond.initialized RX13] ++ (u_ws RX13 TX13 37 ++ (ow_dm_X13_blame ++ [])))
theorem gd_dm_X13_notZero : ∀ w ∈ ow_dm_X13_notZero, (w.onTables && w.keeps) = true ∨ ∃ ty, w = Cond.arrayClass ty := List.forall_mem_cons.mpr ⟨good_of_word rfl, List.forall_mem_append.mpr ⟨fun w h => good_of_word (List.all_eq_true.mp (by decide +kernel) w h), List.forall_mem_append.mpr ⟨gu_X13, List.forall_mem_append.mpr ⟨gd_dm_X13_blame, fun _ h => nomatch h⟩⟩⟩⟩
theorem hi_dm_X13_notZero_X13 : ∀ w ∈ u_ws RX13 TX13 37, w ∈ ow_dm_X13_notZero := fun w h => List.mem_cons_of_mem _ (List.mem_append_right _ (List.mem_append_left _ h))
theorem gi_dm_X13_notZero_0 : GoodIn ow_dm_X13_notZero (wsV RX13 419 RX13 yX13_blame ow_dm_X13_blame) := goodIn_app (goodIn_of _ (by decide +kernel)) (fun w h => ⟨List.mem_cons_of_mem _ (List.mem_append_right _ (List.mem_append_right _ (List.mem_append_left _ h))), gd_dm_X13_blame w h⟩)
def dj_X13_notZero_18 (p : Program) (l : Launch) (e : Env) (s : State) (m : MethodId) (args : Array Value) (below : List Frame) (meth : Method) (c : Code) (Q : State → Prop) (A : Nat → Prop) (dC : Nat → ClassId) (dI : Nat → Nat → Nat) (a : Nat → Nat) (ac : Nat → ClassId) (g : (St) → Option (St)) (r : St) : Prop := ∀ (s0 : St) (H : Heap) (locs : List Loc) (ls : Array Slot), g s0 = some r → va_P (dC, dI) vwCl (dw_X13 a ac s0) H → va_D A (dw_X13 a ac s0) → va_S A s.heap H locs → lv_has ls 2 [] → W p l e (headSpec ow_dm_X13_notZero ({ frames := 1, cells := 0, slots := 0, locals := 21 })).room s m args below meth c H locs 0 0 Q (F0 m 18 ls [])
def dj_X13_notZero_0 (p : Program) (l : Launch) (e : Env) (s : State) (m : MethodId) (args : Array Value) (below : List Frame) (meth : Method) (c : Code) (Q : State → Prop) (A : Nat → Prop) (dC : Nat → ClassId) (dI : Nat → Nat → Nat) (a : Nat → Nat) (ac : Nat → ClassId) (g : Int32 → (St) → Option (St)) (r : St) : Prop := ∀ (v0 : Int32) (s0 : St) (H : Heap) (locs : List Loc) (ls : Array Slot), g v0 s0 = some r → va_P (dC, dI) vwCl (dw_X13 a ac s0) H → va_D A (dw_X13 a ac s0) → va_S A s.heap H locs → lv_has ls 2 [(0, .ref (a 0)), (1, .int v0)] → W p l e (headSpec ow_dm_X13_notZero ({ frames := 1, cells := 0, slots := 0, locals := 21 })).room s m args below meth c H locs 0 0 Q (F0 m 0 ls [])
set_option maxHeartbeats 40000000 in
set_option maxRecDepth 100000 in
theorem db_X13_notZero_18 {p : Program} {l : Launch} {e : Env} {s : State} {m : MethodId} {args : Array Value} {below : List Frame} {meth : Method} {c : Code} {Q : State → Prop} {A : Nat → Prop} {dC : Nat → ClassId} {dI : Nat → Nat → Nat} {a : Nat → Nat} {ac : Nat → ClassId} {n : Nat} {r : St} (C : nd_C p l s m args c A (dC, dI) cX13_notZero 2 RX13 ow_dm_X13_notZero (dk_X13 ac)) (K : nd_Kv p l e (headSpec ow_dm_X13_notZero ({ frames := 1, cells := 0, slots := 0, locals := 21 })).room s m args below meth c Q A (dC, dI) cX13_notZero (St) (dw_X13 a ac) r) : dj_X13_notZero_18 p l e s m args below meth c Q A dC dI a ac (df_X13_notZero_18 n) r := by
  obtain ⟨hlt, hx, hb, hml, hown, hts, hN, hA, hK⟩ := id C
  intro s0 H locs ls h hP hD hS hl
  unfold df_X13_notZero_18 at h
  exact K _ _ _ _ _ dX13_notZero_18 (Option.some.inj h).symm hP hD hS
set_option maxHeartbeats 40000000 in
set_option maxRecDepth 100000 in
theorem db_X13_notZero_0 {p : Program} {l : Launch} {e : Env} {s : State} {m : MethodId} {args : Array Value} {below : List Frame} {meth : Method} {c : Code} {Q : State → Prop} {A : Nat → Prop} {dC : Nat → ClassId} {dI : Nat → Nat → Nat} {a : Nat → Nat} {ac : Nat → ClassId} {n : Nat} {r : St} (C : nd_C p l s m args c A (dC, dI) cX13_notZero 2 RX13 ow_dm_X13_notZero (dk_X13 ac)) (K : nd_Kv p l e (headSpec ow_dm_X13_notZero ({ frames := 1, cells := 0, slots := 0, locals := 21 })).room s m args below meth c Q A (dC, dI) cX13_notZero (St) (dw_X13 a ac) r) : dj_X13_notZero_0 p l e s m args below meth c Q A dC dI a ac (df_X13_notZero_0 n) r := by
  obtain ⟨hlt, hx, hb, hml, hown, hts, hN, hA, hK⟩ := id C
  intro v0 s0 H locs ls h hP hD hS hl
  unfold df_X13_notZero_0 at h
  refine lv_aload_n hx hb dX13_notZero_0 rfl (lv_at hl 0 rfl) ?_
  refine va_get (D := (dC, dI)) (ci := 14) (v := .int (sI s0 15)) (C := RX13) (T := TX13) (N := 37) hx hb hts hi_dm_X13_notZero_X13 hown hK hP 0 rfl rfl 24 (by decide) (hts (.fieldLink RX13 522 "TimeMachineModel$Assembler" "mode" "I") (List.mem_of_getElem? (i := 1) rfl)) (fun _ h9 => h9) rfl dX13_notZero_1 ?_
  refine lv_iconst (v := 2) hx hb dX13_notZero_4 (by decide) ?_
  refine lv_icmp_ne (tgt := 18) hx hb dX13_notZero_5 (by decide) (fun c1 => ?_) (fun c1 => ?_)
  · have h := nd_neg h c1
    exact (db_X13_notZero_18 C K)  s0 _ _ _ h hP hD hS (lv_sub hl [] rfl)
  · have h := nd_pos h c1
    refine lv_iload_n hx hb dX13_notZero_8 rfl (lv_at hl 1 rfl) ?_
    refine lv_if_ne (tgt := 18) hx hb dX13_notZero_9 (by decide) (fun c2 => ?_) (fun c2 => ?_)
    · have h := nd_neg h c2
      exact (db_X13_notZero_18 C K)  s0 _ _ _ h hP hD hS (lv_sub hl [] rfl)
    · have h := nd_pos h c2
      refine lv_aload_n hx hb dX13_notZero_12 rfl (lv_at hl 0 rfl) ?_
      refine lv_bipush (v := 10) hx hb dX13_notZero_13 (by decide) ?_
      obtain ⟨s4, hq, h⟩ := nd_b1_e h
      have hPc := hP
      have hDc := hD
      have hKc := hK
      have hFc := nd_rs hD hS hA
      refine nd_cVv (As := [.int 10]) (rest := []) (w' := dw_X13 a ac s4) ⟨hx, hb, hml, hown, hts⟩ (fun sz => dm_X13_blame l hlt dC dI a ac n (10) s0 hq sz) (cwV 1 hts gi_dm_X13_notZero_0 rfl rfl rfl (by decide +kernel) ⟨Nat.le_of_ble_eq_true rfl, Nat.le_of_ble_eq_true rfl⟩) hPc hDc hKc hS hA hN (va_recv hKc hPc (ci := 14) (q0 := 0) rfl rfl) rfl hl.1 rfl (Nat.le_of_ble_eq_true rfl) dX13_notZero_15 (fun H locs hP1 hD1 hk1 hS => ?_)
      have hP := hP1
      have hD := hD1.weaken (fun k q _ h => hFc q.1 h)
      exact (db_X13_notZero_18 C K)  s4 _ _ _ h hP hD hS (lv_sub hl [] rfl)
set_option maxHeartbeats 40000000 in
set_option maxRecDepth 100000 in
theorem dm_X13_notZero (l : Launch) (hlt : l.stackTraces = false) (dC : Nat → ClassId) (dI : Nat → Nat → Nat) (a : Nat → Nat) (ac : Nat → ClassId) (n : Nat) (v0 : Int32) (s0 : St) {r : St} (h : df_X13_notZero n v0 s0 = some r) (sz : Nat) : Met l yX13_notZero ow_dm_X13_notZero ({ frames := 1, cells := 0, slots := 0, locals := 21 }) (va_Pc [.ref (a 0), .int v0] (fun U => U.heap.size = sz ∧ va_P (dC, dI) vwCl (dw_X13 a ac s0) U.heap ∧ va_K (dC, dI) vwCl (dk_X13 ac) U ∧ va_D (fun _ => True) (dw_X13 a ac s0) ∧ nv_E dI (va_A (dw_X13 a ac s0) sz) U)) (va_Qv (fun _ => True) (fun (_ : Unit) t => va_P (dC, dI) vwCl (dw_X13 a ac r) t.heap ∧ va_K (dC, dI) vwCl (dk_X13 ac) t ∧ va_D (va_A (dw_X13 a ac s0) sz) (dw_X13 a ac r)) (va_A (dw_X13 a ac s0) sz)) 0 0 (va_A (dw_X13 a ac s0) sz) := by
  refine Met.ofW (cc := cX13_notZero) (maxL := 2) (ret := none) (by decide) rfl ?_
  intro p e s m args below meth c s₁ B hml hv
  obtain ⟨rfl, hsz, hP, hK, hD0, hN⟩ := hv
  have hx := B.exec
  have hb := B.bytes
  have hr := B.returns
  have hts := atoms_spec (ws := ow_dm_X13_notZero) B.pre
  have hown : s.vm.findClass RX13 = some m.cls := findClass_of_methodNamed B.named
  have hlocks := B.notSynchronized
  subst hsz
  have hD := hD0.self (sz := s.heap.size)
  generalize hAe : va_A (dw_X13 a ac s0) s.heap.size = A at hD hN ⊢
  have hA : ∀ q : Nat, s.heap.size ≤ q → A q := fun q h => by rw [← hAe]; exact Or.inr h
  have hl := lv_entry ([.ref (a 0), .int v0]) (n := 2) (Nat.le_of_ble_eq_true rfl)
  rw [lg_entry_eq]
  generalize (lg_sl ([.ref (a 0), .int v0]) ++ List.replicate (2 - (lg_sl ([.ref (a 0), .int v0])).length) Slot.unset).toArray = ls at hl ⊢
  have hl : lv_has ls 2 [(0, .ref (a 0)), (1, .int v0)] := hl
  exact db_X13_notZero_0 (dC := dC) (dI := dI) (a := a) (ac := ac) (n := n) (r := r) ⟨hlt, hx, hb, hml, hown, hts, hN, hA, hK⟩ (fun pc τ H locs ls d er hP hD hS => by subst er; exact W.vret hx hb hr (fun t ht hW => ⟨⟨(), rfl, trivial, by rw [ht]; exact hP, va_K.moved hW.alike hK, hD⟩, hS.F ht⟩) hS.2.2 d) v0 s0 _ _ _ h hP hD va_S.rf (lv_sub hl [0, 1] rfl)
def ow_dm_X13_plainSix : List Cond := Cond.code yX13_plainSix cX13_plainSix 5 none :: ([Cond.methodLink RX13 585 yX13_within, Cond.instanceMethod yX13_within, Cond.selects RX13 yX13_within yX13_within, Cond.initialized RX13, Cond.methodLink RX13 608 yX13_six, Cond.static yX13_six, Cond.methodLink RX13 547 yX13_half, Cond.instanceMethod yX13_half, Cond.selects RX13 yX13_half yX13_half, Cond.methodLink RX13 611 yX13_notZero, Cond.instanceMethod yX13_notZero, Cond.selects RX13 yX13_notZero yX13_notZero] ++ (ow_dm_X13_within ++ (ow_dm_X13_six ++ (ow_dm_X13_half ++ (ow_dm_X13_notZero ++ [])))))
theorem gd_dm_X13_plainSix : ∀ w ∈ ow_dm_X13_plainSix, (w.onTables && w.keeps) = true ∨ ∃ ty, w = Cond.arrayClass ty := List.forall_mem_cons.mpr ⟨good_of_word rfl, List.forall_mem_append.mpr ⟨fun w h => good_of_word (List.all_eq_true.mp (by decide +kernel) w h), List.forall_mem_append.mpr ⟨gd_dm_X13_within, List.forall_mem_append.mpr ⟨gd_dm_X13_six, List.forall_mem_append.mpr ⟨gd_dm_X13_half, List.forall_mem_append.mpr ⟨gd_dm_X13_notZero, fun _ h => nomatch h⟩⟩⟩⟩⟩⟩
theorem gi_dm_X13_plainSix_0 : GoodIn ow_dm_X13_plainSix (wsV RX13 585 RX13 yX13_within ow_dm_X13_within) := goodIn_app (goodIn_of _ (by decide +kernel)) (fun w h => ⟨List.mem_cons_of_mem _ (List.mem_append_right _ (List.mem_append_left _ h)), gd_dm_X13_within w h⟩)
theorem gi_dm_X13_plainSix_1 : GoodIn ow_dm_X13_plainSix (wsS RX13 608 yX13_six ow_dm_X13_six) := goodIn_app (goodIn_of _ (by decide +kernel)) (fun w h => ⟨List.mem_cons_of_mem _ (List.mem_append_right _ (List.mem_append_right _ (List.mem_append_left _ h))), gd_dm_X13_six w h⟩)
theorem gi_dm_X13_plainSix_2 : GoodIn ow_dm_X13_plainSix (wsV RX13 547 RX13 yX13_half ow_dm_X13_half) := goodIn_app (goodIn_of _ (by decide +kernel)) (fun w h => ⟨List.mem_cons_of_mem _ (List.mem_append_right _ (List.mem_append_right _ (List.mem_append_right _ (List.mem_append_left _ h)))), gd_dm_X13_half w h⟩)
theorem gi_dm_X13_plainSix_3 : GoodIn ow_dm_X13_plainSix (wsV RX13 611 RX13 yX13_notZero ow_dm_X13_notZero) := goodIn_app (goodIn_of _ (by decide +kernel)) (fun w h => ⟨List.mem_cons_of_mem _ (List.mem_append_right _ (List.mem_append_right _ (List.mem_append_right _ (List.mem_append_right _ (List.mem_append_left _ h))))), gd_dm_X13_notZero w h⟩)
def dj_X13_plainSix_21 (p : Program) (l : Launch) (e : Env) (s : State) (m : MethodId) (args : Array Value) (below : List Frame) (meth : Method) (c : Code) (Q : State → Prop) (A : Nat → Prop) (dC : Nat → ClassId) (dI : Nat → Nat → Nat) (a : Nat → Nat) (ac : Nat → ClassId) (g : Int32 → Int32 → Int32 → (St) → Option (St)) (r : St) : Prop := ∀ (x1 : Int32) (x2 : Int32) (x4 : Int32) (s0 : St) (H : Heap) (locs : List Loc) (ls : Array Slot), g x1 x2 x4 s0 = some r → va_P (dC, dI) vwCl (dw_X13 a ac s0) H → va_D A (dw_X13 a ac s0) → va_S A s.heap H locs → lv_has ls 5 [(0, .ref (a 0)), (1, .int x1), (2, .int x2), (4, .int x4)] → W p l e (headSpec ow_dm_X13_plainSix ({ frames := 9, cells := 0, slots := 0, locals := 206 })).room s m args below meth c H locs 0 0 Q (F0 m 21 ls [])
def dj_X13_plainSix_0 (p : Program) (l : Launch) (e : Env) (s : State) (m : MethodId) (args : Array Value) (below : List Frame) (meth : Method) (c : Code) (Q : State → Prop) (A : Nat → Prop) (dC : Nat → ClassId) (dI : Nat → Nat → Nat) (a : Nat → Nat) (ac : Nat → ClassId) (g : Int32 → Int32 → Int32 → (St) → Option (St)) (r : St) : Prop := ∀ (v0 : Int32) (v1 : Int32) (v2 : Int32) (s0 : St) (H : Heap) (locs : List Loc) (ls : Array Slot), g v0 v1 v2 s0 = some r → va_P (dC, dI) vwCl (dw_X13 a ac s0) H → va_D A (dw_X13 a ac s0) → va_S A s.heap H locs → lv_has ls 5 [(0, .ref (a 0)), (1, .int v0), (2, .int v1), (3, .int v2)] → W p l e (headSpec ow_dm_X13_plainSix ({ frames := 9, cells := 0, slots := 0, locals := 206 })).room s m args below meth c H locs 0 0 Q (F0 m 0 ls [])
set_option maxHeartbeats 40000000 in
set_option maxRecDepth 100000 in
theorem db_X13_plainSix_21 {p : Program} {l : Launch} {e : Env} {s : State} {m : MethodId} {args : Array Value} {below : List Frame} {meth : Method} {c : Code} {Q : State → Prop} {A : Nat → Prop} {dC : Nat → ClassId} {dI : Nat → Nat → Nat} {a : Nat → Nat} {ac : Nat → ClassId} {n : Nat} {r : St} (C : nd_C p l s m args c A (dC, dI) cX13_plainSix 5 RX13 ow_dm_X13_plainSix (dk_X13 ac)) (K : nd_Kv p l e (headSpec ow_dm_X13_plainSix ({ frames := 9, cells := 0, slots := 0, locals := 206 })).room s m args below meth c Q A (dC, dI) cX13_plainSix (St) (dw_X13 a ac) r) : dj_X13_plainSix_21 p l e s m args below meth c Q A dC dI a ac (df_X13_plainSix_21 n) r := by
  obtain ⟨hlt, hx, hb, hml, hown, hts, hN, hA, hK⟩ := id C
  intro x1 x2 x4 s0 H locs ls h hP hD hS hl
  unfold df_X13_plainSix_21 at h
  refine lv_aload_n hx hb dX13_plainSix_21 rfl (lv_at hl 0 rfl) ?_
  refine lv_iload_n hx hb dX13_plainSix_22 rfl (lv_at hl 1 rfl) ?_
  refine lv_iload_n hx hb dX13_plainSix_23 rfl (lv_at hl 2 rfl) ?_
  refine lv_bipush (v := 7) hx hb dX13_plainSix_24 (by decide) ?_
  refine lv_ishl hx hb dX13_plainSix_26 ?_
  refine lv_ior hx hb dX13_plainSix_27 ?_
  refine lv_iload hx hb dX13_plainSix_28 (lv_at hl 3 rfl) ?_
  obtain ⟨q5, s6, hq, h⟩ := nd_b2_e h
  have hPc : va_P (dC, dI) vwCl (dw_P a ac ()) H := nd_p0
  have hDc : va_D A (dw_P a ac ()) := nd_d0
  have hKc : va_K (dC, dI) vwCl (dk_P ac) s := nd_y0 hK
  have hFc : ∀ q, va_A (dw_P a ac ()) H.size q → A q := nd_r0 hS hA
  refine nd_cSi (As := [.int x4]) (rest := [.int (x1 ||| ((x2 : Int32) <<< ((7 : Int32) &&& 31))), .ref (a 0)]) (q := q5) (w' := dw_P a ac s6) ⟨hx, hb, hml, hown, hts⟩ (fun sz => dm_X13_six l hlt dC dI a ac n (x4) () hq sz) (cwS 1 hts gi_dm_X13_plainSix_1 rfl rfl rfl (by decide +kernel) ⟨Nat.le_of_ble_eq_true rfl, Nat.le_of_ble_eq_true rfl⟩) hPc hDc hKc hS hA hN rfl hl.1 rfl (Nat.le_of_ble_eq_true rfl) dX13_plainSix_30 (fun H locs hP1 hD1 hk1 hS => ?_)
  have hP := nd_n0 hP hk1
  refine lv_ior hx hb dX13_plainSix_33 ?_
  obtain ⟨s9, hq, h⟩ := nd_b1_e h
  have hPc := hP
  have hDc := hD
  have hKc := hK
  have hFc := nd_rs hD hS hA
  refine nd_cVv (As := [.int ((x1 ||| ((x2 : Int32) <<< ((7 : Int32) &&& 31))) ||| q5)]) (rest := []) (w' := dw_X13 a ac s9) ⟨hx, hb, hml, hown, hts⟩ (fun sz => dm_X13_half l hlt dC dI a ac n (((x1 ||| ((x2 : Int32) <<< ((7 : Int32) &&& 31))) ||| q5)) s0 hq sz) (cwV 1 hts gi_dm_X13_plainSix_2 rfl rfl rfl (by decide +kernel) ⟨Nat.le_of_ble_eq_true rfl, Nat.le_of_ble_eq_true rfl⟩) hPc hDc hKc hS hA hN (va_recv hKc hPc (ci := 14) (q0 := 0) rfl rfl) rfl hl.1 rfl (Nat.le_of_ble_eq_true rfl) dX13_plainSix_34 (fun H locs hP1 hD1 hk1 hS => ?_)
  have hP := hP1
  have hD := hD1.weaken (fun k q _ h => hFc q.1 h)
  exact K _ _ _ _ _ dX13_plainSix_37 (Option.some.inj h).symm hP hD hS
set_option maxHeartbeats 40000000 in
set_option maxRecDepth 100000 in
theorem db_X13_plainSix_0 {p : Program} {l : Launch} {e : Env} {s : State} {m : MethodId} {args : Array Value} {below : List Frame} {meth : Method} {c : Code} {Q : State → Prop} {A : Nat → Prop} {dC : Nat → ClassId} {dI : Nat → Nat → Nat} {a : Nat → Nat} {ac : Nat → ClassId} {n : Nat} {r : St} (C : nd_C p l s m args c A (dC, dI) cX13_plainSix 5 RX13 ow_dm_X13_plainSix (dk_X13 ac)) (K : nd_Kv p l e (headSpec ow_dm_X13_plainSix ({ frames := 9, cells := 0, slots := 0, locals := 206 })).room s m args below meth c Q A (dC, dI) cX13_plainSix (St) (dw_X13 a ac) r) : dj_X13_plainSix_0 p l e s m args below meth c Q A dC dI a ac (df_X13_plainSix_0 n) r := by
  obtain ⟨hlt, hx, hb, hml, hown, hts, hN, hA, hK⟩ := id C
  intro v0 v1 v2 s0 H locs ls h hP hD hS hl
  unfold df_X13_plainSix_0 at h
  refine lv_aload_n hx hb dX13_plainSix_0 rfl (lv_at hl 0 rfl) ?_
  refine lv_bipush (v := (-32)) hx hb dX13_plainSix_1 (by decide) ?_
  refine lv_bipush (v := 31) hx hb dX13_plainSix_3 (by decide) ?_
  refine lv_iconst (v := 1) hx hb dX13_plainSix_5 (by decide) ?_
  obtain ⟨q1, s2, hq, h⟩ := nd_b2_e h
  have hPc := hP
  have hDc := hD
  have hKc := hK
  have hFc := nd_rs hD hS hA
  refine nd_cVi (As := [.int (-32), .int 31, .int 1]) (rest := []) (q := q1) (w' := dw_X13 a ac s2) ⟨hx, hb, hml, hown, hts⟩ (fun sz => dm_X13_within l hlt dC dI a ac n ((-32)) (31) (1) s0 hq sz) (cwV 3 hts gi_dm_X13_plainSix_0 rfl rfl rfl (by decide +kernel) ⟨Nat.le_of_ble_eq_true rfl, Nat.le_of_ble_eq_true rfl⟩) hPc hDc hKc hS hA hN (va_recv hKc hPc (ci := 14) (q0 := 0) rfl rfl) rfl hl.1 rfl (Nat.le_of_ble_eq_true rfl) dX13_plainSix_6 (fun H locs hP1 hD1 hk1 hS => ?_)
  have hP := hP1
  have hD := hD1.weaken (fun k q _ h => hFc q.1 h)
  refine lv_istore (lv' := [(4, .int q1), (0, .ref (a 0)), (1, .int v0), (2, .int v1), (3, .int v2)]) hx hb dX13_plainSix_9 hl (by decide) rfl (fun ls hl => ?_)
  refine lv_iload_n hx hb dX13_plainSix_11 rfl (lv_at hl 4 rfl) ?_
  refine lv_if_eq (tgt := 21) hx hb dX13_plainSix_12 (by decide) (fun c4 => ?_) (fun c4 => ?_)
  · have h := nd_pos h c4
    exact (db_X13_plainSix_21 C K) (v0) (v1) (q1) s2 _ _ _ h hP hD hS (lv_sub hl [1, 2, 3, 0] rfl)
  · have h := nd_neg h c4
    refine lv_aload_n hx hb dX13_plainSix_15 rfl (lv_at hl 1 rfl) ?_
    refine lv_iload hx hb dX13_plainSix_16 (lv_at hl 0 rfl) ?_
    obtain ⟨s12, hq, h⟩ := nd_b1_e h
    have hPc := hP
    have hDc := hD
    have hKc := hK
    have hFc := nd_rs hD hS hA
    refine nd_cVv (As := [.int q1]) (rest := []) (w' := dw_X13 a ac s12) ⟨hx, hb, hml, hown, hts⟩ (fun sz => dm_X13_notZero l hlt dC dI a ac n (q1) s2 hq sz) (cwV 1 hts gi_dm_X13_plainSix_3 rfl rfl rfl (by decide +kernel) ⟨Nat.le_of_ble_eq_true rfl, Nat.le_of_ble_eq_true rfl⟩) hPc hDc hKc hS hA hN (va_recv hKc hPc (ci := 14) (q0 := 0) rfl rfl) rfl hl.1 rfl (Nat.le_of_ble_eq_true rfl) dX13_plainSix_18 (fun H locs hP1 hD1 hk1 hS => ?_)
    have hP := hP1
    have hD := hD1.weaken (fun k q _ h => hFc q.1 h)
    exact (db_X13_plainSix_21 C K) (v0) (v1) (q1) s12 _ _ _ h hP hD hS (lv_sub hl [1, 2, 3, 0] rfl)
set_option maxHeartbeats 40000000 in
set_option maxRecDepth 100000 in
theorem dm_X13_plainSix (l : Launch) (hlt : l.stackTraces = false) (dC : Nat → ClassId) (dI : Nat → Nat → Nat) (a : Nat → Nat) (ac : Nat → ClassId) (n : Nat) (v0 : Int32) (v1 : Int32) (v2 : Int32) (s0 : St) {r : St} (h : df_X13_plainSix n v0 v1 v2 s0 = some r) (sz : Nat) : Met l yX13_plainSix ow_dm_X13_plainSix ({ frames := 9, cells := 0, slots := 0, locals := 206 }) (va_Pc [.ref (a 0), .int v0, .int v1, .int v2] (fun U => U.heap.size = sz ∧ va_P (dC, dI) vwCl (dw_X13 a ac s0) U.heap ∧ va_K (dC, dI) vwCl (dk_X13 ac) U ∧ va_D (fun _ => True) (dw_X13 a ac s0) ∧ nv_E dI (va_A (dw_X13 a ac s0) sz) U)) (va_Qv (fun _ => True) (fun (_ : Unit) t => va_P (dC, dI) vwCl (dw_X13 a ac r) t.heap ∧ va_K (dC, dI) vwCl (dk_X13 ac) t ∧ va_D (va_A (dw_X13 a ac s0) sz) (dw_X13 a ac r)) (va_A (dw_X13 a ac s0) sz)) 0 0 (va_A (dw_X13 a ac s0) sz) := by
  refine Met.ofW (cc := cX13_plainSix) (maxL := 5) (ret := none) (by decide) rfl ?_
  intro p e s m args below meth c s₁ B hml hv
  obtain ⟨rfl, hsz, hP, hK, hD0, hN⟩ := hv
  have hx := B.exec
  have hb := B.bytes
  have hr := B.returns
  have hts := atoms_spec (ws := ow_dm_X13_plainSix) B.pre
  have hown : s.vm.findClass RX13 = some m.cls := findClass_of_methodNamed B.named
  have hlocks := B.notSynchronized
  subst hsz
  have hD := hD0.self (sz := s.heap.size)
  generalize hAe : va_A (dw_X13 a ac s0) s.heap.size = A at hD hN ⊢
  have hA : ∀ q : Nat, s.heap.size ≤ q → A q := fun q h => by rw [← hAe]; exact Or.inr h
  have hl := lv_entry ([.ref (a 0), .int v0, .int v1, .int v2]) (n := 5) (Nat.le_of_ble_eq_true rfl)
  rw [lg_entry_eq]
  generalize (lg_sl ([.ref (a 0), .int v0, .int v1, .int v2]) ++ List.replicate (5 - (lg_sl ([.ref (a 0), .int v0, .int v1, .int v2])).length) Slot.unset).toArray = ls at hl ⊢
  have hl : lv_has ls 5 [(0, .ref (a 0)), (1, .int v0), (2, .int v1), (3, .int v2)] := hl
  exact db_X13_plainSix_0 (dC := dC) (dI := dI) (a := a) (ac := ac) (n := n) (r := r) ⟨hlt, hx, hb, hml, hown, hts, hN, hA, hK⟩ (fun pc τ H locs ls d er hP hD hS => by subst er; exact W.vret hx hb hr (fun t ht hW => ⟨⟨(), rfl, trivial, by rw [ht]; exact hP, va_K.moved hW.alike hK, hD⟩, hS.F ht⟩) hS.2.2 d) v0 v1 v2 s0 _ _ _ h hP hD va_S.rf (lv_sub hl [0, 1, 2, 3] rfl)
def ow_dm_X13_stacked : List Cond := Cond.code yX13_stacked cX13_stacked 5 none :: ([Cond.methodLink RX13 585 yX13_within, Cond.instanceMethod yX13_within, Cond.selects RX13 yX13_within yX13_within, Cond.initialized RX13, Cond.methodLink RX13 550 yX13_bits, Cond.static yX13_bits, Cond.methodLink RX13 547 yX13_half, Cond.instanceMethod yX13_half, Cond.selects RX13 yX13_half yX13_half] ++ (ow_dm_X13_within ++ (ow_dm_X13_bits ++ (ow_dm_X13_half ++ []))))
theorem gd_dm_X13_stacked : ∀ w ∈ ow_dm_X13_stacked, (w.onTables && w.keeps) = true ∨ ∃ ty, w = Cond.arrayClass ty := List.forall_mem_cons.mpr ⟨good_of_word rfl, List.forall_mem_append.mpr ⟨fun w h => good_of_word (List.all_eq_true.mp (by decide +kernel) w h), List.forall_mem_append.mpr ⟨gd_dm_X13_within, List.forall_mem_append.mpr ⟨gd_dm_X13_bits, List.forall_mem_append.mpr ⟨gd_dm_X13_half, fun _ h => nomatch h⟩⟩⟩⟩⟩
theorem gi_dm_X13_stacked_0 : GoodIn ow_dm_X13_stacked (wsV RX13 585 RX13 yX13_within ow_dm_X13_within) := goodIn_app (goodIn_of _ (by decide +kernel)) (fun w h => ⟨List.mem_cons_of_mem _ (List.mem_append_right _ (List.mem_append_left _ h)), gd_dm_X13_within w h⟩)
theorem gi_dm_X13_stacked_1 : GoodIn ow_dm_X13_stacked (wsS RX13 550 yX13_bits ow_dm_X13_bits) := goodIn_app (goodIn_of _ (by decide +kernel)) (fun w h => ⟨List.mem_cons_of_mem _ (List.mem_append_right _ (List.mem_append_right _ (List.mem_append_left _ h))), gd_dm_X13_bits w h⟩)
theorem gi_dm_X13_stacked_2 : GoodIn ow_dm_X13_stacked (wsV RX13 547 RX13 yX13_half ow_dm_X13_half) := goodIn_app (goodIn_of _ (by decide +kernel)) (fun w h => ⟨List.mem_cons_of_mem _ (List.mem_append_right _ (List.mem_append_right _ (List.mem_append_right _ (List.mem_append_left _ h)))), gd_dm_X13_half w h⟩)
def dj_X13_stacked_84 (p : Program) (l : Launch) (e : Env) (s : State) (m : MethodId) (args : Array Value) (below : List Frame) (meth : Method) (c : Code) (Q : State → Prop) (A : Nat → Prop) (dC : Nat → ClassId) (dI : Nat → Nat → Nat) (a : Nat → Nat) (ac : Nat → ClassId) (g : Int32 → (St) → Option (St)) (r : St) : Prop := ∀ (y1 : Int32) (s0 : St) (H : Heap) (locs : List Loc) (ls : Array Slot), g y1 s0 = some r → va_P (dC, dI) vwCl (dw_X13 a ac s0) H → va_D A (dw_X13 a ac s0) → va_S A s.heap H locs → lv_has ls 5 [] → W p l e (headSpec ow_dm_X13_stacked ({ frames := 9, cells := 0, slots := 0, locals := 206 })).room s m args below meth c H locs 0 0 Q (F0 m 84 ls [.int y1, .ref (a 0)])
def dj_X13_stacked_0 (p : Program) (l : Launch) (e : Env) (s : State) (m : MethodId) (args : Array Value) (below : List Frame) (meth : Method) (c : Code) (Q : State → Prop) (A : Nat → Prop) (dC : Nat → ClassId) (dI : Nat → Nat → Nat) (a : Nat → Nat) (ac : Nat → ClassId) (g : Int32 → Int32 → Int32 → (St) → Option (St)) (r : St) : Prop := ∀ (v0 : Int32) (v1 : Int32) (v2 : Int32) (s0 : St) (H : Heap) (locs : List Loc) (ls : Array Slot), g v0 v1 v2 s0 = some r → va_P (dC, dI) vwCl (dw_X13 a ac s0) H → va_D A (dw_X13 a ac s0) → va_S A s.heap H locs → lv_has ls 5 [(0, .ref (a 0)), (1, .int v0), (2, .int v1), (3, .int v2)] → W p l e (headSpec ow_dm_X13_stacked ({ frames := 9, cells := 0, slots := 0, locals := 206 })).room s m args below meth c H locs 0 0 Q (F0 m 0 ls [])
set_option maxHeartbeats 40000000 in
set_option maxRecDepth 100000 in
theorem db_X13_stacked_84 {p : Program} {l : Launch} {e : Env} {s : State} {m : MethodId} {args : Array Value} {below : List Frame} {meth : Method} {c : Code} {Q : State → Prop} {A : Nat → Prop} {dC : Nat → ClassId} {dI : Nat → Nat → Nat} {a : Nat → Nat} {ac : Nat → ClassId} {n : Nat} {r : St} (C : nd_C p l s m args c A (dC, dI) cX13_stacked 5 RX13 ow_dm_X13_stacked (dk_X13 ac)) (K : nd_Kv p l e (headSpec ow_dm_X13_stacked ({ frames := 9, cells := 0, slots := 0, locals := 206 })).room s m args below meth c Q A (dC, dI) cX13_stacked (St) (dw_X13 a ac) r) : dj_X13_stacked_84 p l e s m args below meth c Q A dC dI a ac (df_X13_stacked_84 n) r := by
  obtain ⟨hlt, hx, hb, hml, hown, hts, hN, hA, hK⟩ := id C
  intro y1 s0 H locs ls h hP hD hS hl
  unfold df_X13_stacked_84 at h
  obtain ⟨s12, hq, h⟩ := nd_b1_e h
  have hPc := hP
  have hDc := hD
  have hKc := hK
  have hFc := nd_rs hD hS hA
  refine nd_cVv (As := [.int y1]) (rest := []) (w' := dw_X13 a ac s12) ⟨hx, hb, hml, hown, hts⟩ (fun sz => dm_X13_half l hlt dC dI a ac n (y1) s0 hq sz) (cwV 1 hts gi_dm_X13_stacked_2 rfl rfl rfl (by decide +kernel) ⟨Nat.le_of_ble_eq_true rfl, Nat.le_of_ble_eq_true rfl⟩) hPc hDc hKc hS hA hN (va_recv hKc hPc (ci := 14) (q0 := 0) rfl rfl) rfl hl.1 rfl (Nat.le_of_ble_eq_true rfl) dX13_stacked_84 (fun H locs hP1 hD1 hk1 hS => ?_)
  have hP := hP1
  have hD := hD1.weaken (fun k q _ h => hFc q.1 h)
  exact K _ _ _ _ _ dX13_stacked_87 (Option.some.inj h).symm hP hD hS
set_option maxHeartbeats 40000000 in
set_option maxRecDepth 100000 in
theorem db_X13_stacked_0 {p : Program} {l : Launch} {e : Env} {s : State} {m : MethodId} {args : Array Value} {below : List Frame} {meth : Method} {c : Code} {Q : State → Prop} {A : Nat → Prop} {dC : Nat → ClassId} {dI : Nat → Nat → Nat} {a : Nat → Nat} {ac : Nat → ClassId} {n : Nat} {r : St} (C : nd_C p l s m args c A (dC, dI) cX13_stacked 5 RX13 ow_dm_X13_stacked (dk_X13 ac)) (K : nd_Kv p l e (headSpec ow_dm_X13_stacked ({ frames := 9, cells := 0, slots := 0, locals := 206 })).room s m args below meth c Q A (dC, dI) cX13_stacked (St) (dw_X13 a ac) r) : dj_X13_stacked_0 p l e s m args below meth c Q A dC dI a ac (df_X13_stacked_0 n) r := by
  obtain ⟨hlt, hx, hb, hml, hown, hts, hN, hA, hK⟩ := id C
  intro v0 v1 v2 s0 H locs ls h hP hD hS hl
  unfold df_X13_stacked_0 at h
  refine lv_aload_n hx hb dX13_stacked_0 rfl (lv_at hl 0 rfl) ?_
  refine lv_iconst (v := 0) hx hb dX13_stacked_1 (by decide) ?_
  refine lv_sipush (v := 252) hx hb dX13_stacked_2 (by decide) ?_
  refine lv_iconst (v := 4) hx hb dX13_stacked_5 (by decide) ?_
  obtain ⟨q1, s2, hq, h⟩ := nd_b2_e h
  have hPc := hP
  have hDc := hD
  have hKc := hK
  have hFc := nd_rs hD hS hA
  refine nd_cVi (As := [.int 0, .int 252, .int 4]) (rest := []) (q := q1) (w' := dw_X13 a ac s2) ⟨hx, hb, hml, hown, hts⟩ (fun sz => dm_X13_within l hlt dC dI a ac n (0) (252) (4) s0 hq sz) (cwV 3 hts gi_dm_X13_stacked_0 rfl rfl rfl (by decide +kernel) ⟨Nat.le_of_ble_eq_true rfl, Nat.le_of_ble_eq_true rfl⟩) hPc hDc hKc hS hA hN (va_recv hKc hPc (ci := 14) (q0 := 0) rfl rfl) rfl hl.1 rfl (Nat.le_of_ble_eq_true rfl) dX13_stacked_6 (fun H locs hP1 hD1 hk1 hS => ?_)
  have hP := hP1
  have hD := hD1.weaken (fun k q _ h => hFc q.1 h)
  refine lv_istore (lv' := [(4, .int q1), (0, .ref (a 0)), (1, .int v0), (2, .int v1), (3, .int v2)]) hx hb dX13_stacked_9 hl (by decide) rfl (fun ls hl => ?_)
  refine lv_aload_n hx hb dX13_stacked_11 rfl (lv_at hl 1 rfl) ?_
  refine lv_iload_n hx hb dX13_stacked_12 rfl (lv_at hl 2 rfl) ?_
  refine lv_bipush (v := 26) hx hb dX13_stacked_13 (by decide) ?_
  refine lv_icmp_ne (tgt := 57) hx hb dX13_stacked_15 (by decide) (fun c4 => ?_) (fun c4 => ?_)
  · have h := nd_neg h c4
    refine lv_iload_n hx hb dX13_stacked_57 rfl (lv_at hl 3 rfl) ?_
    refine lv_iload_n hx hb dX13_stacked_58 rfl (lv_at hl 4 rfl) ?_
    refine lv_iconst (v := 2) hx hb dX13_stacked_59 (by decide) ?_
    refine lv_ishl hx hb dX13_stacked_60 ?_
    refine lv_ior hx hb dX13_stacked_61 ?_
    refine lv_iload hx hb dX13_stacked_62 (lv_at hl 0 rfl) ?_
    refine lv_iconst (v := 5) hx hb dX13_stacked_64 (by decide) ?_
    refine lv_iconst (v := 2) hx hb dX13_stacked_65 (by decide) ?_
    refine lv_bipush (v := 9) hx hb dX13_stacked_66 (by decide) ?_
    obtain ⟨q5, s6, hq, h⟩ := nd_b2_e h
    have hPc : va_P (dC, dI) vwCl (dw_P a ac ()) H := nd_p0
    have hDc : va_D A (dw_P a ac ()) := nd_d0
    have hKc : va_K (dC, dI) vwCl (dk_P ac) s := nd_y0 hK
    have hFc : ∀ q, va_A (dw_P a ac ()) H.size q → A q := nd_r0 hS hA
    refine nd_cSi (As := [.int q1, .int 5, .int 2, .int 9]) (rest := [.int (v1 ||| ((v2 : Int32) <<< ((2 : Int32) &&& 31))), .ref (a 0)]) (q := q5) (w' := dw_P a ac s6) ⟨hx, hb, hml, hown, hts⟩ (fun sz => dm_X13_bits l hlt dC dI a ac n (q1) (5) (2) (9) () hq sz) (cwS 4 hts gi_dm_X13_stacked_1 rfl rfl rfl (by decide +kernel) ⟨Nat.le_of_ble_eq_true rfl, Nat.le_of_ble_eq_true rfl⟩) hPc hDc hKc hS hA hN rfl hl.1 rfl (Nat.le_of_ble_eq_true rfl) dX13_stacked_68 (fun H locs hP1 hD1 hk1 hS => ?_)
    have hP := nd_n0 hP hk1
    refine lv_ior hx hb dX13_stacked_71 ?_
    refine lv_iload hx hb dX13_stacked_72 (lv_at hl 0 rfl) ?_
    refine lv_bipush (v := 7) hx hb dX13_stacked_74 (by decide) ?_
    refine lv_bipush (v := 6) hx hb dX13_stacked_76 (by decide) ?_
    refine lv_bipush (v := 7) hx hb dX13_stacked_78 (by decide) ?_
    obtain ⟨q8, s9, hq, h⟩ := nd_b2_e h
    have hPc : va_P (dC, dI) vwCl (dw_P a ac ()) H := nd_p0
    have hDc : va_D A (dw_P a ac ()) := nd_d0
    have hKc : va_K (dC, dI) vwCl (dk_P ac) s := nd_y0 hK
    have hFc : ∀ q, va_A (dw_P a ac ()) H.size q → A q := nd_r0 hS hA
    refine nd_cSi (As := [.int q1, .int 7, .int 6, .int 7]) (rest := [.int ((v1 ||| ((v2 : Int32) <<< ((2 : Int32) &&& 31))) ||| q5), .ref (a 0)]) (q := q8) (w' := dw_P a ac s9) ⟨hx, hb, hml, hown, hts⟩ (fun sz => dm_X13_bits l hlt dC dI a ac n (q1) (7) (6) (7) () hq sz) (cwS 4 hts gi_dm_X13_stacked_1 rfl rfl rfl (by decide +kernel) ⟨Nat.le_of_ble_eq_true rfl, Nat.le_of_ble_eq_true rfl⟩) hPc hDc hKc hS hA hN rfl hl.1 rfl (Nat.le_of_ble_eq_true rfl) dX13_stacked_80 (fun H locs hP1 hD1 hk1 hS => ?_)
    have hP := nd_n0 hP hk1
    refine lv_ior hx hb dX13_stacked_83 ?_
    exact (db_X13_stacked_84 C K) ((((v1 ||| ((v2 : Int32) <<< ((2 : Int32) &&& 31))) ||| q5) ||| q8)) s2 _ _ _ h hP hD hS (lv_sub hl [] rfl)
  · have h := nd_pos h c4
    refine lv_iload_n hx hb dX13_stacked_18 rfl (lv_at hl 3 rfl) ?_
    refine lv_iload_n hx hb dX13_stacked_19 rfl (lv_at hl 4 rfl) ?_
    refine lv_bipush (v := 7) hx hb dX13_stacked_20 (by decide) ?_
    refine lv_ishl hx hb dX13_stacked_22 ?_
    refine lv_ior hx hb dX13_stacked_23 ?_
    refine lv_iload hx hb dX13_stacked_24 (lv_at hl 0 rfl) ?_
    refine lv_iconst (v := 5) hx hb dX13_stacked_26 (by decide) ?_
    refine lv_iconst (v := 5) hx hb dX13_stacked_27 (by decide) ?_
    refine lv_bipush (v := 12) hx hb dX13_stacked_28 (by decide) ?_
    obtain ⟨q14, s15, hq, h⟩ := nd_b2_e h
    have hPc : va_P (dC, dI) vwCl (dw_P a ac ()) H := nd_p0
    have hDc : va_D A (dw_P a ac ()) := nd_d0
    have hKc : va_K (dC, dI) vwCl (dk_P ac) s := nd_y0 hK
    have hFc : ∀ q, va_A (dw_P a ac ()) H.size q → A q := nd_r0 hS hA
    refine nd_cSi (As := [.int q1, .int 5, .int 5, .int 12]) (rest := [.int (v1 ||| ((v2 : Int32) <<< ((7 : Int32) &&& 31))), .ref (a 0)]) (q := q14) (w' := dw_P a ac s15) ⟨hx, hb, hml, hown, hts⟩ (fun sz => dm_X13_bits l hlt dC dI a ac n (q1) (5) (5) (12) () hq sz) (cwS 4 hts gi_dm_X13_stacked_1 rfl rfl rfl (by decide +kernel) ⟨Nat.le_of_ble_eq_true rfl, Nat.le_of_ble_eq_true rfl⟩) hPc hDc hKc hS hA hN rfl hl.1 rfl (Nat.le_of_ble_eq_true rfl) dX13_stacked_30 (fun H locs hP1 hD1 hk1 hS => ?_)
    have hP := nd_n0 hP hk1
    refine lv_ior hx hb dX13_stacked_33 ?_
    refine lv_iload hx hb dX13_stacked_34 (lv_at hl 0 rfl) ?_
    refine lv_iconst (v := 4) hx hb dX13_stacked_36 (by decide) ?_
    refine lv_iconst (v := 2) hx hb dX13_stacked_37 (by decide) ?_
    refine lv_iconst (v := 4) hx hb dX13_stacked_38 (by decide) ?_
    obtain ⟨q17, s18, hq, h⟩ := nd_b2_e h
    have hPc : va_P (dC, dI) vwCl (dw_P a ac ()) H := nd_p0
    have hDc : va_D A (dw_P a ac ()) := nd_d0
    have hKc : va_K (dC, dI) vwCl (dk_P ac) s := nd_y0 hK
    have hFc : ∀ q, va_A (dw_P a ac ()) H.size q → A q := nd_r0 hS hA
    refine nd_cSi (As := [.int q1, .int 4, .int 2, .int 4]) (rest := [.int ((v1 ||| ((v2 : Int32) <<< ((7 : Int32) &&& 31))) ||| q14), .ref (a 0)]) (q := q17) (w' := dw_P a ac s18) ⟨hx, hb, hml, hown, hts⟩ (fun sz => dm_X13_bits l hlt dC dI a ac n (q1) (4) (2) (4) () hq sz) (cwS 4 hts gi_dm_X13_stacked_1 rfl rfl rfl (by decide +kernel) ⟨Nat.le_of_ble_eq_true rfl, Nat.le_of_ble_eq_true rfl⟩) hPc hDc hKc hS hA hN rfl hl.1 rfl (Nat.le_of_ble_eq_true rfl) dX13_stacked_39 (fun H locs hP1 hD1 hk1 hS => ?_)
    have hP := nd_n0 hP hk1
    refine lv_ior hx hb dX13_stacked_42 ?_
    refine lv_iload hx hb dX13_stacked_43 (lv_at hl 0 rfl) ?_
    refine lv_bipush (v := 7) hx hb dX13_stacked_45 (by decide) ?_
    refine lv_bipush (v := 6) hx hb dX13_stacked_47 (by decide) ?_
    refine lv_iconst (v := 2) hx hb dX13_stacked_49 (by decide) ?_
    obtain ⟨q20, s21, hq, h⟩ := nd_b2_e h
    have hPc : va_P (dC, dI) vwCl (dw_P a ac ()) H := nd_p0
    have hDc : va_D A (dw_P a ac ()) := nd_d0
    have hKc : va_K (dC, dI) vwCl (dk_P ac) s := nd_y0 hK
    have hFc : ∀ q, va_A (dw_P a ac ()) H.size q → A q := nd_r0 hS hA
    refine nd_cSi (As := [.int q1, .int 7, .int 6, .int 2]) (rest := [.int (((v1 ||| ((v2 : Int32) <<< ((7 : Int32) &&& 31))) ||| q14) ||| q17), .ref (a 0)]) (q := q20) (w' := dw_P a ac s21) ⟨hx, hb, hml, hown, hts⟩ (fun sz => dm_X13_bits l hlt dC dI a ac n (q1) (7) (6) (2) () hq sz) (cwS 4 hts gi_dm_X13_stacked_1 rfl rfl rfl (by decide +kernel) ⟨Nat.le_of_ble_eq_true rfl, Nat.le_of_ble_eq_true rfl⟩) hPc hDc hKc hS hA hN rfl hl.1 rfl (Nat.le_of_ble_eq_true rfl) dX13_stacked_50 (fun H locs hP1 hD1 hk1 hS => ?_)
    have hP := nd_n0 hP hk1
    refine lv_ior hx hb dX13_stacked_53 ?_
    refine lv_goto (tgt := 84) hx hb dX13_stacked_54 (by decide) ?_
    exact (db_X13_stacked_84 C K) (((((v1 ||| ((v2 : Int32) <<< ((7 : Int32) &&& 31))) ||| q14) ||| q17) ||| q20)) s2 _ _ _ h hP hD hS (lv_sub hl [] rfl)
set_option maxHeartbeats 40000000 in
set_option maxRecDepth 100000 in
theorem dm_X13_stacked (l : Launch) (hlt : l.stackTraces = false) (dC : Nat → ClassId) (dI : Nat → Nat → Nat) (a : Nat → Nat) (ac : Nat → ClassId) (n : Nat) (v0 : Int32) (v1 : Int32) (v2 : Int32) (s0 : St) {r : St} (h : df_X13_stacked n v0 v1 v2 s0 = some r) (sz : Nat) : Met l yX13_stacked ow_dm_X13_stacked ({ frames := 9, cells := 0, slots := 0, locals := 206 }) (va_Pc [.ref (a 0), .int v0, .int v1, .int v2] (fun U => U.heap.size = sz ∧ va_P (dC, dI) vwCl (dw_X13 a ac s0) U.heap ∧ va_K (dC, dI) vwCl (dk_X13 ac) U ∧ va_D (fun _ => True) (dw_X13 a ac s0) ∧ nv_E dI (va_A (dw_X13 a ac s0) sz) U)) (va_Qv (fun _ => True) (fun (_ : Unit) t => va_P (dC, dI) vwCl (dw_X13 a ac r) t.heap ∧ va_K (dC, dI) vwCl (dk_X13 ac) t ∧ va_D (va_A (dw_X13 a ac s0) sz) (dw_X13 a ac r)) (va_A (dw_X13 a ac s0) sz)) 0 0 (va_A (dw_X13 a ac s0) sz) := by
  refine Met.ofW (cc := cX13_stacked) (maxL := 5) (ret := none) (by decide) rfl ?_
  intro p e s m args below meth c s₁ B hml hv
  obtain ⟨rfl, hsz, hP, hK, hD0, hN⟩ := hv
  have hx := B.exec
  have hb := B.bytes
  have hr := B.returns
  have hts := atoms_spec (ws := ow_dm_X13_stacked) B.pre
  have hown : s.vm.findClass RX13 = some m.cls := findClass_of_methodNamed B.named
  have hlocks := B.notSynchronized
  subst hsz
  have hD := hD0.self (sz := s.heap.size)
  generalize hAe : va_A (dw_X13 a ac s0) s.heap.size = A at hD hN ⊢
  have hA : ∀ q : Nat, s.heap.size ≤ q → A q := fun q h => by rw [← hAe]; exact Or.inr h
  have hl := lv_entry ([.ref (a 0), .int v0, .int v1, .int v2]) (n := 5) (Nat.le_of_ble_eq_true rfl)
  rw [lg_entry_eq]
  generalize (lg_sl ([.ref (a 0), .int v0, .int v1, .int v2]) ++ List.replicate (5 - (lg_sl ([.ref (a 0), .int v0, .int v1, .int v2])).length) Slot.unset).toArray = ls at hl ⊢
  have hl : lv_has ls 5 [(0, .ref (a 0)), (1, .int v0), (2, .int v1), (3, .int v2)] := hl
  exact db_X13_stacked_0 (dC := dC) (dI := dI) (a := a) (ac := ac) (n := n) (r := r) ⟨hlt, hx, hb, hml, hown, hts, hN, hA, hK⟩ (fun pc τ H locs ls d er hP hD hS => by subst er; exact W.vret hx hb hr (fun t ht hW => ⟨⟨(), rfl, trivial, by rw [ht]; exact hP, va_K.moved hW.alike hK, hD⟩, hS.F ht⟩) hS.2.2 d) v0 v1 v2 s0 _ _ _ h hP hD va_S.rf (lv_sub hl [0, 1, 2, 3] rfl)
def ow_dm_X13_smalls : List Cond := Cond.code yX13_smalls cX13_smalls 6 none :: ([Cond.methodLink RX13 525 yX13_expression, Cond.instanceMethod yX13_expression, Cond.selects RX13 yX13_expression yX13_expression, Cond.initialized RX13, Cond.fieldLink RX13 486 "TimeMachineModel$Assembler" "address" "I", Cond.methodLink RX13 528 yX13_fits, Cond.instanceMethod yX13_fits, Cond.selects RX13 yX13_fits yX13_fits, Cond.methodLink RX13 573 yX13_shortBranch, Cond.static yX13_shortBranch, Cond.methodLink RX13 547 yX13_half, Cond.instanceMethod yX13_half, Cond.selects RX13 yX13_half yX13_half, Cond.methodLink RX13 614 yX13_near8, Cond.instanceMethod yX13_near8, Cond.selects RX13 yX13_near8 yX13_near8, Cond.methodLink RX13 585 yX13_within, Cond.instanceMethod yX13_within, Cond.selects RX13 yX13_within yX13_within, Cond.methodLink RX13 608 yX13_six, Cond.static yX13_six, Cond.fieldLink RX13 410 "TimeMachineModel$Assembler" "fault" "I", Cond.methodLink RX13 550 yX13_bits, Cond.static yX13_bits, Cond.methodLink RX13 506 yX13_needs, Cond.instanceMethod yX13_needs, Cond.selects RX13 yX13_needs yX13_needs] ++ (u_ws RX13 TX13 37 ++ (ow_dm_X13_expression ++ (ow_dm_X13_fits ++ (ow_dm_X13_shortBranch ++ (ow_dm_X13_half ++ (ow_dm_X13_near8 ++ (ow_dm_X13_within ++ (ow_dm_X13_six ++ (ow_dm_X13_bits ++ (ow_dm_X13_needs ++ [])))))))))))
theorem gd_dm_X13_smalls : ∀ w ∈ ow_dm_X13_smalls, (w.onTables && w.keeps) = true ∨ ∃ ty, w = Cond.arrayClass ty := List.forall_mem_cons.mpr ⟨good_of_word rfl, List.forall_mem_append.mpr ⟨fun w h => good_of_word (List.all_eq_true.mp (by decide +kernel) w h), List.forall_mem_append.mpr ⟨gu_X13, List.forall_mem_append.mpr ⟨gd_dm_X13_expression, List.forall_mem_append.mpr ⟨gd_dm_X13_fits, List.forall_mem_append.mpr ⟨gd_dm_X13_shortBranch, List.forall_mem_append.mpr ⟨gd_dm_X13_half, List.forall_mem_append.mpr ⟨gd_dm_X13_near8, List.forall_mem_append.mpr ⟨gd_dm_X13_within, List.forall_mem_append.mpr ⟨gd_dm_X13_six, List.forall_mem_append.mpr ⟨gd_dm_X13_bits, List.forall_mem_append.mpr ⟨gd_dm_X13_needs, fun _ h => nomatch h⟩⟩⟩⟩⟩⟩⟩⟩⟩⟩⟩⟩
theorem hi_dm_X13_smalls_X13 : ∀ w ∈ u_ws RX13 TX13 37, w ∈ ow_dm_X13_smalls := fun w h => List.mem_cons_of_mem _ (List.mem_append_right _ (List.mem_append_left _ h))
theorem gi_dm_X13_smalls_0 : GoodIn ow_dm_X13_smalls (wsV RX13 525 RX13 yX13_expression ow_dm_X13_expression) := goodIn_app (goodIn_of _ (by decide +kernel)) (fun w h => ⟨List.mem_cons_of_mem _ (List.mem_append_right _ (List.mem_append_right _ (List.mem_append_left _ h))), gd_dm_X13_expression w h⟩)
theorem gi_dm_X13_smalls_1 : GoodIn ow_dm_X13_smalls (wsV RX13 528 RX13 yX13_fits ow_dm_X13_fits) := goodIn_app (goodIn_of _ (by decide +kernel)) (fun w h => ⟨List.mem_cons_of_mem _ (List.mem_append_right _ (List.mem_append_right _ (List.mem_append_right _ (List.mem_append_left _ h)))), gd_dm_X13_fits w h⟩)
theorem gi_dm_X13_smalls_2 : GoodIn ow_dm_X13_smalls (wsS RX13 573 yX13_shortBranch ow_dm_X13_shortBranch) := goodIn_app (goodIn_of _ (by decide +kernel)) (fun w h => ⟨List.mem_cons_of_mem _ (List.mem_append_right _ (List.mem_append_right _ (List.mem_append_right _ (List.mem_append_right _ (List.mem_append_left _ h))))), gd_dm_X13_shortBranch w h⟩)
theorem gi_dm_X13_smalls_3 : GoodIn ow_dm_X13_smalls (wsV RX13 547 RX13 yX13_half ow_dm_X13_half) := goodIn_app (goodIn_of _ (by decide +kernel)) (fun w h => ⟨List.mem_cons_of_mem _ (List.mem_append_right _ (List.mem_append_right _ (List.mem_append_right _ (List.mem_append_right _ (List.mem_append_right _ (List.mem_append_left _ h)))))), gd_dm_X13_half w h⟩)
theorem gi_dm_X13_smalls_4 : GoodIn ow_dm_X13_smalls (wsV RX13 614 RX13 yX13_near8 ow_dm_X13_near8) := goodIn_app (goodIn_of _ (by decide +kernel)) (fun w h => ⟨List.mem_cons_of_mem _ (List.mem_append_right _ (List.mem_append_right _ (List.mem_append_right _ (List.mem_append_right _ (List.mem_append_right _ (List.mem_append_right _ (List.mem_append_left _ h))))))), gd_dm_X13_near8 w h⟩)
theorem gi_dm_X13_smalls_5 : GoodIn ow_dm_X13_smalls (wsV RX13 585 RX13 yX13_within ow_dm_X13_within) := goodIn_app (goodIn_of _ (by decide +kernel)) (fun w h => ⟨List.mem_cons_of_mem _ (List.mem_append_right _ (List.mem_append_right _ (List.mem_append_right _ (List.mem_append_right _ (List.mem_append_right _ (List.mem_append_right _ (List.mem_append_right _ (List.mem_append_left _ h)))))))), gd_dm_X13_within w h⟩)
theorem gi_dm_X13_smalls_6 : GoodIn ow_dm_X13_smalls (wsS RX13 608 yX13_six ow_dm_X13_six) := goodIn_app (goodIn_of _ (by decide +kernel)) (fun w h => ⟨List.mem_cons_of_mem _ (List.mem_append_right _ (List.mem_append_right _ (List.mem_append_right _ (List.mem_append_right _ (List.mem_append_right _ (List.mem_append_right _ (List.mem_append_right _ (List.mem_append_right _ (List.mem_append_left _ h))))))))), gd_dm_X13_six w h⟩)
theorem gi_dm_X13_smalls_7 : GoodIn ow_dm_X13_smalls (wsS RX13 550 yX13_bits ow_dm_X13_bits) := goodIn_app (goodIn_of _ (by decide +kernel)) (fun w h => ⟨List.mem_cons_of_mem _ (List.mem_append_right _ (List.mem_append_right _ (List.mem_append_right _ (List.mem_append_right _ (List.mem_append_right _ (List.mem_append_right _ (List.mem_append_right _ (List.mem_append_right _ (List.mem_append_right _ (List.mem_append_left _ h)))))))))), gd_dm_X13_bits w h⟩)
theorem gi_dm_X13_smalls_8 : GoodIn ow_dm_X13_smalls (wsV RX13 506 RX13 yX13_needs ow_dm_X13_needs) := goodIn_app (goodIn_of _ (by decide +kernel)) (fun w h => ⟨List.mem_cons_of_mem _ (List.mem_append_right _ (List.mem_append_right _ (List.mem_append_right _ (List.mem_append_right _ (List.mem_append_right _ (List.mem_append_right _ (List.mem_append_right _ (List.mem_append_right _ (List.mem_append_right _ (List.mem_append_right _ (List.mem_append_left _ h))))))))))), gd_dm_X13_needs w h⟩)
def dj_X13_smalls_306 (p : Program) (l : Launch) (e : Env) (s : State) (m : MethodId) (args : Array Value) (below : List Frame) (meth : Method) (c : Code) (Q : State → Prop) (A : Nat → Prop) (dC : Nat → ClassId) (dI : Nat → Nat → Nat) (a : Nat → Nat) (ac : Nat → ClassId) (g : (St) → Option (St)) (r : St) : Prop := ∀ (s0 : St) (H : Heap) (locs : List Loc) (ls : Array Slot), g s0 = some r → va_P (dC, dI) vwCl (dw_X13 a ac s0) H → va_D A (dw_X13 a ac s0) → va_S A s.heap H locs → lv_has ls 6 [] → W p l e (headSpec ow_dm_X13_smalls ({ frames := 9, cells := 0, slots := 0, locals := 206 })).room s m args below meth c H locs 0 0 Q (F0 m 306 ls [])
def dj_X13_smalls_126 (p : Program) (l : Launch) (e : Env) (s : State) (m : MethodId) (args : Array Value) (below : List Frame) (meth : Method) (c : Code) (Q : State → Prop) (A : Nat → Prop) (dC : Nat → ClassId) (dI : Nat → Nat → Nat) (a : Nat → Nat) (ac : Nat → ClassId) (g : Int32 → Int32 → Int32 → Int32 → (St) → Option (St)) (r : St) : Prop := ∀ (x2 : Int32) (x3 : Int32) (x4 : Int32) (x5 : Int32) (s0 : St) (H : Heap) (locs : List Loc) (ls : Array Slot), g x2 x3 x4 x5 s0 = some r → va_P (dC, dI) vwCl (dw_X13 a ac s0) H → va_D A (dw_X13 a ac s0) → va_S A s.heap H locs → lv_has ls 6 [(0, .ref (a 0)), (2, .int x2), (3, .int x3), (4, .int x4), (5, .int x5)] → W p l e (headSpec ow_dm_X13_smalls ({ frames := 9, cells := 0, slots := 0, locals := 206 })).room s m args below meth c H locs 0 0 Q (F0 m 126 ls [])
def dj_X13_smalls_110 (p : Program) (l : Launch) (e : Env) (s : State) (m : MethodId) (args : Array Value) (below : List Frame) (meth : Method) (c : Code) (Q : State → Prop) (A : Nat → Prop) (dC : Nat → ClassId) (dI : Nat → Nat → Nat) (a : Nat → Nat) (ac : Nat → ClassId) (g : Int32 → Int32 → Int32 → Int32 → (St) → Option (St)) (r : St) : Prop := ∀ (x2 : Int32) (x3 : Int32) (x4 : Int32) (y0 : Int32) (s0 : St) (H : Heap) (locs : List Loc) (ls : Array Slot), g x2 x3 x4 y0 s0 = some r → va_P (dC, dI) vwCl (dw_X13 a ac s0) H → va_D A (dw_X13 a ac s0) → va_S A s.heap H locs → lv_has ls 6 [(0, .ref (a 0)), (2, .int x2), (3, .int x3), (4, .int x4)] → W p l e (headSpec ow_dm_X13_smalls ({ frames := 9, cells := 0, slots := 0, locals := 206 })).room s m args below meth c H locs 0 0 Q (F0 m 110 ls [.int y0])
def dj_X13_smalls_109 (p : Program) (l : Launch) (e : Env) (s : State) (m : MethodId) (args : Array Value) (below : List Frame) (meth : Method) (c : Code) (Q : State → Prop) (A : Nat → Prop) (dC : Nat → ClassId) (dI : Nat → Nat → Nat) (a : Nat → Nat) (ac : Nat → ClassId) (g : Int32 → Int32 → Int32 → (St) → Option (St)) (r : St) : Prop := ∀ (x2 : Int32) (x3 : Int32) (x4 : Int32) (s0 : St) (H : Heap) (locs : List Loc) (ls : Array Slot), g x2 x3 x4 s0 = some r → va_P (dC, dI) vwCl (dw_X13 a ac s0) H → va_D A (dw_X13 a ac s0) → va_S A s.heap H locs → lv_has ls 6 [(0, .ref (a 0)), (2, .int x2), (3, .int x3), (4, .int x4)] → W p l e (headSpec ow_dm_X13_smalls ({ frames := 9, cells := 0, slots := 0, locals := 206 })).room s m args below meth c H locs 0 0 Q (F0 m 109 ls [])
def dj_X13_smalls_0 (p : Program) (l : Launch) (e : Env) (s : State) (m : MethodId) (args : Array Value) (below : List Frame) (meth : Method) (c : Code) (Q : State → Prop) (A : Nat → Prop) (dC : Nat → ClassId) (dI : Nat → Nat → Nat) (a : Nat → Nat) (ac : Nat → ClassId) (g : Int32 → Int32 → Int32 → (St) → Option (St)) (r : St) : Prop := ∀ (v0 : Int32) (v1 : Int32) (v2 : Int32) (s0 : St) (H : Heap) (locs : List Loc) (ls : Array Slot), g v0 v1 v2 s0 = some r → va_P (dC, dI) vwCl (dw_X13 a ac s0) H → va_D A (dw_X13 a ac s0) → va_S A s.heap H locs → lv_has ls 6 [(0, .ref (a 0)), (1, .int v0), (2, .int v1), (3, .int v2)] → W p l e (headSpec ow_dm_X13_smalls ({ frames := 9, cells := 0, slots := 0, locals := 206 })).room s m args below meth c H locs 0 0 Q (F0 m 0 ls [])
set_option maxHeartbeats 40000000 in
set_option maxRecDepth 100000 in
theorem db_X13_smalls_306 {p : Program} {l : Launch} {e : Env} {s : State} {m : MethodId} {args : Array Value} {below : List Frame} {meth : Method} {c : Code} {Q : State → Prop} {A : Nat → Prop} {dC : Nat → ClassId} {dI : Nat → Nat → Nat} {a : Nat → Nat} {ac : Nat → ClassId} {n : Nat} {r : St} (C : nd_C p l s m args c A (dC, dI) cX13_smalls 6 RX13 ow_dm_X13_smalls (dk_X13 ac)) (K : nd_Kv p l e (headSpec ow_dm_X13_smalls ({ frames := 9, cells := 0, slots := 0, locals := 206 })).room s m args below meth c Q A (dC, dI) cX13_smalls (St) (dw_X13 a ac) r) : dj_X13_smalls_306 p l e s m args below meth c Q A dC dI a ac (df_X13_smalls_306 n) r := by
  obtain ⟨hlt, hx, hb, hml, hown, hts, hN, hA, hK⟩ := id C
  intro s0 H locs ls h hP hD hS hl
  unfold df_X13_smalls_306 at h
  exact K _ _ _ _ _ dX13_smalls_306 (Option.some.inj h).symm hP hD hS
set_option maxHeartbeats 40000000 in
set_option maxRecDepth 100000 in
theorem db_X13_smalls_126 {p : Program} {l : Launch} {e : Env} {s : State} {m : MethodId} {args : Array Value} {below : List Frame} {meth : Method} {c : Code} {Q : State → Prop} {A : Nat → Prop} {dC : Nat → ClassId} {dI : Nat → Nat → Nat} {a : Nat → Nat} {ac : Nat → ClassId} {n : Nat} {r : St} (C : nd_C p l s m args c A (dC, dI) cX13_smalls 6 RX13 ow_dm_X13_smalls (dk_X13 ac)) (K : nd_Kv p l e (headSpec ow_dm_X13_smalls ({ frames := 9, cells := 0, slots := 0, locals := 206 })).room s m args below meth c Q A (dC, dI) cX13_smalls (St) (dw_X13 a ac) r) : dj_X13_smalls_126 p l e s m args below meth c Q A dC dI a ac (df_X13_smalls_126 n) r := by
  obtain ⟨hlt, hx, hb, hml, hown, hts, hN, hA, hK⟩ := id C
  intro x2 x3 x4 x5 s0 H locs ls h hP hD hS hl
  unfold df_X13_smalls_126 at h
  refine lv_aload_n hx hb dX13_smalls_126 rfl (lv_at hl 0 rfl) ?_
  refine lv_iload_n hx hb dX13_smalls_127 rfl (lv_at hl 1 rfl) ?_
  refine lv_iload hx hb dX13_smalls_128 (lv_at hl 3 rfl) ?_
  refine lv_iconst (v := 5) hx hb dX13_smalls_130 (by decide) ?_
  refine lv_iconst (v := 3) hx hb dX13_smalls_131 (by decide) ?_
  refine lv_bipush (v := 10) hx hb dX13_smalls_132 (by decide) ?_
  obtain ⟨q45, s46, hq, h⟩ := nd_b2_e h
  have hPc : va_P (dC, dI) vwCl (dw_P a ac ()) H := nd_p0
  have hDc : va_D A (dw_P a ac ()) := nd_d0
  have hKc : va_K (dC, dI) vwCl (dk_P ac) s := nd_y0 hK
  have hFc : ∀ q, va_A (dw_P a ac ()) H.size q → A q := nd_r0 hS hA
  refine nd_cSi (As := [.int x4, .int 5, .int 3, .int 10]) (rest := [.int x2, .ref (a 0)]) (q := q45) (w' := dw_P a ac s46) ⟨hx, hb, hml, hown, hts⟩ (fun sz => dm_X13_bits l hlt dC dI a ac n (x4) (5) (3) (10) () hq sz) (cwS 4 hts gi_dm_X13_smalls_7 rfl rfl rfl (by decide +kernel) ⟨Nat.le_of_ble_eq_true rfl, Nat.le_of_ble_eq_true rfl⟩) hPc hDc hKc hS hA hN rfl hl.1 rfl (Nat.le_of_ble_eq_true rfl) dX13_smalls_134 (fun H locs hP1 hD1 hk1 hS => ?_)
  have hP := nd_n0 hP hk1
  refine lv_ior hx hb dX13_smalls_137 ?_
  refine lv_iload hx hb dX13_smalls_138 (lv_at hl 3 rfl) ?_
  refine lv_iconst (v := 2) hx hb dX13_smalls_140 (by decide) ?_
  refine lv_iconst (v := 2) hx hb dX13_smalls_141 (by decide) ?_
  refine lv_bipush (v := 6) hx hb dX13_smalls_142 (by decide) ?_
  obtain ⟨q48, s49, hq, h⟩ := nd_b2_e h
  have hPc : va_P (dC, dI) vwCl (dw_P a ac ()) H := nd_p0
  have hDc : va_D A (dw_P a ac ()) := nd_d0
  have hKc : va_K (dC, dI) vwCl (dk_P ac) s := nd_y0 hK
  have hFc : ∀ q, va_A (dw_P a ac ()) H.size q → A q := nd_r0 hS hA
  refine nd_cSi (As := [.int x4, .int 2, .int 2, .int 6]) (rest := [.int (x2 ||| q45), .ref (a 0)]) (q := q48) (w' := dw_P a ac s49) ⟨hx, hb, hml, hown, hts⟩ (fun sz => dm_X13_bits l hlt dC dI a ac n (x4) (2) (2) (6) () hq sz) (cwS 4 hts gi_dm_X13_smalls_7 rfl rfl rfl (by decide +kernel) ⟨Nat.le_of_ble_eq_true rfl, Nat.le_of_ble_eq_true rfl⟩) hPc hDc hKc hS hA hN rfl hl.1 rfl (Nat.le_of_ble_eq_true rfl) dX13_smalls_144 (fun H locs hP1 hD1 hk1 hS => ?_)
  have hP := nd_n0 hP hk1
  refine lv_ior hx hb dX13_smalls_147 ?_
  refine lv_iload hx hb dX13_smalls_148 (lv_at hl 3 rfl) ?_
  refine lv_bipush (v := 6) hx hb dX13_smalls_150 (by decide) ?_
  refine lv_bipush (v := 6) hx hb dX13_smalls_152 (by decide) ?_
  refine lv_iconst (v := 5) hx hb dX13_smalls_154 (by decide) ?_
  obtain ⟨q51, s52, hq, h⟩ := nd_b2_e h
  have hPc : va_P (dC, dI) vwCl (dw_P a ac ()) H := nd_p0
  have hDc : va_D A (dw_P a ac ()) := nd_d0
  have hKc : va_K (dC, dI) vwCl (dk_P ac) s := nd_y0 hK
  have hFc : ∀ q, va_A (dw_P a ac ()) H.size q → A q := nd_r0 hS hA
  refine nd_cSi (As := [.int x4, .int 6, .int 6, .int 5]) (rest := [.int ((x2 ||| q45) ||| q48), .ref (a 0)]) (q := q51) (w' := dw_P a ac s52) ⟨hx, hb, hml, hown, hts⟩ (fun sz => dm_X13_bits l hlt dC dI a ac n (x4) (6) (6) (5) () hq sz) (cwS 4 hts gi_dm_X13_smalls_7 rfl rfl rfl (by decide +kernel) ⟨Nat.le_of_ble_eq_true rfl, Nat.le_of_ble_eq_true rfl⟩) hPc hDc hKc hS hA hN rfl hl.1 rfl (Nat.le_of_ble_eq_true rfl) dX13_smalls_155 (fun H locs hP1 hD1 hk1 hS => ?_)
  have hP := nd_n0 hP hk1
  refine lv_ior hx hb dX13_smalls_158 ?_
  refine lv_iload hx hb dX13_smalls_159 (lv_at hl 4 rfl) ?_
  refine lv_bipush (v := 7) hx hb dX13_smalls_161 (by decide) ?_
  refine lv_ishl hx hb dX13_smalls_163 ?_
  refine lv_ior hx hb dX13_smalls_164 ?_
  refine lv_iload_n hx hb dX13_smalls_165 rfl (lv_at hl 2 rfl) ?_
  refine lv_iconst (v := 2) hx hb dX13_smalls_166 (by decide) ?_
  refine lv_ishl hx hb dX13_smalls_167 ?_
  refine lv_ior hx hb dX13_smalls_168 ?_
  obtain ⟨s55, hq, h⟩ := nd_b1_e h
  have hPc := hP
  have hDc := hD
  have hKc := hK
  have hFc := nd_rs hD hS hA
  refine nd_cVv (As := [.int (((((x2 ||| q45) ||| q48) ||| q51) ||| ((x5 : Int32) <<< ((7 : Int32) &&& 31))) ||| ((x3 : Int32) <<< ((2 : Int32) &&& 31)))]) (rest := []) (w' := dw_X13 a ac s55) ⟨hx, hb, hml, hown, hts⟩ (fun sz => dm_X13_half l hlt dC dI a ac n ((((((x2 ||| q45) ||| q48) ||| q51) ||| ((x5 : Int32) <<< ((7 : Int32) &&& 31))) ||| ((x3 : Int32) <<< ((2 : Int32) &&& 31)))) s0 hq sz) (cwV 1 hts gi_dm_X13_smalls_3 rfl rfl rfl (by decide +kernel) ⟨Nat.le_of_ble_eq_true rfl, Nat.le_of_ble_eq_true rfl⟩) hPc hDc hKc hS hA hN (va_recv hKc hPc (ci := 14) (q0 := 0) rfl rfl) rfl hl.1 rfl (Nat.le_of_ble_eq_true rfl) dX13_smalls_169 (fun H locs hP1 hD1 hk1 hS => ?_)
  have hP := hP1
  have hD := hD1.weaken (fun k q _ h => hFc q.1 h)
  refine lv_goto (tgt := 306) hx hb dX13_smalls_172 (by decide) ?_
  exact (db_X13_smalls_306 C K)  s55 _ _ _ h hP hD hS (lv_sub hl [] rfl)
set_option maxHeartbeats 40000000 in
set_option maxRecDepth 100000 in
theorem db_X13_smalls_110 {p : Program} {l : Launch} {e : Env} {s : State} {m : MethodId} {args : Array Value} {below : List Frame} {meth : Method} {c : Code} {Q : State → Prop} {A : Nat → Prop} {dC : Nat → ClassId} {dI : Nat → Nat → Nat} {a : Nat → Nat} {ac : Nat → ClassId} {n : Nat} {r : St} (C : nd_C p l s m args c A (dC, dI) cX13_smalls 6 RX13 ow_dm_X13_smalls (dk_X13 ac)) (K : nd_Kv p l e (headSpec ow_dm_X13_smalls ({ frames := 9, cells := 0, slots := 0, locals := 206 })).room s m args below meth c Q A (dC, dI) cX13_smalls (St) (dw_X13 a ac) r) : dj_X13_smalls_110 p l e s m args below meth c Q A dC dI a ac (df_X13_smalls_110 n) r := by
  obtain ⟨hlt, hx, hb, hml, hown, hts, hN, hA, hK⟩ := id C
  intro x2 x3 x4 y0 s0 H locs ls h hP hD hS hl
  unfold df_X13_smalls_110 at h
  refine lv_istore (lv' := [(5, .int y0), (0, .ref (a 0)), (2, .int x2), (3, .int x3), (4, .int x4)]) hx hb dX13_smalls_110 hl (by decide) rfl (fun ls hl => ?_)
  refine lv_aload_n hx hb dX13_smalls_112 rfl (lv_at hl 1 rfl) ?_
  refine va_get (D := (dC, dI)) (ci := 14) (v := .int (sI s0 12)) (C := RX13) (T := TX13) (N := 37) hx hb hts hi_dm_X13_smalls_X13 hown hK hP 0 rfl rfl 21 (by decide) (hts (.fieldLink RX13 410 "TimeMachineModel$Assembler" "fault" "I") (List.mem_of_getElem? (i := 22) rfl)) (fun _ h9 => h9) rfl dX13_smalls_113 ?_
  refine lv_if_ne (tgt := 126) hx hb dX13_smalls_116 (by decide) (fun c44 => ?_) (fun c44 => ?_)
  · have h := nd_neg h c44
    exact (db_X13_smalls_126 C K) (x2) (x3) (x4) (y0) s0 _ _ _ h hP hD hS (lv_sub hl [1, 2, 3, 4, 0] rfl)
  · have h := nd_pos h c44
    refine lv_aload_n hx hb dX13_smalls_119 rfl (lv_at hl 1 rfl) ?_
    refine lv_bipush (v := 41) hx hb dX13_smalls_120 (by decide) ?_
    obtain ⟨q57, s58, hq, h⟩ := nd_b2_e h
    have hPc := hP
    have hDc := hD
    have hKc := hK
    have hFc := nd_rs hD hS hA
    refine nd_cVi (As := [.int 41]) (rest := []) (q := q57) (w' := dw_X13 a ac s58) ⟨hx, hb, hml, hown, hts⟩ (fun sz => dm_X13_needs l hlt dC dI a ac n (41) s0 hq sz) (cwV 1 hts gi_dm_X13_smalls_8 rfl rfl rfl (by decide +kernel) ⟨Nat.le_of_ble_eq_true rfl, Nat.le_of_ble_eq_true rfl⟩) hPc hDc hKc hS hA hN (va_recv hKc hPc (ci := 14) (q0 := 0) rfl rfl) rfl hl.1 rfl (Nat.le_of_ble_eq_true rfl) dX13_smalls_122 (fun H locs hP1 hD1 hk1 hS => ?_)
    have hP := hP1
    have hD := hD1.weaken (fun k q _ h => hFc q.1 h)
    refine lv_pop hx hb dX13_smalls_125 rfl ?_
    exact (db_X13_smalls_126 C K) (x2) (x3) (x4) (y0) s58 _ _ _ h hP hD hS (lv_sub hl [1, 2, 3, 4, 0] rfl)
set_option maxHeartbeats 40000000 in
set_option maxRecDepth 100000 in
theorem db_X13_smalls_109 {p : Program} {l : Launch} {e : Env} {s : State} {m : MethodId} {args : Array Value} {below : List Frame} {meth : Method} {c : Code} {Q : State → Prop} {A : Nat → Prop} {dC : Nat → ClassId} {dI : Nat → Nat → Nat} {a : Nat → Nat} {ac : Nat → ClassId} {n : Nat} {r : St} (C : nd_C p l s m args c A (dC, dI) cX13_smalls 6 RX13 ow_dm_X13_smalls (dk_X13 ac)) (K : nd_Kv p l e (headSpec ow_dm_X13_smalls ({ frames := 9, cells := 0, slots := 0, locals := 206 })).room s m args below meth c Q A (dC, dI) cX13_smalls (St) (dw_X13 a ac) r) : dj_X13_smalls_109 p l e s m args below meth c Q A dC dI a ac (df_X13_smalls_109 n) r := by
  obtain ⟨hlt, hx, hb, hml, hown, hts, hN, hA, hK⟩ := id C
  intro x2 x3 x4 s0 H locs ls h hP hD hS hl
  unfold df_X13_smalls_109 at h
  refine lv_iconst (v := 0) hx hb dX13_smalls_109 (by decide) ?_
  exact (db_X13_smalls_110 C K) (x2) (x3) (x4) (0) s0 _ _ _ h hP hD hS (lv_sub hl [0, 1, 2, 3] rfl)
set_option maxHeartbeats 40000000 in
set_option maxRecDepth 100000 in
theorem db_X13_smalls_0 {p : Program} {l : Launch} {e : Env} {s : State} {m : MethodId} {args : Array Value} {below : List Frame} {meth : Method} {c : Code} {Q : State → Prop} {A : Nat → Prop} {dC : Nat → ClassId} {dI : Nat → Nat → Nat} {a : Nat → Nat} {ac : Nat → ClassId} {n : Nat} {r : St} (C : nd_C p l s m args c A (dC, dI) cX13_smalls 6 RX13 ow_dm_X13_smalls (dk_X13 ac)) (K : nd_Kv p l e (headSpec ow_dm_X13_smalls ({ frames := 9, cells := 0, slots := 0, locals := 206 })).room s m args below meth c Q A (dC, dI) cX13_smalls (St) (dw_X13 a ac) r) : dj_X13_smalls_0 p l e s m args below meth c Q A dC dI a ac (df_X13_smalls_0 n) r := by
  obtain ⟨hlt, hx, hb, hml, hown, hts, hN, hA, hK⟩ := id C
  intro v0 v1 v2 s0 H locs ls h hP hD hS hl
  unfold df_X13_smalls_0 at h
  refine lv_iload_n hx hb dX13_smalls_0 rfl (lv_at hl 1 rfl) ?_
  refine lv_bipush (v := 13) hx hb dX13_smalls_1 (by decide) ?_
  refine lv_icmp_ne (tgt := 70) hx hb dX13_smalls_3 (by decide) (fun c1 => ?_) (fun c1 => ?_)
  · have h := nd_neg h c1
    refine lv_iload_n hx hb dX13_smalls_70 rfl (lv_at hl 1 rfl) ?_
    refine lv_bipush (v := 16) hx hb dX13_smalls_71 (by decide) ?_
    refine lv_icmp_ge (tgt := 175) hx hb dX13_smalls_73 (by decide) (fun c2 => ?_) (fun c2 => ?_)
    · have h := nd_pos h c2
      refine lv_iload_n hx hb dX13_smalls_175 rfl (lv_at hl 1 rfl) ?_
      refine lv_bipush (v := 21) hx hb dX13_smalls_176 (by decide) ?_
      refine lv_icmp_ne (tgt := 208) hx hb dX13_smalls_178 (by decide) (fun c3 => ?_) (fun c3 => ?_)
      · have h := nd_neg h c3
        refine lv_iload_n hx hb dX13_smalls_208 rfl (lv_at hl 1 rfl) ?_
        refine lv_bipush (v := 22) hx hb dX13_smalls_209 (by decide) ?_
        refine lv_icmp_ne (tgt := 240) hx hb dX13_smalls_211 (by decide) (fun c4 => ?_) (fun c4 => ?_)
        · have h := nd_neg h c4
          refine lv_iload_n hx hb dX13_smalls_240 rfl (lv_at hl 1 rfl) ?_
          refine lv_bipush (v := 23) hx hb dX13_smalls_241 (by decide) ?_
          refine lv_icmp_ne (tgt := 266) hx hb dX13_smalls_243 (by decide) (fun c5 => ?_) (fun c5 => ?_)
          · have h := nd_neg h c5
            refine lv_aload_n hx hb dX13_smalls_266 rfl (lv_at hl 0 rfl) ?_
            obtain ⟨q6, s7, hq, h⟩ := nd_b2_e h
            have hPc := hP
            have hDc := hD
            have hKc := hK
            have hFc := nd_rs hD hS hA
            refine nd_cVi (As := []) (rest := []) (q := q6) (w' := dw_X13 a ac s7) ⟨hx, hb, hml, hown, hts⟩ (fun sz => dm_X13_expression l hlt dC dI a ac n  s0 hq sz) (cwV 0 hts gi_dm_X13_smalls_0 rfl rfl rfl (by decide +kernel) ⟨Nat.le_of_ble_eq_true rfl, Nat.le_of_ble_eq_true rfl⟩) hPc hDc hKc hS hA hN (va_recv hKc hPc (ci := 14) (q0 := 0) rfl rfl) rfl hl.1 rfl (Nat.le_of_ble_eq_true rfl) dX13_smalls_267 (fun H locs hP1 hD1 hk1 hS => ?_)
            have hP := hP1
            have hD := hD1.weaken (fun k q _ h => hFc q.1 h)
            refine lv_aload_n hx hb dX13_smalls_270 rfl (lv_at hl 0 rfl) ?_
            refine va_get (D := (dC, dI)) (ci := 14) (v := .int (sI s7 17)) (C := RX13) (T := TX13) (N := 37) hx hb hts hi_dm_X13_smalls_X13 hown hK hP 0 rfl rfl 26 (by decide) (hts (.fieldLink RX13 486 "TimeMachineModel$Assembler" "address" "I") (List.mem_of_getElem? (i := 5) rfl)) (fun _ h9 => h9) rfl dX13_smalls_271 ?_
            refine lv_isub hx hb dX13_smalls_274 ?_
            refine lv_topi (fun z9 ez9 => ?_)
            have h := nd_at h ez9
            refine lv_istore (lv' := [(4, .int z9), (0, .ref (a 0)), (1, .int v0), (2, .int v1), (3, .int v2)]) hx hb dX13_smalls_275 hl (by decide) rfl (fun ls hl => ?_)
            refine lv_aload_n hx hb dX13_smalls_277 rfl (lv_at hl 1 rfl) ?_
            refine lv_iload hx hb dX13_smalls_278 (lv_at hl 0 rfl) ?_
            refine lv_sipush (v := (-256)) hx hb dX13_smalls_280 (by decide) ?_
            refine lv_sipush (v := 254) hx hb dX13_smalls_283 (by decide) ?_
            refine lv_iconst (v := 2) hx hb dX13_smalls_286 (by decide) ?_
            obtain ⟨s11, hq, h⟩ := nd_b1_e h
            have hPc := hP
            have hDc := hD
            have hKc := hK
            have hFc := nd_rs hD hS hA
            refine nd_cVv (As := [.int z9, .int (-256), .int 254, .int 2]) (rest := []) (w' := dw_X13 a ac s11) ⟨hx, hb, hml, hown, hts⟩ (fun sz => dm_X13_fits l hlt dC dI a ac n (z9) ((-256)) (254) (2) s7 hq sz) (cwV 4 hts gi_dm_X13_smalls_1 rfl rfl rfl (by decide +kernel) ⟨Nat.le_of_ble_eq_true rfl, Nat.le_of_ble_eq_true rfl⟩) hPc hDc hKc hS hA hN (va_recv hKc hPc (ci := 14) (q0 := 0) rfl rfl) rfl hl.1 rfl (Nat.le_of_ble_eq_true rfl) dX13_smalls_287 (fun H locs hP1 hD1 hk1 hS => ?_)
            have hP := hP1
            have hD := hD1.weaken (fun k q _ h => hFc q.1 h)
            refine lv_aload_n hx hb dX13_smalls_290 rfl (lv_at hl 1 rfl) ?_
            refine lv_iload_n hx hb dX13_smalls_291 rfl (lv_at hl 3 rfl) ?_
            refine lv_iload_n hx hb dX13_smalls_292 rfl (lv_at hl 4 rfl) ?_
            refine lv_bipush (v := 7) hx hb dX13_smalls_293 (by decide) ?_
            refine lv_ishl hx hb dX13_smalls_295 ?_
            refine lv_ior hx hb dX13_smalls_296 ?_
            refine lv_iload hx hb dX13_smalls_297 (lv_at hl 0 rfl) ?_
            obtain ⟨q13, s14, hq, h⟩ := nd_b2_e h
            have hPc : va_P (dC, dI) vwCl (dw_P a ac ()) H := nd_p0
            have hDc : va_D A (dw_P a ac ()) := nd_d0
            have hKc : va_K (dC, dI) vwCl (dk_P ac) s := nd_y0 hK
            have hFc : ∀ q, va_A (dw_P a ac ()) H.size q → A q := nd_r0 hS hA
            refine nd_cSi (As := [.int z9]) (rest := [.int (v1 ||| ((v2 : Int32) <<< ((7 : Int32) &&& 31))), .ref (a 0)]) (q := q13) (w' := dw_P a ac s14) ⟨hx, hb, hml, hown, hts⟩ (fun sz => dm_X13_shortBranch l hlt dC dI a ac n (z9) () hq sz) (cwS 1 hts gi_dm_X13_smalls_2 rfl rfl rfl (by decide +kernel) ⟨Nat.le_of_ble_eq_true rfl, Nat.le_of_ble_eq_true rfl⟩) hPc hDc hKc hS hA hN rfl hl.1 rfl (Nat.le_of_ble_eq_true rfl) dX13_smalls_299 (fun H locs hP1 hD1 hk1 hS => ?_)
            have hP := nd_n0 hP hk1
            refine lv_ior hx hb dX13_smalls_302 ?_
            obtain ⟨s17, hq, h⟩ := nd_b1_e h
            have hPc := hP
            have hDc := hD
            have hKc := hK
            have hFc := nd_rs hD hS hA
            refine nd_cVv (As := [.int ((v1 ||| ((v2 : Int32) <<< ((7 : Int32) &&& 31))) ||| q13)]) (rest := []) (w' := dw_X13 a ac s17) ⟨hx, hb, hml, hown, hts⟩ (fun sz => dm_X13_half l hlt dC dI a ac n (((v1 ||| ((v2 : Int32) <<< ((7 : Int32) &&& 31))) ||| q13)) s11 hq sz) (cwV 1 hts gi_dm_X13_smalls_3 rfl rfl rfl (by decide +kernel) ⟨Nat.le_of_ble_eq_true rfl, Nat.le_of_ble_eq_true rfl⟩) hPc hDc hKc hS hA hN (va_recv hKc hPc (ci := 14) (q0 := 0) rfl rfl) rfl hl.1 rfl (Nat.le_of_ble_eq_true rfl) dX13_smalls_303 (fun H locs hP1 hD1 hk1 hS => ?_)
            have hP := hP1
            have hD := hD1.weaken (fun k q _ h => hFc q.1 h)
            exact (db_X13_smalls_306 C K)  s17 _ _ _ h hP hD hS (lv_sub hl [] rfl)
          · have h := nd_pos h c5
            refine lv_aload_n hx hb dX13_smalls_246 rfl (lv_at hl 0 rfl) ?_
            refine lv_iload_n hx hb dX13_smalls_247 rfl (lv_at hl 2 rfl) ?_
            refine lv_iload_n hx hb dX13_smalls_248 rfl (lv_at hl 3 rfl) ?_
            refine lv_bipush (v := 7) hx hb dX13_smalls_249 (by decide) ?_
            refine lv_ishl hx hb dX13_smalls_251 ?_
            refine lv_ior hx hb dX13_smalls_252 ?_
            refine lv_aload_n hx hb dX13_smalls_253 rfl (lv_at hl 0 rfl) ?_
            obtain ⟨q19, s20, hq, h⟩ := nd_b2_e h
            have hPc := hP
            have hDc := hD
            have hKc := hK
            have hFc := nd_rs hD hS hA
            refine nd_cVi (As := []) (rest := [.int (v1 ||| ((v2 : Int32) <<< ((7 : Int32) &&& 31))), .ref (a 0)]) (q := q19) (w' := dw_X13 a ac s20) ⟨hx, hb, hml, hown, hts⟩ (fun sz => dm_X13_near8 l hlt dC dI a ac n  s0 hq sz) (cwV 0 hts gi_dm_X13_smalls_4 rfl rfl rfl (by decide +kernel) ⟨Nat.le_of_ble_eq_true rfl, Nat.le_of_ble_eq_true rfl⟩) hPc hDc hKc hS hA hN (va_recv hKc hPc (ci := 14) (q0 := 0) rfl rfl) rfl hl.1 rfl (Nat.le_of_ble_eq_true rfl) dX13_smalls_254 (fun H locs hP1 hD1 hk1 hS => ?_)
            have hP := hP1
            have hD := hD1.weaken (fun k q _ h => hFc q.1 h)
            refine lv_iconst (v := 2) hx hb dX13_smalls_257 (by decide) ?_
            refine lv_ishl hx hb dX13_smalls_258 ?_
            refine lv_ior hx hb dX13_smalls_259 ?_
            obtain ⟨s23, hq, h⟩ := nd_b1_e h
            have hPc := hP
            have hDc := hD
            have hKc := hK
            have hFc := nd_rs hD hS hA
            refine nd_cVv (As := [.int ((v1 ||| ((v2 : Int32) <<< ((7 : Int32) &&& 31))) ||| ((q19 : Int32) <<< ((2 : Int32) &&& 31)))]) (rest := []) (w' := dw_X13 a ac s23) ⟨hx, hb, hml, hown, hts⟩ (fun sz => dm_X13_half l hlt dC dI a ac n (((v1 ||| ((v2 : Int32) <<< ((7 : Int32) &&& 31))) ||| ((q19 : Int32) <<< ((2 : Int32) &&& 31)))) s20 hq sz) (cwV 1 hts gi_dm_X13_smalls_3 rfl rfl rfl (by decide +kernel) ⟨Nat.le_of_ble_eq_true rfl, Nat.le_of_ble_eq_true rfl⟩) hPc hDc hKc hS hA hN (va_recv hKc hPc (ci := 14) (q0 := 0) rfl rfl) rfl hl.1 rfl (Nat.le_of_ble_eq_true rfl) dX13_smalls_260 (fun H locs hP1 hD1 hk1 hS => ?_)
            have hP := hP1
            have hD := hD1.weaken (fun k q _ h => hFc q.1 h)
            refine lv_goto (tgt := 306) hx hb dX13_smalls_263 (by decide) ?_
            exact (db_X13_smalls_306 C K)  s23 _ _ _ h hP hD hS (lv_sub hl [] rfl)
        · have h := nd_pos h c4
          refine lv_aload_n hx hb dX13_smalls_214 rfl (lv_at hl 0 rfl) ?_
          refine lv_iload_n hx hb dX13_smalls_215 rfl (lv_at hl 2 rfl) ?_
          refine lv_iload_n hx hb dX13_smalls_216 rfl (lv_at hl 3 rfl) ?_
          refine lv_bipush (v := 7) hx hb dX13_smalls_217 (by decide) ?_
          refine lv_ishl hx hb dX13_smalls_219 ?_
          refine lv_ior hx hb dX13_smalls_220 ?_
          refine lv_aload_n hx hb dX13_smalls_221 rfl (lv_at hl 0 rfl) ?_
          refine lv_bipush (v := (-32)) hx hb dX13_smalls_222 (by decide) ?_
          refine lv_bipush (v := 31) hx hb dX13_smalls_224 (by decide) ?_
          refine lv_iconst (v := 1) hx hb dX13_smalls_226 (by decide) ?_
          obtain ⟨q25, s26, hq, h⟩ := nd_b2_e h
          have hPc := hP
          have hDc := hD
          have hKc := hK
          have hFc := nd_rs hD hS hA
          refine nd_cVi (As := [.int (-32), .int 31, .int 1]) (rest := [.int (v1 ||| ((v2 : Int32) <<< ((7 : Int32) &&& 31))), .ref (a 0)]) (q := q25) (w' := dw_X13 a ac s26) ⟨hx, hb, hml, hown, hts⟩ (fun sz => dm_X13_within l hlt dC dI a ac n ((-32)) (31) (1) s0 hq sz) (cwV 3 hts gi_dm_X13_smalls_5 rfl rfl rfl (by decide +kernel) ⟨Nat.le_of_ble_eq_true rfl, Nat.le_of_ble_eq_true rfl⟩) hPc hDc hKc hS hA hN (va_recv hKc hPc (ci := 14) (q0 := 0) rfl rfl) rfl hl.1 rfl (Nat.le_of_ble_eq_true rfl) dX13_smalls_227 (fun H locs hP1 hD1 hk1 hS => ?_)
          have hP := hP1
          have hD := hD1.weaken (fun k q _ h => hFc q.1 h)
          obtain ⟨q28, s29, hq, h⟩ := nd_b2_e h
          have hPc : va_P (dC, dI) vwCl (dw_P a ac ()) H := nd_p0
          have hDc : va_D A (dw_P a ac ()) := nd_d0
          have hKc : va_K (dC, dI) vwCl (dk_P ac) s := nd_y0 hK
          have hFc : ∀ q, va_A (dw_P a ac ()) H.size q → A q := nd_r0 hS hA
          refine nd_cSi (As := [.int q25]) (rest := [.int (v1 ||| ((v2 : Int32) <<< ((7 : Int32) &&& 31))), .ref (a 0)]) (q := q28) (w' := dw_P a ac s29) ⟨hx, hb, hml, hown, hts⟩ (fun sz => dm_X13_six l hlt dC dI a ac n (q25) () hq sz) (cwS 1 hts gi_dm_X13_smalls_6 rfl rfl rfl (by decide +kernel) ⟨Nat.le_of_ble_eq_true rfl, Nat.le_of_ble_eq_true rfl⟩) hPc hDc hKc hS hA hN rfl hl.1 rfl (Nat.le_of_ble_eq_true rfl) dX13_smalls_230 (fun H locs hP1 hD1 hk1 hS => ?_)
          have hP := nd_n0 hP hk1
          refine lv_ior hx hb dX13_smalls_233 ?_
          obtain ⟨s32, hq, h⟩ := nd_b1_e h
          have hPc := hP
          have hDc := hD
          have hKc := hK
          have hFc := nd_rs hD hS hA
          refine nd_cVv (As := [.int ((v1 ||| ((v2 : Int32) <<< ((7 : Int32) &&& 31))) ||| q28)]) (rest := []) (w' := dw_X13 a ac s32) ⟨hx, hb, hml, hown, hts⟩ (fun sz => dm_X13_half l hlt dC dI a ac n (((v1 ||| ((v2 : Int32) <<< ((7 : Int32) &&& 31))) ||| q28)) s26 hq sz) (cwV 1 hts gi_dm_X13_smalls_3 rfl rfl rfl (by decide +kernel) ⟨Nat.le_of_ble_eq_true rfl, Nat.le_of_ble_eq_true rfl⟩) hPc hDc hKc hS hA hN (va_recv hKc hPc (ci := 14) (q0 := 0) rfl rfl) rfl hl.1 rfl (Nat.le_of_ble_eq_true rfl) dX13_smalls_234 (fun H locs hP1 hD1 hk1 hS => ?_)
          have hP := hP1
          have hD := hD1.weaken (fun k q _ h => hFc q.1 h)
          refine lv_goto (tgt := 306) hx hb dX13_smalls_237 (by decide) ?_
          exact (db_X13_smalls_306 C K)  s32 _ _ _ h hP hD hS (lv_sub hl [] rfl)
      · have h := nd_pos h c3
        refine lv_aload_n hx hb dX13_smalls_181 rfl (lv_at hl 0 rfl) ?_
        refine lv_iload_n hx hb dX13_smalls_182 rfl (lv_at hl 2 rfl) ?_
        refine lv_iload_n hx hb dX13_smalls_183 rfl (lv_at hl 3 rfl) ?_
        refine lv_bipush (v := 7) hx hb dX13_smalls_184 (by decide) ?_
        refine lv_ishl hx hb dX13_smalls_186 ?_
        refine lv_ior hx hb dX13_smalls_187 ?_
        refine lv_aload_n hx hb dX13_smalls_188 rfl (lv_at hl 0 rfl) ?_
        refine lv_iconst (v := 0) hx hb dX13_smalls_189 (by decide) ?_
        refine lv_bipush (v := 31) hx hb dX13_smalls_190 (by decide) ?_
        refine lv_iconst (v := 1) hx hb dX13_smalls_192 (by decide) ?_
        obtain ⟨q34, s35, hq, h⟩ := nd_b2_e h
        have hPc := hP
        have hDc := hD
        have hKc := hK
        have hFc := nd_rs hD hS hA
        refine nd_cVi (As := [.int 0, .int 31, .int 1]) (rest := [.int (v1 ||| ((v2 : Int32) <<< ((7 : Int32) &&& 31))), .ref (a 0)]) (q := q34) (w' := dw_X13 a ac s35) ⟨hx, hb, hml, hown, hts⟩ (fun sz => dm_X13_within l hlt dC dI a ac n (0) (31) (1) s0 hq sz) (cwV 3 hts gi_dm_X13_smalls_5 rfl rfl rfl (by decide +kernel) ⟨Nat.le_of_ble_eq_true rfl, Nat.le_of_ble_eq_true rfl⟩) hPc hDc hKc hS hA hN (va_recv hKc hPc (ci := 14) (q0 := 0) rfl rfl) rfl hl.1 rfl (Nat.le_of_ble_eq_true rfl) dX13_smalls_193 (fun H locs hP1 hD1 hk1 hS => ?_)
        have hP := hP1
        have hD := hD1.weaken (fun k q _ h => hFc q.1 h)
        refine lv_bipush (v := 31) hx hb dX13_smalls_196 (by decide) ?_
        refine lv_iand hx hb dX13_smalls_198 ?_
        refine lv_iconst (v := 2) hx hb dX13_smalls_199 (by decide) ?_
        refine lv_ishl hx hb dX13_smalls_200 ?_
        refine lv_ior hx hb dX13_smalls_201 ?_
        obtain ⟨s38, hq, h⟩ := nd_b1_e h
        have hPc := hP
        have hDc := hD
        have hKc := hK
        have hFc := nd_rs hD hS hA
        refine nd_cVv (As := [.int ((v1 ||| ((v2 : Int32) <<< ((7 : Int32) &&& 31))) ||| (((q34 &&& 31) : Int32) <<< ((2 : Int32) &&& 31)))]) (rest := []) (w' := dw_X13 a ac s38) ⟨hx, hb, hml, hown, hts⟩ (fun sz => dm_X13_half l hlt dC dI a ac n (((v1 ||| ((v2 : Int32) <<< ((7 : Int32) &&& 31))) ||| (((q34 &&& 31) : Int32) <<< ((2 : Int32) &&& 31)))) s35 hq sz) (cwV 1 hts gi_dm_X13_smalls_3 rfl rfl rfl (by decide +kernel) ⟨Nat.le_of_ble_eq_true rfl, Nat.le_of_ble_eq_true rfl⟩) hPc hDc hKc hS hA hN (va_recv hKc hPc (ci := 14) (q0 := 0) rfl rfl) rfl hl.1 rfl (Nat.le_of_ble_eq_true rfl) dX13_smalls_202 (fun H locs hP1 hD1 hk1 hS => ?_)
        have hP := hP1
        have hD := hD1.weaken (fun k q _ h => hFc q.1 h)
        refine lv_goto (tgt := 306) hx hb dX13_smalls_205 (by decide) ?_
        exact (db_X13_smalls_306 C K)  s38 _ _ _ h hP hD hS (lv_sub hl [] rfl)
    · have h := nd_neg h c2
      refine lv_aload_n hx hb dX13_smalls_76 rfl (lv_at hl 0 rfl) ?_
      refine lv_iconst (v := 0) hx hb dX13_smalls_77 (by decide) ?_
      refine lv_bipush (v := 124) hx hb dX13_smalls_78 (by decide) ?_
      refine lv_iconst (v := 4) hx hb dX13_smalls_80 (by decide) ?_
      obtain ⟨q40, s41, hq, h⟩ := nd_b2_e h
      have hPc := hP
      have hDc := hD
      have hKc := hK
      have hFc := nd_rs hD hS hA
      refine nd_cVi (As := [.int 0, .int 124, .int 4]) (rest := []) (q := q40) (w' := dw_X13 a ac s41) ⟨hx, hb, hml, hown, hts⟩ (fun sz => dm_X13_within l hlt dC dI a ac n (0) (124) (4) s0 hq sz) (cwV 3 hts gi_dm_X13_smalls_5 rfl rfl rfl (by decide +kernel) ⟨Nat.le_of_ble_eq_true rfl, Nat.le_of_ble_eq_true rfl⟩) hPc hDc hKc hS hA hN (va_recv hKc hPc (ci := 14) (q0 := 0) rfl rfl) rfl hl.1 rfl (Nat.le_of_ble_eq_true rfl) dX13_smalls_81 (fun H locs hP1 hD1 hk1 hS => ?_)
      have hP := hP1
      have hD := hD1.weaken (fun k q _ h => hFc q.1 h)
      refine lv_istore (lv' := [(4, .int q40), (0, .ref (a 0)), (1, .int v0), (2, .int v1), (3, .int v2)]) hx hb dX13_smalls_84 hl (by decide) rfl (fun ls hl => ?_)
      refine lv_aload_n hx hb dX13_smalls_86 rfl (lv_at hl 1 rfl) ?_
      refine va_get (D := (dC, dI)) (ci := 14) (v := .int (sI s41 12)) (C := RX13) (T := TX13) (N := 37) hx hb hts hi_dm_X13_smalls_X13 hown hK hP 0 rfl rfl 21 (by decide) (hts (.fieldLink RX13 410 "TimeMachineModel$Assembler" "fault" "I") (List.mem_of_getElem? (i := 22) rfl)) (fun _ h9 => h9) rfl dX13_smalls_87 ?_
      refine lv_if_ne (tgt := 109) hx hb dX13_smalls_90 (by decide) (fun c43 => ?_) (fun c43 => ?_)
      · have h := nd_neg h c43
        exact (db_X13_smalls_109 C K) (v1) (v2) (q40) s41 _ _ _ h hP hD hS (lv_sub hl [1, 3, 4, 0] rfl)
      · have h := nd_pos h c43
        refine lv_aload_n hx hb dX13_smalls_93 rfl (lv_at hl 1 rfl) ?_
        refine lv_bipush (v := 40) hx hb dX13_smalls_94 (by decide) ?_
        obtain ⟨q60, s61, hq, h⟩ := nd_b2_e h
        have hPc := hP
        have hDc := hD
        have hKc := hK
        have hFc := nd_rs hD hS hA
        refine nd_cVi (As := [.int 40]) (rest := []) (q := q60) (w' := dw_X13 a ac s61) ⟨hx, hb, hml, hown, hts⟩ (fun sz => dm_X13_needs l hlt dC dI a ac n (40) s41 hq sz) (cwV 1 hts gi_dm_X13_smalls_8 rfl rfl rfl (by decide +kernel) ⟨Nat.le_of_ble_eq_true rfl, Nat.le_of_ble_eq_true rfl⟩) hPc hDc hKc hS hA hN (va_recv hKc hPc (ci := 14) (q0 := 0) rfl rfl) rfl hl.1 rfl (Nat.le_of_ble_eq_true rfl) dX13_smalls_96 (fun H locs hP1 hD1 hk1 hS => ?_)
        have hP := hP1
        have hD := hD1.weaken (fun k q _ h => hFc q.1 h)
        refine lv_if_eq (tgt := 109) hx hb dX13_smalls_99 (by decide) (fun c63 => ?_) (fun c63 => ?_)
        · have h := nd_pos h c63
          exact (db_X13_smalls_109 C K) (v1) (v2) (q40) s61 _ _ _ h hP hD hS (lv_sub hl [1, 3, 4, 0] rfl)
        · have h := nd_neg h c63
          refine lv_aload_n hx hb dX13_smalls_102 rfl (lv_at hl 1 rfl) ?_
          obtain ⟨q64, s65, hq, h⟩ := nd_b2_e h
          have hPc := hP
          have hDc := hD
          have hKc := hK
          have hFc := nd_rs hD hS hA
          refine nd_cVi (As := []) (rest := []) (q := q64) (w' := dw_X13 a ac s65) ⟨hx, hb, hml, hown, hts⟩ (fun sz => dm_X13_near8 l hlt dC dI a ac n  s61 hq sz) (cwV 0 hts gi_dm_X13_smalls_4 rfl rfl rfl (by decide +kernel) ⟨Nat.le_of_ble_eq_true rfl, Nat.le_of_ble_eq_true rfl⟩) hPc hDc hKc hS hA hN (va_recv hKc hPc (ci := 14) (q0 := 0) rfl rfl) rfl hl.1 rfl (Nat.le_of_ble_eq_true rfl) dX13_smalls_103 (fun H locs hP1 hD1 hk1 hS => ?_)
          have hP := hP1
          have hD := hD1.weaken (fun k q _ h => hFc q.1 h)
          refine lv_goto (tgt := 110) hx hb dX13_smalls_106 (by decide) ?_
          exact (db_X13_smalls_110 C K) (v1) (v2) (q40) (q64) s65 _ _ _ h hP hD hS (lv_sub hl [1, 3, 4, 0] rfl)
  · have h := nd_pos h c1
    refine lv_aload_n hx hb dX13_smalls_6 rfl (lv_at hl 0 rfl) ?_
    refine lv_iconst (v := 4) hx hb dX13_smalls_7 (by decide) ?_
    refine lv_sipush (v := 1020) hx hb dX13_smalls_8 (by decide) ?_
    refine lv_iconst (v := 4) hx hb dX13_smalls_11 (by decide) ?_
    obtain ⟨q67, s68, hq, h⟩ := nd_b2_e h
    have hPc := hP
    have hDc := hD
    have hKc := hK
    have hFc := nd_rs hD hS hA
    refine nd_cVi (As := [.int 4, .int 1020, .int 4]) (rest := []) (q := q67) (w' := dw_X13 a ac s68) ⟨hx, hb, hml, hown, hts⟩ (fun sz => dm_X13_within l hlt dC dI a ac n (4) (1020) (4) s0 hq sz) (cwV 3 hts gi_dm_X13_smalls_5 rfl rfl rfl (by decide +kernel) ⟨Nat.le_of_ble_eq_true rfl, Nat.le_of_ble_eq_true rfl⟩) hPc hDc hKc hS hA hN (va_recv hKc hPc (ci := 14) (q0 := 0) rfl rfl) rfl hl.1 rfl (Nat.le_of_ble_eq_true rfl) dX13_smalls_12 (fun H locs hP1 hD1 hk1 hS => ?_)
    have hP := hP1
    have hD := hD1.weaken (fun k q _ h => hFc q.1 h)
    refine lv_istore (lv' := [(4, .int q67), (0, .ref (a 0)), (1, .int v0), (2, .int v1), (3, .int v2)]) hx hb dX13_smalls_15 hl (by decide) rfl (fun ls hl => ?_)
    refine lv_aload_n hx hb dX13_smalls_17 rfl (lv_at hl 1 rfl) ?_
    refine lv_iload_n hx hb dX13_smalls_18 rfl (lv_at hl 3 rfl) ?_
    refine lv_iload hx hb dX13_smalls_19 (lv_at hl 0 rfl) ?_
    refine lv_iconst (v := 5) hx hb dX13_smalls_21 (by decide) ?_
    refine lv_iconst (v := 4) hx hb dX13_smalls_22 (by decide) ?_
    refine lv_bipush (v := 11) hx hb dX13_smalls_23 (by decide) ?_
    obtain ⟨q70, s71, hq, h⟩ := nd_b2_e h
    have hPc : va_P (dC, dI) vwCl (dw_P a ac ()) H := nd_p0
    have hDc : va_D A (dw_P a ac ()) := nd_d0
    have hKc : va_K (dC, dI) vwCl (dk_P ac) s := nd_y0 hK
    have hFc : ∀ q, va_A (dw_P a ac ()) H.size q → A q := nd_r0 hS hA
    refine nd_cSi (As := [.int q67, .int 5, .int 4, .int 11]) (rest := [.int v1, .ref (a 0)]) (q := q70) (w' := dw_P a ac s71) ⟨hx, hb, hml, hown, hts⟩ (fun sz => dm_X13_bits l hlt dC dI a ac n (q67) (5) (4) (11) () hq sz) (cwS 4 hts gi_dm_X13_smalls_7 rfl rfl rfl (by decide +kernel) ⟨Nat.le_of_ble_eq_true rfl, Nat.le_of_ble_eq_true rfl⟩) hPc hDc hKc hS hA hN rfl hl.1 rfl (Nat.le_of_ble_eq_true rfl) dX13_smalls_25 (fun H locs hP1 hD1 hk1 hS => ?_)
    have hP := nd_n0 hP hk1
    refine lv_ior hx hb dX13_smalls_28 ?_
    refine lv_iload hx hb dX13_smalls_29 (lv_at hl 0 rfl) ?_
    refine lv_bipush (v := 9) hx hb dX13_smalls_31 (by decide) ?_
    refine lv_bipush (v := 6) hx hb dX13_smalls_33 (by decide) ?_
    refine lv_bipush (v := 7) hx hb dX13_smalls_35 (by decide) ?_
    obtain ⟨q73, s74, hq, h⟩ := nd_b2_e h
    have hPc : va_P (dC, dI) vwCl (dw_P a ac ()) H := nd_p0
    have hDc : va_D A (dw_P a ac ()) := nd_d0
    have hKc : va_K (dC, dI) vwCl (dk_P ac) s := nd_y0 hK
    have hFc : ∀ q, va_A (dw_P a ac ()) H.size q → A q := nd_r0 hS hA
    refine nd_cSi (As := [.int q67, .int 9, .int 6, .int 7]) (rest := [.int (v1 ||| q70), .ref (a 0)]) (q := q73) (w' := dw_P a ac s74) ⟨hx, hb, hml, hown, hts⟩ (fun sz => dm_X13_bits l hlt dC dI a ac n (q67) (9) (6) (7) () hq sz) (cwS 4 hts gi_dm_X13_smalls_7 rfl rfl rfl (by decide +kernel) ⟨Nat.le_of_ble_eq_true rfl, Nat.le_of_ble_eq_true rfl⟩) hPc hDc hKc hS hA hN rfl hl.1 rfl (Nat.le_of_ble_eq_true rfl) dX13_smalls_37 (fun H locs hP1 hD1 hk1 hS => ?_)
    have hP := nd_n0 hP hk1
    refine lv_ior hx hb dX13_smalls_40 ?_
    refine lv_iload hx hb dX13_smalls_41 (lv_at hl 0 rfl) ?_
    refine lv_iconst (v := 2) hx hb dX13_smalls_43 (by decide) ?_
    refine lv_iconst (v := 2) hx hb dX13_smalls_44 (by decide) ?_
    refine lv_bipush (v := 6) hx hb dX13_smalls_45 (by decide) ?_
    obtain ⟨q76, s77, hq, h⟩ := nd_b2_e h
    have hPc : va_P (dC, dI) vwCl (dw_P a ac ()) H := nd_p0
    have hDc : va_D A (dw_P a ac ()) := nd_d0
    have hKc : va_K (dC, dI) vwCl (dk_P ac) s := nd_y0 hK
    have hFc : ∀ q, va_A (dw_P a ac ()) H.size q → A q := nd_r0 hS hA
    refine nd_cSi (As := [.int q67, .int 2, .int 2, .int 6]) (rest := [.int ((v1 ||| q70) ||| q73), .ref (a 0)]) (q := q76) (w' := dw_P a ac s77) ⟨hx, hb, hml, hown, hts⟩ (fun sz => dm_X13_bits l hlt dC dI a ac n (q67) (2) (2) (6) () hq sz) (cwS 4 hts gi_dm_X13_smalls_7 rfl rfl rfl (by decide +kernel) ⟨Nat.le_of_ble_eq_true rfl, Nat.le_of_ble_eq_true rfl⟩) hPc hDc hKc hS hA hN rfl hl.1 rfl (Nat.le_of_ble_eq_true rfl) dX13_smalls_47 (fun H locs hP1 hD1 hk1 hS => ?_)
    have hP := nd_n0 hP hk1
    refine lv_ior hx hb dX13_smalls_50 ?_
    refine lv_iload hx hb dX13_smalls_51 (lv_at hl 0 rfl) ?_
    refine lv_iconst (v := 3) hx hb dX13_smalls_53 (by decide) ?_
    refine lv_iconst (v := 3) hx hb dX13_smalls_54 (by decide) ?_
    refine lv_iconst (v := 5) hx hb dX13_smalls_55 (by decide) ?_
    obtain ⟨q79, s80, hq, h⟩ := nd_b2_e h
    have hPc : va_P (dC, dI) vwCl (dw_P a ac ()) H := nd_p0
    have hDc : va_D A (dw_P a ac ()) := nd_d0
    have hKc : va_K (dC, dI) vwCl (dk_P ac) s := nd_y0 hK
    have hFc : ∀ q, va_A (dw_P a ac ()) H.size q → A q := nd_r0 hS hA
    refine nd_cSi (As := [.int q67, .int 3, .int 3, .int 5]) (rest := [.int (((v1 ||| q70) ||| q73) ||| q76), .ref (a 0)]) (q := q79) (w' := dw_P a ac s80) ⟨hx, hb, hml, hown, hts⟩ (fun sz => dm_X13_bits l hlt dC dI a ac n (q67) (3) (3) (5) () hq sz) (cwS 4 hts gi_dm_X13_smalls_7 rfl rfl rfl (by decide +kernel) ⟨Nat.le_of_ble_eq_true rfl, Nat.le_of_ble_eq_true rfl⟩) hPc hDc hKc hS hA hN rfl hl.1 rfl (Nat.le_of_ble_eq_true rfl) dX13_smalls_56 (fun H locs hP1 hD1 hk1 hS => ?_)
    have hP := nd_n0 hP hk1
    refine lv_ior hx hb dX13_smalls_59 ?_
    refine lv_iload_n hx hb dX13_smalls_60 rfl (lv_at hl 4 rfl) ?_
    refine lv_iconst (v := 2) hx hb dX13_smalls_61 (by decide) ?_
    refine lv_ishl hx hb dX13_smalls_62 ?_
    refine lv_ior hx hb dX13_smalls_63 ?_
    obtain ⟨s83, hq, h⟩ := nd_b1_e h
    have hPc := hP
    have hDc := hD
    have hKc := hK
    have hFc := nd_rs hD hS hA
    refine nd_cVv (As := [.int (((((v1 ||| q70) ||| q73) ||| q76) ||| q79) ||| ((v2 : Int32) <<< ((2 : Int32) &&& 31)))]) (rest := []) (w' := dw_X13 a ac s83) ⟨hx, hb, hml, hown, hts⟩ (fun sz => dm_X13_half l hlt dC dI a ac n ((((((v1 ||| q70) ||| q73) ||| q76) ||| q79) ||| ((v2 : Int32) <<< ((2 : Int32) &&& 31)))) s68 hq sz) (cwV 1 hts gi_dm_X13_smalls_3 rfl rfl rfl (by decide +kernel) ⟨Nat.le_of_ble_eq_true rfl, Nat.le_of_ble_eq_true rfl⟩) hPc hDc hKc hS hA hN (va_recv hKc hPc (ci := 14) (q0 := 0) rfl rfl) rfl hl.1 rfl (Nat.le_of_ble_eq_true rfl) dX13_smalls_64 (fun H locs hP1 hD1 hk1 hS => ?_)
    have hP := hP1
    have hD := hD1.weaken (fun k q _ h => hFc q.1 h)
    refine lv_goto (tgt := 306) hx hb dX13_smalls_67 (by decide) ?_
    exact (db_X13_smalls_306 C K)  s83 _ _ _ h hP hD hS (lv_sub hl [] rfl)
set_option maxHeartbeats 40000000 in
set_option maxRecDepth 100000 in
theorem dm_X13_smalls (l : Launch) (hlt : l.stackTraces = false) (dC : Nat → ClassId) (dI : Nat → Nat → Nat) (a : Nat → Nat) (ac : Nat → ClassId) (n : Nat) (v0 : Int32) (v1 : Int32) (v2 : Int32) (s0 : St) {r : St} (h : df_X13_smalls n v0 v1 v2 s0 = some r) (sz : Nat) : Met l yX13_smalls ow_dm_X13_smalls ({ frames := 9, cells := 0, slots := 0, locals := 206 }) (va_Pc [.ref (a 0), .int v0, .int v1, .int v2] (fun U => U.heap.size = sz ∧ va_P (dC, dI) vwCl (dw_X13 a ac s0) U.heap ∧ va_K (dC, dI) vwCl (dk_X13 ac) U ∧ va_D (fun _ => True) (dw_X13 a ac s0) ∧ nv_E dI (va_A (dw_X13 a ac s0) sz) U)) (va_Qv (fun _ => True) (fun (_ : Unit) t => va_P (dC, dI) vwCl (dw_X13 a ac r) t.heap ∧ va_K (dC, dI) vwCl (dk_X13 ac) t ∧ va_D (va_A (dw_X13 a ac s0) sz) (dw_X13 a ac r)) (va_A (dw_X13 a ac s0) sz)) 0 0 (va_A (dw_X13 a ac s0) sz) := by
  refine Met.ofW (cc := cX13_smalls) (maxL := 6) (ret := none) (by decide) rfl ?_
  intro p e s m args below meth c s₁ B hml hv
  obtain ⟨rfl, hsz, hP, hK, hD0, hN⟩ := hv
  have hx := B.exec
  have hb := B.bytes
  have hr := B.returns
  have hts := atoms_spec (ws := ow_dm_X13_smalls) B.pre
  have hown : s.vm.findClass RX13 = some m.cls := findClass_of_methodNamed B.named
  have hlocks := B.notSynchronized
  subst hsz
  have hD := hD0.self (sz := s.heap.size)
  generalize hAe : va_A (dw_X13 a ac s0) s.heap.size = A at hD hN ⊢
  have hA : ∀ q : Nat, s.heap.size ≤ q → A q := fun q h => by rw [← hAe]; exact Or.inr h
  have hl := lv_entry ([.ref (a 0), .int v0, .int v1, .int v2]) (n := 6) (Nat.le_of_ble_eq_true rfl)
  rw [lg_entry_eq]
  generalize (lg_sl ([.ref (a 0), .int v0, .int v1, .int v2]) ++ List.replicate (6 - (lg_sl ([.ref (a 0), .int v0, .int v1, .int v2])).length) Slot.unset).toArray = ls at hl ⊢
  have hl : lv_has ls 6 [(0, .ref (a 0)), (1, .int v0), (2, .int v1), (3, .int v2)] := hl
  exact db_X13_smalls_0 (dC := dC) (dI := dI) (a := a) (ac := ac) (n := n) (r := r) ⟨hlt, hx, hb, hml, hown, hts, hN, hA, hK⟩ (fun pc τ H locs ls d er hP hD hS => by subst er; exact W.vret hx hb hr (fun t ht hW => ⟨⟨(), rfl, trivial, by rw [ht]; exact hP, va_K.moved hW.alike hK, hD⟩, hS.F ht⟩) hS.2.2 d) v0 v1 v2 s0 _ _ _ h hP hD va_S.rf (lv_sub hl [0, 1, 2, 3] rfl)
def ow_dm_X13_shorts : List Cond := Cond.code yX13_shorts cX13_shorts 6 none :: ([Cond.methodLink RX13 532 yX13_taken, Cond.instanceMethod yX13_taken, Cond.selects RX13 yX13_taken yX13_taken, Cond.initialized RX13, Cond.methodLink RX13 582 yX13_comma, Cond.instanceMethod yX13_comma, Cond.selects RX13 yX13_comma yX13_comma, Cond.methodLink RX13 624 yX13_plainSix, Cond.instanceMethod yX13_plainSix, Cond.selects RX13 yX13_plainSix yX13_plainSix, Cond.methodLink RX13 628 yX13_stacked, Cond.instanceMethod yX13_stacked, Cond.selects RX13 yX13_stacked yX13_stacked, Cond.methodLink RX13 585 yX13_within, Cond.instanceMethod yX13_within, Cond.selects RX13 yX13_within yX13_within, Cond.methodLink RX13 547 yX13_half, Cond.instanceMethod yX13_half, Cond.selects RX13 yX13_half yX13_half, Cond.methodLink RX13 617 yX13_not, Cond.instanceMethod yX13_not, Cond.selects RX13 yX13_not yX13_not, Cond.methodLink RX13 620 yX13_smalls, Cond.instanceMethod yX13_smalls, Cond.selects RX13 yX13_smalls yX13_smalls, Cond.methodLink RX13 614 yX13_near8, Cond.instanceMethod yX13_near8, Cond.selects RX13 yX13_near8 yX13_near8, Cond.methodLink RX13 611 yX13_notZero, Cond.instanceMethod yX13_notZero, Cond.selects RX13 yX13_notZero yX13_notZero, Cond.methodLink RX13 550 yX13_bits, Cond.static yX13_bits, Cond.methodLink RX13 525 yX13_expression, Cond.instanceMethod yX13_expression, Cond.selects RX13 yX13_expression yX13_expression, Cond.fieldLink RX13 486 "TimeMachineModel$Assembler" "address" "I", Cond.methodLink RX13 528 yX13_fits, Cond.instanceMethod yX13_fits, Cond.selects RX13 yX13_fits yX13_fits, Cond.methodLink RX13 564 yX13_shortJump, Cond.static yX13_shortJump] ++ (u_ws RX13 TX13 37 ++ (ow_dm_X13_taken ++ (ow_dm_X13_comma ++ (ow_dm_X13_plainSix ++ (ow_dm_X13_stacked ++ (ow_dm_X13_within ++ (ow_dm_X13_half ++ (ow_dm_X13_not ++ (ow_dm_X13_smalls ++ (ow_dm_X13_near8 ++ (ow_dm_X13_notZero ++ (ow_dm_X13_bits ++ (ow_dm_X13_expression ++ (ow_dm_X13_fits ++ (ow_dm_X13_shortJump ++ []))))))))))))))))
theorem gd_dm_X13_shorts : ∀ w ∈ ow_dm_X13_shorts, (w.onTables && w.keeps) = true ∨ ∃ ty, w = Cond.arrayClass ty := List.forall_mem_cons.mpr ⟨good_of_word rfl, List.forall_mem_append.mpr ⟨fun w h => good_of_word (List.all_eq_true.mp (by decide +kernel) w h), List.forall_mem_append.mpr ⟨gu_X13, List.forall_mem_append.mpr ⟨gd_dm_X13_taken, List.forall_mem_append.mpr ⟨gd_dm_X13_comma, List.forall_mem_append.mpr ⟨gd_dm_X13_plainSix, List.forall_mem_append.mpr ⟨gd_dm_X13_stacked, List.forall_mem_append.mpr ⟨gd_dm_X13_within, List.forall_mem_append.mpr ⟨gd_dm_X13_half, List.forall_mem_append.mpr ⟨gd_dm_X13_not, List.forall_mem_append.mpr ⟨gd_dm_X13_smalls, List.forall_mem_append.mpr ⟨gd_dm_X13_near8, List.forall_mem_append.mpr ⟨gd_dm_X13_notZero, List.forall_mem_append.mpr ⟨gd_dm_X13_bits, List.forall_mem_append.mpr ⟨gd_dm_X13_expression, List.forall_mem_append.mpr ⟨gd_dm_X13_fits, List.forall_mem_append.mpr ⟨gd_dm_X13_shortJump, fun _ h => nomatch h⟩⟩⟩⟩⟩⟩⟩⟩⟩⟩⟩⟩⟩⟩⟩⟩⟩
theorem hi_dm_X13_shorts_X13 : ∀ w ∈ u_ws RX13 TX13 37, w ∈ ow_dm_X13_shorts := fun w h => List.mem_cons_of_mem _ (List.mem_append_right _ (List.mem_append_left _ h))
theorem gi_dm_X13_shorts_0 : GoodIn ow_dm_X13_shorts (wsV RX13 532 RX13 yX13_taken ow_dm_X13_taken) := goodIn_app (goodIn_of _ (by decide +kernel)) (fun w h => ⟨List.mem_cons_of_mem _ (List.mem_append_right _ (List.mem_append_right _ (List.mem_append_left _ h))), gd_dm_X13_taken w h⟩)
theorem gi_dm_X13_shorts_1 : GoodIn ow_dm_X13_shorts (wsV RX13 582 RX13 yX13_comma ow_dm_X13_comma) := goodIn_app (goodIn_of _ (by decide +kernel)) (fun w h => ⟨List.mem_cons_of_mem _ (List.mem_append_right _ (List.mem_append_right _ (List.mem_append_right _ (List.mem_append_left _ h)))), gd_dm_X13_comma w h⟩)
theorem gi_dm_X13_shorts_2 : GoodIn ow_dm_X13_shorts (wsV RX13 624 RX13 yX13_plainSix ow_dm_X13_plainSix) := goodIn_app (goodIn_of _ (by decide +kernel)) (fun w h => ⟨List.mem_cons_of_mem _ (List.mem_append_right _ (List.mem_append_right _ (List.mem_append_right _ (List.mem_append_right _ (List.mem_append_left _ h))))), gd_dm_X13_plainSix w h⟩)
theorem gi_dm_X13_shorts_3 : GoodIn ow_dm_X13_shorts (wsV RX13 628 RX13 yX13_stacked ow_dm_X13_stacked) := goodIn_app (goodIn_of _ (by decide +kernel)) (fun w h => ⟨List.mem_cons_of_mem _ (List.mem_append_right _ (List.mem_append_right _ (List.mem_append_right _ (List.mem_append_right _ (List.mem_append_right _ (List.mem_append_left _ h)))))), gd_dm_X13_stacked w h⟩)
theorem gi_dm_X13_shorts_4 : GoodIn ow_dm_X13_shorts (wsV RX13 585 RX13 yX13_within ow_dm_X13_within) := goodIn_app (goodIn_of _ (by decide +kernel)) (fun w h => ⟨List.mem_cons_of_mem _ (List.mem_append_right _ (List.mem_append_right _ (List.mem_append_right _ (List.mem_append_right _ (List.mem_append_right _ (List.mem_append_right _ (List.mem_append_left _ h))))))), gd_dm_X13_within w h⟩)
theorem gi_dm_X13_shorts_5 : GoodIn ow_dm_X13_shorts (wsV RX13 547 RX13 yX13_half ow_dm_X13_half) := goodIn_app (goodIn_of _ (by decide +kernel)) (fun w h => ⟨List.mem_cons_of_mem _ (List.mem_append_right _ (List.mem_append_right _ (List.mem_append_right _ (List.mem_append_right _ (List.mem_append_right _ (List.mem_append_right _ (List.mem_append_right _ (List.mem_append_left _ h)))))))), gd_dm_X13_half w h⟩)
theorem gi_dm_X13_shorts_6 : GoodIn ow_dm_X13_shorts (wsV RX13 617 RX13 yX13_not ow_dm_X13_not) := goodIn_app (goodIn_of _ (by decide +kernel)) (fun w h => ⟨List.mem_cons_of_mem _ (List.mem_append_right _ (List.mem_append_right _ (List.mem_append_right _ (List.mem_append_right _ (List.mem_append_right _ (List.mem_append_right _ (List.mem_append_right _ (List.mem_append_right _ (List.mem_append_left _ h))))))))), gd_dm_X13_not w h⟩)
theorem gi_dm_X13_shorts_7 : GoodIn ow_dm_X13_shorts (wsV RX13 620 RX13 yX13_smalls ow_dm_X13_smalls) := goodIn_app (goodIn_of _ (by decide +kernel)) (fun w h => ⟨List.mem_cons_of_mem _ (List.mem_append_right _ (List.mem_append_right _ (List.mem_append_right _ (List.mem_append_right _ (List.mem_append_right _ (List.mem_append_right _ (List.mem_append_right _ (List.mem_append_right _ (List.mem_append_right _ (List.mem_append_left _ h)))))))))), gd_dm_X13_smalls w h⟩)
theorem gi_dm_X13_shorts_8 : GoodIn ow_dm_X13_shorts (wsV RX13 614 RX13 yX13_near8 ow_dm_X13_near8) := goodIn_app (goodIn_of _ (by decide +kernel)) (fun w h => ⟨List.mem_cons_of_mem _ (List.mem_append_right _ (List.mem_append_right _ (List.mem_append_right _ (List.mem_append_right _ (List.mem_append_right _ (List.mem_append_right _ (List.mem_append_right _ (List.mem_append_right _ (List.mem_append_right _ (List.mem_append_right _ (List.mem_append_left _ h))))))))))), gd_dm_X13_near8 w h⟩)
theorem gi_dm_X13_shorts_9 : GoodIn ow_dm_X13_shorts (wsV RX13 611 RX13 yX13_notZero ow_dm_X13_notZero) := goodIn_app (goodIn_of _ (by decide +kernel)) (fun w h => ⟨List.mem_cons_of_mem _ (List.mem_append_right _ (List.mem_append_right _ (List.mem_append_right _ (List.mem_append_right _ (List.mem_append_right _ (List.mem_append_right _ (List.mem_append_right _ (List.mem_append_right _ (List.mem_append_right _ (List.mem_append_right _ (List.mem_append_right _ (List.mem_append_left _ h)))))))))))), gd_dm_X13_notZero w h⟩)
theorem gi_dm_X13_shorts_10 : GoodIn ow_dm_X13_shorts (wsS RX13 550 yX13_bits ow_dm_X13_bits) := goodIn_app (goodIn_of _ (by decide +kernel)) (fun w h => ⟨List.mem_cons_of_mem _ (List.mem_append_right _ (List.mem_append_right _ (List.mem_append_right _ (List.mem_append_right _ (List.mem_append_right _ (List.mem_append_right _ (List.mem_append_right _ (List.mem_append_right _ (List.mem_append_right _ (List.mem_append_right _ (List.mem_append_right _ (List.mem_append_right _ (List.mem_append_left _ h))))))))))))), gd_dm_X13_bits w h⟩)
theorem gi_dm_X13_shorts_11 : GoodIn ow_dm_X13_shorts (wsV RX13 525 RX13 yX13_expression ow_dm_X13_expression) := goodIn_app (goodIn_of _ (by decide +kernel)) (fun w h => ⟨List.mem_cons_of_mem _ (List.mem_append_right _ (List.mem_append_right _ (List.mem_append_right _ (List.mem_append_right _ (List.mem_append_right _ (List.mem_append_right _ (List.mem_append_right _ (List.mem_append_right _ (List.mem_append_right _ (List.mem_append_right _ (List.mem_append_right _ (List.mem_append_right _ (List.mem_append_right _ (List.mem_append_left _ h)))))))))))))), gd_dm_X13_expression w h⟩)
theorem gi_dm_X13_shorts_12 : GoodIn ow_dm_X13_shorts (wsV RX13 528 RX13 yX13_fits ow_dm_X13_fits) := goodIn_app (goodIn_of _ (by decide +kernel)) (fun w h => ⟨List.mem_cons_of_mem _ (List.mem_append_right _ (List.mem_append_right _ (List.mem_append_right _ (List.mem_append_right _ (List.mem_append_right _ (List.mem_append_right _ (List.mem_append_right _ (List.mem_append_right _ (List.mem_append_right _ (List.mem_append_right _ (List.mem_append_right _ (List.mem_append_right _ (List.mem_append_right _ (List.mem_append_right _ (List.mem_append_left _ h))))))))))))))), gd_dm_X13_fits w h⟩)
theorem gi_dm_X13_shorts_13 : GoodIn ow_dm_X13_shorts (wsS RX13 564 yX13_shortJump ow_dm_X13_shortJump) := goodIn_app (goodIn_of _ (by decide +kernel)) (fun w h => ⟨List.mem_cons_of_mem _ (List.mem_append_right _ (List.mem_append_right _ (List.mem_append_right _ (List.mem_append_right _ (List.mem_append_right _ (List.mem_append_right _ (List.mem_append_right _ (List.mem_append_right _ (List.mem_append_right _ (List.mem_append_right _ (List.mem_append_right _ (List.mem_append_right _ (List.mem_append_right _ (List.mem_append_right _ (List.mem_append_right _ (List.mem_append_left _ h)))))))))))))))), gd_dm_X13_shortJump w h⟩)
def dj_X13_shorts_341 (p : Program) (l : Launch) (e : Env) (s : State) (m : MethodId) (args : Array Value) (below : List Frame) (meth : Method) (c : Code) (Q : State → Prop) (A : Nat → Prop) (dC : Nat → ClassId) (dI : Nat → Nat → Nat) (a : Nat → Nat) (ac : Nat → ClassId) (g : (St) → Option (St)) (r : St) : Prop := ∀ (s0 : St) (H : Heap) (locs : List Loc) (ls : Array Slot), g s0 = some r → va_P (dC, dI) vwCl (dw_X13 a ac s0) H → va_D A (dw_X13 a ac s0) → va_S A s.heap H locs → lv_has ls 6 [] → W p l e (headSpec ow_dm_X13_shorts ({ frames := 10, cells := 0, slots := 0, locals := 231 })).room s m args below meth c H locs 0 0 Q (F0 m 341 ls [])
def dj_X13_shorts_287 (p : Program) (l : Launch) (e : Env) (s : State) (m : MethodId) (args : Array Value) (below : List Frame) (meth : Method) (c : Code) (Q : State → Prop) (A : Nat → Prop) (dC : Nat → ClassId) (dI : Nat → Nat → Nat) (a : Nat → Nat) (ac : Nat → ClassId) (g : Int32 → Int32 → Int32 → (St) → Option (St)) (r : St) : Prop := ∀ (x2 : Int32) (x4 : Int32) (x5 : Int32) (s0 : St) (H : Heap) (locs : List Loc) (ls : Array Slot), g x2 x4 x5 s0 = some r → va_P (dC, dI) vwCl (dw_X13 a ac s0) H → va_D A (dw_X13 a ac s0) → va_S A s.heap H locs → lv_has ls 6 [(0, .ref (a 0)), (2, .int x2), (4, .int x4), (5, .int x5)] → W p l e (headSpec ow_dm_X13_shorts ({ frames := 10, cells := 0, slots := 0, locals := 231 })).room s m args below meth c H locs 0 0 Q (F0 m 287 ls [])
def dj_X13_shorts_221 (p : Program) (l : Launch) (e : Env) (s : State) (m : MethodId) (args : Array Value) (below : List Frame) (meth : Method) (c : Code) (Q : State → Prop) (A : Nat → Prop) (dC : Nat → ClassId) (dI : Nat → Nat → Nat) (a : Nat → Nat) (ac : Nat → ClassId) (g : Int32 → Int32 → Int32 → Int32 → Int32 → (St) → Option (St)) (r : St) : Prop := ∀ (x1 : Int32) (x2 : Int32) (x3 : Int32) (x4 : Int32) (x5 : Int32) (s0 : St) (H : Heap) (locs : List Loc) (ls : Array Slot), g x1 x2 x3 x4 x5 s0 = some r → va_P (dC, dI) vwCl (dw_X13 a ac s0) H → va_D A (dw_X13 a ac s0) → va_S A s.heap H locs → lv_has ls 6 [(0, .ref (a 0)), (1, .int x1), (2, .int x2), (3, .int x3), (4, .int x4), (5, .int x5)] → W p l e (headSpec ow_dm_X13_shorts ({ frames := 10, cells := 0, slots := 0, locals := 231 })).room s m args below meth c H locs 0 0 Q (F0 m 221 ls [])
def dj_X13_shorts_206 (p : Program) (l : Launch) (e : Env) (s : State) (m : MethodId) (args : Array Value) (below : List Frame) (meth : Method) (c : Code) (Q : State → Prop) (A : Nat → Prop) (dC : Nat → ClassId) (dI : Nat → Nat → Nat) (a : Nat → Nat) (ac : Nat → ClassId) (g : Int32 → Int32 → Int32 → Int32 → Int32 → (St) → Option (St)) (r : St) : Prop := ∀ (x1 : Int32) (x2 : Int32) (x3 : Int32) (x4 : Int32) (y0 : Int32) (s0 : St) (H : Heap) (locs : List Loc) (ls : Array Slot), g x1 x2 x3 x4 y0 s0 = some r → va_P (dC, dI) vwCl (dw_X13 a ac s0) H → va_D A (dw_X13 a ac s0) → va_S A s.heap H locs → lv_has ls 6 [(0, .ref (a 0)), (1, .int x1), (2, .int x2), (3, .int x3), (4, .int x4)] → W p l e (headSpec ow_dm_X13_shorts ({ frames := 10, cells := 0, slots := 0, locals := 231 })).room s m args below meth c H locs 0 0 Q (F0 m 206 ls [.int y0])
def dj_X13_shorts_195 (p : Program) (l : Launch) (e : Env) (s : State) (m : MethodId) (args : Array Value) (below : List Frame) (meth : Method) (c : Code) (Q : State → Prop) (A : Nat → Prop) (dC : Nat → ClassId) (dI : Nat → Nat → Nat) (a : Nat → Nat) (ac : Nat → ClassId) (g : Int32 → Int32 → Int32 → Int32 → (St) → Option (St)) (r : St) : Prop := ∀ (x1 : Int32) (x2 : Int32) (x3 : Int32) (x4 : Int32) (s0 : St) (H : Heap) (locs : List Loc) (ls : Array Slot), g x1 x2 x3 x4 s0 = some r → va_P (dC, dI) vwCl (dw_X13 a ac s0) H → va_D A (dw_X13 a ac s0) → va_S A s.heap H locs → lv_has ls 6 [(0, .ref (a 0)), (1, .int x1), (2, .int x2), (3, .int x3), (4, .int x4)] → W p l e (headSpec ow_dm_X13_shorts ({ frames := 10, cells := 0, slots := 0, locals := 231 })).room s m args below meth c H locs 0 0 Q (F0 m 195 ls [])
def dj_X13_shorts_156 (p : Program) (l : Launch) (e : Env) (s : State) (m : MethodId) (args : Array Value) (below : List Frame) (meth : Method) (c : Code) (Q : State → Prop) (A : Nat → Prop) (dC : Nat → ClassId) (dI : Nat → Nat → Nat) (a : Nat → Nat) (ac : Nat → ClassId) (g : Int32 → Int32 → Int32 → Int32 → (St) → Option (St)) (r : St) : Prop := ∀ (x1 : Int32) (x2 : Int32) (x3 : Int32) (y0 : Int32) (s0 : St) (H : Heap) (locs : List Loc) (ls : Array Slot), g x1 x2 x3 y0 s0 = some r → va_P (dC, dI) vwCl (dw_X13 a ac s0) H → va_D A (dw_X13 a ac s0) → va_S A s.heap H locs → lv_has ls 6 [(0, .ref (a 0)), (1, .int x1), (2, .int x2), (3, .int x3)] → W p l e (headSpec ow_dm_X13_shorts ({ frames := 10, cells := 0, slots := 0, locals := 231 })).room s m args below meth c H locs 0 0 Q (F0 m 156 ls [.int y0])
def dj_X13_shorts_140 (p : Program) (l : Launch) (e : Env) (s : State) (m : MethodId) (args : Array Value) (below : List Frame) (meth : Method) (c : Code) (Q : State → Prop) (A : Nat → Prop) (dC : Nat → ClassId) (dI : Nat → Nat → Nat) (a : Nat → Nat) (ac : Nat → ClassId) (g : Int32 → Int32 → Int32 → (St) → Option (St)) (r : St) : Prop := ∀ (x1 : Int32) (x2 : Int32) (y0 : Int32) (s0 : St) (H : Heap) (locs : List Loc) (ls : Array Slot), g x1 x2 y0 s0 = some r → va_P (dC, dI) vwCl (dw_X13 a ac s0) H → va_D A (dw_X13 a ac s0) → va_S A s.heap H locs → lv_has ls 6 [(0, .ref (a 0)), (1, .int x1), (2, .int x2)] → W p l e (headSpec ow_dm_X13_shorts ({ frames := 10, cells := 0, slots := 0, locals := 231 })).room s m args below meth c H locs 0 0 Q (F0 m 140 ls [.int y0])
def dj_X13_shorts_135 (p : Program) (l : Launch) (e : Env) (s : State) (m : MethodId) (args : Array Value) (below : List Frame) (meth : Method) (c : Code) (Q : State → Prop) (A : Nat → Prop) (dC : Nat → ClassId) (dI : Nat → Nat → Nat) (a : Nat → Nat) (ac : Nat → ClassId) (g : Int32 → Int32 → (St) → Option (St)) (r : St) : Prop := ∀ (x1 : Int32) (x2 : Int32) (s0 : St) (H : Heap) (locs : List Loc) (ls : Array Slot), g x1 x2 s0 = some r → va_P (dC, dI) vwCl (dw_X13 a ac s0) H → va_D A (dw_X13 a ac s0) → va_S A s.heap H locs → lv_has ls 6 [(0, .ref (a 0)), (1, .int x1), (2, .int x2)] → W p l e (headSpec ow_dm_X13_shorts ({ frames := 10, cells := 0, slots := 0, locals := 231 })).room s m args below meth c H locs 0 0 Q (F0 m 135 ls [])
def dj_X13_shorts_139 (p : Program) (l : Launch) (e : Env) (s : State) (m : MethodId) (args : Array Value) (below : List Frame) (meth : Method) (c : Code) (Q : State → Prop) (A : Nat → Prop) (dC : Nat → ClassId) (dI : Nat → Nat → Nat) (a : Nat → Nat) (ac : Nat → ClassId) (g : Int32 → Int32 → (St) → Option (St)) (r : St) : Prop := ∀ (x1 : Int32) (x2 : Int32) (s0 : St) (H : Heap) (locs : List Loc) (ls : Array Slot), g x1 x2 s0 = some r → va_P (dC, dI) vwCl (dw_X13 a ac s0) H → va_D A (dw_X13 a ac s0) → va_S A s.heap H locs → lv_has ls 6 [(0, .ref (a 0)), (1, .int x1), (2, .int x2)] → W p l e (headSpec ow_dm_X13_shorts ({ frames := 10, cells := 0, slots := 0, locals := 231 })).room s m args below meth c H locs 0 0 Q (F0 m 139 ls [])
def dj_X13_shorts_0 (p : Program) (l : Launch) (e : Env) (s : State) (m : MethodId) (args : Array Value) (below : List Frame) (meth : Method) (c : Code) (Q : State → Prop) (A : Nat → Prop) (dC : Nat → ClassId) (dI : Nat → Nat → Nat) (a : Nat → Nat) (ac : Nat → ClassId) (g : Int32 → Int32 → (St) → Option (St)) (r : St) : Prop := ∀ (v0 : Int32) (v1 : Int32) (s0 : St) (H : Heap) (locs : List Loc) (ls : Array Slot), g v0 v1 s0 = some r → va_P (dC, dI) vwCl (dw_X13 a ac s0) H → va_D A (dw_X13 a ac s0) → va_S A s.heap H locs → lv_has ls 6 [(0, .ref (a 0)), (1, .int v0), (2, .int v1)] → W p l e (headSpec ow_dm_X13_shorts ({ frames := 10, cells := 0, slots := 0, locals := 231 })).room s m args below meth c H locs 0 0 Q (F0 m 0 ls [])
set_option maxHeartbeats 40000000 in
set_option maxRecDepth 100000 in
theorem db_X13_shorts_341 {p : Program} {l : Launch} {e : Env} {s : State} {m : MethodId} {args : Array Value} {below : List Frame} {meth : Method} {c : Code} {Q : State → Prop} {A : Nat → Prop} {dC : Nat → ClassId} {dI : Nat → Nat → Nat} {a : Nat → Nat} {ac : Nat → ClassId} {n : Nat} {r : St} (C : nd_C p l s m args c A (dC, dI) cX13_shorts 6 RX13 ow_dm_X13_shorts (dk_X13 ac)) (K : nd_Kv p l e (headSpec ow_dm_X13_shorts ({ frames := 10, cells := 0, slots := 0, locals := 231 })).room s m args below meth c Q A (dC, dI) cX13_shorts (St) (dw_X13 a ac) r) : dj_X13_shorts_341 p l e s m args below meth c Q A dC dI a ac (df_X13_shorts_341 n) r := by
  obtain ⟨hlt, hx, hb, hml, hown, hts, hN, hA, hK⟩ := id C
  intro s0 H locs ls h hP hD hS hl
  unfold df_X13_shorts_341 at h
  exact K _ _ _ _ _ dX13_shorts_341 (Option.some.inj h).symm hP hD hS
set_option maxHeartbeats 40000000 in
set_option maxRecDepth 100000 in
theorem db_X13_shorts_287 {p : Program} {l : Launch} {e : Env} {s : State} {m : MethodId} {args : Array Value} {below : List Frame} {meth : Method} {c : Code} {Q : State → Prop} {A : Nat → Prop} {dC : Nat → ClassId} {dI : Nat → Nat → Nat} {a : Nat → Nat} {ac : Nat → ClassId} {n : Nat} {r : St} (C : nd_C p l s m args c A (dC, dI) cX13_shorts 6 RX13 ow_dm_X13_shorts (dk_X13 ac)) (K : nd_Kv p l e (headSpec ow_dm_X13_shorts ({ frames := 10, cells := 0, slots := 0, locals := 231 })).room s m args below meth c Q A (dC, dI) cX13_shorts (St) (dw_X13 a ac) r) : dj_X13_shorts_287 p l e s m args below meth c Q A dC dI a ac (df_X13_shorts_287 n) r := by
  obtain ⟨hlt, hx, hb, hml, hown, hts, hN, hA, hK⟩ := id C
  intro x2 x4 x5 s0 H locs ls h hP hD hS hl
  unfold df_X13_shorts_287 at h
  refine lv_aload_n hx hb dX13_shorts_287 rfl (lv_at hl 0 rfl) ?_
  refine lv_iload_n hx hb dX13_shorts_288 rfl (lv_at hl 1 rfl) ?_
  refine lv_iload hx hb dX13_shorts_289 (lv_at hl 2 rfl) ?_
  refine lv_iload hx hb dX13_shorts_291 (lv_at hl 3 rfl) ?_
  obtain ⟨s20, hq, h⟩ := nd_b1_e h
  have hPc := hP
  have hDc := hD
  have hKc := hK
  have hFc := nd_rs hD hS hA
  refine nd_cVv (As := [.int x2, .int x4, .int x5]) (rest := []) (w' := dw_X13 a ac s20) ⟨hx, hb, hml, hown, hts⟩ (fun sz => dm_X13_plainSix l hlt dC dI a ac n (x2) (x4) (x5) s0 hq sz) (cwV 3 hts gi_dm_X13_shorts_2 rfl rfl rfl (by decide +kernel) ⟨Nat.le_of_ble_eq_true rfl, Nat.le_of_ble_eq_true rfl⟩) hPc hDc hKc hS hA hN (va_recv hKc hPc (ci := 14) (q0 := 0) rfl rfl) rfl hl.1 rfl (Nat.le_of_ble_eq_true rfl) dX13_shorts_293 (fun H locs hP1 hD1 hk1 hS => ?_)
  have hP := hP1
  have hD := hD1.weaken (fun k q _ h => hFc q.1 h)
  refine lv_goto (tgt := 341) hx hb dX13_shorts_296 (by decide) ?_
  exact (db_X13_shorts_341 C K)  s20 _ _ _ h hP hD hS (lv_sub hl [] rfl)

