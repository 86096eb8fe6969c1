set_option maxHeartbeats 40000000 in
set_option maxRecDepth 100000 in
theorem db_X9_joined_0 {p : Program} {l : Launch} {e : Env} {s : State} {m : MethodId} {args : Array Value} {below : List Frame} {meth : Method} {c : Code} {Q : State → Prop} {A : Nat → Prop} {dC : Nat → ClassId} {dI : Nat → Nat → Nat} {a : Nat → Nat} {ac : Nat → ClassId} {n : Nat} {r : Int32 × (St)} (C : nd_C p l s m args c A (dC, dI) cX9_joined 4 RX9 ow_dm_X9_joined (dk_X9 ac)) (K : nd_Ki p l e (headSpec ow_dm_X9_joined ({ frames := 0, cells := 0, slots := 0, locals := 0 })).room s m args below meth c Q A (dC, dI) cX9_joined .int (St) (dw_X9 a ac) r) : dj_X9_joined_0 p l e s m args below meth c Q A dC dI a ac (df_X9_joined_0 n) r := by
  obtain ⟨hlt, hx, hb, hml, hown, hts, hN, hA, hK⟩ := id C
  intro v0 v1 v2 s0 H locs ls h hP hD hS hl
  unfold df_X9_joined_0 at h
  refine lv_iload_n hx hb dX9_joined_0 rfl (lv_at hl 1 rfl) ?_
  by_cases c1 : v0 = 1
  · have h := nd_pos h c1
    refine lv_tableIn (off := 51) (tgt := 52) hx hb dX9_joined_1 (by rw [c1]; decide) (by rw [c1]; decide) (by rw [c1]; decide) (by decide) ?_
    refine lv_iload_n hx hb dX9_joined_52 rfl (lv_at hl 2 rfl) ?_
    refine lv_iload_n hx hb dX9_joined_53 rfl (lv_at hl 3 rfl) ?_
    refine lv_imul hx hb dX9_joined_54 ?_
    exact K _ _ _ _ _ _ dX9_joined_55 rfl (Option.some.inj h).symm hP hD hS
  have h := nd_neg h c1
  by_cases c2 : v0 = 2
  · have h := nd_pos h c2
    refine lv_tableIn (off := 55) (tgt := 56) hx hb dX9_joined_1 (by rw [c2]; decide) (by rw [c2]; decide) (by rw [c2]; decide) (by decide) ?_
    exact (db_X9_joined_56 C K) (v0) (v1) (v2) s0 _ _ _ h hP hD hS (lv_sub hl [0, 1, 2, 3] rfl)
  have h := nd_neg h c2
  by_cases c10 : v0 = 3
  · have h := nd_pos h c10
    refine lv_tableIn (off := 55) (tgt := 56) hx hb dX9_joined_1 (by rw [c10]; decide) (by rw [c10]; decide) (by rw [c10]; decide) (by decide) ?_
    exact (db_X9_joined_56 C K) (v0) (v1) (v2) s0 _ _ _ h hP hD hS (lv_sub hl [0, 1, 2, 3] rfl)
  have h := nd_neg h c10
  by_cases c11 : v0 = 4
  · have h := nd_pos h c11
    refine lv_tableIn (off := 102) (tgt := 103) hx hb dX9_joined_1 (by rw [c11]; decide) (by rw [c11]; decide) (by rw [c11]; decide) (by decide) ?_
    refine lv_iload_n hx hb dX9_joined_103 rfl (lv_at hl 2 rfl) ?_
    refine lv_iload_n hx hb dX9_joined_104 rfl (lv_at hl 3 rfl) ?_
    refine lv_iadd hx hb dX9_joined_105 ?_
    exact K _ _ _ _ _ _ dX9_joined_106 rfl (Option.some.inj h).symm hP hD hS
  have h := nd_neg h c11
  by_cases c12 : v0 = 5
  · have h := nd_pos h c12
    refine lv_tableIn (off := 106) (tgt := 107) hx hb dX9_joined_1 (by rw [c12]; decide) (by rw [c12]; decide) (by rw [c12]; decide) (by decide) ?_
    refine lv_iload_n hx hb dX9_joined_107 rfl (lv_at hl 2 rfl) ?_
    refine lv_iload_n hx hb dX9_joined_108 rfl (lv_at hl 3 rfl) ?_
    refine lv_isub hx hb dX9_joined_109 ?_
    exact K _ _ _ _ _ _ dX9_joined_110 rfl (Option.some.inj h).symm hP hD hS
  have h := nd_neg h c12
  by_cases c13 : v0 = 6
  · have h := nd_pos h c13
    refine lv_tableIn (off := 110) (tgt := 111) hx hb dX9_joined_1 (by rw [c13]; decide) (by rw [c13]; decide) (by rw [c13]; decide) (by decide) ?_
    refine lv_iload_n hx hb dX9_joined_111 rfl (lv_at hl 2 rfl) ?_
    refine lv_iload_n hx hb dX9_joined_112 rfl (lv_at hl 3 rfl) ?_
    refine lv_ishl hx hb dX9_joined_113 ?_
    exact K _ _ _ _ _ _ dX9_joined_114 rfl (Option.some.inj h).symm hP hD hS
  have h := nd_neg h c13
  by_cases c14 : v0 = 7
  · have h := nd_pos h c14
    refine lv_tableIn (off := 114) (tgt := 115) hx hb dX9_joined_1 (by rw [c14]; decide) (by rw [c14]; decide) (by rw [c14]; decide) (by decide) ?_
    refine lv_iload_n hx hb dX9_joined_115 rfl (lv_at hl 2 rfl) ?_
    refine lv_iload_n hx hb dX9_joined_116 rfl (lv_at hl 3 rfl) ?_
    refine lv_ishr hx hb dX9_joined_117 ?_
    exact K _ _ _ _ _ _ dX9_joined_118 rfl (Option.some.inj h).symm hP hD hS
  have h := nd_neg h c14
  by_cases c15 : v0 = 8
  · have h := nd_pos h c15
    refine lv_tableIn (off := 118) (tgt := 119) hx hb dX9_joined_1 (by rw [c15]; decide) (by rw [c15]; decide) (by rw [c15]; decide) (by decide) ?_
    refine lv_iload_n hx hb dX9_joined_119 rfl (lv_at hl 2 rfl) ?_
    refine lv_iload_n hx hb dX9_joined_120 rfl (lv_at hl 3 rfl) ?_
    refine lv_iand hx hb dX9_joined_121 ?_
    exact K _ _ _ _ _ _ dX9_joined_122 rfl (Option.some.inj h).symm hP hD hS
  have h := nd_neg h c15
  by_cases c16 : v0 = 9
  · have h := nd_pos h c16
    refine lv_tableIn (off := 122) (tgt := 123) hx hb dX9_joined_1 (by rw [c16]; decide) (by rw [c16]; decide) (by rw [c16]; decide) (by decide) ?_
    refine lv_iload_n hx hb dX9_joined_123 rfl (lv_at hl 2 rfl) ?_
    refine lv_iload_n hx hb dX9_joined_124 rfl (lv_at hl 3 rfl) ?_
    refine lv_ixor hx hb dX9_joined_125 ?_
    exact K _ _ _ _ _ _ dX9_joined_126 rfl (Option.some.inj h).symm hP hD hS
  have h := nd_neg h c16
  refine lv_tableOut (tgt := 127) hx hb dX9_joined_1 (by have g0 := nv_nei c1 (k := 1) (by decide); have g1 := nv_nei c2 (k := 2) (by decide); have g2 := nv_nei c10 (k := 3) (by decide); have g3 := nv_nei c11 (k := 4) (by decide); have g4 := nv_nei c12 (k := 5) (by decide); have g5 := nv_nei c13 (k := 6) (by decide); have g6 := nv_nei c14 (k := 7) (by decide); have g7 := nv_nei c15 (k := 8) (by decide); have g8 := nv_nei c16 (k := 9) (by decide); omega) (by decide) ?_
  refine lv_iload_n hx hb dX9_joined_127 rfl (lv_at hl 2 rfl) ?_
  refine lv_iload_n hx hb dX9_joined_128 rfl (lv_at hl 3 rfl) ?_
  refine lv_ior hx hb dX9_joined_129 ?_
  exact K _ _ _ _ _ _ dX9_joined_130 rfl (Option.some.inj h).symm hP hD hS
set_option maxHeartbeats 40000000 in
set_option maxRecDepth 100000 in
theorem dm_X9_joined (l : Launch) (hlt : l.stackTraces = false) (dC : Nat → ClassId) (dI : Nat → Nat → Nat) (a : Nat → Nat) (ac : Nat → ClassId) (n : Nat) (v0 : Int32) (v1 : Int32) (v2 : Int32) (s0 : St) {r : Int32 × (St)} (h : df_X9_joined n v0 v1 v2 s0 = some r) (sz : Nat) : Met l yX9_joined ow_dm_X9_joined ({ frames := 0, cells := 0, slots := 0, locals := 0 }) (va_Pc [.ref (a 0), .int v0, .int v1, .int v2] (fun U => U.heap.size = sz ∧ va_P (dC, dI) vwCl (dw_X9 a ac s0) U.heap ∧ va_K (dC, dI) vwCl (dk_X9 ac) U ∧ va_D (fun _ => True) (dw_X9 a ac s0) ∧ nv_E (va_A (dw_X9 a ac s0) sz) U)) (va_Qi (fun x _ => x = r.1) (fun (_ : Unit) t => va_P (dC, dI) vwCl (dw_X9 a ac r.2) t.heap ∧ va_K (dC, dI) vwCl (dk_X9 ac) t ∧ va_D (va_A (dw_X9 a ac s0) sz) (dw_X9 a ac r.2)) (va_A (dw_X9 a ac s0) sz)) 0 0 (va_A (dw_X9 a ac s0) sz) := by
  refine Met.ofW (cc := cX9_joined) (maxL := 4) (ret := (some .int)) (by decide) rfl ?_
  intro p e s m args below meth c s₁ B hml hv
  obtain ⟨rfl, hsz, hP, hK, hD0, hN⟩ := hv
  have hx := B.exec
  have hb := B.bytes
  have hr := B.returns
  have hts := atoms_spec (ws := ow_dm_X9_joined) B.pre
  have hown : s.vm.findClass RX9 = some m.cls := findClass_of_methodNamed B.named
  have hlocks := B.notSynchronized
  subst hsz
  have hD := hD0.self (sz := s.heap.size)
  generalize hAe : va_A (dw_X9 a ac s0) s.heap.size = A at hD hN ⊢
  have hA : ∀ q : Nat, s.heap.size ≤ q → A q := fun q h => by rw [← hAe]; exact Or.inr h
  have hl := lv_entry ([.ref (a 0), .int v0, .int v1, .int v2]) (n := 4) (Nat.le_of_ble_eq_true rfl)
  rw [lg_entry_eq]
  generalize (lg_sl ([.ref (a 0), .int v0, .int v1, .int v2]) ++ List.replicate (4 - (lg_sl ([.ref (a 0), .int v0, .int v1, .int v2])).length) Slot.unset).toArray = ls at hl ⊢
  have hl : lv_has ls 4 [(0, .ref (a 0)), (1, .int v0), (2, .int v1), (3, .int v2)] := hl
  exact db_X9_joined_0 (dC := dC) (dI := dI) (a := a) (ac := ac) (n := n) (r := r) ⟨hlt, hx, hb, hml, hown, hts, hN, hA, hK⟩ (fun pc v τ H locs ls d z er hP hD hS => by subst er; exact W.zret (v := v) hx hb hr z (fun t ht hW => ⟨⟨v, (), rfl, rfl, by rw [ht]; exact hP, va_K.moved hW.alike hK, hD⟩, hS.F ht⟩) hS.2.2 d) v0 v1 v2 s0 _ _ _ h hP hD va_S.rf (lv_sub hl [0, 1, 2, 3] rfl)
def ow_dm_X9_high : List Cond := .code yX9_high cX9_high 1 (some .int) :: ([] ++ [])
theorem gd_dm_X9_high : ∀ w ∈ ow_dm_X9_high, (w.onTables && w.keeps) = true ∨ ∃ ty, w = Cond.arrayClass ty := List.forall_mem_cons.mpr ⟨good_of_word rfl, List.forall_mem_append.mpr ⟨fun w h => good_of_word (List.all_eq_true.mp (by decide +kernel) w h), fun _ h => nomatch h⟩⟩
def dj_X9_high_0 (p : Program) (l : Launch) (e : Env) (s : State) (m : MethodId) (args : Array Value) (below : List Frame) (meth : Method) (c : Code) (Q : State → Prop) (A : Nat → Prop) (dC : Nat → ClassId) (dI : Nat → Nat → Nat) (a : Nat → Nat) (ac : Nat → ClassId) (g : Int32 → (Unit) → Option (Int32 × (Unit))) (r : Int32 × (Unit)) : Prop := ∀ (v0 : Int32) (s0 : Unit) (H : Heap) (locs : List Loc) (ls : Array Slot), g v0 s0 = some r → va_P (dC, dI) vwCl (dw_P a ac s0) H → va_D A (dw_P a ac s0) → va_S A s.heap H locs → lv_has ls 1 [(0, .int v0)] → W p l e (headSpec ow_dm_X9_high ({ frames := 0, cells := 0, slots := 0, locals := 0 })).room s m args below meth c H locs 0 0 Q (F0 m 0 ls [])
set_option maxHeartbeats 40000000 in
set_option maxRecDepth 100000 in
theorem db_X9_high_0 {p : Program} {l : Launch} {e : Env} {s : State} {m : MethodId} {args : Array Value} {below : List Frame} {meth : Method} {c : Code} {Q : State → Prop} {A : Nat → Prop} {dC : Nat → ClassId} {dI : Nat → Nat → Nat} {a : Nat → Nat} {ac : Nat → ClassId} {n : Nat} {r : Int32 × (Unit)} (C : nd_C p l s m args c A (dC, dI) cX9_high 1 RX9 ow_dm_X9_high (dk_P ac)) (K : nd_Ki p l e (headSpec ow_dm_X9_high ({ frames := 0, cells := 0, slots := 0, locals := 0 })).room s m args below meth c Q A (dC, dI) cX9_high .int (Unit) (dw_P a ac) r) : dj_X9_high_0 p l e s m args below meth c Q A dC dI a ac (df_X9_high_0 n) r := by
  obtain ⟨hlt, hx, hb, hml, hown, hts, hN, hA, hK⟩ := id C
  intro v0 s0 H locs ls h hP hD hS hl
  unfold df_X9_high_0 at h
  refine lv_iload_n hx hb dX9_high_0 rfl (lv_at hl 0 rfl) ?_
  refine lv_sipush (v := 2048) hx hb dX9_high_1 (by decide) ?_
  refine lv_iadd hx hb dX9_high_4 ?_
  refine lv_bipush (v := 12) hx hb dX9_high_5 (by decide) ?_
  refine lv_iushr hx hb dX9_high_7 rfl ?_
  exact K _ _ _ _ _ _ dX9_high_8 rfl (Option.some.inj h).symm hP hD hS
set_option maxHeartbeats 40000000 in
set_option maxRecDepth 100000 in
theorem dm_X9_high (l : Launch) (hlt : l.stackTraces = false) (dC : Nat → ClassId) (dI : Nat → Nat → Nat) (a : Nat → Nat) (ac : Nat → ClassId) (n : Nat) (v0 : Int32) (s0 : Unit) {r : Int32 × (Unit)} (h : df_X9_high n v0 s0 = some r) (sz : Nat) : Met l yX9_high ow_dm_X9_high ({ frames := 0, cells := 0, slots := 0, locals := 0 }) (va_Pc [.int v0] (fun U => U.heap.size = sz ∧ va_P (dC, dI) vwCl (dw_P a ac s0) U.heap ∧ va_K (dC, dI) vwCl (dk_P ac) U ∧ va_D (fun _ => True) (dw_P a ac s0) ∧ nv_E (va_A (dw_P a ac s0) sz) U)) (va_Qi (fun x _ => x = r.1) (fun (_ : Unit) t => va_P (dC, dI) vwCl (dw_P a ac r.2) t.heap ∧ va_K (dC, dI) vwCl (dk_P ac) t ∧ va_D (va_A (dw_P a ac s0) sz) (dw_P a ac r.2)) (va_A (dw_P a ac s0) sz)) 0 0 (va_A (dw_P a ac s0) sz) := by
  refine Met.ofW (cc := cX9_high) (maxL := 1) (ret := (some .int)) (by decide) rfl ?_
  intro p e s m args below meth c s₁ B hml hv
  obtain ⟨rfl, hsz, hP, hK, hD0, hN⟩ := hv
  have hx := B.exec
  have hb := B.bytes
  have hr := B.returns
  have hts := atoms_spec (ws := ow_dm_X9_high) B.pre
  have hown : s.vm.findClass RX9 = some m.cls := findClass_of_methodNamed B.named
  have hlocks := B.notSynchronized
  subst hsz
  have hD := hD0.self (sz := s.heap.size)
  generalize hAe : va_A (dw_P a ac s0) s.heap.size = A at hD hN ⊢
  have hA : ∀ q : Nat, s.heap.size ≤ q → A q := fun q h => by rw [← hAe]; exact Or.inr h
  have hl := lv_entry ([.int v0]) (n := 1) (Nat.le_of_ble_eq_true rfl)
  rw [lg_entry_eq]
  generalize (lg_sl ([.int v0]) ++ List.replicate (1 - (lg_sl ([.int v0])).length) Slot.unset).toArray = ls at hl ⊢
  have hl : lv_has ls 1 [(0, .int v0)] := hl
  exact db_X9_high_0 (dC := dC) (dI := dI) (a := a) (ac := ac) (n := n) (r := r) ⟨hlt, hx, hb, hml, hown, hts, hN, hA, hK⟩ (fun pc v τ H locs ls d z er hP hD hS => by subst er; exact W.zret (v := v) hx hb hr z (fun t ht hW => ⟨⟨v, (), rfl, rfl, by rw [ht]; exact hP, va_K.moved hW.alike hK, hD⟩, hS.F ht⟩) hS.2.2 d) v0 s0 _ _ _ h hP hD va_S.rf (lv_sub hl [0] rfl)
def ow_dm_X9_low : List Cond := .code yX9_low cX9_low 1 (some .int) :: ([] ++ [])
theorem gd_dm_X9_low : ∀ w ∈ ow_dm_X9_low, (w.onTables && w.keeps) = true ∨ ∃ ty, w = Cond.arrayClass ty := List.forall_mem_cons.mpr ⟨good_of_word rfl, List.forall_mem_append.mpr ⟨fun w h => good_of_word (List.all_eq_true.mp (by decide +kernel) w h), fun _ h => nomatch h⟩⟩
def dj_X9_low_0 (p : Program) (l : Launch) (e : Env) (s : State) (m : MethodId) (args : Array Value) (below : List Frame) (meth : Method) (c : Code) (Q : State → Prop) (A : Nat → Prop) (dC : Nat → ClassId) (dI : Nat → Nat → Nat) (a : Nat → Nat) (ac : Nat → ClassId) (g : Int32 → (Unit) → Option (Int32 × (Unit))) (r : Int32 × (Unit)) : Prop := ∀ (v0 : Int32) (s0 : Unit) (H : Heap) (locs : List Loc) (ls : Array Slot), g v0 s0 = some r → va_P (dC, dI) vwCl (dw_P a ac s0) H → va_D A (dw_P a ac s0) → va_S A s.heap H locs → lv_has ls 1 [(0, .int v0)] → W p l e (headSpec ow_dm_X9_low ({ frames := 0, cells := 0, slots := 0, locals := 0 })).room s m args below meth c H locs 0 0 Q (F0 m 0 ls [])
set_option maxHeartbeats 40000000 in
set_option maxRecDepth 100000 in
theorem db_X9_low_0 {p : Program} {l : Launch} {e : Env} {s : State} {m : MethodId} {args : Array Value} {below : List Frame} {meth : Method} {c : Code} {Q : State → Prop} {A : Nat → Prop} {dC : Nat → ClassId} {dI : Nat → Nat → Nat} {a : Nat → Nat} {ac : Nat → ClassId} {n : Nat} {r : Int32 × (Unit)} (C : nd_C p l s m args c A (dC, dI) cX9_low 1 RX9 ow_dm_X9_low (dk_P ac)) (K : nd_Ki p l e (headSpec ow_dm_X9_low ({ frames := 0, cells := 0, slots := 0, locals := 0 })).room s m args below meth c Q A (dC, dI) cX9_low .int (Unit) (dw_P a ac) r) : dj_X9_low_0 p l e s m args below meth c Q A dC dI a ac (df_X9_low_0 n) r := by
  obtain ⟨hlt, hx, hb, hml, hown, hts, hN, hA, hK⟩ := id C
  intro v0 s0 H locs ls h hP hD hS hl
  unfold df_X9_low_0 at h
  refine lv_iload_n hx hb dX9_low_0 rfl (lv_at hl 0 rfl) ?_
  refine lv_bipush (v := 20) hx hb dX9_low_1 (by decide) ?_
  refine lv_ishl hx hb dX9_low_3 ?_
  refine lv_bipush (v := 20) hx hb dX9_low_4 (by decide) ?_
  refine lv_ishr hx hb dX9_low_6 ?_
  exact K _ _ _ _ _ _ dX9_low_7 rfl (Option.some.inj h).symm hP hD hS
set_option maxHeartbeats 40000000 in
set_option maxRecDepth 100000 in
theorem dm_X9_low (l : Launch) (hlt : l.stackTraces = false) (dC : Nat → ClassId) (dI : Nat → Nat → Nat) (a : Nat → Nat) (ac : Nat → ClassId) (n : Nat) (v0 : Int32) (s0 : Unit) {r : Int32 × (Unit)} (h : df_X9_low n v0 s0 = some r) (sz : Nat) : Met l yX9_low ow_dm_X9_low ({ frames := 0, cells := 0, slots := 0, locals := 0 }) (va_Pc [.int v0] (fun U => U.heap.size = sz ∧ va_P (dC, dI) vwCl (dw_P a ac s0) U.heap ∧ va_K (dC, dI) vwCl (dk_P ac) U ∧ va_D (fun _ => True) (dw_P a ac s0) ∧ nv_E (va_A (dw_P a ac s0) sz) U)) (va_Qi (fun x _ => x = r.1) (fun (_ : Unit) t => va_P (dC, dI) vwCl (dw_P a ac r.2) t.heap ∧ va_K (dC, dI) vwCl (dk_P ac) t ∧ va_D (va_A (dw_P a ac s0) sz) (dw_P a ac r.2)) (va_A (dw_P a ac s0) sz)) 0 0 (va_A (dw_P a ac s0) sz) := by
  refine Met.ofW (cc := cX9_low) (maxL := 1) (ret := (some .int)) (by decide) rfl ?_
  intro p e s m args below meth c s₁ B hml hv
  obtain ⟨rfl, hsz, hP, hK, hD0, hN⟩ := hv
  have hx := B.exec
  have hb := B.bytes
  have hr := B.returns
  have hts := atoms_spec (ws := ow_dm_X9_low) B.pre
  have hown : s.vm.findClass RX9 = some m.cls := findClass_of_methodNamed B.named
  have hlocks := B.notSynchronized
  subst hsz
  have hD := hD0.self (sz := s.heap.size)
  generalize hAe : va_A (dw_P a ac s0) s.heap.size = A at hD hN ⊢
  have hA : ∀ q : Nat, s.heap.size ≤ q → A q := fun q h => by rw [← hAe]; exact Or.inr h
  have hl := lv_entry ([.int v0]) (n := 1) (Nat.le_of_ble_eq_true rfl)
  rw [lg_entry_eq]
  generalize (lg_sl ([.int v0]) ++ List.replicate (1 - (lg_sl ([.int v0])).length) Slot.unset).toArray = ls at hl ⊢
  have hl : lv_has ls 1 [(0, .int v0)] := hl
  exact db_X9_low_0 (dC := dC) (dI := dI) (a := a) (ac := ac) (n := n) (r := r) ⟨hlt, hx, hb, hml, hown, hts, hN, hA, hK⟩ (fun pc v τ H locs ls d z er hP hD hS => by subst er; exact W.zret (v := v) hx hb hr z (fun t ht hW => ⟨⟨v, (), rfl, rfl, by rw [ht]; exact hP, va_K.moved hW.alike hK, hD⟩, hS.F ht⟩) hS.2.2 d) v0 s0 _ _ _ h hP hD va_S.rf (lv_sub hl [0] rfl)
def ow_dm_X9_single : List Cond := .code yX9_single cX9_single 2 (some .int) :: ([.methodLink RX9 182 yX9_high, .static yX9_high, .initialized RX9, .methodLink RX9 185 yX9_low, .static yX9_low] ++ (ow_dm_X9_high ++ (ow_dm_X9_low ++ [])))
theorem gd_dm_X9_single : ∀ w ∈ ow_dm_X9_single, (w.onTables && w.keeps) = true ∨ ∃ ty, w = Cond.arrayClass ty := List.forall_mem_cons.mpr ⟨good_of_word rfl, List.forall_mem_append.mpr ⟨fun w h => good_of_word (List.all_eq_true.mp (by decide +kernel) w h), List.forall_mem_append.mpr ⟨gd_dm_X9_high, List.forall_mem_append.mpr ⟨gd_dm_X9_low, fun _ h => nomatch h⟩⟩⟩⟩
theorem gi_dm_X9_single_0 : GoodIn ow_dm_X9_single (wsS RX9 182 yX9_high ow_dm_X9_high) := goodIn_app (goodIn_of _ (by decide +kernel)) (fun w h => ⟨List.mem_cons_of_mem _ (List.mem_append_right _ (List.mem_append_left _ h)), gd_dm_X9_high w h⟩)
theorem gi_dm_X9_single_1 : GoodIn ow_dm_X9_single (wsS RX9 185 yX9_low ow_dm_X9_low) := goodIn_app (goodIn_of _ (by decide +kernel)) (fun w h => ⟨List.mem_cons_of_mem _ (List.mem_append_right _ (List.mem_append_right _ (List.mem_append_left _ h))), gd_dm_X9_low w h⟩)
def dj_X9_single_0 (p : Program) (l : Launch) (e : Env) (s : State) (m : MethodId) (args : Array Value) (below : List Frame) (meth : Method) (c : Code) (Q : State → Prop) (A : Nat → Prop) (dC : Nat → ClassId) (dI : Nat → Nat → Nat) (a : Nat → Nat) (ac : Nat → ClassId) (g : Int32 → Int32 → (Unit) → Option (Int32 × (Unit))) (r : Int32 × (Unit)) : Prop := ∀ (v0 : Int32) (v1 : Int32) (s0 : Unit) (H : Heap) (locs : List Loc) (ls : Array Slot), g v0 v1 s0 = some r → va_P (dC, dI) vwCl (dw_P a ac s0) H → va_D A (dw_P a ac s0) → va_S A s.heap H locs → lv_has ls 2 [(0, .int v0), (1, .int v1)] → W p l e (headSpec ow_dm_X9_single ({ frames := 1, cells := 0, slots := 0, locals := 20 })).room s m args below meth c H locs 0 0 Q (F0 m 0 ls [])
set_option maxHeartbeats 40000000 in
set_option maxRecDepth 100000 in
theorem db_X9_single_0 {p : Program} {l : Launch} {e : Env} {s : State} {m : MethodId} {args : Array Value} {below : List Frame} {meth : Method} {c : Code} {Q : State → Prop} {A : Nat → Prop} {dC : Nat → ClassId} {dI : Nat → Nat → Nat} {a : Nat → Nat} {ac : Nat → ClassId} {n : Nat} {r : Int32 × (Unit)} (C : nd_C p l s m args c A (dC, dI) cX9_single 2 RX9 ow_dm_X9_single (dk_P ac)) (K : nd_Ki p l e (headSpec ow_dm_X9_single ({ frames := 1, cells := 0, slots := 0, locals := 20 })).room s m args below meth c Q A (dC, dI) cX9_single .int (Unit) (dw_P a ac) r) : dj_X9_single_0 p l e s m args below meth c Q A dC dI a ac (df_X9_single_0 n) r := by
  obtain ⟨hlt, hx, hb, hml, hown, hts, hN, hA, hK⟩ := id C
  intro v0 v1 s0 H locs ls h hP hD hS hl
  unfold df_X9_single_0 at h
  refine lv_iload_n hx hb dX9_single_0 rfl (lv_at hl 0 rfl) ?_
  by_cases c1 : v0 = 11
  · have h := nd_pos h c1
    refine lv_tableIn (off := 27) (tgt := 28) hx hb dX9_single_1 (by rw [c1]; decide) (by rw [c1]; decide) (by rw [c1]; decide) (by decide) ?_
    refine lv_iload_n hx hb dX9_single_28 rfl (lv_at hl 1 rfl) ?_
    refine lv_ineg hx hb dX9_single_29 ?_
    exact K _ _ _ _ _ _ dX9_single_30 rfl (Option.some.inj h).symm hP hD hS
  have h := nd_neg h c1
  by_cases c2 : v0 = 12
  · have h := nd_pos h c2
    refine lv_tableIn (off := 30) (tgt := 31) hx hb dX9_single_1 (by rw [c2]; decide) (by rw [c2]; decide) (by rw [c2]; decide) (by decide) ?_
    refine lv_iload_n hx hb dX9_single_31 rfl (lv_at hl 1 rfl) ?_
    refine lv_iconst (v := (-1)) hx hb dX9_single_32 (by decide) ?_
    refine lv_ixor hx hb dX9_single_33 ?_
    exact K _ _ _ _ _ _ dX9_single_34 rfl (Option.some.inj h).symm hP hD hS
  have h := nd_neg h c2
  by_cases c3 : v0 = 13
  · have h := nd_pos h c3
    refine lv_tableIn (off := 34) (tgt := 35) hx hb dX9_single_1 (by rw [c3]; decide) (by rw [c3]; decide) (by rw [c3]; decide) (by decide) ?_
    refine lv_iload_n hx hb dX9_single_35 rfl (lv_at hl 1 rfl) ?_
    obtain ⟨q4, s5, hq, h⟩ := nd_b2_e h
    have hPc : va_P (dC, dI) vwCl (dw_P a ac ()) H := nd_p0
    have hDc : va_D A (dw_P a ac ()) := nd_d0
    have hKc : va_K (dC, dI) vwCl (dk_P ac) s := nd_y0 hK
    have hFc : ∀ q, va_A (dw_P a ac ()) H.size q → A q := nd_r0 hS hA
    refine nd_cSi (As := [.int v1]) (rest := []) (q := q4) (w' := dw_P a ac s5) ⟨hx, hb, hml, hown, hts⟩ (fun sz => dm_X9_high l hlt dC dI a ac n (v1) () hq sz) (cwS 1 hts gi_dm_X9_single_0 rfl rfl rfl (by decide +kernel) ⟨Nat.le_of_ble_eq_true rfl, Nat.le_of_ble_eq_true rfl⟩) hPc hDc hKc hS hA hN rfl hl.1 rfl (Nat.le_of_ble_eq_true rfl) dX9_single_36 (fun H locs hP1 hD1 hk1 hS => ?_)
    have hP := nd_n0 hP hk1
    exact K _ _ _ _ _ _ dX9_single_39 rfl (Option.some.inj h).symm hP hD hS
  have h := nd_neg h c3
  refine lv_tableOut (tgt := 40) hx hb dX9_single_1 (by have g0 := nv_nei c1 (k := 11) (by decide); have g1 := nv_nei c2 (k := 12) (by decide); have g2 := nv_nei c3 (k := 13) (by decide); omega) (by decide) ?_
  refine lv_iload_n hx hb dX9_single_40 rfl (lv_at hl 1 rfl) ?_
  obtain ⟨q7, s8, hq, h⟩ := nd_b2_e h
  have hPc : va_P (dC, dI) vwCl (dw_P a ac ()) H := nd_p0
  have hDc : va_D A (dw_P a ac ()) := nd_d0
  have hKc : va_K (dC, dI) vwCl (dk_P ac) s := nd_y0 hK
  have hFc : ∀ q, va_A (dw_P a ac ()) H.size q → A q := nd_r0 hS hA
  refine nd_cSi (As := [.int v1]) (rest := []) (q := q7) (w' := dw_P a ac s8) ⟨hx, hb, hml, hown, hts⟩ (fun sz => dm_X9_low l hlt dC dI a ac n (v1) () hq sz) (cwS 1 hts gi_dm_X9_single_1 rfl rfl rfl (by decide +kernel) ⟨Nat.le_of_ble_eq_true rfl, Nat.le_of_ble_eq_true rfl⟩) hPc hDc hKc hS hA hN rfl hl.1 rfl (Nat.le_of_ble_eq_true rfl) dX9_single_41 (fun H locs hP1 hD1 hk1 hS => ?_)
  have hP := nd_n0 hP hk1
  exact K _ _ _ _ _ _ dX9_single_44 rfl (Option.some.inj h).symm hP hD hS
set_option maxHeartbeats 40000000 in
set_option maxRecDepth 100000 in
theorem dm_X9_single (l : Launch) (hlt : l.stackTraces = false) (dC : Nat → ClassId) (dI : Nat → Nat → Nat) (a : Nat → Nat) (ac : Nat → ClassId) (n : Nat) (v0 : Int32) (v1 : Int32) (s0 : Unit) {r : Int32 × (Unit)} (h : df_X9_single n v0 v1 s0 = some r) (sz : Nat) : Met l yX9_single ow_dm_X9_single ({ frames := 1, cells := 0, slots := 0, locals := 20 }) (va_Pc [.int v0, .int v1] (fun U => U.heap.size = sz ∧ va_P (dC, dI) vwCl (dw_P a ac s0) U.heap ∧ va_K (dC, dI) vwCl (dk_P ac) U ∧ va_D (fun _ => True) (dw_P a ac s0) ∧ nv_E (va_A (dw_P a ac s0) sz) U)) (va_Qi (fun x _ => x = r.1) (fun (_ : Unit) t => va_P (dC, dI) vwCl (dw_P a ac r.2) t.heap ∧ va_K (dC, dI) vwCl (dk_P ac) t ∧ va_D (va_A (dw_P a ac s0) sz) (dw_P a ac r.2)) (va_A (dw_P a ac s0) sz)) 0 0 (va_A (dw_P a ac s0) sz) := by
  refine Met.ofW (cc := cX9_single) (maxL := 2) (ret := (some .int)) (by decide) rfl ?_
  intro p e s m args below meth c s₁ B hml hv
  obtain ⟨rfl, hsz, hP, hK, hD0, hN⟩ := hv
  have hx := B.exec
  have hb := B.bytes
  have hr := B.returns
  have hts := atoms_spec (ws := ow_dm_X9_single) B.pre
  have hown : s.vm.findClass RX9 = some m.cls := findClass_of_methodNamed B.named
  have hlocks := B.notSynchronized
  subst hsz
  have hD := hD0.self (sz := s.heap.size)
  generalize hAe : va_A (dw_P a ac s0) s.heap.size = A at hD hN ⊢
  have hA : ∀ q : Nat, s.heap.size ≤ q → A q := fun q h => by rw [← hAe]; exact Or.inr h
  have hl := lv_entry ([.int v0, .int v1]) (n := 2) (Nat.le_of_ble_eq_true rfl)
  rw [lg_entry_eq]
  generalize (lg_sl ([.int v0, .int v1]) ++ List.replicate (2 - (lg_sl ([.int v0, .int v1])).length) Slot.unset).toArray = ls at hl ⊢
  have hl : lv_has ls 2 [(0, .int v0), (1, .int v1)] := hl
  exact db_X9_single_0 (dC := dC) (dI := dI) (a := a) (ac := ac) (n := n) (r := r) ⟨hlt, hx, hb, hml, hown, hts, hN, hA, hK⟩ (fun pc v τ H locs ls d z er hP hD hS => by subst er; exact W.zret (v := v) hx hb hr z (fun t ht hW => ⟨⟨v, (), rfl, rfl, by rw [ht]; exact hP, va_K.moved hW.alike hK, hD⟩, hS.F ht⟩) hS.2.2 d) v0 v1 s0 _ _ _ h hP hD va_S.rf (lv_sub hl [0, 1] rfl)
def ow_dm_X9_operand : List Cond := .code yX9_operand cX9_operand 6 (some .int) :: ([.fieldLink RX9 36 "TimeMachine$Reader" "label" "[I", .fieldLink RX9 166 "TimeMachine$Reader" "trouble" "I", .fieldLink RX9 33 "TimeMachine$Reader" "near" "[I", .fieldLink RX9 27 "TimeMachine$Reader" "name" "[I"] ++ (u_ws RX9 TX9 20 ++ []))
theorem gd_dm_X9_operand : ∀ w ∈ ow_dm_X9_operand, (w.onTables && w.keeps) = true ∨ ∃ ty, w = Cond.arrayClass ty := List.forall_mem_cons.mpr ⟨good_of_word rfl, List.forall_mem_append.mpr ⟨fun w h => good_of_word (List.all_eq_true.mp (by decide +kernel) w h), List.forall_mem_append.mpr ⟨gu_X9, fun _ h => nomatch h⟩⟩⟩
theorem hi_dm_X9_operand_X9 : ∀ w ∈ u_ws RX9 TX9 20, w ∈ ow_dm_X9_operand := fun w h => List.mem_cons_of_mem _ (List.mem_append_right _ (List.mem_append_left _ h))
def dj_X9_operand_117 (p : Program) (l : Launch) (e : Env) (s : State) (m : MethodId) (args : Array Value) (below : List Frame) (meth : Method) (c : Code) (Q : State → Prop) (A : Nat → Prop) (dC : Nat → ClassId) (dI : Nat → Nat → Nat) (a : Nat → Nat) (ac : Nat → ClassId) (g : Int32 → (St) → Option (Int32 × (St))) (r : Int32 × (St)) : Prop := ∀ (x4 : Int32) (s0 : St) (H : Heap) (locs : List Loc) (ls : Array Slot), g x4 s0 = some r → va_P (dC, dI) vwCl (dw_X9 a ac s0) H → va_D A (dw_X9 a ac s0) → va_S A s.heap H locs → lv_has ls 6 [(0, .ref (a 0)), (4, .int x4)] → W p l e (headSpec ow_dm_X9_operand ({ frames := 0, cells := 0, slots := 0, locals := 0 })).room s m args below meth c H locs 0 0 Q (F0 m 117 ls [])
def dj_X9_operand_113 (p : Program) (l : Launch) (e : Env) (s : State) (m : MethodId) (args : Array Value) (below : List Frame) (meth : Method) (c : Code) (Q : State → Prop) (A : Nat → Prop) (dC : Nat → ClassId) (dI : Nat → Nat → Nat) (a : Nat → Nat) (ac : Nat → ClassId) (g : Int32 → (St) → Option (Int32 × (St))) (r : Int32 × (St)) : Prop := ∀ (y0 : Int32) (s0 : St) (H : Heap) (locs : List Loc) (ls : Array Slot), g y0 s0 = some r → va_P (dC, dI) vwCl (dw_X9 a ac s0) H → va_D A (dw_X9 a ac s0) → va_S A s.heap H locs → lv_has ls 6 [(0, .ref (a 0))] → W p l e (headSpec ow_dm_X9_operand ({ frames := 0, cells := 0, slots := 0, locals := 0 })).room s m args below meth c H locs 0 0 Q (F0 m 113 ls [.int y0])
def dj_X9_operand_71 (p : Program) (l : Launch) (e : Env) (s : State) (m : MethodId) (args : Array Value) (below : List Frame) (meth : Method) (c : Code) (Q : State → Prop) (A : Nat → Prop) (dC : Nat → ClassId) (dI : Nat → Nat → Nat) (a : Nat → Nat) (ac : Nat → ClassId) (g : Int32 → (St) → Option (Int32 × (St))) (r : Int32 × (St)) : Prop := ∀ (y0 : Int32) (s0 : St) (H : Heap) (locs : List Loc) (ls : Array Slot), g y0 s0 = some r → va_P (dC, dI) vwCl (dw_X9 a ac s0) H → va_D A (dw_X9 a ac s0) → va_S A s.heap H locs → lv_has ls 6 [(0, .ref (a 0))] → W p l e (headSpec ow_dm_X9_operand ({ frames := 0, cells := 0, slots := 0, locals := 0 })).room s m args below meth c H locs 0 0 Q (F0 m 71 ls [.int y0])
def dj_X9_operand_0 (p : Program) (l : Launch) (e : Env) (s : State) (m : MethodId) (args : Array Value) (below : List Frame) (meth : Method) (c : Code) (Q : State → Prop) (A : Nat → Prop) (dC : Nat → ClassId) (dI : Nat → Nat → Nat) (a : Nat → Nat) (ac : Nat → ClassId) (g : Int32 → Int32 → Int32 → (St) → Option (Int32 × (St))) (r : Int32 × (St)) : Prop := ∀ (v0 : Int32) (v1 : Int32) (v2 : Int32) (s0 : St) (H : Heap) (locs : List Loc) (ls : Array Slot), g v0 v1 v2 s0 = some r → va_P (dC, dI) vwCl (dw_X9 a ac s0) H → va_D A (dw_X9 a ac s0) → va_S A s.heap H locs → lv_has ls 6 [(0, .ref (a 0)), (1, .int v0), (2, .int v1), (3, .int v2)] → W p l e (headSpec ow_dm_X9_operand ({ frames := 0, cells := 0, slots := 0, locals := 0 })).room s m args below meth c H locs 0 0 Q (F0 m 0 ls [])
set_option maxHeartbeats 40000000 in
set_option maxRecDepth 100000 in
theorem db_X9_operand_117 {p : Program} {l : Launch} {e : Env} {s : State} {m : MethodId} {args : Array Value} {below : List Frame} {meth : Method} {c : Code} {Q : State → Prop} {A : Nat → Prop} {dC : Nat → ClassId} {dI : Nat → Nat → Nat} {a : Nat → Nat} {ac : Nat → ClassId} {n : Nat} {r : Int32 × (St)} (C : nd_C p l s m args c A (dC, dI) cX9_operand 6 RX9 ow_dm_X9_operand (dk_X9 ac)) (K : nd_Ki p l e (headSpec ow_dm_X9_operand ({ frames := 0, cells := 0, slots := 0, locals := 0 })).room s m args below meth c Q A (dC, dI) cX9_operand .int (St) (dw_X9 a ac) r) : dj_X9_operand_117 p l e s m args below meth c Q A dC dI a ac (df_X9_operand_117 n) r := by
  obtain ⟨hlt, hx, hb, hml, hown, hts, hN, hA, hK⟩ := id C
  intro x4 s0 H locs ls h hP hD hS hl
  unfold df_X9_operand_117 at h
  refine lv_iload hx hb dX9_operand_117 (lv_at hl 1 rfl) ?_
  refine lv_if_ge (tgt := 130) hx hb dX9_operand_119 (by decide) (fun c8 => ?_) (fun c8 => ?_)
  · have h := nd_pos h c8
    refine lv_aload_n hx hb dX9_operand_130 rfl (lv_at hl 0 rfl) ?_
    refine va_get (D := (dC, dI)) (ci := 10) (v := .ref (a 7)) (C := RX9) (T := TX9) (N := 20) hx hb hts hi_dm_X9_operand_X9 hown hK hP 0 rfl rfl 16 (by decide) (hts (.fieldLink RX9 36 "TimeMachine$Reader" "label" "[I") (List.mem_of_getElem? (i := 1) rfl)) (fun _ h9 => h9) rfl dX9_operand_131 ?_
    refine lv_iload hx hb dX9_operand_134 (lv_at hl 1 rfl) ?_
    refine lv_iconst (v := 5) hx hb dX9_operand_136 (by decide) ?_
    refine lv_imul hx hb dX9_operand_137 ?_
    refine lv_iconst (v := 2) hx hb dX9_operand_138 (by decide) ?_
    refine lv_iadd hx hb dX9_operand_139 ?_
    obtain ⟨i9, h⟩ := nd_ck_e h
    refine va_iald (i := ((x4 * 5) + 2)) hx hb hK hP 7 6 rfl rfl i9 dX9_operand_140 ?_
    exact K _ _ _ _ _ _ dX9_operand_141 rfl (Option.some.inj h).symm hP hD hS
  · have h := nd_neg h c8
    refine lv_aload_n hx hb dX9_operand_122 rfl (lv_at hl 0 rfl) ?_
    refine lv_bipush (v := 8) hx hb dX9_operand_123 (by decide) ?_
    refine va_put (D := (dC, dI)) (ci := 10) (v := .int 8) (ty := .int) (C := RX9) (T := TX9) (N := 20) hx hb hts hi_dm_X9_operand_X9 tyX9 tyX9_ok nmX9 hown hK hP hD hS 0 rfl rfl 19 (by decide) (hts (.fieldLink RX9 166 "TimeMachine$Reader" "trouble" "I") (List.mem_of_getElem? (i := 2) rfl)) (fun _ h9 => h9) rfl (by decide +kernel) rfl rfl (Nat.le_of_ble_eq_true rfl) dX9_operand_125 (fun H locs hP hD hS => ?_)
    obtain ⟨s10, es10, h⟩ := nd_let_e h
    have hP : va_P (dC, dI) vwCl (dw_X9 a ac s10) H := by rw [es10]; exact hP
    have hD : va_D A (dw_X9 a ac s10) := by rw [es10]; exact hD
    refine lv_iconst (v := 0) hx hb dX9_operand_128 (by decide) ?_
    exact K _ _ _ _ _ _ dX9_operand_129 rfl (Option.some.inj h).symm hP hD hS
set_option maxHeartbeats 40000000 in
set_option maxRecDepth 100000 in
theorem db_X9_operand_113 {p : Program} {l : Launch} {e : Env} {s : State} {m : MethodId} {args : Array Value} {below : List Frame} {meth : Method} {c : Code} {Q : State → Prop} {A : Nat → Prop} {dC : Nat → ClassId} {dI : Nat → Nat → Nat} {a : Nat → Nat} {ac : Nat → ClassId} {n : Nat} {r : Int32 × (St)} (C : nd_C p l s m args c A (dC, dI) cX9_operand 6 RX9 ow_dm_X9_operand (dk_X9 ac)) (K : nd_Ki p l e (headSpec ow_dm_X9_operand ({ frames := 0, cells := 0, slots := 0, locals := 0 })).room s m args below meth c Q A (dC, dI) cX9_operand .int (St) (dw_X9 a ac) r) : dj_X9_operand_113 p l e s m args below meth c Q A dC dI a ac (df_X9_operand_113 n) r := by
  obtain ⟨hlt, hx, hb, hml, hown, hts, hN, hA, hK⟩ := id C
  intro y0 s0 H locs ls h hP hD hS hl
  unfold df_X9_operand_113 at h
  refine lv_iconst (v := 1) hx hb dX9_operand_113 (by decide) ?_
  refine lv_isub hx hb dX9_operand_114 ?_
  refine lv_topi (fun z7 ez7 => ?_)
  have h := nd_at h ez7
  refine lv_istore (lv' := [(4, .int z7), (0, .ref (a 0))]) hx hb dX9_operand_115 hl (by decide) rfl (fun ls hl => ?_)
  exact (db_X9_operand_117 C K) (z7) s0 _ _ _ h hP hD hS (lv_sub hl [1, 0] rfl)
set_option maxHeartbeats 40000000 in
set_option maxRecDepth 100000 in
theorem db_X9_operand_71 {p : Program} {l : Launch} {e : Env} {s : State} {m : MethodId} {args : Array Value} {below : List Frame} {meth : Method} {c : Code} {Q : State → Prop} {A : Nat → Prop} {dC : Nat → ClassId} {dI : Nat → Nat → Nat} {a : Nat → Nat} {ac : Nat → ClassId} {n : Nat} {r : Int32 × (St)} (C : nd_C p l s m args c A (dC, dI) cX9_operand 6 RX9 ow_dm_X9_operand (dk_X9 ac)) (K : nd_Ki p l e (headSpec ow_dm_X9_operand ({ frames := 0, cells := 0, slots := 0, locals := 0 })).room s m args below meth c Q A (dC, dI) cX9_operand .int (St) (dw_X9 a ac) r) : dj_X9_operand_71 p l e s m args below meth c Q A dC dI a ac (df_X9_operand_71 n) r := by
  obtain ⟨hlt, hx, hb, hml, hown, hts, hN, hA, hK⟩ := id C
  intro y0 s0 H locs ls h hP hD hS hl
  unfold df_X9_operand_71 at h
  refine lv_istore (lv' := [(4, .int y0), (0, .ref (a 0))]) hx hb dX9_operand_71 hl (by decide) rfl (fun ls hl => ?_)
  refine lv_goto (tgt := 117) hx hb dX9_operand_73 (by decide) ?_
  exact (db_X9_operand_117 C K) (y0) s0 _ _ _ h hP hD hS (lv_sub hl [1, 0] rfl)
set_option maxHeartbeats 40000000 in
set_option maxRecDepth 100000 in
theorem db_X9_operand_0 {p : Program} {l : Launch} {e : Env} {s : State} {m : MethodId} {args : Array Value} {below : List Frame} {meth : Method} {c : Code} {Q : State → Prop} {A : Nat → Prop} {dC : Nat → ClassId} {dI : Nat → Nat → Nat} {a : Nat → Nat} {ac : Nat → ClassId} {n : Nat} {r : Int32 × (St)} (C : nd_C p l s m args c A (dC, dI) cX9_operand 6 RX9 ow_dm_X9_operand (dk_X9 ac)) (K : nd_Ki p l e (headSpec ow_dm_X9_operand ({ frames := 0, cells := 0, slots := 0, locals := 0 })).room s m args below meth c Q A (dC, dI) cX9_operand .int (St) (dw_X9 a ac) r) : dj_X9_operand_0 p l e s m args below meth c Q A dC dI a ac (df_X9_operand_0 n) r := by
  obtain ⟨hlt, hx, hb, hml, hown, hts, hN, hA, hK⟩ := id C
  intro v0 v1 v2 s0 H locs ls h hP hD hS hl
  unfold df_X9_operand_0 at h
  refine lv_iload_n hx hb dX9_operand_0 rfl (lv_at hl 1 rfl) ?_
  refine lv_bipush (v := 16) hx hb dX9_operand_1 (by decide) ?_
  refine lv_icmp_ne (tgt := 8) hx hb dX9_operand_3 (by decide) (fun c1 => ?_) (fun c1 => ?_)
  · have h := nd_neg h c1
    refine lv_iload_n hx hb dX9_operand_8 rfl (lv_at hl 1 rfl) ?_
    refine lv_bipush (v := 18) hx hb dX9_operand_9 (by decide) ?_
    refine lv_icmp_ne (tgt := 16) hx hb dX9_operand_11 (by decide) (fun c2 => ?_) (fun c2 => ?_)
    · have h := nd_neg h c2
      refine lv_iload_n hx hb dX9_operand_16 rfl (lv_at hl 1 rfl) ?_
      refine lv_bipush (v := 17) hx hb dX9_operand_17 (by decide) ?_
      refine lv_icmp_ne (tgt := 76) hx hb dX9_operand_19 (by decide) (fun c3 => ?_) (fun c3 => ?_)
      · have h := nd_neg h c3
        refine lv_iload_n hx hb dX9_operand_76 rfl (lv_at hl 1 rfl) ?_
        refine lv_bipush (v := 20) hx hb dX9_operand_77 (by decide) ?_
        refine lv_icmp_ne (tgt := 88) hx hb dX9_operand_79 (by decide) (fun c4 => ?_) (fun c4 => ?_)
        · have h := nd_neg h c4
          refine lv_iload_n hx hb dX9_operand_88 rfl (lv_at hl 2 rfl) ?_
          refine lv_if_ge (tgt := 103) hx hb dX9_operand_89 (by decide) (fun c5 => ?_) (fun c5 => ?_)
          · have h := nd_pos h c5
            refine lv_aload_n hx hb dX9_operand_103 rfl (lv_at hl 0 rfl) ?_
            refine va_get (D := (dC, dI)) (ci := 10) (v := .ref (a 7)) (C := RX9) (T := TX9) (N := 20) hx hb hts hi_dm_X9_operand_X9 hown hK hP 0 rfl rfl 16 (by decide) (hts (.fieldLink RX9 36 "TimeMachine$Reader" "label" "[I") (List.mem_of_getElem? (i := 1) rfl)) (fun _ h9 => h9) rfl dX9_operand_104 ?_
            refine lv_iload_n hx hb dX9_operand_107 rfl (lv_at hl 2 rfl) ?_
            refine lv_iconst (v := 5) hx hb dX9_operand_108 (by decide) ?_
            refine lv_imul hx hb dX9_operand_109 ?_
            refine lv_iconst (v := 3) hx hb dX9_operand_110 (by decide) ?_
            refine lv_iadd hx hb dX9_operand_111 ?_
            obtain ⟨i6, h⟩ := nd_ck_e h
            refine va_iald (i := ((v1 * 5) + 3)) hx hb hK hP 7 6 rfl rfl i6 dX9_operand_112 ?_
            exact (db_X9_operand_113 C K) ((sR s0 6 (Int32.toNatClampNeg ((v1 * 5) + 3)))) s0 _ _ _ h hP hD hS (lv_sub hl [0] rfl)
          · have h := nd_neg h c5
            refine lv_aload_n hx hb dX9_operand_92 rfl (lv_at hl 0 rfl) ?_
            refine va_get (D := (dC, dI)) (ci := 10) (v := .ref (a 6)) (C := RX9) (T := TX9) (N := 20) hx hb hts hi_dm_X9_operand_X9 hown hK hP 0 rfl rfl 15 (by decide) (hts (.fieldLink RX9 33 "TimeMachine$Reader" "near" "[I") (List.mem_of_getElem? (i := 3) rfl)) (fun _ h9 => h9) rfl dX9_operand_93 ?_
            refine lv_iconst (v := (-1)) hx hb dX9_operand_96 (by decide) ?_
            refine lv_iload_n hx hb dX9_operand_97 rfl (lv_at hl 2 rfl) ?_
            refine lv_isub hx hb dX9_operand_98 ?_
            obtain ⟨i11, h⟩ := nd_ck_e h
            refine va_iald (i := ((-1) - v1)) hx hb hK hP 6 5 rfl rfl i11 dX9_operand_99 ?_
            refine lv_goto (tgt := 113) hx hb dX9_operand_100 (by decide) ?_
            exact (db_X9_operand_113 C K) ((sR s0 5 (Int32.toNatClampNeg ((-1) - v1)))) s0 _ _ _ h hP hD hS (lv_sub hl [0] rfl)
        · have h := nd_pos h c4
          refine lv_iload_n hx hb dX9_operand_82 rfl (lv_at hl 2 rfl) ?_
          refine lv_istore (lv' := [(4, .int v1), (0, .ref (a 0)), (1, .int v0), (2, .int v1), (3, .int v2)]) hx hb dX9_operand_83 hl (by decide) rfl (fun ls hl => ?_)
          refine lv_goto (tgt := 117) hx hb dX9_operand_85 (by decide) ?_
          exact (db_X9_operand_117 C K) (v1) s0 _ _ _ h hP hD hS (lv_sub hl [1, 0] rfl)
      · have h := nd_pos h c3
        refine lv_aload_n hx hb dX9_operand_22 rfl (lv_at hl 0 rfl) ?_
        refine va_get (D := (dC, dI)) (ci := 10) (v := .ref (a 4)) (C := RX9) (T := TX9) (N := 20) hx hb hts hi_dm_X9_operand_X9 hown hK hP 0 rfl rfl 12 (by decide) (hts (.fieldLink RX9 27 "TimeMachine$Reader" "name" "[I") (List.mem_of_getElem? (i := 4) rfl)) (fun _ h9 => h9) rfl dX9_operand_23 ?_
        refine lv_iload_n hx hb dX9_operand_26 rfl (lv_at hl 2 rfl) ?_
        refine lv_iconst (v := 5) hx hb dX9_operand_27 (by decide) ?_
        refine lv_imul hx hb dX9_operand_28 ?_
        refine lv_iconst (v := 2) hx hb dX9_operand_29 (by decide) ?_
        refine lv_iadd hx hb dX9_operand_30 ?_
        obtain ⟨i12, h⟩ := nd_ck_e h
        refine va_iald (i := ((v1 * 5) + 2)) hx hb hK hP 4 3 rfl rfl i12 dX9_operand_31 ?_
        refine lv_topi (fun z13 ez13 => ?_)
        have h := nd_at h ez13
        refine lv_istore (lv' := [(5, .int z13), (0, .ref (a 0)), (1, .int v0), (2, .int v1), (3, .int v2)]) hx hb dX9_operand_32 hl (by decide) rfl (fun ls hl => ?_)
        refine lv_iload hx hb dX9_operand_34 (lv_at hl 0 rfl) ?_
        refine lv_iconst (v := 1) hx hb dX9_operand_36 (by decide) ?_
        refine lv_icmp_ne (tgt := 51) hx hb dX9_operand_37 (by decide) (fun c14 => ?_) (fun c14 => ?_)
        · have h := nd_neg h c14
          refine lv_iload hx hb dX9_operand_51 (lv_at hl 0 rfl) ?_
          refine lv_iconst (v := 2) hx hb dX9_operand_53 (by decide) ?_
          refine lv_icmp_ne (tgt := 70) hx hb dX9_operand_54 (by decide) (fun c15 => ?_) (fun c15 => ?_)
          · have h := nd_neg h c15
            refine lv_iconst (v := (-1)) hx hb dX9_operand_70 (by decide) ?_
            exact (db_X9_operand_71 C K) ((-1)) s0 _ _ _ h hP hD hS (lv_sub hl [1] rfl)
          · have h := nd_pos h c15
            refine lv_aload_n hx hb dX9_operand_57 rfl (lv_at hl 1 rfl) ?_
            refine va_get (D := (dC, dI)) (ci := 10) (v := .ref (a 4)) (C := RX9) (T := TX9) (N := 20) hx hb hts hi_dm_X9_operand_X9 hown hK hP 0 rfl rfl 12 (by decide) (hts (.fieldLink RX9 27 "TimeMachine$Reader" "name" "[I") (List.mem_of_getElem? (i := 4) rfl)) (fun _ h9 => h9) rfl dX9_operand_58 ?_
            refine lv_iload_n hx hb dX9_operand_61 rfl (lv_at hl 3 rfl) ?_
            refine lv_iconst (v := 5) hx hb dX9_operand_62 (by decide) ?_
            refine lv_imul hx hb dX9_operand_63 ?_
            refine lv_iconst (v := 3) hx hb dX9_operand_64 (by decide) ?_
            refine lv_iadd hx hb dX9_operand_65 ?_
            obtain ⟨i16, h⟩ := nd_ck_e h
            refine va_iald (i := ((v1 * 5) + 3)) hx hb hK hP 4 3 rfl rfl i16 dX9_operand_66 ?_
            refine lv_goto (tgt := 71) hx hb dX9_operand_67 (by decide) ?_
            exact (db_X9_operand_71 C K) ((sR s0 3 (Int32.toNatClampNeg ((v1 * 5) + 3)))) s0 _ _ _ h hP hD hS (lv_sub hl [1] rfl)
        · have h := nd_pos h c14
          refine lv_aload_n hx hb dX9_operand_40 rfl (lv_at hl 1 rfl) ?_
          refine va_get (D := (dC, dI)) (ci := 10) (v := .ref (a 4)) (C := RX9) (T := TX9) (N := 20) hx hb hts hi_dm_X9_operand_X9 hown hK hP 0 rfl rfl 12 (by decide) (hts (.fieldLink RX9 27 "TimeMachine$Reader" "name" "[I") (List.mem_of_getElem? (i := 4) rfl)) (fun _ h9 => h9) rfl dX9_operand_41 ?_
          refine lv_iload_n hx hb dX9_operand_44 rfl (lv_at hl 3 rfl) ?_
          refine lv_iconst (v := 5) hx hb dX9_operand_45 (by decide) ?_
          refine lv_imul hx hb dX9_operand_46 ?_
          refine lv_iconst (v := 3) hx hb dX9_operand_47 (by decide) ?_
          refine lv_iadd hx hb dX9_operand_48 ?_
          obtain ⟨i17, h⟩ := nd_ck_e h
          refine va_iald (i := ((v1 * 5) + 3)) hx hb hK hP 4 3 rfl rfl i17 dX9_operand_49 ?_
          exact K _ _ _ _ _ _ dX9_operand_50 rfl (Option.some.inj h).symm hP hD hS
    · have h := nd_pos h c2
      refine lv_iload_n hx hb dX9_operand_14 rfl (lv_at hl 3 rfl) ?_
      exact K _ _ _ _ _ _ dX9_operand_15 rfl (Option.some.inj h).symm hP hD hS
  · have h := nd_pos h c1
    refine lv_iload_n hx hb dX9_operand_6 rfl (lv_at hl 2 rfl) ?_
    exact K _ _ _ _ _ _ dX9_operand_7 rfl (Option.some.inj h).symm hP hD hS
set_option maxHeartbeats 40000000 in
set_option maxRecDepth 100000 in
theorem dm_X9_operand (l : Launch) (hlt : l.stackTraces = false) (dC : Nat → ClassId) (dI : Nat → Nat → Nat) (a : Nat → Nat) (ac : Nat → ClassId) (n : Nat) (v0 : Int32) (v1 : Int32) (v2 : Int32) (s0 : St) {r : Int32 × (St)} (h : df_X9_operand n v0 v1 v2 s0 = some r) (sz : Nat) : Met l yX9_operand ow_dm_X9_operand ({ frames := 0, cells := 0, slots := 0, locals := 0 }) (va_Pc [.ref (a 0), .int v0, .int v1, .int v2] (fun U => U.heap.size = sz ∧ va_P (dC, dI) vwCl (dw_X9 a ac s0) U.heap ∧ va_K (dC, dI) vwCl (dk_X9 ac) U ∧ va_D (fun _ => True) (dw_X9 a ac s0) ∧ nv_E (va_A (dw_X9 a ac s0) sz) U)) (va_Qi (fun x _ => x = r.1) (fun (_ : Unit) t => va_P (dC, dI) vwCl (dw_X9 a ac r.2) t.heap ∧ va_K (dC, dI) vwCl (dk_X9 ac) t ∧ va_D (va_A (dw_X9 a ac s0) sz) (dw_X9 a ac r.2)) (va_A (dw_X9 a ac s0) sz)) 0 0 (va_A (dw_X9 a ac s0) sz) := by
  refine Met.ofW (cc := cX9_operand) (maxL := 6) (ret := (some .int)) (by decide) rfl ?_
  intro p e s m args below meth c s₁ B hml hv
  obtain ⟨rfl, hsz, hP, hK, hD0, hN⟩ := hv
  have hx := B.exec
  have hb := B.bytes
  have hr := B.returns
  have hts := atoms_spec (ws := ow_dm_X9_operand) B.pre
  have hown : s.vm.findClass RX9 = some m.cls := findClass_of_methodNamed B.named
  have hlocks := B.notSynchronized
  subst hsz
  have hD := hD0.self (sz := s.heap.size)
  generalize hAe : va_A (dw_X9 a ac s0) s.heap.size = A at hD hN ⊢
  have hA : ∀ q : Nat, s.heap.size ≤ q → A q := fun q h => by rw [← hAe]; exact Or.inr h
  have hl := lv_entry ([.ref (a 0), .int v0, .int v1, .int v2]) (n := 6) (Nat.le_of_ble_eq_true rfl)
  rw [lg_entry_eq]
  generalize (lg_sl ([.ref (a 0), .int v0, .int v1, .int v2]) ++ List.replicate (6 - (lg_sl ([.ref (a 0), .int v0, .int v1, .int v2])).length) Slot.unset).toArray = ls at hl ⊢
  have hl : lv_has ls 6 [(0, .ref (a 0)), (1, .int v0), (2, .int v1), (3, .int v2)] := hl
  exact db_X9_operand_0 (dC := dC) (dI := dI) (a := a) (ac := ac) (n := n) (r := r) ⟨hlt, hx, hb, hml, hown, hts, hN, hA, hK⟩ (fun pc v τ H locs ls d z er hP hD hS => by subst er; exact W.zret (v := v) hx hb hr z (fun t ht hW => ⟨⟨v, (), rfl, rfl, by rw [ht]; exact hP, va_K.moved hW.alike hK, hD⟩, hS.F ht⟩) hS.2.2 d) v0 v1 v2 s0 _ _ _ h hP hD va_S.rf (lv_sub hl [0, 1, 2, 3] rfl)
def ow_dm_X9_push : List Cond := .code yX9_push cX9_push 2 none :: ([.fieldLink RX9 112 "TimeMachine$Reader" "top" "I", .fieldLink RX9 23 "TimeMachine$Reader" "stack" "[I"] ++ (u_ws RX9 TX9 20 ++ []))
theorem gd_dm_X9_push : ∀ w ∈ ow_dm_X9_push, (w.onTables && w.keeps) = true ∨ ∃ ty, w = Cond.arrayClass ty := List.forall_mem_cons.mpr ⟨good_of_word rfl, List.forall_mem_append.mpr ⟨fun w h => good_of_word (List.all_eq_true.mp (by decide +kernel) w h), List.forall_mem_append.mpr ⟨gu_X9, fun _ h => nomatch h⟩⟩⟩
theorem hi_dm_X9_push_X9 : ∀ w ∈ u_ws RX9 TX9 20, w ∈ ow_dm_X9_push := fun w h => List.mem_cons_of_mem _ (List.mem_append_right _ (List.mem_append_left _ h))
def dj_X9_push_32 (p : Program) (l : Launch) (e : Env) (s : State) (m : MethodId) (args : Array Value) (below : List Frame) (meth : Method) (c : Code) (Q : State → Prop) (A : Nat → Prop) (dC : Nat → ClassId) (dI : Nat → Nat → Nat) (a : Nat → Nat) (ac : Nat → ClassId) (g : (St) → Option (St)) (r : St) : Prop := ∀ (s0 : St) (H : Heap) (locs : List Loc) (ls : Array Slot), g s0 = some r → va_P (dC, dI) vwCl (dw_X9 a ac s0) H → va_D A (dw_X9 a ac s0) → va_S A s.heap H locs → lv_has ls 2 [] → W p l e (headSpec ow_dm_X9_push ({ frames := 0, cells := 0, slots := 0, locals := 0 })).room s m args below meth c H locs 0 0 Q (F0 m 32 ls [])
def dj_X9_push_0 (p : Program) (l : Launch) (e : Env) (s : State) (m : MethodId) (args : Array Value) (below : List Frame) (meth : Method) (c : Code) (Q : State → Prop) (A : Nat → Prop) (dC : Nat → ClassId) (dI : Nat → Nat → Nat) (a : Nat → Nat) (ac : Nat → ClassId) (g : Int32 → (St) → Option (St)) (r : St) : Prop := ∀ (v0 : Int32) (s0 : St) (H : Heap) (locs : List Loc) (ls : Array Slot), g v0 s0 = some r → va_P (dC, dI) vwCl (dw_X9 a ac s0) H → va_D A (dw_X9 a ac s0) → va_S A s.heap H locs → lv_has ls 2 [(0, .ref (a 0)), (1, .int v0)] → W p l e (headSpec ow_dm_X9_push ({ frames := 0, cells := 0, slots := 0, locals := 0 })).room s m args below meth c H locs 0 0 Q (F0 m 0 ls [])
set_option maxHeartbeats 40000000 in
set_option maxRecDepth 100000 in
theorem db_X9_push_32 {p : Program} {l : Launch} {e : Env} {s : State} {m : MethodId} {args : Array Value} {below : List Frame} {meth : Method} {c : Code} {Q : State → Prop} {A : Nat → Prop} {dC : Nat → ClassId} {dI : Nat → Nat → Nat} {a : Nat → Nat} {ac : Nat → ClassId} {n : Nat} {r : St} (C : nd_C p l s m args c A (dC, dI) cX9_push 2 RX9 ow_dm_X9_push (dk_X9 ac)) (K : nd_Kv p l e (headSpec ow_dm_X9_push ({ frames := 0, cells := 0, slots := 0, locals := 0 })).room s m args below meth c Q A (dC, dI) cX9_push (St) (dw_X9 a ac) r) : dj_X9_push_32 p l e s m args below meth c Q A dC dI a ac (df_X9_push_32 n) r := by
  obtain ⟨hlt, hx, hb, hml, hown, hts, hN, hA, hK⟩ := id C
  intro s0 H locs ls h hP hD hS hl
  unfold df_X9_push_32 at h
  exact K _ _ _ _ _ dX9_push_32 (Option.some.inj h).symm hP hD hS
set_option maxHeartbeats 40000000 in
set_option maxRecDepth 100000 in
theorem db_X9_push_0 {p : Program} {l : Launch} {e : Env} {s : State} {m : MethodId} {args : Array Value} {below : List Frame} {meth : Method} {c : Code} {Q : State → Prop} {A : Nat → Prop} {dC : Nat → ClassId} {dI : Nat → Nat → Nat} {a : Nat → Nat} {ac : Nat → ClassId} {n : Nat} {r : St} (C : nd_C p l s m args c A (dC, dI) cX9_push 2 RX9 ow_dm_X9_push (dk_X9 ac)) (K : nd_Kv p l e (headSpec ow_dm_X9_push ({ frames := 0, cells := 0, slots := 0, locals := 0 })).room s m args below meth c Q A (dC, dI) cX9_push (St) (dw_X9 a ac) r) : dj_X9_push_0 p l e s m args below meth c Q A dC dI a ac (df_X9_push_0 n) r := by
  obtain ⟨hlt, hx, hb, hml, hown, hts, hN, hA, hK⟩ := id C
  intro v0 s0 H locs ls h hP hD hS hl
  unfold df_X9_push_0 at h
  refine lv_aload_n hx hb dX9_push_0 rfl (lv_at hl 0 rfl) ?_
  refine va_get (D := (dC, dI)) (ci := 10) (v := .int (sI s0 6)) (C := RX9) (T := TX9) (N := 20) hx hb hts hi_dm_X9_push_X9 hown hK hP 0 rfl rfl 10 (by decide) (hts (.fieldLink RX9 112 "TimeMachine$Reader" "top" "I") (List.mem_of_getElem? (i := 1) rfl)) (fun _ h9 => h9) rfl dX9_push_1 ?_
  refine lv_aload_n hx hb dX9_push_4 rfl (lv_at hl 0 rfl) ?_
  refine va_get (D := (dC, dI)) (ci := 10) (v := .ref (a 3)) (C := RX9) (T := TX9) (N := 20) hx hb hts hi_dm_X9_push_X9 hown hK hP 0 rfl rfl 9 (by decide) (hts (.fieldLink RX9 23 "TimeMachine$Reader" "stack" "[I") (List.mem_of_getElem? (i := 2) rfl)) (fun _ h9 => h9) rfl dX9_push_5 ?_
  refine va_alen (v := 32832) hx hb hK hP 3 2 rfl rfl (show Int32.ofNat 32832 = 32832 by decide) dX9_push_8 ?_
  refine lv_icmp_ge (tgt := 32) hx hb dX9_push_9 (by decide) (fun c1 => ?_) (fun c1 => ?_)
  · have h := nd_pos h c1
    exact (db_X9_push_32 C K)  s0 _ _ _ h hP hD hS (lv_sub hl [] rfl)
  · have h := nd_neg h c1
    refine lv_aload_n hx hb dX9_push_12 rfl (lv_at hl 0 rfl) ?_
    refine va_get (D := (dC, dI)) (ci := 10) (v := .ref (a 3)) (C := RX9) (T := TX9) (N := 20) hx hb hts hi_dm_X9_push_X9 hown hK hP 0 rfl rfl 9 (by decide) (hts (.fieldLink RX9 23 "TimeMachine$Reader" "stack" "[I") (List.mem_of_getElem? (i := 2) rfl)) (fun _ h9 => h9) rfl dX9_push_13 ?_
    refine lv_aload_n hx hb dX9_push_16 rfl (lv_at hl 0 rfl) ?_
    refine va_get (D := (dC, dI)) (ci := 10) (v := .int (sI s0 6)) (C := RX9) (T := TX9) (N := 20) hx hb hts hi_dm_X9_push_X9 hown hK hP 0 rfl rfl 10 (by decide) (hts (.fieldLink RX9 112 "TimeMachine$Reader" "top" "I") (List.mem_of_getElem? (i := 1) rfl)) (fun _ h9 => h9) rfl dX9_push_17 ?_
    refine lv_iload_n hx hb dX9_push_20 rfl (lv_at hl 1 rfl) ?_
    obtain ⟨i2, h⟩ := nd_ck_e h
    refine va_iast (i := (sI s0 6)) (x := v0) hx hb hK hP hD hS 3 2 rfl rfl i2 dX9_push_21 (fun H locs hP hD hS => ?_)
    obtain ⟨s3, es3, h⟩ := nd_let_e h
    have hP : va_P (dC, dI) vwCl (dw_X9 a ac s3) H := by rw [es3]; exact hP
    have hD : va_D A (dw_X9 a ac s3) := by rw [es3]; exact hD
    refine lv_aload_n hx hb dX9_push_22 rfl (lv_at hl 0 rfl) ?_
    refine lv_dup hx hb dX9_push_23 rfl ?_
    refine va_get (D := (dC, dI)) (ci := 10) (v := .int (sI s3 6)) (C := RX9) (T := TX9) (N := 20) hx hb hts hi_dm_X9_push_X9 hown hK hP 0 rfl rfl 10 (by decide) (hts (.fieldLink RX9 112 "TimeMachine$Reader" "top" "I") (List.mem_of_getElem? (i := 1) rfl)) (fun _ h9 => h9) rfl dX9_push_24 ?_
    refine lv_iconst (v := 1) hx hb dX9_push_27 (by decide) ?_
    refine lv_iadd hx hb dX9_push_28 ?_
    refine va_put (D := (dC, dI)) (ci := 10) (v := .int ((sI s3 6) + 1)) (ty := .int) (C := RX9) (T := TX9) (N := 20) hx hb hts hi_dm_X9_push_X9 tyX9 tyX9_ok nmX9 hown hK hP hD hS 0 rfl rfl 10 (by decide) (hts (.fieldLink RX9 112 "TimeMachine$Reader" "top" "I") (List.mem_of_getElem? (i := 1) rfl)) (fun _ h9 => h9) rfl (by decide +kernel) rfl rfl (Nat.le_of_ble_eq_true rfl) dX9_push_29 (fun H locs hP hD hS => ?_)
    obtain ⟨s4, es4, h⟩ := nd_let_e h
    have hP : va_P (dC, dI) vwCl (dw_X9 a ac s4) H := by rw [es4]; exact hP
    have hD : va_D A (dw_X9 a ac s4) := by rw [es4]; exact hD
    exact (db_X9_push_32 C K)  s4 _ _ _ h hP hD hS (lv_sub hl [] rfl)
set_option maxHeartbeats 40000000 in
set_option maxRecDepth 100000 in
theorem dm_X9_push (l : Launch) (hlt : l.stackTraces = false) (dC : Nat → ClassId) (dI : Nat → Nat → Nat) (a : Nat → Nat) (ac : Nat → ClassId) (n : Nat) (v0 : Int32) (s0 : St) {r : St} (h : df_X9_push n v0 s0 = some r) (sz : Nat) : Met l yX9_push ow_dm_X9_push ({ frames := 0, cells := 0, slots := 0, locals := 0 }) (va_Pc [.ref (a 0), .int v0] (fun U => U.heap.size = sz ∧ va_P (dC, dI) vwCl (dw_X9 a ac s0) U.heap ∧ va_K (dC, dI) vwCl (dk_X9 ac) U ∧ va_D (fun _ => True) (dw_X9 a ac s0) ∧ nv_E (va_A (dw_X9 a ac s0) sz) U)) (va_Qv (fun _ => True) (fun (_ : Unit) t => va_P (dC, dI) vwCl (dw_X9 a ac r) t.heap ∧ va_K (dC, dI) vwCl (dk_X9 ac) t ∧ va_D (va_A (dw_X9 a ac s0) sz) (dw_X9 a ac r)) (va_A (dw_X9 a ac s0) sz)) 0 0 (va_A (dw_X9 a ac s0) sz) := by
  refine Met.ofW (cc := cX9_push) (maxL := 2) (ret := none) (by decide) rfl ?_
  intro p e s m args below meth c s₁ B hml hv
  obtain ⟨rfl, hsz, hP, hK, hD0, hN⟩ := hv
  have hx := B.exec
  have hb := B.bytes
  have hr := B.returns
  have hts := atoms_spec (ws := ow_dm_X9_push) B.pre
  have hown : s.vm.findClass RX9 = some m.cls := findClass_of_methodNamed B.named
  have hlocks := B.notSynchronized
  subst hsz
  have hD := hD0.self (sz := s.heap.size)
  generalize hAe : va_A (dw_X9 a ac s0) s.heap.size = A at hD hN ⊢
  have hA : ∀ q : Nat, s.heap.size ≤ q → A q := fun q h => by rw [← hAe]; exact Or.inr h
  have hl := lv_entry ([.ref (a 0), .int v0]) (n := 2) (Nat.le_of_ble_eq_true rfl)
  rw [lg_entry_eq]
  generalize (lg_sl ([.ref (a 0), .int v0]) ++ List.replicate (2 - (lg_sl ([.ref (a 0), .int v0])).length) Slot.unset).toArray = ls at hl ⊢
  have hl : lv_has ls 2 [(0, .ref (a 0)), (1, .int v0)] := hl
  exact db_X9_push_0 (dC := dC) (dI := dI) (a := a) (ac := ac) (n := n) (r := r) ⟨hlt, hx, hb, hml, hown, hts, hN, hA, hK⟩ (fun pc τ H locs ls d er hP hD hS => by subst er; exact W.vret hx hb hr (fun t ht hW => ⟨⟨(), rfl, trivial, by rw [ht]; exact hP, va_K.moved hW.alike hK, hD⟩, hS.F ht⟩) hS.2.2 d) v0 s0 _ _ _ h hP hD va_S.rf (lv_sub hl [0, 1] rfl)
def ow_dm_X9_evaluate : List Cond := .code yX9_evaluate cX9_evaluate 4 (some .int) :: ([.fieldLink RX9 166 "TimeMachine$Reader" "trouble" "I", .fieldLink RX9 112 "TimeMachine$Reader" "top" "I", .methodLink RX9 169 Lib.Math.max.name, .static Lib.Math.max.name, .initialized "java/lang/Math", .code Lib.Math.max.name Lib.Math.max.code 2 (some .int), .fieldLink RX9 39 "TimeMachine$Reader" "codes" "I", .fieldLink RX9 23 "TimeMachine$Reader" "stack" "[I", .fieldLink RX9 16 "TimeMachine$Reader" "code" "[I", .methodLink RX9 179 yX9_joined, .instanceMethod yX9_joined, .selects RX9 yX9_joined yX9_joined, .initialized RX9, .methodLink RX9 176 yX9_single, .static yX9_single, .fieldLink RX9 20 "TimeMachine$Reader" "argument" "[I", .methodLink RX9 172 yX9_operand, .instanceMethod yX9_operand, .selects RX9 yX9_operand yX9_operand, .methodLink RX9 141 yX9_push, .instanceMethod yX9_push, .selects RX9 yX9_push yX9_push] ++ (u_ws RX9 TX9 20 ++ (ow_dm_X9_joined ++ (ow_dm_X9_single ++ (ow_dm_X9_operand ++ (ow_dm_X9_push ++ []))))))
theorem gd_dm_X9_evaluate : ∀ w ∈ ow_dm_X9_evaluate, (w.onTables && w.keeps) = true ∨ ∃ ty, w = Cond.arrayClass ty := List.forall_mem_cons.mpr ⟨good_of_word rfl, List.forall_mem_append.mpr ⟨fun w h => good_of_word (List.all_eq_true.mp (by decide +kernel) w h), List.forall_mem_append.mpr ⟨gu_X9, List.forall_mem_append.mpr ⟨gd_dm_X9_joined, List.forall_mem_append.mpr ⟨gd_dm_X9_single, List.forall_mem_append.mpr ⟨gd_dm_X9_operand, List.forall_mem_append.mpr ⟨gd_dm_X9_push, fun _ h => nomatch h⟩⟩⟩⟩⟩⟩⟩
theorem hi_dm_X9_evaluate_X9 : ∀ w ∈ u_ws RX9 TX9 20, w ∈ ow_dm_X9_evaluate := fun w h => List.mem_cons_of_mem _ (List.mem_append_right _ (List.mem_append_left _ h))
theorem gi_dm_X9_evaluate_0 : GoodIn ow_dm_X9_evaluate (wsV RX9 179 RX9 yX9_joined ow_dm_X9_joined) := goodIn_app (goodIn_of _ (by decide +kernel)) (fun w h => ⟨List.mem_cons_of_mem _ (List.mem_append_right _ (List.mem_append_right _ (List.mem_append_left _ h))), gd_dm_X9_joined w h⟩)
theorem gi_dm_X9_evaluate_1 : GoodIn ow_dm_X9_evaluate (wsS RX9 176 yX9_single ow_dm_X9_single) := goodIn_app (goodIn_of _ (by decide +kernel)) (fun w h => ⟨List.mem_cons_of_mem _ (List.mem_append_right _ (List.mem_append_right _ (List.mem_append_right _ (List.mem_append_left _ h)))), gd_dm_X9_single w h⟩)
theorem gi_dm_X9_evaluate_2 : GoodIn ow_dm_X9_evaluate (wsV RX9 172 RX9 yX9_operand ow_dm_X9_operand) := goodIn_app (goodIn_of _ (by decide +kernel)) (fun w h => ⟨List.mem_cons_of_mem _ (List.mem_append_right _ (List.mem_append_right _ (List.mem_append_right _ (List.mem_append_right _ (List.mem_append_left _ h))))), gd_dm_X9_operand w h⟩)
theorem gi_dm_X9_evaluate_3 : GoodIn ow_dm_X9_evaluate (wsV RX9 141 RX9 yX9_push ow_dm_X9_push) := goodIn_app (goodIn_of _ (by decide +kernel)) (fun w h => ⟨List.mem_cons_of_mem _ (List.mem_append_right _ (List.mem_append_right _ (List.mem_append_right _ (List.mem_append_right _ (List.mem_append_right _ (List.mem_append_left _ h)))))), gd_dm_X9_push w h⟩)
def dj_X9_evaluate_204 (p : Program) (l : Launch) (e : Env) (s : State) (m : MethodId) (args : Array Value) (below : List Frame) (meth : Method) (c : Code) (Q : State → Prop) (A : Nat → Prop) (dC : Nat → ClassId) (dI : Nat → Nat → Nat) (a : Nat → Nat) (ac : Nat → ClassId) (g : Int32 → (St) → Option (Int32 × (St))) (r : Int32 × (St)) : Prop := ∀ (y0 : Int32) (s0 : St) (H : Heap) (locs : List Loc) (ls : Array Slot), g y0 s0 = some r → va_P (dC, dI) vwCl (dw_X9 a ac s0) H → va_D A (dw_X9 a ac s0) → va_S A s.heap H locs → lv_has ls 4 [] → W p l e (headSpec ow_dm_X9_evaluate ({ frames := 2, cells := 0, slots := 0, locals := 41 })).room s m args below meth c H locs 0 0 Q (F0 m 204 ls [.int y0])
def dj_X9_evaluate_187 (p : Program) (l : Launch) (e : Env) (s : State) (m : MethodId) (args : Array Value) (below : List Frame) (meth : Method) (c : Code) (Q : State → Prop) (A : Nat → Prop) (dC : Nat → ClassId) (dI : Nat → Nat → Nat) (a : Nat → Nat) (ac : Nat → ClassId) (g : (St) → Option (Int32 × (St))) (r : Int32 × (St)) : Prop := ∀ (s0 : St) (H : Heap) (locs : List Loc) (ls : Array Slot), g s0 = some r → va_P (dC, dI) vwCl (dw_X9 a ac s0) H → va_D A (dw_X9 a ac s0) → va_S A s.heap H locs → lv_has ls 4 [(0, .ref (a 0))] → W p l e (headSpec ow_dm_X9_evaluate ({ frames := 2, cells := 0, slots := 0, locals := 41 })).room s m args below meth c H locs 0 0 Q (F0 m 187 ls [])
def dj_X9_evaluate_181 (p : Program) (l : Launch) (e : Env) (s : State) (m : MethodId) (args : Array Value) (below : List Frame) (meth : Method) (c : Code) (Q : State → Prop) (A : Nat → Prop) (dC : Nat → ClassId) (dI : Nat → Nat → Nat) (a : Nat → Nat) (ac : Nat → ClassId) (g : Int32 → Int32 → (St) → Option (Int32 × (St))) (r : Int32 × (St)) : Prop := ∀ (x2 : Int32) (x3 : Int32) (s0 : St) (H : Heap) (locs : List Loc) (ls : Array Slot), g x2 x3 s0 = some r → va_P (dC, dI) vwCl (dw_X9 a ac s0) H → va_D A (dw_X9 a ac s0) → va_S A s.heap H locs → lv_has ls 4 [(0, .ref (a 0)), (2, .int x2), (3, .int x3)] → W p l e (headSpec ow_dm_X9_evaluate ({ frames := 2, cells := 0, slots := 0, locals := 41 })).room s m args below meth c H locs 0 0 Q (F0 m 181 ls [])
def dj_X9_evaluate_122 (p : Program) (l : Launch) (e : Env) (s : State) (m : MethodId) (args : Array Value) (below : List Frame) (meth : Method) (c : Code) (Q : State → Prop) (A : Nat → Prop) (dC : Nat → ClassId) (dI : Nat → Nat → Nat) (a : Nat → Nat) (ac : Nat → ClassId) (g : Int32 → Int32 → (St) → Option (Int32 × (St))) (r : Int32 × (St)) : Prop := ∀ (x2 : Int32) (x3 : Int32) (s0 : St) (H : Heap) (locs : List Loc) (ls : Array Slot), g x2 x3 s0 = some r → va_P (dC, dI) vwCl (dw_X9 a ac s0) H → va_D A (dw_X9 a ac s0) → va_S A s.heap H locs → lv_has ls 4 [(0, .ref (a 0)), (2, .int x2), (3, .int x3)] → W p l e (headSpec ow_dm_X9_evaluate ({ frames := 2, cells := 0, slots := 0, locals := 41 })).room s m args below meth c H locs 0 0 Q (F0 m 122 ls [])
def dj_X9_evaluate_16 (p : Program) (l : Launch) (e : Env) (s : State) (m : MethodId) (args : Array Value) (below : List Frame) (meth : Method) (c : Code) (Q : State → Prop) (A : Nat → Prop) (dC : Nat → ClassId) (dI : Nat → Nat → Nat) (a : Nat → Nat) (ac : Nat → ClassId) (g : Int32 → Int32 → (St) → Option (Int32 × (St))) (r : Int32 × (St)) : Prop := ∀ (x2 : Int32) (x3 : Int32) (s0 : St) (H : Heap) (locs : List Loc) (ls : Array Slot), g x2 x3 s0 = some r → va_P (dC, dI) vwCl (dw_X9 a ac s0) H → va_D A (dw_X9 a ac s0) → va_S A s.heap H locs → lv_has ls 4 [(0, .ref (a 0)), (2, .int x2), (3, .int x3)] → W p l e (headSpec ow_dm_X9_evaluate ({ frames := 2, cells := 0, slots := 0, locals := 41 })).room s m args below meth c H locs 0 0 Q (F0 m 16 ls [])
def dj_X9_evaluate_0 (p : Program) (l : Launch) (e : Env) (s : State) (m : MethodId) (args : Array Value) (below : List Frame) (meth : Method) (c : Code) (Q : State → Prop) (A : Nat → Prop) (dC : Nat → ClassId) (dI : Nat → Nat → Nat) (a : Nat → Nat) (ac : Nat → ClassId) (g : Int32 → Int32 → (St) → Option (Int32 × (St))) (r : Int32 × (St)) : Prop := ∀ (v0 : Int32) (v1 : Int32) (s0 : St) (H : Heap) (locs : List Loc) (ls : Array Slot), g v0 v1 s0 = some r → va_P (dC, dI) vwCl (dw_X9 a ac s0) H → va_D A (dw_X9 a ac s0) → va_S A s.heap H locs → lv_has ls 4 [(0, .ref (a 0)), (1, .int v0), (2, .int v1)] → W p l e (headSpec ow_dm_X9_evaluate ({ frames := 2, cells := 0, slots := 0, locals := 41 })).room s m args below meth c H locs 0 0 Q (F0 m 0 ls [])
set_option maxHeartbeats 40000000 in
set_option maxRecDepth 100000 in
theorem db_X9_evaluate_204 {p : Program} {l : Launch} {e : Env} {s : State} {m : MethodId} {args : Array Value} {below : List Frame} {meth : Method} {c : Code} {Q : State → Prop} {A : Nat → Prop} {dC : Nat → ClassId} {dI : Nat → Nat → Nat} {a : Nat → Nat} {ac : Nat → ClassId} {n : Nat} {r : Int32 × (St)} (C : nd_C p l s m args c A (dC, dI) cX9_evaluate 4 RX9 ow_dm_X9_evaluate (dk_X9 ac)) (K : nd_Ki p l e (headSpec ow_dm_X9_evaluate ({ frames := 2, cells := 0, slots := 0, locals := 41 })).room s m args below meth c Q A (dC, dI) cX9_evaluate .int (St) (dw_X9 a ac) r) : dj_X9_evaluate_204 p l e s m args below meth c Q A dC dI a ac (df_X9_evaluate_204 n) r := by
  obtain ⟨hlt, hx, hb, hml, hown, hts, hN, hA, hK⟩ := id C
  intro y0 s0 H locs ls h hP hD hS hl
  unfold df_X9_evaluate_204 at h
  exact K _ _ _ _ _ _ dX9_evaluate_204 rfl (Option.some.inj h).symm hP hD hS
set_option maxHeartbeats 40000000 in
set_option maxRecDepth 100000 in
theorem db_X9_evaluate_187 {p : Program} {l : Launch} {e : Env} {s : State} {m : MethodId} {args : Array Value} {below : List Frame} {meth : Method} {c : Code} {Q : State → Prop} {A : Nat → Prop} {dC : Nat → ClassId} {dI : Nat → Nat → Nat} {a : Nat → Nat} {ac : Nat → ClassId} {n : Nat} {r : Int32 × (St)} (C : nd_C p l s m args c A (dC, dI) cX9_evaluate 4 RX9 ow_dm_X9_evaluate (dk_X9 ac)) (K : nd_Ki p l e (headSpec ow_dm_X9_evaluate ({ frames := 2, cells := 0, slots := 0, locals := 41 })).room s m args below meth c Q A (dC, dI) cX9_evaluate .int (St) (dw_X9 a ac) r) : dj_X9_evaluate_187 p l e s m args below meth c Q A dC dI a ac (df_X9_evaluate_187 n) r := by
  obtain ⟨hlt, hx, hb, hml, hown, hts, hN, hA, hK⟩ := id C
  intro s0 H locs ls h hP hD hS hl
  unfold df_X9_evaluate_187 at h
  refine lv_aload_n hx hb dX9_evaluate_187 rfl (lv_at hl 0 rfl) ?_
  refine va_get (D := (dC, dI)) (ci := 10) (v := .int (sI s0 6)) (C := RX9) (T := TX9) (N := 20) hx hb hts hi_dm_X9_evaluate_X9 hown hK hP 0 rfl rfl 10 (by decide) (hts (.fieldLink RX9 112 "TimeMachine$Reader" "top" "I") (List.mem_of_getElem? (i := 2) rfl)) (fun _ h9 => h9) rfl dX9_evaluate_188 ?_
  refine lv_if_le (tgt := 203) hx hb dX9_evaluate_191 (by decide) (fun c5 => ?_) (fun c5 => ?_)
  · have h := nd_pos h c5
    refine lv_iconst (v := 0) hx hb dX9_evaluate_203 (by decide) ?_
    exact (db_X9_evaluate_204 C K) (0) s0 _ _ _ h hP hD hS (lv_sub hl [] rfl)
  · have h := nd_neg h c5
    refine lv_aload_n hx hb dX9_evaluate_194 rfl (lv_at hl 0 rfl) ?_
    refine va_get (D := (dC, dI)) (ci := 10) (v := .ref (a 3)) (C := RX9) (T := TX9) (N := 20) hx hb hts hi_dm_X9_evaluate_X9 hown hK hP 0 rfl rfl 9 (by decide) (hts (.fieldLink RX9 23 "TimeMachine$Reader" "stack" "[I") (List.mem_of_getElem? (i := 8) rfl)) (fun _ h9 => h9) rfl dX9_evaluate_195 ?_
    refine lv_iconst (v := 0) hx hb dX9_evaluate_198 (by decide) ?_
    refine va_iald (i := 0) hx hb hK hP 3 2 rfl rfl (vp_in_iff.mpr ⟨by decide, by decide⟩) dX9_evaluate_199 ?_
    refine lv_goto (tgt := 204) hx hb dX9_evaluate_200 (by decide) ?_
    exact (db_X9_evaluate_204 C K) ((sR s0 2 (Int32.toNatClampNeg 0))) s0 _ _ _ h hP hD hS (lv_sub hl [] rfl)
set_option maxHeartbeats 40000000 in
set_option maxRecDepth 100000 in
theorem db_X9_evaluate_181 {p : Program} {l : Launch} {e : Env} {s : State} {m : MethodId} {args : Array Value} {below : List Frame} {meth : Method} {c : Code} {Q : State → Prop} {A : Nat → Prop} {dC : Nat → ClassId} {dI : Nat → Nat → Nat} {a : Nat → Nat} {ac : Nat → ClassId} {n : Nat} {r : Int32 × (St)} (C : nd_C p l s m args c A (dC, dI) cX9_evaluate 4 RX9 ow_dm_X9_evaluate (dk_X9 ac)) (K : nd_Ki p l e (headSpec ow_dm_X9_evaluate ({ frames := 2, cells := 0, slots := 0, locals := 41 })).room s m args below meth c Q A (dC, dI) cX9_evaluate .int (St) (dw_X9 a ac) r) {g16 : Int32 → Int32 → (St) → Option (Int32 × (St))} (J16 : dj_X9_evaluate_16 p l e s m args below meth c Q A dC dI a ac g16 r) : dj_X9_evaluate_181 p l e s m args below meth c Q A dC dI a ac (df_X9_evaluate_181 n g16) r := by
  obtain ⟨hlt, hx, hb, hml, hown, hts, hN, hA, hK⟩ := id C
  intro x2 x3 s0 H locs ls h hP hD hS hl
  unfold df_X9_evaluate_181 at h
  obtain ⟨z13, ez13, h⟩ := nd_let_e h
  refine lv_iinc (v := z13) (lv' := [(3, .int z13), (0, .ref (a 0)), (2, .int x2)]) hx hb dX9_evaluate_181 hl (k := 2) rfl (by rw [ez13]) (by decide) rfl (fun ls hl => ?_)
  refine lv_goto (tgt := 16) hx hb dX9_evaluate_184 (by decide) ?_
  exact (J16) (x2) (z13) s0 _ _ _ h hP hD hS (lv_sub hl [1, 2, 0] rfl)
set_option maxHeartbeats 40000000 in
set_option maxRecDepth 100000 in
theorem db_X9_evaluate_122 {p : Program} {l : Launch} {e : Env} {s : State} {m : MethodId} {args : Array Value} {below : List Frame} {meth : Method} {c : Code} {Q : State → Prop} {A : Nat → Prop} {dC : Nat → ClassId} {dI : Nat → Nat → Nat} {a : Nat → Nat} {ac : Nat → ClassId} {n : Nat} {r : Int32 × (St)} (C : nd_C p l s m args c A (dC, dI) cX9_evaluate 4 RX9 ow_dm_X9_evaluate (dk_X9 ac)) (K : nd_Ki p l e (headSpec ow_dm_X9_evaluate ({ frames := 2, cells := 0, slots := 0, locals := 41 })).room s m args below meth c Q A (dC, dI) cX9_evaluate .int (St) (dw_X9 a ac) r) {g16 : Int32 → Int32 → (St) → Option (Int32 × (St))} (J16 : dj_X9_evaluate_16 p l e s m args below meth c Q A dC dI a ac g16 r) : dj_X9_evaluate_122 p l e s m args below meth c Q A dC dI a ac (df_X9_evaluate_122 n g16) r := by
  obtain ⟨hlt, hx, hb, hml, hown, hts, hN, hA, hK⟩ := id C
  intro x2 x3 s0 H locs ls h hP hD hS hl
  unfold df_X9_evaluate_122 at h
  refine lv_aload_n hx hb dX9_evaluate_122 rfl (lv_at hl 0 rfl) ?_
  refine va_get (D := (dC, dI)) (ci := 10) (v := .int (sI s0 6)) (C := RX9) (T := TX9) (N := 20) hx hb hts hi_dm_X9_evaluate_X9 hown hK hP 0 rfl rfl 10 (by decide) (hts (.fieldLink RX9 112 "TimeMachine$Reader" "top" "I") (List.mem_of_getElem? (i := 2) rfl)) (fun _ h9 => h9) rfl dX9_evaluate_123 ?_
  refine lv_iconst (v := 1) hx hb dX9_evaluate_126 (by decide) ?_
  refine lv_icmp_le (tgt := 181) hx hb dX9_evaluate_127 (by decide) (fun c12 => ?_) (fun c12 => ?_)
  · have h := nd_pos h c12
    exact (db_X9_evaluate_181 C K J16) (x2) (x3) s0 _ _ _ h hP hD hS (lv_sub hl [0, 1, 2] rfl)
  · have h := nd_neg h c12
    refine lv_aload_n hx hb dX9_evaluate_130 rfl (lv_at hl 0 rfl) ?_
    refine lv_dup hx hb dX9_evaluate_131 rfl ?_
    refine va_get (D := (dC, dI)) (ci := 10) (v := .int (sI s0 6)) (C := RX9) (T := TX9) (N := 20) hx hb hts hi_dm_X9_evaluate_X9 hown hK hP 0 rfl rfl 10 (by decide) (hts (.fieldLink RX9 112 "TimeMachine$Reader" "top" "I") (List.mem_of_getElem? (i := 2) rfl)) (fun _ h9 => h9) rfl dX9_evaluate_132 ?_
    refine lv_iconst (v := 1) hx hb dX9_evaluate_135 (by decide) ?_
    refine lv_isub hx hb dX9_evaluate_136 ?_
    refine va_put (D := (dC, dI)) (ci := 10) (v := .int ((sI s0 6) - 1)) (ty := .int) (C := RX9) (T := TX9) (N := 20) hx hb hts hi_dm_X9_evaluate_X9 tyX9 tyX9_ok nmX9 hown hK hP hD hS 0 rfl rfl 10 (by decide) (hts (.fieldLink RX9 112 "TimeMachine$Reader" "top" "I") (List.mem_of_getElem? (i := 2) rfl)) (fun _ h9 => h9) rfl (by decide +kernel) rfl rfl (Nat.le_of_ble_eq_true rfl) dX9_evaluate_137 (fun H locs hP hD hS => ?_)
    obtain ⟨s14, es14, h⟩ := nd_let_e h
    have hP : va_P (dC, dI) vwCl (dw_X9 a ac s14) H := by rw [es14]; exact hP
    have hD : va_D A (dw_X9 a ac s14) := by rw [es14]; exact hD
    refine lv_aload_n hx hb dX9_evaluate_140 rfl (lv_at hl 0 rfl) ?_
    refine va_get (D := (dC, dI)) (ci := 10) (v := .ref (a 3)) (C := RX9) (T := TX9) (N := 20) hx hb hts hi_dm_X9_evaluate_X9 hown hK hP 0 rfl rfl 9 (by decide) (hts (.fieldLink RX9 23 "TimeMachine$Reader" "stack" "[I") (List.mem_of_getElem? (i := 8) rfl)) (fun _ h9 => h9) rfl dX9_evaluate_141 ?_
    refine lv_aload_n hx hb dX9_evaluate_144 rfl (lv_at hl 0 rfl) ?_
    refine va_get (D := (dC, dI)) (ci := 10) (v := .int (sI s14 6)) (C := RX9) (T := TX9) (N := 20) hx hb hts hi_dm_X9_evaluate_X9 hown hK hP 0 rfl rfl 10 (by decide) (hts (.fieldLink RX9 112 "TimeMachine$Reader" "top" "I") (List.mem_of_getElem? (i := 2) rfl)) (fun _ h9 => h9) rfl dX9_evaluate_145 ?_
    refine lv_iconst (v := 1) hx hb dX9_evaluate_148 (by decide) ?_
    refine lv_isub hx hb dX9_evaluate_149 ?_
    refine lv_aload_n hx hb dX9_evaluate_150 rfl (lv_at hl 0 rfl) ?_
    refine lv_aload_n hx hb dX9_evaluate_151 rfl (lv_at hl 0 rfl) ?_
    refine va_get (D := (dC, dI)) (ci := 10) (v := .ref (a 1)) (C := RX9) (T := TX9) (N := 20) hx hb hts hi_dm_X9_evaluate_X9 hown hK hP 0 rfl rfl 6 (by decide) (hts (.fieldLink RX9 16 "TimeMachine$Reader" "code" "[I") (List.mem_of_getElem? (i := 9) rfl)) (fun _ h9 => h9) rfl dX9_evaluate_152 ?_
    refine lv_iload_n hx hb dX9_evaluate_155 rfl (lv_at hl 2 rfl) ?_
    obtain ⟨i15, h⟩ := nd_ck_e h
    refine va_iald (i := x3) hx hb hK hP 1 0 rfl rfl i15 dX9_evaluate_156 ?_
    refine lv_aload_n hx hb dX9_evaluate_157 rfl (lv_at hl 0 rfl) ?_
    refine va_get (D := (dC, dI)) (ci := 10) (v := .ref (a 3)) (C := RX9) (T := TX9) (N := 20) hx hb hts hi_dm_X9_evaluate_X9 hown hK hP 0 rfl rfl 9 (by decide) (hts (.fieldLink RX9 23 "TimeMachine$Reader" "stack" "[I") (List.mem_of_getElem? (i := 8) rfl)) (fun _ h9 => h9) rfl dX9_evaluate_158 ?_
    refine lv_aload_n hx hb dX9_evaluate_161 rfl (lv_at hl 0 rfl) ?_
    refine va_get (D := (dC, dI)) (ci := 10) (v := .int (sI s14 6)) (C := RX9) (T := TX9) (N := 20) hx hb hts hi_dm_X9_evaluate_X9 hown hK hP 0 rfl rfl 10 (by decide) (hts (.fieldLink RX9 112 "TimeMachine$Reader" "top" "I") (List.mem_of_getElem? (i := 2) rfl)) (fun _ h9 => h9) rfl dX9_evaluate_162 ?_
    refine lv_iconst (v := 1) hx hb dX9_evaluate_165 (by decide) ?_
    refine lv_isub hx hb dX9_evaluate_166 ?_
    obtain ⟨i16, h⟩ := nd_ck_e h
    refine va_iald (i := ((sI s14 6) - 1)) hx hb hK hP 3 2 rfl rfl i16 dX9_evaluate_167 ?_
    refine lv_aload_n hx hb dX9_evaluate_168 rfl (lv_at hl 0 rfl) ?_
    refine va_get (D := (dC, dI)) (ci := 10) (v := .ref (a 3)) (C := RX9) (T := TX9) (N := 20) hx hb hts hi_dm_X9_evaluate_X9 hown hK hP 0 rfl rfl 9 (by decide) (hts (.fieldLink RX9 23 "TimeMachine$Reader" "stack" "[I") (List.mem_of_getElem? (i := 8) rfl)) (fun _ h9 => h9) rfl dX9_evaluate_169 ?_
    refine lv_aload_n hx hb dX9_evaluate_172 rfl (lv_at hl 0 rfl) ?_
    refine va_get (D := (dC, dI)) (ci := 10) (v := .int (sI s14 6)) (C := RX9) (T := TX9) (N := 20) hx hb hts hi_dm_X9_evaluate_X9 hown hK hP 0 rfl rfl 10 (by decide) (hts (.fieldLink RX9 112 "TimeMachine$Reader" "top" "I") (List.mem_of_getElem? (i := 2) rfl)) (fun _ h9 => h9) rfl dX9_evaluate_173 ?_
    obtain ⟨i17, h⟩ := nd_ck_e h
    refine va_iald (i := (sI s14 6)) hx hb hK hP 3 2 rfl rfl i17 dX9_evaluate_176 ?_
    obtain ⟨q18, s19, hq, h⟩ := nd_b2_e h
    have hPc := hP
    have hDc := hD
    have hKc := hK
    have hFc := nd_rs hD hS hA
    refine nd_cVi (As := [.int (sR s14 0 (Int32.toNatClampNeg x3)), .int (sR s14 2 (Int32.toNatClampNeg ((sI s14 6) - 1))), .int (sR s14 2 (Int32.toNatClampNeg (sI s14 6)))]) (rest := [.int ((sI s14 6) - 1), .ref (a 3)]) (q := q18) (w' := dw_X9 a ac s19) ⟨hx, hb, hml, hown, hts⟩ (fun sz => dm_X9_joined l hlt dC dI a ac n ((sR s14 0 (Int32.toNatClampNeg x3))) ((sR s14 2 (Int32.toNatClampNeg ((sI s14 6) - 1)))) ((sR s14 2 (Int32.toNatClampNeg (sI s14 6)))) s14 hq sz) (cwV 3 hts gi_dm_X9_evaluate_0 rfl rfl rfl (by decide +kernel) ⟨Nat.le_of_ble_eq_true rfl, Nat.le_of_ble_eq_true rfl⟩) hPc hDc hKc hS hA hN (va_recv hKc hPc (ci := 10) (q0 := 0) rfl rfl) rfl hl.1 rfl (Nat.le_of_ble_eq_true rfl) dX9_evaluate_177 (fun H locs hP1 hD1 hk1 hS => ?_)
    have hP := hP1
    have hD := hD1.weaken (fun k q _ h => hFc q.1 h)
    obtain ⟨i21, h⟩ := nd_ck_e h
    refine va_iast (i := ((sI s14 6) - 1)) (x := q18) hx hb hK hP hD hS 3 2 rfl rfl i21 dX9_evaluate_180 (fun H locs hP hD hS => ?_)
    obtain ⟨s22, es22, h⟩ := nd_let_e h
    have hP : va_P (dC, dI) vwCl (dw_X9 a ac s22) H := by rw [es22]; exact hP
    have hD : va_D A (dw_X9 a ac s22) := by rw [es22]; exact hD
    exact (db_X9_evaluate_181 C K J16) (x2) (x3) s22 _ _ _ h hP hD hS (lv_sub hl [0, 1, 2] rfl)
set_option maxHeartbeats 40000000 in
set_option maxRecDepth 100000 in
theorem dB_X9_evaluate_16 {p : Program} {l : Launch} {e : Env} {s : State} {m : MethodId} {args : Array Value} {below : List Frame} {meth : Method} {c : Code} {Q : State → Prop} {A : Nat → Prop} {dC : Nat → ClassId} {dI : Nat → Nat → Nat} {a : Nat → Nat} {ac : Nat → ClassId} {n : Nat} {r : Int32 × (St)} (C : nd_C p l s m args c A (dC, dI) cX9_evaluate 4 RX9 ow_dm_X9_evaluate (dk_X9 ac)) (K : nd_Ki p l e (headSpec ow_dm_X9_evaluate ({ frames := 2, cells := 0, slots := 0, locals := 41 })).room s m args below meth c Q A (dC, dI) cX9_evaluate .int (St) (dw_X9 a ac) r) {g16 : Int32 → Int32 → (St) → Option (Int32 × (St))} (J16 : dj_X9_evaluate_16 p l e s m args below meth c Q A dC dI a ac g16 r) : dj_X9_evaluate_16 p l e s m args below meth c Q A dC dI a ac (dF_X9_evaluate_16 n g16) r := by
  obtain ⟨hlt, hx, hb, hml, hown, hts, hN, hA, hK⟩ := id C
  intro x2 x3 s0 H locs ls h hP hD hS hl
  unfold dF_X9_evaluate_16 at h
  refine lv_iload_n hx hb dX9_evaluate_16 rfl (lv_at hl 2 rfl) ?_
  refine lv_aload_n hx hb dX9_evaluate_17 rfl (lv_at hl 0 rfl) ?_
  refine va_get (D := (dC, dI)) (ci := 10) (v := .int (sI s0 5)) (C := RX9) (T := TX9) (N := 20) hx hb hts hi_dm_X9_evaluate_X9 hown hK hP 0 rfl rfl 8 (by decide) (hts (.fieldLink RX9 39 "TimeMachine$Reader" "codes" "I") (List.mem_of_getElem? (i := 7) rfl)) (fun _ h9 => h9) rfl dX9_evaluate_18 ?_
  refine lv_icmp_ge (tgt := 187) hx hb dX9_evaluate_21 (by decide) (fun c4 => ?_) (fun c4 => ?_)
  · have h := nd_pos h c4
    exact (db_X9_evaluate_187 C K)  s0 _ _ _ h hP hD hS (lv_sub hl [0] rfl)
  · have h := nd_neg h c4
    refine lv_aload_n hx hb dX9_evaluate_24 rfl (lv_at hl 0 rfl) ?_
    refine va_get (D := (dC, dI)) (ci := 10) (v := .ref (a 1)) (C := RX9) (T := TX9) (N := 20) hx hb hts hi_dm_X9_evaluate_X9 hown hK hP 0 rfl rfl 6 (by decide) (hts (.fieldLink RX9 16 "TimeMachine$Reader" "code" "[I") (List.mem_of_getElem? (i := 9) rfl)) (fun _ h9 => h9) rfl dX9_evaluate_25 ?_
    refine lv_iload_n hx hb dX9_evaluate_28 rfl (lv_at hl 2 rfl) ?_
    obtain ⟨i6, h⟩ := nd_ck_e h
    refine va_iald (i := x3) hx hb hK hP 1 0 rfl rfl i6 dX9_evaluate_29 ?_
    refine lv_bipush (v := 21) hx hb dX9_evaluate_30 (by decide) ?_
    refine lv_icmp_eq (tgt := 187) hx hb dX9_evaluate_32 (by decide) (fun c7 => ?_) (fun c7 => ?_)
    · have h := nd_pos h c7
      exact (db_X9_evaluate_187 C K)  s0 _ _ _ h hP hD hS (lv_sub hl [0] rfl)
    · have h := nd_neg h c7
      refine lv_aload_n hx hb dX9_evaluate_35 rfl (lv_at hl 0 rfl) ?_
      refine va_get (D := (dC, dI)) (ci := 10) (v := .ref (a 1)) (C := RX9) (T := TX9) (N := 20) hx hb hts hi_dm_X9_evaluate_X9 hown hK hP 0 rfl rfl 6 (by decide) (hts (.fieldLink RX9 16 "TimeMachine$Reader" "code" "[I") (List.mem_of_getElem? (i := 9) rfl)) (fun _ h9 => h9) rfl dX9_evaluate_36 ?_
      refine lv_iload_n hx hb dX9_evaluate_39 rfl (lv_at hl 2 rfl) ?_
      obtain ⟨i8, h⟩ := nd_ck_e h
      refine va_iald (i := x3) hx hb hK hP 1 0 rfl rfl i8 dX9_evaluate_40 ?_
      refine lv_bipush (v := 16) hx hb dX9_evaluate_41 (by decide) ?_
      refine lv_icmp_lt (tgt := 70) hx hb dX9_evaluate_43 (by decide) (fun c9 => ?_) (fun c9 => ?_)
      · have h := nd_pos h c9
        refine lv_aload_n hx hb dX9_evaluate_70 rfl (lv_at hl 0 rfl) ?_
        refine va_get (D := (dC, dI)) (ci := 10) (v := .ref (a 1)) (C := RX9) (T := TX9) (N := 20) hx hb hts hi_dm_X9_evaluate_X9 hown hK hP 0 rfl rfl 6 (by decide) (hts (.fieldLink RX9 16 "TimeMachine$Reader" "code" "[I") (List.mem_of_getElem? (i := 9) rfl)) (fun _ h9 => h9) rfl dX9_evaluate_71 ?_
        refine lv_iload_n hx hb dX9_evaluate_74 rfl (lv_at hl 2 rfl) ?_
        obtain ⟨i10, h⟩ := nd_ck_e h
        refine va_iald (i := x3) hx hb hK hP 1 0 rfl rfl i10 dX9_evaluate_75 ?_
        refine lv_bipush (v := 11) hx hb dX9_evaluate_76 (by decide) ?_
        refine lv_icmp_lt (tgt := 122) hx hb dX9_evaluate_78 (by decide) (fun c11 => ?_) (fun c11 => ?_)
        · have h := nd_pos h c11
          exact (db_X9_evaluate_122 C K J16) (x2) (x3) s0 _ _ _ h hP hD hS (lv_sub hl [0, 1, 2] rfl)
        · have h := nd_neg h c11
          refine lv_aload_n hx hb dX9_evaluate_81 rfl (lv_at hl 0 rfl) ?_
          refine va_get (D := (dC, dI)) (ci := 10) (v := .int (sI s0 6)) (C := RX9) (T := TX9) (N := 20) hx hb hts hi_dm_X9_evaluate_X9 hown hK hP 0 rfl rfl 10 (by decide) (hts (.fieldLink RX9 112 "TimeMachine$Reader" "top" "I") (List.mem_of_getElem? (i := 2) rfl)) (fun _ h9 => h9) rfl dX9_evaluate_82 ?_
          refine lv_if_le (tgt := 122) hx hb dX9_evaluate_85 (by decide) (fun c23 => ?_) (fun c23 => ?_)
          · have h := nd_pos h c23
            exact (db_X9_evaluate_122 C K J16) (x2) (x3) s0 _ _ _ h hP hD hS (lv_sub hl [0, 1, 2] rfl)
          · have h := nd_neg h c23
            refine lv_aload_n hx hb dX9_evaluate_88 rfl (lv_at hl 0 rfl) ?_
            refine va_get (D := (dC, dI)) (ci := 10) (v := .ref (a 3)) (C := RX9) (T := TX9) (N := 20) hx hb hts hi_dm_X9_evaluate_X9 hown hK hP 0 rfl rfl 9 (by decide) (hts (.fieldLink RX9 23 "TimeMachine$Reader" "stack" "[I") (List.mem_of_getElem? (i := 8) rfl)) (fun _ h9 => h9) rfl dX9_evaluate_89 ?_
            refine lv_aload_n hx hb dX9_evaluate_92 rfl (lv_at hl 0 rfl) ?_
            refine va_get (D := (dC, dI)) (ci := 10) (v := .int (sI s0 6)) (C := RX9) (T := TX9) (N := 20) hx hb hts hi_dm_X9_evaluate_X9 hown hK hP 0 rfl rfl 10 (by decide) (hts (.fieldLink RX9 112 "TimeMachine$Reader" "top" "I") (List.mem_of_getElem? (i := 2) rfl)) (fun _ h9 => h9) rfl dX9_evaluate_93 ?_
            refine lv_iconst (v := 1) hx hb dX9_evaluate_96 (by decide) ?_
            refine lv_isub hx hb dX9_evaluate_97 ?_
            refine lv_aload_n hx hb dX9_evaluate_98 rfl (lv_at hl 0 rfl) ?_
            refine va_get (D := (dC, dI)) (ci := 10) (v := .ref (a 1)) (C := RX9) (T := TX9) (N := 20) hx hb hts hi_dm_X9_evaluate_X9 hown hK hP 0 rfl rfl 6 (by decide) (hts (.fieldLink RX9 16 "TimeMachine$Reader" "code" "[I") (List.mem_of_getElem? (i := 9) rfl)) (fun _ h9 => h9) rfl dX9_evaluate_99 ?_
            refine lv_iload_n hx hb dX9_evaluate_102 rfl (lv_at hl 2 rfl) ?_
            obtain ⟨i24, h⟩ := nd_ck_e h
            refine va_iald (i := x3) hx hb hK hP 1 0 rfl rfl i24 dX9_evaluate_103 ?_
            refine lv_aload_n hx hb dX9_evaluate_104 rfl (lv_at hl 0 rfl) ?_
            refine va_get (D := (dC, dI)) (ci := 10) (v := .ref (a 3)) (C := RX9) (T := TX9) (N := 20) hx hb hts hi_dm_X9_evaluate_X9 hown hK hP 0 rfl rfl 9 (by decide) (hts (.fieldLink RX9 23 "TimeMachine$Reader" "stack" "[I") (List.mem_of_getElem? (i := 8) rfl)) (fun _ h9 => h9) rfl dX9_evaluate_105 ?_
            refine lv_aload_n hx hb dX9_evaluate_108 rfl (lv_at hl 0 rfl) ?_
            refine va_get (D := (dC, dI)) (ci := 10) (v := .int (sI s0 6)) (C := RX9) (T := TX9) (N := 20) hx hb hts hi_dm_X9_evaluate_X9 hown hK hP 0 rfl rfl 10 (by decide) (hts (.fieldLink RX9 112 "TimeMachine$Reader" "top" "I") (List.mem_of_getElem? (i := 2) rfl)) (fun _ h9 => h9) rfl dX9_evaluate_109 ?_
            refine lv_iconst (v := 1) hx hb dX9_evaluate_112 (by decide) ?_
            refine lv_isub hx hb dX9_evaluate_113 ?_
            obtain ⟨i25, h⟩ := nd_ck_e h
            refine va_iald (i := ((sI s0 6) - 1)) hx hb hK hP 3 2 rfl rfl i25 dX9_evaluate_114 ?_
            obtain ⟨q26, s27, hq, h⟩ := nd_b2_e h
            have hPc : va_P (dC, dI) vwCl (dw_P a ac ()) H := nd_p0
            have hDc : va_D A (dw_P a ac ()) := nd_d0
            have hKc : va_K (dC, dI) vwCl (dk_P ac) s := nd_y0 hK
            have hFc : ∀ q, va_A (dw_P a ac ()) H.size q → A q := nd_r0 hS hA
            refine nd_cSi (As := [.int (sR s0 0 (Int32.toNatClampNeg x3)), .int (sR s0 2 (Int32.toNatClampNeg ((sI s0 6) - 1)))]) (rest := [.int ((sI s0 6) - 1), .ref (a 3)]) (q := q26) (w' := dw_P a ac s27) ⟨hx, hb, hml, hown, hts⟩ (fun sz => dm_X9_single l hlt dC dI a ac n ((sR s0 0 (Int32.toNatClampNeg x3))) ((sR s0 2 (Int32.toNatClampNeg ((sI s0 6) - 1)))) () hq sz) (cwS 2 hts gi_dm_X9_evaluate_1 rfl rfl rfl (by decide +kernel) ⟨Nat.le_of_ble_eq_true rfl, Nat.le_of_ble_eq_true rfl⟩) hPc hDc hKc hS hA hN rfl hl.1 rfl (Nat.le_of_ble_eq_true rfl) dX9_evaluate_115 (fun H locs hP1 hD1 hk1 hS => ?_)
            have hP := nd_n0 hP hk1
            obtain ⟨i29, h⟩ := nd_ck_e h
            refine va_iast (i := ((sI s0 6) - 1)) (x := q26) hx hb hK hP hD hS 3 2 rfl rfl i29 dX9_evaluate_118 (fun H locs hP hD hS => ?_)
            obtain ⟨s30, es30, h⟩ := nd_let_e h
            have hP : va_P (dC, dI) vwCl (dw_X9 a ac s30) H := by rw [es30]; exact hP
            have hD : va_D A (dw_X9 a ac s30) := by rw [es30]; exact hD
            refine lv_goto (tgt := 181) hx hb dX9_evaluate_119 (by decide) ?_
            exact (db_X9_evaluate_181 C K J16) (x2) (x3) s30 _ _ _ h hP hD hS (lv_sub hl [0, 1, 2] rfl)
      · have h := nd_neg h c9
        refine lv_aload_n hx hb dX9_evaluate_46 rfl (lv_at hl 0 rfl) ?_
        refine lv_aload_n hx hb dX9_evaluate_47 rfl (lv_at hl 0 rfl) ?_
        refine lv_aload_n hx hb dX9_evaluate_48 rfl (lv_at hl 0 rfl) ?_
        refine va_get (D := (dC, dI)) (ci := 10) (v := .ref (a 1)) (C := RX9) (T := TX9) (N := 20) hx hb hts hi_dm_X9_evaluate_X9 hown hK hP 0 rfl rfl 6 (by decide) (hts (.fieldLink RX9 16 "TimeMachine$Reader" "code" "[I") (List.mem_of_getElem? (i := 9) rfl)) (fun _ h9 => h9) rfl dX9_evaluate_49 ?_
        refine lv_iload_n hx hb dX9_evaluate_52 rfl (lv_at hl 2 rfl) ?_
        obtain ⟨i31, h⟩ := nd_ck_e h
        refine va_iald (i := x3) hx hb hK hP 1 0 rfl rfl i31 dX9_evaluate_53 ?_
        refine lv_aload_n hx hb dX9_evaluate_54 rfl (lv_at hl 0 rfl) ?_
        refine va_get (D := (dC, dI)) (ci := 10) (v := .ref (a 2)) (C := RX9) (T := TX9) (N := 20) hx hb hts hi_dm_X9_evaluate_X9 hown hK hP 0 rfl rfl 7 (by decide) (hts (.fieldLink RX9 20 "TimeMachine$Reader" "argument" "[I") (List.mem_of_getElem? (i := 16) rfl)) (fun _ h9 => h9) rfl dX9_evaluate_55 ?_
        refine lv_iload_n hx hb dX9_evaluate_58 rfl (lv_at hl 2 rfl) ?_
        obtain ⟨i32, h⟩ := nd_ck_e h
        refine va_iald (i := x3) hx hb hK hP 2 1 rfl rfl i32 dX9_evaluate_59 ?_
        refine lv_iload_n hx hb dX9_evaluate_60 rfl (lv_at hl 1 rfl) ?_
        obtain ⟨q33, s34, hq, h⟩ := nd_b2_e h
        have hPc := hP
        have hDc := hD
        have hKc := hK
        have hFc := nd_rs hD hS hA
        refine nd_cVi (As := [.int (sR s0 0 (Int32.toNatClampNeg x3)), .int (sR s0 1 (Int32.toNatClampNeg x3)), .int x2]) (rest := [.ref (a 0)]) (q := q33) (w' := dw_X9 a ac s34) ⟨hx, hb, hml, hown, hts⟩ (fun sz => dm_X9_operand l hlt dC dI a ac n ((sR s0 0 (Int32.toNatClampNeg x3))) ((sR s0 1 (Int32.toNatClampNeg x3))) (x2) s0 hq sz) (cwV 3 hts gi_dm_X9_evaluate_2 rfl rfl rfl (by decide +kernel) ⟨Nat.le_of_ble_eq_true rfl, Nat.le_of_ble_eq_true rfl⟩) hPc hDc hKc hS hA hN (va_recv hKc hPc (ci := 10) (q0 := 0) rfl rfl) rfl hl.1 rfl (Nat.le_of_ble_eq_true rfl) dX9_evaluate_61 (fun H locs hP1 hD1 hk1 hS => ?_)
        have hP := hP1
        have hD := hD1.weaken (fun k q _ h => hFc q.1 h)
        obtain ⟨s37, hq, h⟩ := nd_b1_e h
        have hPc := hP
        have hDc := hD
        have hKc := hK
        have hFc := nd_rs hD hS hA
        refine nd_cVv (As := [.int q33]) (rest := []) (w' := dw_X9 a ac s37) ⟨hx, hb, hml, hown, hts⟩ (fun sz => dm_X9_push l hlt dC dI a ac n (q33) s34 hq sz) (cwV 1 hts gi_dm_X9_evaluate_3 rfl rfl rfl (by decide +kernel) ⟨Nat.le_of_ble_eq_true rfl, Nat.le_of_ble_eq_true rfl⟩) hPc hDc hKc hS hA hN (va_recv hKc hPc (ci := 10) (q0 := 0) rfl rfl) rfl hl.1 rfl (Nat.le_of_ble_eq_true rfl) dX9_evaluate_64 (fun H locs hP1 hD1 hk1 hS => ?_)
        have hP := hP1
        have hD := hD1.weaken (fun k q _ h => hFc q.1 h)
        refine lv_goto (tgt := 181) hx hb dX9_evaluate_67 (by decide) ?_
        exact (db_X9_evaluate_181 C K J16) (x2) (x3) s37 _ _ _ h hP hD hS (lv_sub hl [0, 1, 2] rfl)
set_option maxHeartbeats 40000000 in
set_option maxRecDepth 100000 in
theorem db_X9_evaluate_16 {p : Program} {l : Launch} {e : Env} {s : State} {m : MethodId} {args : Array Value} {below : List Frame} {meth : Method} {c : Code} {Q : State → Prop} {A : Nat → Prop} {dC : Nat → ClassId} {dI : Nat → Nat → Nat} {a : Nat → Nat} {ac : Nat → ClassId} {n : Nat} {r : Int32 × (St)} (C : nd_C p l s m args c A (dC, dI) cX9_evaluate 4 RX9 ow_dm_X9_evaluate (dk_X9 ac)) (K : nd_Ki p l e (headSpec ow_dm_X9_evaluate ({ frames := 2, cells := 0, slots := 0, locals := 41 })).room s m args below meth c Q A (dC, dI) cX9_evaluate .int (St) (dw_X9 a ac) r) (k : Nat) : dj_X9_evaluate_16 p l e s m args below meth c Q A dC dI a ac (df_X9_evaluate_16 n k) r := by
  induction k with
  | zero => intro x2 x3 s0 H locs ls h; exact nomatch (show (none : Option (Int32 × (St))) = some r from h)
  | succ k ih => exact dB_X9_evaluate_16 C K ih
set_option maxHeartbeats 40000000 in
set_option maxRecDepth 100000 in
theorem db_X9_evaluate_0 {p : Program} {l : Launch} {e : Env} {s : State} {m : MethodId} {args : Array Value} {below : List Frame} {meth : Method} {c : Code} {Q : State → Prop} {A : Nat → Prop} {dC : Nat → ClassId} {dI : Nat → Nat → Nat} {a : Nat → Nat} {ac : Nat → ClassId} {n : Nat} {r : Int32 × (St)} (C : nd_C p l s m args c A (dC, dI) cX9_evaluate 4 RX9 ow_dm_X9_evaluate (dk_X9 ac)) (K : nd_Ki p l e (headSpec ow_dm_X9_evaluate ({ frames := 2, cells := 0, slots := 0, locals := 41 })).room s m args below meth c Q A (dC, dI) cX9_evaluate .int (St) (dw_X9 a ac) r) : dj_X9_evaluate_0 p l e s m args below meth c Q A dC dI a ac (df_X9_evaluate_0 n) r := by
  obtain ⟨hlt, hx, hb, hml, hown, hts, hN, hA, hK⟩ := id C
  intro v0 v1 s0 H locs ls h hP hD hS hl
  unfold df_X9_evaluate_0 at h
  refine lv_aload_n hx hb dX9_evaluate_0 rfl (lv_at hl 0 rfl) ?_
  refine lv_iconst (v := 0) hx hb dX9_evaluate_1 (by decide) ?_
  refine va_put (D := (dC, dI)) (ci := 10) (v := .int 0) (ty := .int) (C := RX9) (T := TX9) (N := 20) hx hb hts hi_dm_X9_evaluate_X9 tyX9 tyX9_ok nmX9 hown hK hP hD hS 0 rfl rfl 19 (by decide) (hts (.fieldLink RX9 166 "TimeMachine$Reader" "trouble" "I") (List.mem_of_getElem? (i := 1) rfl)) (fun _ h9 => h9) rfl (by decide +kernel) rfl rfl (Nat.le_of_ble_eq_true rfl) dX9_evaluate_2 (fun H locs hP hD hS => ?_)
  obtain ⟨s1, es1, h⟩ := nd_let_e h
  have hP : va_P (dC, dI) vwCl (dw_X9 a ac s1) H := by rw [es1]; exact hP
  have hD : va_D A (dw_X9 a ac s1) := by rw [es1]; exact hD
  refine lv_aload_n hx hb dX9_evaluate_5 rfl (lv_at hl 0 rfl) ?_
  refine lv_iconst (v := 0) hx hb dX9_evaluate_6 (by decide) ?_
  refine va_put (D := (dC, dI)) (ci := 10) (v := .int 0) (ty := .int) (C := RX9) (T := TX9) (N := 20) hx hb hts hi_dm_X9_evaluate_X9 tyX9 tyX9_ok nmX9 hown hK hP hD hS 0 rfl rfl 10 (by decide) (hts (.fieldLink RX9 112 "TimeMachine$Reader" "top" "I") (List.mem_of_getElem? (i := 2) rfl)) (fun _ h9 => h9) rfl (by decide +kernel) rfl rfl (Nat.le_of_ble_eq_true rfl) dX9_evaluate_7 (fun H locs hP hD hS => ?_)
  obtain ⟨s2, es2, h⟩ := nd_let_e h
  have hP : va_P (dC, dI) vwCl (dw_X9 a ac s2) H := by rw [es2]; exact hP
  have hD : va_D A (dw_X9 a ac s2) := by rw [es2]; exact hD
  refine lv_iconst (v := 0) hx hb dX9_evaluate_10 (by decide) ?_
  refine lv_iload_n hx hb dX9_evaluate_11 rfl (lv_at hl 1 rfl) ?_
  refine va_mmax hx hb (by rw [hml]; exact hl.1.symm) hown (hts (.methodLink RX9 169 Lib.Math.max.name) (List.mem_of_getElem? (i := 3) rfl)) (hts (.static Lib.Math.max.name) (List.mem_of_getElem? (i := 4) rfl)) (hts (.initialized "java/lang/Math") (List.mem_of_getElem? (i := 5) rfl)) (hts (.code Lib.Math.max.name Lib.Math.max.code 2 (some .int)) (List.mem_of_getElem? (i := 6) rfl)) (Nat.le_of_ble_eq_true rfl) (Nat.le_of_ble_eq_true rfl) (by decide +kernel) (by decide +kernel) dX9_evaluate_12 ?_
  refine lv_topi (fun z3 ez3 => ?_)
  have h := nd_at h ez3
  refine lv_istore_n (lv' := [(3, .int z3), (0, .ref (a 0)), (1, .int v0), (2, .int v1)]) hx hb dX9_evaluate_15 rfl hl (by decide) rfl (fun ls hl => ?_)
  exact (db_X9_evaluate_16 C K n) (v1) (z3) s2 _ _ _ h hP hD hS (lv_sub hl [1, 3, 0] rfl)
set_option maxHeartbeats 40000000 in
set_option maxRecDepth 100000 in
theorem dm_X9_evaluate (l : Launch) (hlt : l.stackTraces = false) (dC : Nat → ClassId) (dI : Nat → Nat → Nat) (a : Nat → Nat) (ac : Nat → ClassId) (n : Nat) (v0 : Int32) (v1 : Int32) (s0 : St) {r : Int32 × (St)} (h : df_X9_evaluate n v0 v1 s0 = some r) (sz : Nat) : Met l yX9_evaluate ow_dm_X9_evaluate ({ frames := 2, cells := 0, slots := 0, locals := 41 }) (va_Pc [.ref (a 0), .int v0, .int v1] (fun U => U.heap.size = sz ∧ va_P (dC, dI) vwCl (dw_X9 a ac s0) U.heap ∧ va_K (dC, dI) vwCl (dk_X9 ac) U ∧ va_D (fun _ => True) (dw_X9 a ac s0) ∧ nv_E (va_A (dw_X9 a ac s0) sz) U)) (va_Qi (fun x _ => x = r.1) (fun (_ : Unit) t => va_P (dC, dI) vwCl (dw_X9 a ac r.2) t.heap ∧ va_K (dC, dI) vwCl (dk_X9 ac) t ∧ va_D (va_A (dw_X9 a ac s0) sz) (dw_X9 a ac r.2)) (va_A (dw_X9 a ac s0) sz)) 0 0 (va_A (dw_X9 a ac s0) sz) := by
  refine Met.ofW (cc := cX9_evaluate) (maxL := 4) (ret := (some .int)) (by decide) rfl ?_
  intro p e s m args below meth c s₁ B hml hv
  obtain ⟨rfl, hsz, hP, hK, hD0, hN⟩ := hv
  have hx := B.exec
  have hb := B.bytes
  have hr := B.returns
  have hts := atoms_spec (ws := ow_dm_X9_evaluate) B.pre
  have hown : s.vm.findClass RX9 = some m.cls := findClass_of_methodNamed B.named
  have hlocks := B.notSynchronized
  subst hsz
  have hD := hD0.self (sz := s.heap.size)
  generalize hAe : va_A (dw_X9 a ac s0) s.heap.size = A at hD hN ⊢
  have hA : ∀ q : Nat, s.heap.size ≤ q → A q := fun q h => by rw [← hAe]; exact Or.inr h
  have hl := lv_entry ([.ref (a 0), .int v0, .int v1]) (n := 4) (Nat.le_of_ble_eq_true rfl)
  rw [lg_entry_eq]
  generalize (lg_sl ([.ref (a 0), .int v0, .int v1]) ++ List.replicate (4 - (lg_sl ([.ref (a 0), .int v0, .int v1])).length) Slot.unset).toArray = ls at hl ⊢
  have hl : lv_has ls 4 [(0, .ref (a 0)), (1, .int v0), (2, .int v1)] := hl
  exact db_X9_evaluate_0 (dC := dC) (dI := dI) (a := a) (ac := ac) (n := n) (r := r) ⟨hlt, hx, hb, hml, hown, hts, hN, hA, hK⟩ (fun pc v τ H locs ls d z er hP hD hS => by subst er; exact W.zret (v := v) hx hb hr z (fun t ht hW => ⟨⟨v, (), rfl, rfl, by rw [ht]; exact hP, va_K.moved hW.alike hK, hD⟩, hS.F ht⟩) hS.2.2 d) v0 v1 s0 _ _ _ h hP hD va_S.rf (lv_sub hl [0, 1, 2] rfl)
def ow_dm_X1_growingLetter : List Cond := .code yX1_growingLetter cX1_growingLetter 2 (some .char) :: ([] ++ [])
theorem gd_dm_X1_growingLetter : ∀ w ∈ ow_dm_X1_growingLetter, (w.onTables && w.keeps) = true ∨ ∃ ty, w = Cond.arrayClass ty := List.forall_mem_cons.mpr ⟨good_of_word rfl, List.forall_mem_append.mpr ⟨fun w h => good_of_word (List.all_eq_true.mp (by decide +kernel) w h), fun _ h => nomatch h⟩⟩
def dj_X1_growingLetter_40 (p : Program) (l : Launch) (e : Env) (s : State) (m : MethodId) (args : Array Value) (below : List Frame) (meth : Method) (c : Code) (Q : State → Prop) (A : Nat → Prop) (dC : Nat → ClassId) (dI : Nat → Nat → Nat) (a : Nat → Nat) (ac : Nat → ClassId) (g : Int32 → (Unit) → Option (Int32 × (Unit))) (r : Int32 × (Unit)) : Prop := ∀ (y0 : Int32) (s0 : Unit) (H : Heap) (locs : List Loc) (ls : Array Slot), g y0 s0 = some r → va_P (dC, dI) vwCl (dw_P a ac s0) H → va_D A (dw_P a ac s0) → va_S A s.heap H locs → lv_has ls 2 [] → W p l e (headSpec ow_dm_X1_growingLetter ({ frames := 0, cells := 0, slots := 0, locals := 0 })).room s m args below meth c H locs 0 0 Q (F0 m 40 ls [.int y0])
def dj_X1_growingLetter_17 (p : Program) (l : Launch) (e : Env) (s : State) (m : MethodId) (args : Array Value) (below : List Frame) (meth : Method) (c : Code) (Q : State → Prop) (A : Nat → Prop) (dC : Nat → ClassId) (dI : Nat → Nat → Nat) (a : Nat → Nat) (ac : Nat → ClassId) (g : Int32 → (Unit) → Option (Int32 × (Unit))) (r : Int32 × (Unit)) : Prop := ∀ (y0 : Int32) (s0 : Unit) (H : Heap) (locs : List Loc) (ls : Array Slot), g y0 s0 = some r → va_P (dC, dI) vwCl (dw_P a ac s0) H → va_D A (dw_P a ac s0) → va_S A s.heap H locs → lv_has ls 2 [] → W p l e (headSpec ow_dm_X1_growingLetter ({ frames := 0, cells := 0, slots := 0, locals := 0 })).room s m args below meth c H locs 0 0 Q (F0 m 17 ls [.int y0])
def dj_X1_growingLetter_0 (p : Program) (l : Launch) (e : Env) (s : State) (m : MethodId) (args : Array Value) (below : List Frame) (meth : Method) (c : Code) (Q : State → Prop) (A : Nat → Prop) (dC : Nat → ClassId) (dI : Nat → Nat → Nat) (a : Nat → Nat) (ac : Nat → ClassId) (g : Int32 → Int32 → (Unit) → Option (Int32 × (Unit))) (r : Int32 × (Unit)) : Prop := ∀ (v0 : Int32) (v1 : Int32) (s0 : Unit) (H : Heap) (locs : List Loc) (ls : Array Slot), g v0 v1 s0 = some r → va_P (dC, dI) vwCl (dw_P a ac s0) H → va_D A (dw_P a ac s0) → va_S A s.heap H locs → lv_has ls 2 [(0, .int v0), (1, .int v1)] → W p l e (headSpec ow_dm_X1_growingLetter ({ frames := 0, cells := 0, slots := 0, locals := 0 })).room s m args below meth c H locs 0 0 Q (F0 m 0 ls [])
set_option maxHeartbeats 40000000 in
set_option maxRecDepth 100000 in
theorem db_X1_growingLetter_40 {p : Program} {l : Launch} {e : Env} {s : State} {m : MethodId} {args : Array Value} {below : List Frame} {meth : Method} {c : Code} {Q : State → Prop} {A : Nat → Prop} {dC : Nat → ClassId} {dI : Nat → Nat → Nat} {a : Nat → Nat} {ac : Nat → ClassId} {n : Nat} {r : Int32 × (Unit)} (C : nd_C p l s m args c A (dC, dI) cX1_growingLetter 2 RX1 ow_dm_X1_growingLetter (dk_P ac)) (K : nd_Ki p l e (headSpec ow_dm_X1_growingLetter ({ frames := 0, cells := 0, slots := 0, locals := 0 })).room s m args below meth c Q A (dC, dI) cX1_growingLetter .char (Unit) (dw_P a ac) r) : dj_X1_growingLetter_40 p l e s m args below meth c Q A dC dI a ac (df_X1_growingLetter_40 n) r := by
  obtain ⟨hlt, hx, hb, hml, hown, hts, hN, hA, hK⟩ := id C
  intro y0 s0 H locs ls h hP hD hS hl
  unfold df_X1_growingLetter_40 at h
  obtain ⟨n4, h⟩ := nd_z_e ⟨_, rfl⟩ h
  exact K _ _ _ _ _ _ dX1_growingLetter_40 n4 (Option.some.inj h).symm hP hD hS
set_option maxHeartbeats 40000000 in
set_option maxRecDepth 100000 in
theorem db_X1_growingLetter_17 {p : Program} {l : Launch} {e : Env} {s : State} {m : MethodId} {args : Array Value} {below : List Frame} {meth : Method} {c : Code} {Q : State → Prop} {A : Nat → Prop} {dC : Nat → ClassId} {dI : Nat → Nat → Nat} {a : Nat → Nat} {ac : Nat → ClassId} {n : Nat} {r : Int32 × (Unit)} (C : nd_C p l s m args c A (dC, dI) cX1_growingLetter 2 RX1 ow_dm_X1_growingLetter (dk_P ac)) (K : nd_Ki p l e (headSpec ow_dm_X1_growingLetter ({ frames := 0, cells := 0, slots := 0, locals := 0 })).room s m args below meth c Q A (dC, dI) cX1_growingLetter .char (Unit) (dw_P a ac) r) : dj_X1_growingLetter_17 p l e s m args below meth c Q A dC dI a ac (df_X1_growingLetter_17 n) r := by
  obtain ⟨hlt, hx, hb, hml, hown, hts, hN, hA, hK⟩ := id C
  intro y0 s0 H locs ls h hP hD hS hl
  unfold df_X1_growingLetter_17 at h
  obtain ⟨n6, h⟩ := nd_z_e ⟨_, rfl⟩ h
  exact K _ _ _ _ _ _ dX1_growingLetter_17 n6 (Option.some.inj h).symm hP hD hS
set_option maxHeartbeats 40000000 in
set_option maxRecDepth 100000 in
theorem db_X1_growingLetter_0 {p : Program} {l : Launch} {e : Env} {s : State} {m : MethodId} {args : Array Value} {below : List Frame} {meth : Method} {c : Code} {Q : State → Prop} {A : Nat → Prop} {dC : Nat → ClassId} {dI : Nat → Nat → Nat} {a : Nat → Nat} {ac : Nat → ClassId} {n : Nat} {r : Int32 × (Unit)} (C : nd_C p l s m args c A (dC, dI) cX1_growingLetter 2 RX1 ow_dm_X1_growingLetter (dk_P ac)) (K : nd_Ki p l e (headSpec ow_dm_X1_growingLetter ({ frames := 0, cells := 0, slots := 0, locals := 0 })).room s m args below meth c Q A (dC, dI) cX1_growingLetter .char (Unit) (dw_P a ac) r) : dj_X1_growingLetter_0 p l e s m args below meth c Q A dC dI a ac (df_X1_growingLetter_0 n) r := by
  obtain ⟨hlt, hx, hb, hml, hown, hts, hN, hA, hK⟩ := id C
  intro v0 v1 s0 H locs ls h hP hD hS hl
  unfold df_X1_growingLetter_0 at h
  refine lv_iload_n hx hb dX1_growingLetter_0 rfl (lv_at hl 0 rfl) ?_
  refine lv_iconst (v := 1) hx hb dX1_growingLetter_1 (by decide) ?_
  refine lv_icmp_ne (tgt := 18) hx hb dX1_growingLetter_2 (by decide) (fun c1 => ?_) (fun c1 => ?_)
  · have h := nd_neg h c1
    refine lv_iload_n hx hb dX1_growingLetter_18 rfl (lv_at hl 1 rfl) ?_
    refine lv_iconst (v := 2) hx hb dX1_growingLetter_19 (by decide) ?_
    refine lv_icmp_ne (tgt := 28) hx hb dX1_growingLetter_20 (by decide) (fun c2 => ?_) (fun c2 => ?_)
    · have h := nd_neg h c2
      refine lv_iload_n hx hb dX1_growingLetter_28 rfl (lv_at hl 1 rfl) ?_
      refine lv_iconst (v := 4) hx hb dX1_growingLetter_29 (by decide) ?_
      refine lv_icmp_ne (tgt := 38) hx hb dX1_growingLetter_30 (by decide) (fun c3 => ?_) (fun c3 => ?_)
      · have h := nd_neg h c3
        refine lv_bipush (v := 74) hx hb dX1_growingLetter_38 (by decide) ?_
        exact (db_X1_growingLetter_40 C K) (74) s0 _ _ _ h hP hD hS (lv_sub hl [] rfl)
      · have h := nd_pos h c3
        refine lv_bipush (v := 84) hx hb dX1_growingLetter_33 (by decide) ?_
        refine lv_goto (tgt := 40) hx hb dX1_growingLetter_35 (by decide) ?_
        exact (db_X1_growingLetter_40 C K) (84) s0 _ _ _ h hP hD hS (lv_sub hl [] rfl)
    · have h := nd_pos h c2
      refine lv_bipush (v := 76) hx hb dX1_growingLetter_23 (by decide) ?_
      refine lv_goto (tgt := 40) hx hb dX1_growingLetter_25 (by decide) ?_
      exact (db_X1_growingLetter_40 C K) (76) s0 _ _ _ h hP hD hS (lv_sub hl [] rfl)
  · have h := nd_pos h c1
    refine lv_iload_n hx hb dX1_growingLetter_5 rfl (lv_at hl 1 rfl) ?_
    refine lv_iconst (v := 2) hx hb dX1_growingLetter_6 (by decide) ?_
    refine lv_icmp_ne (tgt := 15) hx hb dX1_growingLetter_7 (by decide) (fun c5 => ?_) (fun c5 => ?_)
    · have h := nd_neg h c5
      refine lv_bipush (v := 74) hx hb dX1_growingLetter_15 (by decide) ?_
      exact (db_X1_growingLetter_17 C K) (74) s0 _ _ _ h hP hD hS (lv_sub hl [] rfl)
    · have h := nd_pos h c5
      refine lv_bipush (v := 75) hx hb dX1_growingLetter_10 (by decide) ?_
      refine lv_goto (tgt := 17) hx hb dX1_growingLetter_12 (by decide) ?_
      exact (db_X1_growingLetter_17 C K) (75) s0 _ _ _ h hP hD hS (lv_sub hl [] rfl)
set_option maxHeartbeats 40000000 in
set_option maxRecDepth 100000 in
theorem dm_X1_growingLetter (l : Launch) (hlt : l.stackTraces = false) (dC : Nat → ClassId) (dI : Nat → Nat → Nat) (a : Nat → Nat) (ac : Nat → ClassId) (n : Nat) (v0 : Int32) (v1 : Int32) (s0 : Unit) {r : Int32 × (Unit)} (h : df_X1_growingLetter n v0 v1 s0 = some r) (sz : Nat) : Met l yX1_growingLetter ow_dm_X1_growingLetter ({ frames := 0, cells := 0, slots := 0, locals := 0 }) (va_Pc [.int v0, .int v1] (fun U => U.heap.size = sz ∧ va_P (dC, dI) vwCl (dw_P a ac s0) U.heap ∧ va_K (dC, dI) vwCl (dk_P ac) U ∧ va_D (fun _ => True) (dw_P a ac s0) ∧ nv_E (va_A (dw_P a ac s0) sz) U)) (va_Qi (fun x _ => x = r.1) (fun (_ : Unit) t => va_P (dC, dI) vwCl (dw_P a ac r.2) t.heap ∧ va_K (dC, dI) vwCl (dk_P ac) t ∧ va_D (va_A (dw_P a ac s0) sz) (dw_P a ac r.2)) (va_A (dw_P a ac s0) sz)) 0 0 (va_A (dw_P a ac s0) sz) := by
  refine Met.ofW (cc := cX1_growingLetter) (maxL := 2) (ret := (some .char)) (by decide) rfl ?_
  intro p e s m args below meth c s₁ B hml hv
  obtain ⟨rfl, hsz, hP, hK, hD0, hN⟩ := hv
  have hx := B.exec
  have hb := B.bytes
  have hr := B.returns
  have hts := atoms_spec (ws := ow_dm_X1_growingLetter) B.pre
  have hown : s.vm.findClass RX1 = some m.cls := findClass_of_methodNamed B.named
  have hlocks := B.notSynchronized
  subst hsz
  have hD := hD0.self (sz := s.heap.size)
  generalize hAe : va_A (dw_P a ac s0) s.heap.size = A at hD hN ⊢
  have hA : ∀ q : Nat, s.heap.size ≤ q → A q := fun q h => by rw [← hAe]; exact Or.inr h
  have hl := lv_entry ([.int v0, .int v1]) (n := 2) (Nat.le_of_ble_eq_true rfl)
  rw [lg_entry_eq]
  generalize (lg_sl ([.int v0, .int v1]) ++ List.replicate (2 - (lg_sl ([.int v0, .int v1])).length) Slot.unset).toArray = ls at hl ⊢
  have hl : lv_has ls 2 [(0, .int v0), (1, .int v1)] := hl
  exact db_X1_growingLetter_0 (dC := dC) (dI := dI) (a := a) (ac := ac) (n := n) (r := r) ⟨hlt, hx, hb, hml, hown, hts, hN, hA, hK⟩ (fun pc v τ H locs ls d z er hP hD hS => by subst er; exact W.zret (v := v) hx hb hr z (fun t ht hW => ⟨⟨v, (), rfl, rfl, by rw [ht]; exact hP, va_K.moved hW.alike hK, hD⟩, hS.F ht⟩) hS.2.2 d) v0 v1 s0 _ _ _ h hP hD va_S.rf (lv_sub hl [0, 1] rfl)
def ow_dm_X1_grow : List Cond := .code yX1_grow cX1_grow 7 (some .boolean) :: ([.fieldLink RX1 65 "TimeMachine$Assembler" "statements" "I", .fieldLink RX1 19 "TimeMachine$Assembler" "statement" "[I", .fieldLink RX1 12 "TimeMachine$Assembler" "reader" "LTimeMachine$Reader;", .methodLink RX1 220 yX9_evaluate, .instanceMethod yX9_evaluate, .selects RX9 yX9_evaluate yX9_evaluate, .initialized RX9, .fieldLink RX1 223 "TimeMachine$Reader" "trouble" "I", .methodLink RX1 296 yX1_growingLetter, .static yX1_growingLetter, .initialized RX1, .methodLink RX1 257 yX7_fits, .static yX7_fits, .initialized RX7] ++ (u_ws RX1 TX1 13 ++ (u_ws RX9 TX9 20 ++ (ow_dm_X9_evaluate ++ (ow_dm_X1_growingLetter ++ (ow_dm_X7_fits ++ []))))))
theorem gd_dm_X1_grow : ∀ w ∈ ow_dm_X1_grow, (w.onTables && w.keeps) = true ∨ ∃ ty, w = Cond.arrayClass ty := List.forall_mem_cons.mpr ⟨good_of_word rfl, List.forall_mem_append.mpr ⟨fun w h => good_of_word (List.all_eq_true.mp (by decide +kernel) w h), List.forall_mem_append.mpr ⟨gu_X1, List.forall_mem_append.mpr ⟨gu_X9, List.forall_mem_append.mpr ⟨gd_dm_X9_evaluate, List.forall_mem_append.mpr ⟨gd_dm_X1_growingLetter, List.forall_mem_append.mpr ⟨gd_dm_X7_fits, fun _ h => nomatch h⟩⟩⟩⟩⟩⟩⟩
theorem hi_dm_X1_grow_X1 : ∀ w ∈ u_ws RX1 TX1 13, w ∈ ow_dm_X1_grow := fun w h => List.mem_cons_of_mem _ (List.mem_append_right _ (List.mem_append_left _ h))
theorem hi_dm_X1_grow_X9 : ∀ w ∈ u_ws RX9 TX9 20, w ∈ ow_dm_X1_grow := fun w h => List.mem_cons_of_mem _ (List.mem_append_right _ (List.mem_append_right _ (List.mem_append_left _ h)))
theorem gi_dm_X1_grow_0 : GoodIn ow_dm_X1_grow (wsV RX1 220 RX9 yX9_evaluate ow_dm_X9_evaluate) := goodIn_app (goodIn_of _ (by decide +kernel)) (fun w h => ⟨List.mem_cons_of_mem _ (List.mem_append_right _ (List.mem_append_right _ (List.mem_append_right _ (List.mem_append_left _ h)))), gd_dm_X9_evaluate w h⟩)
theorem gi_dm_X1_grow_1 : GoodIn ow_dm_X1_grow (wsS RX1 296 yX1_growingLetter ow_dm_X1_growingLetter) := goodIn_app (goodIn_of _ (by decide +kernel)) (fun w h => ⟨List.mem_cons_of_mem _ (List.mem_append_right _ (List.mem_append_right _ (List.mem_append_right _ (List.mem_append_right _ (List.mem_append_left _ h))))), gd_dm_X1_growingLetter w h⟩)
theorem gi_dm_X1_grow_2 : GoodIn ow_dm_X1_grow (va_wsS RX1 257 yX7_fits ow_dm_X7_fits) := goodIn_app (goodIn_of _ (by decide +kernel)) (fun w h => ⟨List.mem_cons_of_mem _ (List.mem_append_right _ (List.mem_append_right _ (List.mem_append_right _ (List.mem_append_right _ (List.mem_append_right _ (List.mem_append_left _ h)))))), gd_dm_X7_fits w h⟩)
def dj_X1_grow_136 (p : Program) (l : Launch) (e : Env) (s : State) (m : MethodId) (args : Array Value) (below : List Frame) (meth : Method) (c : Code) (Q : State → Prop) (A : Nat → Prop) (dC : Nat → ClassId) (dI : Nat → Nat → Nat) (a : Nat → Nat) (ac : Nat → ClassId) (g : Int32 → Int32 → (St × (St)) → Option (Int32 × (St × (St)))) (r : Int32 × (St × (St))) : Prop := ∀ (x1 : Int32) (x2 : Int32) (s0 : St × (St)) (H : Heap) (locs : List Loc) (ls : Array Slot), g x1 x2 s0 = some r → va_P (dC, dI) vwCl (dw_X1 a ac s0) H → va_D A (dw_X1 a ac s0) → va_S A s.heap H locs → lv_has ls 7 [(0, .ref (a 0)), (1, .int x1), (2, .int x2)] → W p l e (headSpec ow_dm_X1_grow ({ frames := 3, cells := 0, slots := 0, locals := 64 })).room s m args below meth c H locs 0 0 Q (F0 m 136 ls [])
def dj_X1_grow_62 (p : Program) (l : Launch) (e : Env) (s : State) (m : MethodId) (args : Array Value) (below : List Frame) (meth : Method) (c : Code) (Q : State → Prop) (A : Nat → Prop) (dC : Nat → ClassId) (dI : Nat → Nat → Nat) (a : Nat → Nat) (ac : Nat → ClassId) (g : Int32 → Int32 → Int32 → Int32 → Int32 → (St × (St)) → Option (Int32 × (St × (St)))) (r : Int32 × (St × (St))) : Prop := ∀ (x1 : Int32) (x2 : Int32) (x3 : Int32) (x4 : Int32) (x5 : Int32) (s0 : St × (St)) (H : Heap) (locs : List Loc) (ls : Array Slot), g x1 x2 x3 x4 x5 s0 = some r → va_P (dC, dI) vwCl (dw_X1 a ac s0) H → va_D A (dw_X1 a ac s0) → va_S A s.heap H locs → lv_has ls 7 [(0, .ref (a 0)), (1, .int x1), (2, .int x2), (3, .int x3), (4, .int x4), (5, .int x5)] → W p l e (headSpec ow_dm_X1_grow ({ frames := 3, cells := 0, slots := 0, locals := 64 })).room s m args below meth c H locs 0 0 Q (F0 m 62 ls [])
def dj_X1_grow_49 (p : Program) (l : Launch) (e : Env) (s : State) (m : MethodId) (args : Array Value) (below : List Frame) (meth : Method) (c : Code) (Q : State → Prop) (A : Nat → Prop) (dC : Nat → ClassId) (dI : Nat → Nat → Nat) (a : Nat → Nat) (ac : Nat → ClassId) (g : Int32 → Int32 → Int32 → Int32 → Int32 → (St × (St)) → Option (Int32 × (St × (St)))) (r : Int32 × (St × (St))) : Prop := ∀ (x1 : Int32) (x2 : Int32) (x3 : Int32) (x4 : Int32) (x5 : Int32) (s0 : St × (St)) (H : Heap) (locs : List Loc) (ls : Array Slot), g x1 x2 x3 x4 x5 s0 = some r → va_P (dC, dI) vwCl (dw_X1 a ac s0) H → va_D A (dw_X1 a ac s0) → va_S A s.heap H locs → lv_has ls 7 [(0, .ref (a 0)), (1, .int x1), (2, .int x2), (3, .int x3), (4, .int x4), (5, .int x5)] → W p l e (headSpec ow_dm_X1_grow ({ frames := 3, cells := 0, slots := 0, locals := 64 })).room s m args below meth c H locs 0 0 Q (F0 m 49 ls [])
def dj_X1_grow_4 (p : Program) (l : Launch) (e : Env) (s : State) (m : MethodId) (args : Array Value) (below : List Frame) (meth : Method) (c : Code) (Q : State → Prop) (A : Nat → Prop) (dC : Nat → ClassId) (dI : Nat → Nat → Nat) (a : Nat → Nat) (ac : Nat → ClassId) (g : Int32 → Int32 → (St × (St)) → Option (Int32 × (St × (St)))) (r : Int32 × (St × (St))) : Prop := ∀ (x1 : Int32) (x2 : Int32) (s0 : St × (St)) (H : Heap) (locs : List Loc) (ls : Array Slot), g x1 x2 s0 = some r → va_P (dC, dI) vwCl (dw_X1 a ac s0) H → va_D A (dw_X1 a ac s0) → va_S A s.heap H locs → lv_has ls 7 [(0, .ref (a 0)), (1, .int x1), (2, .int x2)] → W p l e (headSpec ow_dm_X1_grow ({ frames := 3, cells := 0, slots := 0, locals := 64 })).room s m args below meth c H locs 0 0 Q (F0 m 4 ls [])
def dj_X1_grow_0 (p : Program) (l : Launch) (e : Env) (s : State) (m : MethodId) (args : Array Value) (below : List Frame) (meth : Method) (c : Code) (Q : State → Prop) (A : Nat → Prop) (dC : Nat → ClassId) (dI : Nat → Nat → Nat) (a : Nat → Nat) (ac : Nat → ClassId) (g : (St × (St)) → Option (Int32 × (St × (St)))) (r : Int32 × (St × (St))) : Prop := ∀ (s0 : St × (St)) (H : Heap) (locs : List Loc) (ls : Array Slot), g s0 = some r → va_P (dC, dI) vwCl (dw_X1 a ac s0) H → va_D A (dw_X1 a ac s0) → va_S A s.heap H locs → lv_has ls 7 [(0, .ref (a 0))] → W p l e (headSpec ow_dm_X1_grow ({ frames := 3, cells := 0, slots := 0, locals := 64 })).room s m args below meth c H locs 0 0 Q (F0 m 0 ls [])
set_option maxHeartbeats 40000000 in
set_option maxRecDepth 100000 in
theorem db_X1_grow_136 {p : Program} {l : Launch} {e : Env} {s : State} {m : MethodId} {args : Array Value} {below : List Frame} {meth : Method} {c : Code} {Q : State → Prop} {A : Nat → Prop} {dC : Nat → ClassId} {dI : Nat → Nat → Nat} {a : Nat → Nat} {ac : Nat → ClassId} {n : Nat} {r : Int32 × (St × (St))} (C : nd_C p l s m args c A (dC, dI) cX1_grow 7 RX1 ow_dm_X1_grow (dk_X1 ac)) (K : nd_Ki p l e (headSpec ow_dm_X1_grow ({ frames := 3, cells := 0, slots := 0, locals := 64 })).room s m args below meth c Q A (dC, dI) cX1_grow .boolean (St × (St)) (dw_X1 a ac) r) {g4 : Int32 → Int32 → (St × (St)) → Option (Int32 × (St × (St)))} (J4 : dj_X1_grow_4 p l e s m args below meth c Q A dC dI a ac g4 r) : dj_X1_grow_136 p l e s m args below meth c Q A dC dI a ac (df_X1_grow_136 n g4) r := by
  obtain ⟨hlt, hx, hb, hml, hown, hts, hN, hA, hK⟩ := id C
  intro x1 x2 s0 H locs ls h hP hD hS hl
  unfold df_X1_grow_136 at h
  obtain ⟨z10, ez10, h⟩ := nd_let_e h
  refine lv_iinc (v := z10) (lv' := [(2, .int z10), (0, .ref (a 0)), (1, .int x1)]) hx hb dX1_grow_136 hl (k := 2) rfl (by rw [ez10]) (by decide) rfl (fun ls hl => ?_)
  refine lv_goto (tgt := 4) hx hb dX1_grow_139 (by decide) ?_
  exact (J4) (x1) (z10) s0 _ _ _ h hP hD hS (lv_sub hl [1, 2, 0] rfl)
set_option maxHeartbeats 40000000 in
set_option maxRecDepth 100000 in
theorem db_X1_grow_62 {p : Program} {l : Launch} {e : Env} {s : State} {m : MethodId} {args : Array Value} {below : List Frame} {meth : Method} {c : Code} {Q : State → Prop} {A : Nat → Prop} {dC : Nat → ClassId} {dI : Nat → Nat → Nat} {a : Nat → Nat} {ac : Nat → ClassId} {n : Nat} {r : Int32 × (St × (St))} (C : nd_C p l s m args c A (dC, dI) cX1_grow 7 RX1 ow_dm_X1_grow (dk_X1 ac)) (K : nd_Ki p l e (headSpec ow_dm_X1_grow ({ frames := 3, cells := 0, slots := 0, locals := 64 })).room s m args below meth c Q A (dC, dI) cX1_grow .boolean (St × (St)) (dw_X1 a ac) r) {g4 : Int32 → Int32 → (St × (St)) → Option (Int32 × (St × (St)))} (J4 : dj_X1_grow_4 p l e s m args below meth c Q A dC dI a ac g4 r) : dj_X1_grow_62 p l e s m args below meth c Q A dC dI a ac (df_X1_grow_62 n g4) r := by
  obtain ⟨hlt, hx, hb, hml, hown, hts, hN, hA, hK⟩ := id C
  intro x1 x2 x3 x4 x5 s0 H locs ls h hP hD hS hl
  unfold df_X1_grow_62 at h
  refine lv_aload_n hx hb dX1_grow_62 rfl (lv_at hl 0 rfl) ?_
  refine va_get (D := (dC, dI)) (ci := 2) (v := .ref (a 3)) (C := RX1) (T := TX1) (N := 13) hx hb hts hi_dm_X1_grow_X1 hown hK hP 0 rfl rfl 0 (by decide) (hts (.fieldLink RX1 12 "TimeMachine$Assembler" "reader" "LTimeMachine$Reader;") (List.mem_of_getElem? (i := 3) rfl)) (fun _ h9 => h9) rfl dX1_grow_63 ?_
  refine lv_aload_n hx hb dX1_grow_66 rfl (lv_at hl 0 rfl) ?_
  refine va_get (D := (dC, dI)) (ci := 2) (v := .ref (a 1)) (C := RX1) (T := TX1) (N := 13) hx hb hts hi_dm_X1_grow_X1 hown hK hP 0 rfl rfl 1 (by decide) (hts (.fieldLink RX1 19 "TimeMachine$Assembler" "statement" "[I") (List.mem_of_getElem? (i := 2) rfl)) (fun _ h9 => h9) rfl dX1_grow_67 ?_
  refine lv_iload_n hx hb dX1_grow_70 rfl (lv_at hl 3 rfl) ?_
  refine lv_bipush (v := 6) hx hb dX1_grow_71 (by decide) ?_
  refine lv_iadd hx hb dX1_grow_73 ?_
  obtain ⟨i12, h⟩ := nd_ck_e h
  refine va_iald (i := (x3 + 6)) hx hb hK hP 1 0 rfl rfl i12 dX1_grow_74 ?_
  refine lv_aload_n hx hb dX1_grow_75 rfl (lv_at hl 0 rfl) ?_
  refine va_get (D := (dC, dI)) (ci := 2) (v := .ref (a 1)) (C := RX1) (T := TX1) (N := 13) hx hb hts hi_dm_X1_grow_X1 hown hK hP 0 rfl rfl 1 (by decide) (hts (.fieldLink RX1 19 "TimeMachine$Assembler" "statement" "[I") (List.mem_of_getElem? (i := 2) rfl)) (fun _ h9 => h9) rfl dX1_grow_76 ?_
  refine lv_iload_n hx hb dX1_grow_79 rfl (lv_at hl 3 rfl) ?_
  refine lv_iconst (v := 2) hx hb dX1_grow_80 (by decide) ?_
  refine lv_iadd hx hb dX1_grow_81 ?_
  obtain ⟨i13, h⟩ := nd_ck_e h
  refine va_iald (i := (x3 + 2)) hx hb hK hP 1 0 rfl rfl i13 dX1_grow_82 ?_
  obtain ⟨q14, s15, hq, h⟩ := nd_b2_e h
  have hPc := dp_X1_3 hP
  have hDc := dd_X1_3 hD
  have hKc := dy_X1_3 hK
  have hFc := nd_rs hDc hS hA
  have hzA : ∀ q : Nat, H.size ≤ q → A q := fun q h => hA q (Nat.le_trans hS.1 h)
  refine nd_cVi (As := [.int (sR s0.1 0 (Int32.toNatClampNeg (x3 + 6))), .int (sR s0.1 0 (Int32.toNatClampNeg (x3 + 2)))]) (rest := []) (q := q14) (w' := dw_X9 (fun k => a (k + 3)) (fun k => ac (k + 3)) s15) ⟨hx, hb, hml, hown, hts⟩ (fun sz => dm_X9_evaluate l hlt dC dI (fun k => a (k + 3)) (fun k => ac (k + 3)) n ((sR s0.1 0 (Int32.toNatClampNeg (x3 + 6)))) ((sR s0.1 0 (Int32.toNatClampNeg (x3 + 2)))) s0.2 hq sz) (cwV 2 hts gi_dm_X1_grow_0 rfl rfl rfl (by decide +kernel) ⟨Nat.le_of_ble_eq_true rfl, Nat.le_of_ble_eq_true rfl⟩) hPc hDc hKc hS hA hN (va_recv hKc hPc (ci := 10) (q0 := 0) rfl rfl) rfl hl.1 rfl (Nat.le_of_ble_eq_true rfl) dX1_grow_83 (fun H locs hP1 hD1 hk1 hS => ?_)
  obtain ⟨hP, hD⟩ := dn_X1_3 hP hD hzA hk1 hP1 hD1
  obtain ⟨s17, es17, h⟩ := nd_let_e h
  have hP : va_P (dC, dI) vwCl (dw_X1 a ac s17) H := by rw [es17]; exact hP
  have hD : va_D A (dw_X1 a ac s17) := by rw [es17]; exact hD
  refine lv_aload_n hx hb dX1_grow_86 rfl (lv_at hl 0 rfl) ?_
  refine va_get (D := (dC, dI)) (ci := 2) (v := .ref (a 1)) (C := RX1) (T := TX1) (N := 13) hx hb hts hi_dm_X1_grow_X1 hown hK hP 0 rfl rfl 1 (by decide) (hts (.fieldLink RX1 19 "TimeMachine$Assembler" "statement" "[I") (List.mem_of_getElem? (i := 2) rfl)) (fun _ h9 => h9) rfl dX1_grow_87 ?_
  refine lv_iload_n hx hb dX1_grow_90 rfl (lv_at hl 3 rfl) ?_
  refine lv_iconst (v := 2) hx hb dX1_grow_91 (by decide) ?_
  refine lv_iadd hx hb dX1_grow_92 ?_
  obtain ⟨i18, h⟩ := nd_ck_e h
  refine va_iald (i := (x3 + 2)) hx hb hK hP 1 0 rfl rfl i18 dX1_grow_93 ?_
  refine lv_isub hx hb dX1_grow_94 ?_
  refine lv_topi (fun z19 ez19 => ?_)
  have h := nd_at h ez19
  refine lv_istore (lv' := [(6, .int z19), (0, .ref (a 0)), (1, .int x1), (2, .int x2), (3, .int x3), (4, .int x4), (5, .int x5)]) hx hb dX1_grow_95 hl (by decide) rfl (fun ls hl => ?_)
  refine lv_aload_n hx hb dX1_grow_97 rfl (lv_at hl 1 rfl) ?_
  refine va_get (D := (dC, dI)) (ci := 2) (v := .ref (a 3)) (C := RX1) (T := TX1) (N := 13) hx hb hts hi_dm_X1_grow_X1 hown hK hP 0 rfl rfl 0 (by decide) (hts (.fieldLink RX1 12 "TimeMachine$Assembler" "reader" "LTimeMachine$Reader;") (List.mem_of_getElem? (i := 3) rfl)) (fun _ h9 => h9) rfl dX1_grow_98 ?_
  refine va_get (D := (dC, dI)) (ci := 10) (v := .int (sI s17.2 11)) (C := RX9) (T := TX9) (N := 20) hx hb hts hi_dm_X1_grow_X9 hown hK hP 3 rfl rfl 19 (by decide) (hts (.fieldLink RX1 223 "TimeMachine$Reader" "trouble" "I") (List.mem_of_getElem? (i := 8) rfl)) (fun _ h9 => h9) rfl dX1_grow_101 ?_
  refine lv_if_ne (tgt := 136) hx hb dX1_grow_104 (by decide) (fun c20 => ?_) (fun c20 => ?_)
  · have h := nd_neg h c20
    exact (db_X1_grow_136 C K J4) (x1) (x2) s17 _ _ _ h hP hD hS (lv_sub hl [1, 2, 3] rfl)
  · have h := nd_pos h c20
    refine lv_iload hx hb dX1_grow_107 (lv_at hl 5 rfl) ?_
    refine lv_iload hx hb dX1_grow_109 (lv_at hl 6 rfl) ?_
    obtain ⟨q21, s22, hq, h⟩ := nd_b2_e h
    have hPc : va_P (dC, dI) vwCl (dw_P a ac ()) H := nd_p0
    have hDc : va_D A (dw_P a ac ()) := nd_d0
    have hKc : va_K (dC, dI) vwCl (dk_P ac) s := nd_y0 hK
    have hFc : ∀ q, va_A (dw_P a ac ()) H.size q → A q := nd_r0 hS hA
    refine nd_cSi (As := [.int x4, .int x5]) (rest := []) (q := q21) (w' := dw_P a ac s22) ⟨hx, hb, hml, hown, hts⟩ (fun sz => dm_X1_growingLetter l hlt dC dI a ac n (x4) (x5) () hq sz) (cwS 2 hts gi_dm_X1_grow_1 rfl rfl rfl (by decide +kernel) ⟨Nat.le_of_ble_eq_true rfl, Nat.le_of_ble_eq_true rfl⟩) hPc hDc hKc hS hA hN rfl hl.1 rfl (Nat.le_of_ble_eq_true rfl) dX1_grow_111 (fun H locs hP1 hD1 hk1 hS => ?_)
    have hP := nd_n0 hP hk1
    refine lv_iload hx hb dX1_grow_114 (lv_at hl 0 rfl) ?_
    obtain ⟨q24, s25, hq, h⟩ := nd_b2_e h
    have hPc : va_P (dC, dI) vwCl (dw_P a ac ()) H := nd_p0
    have hDc : va_D A (dw_P a ac ()) := nd_d0
    have hKc : va_K (dC, dI) vwCl (dk_P ac) s := nd_y0 hK
    have hFc : ∀ q, va_A (dw_P a ac ()) H.size q → A q := nd_r0 hS hA
    refine nd_cSi (As := [.int q21, .int z19]) (rest := []) (q := q24) (w' := dw_P a ac s25) ⟨hx, hb, hml, hown, hts⟩ (fun sz => dm_X7_fits l hlt dC dI a ac n (q21) (z19) () hq sz) (va_cwS 2 hts gi_dm_X1_grow_2 rfl rfl rfl (by decide +kernel) ⟨Nat.le_of_ble_eq_true rfl, Nat.le_of_ble_eq_true rfl⟩) hPc hDc hKc hS hA hN rfl hl.1 rfl (Nat.le_of_ble_eq_true rfl) dX1_grow_116 (fun H locs hP1 hD1 hk1 hS => ?_)
    have hP := nd_n0 hP hk1
    refine lv_if_ne (tgt := 136) hx hb dX1_grow_119 (by decide) (fun c27 => ?_) (fun c27 => ?_)
    · have h := nd_neg h c27
      exact (db_X1_grow_136 C K J4) (x1) (x2) s17 _ _ _ h hP hD hS (lv_sub hl [1, 2, 3] rfl)
    · have h := nd_pos h c27
      refine lv_aload_n hx hb dX1_grow_122 rfl (lv_at hl 1 rfl) ?_
      refine va_get (D := (dC, dI)) (ci := 2) (v := .ref (a 1)) (C := RX1) (T := TX1) (N := 13) hx hb hts hi_dm_X1_grow_X1 hown hK hP 0 rfl rfl 1 (by decide) (hts (.fieldLink RX1 19 "TimeMachine$Assembler" "statement" "[I") (List.mem_of_getElem? (i := 2) rfl)) (fun _ h9 => h9) rfl dX1_grow_123 ?_
      refine lv_iload_n hx hb dX1_grow_126 rfl (lv_at hl 4 rfl) ?_
      refine lv_iconst (v := 3) hx hb dX1_grow_127 (by decide) ?_
      refine lv_iadd hx hb dX1_grow_128 ?_
      refine lv_iload hx hb dX1_grow_129 (lv_at hl 6 rfl) ?_
      refine lv_iconst (v := 2) hx hb dX1_grow_131 (by decide) ?_
      refine lv_imul hx hb dX1_grow_132 ?_
      obtain ⟨i28, h⟩ := nd_ck_e h
      refine va_iast (i := (x3 + 3)) (x := (x5 * 2)) hx hb hK hP hD hS 1 0 rfl rfl i28 dX1_grow_133 (fun H locs hP hD hS => ?_)
      obtain ⟨s29, es29, h⟩ := nd_let_e h
      have hP : va_P (dC, dI) vwCl (dw_X1 a ac s29) H := by rw [es29]; exact hP
      have hD : va_D A (dw_X1 a ac s29) := by rw [es29]; exact hD
      refine lv_iconst (v := 1) hx hb dX1_grow_134 (by decide) ?_
      refine lv_istore_n (lv' := [(1, .int 1), (6, .int z19), (0, .ref (a 0)), (2, .int x2), (3, .int x3), (4, .int x4), (5, .int x5)]) hx hb dX1_grow_135 rfl hl (by decide) rfl (fun ls hl => ?_)
      exact (db_X1_grow_136 C K J4) (1) (x2) s29 _ _ _ h hP hD hS (lv_sub hl [2, 0, 3] rfl)
set_option maxHeartbeats 40000000 in
set_option maxRecDepth 100000 in
theorem db_X1_grow_49 {p : Program} {l : Launch} {e : Env} {s : State} {m : MethodId} {args : Array Value} {below : List Frame} {meth : Method} {c : Code} {Q : State → Prop} {A : Nat → Prop} {dC : Nat → ClassId} {dI : Nat → Nat → Nat} {a : Nat → Nat} {ac : Nat → ClassId} {n : Nat} {r : Int32 × (St × (St))} (C : nd_C p l s m args c A (dC, dI) cX1_grow 7 RX1 ow_dm_X1_grow (dk_X1 ac)) (K : nd_Ki p l e (headSpec ow_dm_X1_grow ({ frames := 3, cells := 0, slots := 0, locals := 64 })).room s m args below meth c Q A (dC, dI) cX1_grow .boolean (St × (St)) (dw_X1 a ac) r) {g4 : Int32 → Int32 → (St × (St)) → Option (Int32 × (St × (St)))} (J4 : dj_X1_grow_4 p l e s m args below meth c Q A dC dI a ac g4 r) : dj_X1_grow_49 p l e s m args below meth c Q A dC dI a ac (df_X1_grow_49 n g4) r := by
  obtain ⟨hlt, hx, hb, hml, hown, hts, hN, hA, hK⟩ := id C
  intro x1 x2 x3 x4 x5 s0 H locs ls h hP hD hS hl
  unfold df_X1_grow_49 at h
  refine lv_iload hx hb dX1_grow_49 (lv_at hl 4 rfl) ?_
  refine lv_iconst (v := 2) hx hb dX1_grow_51 (by decide) ?_
  refine lv_icmp_ne (tgt := 136) hx hb dX1_grow_52 (by decide) (fun c9 => ?_) (fun c9 => ?_)
  · have h := nd_neg h c9
    exact (db_X1_grow_136 C K J4) (x1) (x2) s0 _ _ _ h hP hD hS (lv_sub hl [0, 1, 2] rfl)
  · have h := nd_pos h c9
    refine lv_iload hx hb dX1_grow_55 (lv_at hl 5 rfl) ?_
    refine lv_bipush (v := 8) hx hb dX1_grow_57 (by decide) ?_
    refine lv_icmp_ge (tgt := 136) hx hb dX1_grow_59 (by decide) (fun c11 => ?_) (fun c11 => ?_)
    · have h := nd_pos h c11
      exact (db_X1_grow_136 C K J4) (x1) (x2) s0 _ _ _ h hP hD hS (lv_sub hl [0, 1, 2] rfl)
    · have h := nd_neg h c11
      exact (db_X1_grow_62 C K J4) (x1) (x2) (x3) (x4) (x5) s0 _ _ _ h hP hD hS (lv_sub hl [0, 1, 2, 3, 4, 5] rfl)
set_option maxHeartbeats 40000000 in
set_option maxRecDepth 100000 in
theorem dB_X1_grow_4 {p : Program} {l : Launch} {e : Env} {s : State} {m : MethodId} {args : Array Value} {below : List Frame} {meth : Method} {c : Code} {Q : State → Prop} {A : Nat → Prop} {dC : Nat → ClassId} {dI : Nat → Nat → Nat} {a : Nat → Nat} {ac : Nat → ClassId} {n : Nat} {r : Int32 × (St × (St))} (C : nd_C p l s m args c A (dC, dI) cX1_grow 7 RX1 ow_dm_X1_grow (dk_X1 ac)) (K : nd_Ki p l e (headSpec ow_dm_X1_grow ({ frames := 3, cells := 0, slots := 0, locals := 64 })).room s m args below meth c Q A (dC, dI) cX1_grow .boolean (St × (St)) (dw_X1 a ac) r) {g4 : Int32 → Int32 → (St × (St)) → Option (Int32 × (St × (St)))} (J4 : dj_X1_grow_4 p l e s m args below meth c Q A dC dI a ac g4 r) : dj_X1_grow_4 p l e s m args below meth c Q A dC dI a ac (dF_X1_grow_4 n g4) r := by
  obtain ⟨hlt, hx, hb, hml, hown, hts, hN, hA, hK⟩ := id C
  intro x1 x2 s0 H locs ls h hP hD hS hl
  unfold dF_X1_grow_4 at h
  refine lv_iload_n hx hb dX1_grow_4 rfl (lv_at hl 2 rfl) ?_
  refine lv_aload_n hx hb dX1_grow_5 rfl (lv_at hl 0 rfl) ?_
  refine va_get (D := (dC, dI)) (ci := 2) (v := .int (sI s0.1 0)) (C := RX1) (T := TX1) (N := 13) hx hb hts hi_dm_X1_grow_X1 hown hK hP 0 rfl rfl 2 (by decide) (hts (.fieldLink RX1 65 "TimeMachine$Assembler" "statements" "I") (List.mem_of_getElem? (i := 1) rfl)) (fun _ h9 => h9) rfl dX1_grow_6 ?_
  refine lv_icmp_ge (tgt := 142) hx hb dX1_grow_9 (by decide) (fun c1 => ?_) (fun c1 => ?_)
  · have h := nd_pos h c1
    refine lv_iload_n hx hb dX1_grow_142 rfl (lv_at hl 1 rfl) ?_
    obtain ⟨n2, h⟩ := nd_z_e ⟨_, rfl⟩ h
    exact K _ _ _ _ _ _ dX1_grow_143 n2 (Option.some.inj h).symm hP hD hS
  · have h := nd_neg h c1
    refine lv_iload_n hx hb dX1_grow_12 rfl (lv_at hl 2 rfl) ?_
    refine lv_bipush (v := 8) hx hb dX1_grow_13 (by decide) ?_
    refine lv_imul hx hb dX1_grow_15 ?_
    refine lv_topi (fun z3 ez3 => ?_)
    have h := nd_at h ez3
    refine lv_istore_n (lv' := [(3, .int z3), (0, .ref (a 0)), (1, .int x1), (2, .int x2)]) hx hb dX1_grow_16 rfl hl (by decide) rfl (fun ls hl => ?_)
    refine lv_aload_n hx hb dX1_grow_17 rfl (lv_at hl 1 rfl) ?_
    refine va_get (D := (dC, dI)) (ci := 2) (v := .ref (a 1)) (C := RX1) (T := TX1) (N := 13) hx hb hts hi_dm_X1_grow_X1 hown hK hP 0 rfl rfl 1 (by decide) (hts (.fieldLink RX1 19 "TimeMachine$Assembler" "statement" "[I") (List.mem_of_getElem? (i := 2) rfl)) (fun _ h9 => h9) rfl dX1_grow_18 ?_
    refine lv_iload_n hx hb dX1_grow_21 rfl (lv_at hl 0 rfl) ?_
    refine lv_iconst (v := 4) hx hb dX1_grow_22 (by decide) ?_
    refine lv_iadd hx hb dX1_grow_23 ?_
    obtain ⟨i4, h⟩ := nd_ck_e h
    refine va_iald (i := (z3 + 4)) hx hb hK hP 1 0 rfl rfl i4 dX1_grow_24 ?_
    refine lv_topi (fun z5 ez5 => ?_)
    have h := nd_at h ez5
    refine lv_istore (lv' := [(4, .int z5), (3, .int z3), (0, .ref (a 0)), (1, .int x1), (2, .int x2)]) hx hb dX1_grow_25 hl (by decide) rfl (fun ls hl => ?_)
    refine lv_aload_n hx hb dX1_grow_27 rfl (lv_at hl 2 rfl) ?_
    refine va_get (D := (dC, dI)) (ci := 2) (v := .ref (a 1)) (C := RX1) (T := TX1) (N := 13) hx hb hts hi_dm_X1_grow_X1 hown hK hP 0 rfl rfl 1 (by decide) (hts (.fieldLink RX1 19 "TimeMachine$Assembler" "statement" "[I") (List.mem_of_getElem? (i := 2) rfl)) (fun _ h9 => h9) rfl dX1_grow_28 ?_
    refine lv_iload_n hx hb dX1_grow_31 rfl (lv_at hl 1 rfl) ?_
    refine lv_iconst (v := 3) hx hb dX1_grow_32 (by decide) ?_
    refine lv_iadd hx hb dX1_grow_33 ?_
    obtain ⟨i6, h⟩ := nd_ck_e h
    refine va_iald (i := (z3 + 3)) hx hb hK hP 1 0 rfl rfl i6 dX1_grow_34 ?_
    refine lv_topi (fun z7 ez7 => ?_)
    have h := nd_at h ez7
    refine lv_istore (lv' := [(5, .int z7), (4, .int z5), (3, .int z3), (0, .ref (a 0)), (1, .int x1), (2, .int x2)]) hx hb dX1_grow_35 hl (by decide) rfl (fun ls hl => ?_)
    refine lv_iload hx hb dX1_grow_37 (lv_at hl 1 rfl) ?_
    refine lv_iconst (v := 1) hx hb dX1_grow_39 (by decide) ?_
    refine lv_icmp_ne (tgt := 49) hx hb dX1_grow_40 (by decide) (fun c8 => ?_) (fun c8 => ?_)
    · have h := nd_neg h c8
      exact (db_X1_grow_49 C K J4) (x1) (x2) (z3) (z5) (z7) s0 _ _ _ h hP hD hS (lv_sub hl [3, 4, 5, 2, 1, 0] rfl)
    · have h := nd_pos h c8
      refine lv_iload hx hb dX1_grow_43 (lv_at hl 0 rfl) ?_
      refine lv_iconst (v := 4) hx hb dX1_grow_45 (by decide) ?_
      refine lv_icmp_lt (tgt := 62) hx hb dX1_grow_46 (by decide) (fun c30 => ?_) (fun c30 => ?_)
      · have h := nd_pos h c30
        exact (db_X1_grow_62 C K J4) (x1) (x2) (z3) (z5) (z7) s0 _ _ _ h hP hD hS (lv_sub hl [3, 4, 5, 2, 1, 0] rfl)
      · have h := nd_neg h c30
        exact (db_X1_grow_49 C K J4) (x1) (x2) (z3) (z5) (z7) s0 _ _ _ h hP hD hS (lv_sub hl [3, 4, 5, 2, 1, 0] rfl)
set_option maxHeartbeats 40000000 in
set_option maxRecDepth 100000 in
theorem db_X1_grow_4 {p : Program} {l : Launch} {e : Env} {s : State} {m : MethodId} {args : Array Value} {below : List Frame} {meth : Method} {c : Code} {Q : State → Prop} {A : Nat → Prop} {dC : Nat → ClassId} {dI : Nat → Nat → Nat} {a : Nat → Nat} {ac : Nat → ClassId} {n : Nat} {r : Int32 × (St × (St))} (C : nd_C p l s m args c A (dC, dI) cX1_grow 7 RX1 ow_dm_X1_grow (dk_X1 ac)) (K : nd_Ki p l e (headSpec ow_dm_X1_grow ({ frames := 3, cells := 0, slots := 0, locals := 64 })).room s m args below meth c Q A (dC, dI) cX1_grow .boolean (St × (St)) (dw_X1 a ac) r) (k : Nat) : dj_X1_grow_4 p l e s m args below meth c Q A dC dI a ac (df_X1_grow_4 n k) r := by
  induction k with
  | zero => intro x1 x2 s0 H locs ls h; exact nomatch (show (none : Option (Int32 × (St × (St)))) = some r from h)
  | succ k ih => exact dB_X1_grow_4 C K ih
set_option maxHeartbeats 40000000 in
set_option maxRecDepth 100000 in
theorem db_X1_grow_0 {p : Program} {l : Launch} {e : Env} {s : State} {m : MethodId} {args : Array Value} {below : List Frame} {meth : Method} {c : Code} {Q : State → Prop} {A : Nat → Prop} {dC : Nat → ClassId} {dI : Nat → Nat → Nat} {a : Nat → Nat} {ac : Nat → ClassId} {n : Nat} {r : Int32 × (St × (St))} (C : nd_C p l s m args c A (dC, dI) cX1_grow 7 RX1 ow_dm_X1_grow (dk_X1 ac)) (K : nd_Ki p l e (headSpec ow_dm_X1_grow ({ frames := 3, cells := 0, slots := 0, locals := 64 })).room s m args below meth c Q A (dC, dI) cX1_grow .boolean (St × (St)) (dw_X1 a ac) r) : dj_X1_grow_0 p l e s m args below meth c Q A dC dI a ac (df_X1_grow_0 n) r := by
  obtain ⟨hlt, hx, hb, hml, hown, hts, hN, hA, hK⟩ := id C
  intro s0 H locs ls h hP hD hS hl
  unfold df_X1_grow_0 at h
  refine lv_iconst (v := 0) hx hb dX1_grow_0 (by decide) ?_
  refine lv_istore_n (lv' := [(1, .int 0), (0, .ref (a 0))]) hx hb dX1_grow_1 rfl hl (by decide) rfl (fun ls hl => ?_)
  refine lv_iconst (v := 0) hx hb dX1_grow_2 (by decide) ?_
  refine lv_istore_n (lv' := [(2, .int 0), (1, .int 0), (0, .ref (a 0))]) hx hb dX1_grow_3 rfl hl (by decide) rfl (fun ls hl => ?_)
  exact (db_X1_grow_4 C K n) (0) (0) s0 _ _ _ h hP hD hS (lv_sub hl [2, 1, 0] rfl)
set_option maxHeartbeats 40000000 in
set_option maxRecDepth 100000 in
theorem dm_X1_grow (l : Launch) (hlt : l.stackTraces = false) (dC : Nat → ClassId) (dI : Nat → Nat → Nat) (a : Nat → Nat) (ac : Nat → ClassId) (n : Nat) (s0 : St × (St)) {r : Int32 × (St × (St))} (h : df_X1_grow n s0 = some r) (sz : Nat) : Met l yX1_grow ow_dm_X1_grow ({ frames := 3, cells := 0, slots := 0, locals := 64 }) (va_Pc [.ref (a 0)] (fun U => U.heap.size = sz ∧ va_P (dC, dI) vwCl (dw_X1 a ac s0) U.heap ∧ va_K (dC, dI) vwCl (dk_X1 ac) U ∧ va_D (fun _ => True) (dw_X1 a ac s0) ∧ nv_E (va_A (dw_X1 a ac s0) sz) U)) (va_Qi (fun x _ => x = r.1) (fun (_ : Unit) t => va_P (dC, dI) vwCl (dw_X1 a ac r.2) t.heap ∧ va_K (dC, dI) vwCl (dk_X1 ac) t ∧ va_D (va_A (dw_X1 a ac s0) sz) (dw_X1 a ac r.2)) (va_A (dw_X1 a ac s0) sz)) 0 0 (va_A (dw_X1 a ac s0) sz) := by
  refine Met.ofW (cc := cX1_grow) (maxL := 7) (ret := (some .boolean)) (by decide) rfl ?_
  intro p e s m args below meth c s₁ B hml hv
  obtain ⟨rfl, hsz, hP, hK, hD0, hN⟩ := hv
  have hx := B.exec
  have hb := B.bytes
  have hr := B.returns
  have hts := atoms_spec (ws := ow_dm_X1_grow) B.pre
  have hown : s.vm.findClass RX1 = some m.cls := findClass_of_methodNamed B.named
  have hlocks := B.notSynchronized
  subst hsz
  have hD := hD0.self (sz := s.heap.size)
  generalize hAe : va_A (dw_X1 a ac s0) s.heap.size = A at hD hN ⊢
  have hA : ∀ q : Nat, s.heap.size ≤ q → A q := fun q h => by rw [← hAe]; exact Or.inr h
  have hl := lv_entry ([.ref (a 0)]) (n := 7) (Nat.le_of_ble_eq_true rfl)
  rw [lg_entry_eq]
  generalize (lg_sl ([.ref (a 0)]) ++ List.replicate (7 - (lg_sl ([.ref (a 0)])).length) Slot.unset).toArray = ls at hl ⊢
  have hl : lv_has ls 7 [(0, .ref (a 0))] := hl
  exact db_X1_grow_0 (dC := dC) (dI := dI) (a := a) (ac := ac) (n := n) (r := r) ⟨hlt, hx, hb, hml, hown, hts, hN, hA, hK⟩ (fun pc v τ H locs ls d z er hP hD hS => by subst er; exact W.zret (v := v) hx hb hr z (fun t ht hW => ⟨⟨v, (), rfl, rfl, by rw [ht]; exact hP, va_K.moved hW.alike hK, hD⟩, hS.F ht⟩) hS.2.2 d) s0 _ _ _ h hP hD va_S.rf (lv_sub hl [0] rfl)
def ow_dm_X1_layOut : List Cond := .code yX1_layOut cX1_layOut 3 none :: ([.fieldLink RX1 65 "TimeMachine$Assembler" "statements" "I", .methodLink RX1 268 yX1_findAddresses, .instanceMethod yX1_findAddresses, .selects RX1 yX1_findAddresses yX1_findAddresses, .initialized RX1, .methodLink RX1 271 yX1_grow, .instanceMethod yX1_grow, .selects RX1 yX1_grow yX1_grow] ++ (u_ws RX1 TX1 13 ++ (ow_dm_X1_findAddresses ++ (ow_dm_X1_grow ++ []))))
theorem gd_dm_X1_layOut : ∀ w ∈ ow_dm_X1_layOut, (w.onTables && w.keeps) = true ∨ ∃ ty, w = Cond.arrayClass ty := List.forall_mem_cons.mpr ⟨good_of_word rfl, List.forall_mem_append.mpr ⟨fun w h => good_of_word (List.all_eq_true.mp (by decide +kernel) w h), List.forall_mem_append.mpr ⟨gu_X1, List.forall_mem_append.mpr ⟨gd_dm_X1_findAddresses, List.forall_mem_append.mpr ⟨gd_dm_X1_grow, fun _ h => nomatch h⟩⟩⟩⟩⟩
theorem hi_dm_X1_layOut_X1 : ∀ w ∈ u_ws RX1 TX1 13, w ∈ ow_dm_X1_layOut := fun w h => List.mem_cons_of_mem _ (List.mem_append_right _ (List.mem_append_left _ h))
theorem gi_dm_X1_layOut_0 : GoodIn ow_dm_X1_layOut (wsV RX1 268 RX1 yX1_findAddresses ow_dm_X1_findAddresses) := goodIn_app (goodIn_of _ (by decide +kernel)) (fun w h => ⟨List.mem_cons_of_mem _ (List.mem_append_right _ (List.mem_append_right _ (List.mem_append_left _ h))), gd_dm_X1_findAddresses w h⟩)
theorem gi_dm_X1_layOut_1 : GoodIn ow_dm_X1_layOut (wsV RX1 271 RX1 yX1_grow ow_dm_X1_grow) := goodIn_app (goodIn_of _ (by decide +kernel)) (fun w h => ⟨List.mem_cons_of_mem _ (List.mem_append_right _ (List.mem_append_right _ (List.mem_append_right _ (List.mem_append_left _ h)))), gd_dm_X1_grow w h⟩)
def dj_X1_layOut_32 (p : Program) (l : Launch) (e : Env) (s : State) (m : MethodId) (args : Array Value) (below : List Frame) (meth : Method) (c : Code) (Q : State → Prop) (A : Nat → Prop) (dC : Nat → ClassId) (dI : Nat → Nat → Nat) (a : Nat → Nat) (ac : Nat → ClassId) (g : (St × (St)) → Option (St × (St))) (r : St × (St)) : Prop := ∀ (s0 : St × (St)) (H : Heap) (locs : List Loc) (ls : Array Slot), g s0 = some r → va_P (dC, dI) vwCl (dw_X1 a ac s0) H → va_D A (dw_X1 a ac s0) → va_S A s.heap H locs → lv_has ls 3 [] → W p l e (headSpec ow_dm_X1_layOut ({ frames := 4, cells := 0, slots := 0, locals := 90 })).room s m args below meth c H locs 0 0 Q (F0 m 32 ls [])
def dj_X1_layOut_9 (p : Program) (l : Launch) (e : Env) (s : State) (m : MethodId) (args : Array Value) (below : List Frame) (meth : Method) (c : Code) (Q : State → Prop) (A : Nat → Prop) (dC : Nat → ClassId) (dI : Nat → Nat → Nat) (a : Nat → Nat) (ac : Nat → ClassId) (g : Int32 → Int32 → (St × (St)) → Option (St × (St))) (r : St × (St)) : Prop := ∀ (x1 : Int32) (x2 : Int32) (s0 : St × (St)) (H : Heap) (locs : List Loc) (ls : Array Slot), g x1 x2 s0 = some r → va_P (dC, dI) vwCl (dw_X1 a ac s0) H → va_D A (dw_X1 a ac s0) → va_S A s.heap H locs → lv_has ls 3 [(0, .ref (a 0)), (1, .int x1), (2, .int x2)] → W p l e (headSpec ow_dm_X1_layOut ({ frames := 4, cells := 0, slots := 0, locals := 90 })).room s m args below meth c H locs 0 0 Q (F0 m 9 ls [])
def dj_X1_layOut_0 (p : Program) (l : Launch) (e : Env) (s : State) (m : MethodId) (args : Array Value) (below : List Frame) (meth : Method) (c : Code) (Q : State → Prop) (A : Nat → Prop) (dC : Nat → ClassId) (dI : Nat → Nat → Nat) (a : Nat → Nat) (ac : Nat → ClassId) (g : (St × (St)) → Option (St × (St))) (r : St × (St)) : Prop := ∀ (s0 : St × (St)) (H : Heap) (locs : List Loc) (ls : Array Slot), g s0 = some r → va_P (dC, dI) vwCl (dw_X1 a ac s0) H → va_D A (dw_X1 a ac s0) → va_S A s.heap H locs → lv_has ls 3 [(0, .ref (a 0))] → W p l e (headSpec ow_dm_X1_layOut ({ frames := 4, cells := 0, slots := 0, locals := 90 })).room s m args below meth c H locs 0 0 Q (F0 m 0 ls [])
set_option maxHeartbeats 40000000 in
set_option maxRecDepth 100000 in
theorem db_X1_layOut_32 {p : Program} {l : Launch} {e : Env} {s : State} {m : MethodId} {args : Array Value} {below : List Frame} {meth : Method} {c : Code} {Q : State → Prop} {A : Nat → Prop} {dC : Nat → ClassId} {dI : Nat → Nat → Nat} {a : Nat → Nat} {ac : Nat → ClassId} {n : Nat} {r : St × (St)} (C : nd_C p l s m args c A (dC, dI) cX1_layOut 3 RX1 ow_dm_X1_layOut (dk_X1 ac)) (K : nd_Kv p l e (headSpec ow_dm_X1_layOut ({ frames := 4, cells := 0, slots := 0, locals := 90 })).room s m args below meth c Q A (dC, dI) cX1_layOut (St × (St)) (dw_X1 a ac) r) : dj_X1_layOut_32 p l e s m args below meth c Q A dC dI a ac (df_X1_layOut_32 n) r := by
  obtain ⟨hlt, hx, hb, hml, hown, hts, hN, hA, hK⟩ := id C
  intro s0 H locs ls h hP hD hS hl
  unfold df_X1_layOut_32 at h
  exact K _ _ _ _ _ dX1_layOut_32 (Option.some.inj h).symm hP hD hS
set_option maxHeartbeats 40000000 in
set_option maxRecDepth 100000 in
theorem dB_X1_layOut_9 {p : Program} {l : Launch} {e : Env} {s : State} {m : MethodId} {args : Array Value} {below : List Frame} {meth : Method} {c : Code} {Q : State → Prop} {A : Nat → Prop} {dC : Nat → ClassId} {dI : Nat → Nat → Nat} {a : Nat → Nat} {ac : Nat → ClassId} {n : Nat} {r : St × (St)} (C : nd_C p l s m args c A (dC, dI) cX1_layOut 3 RX1 ow_dm_X1_layOut (dk_X1 ac)) (K : nd_Kv p l e (headSpec ow_dm_X1_layOut ({ frames := 4, cells := 0, slots := 0, locals := 90 })).room s m args below meth c Q A (dC, dI) cX1_layOut (St × (St)) (dw_X1 a ac) r) {g9 : Int32 → Int32 → (St × (St)) → Option (St × (St))} (J9 : dj_X1_layOut_9 p l e s m args below meth c Q A dC dI a ac g9 r) : dj_X1_layOut_9 p l e s m args below meth c Q A dC dI a ac (dF_X1_layOut_9 n g9) r := by
  obtain ⟨hlt, hx, hb, hml, hown, hts, hN, hA, hK⟩ := id C
  intro x1 x2 s0 H locs ls h hP hD hS hl
  unfold dF_X1_layOut_9 at h
  refine lv_iload_n hx hb dX1_layOut_9 rfl (lv_at hl 1 rfl) ?_
  refine lv_if_eq (tgt := 32) hx hb dX1_layOut_10 (by decide) (fun c2 => ?_) (fun c2 => ?_)
  · have h := nd_pos h c2
    exact (db_X1_layOut_32 C K)  s0 _ _ _ h hP hD hS (lv_sub hl [] rfl)
  · have h := nd_neg h c2
    refine lv_iload_n hx hb dX1_layOut_13 rfl (lv_at hl 2 rfl) ?_
    refine lv_if_lt (tgt := 32) hx hb dX1_layOut_14 (by decide) (fun c3 => ?_) (fun c3 => ?_)
    · have h := nd_pos h c3
      exact (db_X1_layOut_32 C K)  s0 _ _ _ h hP hD hS (lv_sub hl [] rfl)
    · have h := nd_neg h c3
      refine lv_aload_n hx hb dX1_layOut_17 rfl (lv_at hl 0 rfl) ?_
      obtain ⟨s5, hq, h⟩ := nd_b1_e h
      have hPc := hP
      have hDc := hD
      have hKc := hK
      have hFc := nd_rs hD hS hA
      refine nd_cVv (As := []) (rest := []) (w' := dw_X1 a ac s5) ⟨hx, hb, hml, hown, hts⟩ (fun sz => dm_X1_findAddresses l hlt dC dI a ac n  s0 hq sz) (cwV 0 hts gi_dm_X1_layOut_0 rfl rfl rfl (by decide +kernel) ⟨Nat.le_of_ble_eq_true rfl, Nat.le_of_ble_eq_true rfl⟩) hPc hDc hKc hS hA hN (va_recv hKc hPc (ci := 2) (q0 := 0) rfl rfl) rfl hl.1 rfl (Nat.le_of_ble_eq_true rfl) dX1_layOut_18 (fun H locs hP1 hD1 hk1 hS => ?_)
      have hP := hP1
      have hD := hD1.weaken (fun k q _ h => hFc q.1 h)
      refine lv_aload_n hx hb dX1_layOut_21 rfl (lv_at hl 0 rfl) ?_
      obtain ⟨q7, s8, hq, h⟩ := nd_b2_e h
      have hPc := hP
      have hDc := hD
      have hKc := hK
      have hFc := nd_rs hD hS hA
      refine nd_cVi (As := []) (rest := []) (q := q7) (w' := dw_X1 a ac s8) ⟨hx, hb, hml, hown, hts⟩ (fun sz => dm_X1_grow l hlt dC dI a ac n  s5 hq sz) (cwV 0 hts gi_dm_X1_layOut_1 rfl rfl rfl (by decide +kernel) ⟨Nat.le_of_ble_eq_true rfl, Nat.le_of_ble_eq_true rfl⟩) hPc hDc hKc hS hA hN (va_recv hKc hPc (ci := 2) (q0 := 0) rfl rfl) rfl hl.1 rfl (Nat.le_of_ble_eq_true rfl) dX1_layOut_22 (fun H locs hP1 hD1 hk1 hS => ?_)
      have hP := hP1
      have hD := hD1.weaken (fun k q _ h => hFc q.1 h)
      refine lv_istore_n (lv' := [(1, .int q7), (0, .ref (a 0)), (2, .int x2)]) hx hb dX1_layOut_25 rfl hl (by decide) rfl (fun ls hl => ?_)
      obtain ⟨z10, ez10, h⟩ := nd_let_e h
      refine lv_iinc (v := z10) (lv' := [(2, .int z10), (1, .int q7), (0, .ref (a 0))]) hx hb dX1_layOut_26 hl (k := 2) rfl (by rw [ez10]) (by decide) rfl (fun ls hl => ?_)
      refine lv_goto (tgt := 9) hx hb dX1_layOut_29 (by decide) ?_
      exact (J9) (q7) (z10) s8 _ _ _ h hP hD hS (lv_sub hl [2, 1, 0] rfl)
set_option maxHeartbeats 40000000 in
set_option maxRecDepth 100000 in
theorem db_X1_layOut_9 {p : Program} {l : Launch} {e : Env} {s : State} {m : MethodId} {args : Array Value} {below : List Frame} {meth : Method} {c : Code} {Q : State → Prop} {A : Nat → Prop} {dC : Nat → ClassId} {dI : Nat → Nat → Nat} {a : Nat → Nat} {ac : Nat → ClassId} {n : Nat} {r : St × (St)} (C : nd_C p l s m args c A (dC, dI) cX1_layOut 3 RX1 ow_dm_X1_layOut (dk_X1 ac)) (K : nd_Kv p l e (headSpec ow_dm_X1_layOut ({ frames := 4, cells := 0, slots := 0, locals := 90 })).room s m args below meth c Q A (dC, dI) cX1_layOut (St × (St)) (dw_X1 a ac) r) (k : Nat) : dj_X1_layOut_9 p l e s m args below meth c Q A dC dI a ac (df_X1_layOut_9 n k) r := by
  induction k with
  | zero => intro x1 x2 s0 H locs ls h; exact nomatch (show (none : Option (St × (St))) = some r from h)
  | succ k ih => exact dB_X1_layOut_9 C K ih
set_option maxHeartbeats 40000000 in
set_option maxRecDepth 100000 in
theorem db_X1_layOut_0 {p : Program} {l : Launch} {e : Env} {s : State} {m : MethodId} {args : Array Value} {below : List Frame} {meth : Method} {c : Code} {Q : State → Prop} {A : Nat → Prop} {dC : Nat → ClassId} {dI : Nat → Nat → Nat} {a : Nat → Nat} {ac : Nat → ClassId} {n : Nat} {r : St × (St)} (C : nd_C p l s m args c A (dC, dI) cX1_layOut 3 RX1 ow_dm_X1_layOut (dk_X1 ac)) (K : nd_Kv p l e (headSpec ow_dm_X1_layOut ({ frames := 4, cells := 0, slots := 0, locals := 90 })).room s m args below meth c Q A (dC, dI) cX1_layOut (St × (St)) (dw_X1 a ac) r) : dj_X1_layOut_0 p l e s m args below meth c Q A dC dI a ac (df_X1_layOut_0 n) r := by
  obtain ⟨hlt, hx, hb, hml, hown, hts, hN, hA, hK⟩ := id C
  intro s0 H locs ls h hP hD hS hl
  unfold df_X1_layOut_0 at h
  refine lv_iconst (v := 1) hx hb dX1_layOut_0 (by decide) ?_
  refine lv_istore_n (lv' := [(1, .int 1), (0, .ref (a 0))]) hx hb dX1_layOut_1 rfl hl (by decide) rfl (fun ls hl => ?_)
  refine lv_iconst (v := 2) hx hb dX1_layOut_2 (by decide) ?_
  refine lv_aload_n hx hb dX1_layOut_3 rfl (lv_at hl 1 rfl) ?_
  refine va_get (D := (dC, dI)) (ci := 2) (v := .int (sI s0.1 0)) (C := RX1) (T := TX1) (N := 13) hx hb hts hi_dm_X1_layOut_X1 hown hK hP 0 rfl rfl 2 (by decide) (hts (.fieldLink RX1 65 "TimeMachine$Assembler" "statements" "I") (List.mem_of_getElem? (i := 1) rfl)) (fun _ h9 => h9) rfl dX1_layOut_4 ?_
  refine lv_imul hx hb dX1_layOut_7 ?_
  refine lv_topi (fun z1 ez1 => ?_)
  have h := nd_at h ez1
  refine lv_istore_n (lv' := [(2, .int z1), (1, .int 1), (0, .ref (a 0))]) hx hb dX1_layOut_8 rfl hl (by decide) rfl (fun ls hl => ?_)
  exact (db_X1_layOut_9 C K n) (1) (z1) s0 _ _ _ h hP hD hS (lv_sub hl [2, 1, 0] rfl)
set_option maxHeartbeats 40000000 in
set_option maxRecDepth 100000 in
theorem dm_X1_layOut (l : Launch) (hlt : l.stackTraces = false) (dC : Nat → ClassId) (dI : Nat → Nat → Nat) (a : Nat → Nat) (ac : Nat → ClassId) (n : Nat) (s0 : St × (St)) {r : St × (St)} (h : df_X1_layOut n s0 = some r) (sz : Nat) : Met l yX1_layOut ow_dm_X1_layOut ({ frames := 4, cells := 0, slots := 0, locals := 90 }) (va_Pc [.ref (a 0)] (fun U => U.heap.size = sz ∧ va_P (dC, dI) vwCl (dw_X1 a ac s0) U.heap ∧ va_K (dC, dI) vwCl (dk_X1 ac) U ∧ va_D (fun _ => True) (dw_X1 a ac s0) ∧ nv_E (va_A (dw_X1 a ac s0) sz) U)) (va_Qv (fun _ => True) (fun (_ : Unit) t => va_P (dC, dI) vwCl (dw_X1 a ac r) t.heap ∧ va_K (dC, dI) vwCl (dk_X1 ac) t ∧ va_D (va_A (dw_X1 a ac s0) sz) (dw_X1 a ac r)) (va_A (dw_X1 a ac s0) sz)) 0 0 (va_A (dw_X1 a ac s0) sz) := by
  refine Met.ofW (cc := cX1_layOut) (maxL := 3) (ret := none) (by decide) rfl ?_
  intro p e s m args below meth c s₁ B hml hv
  obtain ⟨rfl, hsz, hP, hK, hD0, hN⟩ := hv
  have hx := B.exec
  have hb := B.bytes
  have hr := B.returns
  have hts := atoms_spec (ws := ow_dm_X1_layOut) B.pre
  have hown : s.vm.findClass RX1 = some m.cls := findClass_of_methodNamed B.named
  have hlocks := B.notSynchronized
  subst hsz
  have hD := hD0.self (sz := s.heap.size)
  generalize hAe : va_A (dw_X1 a ac s0) s.heap.size = A at hD hN ⊢
  have hA : ∀ q : Nat, s.heap.size ≤ q → A q := fun q h => by rw [← hAe]; exact Or.inr h
  have hl := lv_entry ([.ref (a 0)]) (n := 3) (Nat.le_of_ble_eq_true rfl)
  rw [lg_entry_eq]
  generalize (lg_sl ([.ref (a 0)]) ++ List.replicate (3 - (lg_sl ([.ref (a 0)])).length) Slot.unset).toArray = ls at hl ⊢
  have hl : lv_has ls 3 [(0, .ref (a 0))] := hl
  exact db_X1_layOut_0 (dC := dC) (dI := dI) (a := a) (ac := ac) (n := n) (r := r) ⟨hlt, hx, hb, hml, hown, hts, hN, hA, hK⟩ (fun pc τ H locs ls d er hP hD hS => by subst er; exact W.vret hx hb hr (fun t ht hW => ⟨⟨(), rfl, trivial, by rw [ht]; exact hP, va_K.moved hW.alike hK, hD⟩, hS.F ht⟩) hS.2.2 d) s0 _ _ _ h hP hD va_S.rf (lv_sub hl [0] rfl)
def ow_dm_X1_put : List Cond := .code yX1_put cX1_put 6 none :: ([.fieldLink RX1 300 "TimeMachine$Program" "image" "[B"] ++ (u_ws RX8 TX8 10 ++ []))
theorem gd_dm_X1_put : ∀ w ∈ ow_dm_X1_put, (w.onTables && w.keeps) = true ∨ ∃ ty, w = Cond.arrayClass ty := List.forall_mem_cons.mpr ⟨good_of_word rfl, List.forall_mem_append.mpr ⟨fun w h => good_of_word (List.all_eq_true.mp (by decide +kernel) w h), List.forall_mem_append.mpr ⟨gu_X8, fun _ h => nomatch h⟩⟩⟩
theorem hi_dm_X1_put_X8 : ∀ w ∈ u_ws RX8 TX8 10, w ∈ ow_dm_X1_put := fun w h => List.mem_cons_of_mem _ (List.mem_append_right _ (List.mem_append_left _ h))
def dj_X1_put_46 (p : Program) (l : Launch) (e : Env) (s : State) (m : MethodId) (args : Array Value) (below : List Frame) (meth : Method) (c : Code) (Q : State → Prop) (A : Nat → Prop) (dC : Nat → ClassId) (dI : Nat → Nat → Nat) (a : Nat → Nat) (ac : Nat → ClassId) (g : Int32 → Int32 → Int32 → Int32 → (St × (St × (St)) × (St)) → Option (St × (St × (St)) × (St))) (r : St × (St × (St)) × (St)) : Prop := ∀ (x2 : Int32) (x3 : Int32) (x4 : Int32) (x5 : Int32) (s0 : St × (St × (St)) × (St)) (H : Heap) (locs : List Loc) (ls : Array Slot), g x2 x3 x4 x5 s0 = some r → va_P (dC, dI) vwCl (dw_X1p a ac s0) H → va_D A (dw_X1p a ac s0) → va_S A s.heap H locs → lv_has ls 6 [(1, .ref (a 12)), (2, .int x2), (3, .int x3), (4, .int x4), (5, .int x5)] → W p l e (headSpec ow_dm_X1_put ({ frames := 0, cells := 0, slots := 0, locals := 0 })).room s m args below meth c H locs 0 0 Q (F0 m 46 ls [])
def dj_X1_put_3 (p : Program) (l : Launch) (e : Env) (s : State) (m : MethodId) (args : Array Value) (below : List Frame) (meth : Method) (c : Code) (Q : State → Prop) (A : Nat → Prop) (dC : Nat → ClassId) (dI : Nat → Nat → Nat) (a : Nat → Nat) (ac : Nat → ClassId) (g : Int32 → Int32 → Int32 → Int32 → (St × (St × (St)) × (St)) → Option (St × (St × (St)) × (St))) (r : St × (St × (St)) × (St)) : Prop := ∀ (x2 : Int32) (x3 : Int32) (x4 : Int32) (x5 : Int32) (s0 : St × (St × (St)) × (St)) (H : Heap) (locs : List Loc) (ls : Array Slot), g x2 x3 x4 x5 s0 = some r → va_P (dC, dI) vwCl (dw_X1p a ac s0) H → va_D A (dw_X1p a ac s0) → va_S A s.heap H locs → lv_has ls 6 [(1, .ref (a 12)), (2, .int x2), (3, .int x3), (4, .int x4), (5, .int x5)] → W p l e (headSpec ow_dm_X1_put ({ frames := 0, cells := 0, slots := 0, locals := 0 })).room s m args below meth c H locs 0 0 Q (F0 m 3 ls [])
def dj_X1_put_0 (p : Program) (l : Launch) (e : Env) (s : State) (m : MethodId) (args : Array Value) (below : List Frame) (meth : Method) (c : Code) (Q : State → Prop) (A : Nat → Prop) (dC : Nat → ClassId) (dI : Nat → Nat → Nat) (a : Nat → Nat) (ac : Nat → ClassId) (g : Int32 → Int32 → Int32 → (St × (St × (St)) × (St)) → Option (St × (St × (St)) × (St))) (r : St × (St × (St)) × (St)) : Prop := ∀ (v1 : Int32) (v2 : Int32) (v3 : Int32) (s0 : St × (St × (St)) × (St)) (H : Heap) (locs : List Loc) (ls : Array Slot), g v1 v2 v3 s0 = some r → va_P (dC, dI) vwCl (dw_X1p a ac s0) H → va_D A (dw_X1p a ac s0) → va_S A s.heap H locs → lv_has ls 6 [(0, .ref (a 0)), (1, .ref (a 12)), (2, .int v1), (3, .int v2), (4, .int v3)] → W p l e (headSpec ow_dm_X1_put ({ frames := 0, cells := 0, slots := 0, locals := 0 })).room s m args below meth c H locs 0 0 Q (F0 m 0 ls [])
set_option maxHeartbeats 40000000 in
set_option maxRecDepth 100000 in
theorem db_X1_put_46 {p : Program} {l : Launch} {e : Env} {s : State} {m : MethodId} {args : Array Value} {below : List Frame} {meth : Method} {c : Code} {Q : State → Prop} {A : Nat → Prop} {dC : Nat → ClassId} {dI : Nat → Nat → Nat} {a : Nat → Nat} {ac : Nat → ClassId} {n : Nat} {r : St × (St × (St)) × (St)} (C : nd_C p l s m args c A (dC, dI) cX1_put 6 RX1 ow_dm_X1_put (dk_X1p ac)) (K : nd_Kv p l e (headSpec ow_dm_X1_put ({ frames := 0, cells := 0, slots := 0, locals := 0 })).room s m args below meth c Q A (dC, dI) cX1_put (St × (St × (St)) × (St)) (dw_X1p a ac) r) {g3 : Int32 → Int32 → Int32 → Int32 → (St × (St × (St)) × (St)) → Option (St × (St × (St)) × (St))} (J3 : dj_X1_put_3 p l e s m args below meth c Q A dC dI a ac g3 r) : dj_X1_put_46 p l e s m args below meth c Q A dC dI a ac (df_X1_put_46 n g3) r := by
  obtain ⟨hlt, hx, hb, hml, hown, hts, hN, hA, hK⟩ := id C
  intro x2 x3 x4 x5 s0 H locs ls h hP hD hS hl
  unfold df_X1_put_46 at h
  obtain ⟨z3, ez3, h⟩ := nd_let_e h
  refine lv_iinc (v := z3) (lv' := [(5, .int z3), (1, .ref (a 12)), (2, .int x2), (3, .int x3), (4, .int x4)]) hx hb dX1_put_46 hl (k := 4) rfl (by rw [ez3]) (by decide) rfl (fun ls hl => ?_)
  refine lv_goto (tgt := 3) hx hb dX1_put_49 (by decide) ?_
  exact (J3) (x2) (x3) (x4) (z3) s0 _ _ _ h hP hD hS (lv_sub hl [1, 2, 3, 4, 0] rfl)
set_option maxHeartbeats 40000000 in
set_option maxRecDepth 100000 in
theorem dB_X1_put_3 {p : Program} {l : Launch} {e : Env} {s : State} {m : MethodId} {args : Array Value} {below : List Frame} {meth : Method} {c : Code} {Q : State → Prop} {A : Nat → Prop} {dC : Nat → ClassId} {dI : Nat → Nat → Nat} {a : Nat → Nat} {ac : Nat → ClassId} {n : Nat} {r : St × (St × (St)) × (St)} (C : nd_C p l s m args c A (dC, dI) cX1_put 6 RX1 ow_dm_X1_put (dk_X1p ac)) (K : nd_Kv p l e (headSpec ow_dm_X1_put ({ frames := 0, cells := 0, slots := 0, locals := 0 })).room s m args below meth c Q A (dC, dI) cX1_put (St × (St × (St)) × (St)) (dw_X1p a ac) r) {g3 : Int32 → Int32 → Int32 → Int32 → (St × (St × (St)) × (St)) → Option (St × (St × (St)) × (St))} (J3 : dj_X1_put_3 p l e s m args below meth c Q A dC dI a ac g3 r) : dj_X1_put_3 p l e s m args below meth c Q A dC dI a ac (dF_X1_put_3 n g3) r := by
  obtain ⟨hlt, hx, hb, hml, hown, hts, hN, hA, hK⟩ := id C
  intro x2 x3 x4 x5 s0 H locs ls h hP hD hS hl
  unfold dF_X1_put_3 at h
  refine lv_iload hx hb dX1_put_3 (lv_at hl 4 rfl) ?_
  refine lv_iload_n hx hb dX1_put_5 rfl (lv_at hl 2 rfl) ?_
  refine lv_icmp_ge (tgt := 52) hx hb dX1_put_6 (by decide) (fun c1 => ?_) (fun c1 => ?_)
  · have h := nd_pos h c1
    exact K _ _ _ _ _ dX1_put_52 (Option.some.inj h).symm hP hD hS
  · have h := nd_neg h c1
    refine lv_iload_n hx hb dX1_put_9 rfl (lv_at hl 1 rfl) ?_
    refine lv_iload hx hb dX1_put_10 (lv_at hl 4 rfl) ?_
    refine lv_iadd hx hb dX1_put_12 ?_
    refine lv_if_lt (tgt := 46) hx hb dX1_put_13 (by decide) (fun c2 => ?_) (fun c2 => ?_)
    · have h := nd_pos h c2
      exact (db_X1_put_46 C K J3) (x2) (x3) (x4) (x5) s0 _ _ _ h hP hD hS (lv_sub hl [0, 1, 2, 3, 4] rfl)
    · have h := nd_neg h c2
      refine lv_iload_n hx hb dX1_put_16 rfl (lv_at hl 1 rfl) ?_
      refine lv_iload hx hb dX1_put_17 (lv_at hl 4 rfl) ?_
      refine lv_iadd hx hb dX1_put_19 ?_
      refine lv_aload_n hx hb dX1_put_20 rfl (lv_at hl 0 rfl) ?_
      refine va_get (D := (dC, dI)) (ci := 9) (v := .ref (a 13)) (C := RX8) (T := TX8) (N := 10) hx hb hts hi_dm_X1_put_X8 hown hK hP 12 rfl rfl 0 (by decide) (hts (.fieldLink RX1 300 "TimeMachine$Program" "image" "[B") (List.mem_of_getElem? (i := 1) rfl)) (fun _ h9 => h9) rfl dX1_put_21 ?_
      refine va_alen (v := 32768) hx hb hK hP 13 10 rfl rfl (show Int32.ofNat 32768 = 32768 by decide) dX1_put_24 ?_
      refine lv_icmp_ge (tgt := 46) hx hb dX1_put_25 (by decide) (fun c4 => ?_) (fun c4 => ?_)
      · have h := nd_pos h c4
        exact (db_X1_put_46 C K J3) (x2) (x3) (x4) (x5) s0 _ _ _ h hP hD hS (lv_sub hl [0, 1, 2, 3, 4] rfl)
      · have h := nd_neg h c4
        refine lv_aload_n hx hb dX1_put_28 rfl (lv_at hl 0 rfl) ?_
        refine va_get (D := (dC, dI)) (ci := 9) (v := .ref (a 13)) (C := RX8) (T := TX8) (N := 10) hx hb hts hi_dm_X1_put_X8 hown hK hP 12 rfl rfl 0 (by decide) (hts (.fieldLink RX1 300 "TimeMachine$Program" "image" "[B") (List.mem_of_getElem? (i := 1) rfl)) (fun _ h9 => h9) rfl dX1_put_29 ?_
        refine lv_iload_n hx hb dX1_put_32 rfl (lv_at hl 1 rfl) ?_
        refine lv_iload hx hb dX1_put_33 (lv_at hl 4 rfl) ?_
        refine lv_iadd hx hb dX1_put_35 ?_
        refine lv_iload hx hb dX1_put_36 (lv_at hl 3 rfl) ?_
        refine lv_bipush (v := 8) hx hb dX1_put_38 (by decide) ?_
        refine lv_iload hx hb dX1_put_40 (lv_at hl 4 rfl) ?_
        refine lv_imul hx hb dX1_put_42 ?_
        refine lv_ishr hx hb dX1_put_43 ?_
        refine lv_i2b hx hb dX1_put_44 rfl ?_
        obtain ⟨i5, h⟩ := nd_ck_e h
        refine va_bast (i := (x2 + x5)) (x := ((((x4 : Int32) >>> (((8 * x5) : Int32) &&& 31)) : Int32).toInt8.toInt32)) hx hb hK hP hD hS 13 10 rfl rfl i5 dX1_put_45 (fun H locs hP hD hS => ?_)
        obtain ⟨s6, es6, h⟩ := nd_let_e h
        have hP : va_P (dC, dI) vwCl (dw_X1p a ac s6) H := by rw [es6]; exact hP
        have hD : va_D A (dw_X1p a ac s6) := by rw [es6]; exact hD
        exact (db_X1_put_46 C K J3) (x2) (x3) (x4) (x5) s6 _ _ _ h hP hD hS (lv_sub hl [0, 1, 2, 3, 4] rfl)
set_option maxHeartbeats 40000000 in
set_option maxRecDepth 100000 in
theorem db_X1_put_3 {p : Program} {l : Launch} {e : Env} {s : State} {m : MethodId} {args : Array Value} {below : List Frame} {meth : Method} {c : Code} {Q : State → Prop} {A : Nat → Prop} {dC : Nat → ClassId} {dI : Nat → Nat → Nat} {a : Nat → Nat} {ac : Nat → ClassId} {n : Nat} {r : St × (St × (St)) × (St)} (C : nd_C p l s m args c A (dC, dI) cX1_put 6 RX1 ow_dm_X1_put (dk_X1p ac)) (K : nd_Kv p l e (headSpec ow_dm_X1_put ({ frames := 0, cells := 0, slots := 0, locals := 0 })).room s m args below meth c Q A (dC, dI) cX1_put (St × (St × (St)) × (St)) (dw_X1p a ac) r) (k : Nat) : dj_X1_put_3 p l e s m args below meth c Q A dC dI a ac (df_X1_put_3 n k) r := by
  induction k with
  | zero => intro x2 x3 x4 x5 s0 H locs ls h; exact nomatch (show (none : Option (St × (St × (St)) × (St))) = some r from h)
  | succ k ih => exact dB_X1_put_3 C K ih
set_option maxHeartbeats 40000000 in
set_option maxRecDepth 100000 in
theorem db_X1_put_0 {p : Program} {l : Launch} {e : Env} {s : State} {m : MethodId} {args : Array Value} {below : List Frame} {meth : Method} {c : Code} {Q : State → Prop} {A : Nat → Prop} {dC : Nat → ClassId} {dI : Nat → Nat → Nat} {a : Nat → Nat} {ac : Nat → ClassId} {n : Nat} {r : St × (St × (St)) × (St)} (C : nd_C p l s m args c A (dC, dI) cX1_put 6 RX1 ow_dm_X1_put (dk_X1p ac)) (K : nd_Kv p l e (headSpec ow_dm_X1_put ({ frames := 0, cells := 0, slots := 0, locals := 0 })).room s m args below meth c Q A (dC, dI) cX1_put (St × (St × (St)) × (St)) (dw_X1p a ac) r) : dj_X1_put_0 p l e s m args below meth c Q A dC dI a ac (df_X1_put_0 n) r := by
  obtain ⟨hlt, hx, hb, hml, hown, hts, hN, hA, hK⟩ := id C
  intro v1 v2 v3 s0 H locs ls h hP hD hS hl
  unfold df_X1_put_0 at h
  refine lv_iconst (v := 0) hx hb dX1_put_0 (by decide) ?_
  refine lv_istore (lv' := [(5, .int 0), (0, .ref (a 0)), (1, .ref (a 12)), (2, .int v1), (3, .int v2), (4, .int v3)]) hx hb dX1_put_1 hl (by decide) rfl (fun ls hl => ?_)
  exact (db_X1_put_3 C K n) (v1) (v2) (v3) (0) s0 _ _ _ h hP hD hS (lv_sub hl [2, 3, 4, 5, 0] rfl)
set_option maxHeartbeats 40000000 in
set_option maxRecDepth 100000 in
theorem dm_X1_put (l : Launch) (hlt : l.stackTraces = false) (dC : Nat → ClassId) (dI : Nat → Nat → Nat) (a : Nat → Nat) (ac : Nat → ClassId) (n : Nat) (v1 : Int32) (v2 : Int32) (v3 : Int32) (s0 : St × (St × (St)) × (St)) {r : St × (St × (St)) × (St)} (h : df_X1_put n v1 v2 v3 s0 = some r) (sz : Nat) : Met l yX1_put ow_dm_X1_put ({ frames := 0, cells := 0, slots := 0, locals := 0 }) (va_Pc [.ref (a 0), .ref (a 12), .int v1, .int v2, .int v3] (fun U => U.heap.size = sz ∧ va_P (dC, dI) vwCl (dw_X1p a ac s0) U.heap ∧ va_K (dC, dI) vwCl (dk_X1p ac) U ∧ va_D (fun _ => True) (dw_X1p a ac s0) ∧ nv_E (va_A (dw_X1p a ac s0) sz) U)) (va_Qv (fun _ => True) (fun (_ : Unit) t => va_P (dC, dI) vwCl (dw_X1p a ac r) t.heap ∧ va_K (dC, dI) vwCl (dk_X1p ac) t ∧ va_D (va_A (dw_X1p a ac s0) sz) (dw_X1p a ac r)) (va_A (dw_X1p a ac s0) sz)) 0 0 (va_A (dw_X1p a ac s0) sz) := by
  refine Met.ofW (cc := cX1_put) (maxL := 6) (ret := none) (by decide) rfl ?_
  intro p e s m args below meth c s₁ B hml hv
  obtain ⟨rfl, hsz, hP, hK, hD0, hN⟩ := hv
  have hx := B.exec
  have hb := B.bytes
  have hr := B.returns
  have hts := atoms_spec (ws := ow_dm_X1_put) B.pre
  have hown : s.vm.findClass RX1 = some m.cls := findClass_of_methodNamed B.named
  have hlocks := B.notSynchronized
  subst hsz
  have hD := hD0.self (sz := s.heap.size)
  generalize hAe : va_A (dw_X1p a ac s0) s.heap.size = A at hD hN ⊢
  have hA : ∀ q : Nat, s.heap.size ≤ q → A q := fun q h => by rw [← hAe]; exact Or.inr h
  have hl := lv_entry ([.ref (a 0), .ref (a 12), .int v1, .int v2, .int v3]) (n := 6) (Nat.le_of_ble_eq_true rfl)
  rw [lg_entry_eq]
  generalize (lg_sl ([.ref (a 0), .ref (a 12), .int v1, .int v2, .int v3]) ++ List.replicate (6 - (lg_sl ([.ref (a 0), .ref (a 12), .int v1, .int v2, .int v3])).length) Slot.unset).toArray = ls at hl ⊢
  have hl : lv_has ls 6 [(0, .ref (a 0)), (1, .ref (a 12)), (2, .int v1), (3, .int v2), (4, .int v3)] := hl
  exact db_X1_put_0 (dC := dC) (dI := dI) (a := a) (ac := ac) (n := n) (r := r) ⟨hlt, hx, hb, hml, hown, hts, hN, hA, hK⟩ (fun pc τ H locs ls d er hP hD hS => by subst er; exact W.vret hx hb hr (fun t ht hW => ⟨⟨(), rfl, trivial, by rw [ht]; exact hP, va_K.moved hW.alike hK, hD⟩, hS.F ht⟩) hS.2.2 d) v1 v2 v3 s0 _ _ _ h hP hD va_S.rf (lv_sub hl [0, 1, 2, 3, 4] rfl)
def ow_dm_X1_worked : List Cond := .code yX1_worked cX1_worked 4 (some .int) :: ([.fieldLink RX1 12 "TimeMachine$Assembler" "reader" "LTimeMachine$Reader;", .methodLink RX1 220 yX9_evaluate, .instanceMethod yX9_evaluate, .selects RX9 yX9_evaluate yX9_evaluate, .initialized RX9, .fieldLink RX1 223 "TimeMachine$Reader" "trouble" "I", .methodLink RX1 77 yX1_blame, .instanceMethod yX1_blame, .selects RX1 yX1_blame yX1_blame, .initialized RX1] ++ (u_ws RX1 TX1 13 ++ (u_ws RX9 TX9 20 ++ (ow_dm_X9_evaluate ++ (ow_dm_X1_blame ++ [])))))
theorem gd_dm_X1_worked : ∀ w ∈ ow_dm_X1_worked, (w.onTables && w.keeps) = true ∨ ∃ ty, w = Cond.arrayClass ty := List.forall_mem_cons.mpr ⟨good_of_word rfl, List.forall_mem_append.mpr ⟨fun w h => good_of_word (List.all_eq_true.mp (by decide +kernel) w h), List.forall_mem_append.mpr ⟨gu_X1, List.forall_mem_append.mpr ⟨gu_X9, List.forall_mem_append.mpr ⟨gd_dm_X9_evaluate, List.forall_mem_append.mpr ⟨gd_dm_X1_blame, fun _ h => nomatch h⟩⟩⟩⟩⟩⟩
theorem hi_dm_X1_worked_X1 : ∀ w ∈ u_ws RX1 TX1 13, w ∈ ow_dm_X1_worked := fun w h => List.mem_cons_of_mem _ (List.mem_append_right _ (List.mem_append_left _ h))
theorem hi_dm_X1_worked_X9 : ∀ w ∈ u_ws RX9 TX9 20, w ∈ ow_dm_X1_worked := fun w h => List.mem_cons_of_mem _ (List.mem_append_right _ (List.mem_append_right _ (List.mem_append_left _ h)))
theorem gi_dm_X1_worked_0 : GoodIn ow_dm_X1_worked (wsV RX1 220 RX9 yX9_evaluate ow_dm_X9_evaluate) := goodIn_app (goodIn_of _ (by decide +kernel)) (fun w h => ⟨List.mem_cons_of_mem _ (List.mem_append_right _ (List.mem_append_right _ (List.mem_append_right _ (List.mem_append_left _ h)))), gd_dm_X9_evaluate w h⟩)
theorem gi_dm_X1_worked_1 : GoodIn ow_dm_X1_worked (wsV RX1 77 RX1 yX1_blame ow_dm_X1_blame) := goodIn_app (goodIn_of _ (by decide +kernel)) (fun w h => ⟨List.mem_cons_of_mem _ (List.mem_append_right _ (List.mem_append_right _ (List.mem_append_right _ (List.mem_append_right _ (List.mem_append_left _ h))))), gd_dm_X1_blame w h⟩)
def dj_X1_worked_31 (p : Program) (l : Launch) (e : Env) (s : State) (m : MethodId) (args : Array Value) (below : List Frame) (meth : Method) (c : Code) (Q : State → Prop) (A : Nat → Prop) (dC : Nat → ClassId) (dI : Nat → Nat → Nat) (a : Nat → Nat) (ac : Nat → ClassId) (g : Int32 → (St × (St)) → Option (Int32 × (St × (St)))) (r : Int32 × (St × (St))) : Prop := ∀ (x3 : Int32) (s0 : St × (St)) (H : Heap) (locs : List Loc) (ls : Array Slot), g x3 s0 = some r → va_P (dC, dI) vwCl (dw_X1 a ac s0) H → va_D A (dw_X1 a ac s0) → va_S A s.heap H locs → lv_has ls 4 [(3, .int x3)] → W p l e (headSpec ow_dm_X1_worked ({ frames := 3, cells := 0, slots := 0, locals := 64 })).room s m args below meth c H locs 0 0 Q (F0 m 31 ls [])
def dj_X1_worked_0 (p : Program) (l : Launch) (e : Env) (s : State) (m : MethodId) (args : Array Value) (below : List Frame) (meth : Method) (c : Code) (Q : State → Prop) (A : Nat → Prop) (dC : Nat → ClassId) (dI : Nat → Nat → Nat) (a : Nat → Nat) (ac : Nat → ClassId) (g : Int32 → Int32 → (St × (St)) → Option (Int32 × (St × (St)))) (r : Int32 × (St × (St))) : Prop := ∀ (v0 : Int32) (v1 : Int32) (s0 : St × (St)) (H : Heap) (locs : List Loc) (ls : Array Slot), g v0 v1 s0 = some r → va_P (dC, dI) vwCl (dw_X1 a ac s0) H → va_D A (dw_X1 a ac s0) → va_S A s.heap H locs → lv_has ls 4 [(0, .ref (a 0)), (1, .int v0), (2, .int v1)] → W p l e (headSpec ow_dm_X1_worked ({ frames := 3, cells := 0, slots := 0, locals := 64 })).room s m args below meth c H locs 0 0 Q (F0 m 0 ls [])
set_option maxHeartbeats 40000000 in
set_option maxRecDepth 100000 in
theorem db_X1_worked_31 {p : Program} {l : Launch} {e : Env} {s : State} {m : MethodId} {args : Array Value} {below : List Frame} {meth : Method} {c : Code} {Q : State → Prop} {A : Nat → Prop} {dC : Nat → ClassId} {dI : Nat → Nat → Nat} {a : Nat → Nat} {ac : Nat → ClassId} {n : Nat} {r : Int32 × (St × (St))} (C : nd_C p l s m args c A (dC, dI) cX1_worked 4 RX1 ow_dm_X1_worked (dk_X1 ac)) (K : nd_Ki p l e (headSpec ow_dm_X1_worked ({ frames := 3, cells := 0, slots := 0, locals := 64 })).room s m args below meth c Q A (dC, dI) cX1_worked .int (St × (St)) (dw_X1 a ac) r) : dj_X1_worked_31 p l e s m args below meth c Q A dC dI a ac (df_X1_worked_31 n) r := by
  obtain ⟨hlt, hx, hb, hml, hown, hts, hN, hA, hK⟩ := id C
  intro x3 s0 H locs ls h hP hD hS hl
  unfold df_X1_worked_31 at h
  refine lv_iload_n hx hb dX1_worked_31 rfl (lv_at hl 0 rfl) ?_
  exact K _ _ _ _ _ _ dX1_worked_32 rfl (Option.some.inj h).symm hP hD hS
set_option maxHeartbeats 40000000 in
set_option maxRecDepth 100000 in
theorem db_X1_worked_0 {p : Program} {l : Launch} {e : Env} {s : State} {m : MethodId} {args : Array Value} {below : List Frame} {meth : Method} {c : Code} {Q : State → Prop} {A : Nat → Prop} {dC : Nat → ClassId} {dI : Nat → Nat → Nat} {a : Nat → Nat} {ac : Nat → ClassId} {n : Nat} {r : Int32 × (St × (St))} (C : nd_C p l s m args c A (dC, dI) cX1_worked 4 RX1 ow_dm_X1_worked (dk_X1 ac)) (K : nd_Ki p l e (headSpec ow_dm_X1_worked ({ frames := 3, cells := 0, slots := 0, locals := 64 })).room s m args below meth c Q A (dC, dI) cX1_worked .int (St × (St)) (dw_X1 a ac) r) : dj_X1_worked_0 p l e s m args below meth c Q A dC dI a ac (df_X1_worked_0 n) r := by
  obtain ⟨hlt, hx, hb, hml, hown, hts, hN, hA, hK⟩ := id C
  intro v0 v1 s0 H locs ls h hP hD hS hl
  unfold df_X1_worked_0 at h
  refine lv_aload_n hx hb dX1_worked_0 rfl (lv_at hl 0 rfl) ?_
  refine va_get (D := (dC, dI)) (ci := 2) (v := .ref (a 3)) (C := RX1) (T := TX1) (N := 13) hx hb hts hi_dm_X1_worked_X1 hown hK hP 0 rfl rfl 0 (by decide) (hts (.fieldLink RX1 12 "TimeMachine$Assembler" "reader" "LTimeMachine$Reader;") (List.mem_of_getElem? (i := 1) rfl)) (fun _ h9 => h9) rfl dX1_worked_1 ?_
  refine lv_iload_n hx hb dX1_worked_4 rfl (lv_at hl 1 rfl) ?_
  refine lv_iload_n hx hb dX1_worked_5 rfl (lv_at hl 2 rfl) ?_
  obtain ⟨q1, s2, hq, h⟩ := nd_b2_e h
  have hPc := dp_X1_3 hP
  have hDc := dd_X1_3 hD
  have hKc := dy_X1_3 hK
  have hFc := nd_rs hDc hS hA
  have hzA : ∀ q : Nat, H.size ≤ q → A q := fun q h => hA q (Nat.le_trans hS.1 h)
  refine nd_cVi (As := [.int v0, .int v1]) (rest := []) (q := q1) (w' := dw_X9 (fun k => a (k + 3)) (fun k => ac (k + 3)) s2) ⟨hx, hb, hml, hown, hts⟩ (fun sz => dm_X9_evaluate l hlt dC dI (fun k => a (k + 3)) (fun k => ac (k + 3)) n (v0) (v1) s0.2 hq sz) (cwV 2 hts gi_dm_X1_worked_0 rfl rfl rfl (by decide +kernel) ⟨Nat.le_of_ble_eq_true rfl, Nat.le_of_ble_eq_true rfl⟩) hPc hDc hKc hS hA hN (va_recv hKc hPc (ci := 10) (q0 := 0) rfl rfl) rfl hl.1 rfl (Nat.le_of_ble_eq_true rfl) dX1_worked_6 (fun H locs hP1 hD1 hk1 hS => ?_)
  obtain ⟨hP, hD⟩ := dn_X1_3 hP hD hzA hk1 hP1 hD1
  obtain ⟨s4, es4, h⟩ := nd_let_e h
  have hP : va_P (dC, dI) vwCl (dw_X1 a ac s4) H := by rw [es4]; exact hP
  have hD : va_D A (dw_X1 a ac s4) := by rw [es4]; exact hD
  refine lv_istore_n (lv' := [(3, .int q1), (0, .ref (a 0)), (1, .int v0), (2, .int v1)]) hx hb dX1_worked_9 rfl hl (by decide) rfl (fun ls hl => ?_)
  refine lv_aload_n hx hb dX1_worked_10 rfl (lv_at hl 1 rfl) ?_
  refine va_get (D := (dC, dI)) (ci := 2) (v := .ref (a 3)) (C := RX1) (T := TX1) (N := 13) hx hb hts hi_dm_X1_worked_X1 hown hK hP 0 rfl rfl 0 (by decide) (hts (.fieldLink RX1 12 "TimeMachine$Assembler" "reader" "LTimeMachine$Reader;") (List.mem_of_getElem? (i := 1) rfl)) (fun _ h9 => h9) rfl dX1_worked_11 ?_
  refine va_get (D := (dC, dI)) (ci := 10) (v := .int (sI s4.2 11)) (C := RX9) (T := TX9) (N := 20) hx hb hts hi_dm_X1_worked_X9 hown hK hP 3 rfl rfl 19 (by decide) (hts (.fieldLink RX1 223 "TimeMachine$Reader" "trouble" "I") (List.mem_of_getElem? (i := 6) rfl)) (fun _ h9 => h9) rfl dX1_worked_14 ?_
  refine lv_if_eq (tgt := 31) hx hb dX1_worked_17 (by decide) (fun c5 => ?_) (fun c5 => ?_)
  · have h := nd_pos h c5
    exact (db_X1_worked_31 C K) (q1) s4 _ _ _ h hP hD hS (lv_sub hl [0] rfl)
  · have h := nd_neg h c5
    refine lv_aload_n hx hb dX1_worked_20 rfl (lv_at hl 1 rfl) ?_
    refine lv_aload_n hx hb dX1_worked_21 rfl (lv_at hl 1 rfl) ?_
    refine va_get (D := (dC, dI)) (ci := 2) (v := .ref (a 3)) (C := RX1) (T := TX1) (N := 13) hx hb hts hi_dm_X1_worked_X1 hown hK hP 0 rfl rfl 0 (by decide) (hts (.fieldLink RX1 12 "TimeMachine$Assembler" "reader" "LTimeMachine$Reader;") (List.mem_of_getElem? (i := 1) rfl)) (fun _ h9 => h9) rfl dX1_worked_22 ?_
    refine va_get (D := (dC, dI)) (ci := 10) (v := .int (sI s4.2 11)) (C := RX9) (T := TX9) (N := 20) hx hb hts hi_dm_X1_worked_X9 hown hK hP 3 rfl rfl 19 (by decide) (hts (.fieldLink RX1 223 "TimeMachine$Reader" "trouble" "I") (List.mem_of_getElem? (i := 6) rfl)) (fun _ h9 => h9) rfl dX1_worked_25 ?_
    obtain ⟨s7, hq, h⟩ := nd_b1_e h
    have hPc := hP
    have hDc := hD
    have hKc := hK
    have hFc := nd_rs hD hS hA
    refine nd_cVv (As := [.int (sI s4.2 11)]) (rest := []) (w' := dw_X1 a ac s7) ⟨hx, hb, hml, hown, hts⟩ (fun sz => dm_X1_blame l hlt dC dI a ac n ((sI s4.2 11)) s4 hq sz) (cwV 1 hts gi_dm_X1_worked_1 rfl rfl rfl (by decide +kernel) ⟨Nat.le_of_ble_eq_true rfl, Nat.le_of_ble_eq_true rfl⟩) hPc hDc hKc hS hA hN (va_recv hKc hPc (ci := 2) (q0 := 0) rfl rfl) rfl hl.1 rfl (Nat.le_of_ble_eq_true rfl) dX1_worked_28 (fun H locs hP1 hD1 hk1 hS => ?_)
    have hP := hP1
    have hD := hD1.weaken (fun k q _ h => hFc q.1 h)
    exact (db_X1_worked_31 C K) (q1) s7 _ _ _ h hP hD hS (lv_sub hl [0] rfl)
set_option maxHeartbeats 40000000 in
set_option maxRecDepth 100000 in
theorem dm_X1_worked (l : Launch) (hlt : l.stackTraces = false) (dC : Nat → ClassId) (dI : Nat → Nat → Nat) (a : Nat → Nat) (ac : Nat → ClassId) (n : Nat) (v0 : Int32) (v1 : Int32) (s0 : St × (St)) {r : Int32 × (St × (St))} (h : df_X1_worked n v0 v1 s0 = some r) (sz : Nat) : Met l yX1_worked ow_dm_X1_worked ({ frames := 3, cells := 0, slots := 0, locals := 64 }) (va_Pc [.ref (a 0), .int v0, .int v1] (fun U => U.heap.size = sz ∧ va_P (dC, dI) vwCl (dw_X1 a ac s0) U.heap ∧ va_K (dC, dI) vwCl (dk_X1 ac) U ∧ va_D (fun _ => True) (dw_X1 a ac s0) ∧ nv_E (va_A (dw_X1 a ac s0) sz) U)) (va_Qi (fun x _ => x = r.1) (fun (_ : Unit) t => va_P (dC, dI) vwCl (dw_X1 a ac r.2) t.heap ∧ va_K (dC, dI) vwCl (dk_X1 ac) t ∧ va_D (va_A (dw_X1 a ac s0) sz) (dw_X1 a ac r.2)) (va_A (dw_X1 a ac s0) sz)) 0 0 (va_A (dw_X1 a ac s0) sz) := by
  refine Met.ofW (cc := cX1_worked) (maxL := 4) (ret := (some .int)) (by decide) rfl ?_
  intro p e s m args below meth c s₁ B hml hv
  obtain ⟨rfl, hsz, hP, hK, hD0, hN⟩ := hv
  have hx := B.exec
  have hb := B.bytes
  have hr := B.returns
  have hts := atoms_spec (ws := ow_dm_X1_worked) B.pre
  have hown : s.vm.findClass RX1 = some m.cls := findClass_of_methodNamed B.named
  have hlocks := B.notSynchronized
  subst hsz
  have hD := hD0.self (sz := s.heap.size)
  generalize hAe : va_A (dw_X1 a ac s0) s.heap.size = A at hD hN ⊢
  have hA : ∀ q : Nat, s.heap.size ≤ q → A q := fun q h => by rw [← hAe]; exact Or.inr h
  have hl := lv_entry ([.ref (a 0), .int v0, .int v1]) (n := 4) (Nat.le_of_ble_eq_true rfl)
  rw [lg_entry_eq]
  generalize (lg_sl ([.ref (a 0), .int v0, .int v1]) ++ List.replicate (4 - (lg_sl ([.ref (a 0), .int v0, .int v1])).length) Slot.unset).toArray = ls at hl ⊢
  have hl : lv_has ls 4 [(0, .ref (a 0)), (1, .int v0), (2, .int v1)] := hl
  exact db_X1_worked_0 (dC := dC) (dI := dI) (a := a) (ac := ac) (n := n) (r := r) ⟨hlt, hx, hb, hml, hown, hts, hN, hA, hK⟩ (fun pc v τ H locs ls d z er hP hD hS => by subst er; exact W.zret (v := v) hx hb hr z (fun t ht hW => ⟨⟨v, (), rfl, rfl, by rw [ht]; exact hP, va_K.moved hW.alike hK, hD⟩, hS.F ht⟩) hS.2.2 d) v0 v1 s0 _ _ _ h hP hD va_S.rf (lv_sub hl [0, 1, 2] rfl)
def ow_dm_X1_checked : List Cond := .code yX1_checked cX1_checked 3 (some .int) :: ([.methodLink RX1 257 yX7_fits, .static yX7_fits, .initialized RX7, .methodLink RX1 261 yX7_placed, .static yX7_placed, .methodLink RX1 77 yX1_blame, .instanceMethod yX1_blame, .selects RX1 yX1_blame yX1_blame, .initialized RX1] ++ (ow_dm_X7_fits ++ (ow_dm_X7_placed ++ (ow_dm_X1_blame ++ []))))
theorem gd_dm_X1_checked : ∀ w ∈ ow_dm_X1_checked, (w.onTables && w.keeps) = true ∨ ∃ ty, w = Cond.arrayClass ty := List.forall_mem_cons.mpr ⟨good_of_word rfl, List.forall_mem_append.mpr ⟨fun w h => good_of_word (List.all_eq_true.mp (by decide +kernel) w h), List.forall_mem_append.mpr ⟨gd_dm_X7_fits, List.forall_mem_append.mpr ⟨gd_dm_X7_placed, List.forall_mem_append.mpr ⟨gd_dm_X1_blame, fun _ h => nomatch h⟩⟩⟩⟩⟩
theorem gi_dm_X1_checked_0 : GoodIn ow_dm_X1_checked (va_wsS RX1 257 yX7_fits ow_dm_X7_fits) := goodIn_app (goodIn_of _ (by decide +kernel)) (fun w h => ⟨List.mem_cons_of_mem _ (List.mem_append_right _ (List.mem_append_left _ h)), gd_dm_X7_fits w h⟩)
theorem gi_dm_X1_checked_1 : GoodIn ow_dm_X1_checked (va_wsS RX1 261 yX7_placed ow_dm_X7_placed) := goodIn_app (goodIn_of _ (by decide +kernel)) (fun w h => ⟨List.mem_cons_of_mem _ (List.mem_append_right _ (List.mem_append_right _ (List.mem_append_left _ h))), gd_dm_X7_placed w h⟩)
theorem gi_dm_X1_checked_2 : GoodIn ow_dm_X1_checked (wsV RX1 77 RX1 yX1_blame ow_dm_X1_blame) := goodIn_app (goodIn_of _ (by decide +kernel)) (fun w h => ⟨List.mem_cons_of_mem _ (List.mem_append_right _ (List.mem_append_right _ (List.mem_append_right _ (List.mem_append_left _ h)))), gd_dm_X1_blame w h⟩)
def dj_X1_checked_14 (p : Program) (l : Launch) (e : Env) (s : State) (m : MethodId) (args : Array Value) (below : List Frame) (meth : Method) (c : Code) (Q : State → Prop) (A : Nat → Prop) (dC : Nat → ClassId) (dI : Nat → Nat → Nat) (a : Nat → Nat) (ac : Nat → ClassId) (g : Int32 → Int32 → (St × (St)) → Option (Int32 × (St × (St)))) (r : Int32 × (St × (St))) : Prop := ∀ (x1 : Int32) (x2 : Int32) (s0 : St × (St)) (H : Heap) (locs : List Loc) (ls : Array Slot), g x1 x2 s0 = some r → va_P (dC, dI) vwCl (dw_X1 a ac s0) H → va_D A (dw_X1 a ac s0) → va_S A s.heap H locs → lv_has ls 3 [(1, .int x1), (2, .int x2)] → W p l e (headSpec ow_dm_X1_checked ({ frames := 3, cells := 0, slots := 0, locals := 65 })).room s m args below meth c H locs 0 0 Q (F0 m 14 ls [])
def dj_X1_checked_0 (p : Program) (l : Launch) (e : Env) (s : State) (m : MethodId) (args : Array Value) (below : List Frame) (meth : Method) (c : Code) (Q : State → Prop) (A : Nat → Prop) (dC : Nat → ClassId) (dI : Nat → Nat → Nat) (a : Nat → Nat) (ac : Nat → ClassId) (g : Int32 → Int32 → (St × (St)) → Option (Int32 × (St × (St)))) (r : Int32 × (St × (St))) : Prop := ∀ (v0 : Int32) (v1 : Int32) (s0 : St × (St)) (H : Heap) (locs : List Loc) (ls : Array Slot), g v0 v1 s0 = some r → va_P (dC, dI) vwCl (dw_X1 a ac s0) H → va_D A (dw_X1 a ac s0) → va_S A s.heap H locs → lv_has ls 3 [(0, .ref (a 0)), (1, .int v0), (2, .int v1)] → W p l e (headSpec ow_dm_X1_checked ({ frames := 3, cells := 0, slots := 0, locals := 65 })).room s m args below meth c H locs 0 0 Q (F0 m 0 ls [])
