set_option maxHeartbeats 40000000 in
set_option maxRecDepth 100000 in
theorem db_X7_taken_0 {p : Program} {l : Launch} {e : Env} {s : State} {m : MethodId} {args : Array Value} {below : List Frame} {meth : Method} {c : Code} {Q : State → Prop} {A : Nat → Prop} {dC : Nat → ClassId} {dI : Nat → Nat → Nat} {a : Nat → Nat} {ac : Nat → ClassId} {n : Nat} {r : Int32 × (Unit)} (C : nd_C p l s m args c A (dC, dI) cX7_taken 2 RX7 ow_dm_X7_taken (dk_P ac)) (K : nd_Ki p l e (headSpec ow_dm_X7_taken ({ frames := 4, cells := 0, slots := 0, locals := 90 })).room s m args below meth c Q A (dC, dI) cX7_taken .int (Unit) (dw_P a ac) r) : dj_X7_taken_0 p l e s m args below meth c Q A dC dI a ac (df_X7_taken_0 n) r := by
  obtain ⟨hlt, hx, hb, hml, hown, hts, hN, hA, hK⟩ := id C
  intro v0 v1 s0 H locs ls h hP hD hS hl
  unfold df_X7_taken_0 at h
  refine lv_iload_n hx hb dX7_taken_0 rfl (lv_at hl 0 rfl) ?_
  by_cases c1 : v0 = 97
  · have h := nd_pos h c1
    refine lv_tableIn (off := 127) (tgt := 128) hx hb dX7_taken_1 (by rw [c1]; decide) (by rw [c1]; decide) (by rw [c1]; decide) (by decide) ?_
    refine lv_iload_n hx hb dX7_taken_128 rfl (lv_at hl 1 rfl) ?_
    refine lv_bipush (v := 15) hx hb dX7_taken_129 (by decide) ?_
    refine lv_ishr hx hb dX7_taken_131 ?_
    refine lv_bipush (v := 31) hx hb dX7_taken_132 (by decide) ?_
    refine lv_iand hx hb dX7_taken_134 ?_
    exact K _ _ _ _ _ _ dX7_taken_135 rfl (Option.some.inj h).symm hP hD hS
  have h := nd_neg h c1
  by_cases c2 : v0 = 98
  · have h := nd_pos h c2
    refine lv_tableIn (off := 135) (tgt := 136) hx hb dX7_taken_1 (by rw [c2]; decide) (by rw [c2]; decide) (by rw [c2]; decide) (by decide) ?_
    refine lv_iload_n hx hb dX7_taken_136 rfl (lv_at hl 1 rfl) ?_
    refine lv_bipush (v := 20) hx hb dX7_taken_137 (by decide) ?_
    refine lv_ishr hx hb dX7_taken_139 ?_
    refine lv_bipush (v := 31) hx hb dX7_taken_140 (by decide) ?_
    refine lv_iand hx hb dX7_taken_142 ?_
    exact K _ _ _ _ _ _ dX7_taken_143 rfl (Option.some.inj h).symm hP hD hS
  have h := nd_neg h c2
  by_cases c3 : v0 = 99
  · have h := nd_pos h c3
    refine lv_tableIn (off := 171) (tgt := 172) hx hb dX7_taken_1 (by rw [c3]; decide) (by rw [c3]; decide) (by rw [c3]; decide) (by decide) ?_
    exact (db_X7_taken_172 C K) (v0) (v1) s0 _ _ _ h hP hD hS (lv_sub hl [0, 1] rfl)
  have h := nd_neg h c3
  by_cases c7 : v0 = 100
  · have h := nd_pos h c7
    refine lv_tableIn (off := 119) (tgt := 120) hx hb dX7_taken_1 (by rw [c7]; decide) (by rw [c7]; decide) (by rw [c7]; decide) (by decide) ?_
    exact (db_X7_taken_120 C K) (v1) s0 _ _ _ h hP hD hS (lv_sub hl [1] rfl)
  have h := nd_neg h c7
  by_cases c8 : v0 = 101
  · have h := nd_pos h c8
    refine lv_tableIn (off := 171) (tgt := 172) hx hb dX7_taken_1 (by rw [c8]; decide) (by rw [c8]; decide) (by rw [c8]; decide) (by decide) ?_
    exact (db_X7_taken_172 C K) (v0) (v1) s0 _ _ _ h hP hD hS (lv_sub hl [0, 1] rfl)
  have h := nd_neg h c8
  by_cases c9 : v0 = 102
  · have h := nd_pos h c9
    refine lv_tableIn (off := 171) (tgt := 172) hx hb dX7_taken_1 (by rw [c9]; decide) (by rw [c9]; decide) (by rw [c9]; decide) (by decide) ?_
    exact (db_X7_taken_172 C K) (v0) (v1) s0 _ _ _ h hP hD hS (lv_sub hl [0, 1] rfl)
  have h := nd_neg h c9
  by_cases c10 : v0 = 103
  · have h := nd_pos h c10
    refine lv_tableIn (off := 171) (tgt := 172) hx hb dX7_taken_1 (by rw [c10]; decide) (by rw [c10]; decide) (by rw [c10]; decide) (by decide) ?_
    exact (db_X7_taken_172 C K) (v0) (v1) s0 _ _ _ h hP hD hS (lv_sub hl [0, 1] rfl)
  have h := nd_neg h c10
  by_cases c11 : v0 = 104
  · have h := nd_pos h c11
    refine lv_tableIn (off := 171) (tgt := 172) hx hb dX7_taken_1 (by rw [c11]; decide) (by rw [c11]; decide) (by rw [c11]; decide) (by decide) ?_
    exact (db_X7_taken_172 C K) (v0) (v1) s0 _ _ _ h hP hD hS (lv_sub hl [0, 1] rfl)
  have h := nd_neg h c11
  by_cases c12 : v0 = 105
  · have h := nd_pos h c12
    refine lv_tableIn (off := 171) (tgt := 172) hx hb dX7_taken_1 (by rw [c12]; decide) (by rw [c12]; decide) (by rw [c12]; decide) (by decide) ?_
    exact (db_X7_taken_172 C K) (v0) (v1) s0 _ _ _ h hP hD hS (lv_sub hl [0, 1] rfl)
  have h := nd_neg h c12
  by_cases c13 : v0 = 106
  · have h := nd_pos h c13
    refine lv_tableIn (off := 171) (tgt := 172) hx hb dX7_taken_1 (by rw [c13]; decide) (by rw [c13]; decide) (by rw [c13]; decide) (by decide) ?_
    exact (db_X7_taken_172 C K) (v0) (v1) s0 _ _ _ h hP hD hS (lv_sub hl [0, 1] rfl)
  have h := nd_neg h c13
  by_cases c14 : v0 = 107
  · have h := nd_pos h c14
    refine lv_tableIn (off := 171) (tgt := 172) hx hb dX7_taken_1 (by rw [c14]; decide) (by rw [c14]; decide) (by rw [c14]; decide) (by decide) ?_
    exact (db_X7_taken_172 C K) (v0) (v1) s0 _ _ _ h hP hD hS (lv_sub hl [0, 1] rfl)
  have h := nd_neg h c14
  by_cases c15 : v0 = 108
  · have h := nd_pos h c15
    refine lv_tableIn (off := 171) (tgt := 172) hx hb dX7_taken_1 (by rw [c15]; decide) (by rw [c15]; decide) (by rw [c15]; decide) (by decide) ?_
    exact (db_X7_taken_172 C K) (v0) (v1) s0 _ _ _ h hP hD hS (lv_sub hl [0, 1] rfl)
  have h := nd_neg h c15
  by_cases c16 : v0 = 109
  · have h := nd_pos h c16
    refine lv_tableIn (off := 119) (tgt := 120) hx hb dX7_taken_1 (by rw [c16]; decide) (by rw [c16]; decide) (by rw [c16]; decide) (by decide) ?_
    exact (db_X7_taken_120 C K) (v1) s0 _ _ _ h hP hD hS (lv_sub hl [1] rfl)
  have h := nd_neg h c16
  by_cases c17 : v0 = 110
  · have h := nd_pos h c17
    refine lv_tableIn (off := 119) (tgt := 120) hx hb dX7_taken_1 (by rw [c17]; decide) (by rw [c17]; decide) (by rw [c17]; decide) (by decide) ?_
    exact (db_X7_taken_120 C K) (v1) s0 _ _ _ h hP hD hS (lv_sub hl [1] rfl)
  have h := nd_neg h c17
  by_cases c18 : v0 = 111
  · have h := nd_pos h c18
    refine lv_tableIn (off := 171) (tgt := 172) hx hb dX7_taken_1 (by rw [c18]; decide) (by rw [c18]; decide) (by rw [c18]; decide) (by decide) ?_
    exact (db_X7_taken_172 C K) (v0) (v1) s0 _ _ _ h hP hD hS (lv_sub hl [0, 1] rfl)
  have h := nd_neg h c18
  by_cases c19 : v0 = 112
  · have h := nd_pos h c19
    refine lv_tableIn (off := 150) (tgt := 151) hx hb dX7_taken_1 (by rw [c19]; decide) (by rw [c19]; decide) (by rw [c19]; decide) (by decide) ?_
    refine lv_bipush (v := 8) hx hb dX7_taken_151 (by decide) ?_
    refine lv_iload_n hx hb dX7_taken_153 rfl (lv_at hl 1 rfl) ?_
    refine lv_iconst (v := 2) hx hb dX7_taken_154 (by decide) ?_
    refine lv_ishr hx hb dX7_taken_155 ?_
    refine lv_bipush (v := 7) hx hb dX7_taken_156 (by decide) ?_
    refine lv_iand hx hb dX7_taken_158 ?_
    refine lv_iadd hx hb dX7_taken_159 ?_
    exact K _ _ _ _ _ _ dX7_taken_160 rfl (Option.some.inj h).symm hP hD hS
  have h := nd_neg h c19
  by_cases c20 : v0 = 113
  · have h := nd_pos h c20
    refine lv_tableIn (off := 160) (tgt := 161) hx hb dX7_taken_1 (by rw [c20]; decide) (by rw [c20]; decide) (by rw [c20]; decide) (by decide) ?_
    refine lv_bipush (v := 8) hx hb dX7_taken_161 (by decide) ?_
    refine lv_iload_n hx hb dX7_taken_163 rfl (lv_at hl 1 rfl) ?_
    refine lv_bipush (v := 7) hx hb dX7_taken_164 (by decide) ?_
    refine lv_ishr hx hb dX7_taken_166 ?_
    refine lv_bipush (v := 7) hx hb dX7_taken_167 (by decide) ?_
    refine lv_iand hx hb dX7_taken_169 ?_
    refine lv_iadd hx hb dX7_taken_170 ?_
    exact K _ _ _ _ _ _ dX7_taken_171 rfl (Option.some.inj h).symm hP hD hS
  have h := nd_neg h c20
  by_cases c21 : v0 = 114
  · have h := nd_pos h c21
    refine lv_tableIn (off := 171) (tgt := 172) hx hb dX7_taken_1 (by rw [c21]; decide) (by rw [c21]; decide) (by rw [c21]; decide) (by decide) ?_
    exact (db_X7_taken_172 C K) (v0) (v1) s0 _ _ _ h hP hD hS (lv_sub hl [0, 1] rfl)
  have h := nd_neg h c21
  by_cases c22 : v0 = 115
  · have h := nd_pos h c22
    refine lv_tableIn (off := 143) (tgt := 144) hx hb dX7_taken_1 (by rw [c22]; decide) (by rw [c22]; decide) (by rw [c22]; decide) (by decide) ?_
    exact (db_X7_taken_144 C K) (v1) s0 _ _ _ h hP hD hS (lv_sub hl [1] rfl)
  have h := nd_neg h c22
  by_cases c23 : v0 = 116
  · have h := nd_pos h c23
    refine lv_tableIn (off := 171) (tgt := 172) hx hb dX7_taken_1 (by rw [c23]; decide) (by rw [c23]; decide) (by rw [c23]; decide) (by decide) ?_
    exact (db_X7_taken_172 C K) (v0) (v1) s0 _ _ _ h hP hD hS (lv_sub hl [0, 1] rfl)
  have h := nd_neg h c23
  by_cases c24 : v0 = 117
  · have h := nd_pos h c24
    refine lv_tableIn (off := 171) (tgt := 172) hx hb dX7_taken_1 (by rw [c24]; decide) (by rw [c24]; decide) (by rw [c24]; decide) (by decide) ?_
    exact (db_X7_taken_172 C K) (v0) (v1) s0 _ _ _ h hP hD hS (lv_sub hl [0, 1] rfl)
  have h := nd_neg h c24
  by_cases c25 : v0 = 118
  · have h := nd_pos h c25
    refine lv_tableIn (off := 171) (tgt := 172) hx hb dX7_taken_1 (by rw [c25]; decide) (by rw [c25]; decide) (by rw [c25]; decide) (by decide) ?_
    exact (db_X7_taken_172 C K) (v0) (v1) s0 _ _ _ h hP hD hS (lv_sub hl [0, 1] rfl)
  have h := nd_neg h c25
  by_cases c26 : v0 = 119
  · have h := nd_pos h c26
    refine lv_tableIn (off := 171) (tgt := 172) hx hb dX7_taken_1 (by rw [c26]; decide) (by rw [c26]; decide) (by rw [c26]; decide) (by decide) ?_
    exact (db_X7_taken_172 C K) (v0) (v1) s0 _ _ _ h hP hD hS (lv_sub hl [0, 1] rfl)
  have h := nd_neg h c26
  by_cases c27 : v0 = 120
  · have h := nd_pos h c27
    refine lv_tableIn (off := 171) (tgt := 172) hx hb dX7_taken_1 (by rw [c27]; decide) (by rw [c27]; decide) (by rw [c27]; decide) (by decide) ?_
    exact (db_X7_taken_172 C K) (v0) (v1) s0 _ _ _ h hP hD hS (lv_sub hl [0, 1] rfl)
  have h := nd_neg h c27
  by_cases c28 : v0 = 121
  · have h := nd_pos h c28
    refine lv_tableIn (off := 171) (tgt := 172) hx hb dX7_taken_1 (by rw [c28]; decide) (by rw [c28]; decide) (by rw [c28]; decide) (by decide) ?_
    exact (db_X7_taken_172 C K) (v0) (v1) s0 _ _ _ h hP hD hS (lv_sub hl [0, 1] rfl)
  have h := nd_neg h c28
  by_cases c29 : v0 = 122
  · have h := nd_pos h c29
    refine lv_tableIn (off := 143) (tgt := 144) hx hb dX7_taken_1 (by rw [c29]; decide) (by rw [c29]; decide) (by rw [c29]; decide) (by decide) ?_
    exact (db_X7_taken_144 C K) (v1) s0 _ _ _ h hP hD hS (lv_sub hl [1] rfl)
  have h := nd_neg h c29
  refine lv_tableOut (tgt := 172) hx hb dX7_taken_1 (by have g0 := nv_nei c1 (k := 97) (by decide); have g1 := nv_nei c2 (k := 98) (by decide); have g2 := nv_nei c3 (k := 99) (by decide); have g3 := nv_nei c7 (k := 100) (by decide); have g4 := nv_nei c8 (k := 101) (by decide); have g5 := nv_nei c9 (k := 102) (by decide); have g6 := nv_nei c10 (k := 103) (by decide); have g7 := nv_nei c11 (k := 104) (by decide); have g8 := nv_nei c12 (k := 105) (by decide); have g9 := nv_nei c13 (k := 106) (by decide); have g10 := nv_nei c14 (k := 107) (by decide); have g11 := nv_nei c15 (k := 108) (by decide); have g12 := nv_nei c16 (k := 109) (by decide); have g13 := nv_nei c17 (k := 110) (by decide); have g14 := nv_nei c18 (k := 111) (by decide); have g15 := nv_nei c19 (k := 112) (by decide); have g16 := nv_nei c20 (k := 113) (by decide); have g17 := nv_nei c21 (k := 114) (by decide); have g18 := nv_nei c22 (k := 115) (by decide); have g19 := nv_nei c23 (k := 116) (by decide); have g20 := nv_nei c24 (k := 117) (by decide); have g21 := nv_nei c25 (k := 118) (by decide); have g22 := nv_nei c26 (k := 119) (by decide); have g23 := nv_nei c27 (k := 120) (by decide); have g24 := nv_nei c28 (k := 121) (by decide); have g25 := nv_nei c29 (k := 122) (by decide); omega) (by decide) ?_
  exact (db_X7_taken_172 C K) (v0) (v1) s0 _ _ _ h hP hD hS (lv_sub hl [0, 1] rfl)
set_option maxHeartbeats 40000000 in
set_option maxRecDepth 100000 in
theorem dm_X7_taken (l : Launch) (hlt : l.stackTraces = false) (dC : Nat → ClassId) (dI : Nat → Nat → Nat) (a : Nat → Nat) (ac : Nat → ClassId) (n : Nat) (v0 : Int32) (v1 : Int32) (s0 : Unit) {r : Int32 × (Unit)} (h : df_X7_taken n v0 v1 s0 = some r) (sz : Nat) : Met l yX7_taken ow_dm_X7_taken ({ frames := 4, cells := 0, slots := 0, locals := 90 }) (va_Pc [.int v0, .int v1] (fun U => U.heap.size = sz ∧ va_P (dC, dI) vwCl (dw_P a ac s0) U.heap ∧ va_K (dC, dI) vwCl (dk_P ac) U ∧ va_D (fun _ => True) (dw_P a ac s0) ∧ nv_E (va_A (dw_P a ac s0) sz) U)) (va_Qi (fun x _ => x = r.1) (fun (_ : Unit) t => va_P (dC, dI) vwCl (dw_P a ac r.2) t.heap ∧ va_K (dC, dI) vwCl (dk_P ac) t ∧ va_D (va_A (dw_P a ac s0) sz) (dw_P a ac r.2)) (va_A (dw_P a ac s0) sz)) 0 0 (va_A (dw_P a ac s0) sz) := by
  refine Met.ofW (cc := cX7_taken) (maxL := 2) (ret := (some .int)) (by decide) rfl ?_
  intro p e s m args below meth c s₁ B hml hv
  obtain ⟨rfl, hsz, hP, hK, hD0, hN⟩ := hv
  have hx := B.exec
  have hb := B.bytes
  have hr := B.returns
  have hts := atoms_spec (ws := ow_dm_X7_taken) B.pre
  have hown : s.vm.findClass RX7 = some m.cls := findClass_of_methodNamed B.named
  have hlocks := B.notSynchronized
  subst hsz
  have hD := hD0.self (sz := s.heap.size)
  generalize hAe : va_A (dw_P a ac s0) s.heap.size = A at hD hN ⊢
  have hA : ∀ q : Nat, s.heap.size ≤ q → A q := fun q h => by rw [← hAe]; exact Or.inr h
  have hl := lv_entry ([.int v0, .int v1]) (n := 2) (Nat.le_of_ble_eq_true rfl)
  rw [lg_entry_eq]
  generalize (lg_sl ([.int v0, .int v1]) ++ List.replicate (2 - (lg_sl ([.int v0, .int v1])).length) Slot.unset).toArray = ls at hl ⊢
  have hl : lv_has ls 2 [(0, .int v0), (1, .int v1)] := hl
  exact db_X7_taken_0 (dC := dC) (dI := dI) (a := a) (ac := ac) (n := n) (r := r) ⟨hlt, hx, hb, hml, hown, hts, hN, hA, hK⟩ (fun pc v τ H locs ls d z er hP hD hS => by subst er; exact W.zret (v := v) hx hb hr z (fun t ht hW => ⟨⟨v, (), rfl, rfl, by rw [ht]; exact hP, va_K.moved hW.alike hK, hD⟩, hS.F ht⟩) hS.2.2 d) v0 v1 s0 _ _ _ h hP hD va_S.rf (lv_sub hl [0, 1] rfl)
def ow_dm_X8_startDescription : List Cond := .code yX8_startDescription cX8_startDescription 4 none :: ([.fieldLink RX8 28 "TimeMachine$Program" "textSize" "I", .fieldLink RX8 32 "TimeMachine$Program" "dataStart" "I", .fieldLink RX8 35 "TimeMachine$Program" "size" "I", .fieldLink RX8 38 "TimeMachine$Program" "labels" "I", .fieldLink RX8 41 "TimeMachine$Program" "statements" "I"] ++ (u_ws RX8 TX8 10 ++ []))
theorem gd_dm_X8_startDescription : ∀ w ∈ ow_dm_X8_startDescription, (w.onTables && w.keeps) = true ∨ ∃ ty, w = Cond.arrayClass ty := List.forall_mem_cons.mpr ⟨good_of_word rfl, List.forall_mem_append.mpr ⟨fun w h => good_of_word (List.all_eq_true.mp (by decide +kernel) w h), List.forall_mem_append.mpr ⟨gu_X8, fun _ h => nomatch h⟩⟩⟩
theorem hi_dm_X8_startDescription_X8 : ∀ w ∈ u_ws RX8 TX8 10, w ∈ ow_dm_X8_startDescription := fun w h => List.mem_cons_of_mem _ (List.mem_append_right _ (List.mem_append_left _ h))
def dj_X8_startDescription_0 (p : Program) (l : Launch) (e : Env) (s : State) (m : MethodId) (args : Array Value) (below : List Frame) (meth : Method) (c : Code) (Q : State → Prop) (A : Nat → Prop) (dC : Nat → ClassId) (dI : Nat → Nat → Nat) (a : Nat → Nat) (ac : Nat → ClassId) (g : Int32 → Int32 → Int32 → (St) → Option (St)) (r : St) : Prop := ∀ (v0 : Int32) (v1 : Int32) (v2 : Int32) (s0 : St) (H : Heap) (locs : List Loc) (ls : Array Slot), g v0 v1 v2 s0 = some r → va_P (dC, dI) vwCl (dw_X8 a ac s0) H → va_D A (dw_X8 a ac s0) → va_S A s.heap H locs → lv_has ls 4 [(0, .ref (a 0)), (1, .int v0), (2, .int v1), (3, .int v2)] → W p l e (headSpec ow_dm_X8_startDescription ({ frames := 0, cells := 0, slots := 0, locals := 0 })).room s m args below meth c H locs 0 0 Q (F0 m 0 ls [])
set_option maxHeartbeats 40000000 in
set_option maxRecDepth 100000 in
theorem db_X8_startDescription_0 {p : Program} {l : Launch} {e : Env} {s : State} {m : MethodId} {args : Array Value} {below : List Frame} {meth : Method} {c : Code} {Q : State → Prop} {A : Nat → Prop} {dC : Nat → ClassId} {dI : Nat → Nat → Nat} {a : Nat → Nat} {ac : Nat → ClassId} {n : Nat} {r : St} (C : nd_C p l s m args c A (dC, dI) cX8_startDescription 4 RX8 ow_dm_X8_startDescription (dk_X8 ac)) (K : nd_Kv p l e (headSpec ow_dm_X8_startDescription ({ frames := 0, cells := 0, slots := 0, locals := 0 })).room s m args below meth c Q A (dC, dI) cX8_startDescription (St) (dw_X8 a ac) r) : dj_X8_startDescription_0 p l e s m args below meth c Q A dC dI a ac (df_X8_startDescription_0 n) r := by
  obtain ⟨hlt, hx, hb, hml, hown, hts, hN, hA, hK⟩ := id C
  intro v0 v1 v2 s0 H locs ls h hP hD hS hl
  unfold df_X8_startDescription_0 at h
  refine lv_aload_n hx hb dX8_startDescription_0 rfl (lv_at hl 0 rfl) ?_
  refine lv_iload_n hx hb dX8_startDescription_1 rfl (lv_at hl 1 rfl) ?_
  refine va_put (D := (dC, dI)) (ci := 9) (v := .int v0) (ty := .int) (C := RX8) (T := TX8) (N := 10) hx hb hts hi_dm_X8_startDescription_X8 tyX8 tyX8_ok nmX8 hown hK hP hD hS 0 rfl rfl 1 (by decide) (hts (.fieldLink RX8 28 "TimeMachine$Program" "textSize" "I") (List.mem_of_getElem? (i := 1) rfl)) (fun _ h9 => h9) rfl (by decide +kernel) rfl rfl (Nat.le_of_ble_eq_true rfl) dX8_startDescription_2 (fun H locs hP hD hS => ?_)
  obtain ⟨s1, es1, h⟩ := nd_let_e h
  have hP : va_P (dC, dI) vwCl (dw_X8 a ac s1) H := by rw [es1]; exact hP
  have hD : va_D A (dw_X8 a ac s1) := by rw [es1]; exact hD
  refine lv_aload_n hx hb dX8_startDescription_5 rfl (lv_at hl 0 rfl) ?_
  refine lv_iload_n hx hb dX8_startDescription_6 rfl (lv_at hl 2 rfl) ?_
  refine va_put (D := (dC, dI)) (ci := 9) (v := .int v1) (ty := .int) (C := RX8) (T := TX8) (N := 10) hx hb hts hi_dm_X8_startDescription_X8 tyX8 tyX8_ok nmX8 hown hK hP hD hS 0 rfl rfl 2 (by decide) (hts (.fieldLink RX8 32 "TimeMachine$Program" "dataStart" "I") (List.mem_of_getElem? (i := 2) rfl)) (fun _ h9 => h9) rfl (by decide +kernel) rfl rfl (Nat.le_of_ble_eq_true rfl) dX8_startDescription_7 (fun H locs hP hD hS => ?_)
  obtain ⟨s2, es2, h⟩ := nd_let_e h
  have hP : va_P (dC, dI) vwCl (dw_X8 a ac s2) H := by rw [es2]; exact hP
  have hD : va_D A (dw_X8 a ac s2) := by rw [es2]; exact hD
  refine lv_aload_n hx hb dX8_startDescription_10 rfl (lv_at hl 0 rfl) ?_
  refine lv_iload_n hx hb dX8_startDescription_11 rfl (lv_at hl 3 rfl) ?_
  refine va_put (D := (dC, dI)) (ci := 9) (v := .int v2) (ty := .int) (C := RX8) (T := TX8) (N := 10) hx hb hts hi_dm_X8_startDescription_X8 tyX8 tyX8_ok nmX8 hown hK hP hD hS 0 rfl rfl 3 (by decide) (hts (.fieldLink RX8 35 "TimeMachine$Program" "size" "I") (List.mem_of_getElem? (i := 3) rfl)) (fun _ h9 => h9) rfl (by decide +kernel) rfl rfl (Nat.le_of_ble_eq_true rfl) dX8_startDescription_12 (fun H locs hP hD hS => ?_)
  obtain ⟨s3, es3, h⟩ := nd_let_e h
  have hP : va_P (dC, dI) vwCl (dw_X8 a ac s3) H := by rw [es3]; exact hP
  have hD : va_D A (dw_X8 a ac s3) := by rw [es3]; exact hD
  refine lv_aload_n hx hb dX8_startDescription_15 rfl (lv_at hl 0 rfl) ?_
  refine lv_iconst (v := 0) hx hb dX8_startDescription_16 (by decide) ?_
  refine va_put (D := (dC, dI)) (ci := 9) (v := .int 0) (ty := .int) (C := RX8) (T := TX8) (N := 10) hx hb hts hi_dm_X8_startDescription_X8 tyX8 tyX8_ok nmX8 hown hK hP hD hS 0 rfl rfl 6 (by decide) (hts (.fieldLink RX8 38 "TimeMachine$Program" "labels" "I") (List.mem_of_getElem? (i := 4) rfl)) (fun _ h9 => h9) rfl (by decide +kernel) rfl rfl (Nat.le_of_ble_eq_true rfl) dX8_startDescription_17 (fun H locs hP hD hS => ?_)
  obtain ⟨s4, es4, h⟩ := nd_let_e h
  have hP : va_P (dC, dI) vwCl (dw_X8 a ac s4) H := by rw [es4]; exact hP
  have hD : va_D A (dw_X8 a ac s4) := by rw [es4]; exact hD
  refine lv_aload_n hx hb dX8_startDescription_20 rfl (lv_at hl 0 rfl) ?_
  refine lv_iconst (v := 0) hx hb dX8_startDescription_21 (by decide) ?_
  refine va_put (D := (dC, dI)) (ci := 9) (v := .int 0) (ty := .int) (C := RX8) (T := TX8) (N := 10) hx hb hts hi_dm_X8_startDescription_X8 tyX8 tyX8_ok nmX8 hown hK hP hD hS 0 rfl rfl 9 (by decide) (hts (.fieldLink RX8 41 "TimeMachine$Program" "statements" "I") (List.mem_of_getElem? (i := 5) rfl)) (fun _ h9 => h9) rfl (by decide +kernel) rfl rfl (Nat.le_of_ble_eq_true rfl) dX8_startDescription_22 (fun H locs hP hD hS => ?_)
  obtain ⟨s5, es5, h⟩ := nd_let_e h
  have hP : va_P (dC, dI) vwCl (dw_X8 a ac s5) H := by rw [es5]; exact hP
  have hD : va_D A (dw_X8 a ac s5) := by rw [es5]; exact hD
  exact K _ _ _ _ _ dX8_startDescription_25 (Option.some.inj h).symm hP hD hS
set_option maxHeartbeats 40000000 in
set_option maxRecDepth 100000 in
theorem dm_X8_startDescription (l : Launch) (hlt : l.stackTraces = false) (dC : Nat → ClassId) (dI : Nat → Nat → Nat) (a : Nat → Nat) (ac : Nat → ClassId) (n : Nat) (v0 : Int32) (v1 : Int32) (v2 : Int32) (s0 : St) {r : St} (h : df_X8_startDescription n v0 v1 v2 s0 = some r) (sz : Nat) : Met l yX8_startDescription ow_dm_X8_startDescription ({ frames := 0, cells := 0, slots := 0, locals := 0 }) (va_Pc [.ref (a 0), .int v0, .int v1, .int v2] (fun U => U.heap.size = sz ∧ va_P (dC, dI) vwCl (dw_X8 a ac s0) U.heap ∧ va_K (dC, dI) vwCl (dk_X8 ac) U ∧ va_D (fun _ => True) (dw_X8 a ac s0) ∧ nv_E (va_A (dw_X8 a ac s0) sz) U)) (va_Qv (fun _ => True) (fun (_ : Unit) t => va_P (dC, dI) vwCl (dw_X8 a ac r) t.heap ∧ va_K (dC, dI) vwCl (dk_X8 ac) t ∧ va_D (va_A (dw_X8 a ac s0) sz) (dw_X8 a ac r)) (va_A (dw_X8 a ac s0) sz)) 0 0 (va_A (dw_X8 a ac s0) sz) := by
  refine Met.ofW (cc := cX8_startDescription) (maxL := 4) (ret := none) (by decide) rfl ?_
  intro p e s m args below meth c s₁ B hml hv
  obtain ⟨rfl, hsz, hP, hK, hD0, hN⟩ := hv
  have hx := B.exec
  have hb := B.bytes
  have hr := B.returns
  have hts := atoms_spec (ws := ow_dm_X8_startDescription) B.pre
  have hown : s.vm.findClass RX8 = some m.cls := findClass_of_methodNamed B.named
  have hlocks := B.notSynchronized
  subst hsz
  have hD := hD0.self (sz := s.heap.size)
  generalize hAe : va_A (dw_X8 a ac s0) s.heap.size = A at hD hN ⊢
  have hA : ∀ q : Nat, s.heap.size ≤ q → A q := fun q h => by rw [← hAe]; exact Or.inr h
  have hl := lv_entry ([.ref (a 0), .int v0, .int v1, .int v2]) (n := 4) (Nat.le_of_ble_eq_true rfl)
  rw [lg_entry_eq]
  generalize (lg_sl ([.ref (a 0), .int v0, .int v1, .int v2]) ++ List.replicate (4 - (lg_sl ([.ref (a 0), .int v0, .int v1, .int v2])).length) Slot.unset).toArray = ls at hl ⊢
  have hl : lv_has ls 4 [(0, .ref (a 0)), (1, .int v0), (2, .int v1), (3, .int v2)] := hl
  exact db_X8_startDescription_0 (dC := dC) (dI := dI) (a := a) (ac := ac) (n := n) (r := r) ⟨hlt, hx, hb, hml, hown, hts, hN, hA, hK⟩ (fun pc τ H locs ls d er hP hD hS => by subst er; exact W.vret hx hb hr (fun t ht hW => ⟨⟨(), rfl, trivial, by rw [ht]; exact hP, va_K.moved hW.alike hK, hD⟩, hS.F ht⟩) hS.2.2 d) v0 v1 v2 s0 _ _ _ h hP hD va_S.rf (lv_sub hl [0, 1, 2, 3] rfl)
def ow_dm_X8_addLabel : List Cond := .code yX8_addLabel cX8_addLabel 2 none :: ([.fieldLink RX8 38 "TimeMachine$Program" "labels" "I", .fieldLink RX8 16 "TimeMachine$Program" "label" "[I"] ++ (u_ws RX8 TX8 10 ++ []))
theorem gd_dm_X8_addLabel : ∀ w ∈ ow_dm_X8_addLabel, (w.onTables && w.keeps) = true ∨ ∃ ty, w = Cond.arrayClass ty := List.forall_mem_cons.mpr ⟨good_of_word rfl, List.forall_mem_append.mpr ⟨fun w h => good_of_word (List.all_eq_true.mp (by decide +kernel) w h), List.forall_mem_append.mpr ⟨gu_X8, fun _ h => nomatch h⟩⟩⟩
theorem hi_dm_X8_addLabel_X8 : ∀ w ∈ u_ws RX8 TX8 10, w ∈ ow_dm_X8_addLabel := fun w h => List.mem_cons_of_mem _ (List.mem_append_right _ (List.mem_append_left _ h))
def dj_X8_addLabel_32 (p : Program) (l : Launch) (e : Env) (s : State) (m : MethodId) (args : Array Value) (below : List Frame) (meth : Method) (c : Code) (Q : State → Prop) (A : Nat → Prop) (dC : Nat → ClassId) (dI : Nat → Nat → Nat) (a : Nat → Nat) (ac : Nat → ClassId) (g : (St) → Option (St)) (r : St) : Prop := ∀ (s0 : St) (H : Heap) (locs : List Loc) (ls : Array Slot), g s0 = some r → va_P (dC, dI) vwCl (dw_X8 a ac s0) H → va_D A (dw_X8 a ac s0) → va_S A s.heap H locs → lv_has ls 2 [] → W p l e (headSpec ow_dm_X8_addLabel ({ frames := 0, cells := 0, slots := 0, locals := 0 })).room s m args below meth c H locs 0 0 Q (F0 m 32 ls [])
def dj_X8_addLabel_0 (p : Program) (l : Launch) (e : Env) (s : State) (m : MethodId) (args : Array Value) (below : List Frame) (meth : Method) (c : Code) (Q : State → Prop) (A : Nat → Prop) (dC : Nat → ClassId) (dI : Nat → Nat → Nat) (a : Nat → Nat) (ac : Nat → ClassId) (g : Int32 → (St) → Option (St)) (r : St) : Prop := ∀ (v0 : Int32) (s0 : St) (H : Heap) (locs : List Loc) (ls : Array Slot), g v0 s0 = some r → va_P (dC, dI) vwCl (dw_X8 a ac s0) H → va_D A (dw_X8 a ac s0) → va_S A s.heap H locs → lv_has ls 2 [(0, .ref (a 0)), (1, .int v0)] → W p l e (headSpec ow_dm_X8_addLabel ({ frames := 0, cells := 0, slots := 0, locals := 0 })).room s m args below meth c H locs 0 0 Q (F0 m 0 ls [])
set_option maxHeartbeats 40000000 in
set_option maxRecDepth 100000 in
theorem db_X8_addLabel_32 {p : Program} {l : Launch} {e : Env} {s : State} {m : MethodId} {args : Array Value} {below : List Frame} {meth : Method} {c : Code} {Q : State → Prop} {A : Nat → Prop} {dC : Nat → ClassId} {dI : Nat → Nat → Nat} {a : Nat → Nat} {ac : Nat → ClassId} {n : Nat} {r : St} (C : nd_C p l s m args c A (dC, dI) cX8_addLabel 2 RX8 ow_dm_X8_addLabel (dk_X8 ac)) (K : nd_Kv p l e (headSpec ow_dm_X8_addLabel ({ frames := 0, cells := 0, slots := 0, locals := 0 })).room s m args below meth c Q A (dC, dI) cX8_addLabel (St) (dw_X8 a ac) r) : dj_X8_addLabel_32 p l e s m args below meth c Q A dC dI a ac (df_X8_addLabel_32 n) r := by
  obtain ⟨hlt, hx, hb, hml, hown, hts, hN, hA, hK⟩ := id C
  intro s0 H locs ls h hP hD hS hl
  unfold df_X8_addLabel_32 at h
  exact K _ _ _ _ _ dX8_addLabel_32 (Option.some.inj h).symm hP hD hS
set_option maxHeartbeats 40000000 in
set_option maxRecDepth 100000 in
theorem db_X8_addLabel_0 {p : Program} {l : Launch} {e : Env} {s : State} {m : MethodId} {args : Array Value} {below : List Frame} {meth : Method} {c : Code} {Q : State → Prop} {A : Nat → Prop} {dC : Nat → ClassId} {dI : Nat → Nat → Nat} {a : Nat → Nat} {ac : Nat → ClassId} {n : Nat} {r : St} (C : nd_C p l s m args c A (dC, dI) cX8_addLabel 2 RX8 ow_dm_X8_addLabel (dk_X8 ac)) (K : nd_Kv p l e (headSpec ow_dm_X8_addLabel ({ frames := 0, cells := 0, slots := 0, locals := 0 })).room s m args below meth c Q A (dC, dI) cX8_addLabel (St) (dw_X8 a ac) r) : dj_X8_addLabel_0 p l e s m args below meth c Q A dC dI a ac (df_X8_addLabel_0 n) r := by
  obtain ⟨hlt, hx, hb, hml, hown, hts, hN, hA, hK⟩ := id C
  intro v0 s0 H locs ls h hP hD hS hl
  unfold df_X8_addLabel_0 at h
  refine lv_aload_n hx hb dX8_addLabel_0 rfl (lv_at hl 0 rfl) ?_
  refine va_get (D := (dC, dI)) (ci := 9) (v := .int (sI s0 4)) (C := RX8) (T := TX8) (N := 10) hx hb hts hi_dm_X8_addLabel_X8 hown hK hP 0 rfl rfl 6 (by decide) (hts (.fieldLink RX8 38 "TimeMachine$Program" "labels" "I") (List.mem_of_getElem? (i := 1) rfl)) (fun _ h9 => h9) rfl dX8_addLabel_1 ?_
  refine lv_aload_n hx hb dX8_addLabel_4 rfl (lv_at hl 0 rfl) ?_
  refine va_get (D := (dC, dI)) (ci := 9) (v := .ref (a 2)) (C := RX8) (T := TX8) (N := 10) hx hb hts hi_dm_X8_addLabel_X8 hown hK hP 0 rfl rfl 5 (by decide) (hts (.fieldLink RX8 16 "TimeMachine$Program" "label" "[I") (List.mem_of_getElem? (i := 2) rfl)) (fun _ h9 => h9) rfl dX8_addLabel_5 ?_
  refine va_alen (v := 10986) hx hb hK hP 2 1 rfl rfl (show Int32.ofNat 10986 = 10986 by decide) dX8_addLabel_8 ?_
  refine lv_icmp_ge (tgt := 32) hx hb dX8_addLabel_9 (by decide) (fun c1 => ?_) (fun c1 => ?_)
  · have h := nd_pos h c1
    exact (db_X8_addLabel_32 C K)  s0 _ _ _ h hP hD hS (lv_sub hl [] rfl)
  · have h := nd_neg h c1
    refine lv_aload_n hx hb dX8_addLabel_12 rfl (lv_at hl 0 rfl) ?_
    refine va_get (D := (dC, dI)) (ci := 9) (v := .ref (a 2)) (C := RX8) (T := TX8) (N := 10) hx hb hts hi_dm_X8_addLabel_X8 hown hK hP 0 rfl rfl 5 (by decide) (hts (.fieldLink RX8 16 "TimeMachine$Program" "label" "[I") (List.mem_of_getElem? (i := 2) rfl)) (fun _ h9 => h9) rfl dX8_addLabel_13 ?_
    refine lv_aload_n hx hb dX8_addLabel_16 rfl (lv_at hl 0 rfl) ?_
    refine va_get (D := (dC, dI)) (ci := 9) (v := .int (sI s0 4)) (C := RX8) (T := TX8) (N := 10) hx hb hts hi_dm_X8_addLabel_X8 hown hK hP 0 rfl rfl 6 (by decide) (hts (.fieldLink RX8 38 "TimeMachine$Program" "labels" "I") (List.mem_of_getElem? (i := 1) rfl)) (fun _ h9 => h9) rfl dX8_addLabel_17 ?_
    refine lv_iload_n hx hb dX8_addLabel_20 rfl (lv_at hl 1 rfl) ?_
    obtain ⟨i2, h⟩ := nd_ck_e h
    refine va_iast (i := (sI s0 4)) (x := v0) hx hb hK hP hD hS 2 1 rfl rfl i2 dX8_addLabel_21 (fun H locs hP hD hS => ?_)
    obtain ⟨s3, es3, h⟩ := nd_let_e h
    have hP : va_P (dC, dI) vwCl (dw_X8 a ac s3) H := by rw [es3]; exact hP
    have hD : va_D A (dw_X8 a ac s3) := by rw [es3]; exact hD
    refine lv_aload_n hx hb dX8_addLabel_22 rfl (lv_at hl 0 rfl) ?_
    refine lv_dup hx hb dX8_addLabel_23 rfl ?_
    refine va_get (D := (dC, dI)) (ci := 9) (v := .int (sI s3 4)) (C := RX8) (T := TX8) (N := 10) hx hb hts hi_dm_X8_addLabel_X8 hown hK hP 0 rfl rfl 6 (by decide) (hts (.fieldLink RX8 38 "TimeMachine$Program" "labels" "I") (List.mem_of_getElem? (i := 1) rfl)) (fun _ h9 => h9) rfl dX8_addLabel_24 ?_
    refine lv_iconst (v := 1) hx hb dX8_addLabel_27 (by decide) ?_
    refine lv_iadd hx hb dX8_addLabel_28 ?_
    refine va_put (D := (dC, dI)) (ci := 9) (v := .int ((sI s3 4) + 1)) (ty := .int) (C := RX8) (T := TX8) (N := 10) hx hb hts hi_dm_X8_addLabel_X8 tyX8 tyX8_ok nmX8 hown hK hP hD hS 0 rfl rfl 6 (by decide) (hts (.fieldLink RX8 38 "TimeMachine$Program" "labels" "I") (List.mem_of_getElem? (i := 1) rfl)) (fun _ h9 => h9) rfl (by decide +kernel) rfl rfl (Nat.le_of_ble_eq_true rfl) dX8_addLabel_29 (fun H locs hP hD hS => ?_)
    obtain ⟨s4, es4, h⟩ := nd_let_e h
    have hP : va_P (dC, dI) vwCl (dw_X8 a ac s4) H := by rw [es4]; exact hP
    have hD : va_D A (dw_X8 a ac s4) := by rw [es4]; exact hD
    exact (db_X8_addLabel_32 C K)  s4 _ _ _ h hP hD hS (lv_sub hl [] rfl)
set_option maxHeartbeats 40000000 in
set_option maxRecDepth 100000 in
theorem dm_X8_addLabel (l : Launch) (hlt : l.stackTraces = false) (dC : Nat → ClassId) (dI : Nat → Nat → Nat) (a : Nat → Nat) (ac : Nat → ClassId) (n : Nat) (v0 : Int32) (s0 : St) {r : St} (h : df_X8_addLabel n v0 s0 = some r) (sz : Nat) : Met l yX8_addLabel ow_dm_X8_addLabel ({ frames := 0, cells := 0, slots := 0, locals := 0 }) (va_Pc [.ref (a 0), .int v0] (fun U => U.heap.size = sz ∧ va_P (dC, dI) vwCl (dw_X8 a ac s0) U.heap ∧ va_K (dC, dI) vwCl (dk_X8 ac) U ∧ va_D (fun _ => True) (dw_X8 a ac s0) ∧ nv_E (va_A (dw_X8 a ac s0) sz) U)) (va_Qv (fun _ => True) (fun (_ : Unit) t => va_P (dC, dI) vwCl (dw_X8 a ac r) t.heap ∧ va_K (dC, dI) vwCl (dk_X8 ac) t ∧ va_D (va_A (dw_X8 a ac s0) sz) (dw_X8 a ac r)) (va_A (dw_X8 a ac s0) sz)) 0 0 (va_A (dw_X8 a ac s0) sz) := by
  refine Met.ofW (cc := cX8_addLabel) (maxL := 2) (ret := none) (by decide) rfl ?_
  intro p e s m args below meth c s₁ B hml hv
  obtain ⟨rfl, hsz, hP, hK, hD0, hN⟩ := hv
  have hx := B.exec
  have hb := B.bytes
  have hr := B.returns
  have hts := atoms_spec (ws := ow_dm_X8_addLabel) B.pre
  have hown : s.vm.findClass RX8 = some m.cls := findClass_of_methodNamed B.named
  have hlocks := B.notSynchronized
  subst hsz
  have hD := hD0.self (sz := s.heap.size)
  generalize hAe : va_A (dw_X8 a ac s0) s.heap.size = A at hD hN ⊢
  have hA : ∀ q : Nat, s.heap.size ≤ q → A q := fun q h => by rw [← hAe]; exact Or.inr h
  have hl := lv_entry ([.ref (a 0), .int v0]) (n := 2) (Nat.le_of_ble_eq_true rfl)
  rw [lg_entry_eq]
  generalize (lg_sl ([.ref (a 0), .int v0]) ++ List.replicate (2 - (lg_sl ([.ref (a 0), .int v0])).length) Slot.unset).toArray = ls at hl ⊢
  have hl : lv_has ls 2 [(0, .ref (a 0)), (1, .int v0)] := hl
  exact db_X8_addLabel_0 (dC := dC) (dI := dI) (a := a) (ac := ac) (n := n) (r := r) ⟨hlt, hx, hb, hml, hown, hts, hN, hA, hK⟩ (fun pc τ H locs ls d er hP hD hS => by subst er; exact W.vret hx hb hr (fun t ht hW => ⟨⟨(), rfl, trivial, by rw [ht]; exact hP, va_K.moved hW.alike hK, hD⟩, hS.F ht⟩) hS.2.2 d) v0 s0 _ _ _ h hP hD va_S.rf (lv_sub hl [0, 1] rfl)
def ow_dm_X8_addStatement : List Cond := .code yX8_addStatement cX8_addStatement 3 none :: ([.fieldLink RX8 41 "TimeMachine$Program" "statements" "I", .fieldLink RX8 22 "TimeMachine$Program" "start" "[I", .fieldLink RX8 25 "TimeMachine$Program" "line" "[I"] ++ (u_ws RX8 TX8 10 ++ []))
theorem gd_dm_X8_addStatement : ∀ w ∈ ow_dm_X8_addStatement, (w.onTables && w.keeps) = true ∨ ∃ ty, w = Cond.arrayClass ty := List.forall_mem_cons.mpr ⟨good_of_word rfl, List.forall_mem_append.mpr ⟨fun w h => good_of_word (List.all_eq_true.mp (by decide +kernel) w h), List.forall_mem_append.mpr ⟨gu_X8, fun _ h => nomatch h⟩⟩⟩
theorem hi_dm_X8_addStatement_X8 : ∀ w ∈ u_ws RX8 TX8 10, w ∈ ow_dm_X8_addStatement := fun w h => List.mem_cons_of_mem _ (List.mem_append_right _ (List.mem_append_left _ h))
def dj_X8_addStatement_42 (p : Program) (l : Launch) (e : Env) (s : State) (m : MethodId) (args : Array Value) (below : List Frame) (meth : Method) (c : Code) (Q : State → Prop) (A : Nat → Prop) (dC : Nat → ClassId) (dI : Nat → Nat → Nat) (a : Nat → Nat) (ac : Nat → ClassId) (g : (St) → Option (St)) (r : St) : Prop := ∀ (s0 : St) (H : Heap) (locs : List Loc) (ls : Array Slot), g s0 = some r → va_P (dC, dI) vwCl (dw_X8 a ac s0) H → va_D A (dw_X8 a ac s0) → va_S A s.heap H locs → lv_has ls 3 [] → W p l e (headSpec ow_dm_X8_addStatement ({ frames := 0, cells := 0, slots := 0, locals := 0 })).room s m args below meth c H locs 0 0 Q (F0 m 42 ls [])
def dj_X8_addStatement_0 (p : Program) (l : Launch) (e : Env) (s : State) (m : MethodId) (args : Array Value) (below : List Frame) (meth : Method) (c : Code) (Q : State → Prop) (A : Nat → Prop) (dC : Nat → ClassId) (dI : Nat → Nat → Nat) (a : Nat → Nat) (ac : Nat → ClassId) (g : Int32 → Int32 → (St) → Option (St)) (r : St) : Prop := ∀ (v0 : Int32) (v1 : Int32) (s0 : St) (H : Heap) (locs : List Loc) (ls : Array Slot), g v0 v1 s0 = some r → va_P (dC, dI) vwCl (dw_X8 a ac s0) H → va_D A (dw_X8 a ac s0) → va_S A s.heap H locs → lv_has ls 3 [(0, .ref (a 0)), (1, .int v0), (2, .int v1)] → W p l e (headSpec ow_dm_X8_addStatement ({ frames := 0, cells := 0, slots := 0, locals := 0 })).room s m args below meth c H locs 0 0 Q (F0 m 0 ls [])
set_option maxHeartbeats 40000000 in
set_option maxRecDepth 100000 in
theorem db_X8_addStatement_42 {p : Program} {l : Launch} {e : Env} {s : State} {m : MethodId} {args : Array Value} {below : List Frame} {meth : Method} {c : Code} {Q : State → Prop} {A : Nat → Prop} {dC : Nat → ClassId} {dI : Nat → Nat → Nat} {a : Nat → Nat} {ac : Nat → ClassId} {n : Nat} {r : St} (C : nd_C p l s m args c A (dC, dI) cX8_addStatement 3 RX8 ow_dm_X8_addStatement (dk_X8 ac)) (K : nd_Kv p l e (headSpec ow_dm_X8_addStatement ({ frames := 0, cells := 0, slots := 0, locals := 0 })).room s m args below meth c Q A (dC, dI) cX8_addStatement (St) (dw_X8 a ac) r) : dj_X8_addStatement_42 p l e s m args below meth c Q A dC dI a ac (df_X8_addStatement_42 n) r := by
  obtain ⟨hlt, hx, hb, hml, hown, hts, hN, hA, hK⟩ := id C
  intro s0 H locs ls h hP hD hS hl
  unfold df_X8_addStatement_42 at h
  exact K _ _ _ _ _ dX8_addStatement_42 (Option.some.inj h).symm hP hD hS
set_option maxHeartbeats 40000000 in
set_option maxRecDepth 100000 in
theorem db_X8_addStatement_0 {p : Program} {l : Launch} {e : Env} {s : State} {m : MethodId} {args : Array Value} {below : List Frame} {meth : Method} {c : Code} {Q : State → Prop} {A : Nat → Prop} {dC : Nat → ClassId} {dI : Nat → Nat → Nat} {a : Nat → Nat} {ac : Nat → ClassId} {n : Nat} {r : St} (C : nd_C p l s m args c A (dC, dI) cX8_addStatement 3 RX8 ow_dm_X8_addStatement (dk_X8 ac)) (K : nd_Kv p l e (headSpec ow_dm_X8_addStatement ({ frames := 0, cells := 0, slots := 0, locals := 0 })).room s m args below meth c Q A (dC, dI) cX8_addStatement (St) (dw_X8 a ac) r) : dj_X8_addStatement_0 p l e s m args below meth c Q A dC dI a ac (df_X8_addStatement_0 n) r := by
  obtain ⟨hlt, hx, hb, hml, hown, hts, hN, hA, hK⟩ := id C
  intro v0 v1 s0 H locs ls h hP hD hS hl
  unfold df_X8_addStatement_0 at h
  refine lv_aload_n hx hb dX8_addStatement_0 rfl (lv_at hl 0 rfl) ?_
  refine va_get (D := (dC, dI)) (ci := 9) (v := .int (sI s0 5)) (C := RX8) (T := TX8) (N := 10) hx hb hts hi_dm_X8_addStatement_X8 hown hK hP 0 rfl rfl 9 (by decide) (hts (.fieldLink RX8 41 "TimeMachine$Program" "statements" "I") (List.mem_of_getElem? (i := 1) rfl)) (fun _ h9 => h9) rfl dX8_addStatement_1 ?_
  refine lv_aload_n hx hb dX8_addStatement_4 rfl (lv_at hl 0 rfl) ?_
  refine va_get (D := (dC, dI)) (ci := 9) (v := .ref (a 3)) (C := RX8) (T := TX8) (N := 10) hx hb hts hi_dm_X8_addStatement_X8 hown hK hP 0 rfl rfl 7 (by decide) (hts (.fieldLink RX8 22 "TimeMachine$Program" "start" "[I") (List.mem_of_getElem? (i := 2) rfl)) (fun _ h9 => h9) rfl dX8_addStatement_5 ?_
  refine va_alen (v := 8194) hx hb hK hP 3 2 rfl rfl (show Int32.ofNat 8194 = 8194 by decide) dX8_addStatement_8 ?_
  refine lv_icmp_ge (tgt := 42) hx hb dX8_addStatement_9 (by decide) (fun c1 => ?_) (fun c1 => ?_)
  · have h := nd_pos h c1
    exact (db_X8_addStatement_42 C K)  s0 _ _ _ h hP hD hS (lv_sub hl [] rfl)
  · have h := nd_neg h c1
    refine lv_aload_n hx hb dX8_addStatement_12 rfl (lv_at hl 0 rfl) ?_
    refine va_get (D := (dC, dI)) (ci := 9) (v := .ref (a 3)) (C := RX8) (T := TX8) (N := 10) hx hb hts hi_dm_X8_addStatement_X8 hown hK hP 0 rfl rfl 7 (by decide) (hts (.fieldLink RX8 22 "TimeMachine$Program" "start" "[I") (List.mem_of_getElem? (i := 2) rfl)) (fun _ h9 => h9) rfl dX8_addStatement_13 ?_
    refine lv_aload_n hx hb dX8_addStatement_16 rfl (lv_at hl 0 rfl) ?_
    refine va_get (D := (dC, dI)) (ci := 9) (v := .int (sI s0 5)) (C := RX8) (T := TX8) (N := 10) hx hb hts hi_dm_X8_addStatement_X8 hown hK hP 0 rfl rfl 9 (by decide) (hts (.fieldLink RX8 41 "TimeMachine$Program" "statements" "I") (List.mem_of_getElem? (i := 1) rfl)) (fun _ h9 => h9) rfl dX8_addStatement_17 ?_
    refine lv_iload_n hx hb dX8_addStatement_20 rfl (lv_at hl 1 rfl) ?_
    obtain ⟨i2, h⟩ := nd_ck_e h
    refine va_iast (i := (sI s0 5)) (x := v0) hx hb hK hP hD hS 3 2 rfl rfl i2 dX8_addStatement_21 (fun H locs hP hD hS => ?_)
    obtain ⟨s3, es3, h⟩ := nd_let_e h
    have hP : va_P (dC, dI) vwCl (dw_X8 a ac s3) H := by rw [es3]; exact hP
    have hD : va_D A (dw_X8 a ac s3) := by rw [es3]; exact hD
    refine lv_aload_n hx hb dX8_addStatement_22 rfl (lv_at hl 0 rfl) ?_
    refine va_get (D := (dC, dI)) (ci := 9) (v := .ref (a 4)) (C := RX8) (T := TX8) (N := 10) hx hb hts hi_dm_X8_addStatement_X8 hown hK hP 0 rfl rfl 8 (by decide) (hts (.fieldLink RX8 25 "TimeMachine$Program" "line" "[I") (List.mem_of_getElem? (i := 3) rfl)) (fun _ h9 => h9) rfl dX8_addStatement_23 ?_
    refine lv_aload_n hx hb dX8_addStatement_26 rfl (lv_at hl 0 rfl) ?_
    refine va_get (D := (dC, dI)) (ci := 9) (v := .int (sI s3 5)) (C := RX8) (T := TX8) (N := 10) hx hb hts hi_dm_X8_addStatement_X8 hown hK hP 0 rfl rfl 9 (by decide) (hts (.fieldLink RX8 41 "TimeMachine$Program" "statements" "I") (List.mem_of_getElem? (i := 1) rfl)) (fun _ h9 => h9) rfl dX8_addStatement_27 ?_
    refine lv_iload_n hx hb dX8_addStatement_30 rfl (lv_at hl 2 rfl) ?_
    obtain ⟨i4, h⟩ := nd_ck_e h
    refine va_iast (i := (sI s3 5)) (x := v1) hx hb hK hP hD hS 4 3 rfl rfl i4 dX8_addStatement_31 (fun H locs hP hD hS => ?_)
    obtain ⟨s5, es5, h⟩ := nd_let_e h
    have hP : va_P (dC, dI) vwCl (dw_X8 a ac s5) H := by rw [es5]; exact hP
    have hD : va_D A (dw_X8 a ac s5) := by rw [es5]; exact hD
    refine lv_aload_n hx hb dX8_addStatement_32 rfl (lv_at hl 0 rfl) ?_
    refine lv_dup hx hb dX8_addStatement_33 rfl ?_
    refine va_get (D := (dC, dI)) (ci := 9) (v := .int (sI s5 5)) (C := RX8) (T := TX8) (N := 10) hx hb hts hi_dm_X8_addStatement_X8 hown hK hP 0 rfl rfl 9 (by decide) (hts (.fieldLink RX8 41 "TimeMachine$Program" "statements" "I") (List.mem_of_getElem? (i := 1) rfl)) (fun _ h9 => h9) rfl dX8_addStatement_34 ?_
    refine lv_iconst (v := 1) hx hb dX8_addStatement_37 (by decide) ?_
    refine lv_iadd hx hb dX8_addStatement_38 ?_
    refine va_put (D := (dC, dI)) (ci := 9) (v := .int ((sI s5 5) + 1)) (ty := .int) (C := RX8) (T := TX8) (N := 10) hx hb hts hi_dm_X8_addStatement_X8 tyX8 tyX8_ok nmX8 hown hK hP hD hS 0 rfl rfl 9 (by decide) (hts (.fieldLink RX8 41 "TimeMachine$Program" "statements" "I") (List.mem_of_getElem? (i := 1) rfl)) (fun _ h9 => h9) rfl (by decide +kernel) rfl rfl (Nat.le_of_ble_eq_true rfl) dX8_addStatement_39 (fun H locs hP hD hS => ?_)
    obtain ⟨s6, es6, h⟩ := nd_let_e h
    have hP : va_P (dC, dI) vwCl (dw_X8 a ac s6) H := by rw [es6]; exact hP
    have hD : va_D A (dw_X8 a ac s6) := by rw [es6]; exact hD
    exact (db_X8_addStatement_42 C K)  s6 _ _ _ h hP hD hS (lv_sub hl [] rfl)
set_option maxHeartbeats 40000000 in
set_option maxRecDepth 100000 in
theorem dm_X8_addStatement (l : Launch) (hlt : l.stackTraces = false) (dC : Nat → ClassId) (dI : Nat → Nat → Nat) (a : Nat → Nat) (ac : Nat → ClassId) (n : Nat) (v0 : Int32) (v1 : Int32) (s0 : St) {r : St} (h : df_X8_addStatement n v0 v1 s0 = some r) (sz : Nat) : Met l yX8_addStatement ow_dm_X8_addStatement ({ frames := 0, cells := 0, slots := 0, locals := 0 }) (va_Pc [.ref (a 0), .int v0, .int v1] (fun U => U.heap.size = sz ∧ va_P (dC, dI) vwCl (dw_X8 a ac s0) U.heap ∧ va_K (dC, dI) vwCl (dk_X8 ac) U ∧ va_D (fun _ => True) (dw_X8 a ac s0) ∧ nv_E (va_A (dw_X8 a ac s0) sz) U)) (va_Qv (fun _ => True) (fun (_ : Unit) t => va_P (dC, dI) vwCl (dw_X8 a ac r) t.heap ∧ va_K (dC, dI) vwCl (dk_X8 ac) t ∧ va_D (va_A (dw_X8 a ac s0) sz) (dw_X8 a ac r)) (va_A (dw_X8 a ac s0) sz)) 0 0 (va_A (dw_X8 a ac s0) sz) := by
  refine Met.ofW (cc := cX8_addStatement) (maxL := 3) (ret := none) (by decide) rfl ?_
  intro p e s m args below meth c s₁ B hml hv
  obtain ⟨rfl, hsz, hP, hK, hD0, hN⟩ := hv
  have hx := B.exec
  have hb := B.bytes
  have hr := B.returns
  have hts := atoms_spec (ws := ow_dm_X8_addStatement) B.pre
  have hown : s.vm.findClass RX8 = some m.cls := findClass_of_methodNamed B.named
  have hlocks := B.notSynchronized
  subst hsz
  have hD := hD0.self (sz := s.heap.size)
  generalize hAe : va_A (dw_X8 a ac s0) s.heap.size = A at hD hN ⊢
  have hA : ∀ q : Nat, s.heap.size ≤ q → A q := fun q h => by rw [← hAe]; exact Or.inr h
  have hl := lv_entry ([.ref (a 0), .int v0, .int v1]) (n := 3) (Nat.le_of_ble_eq_true rfl)
  rw [lg_entry_eq]
  generalize (lg_sl ([.ref (a 0), .int v0, .int v1]) ++ List.replicate (3 - (lg_sl ([.ref (a 0), .int v0, .int v1])).length) Slot.unset).toArray = ls at hl ⊢
  have hl : lv_has ls 3 [(0, .ref (a 0)), (1, .int v0), (2, .int v1)] := hl
  exact db_X8_addStatement_0 (dC := dC) (dI := dI) (a := a) (ac := ac) (n := n) (r := r) ⟨hlt, hx, hb, hml, hown, hts, hN, hA, hK⟩ (fun pc τ H locs ls d er hP hD hS => by subst er; exact W.vret hx hb hr (fun t ht hW => ⟨⟨(), rfl, trivial, by rw [ht]; exact hP, va_K.moved hW.alike hK, hD⟩, hS.F ht⟩) hS.2.2 d) v0 v1 s0 _ _ _ h hP hD va_S.rf (lv_sub hl [0, 1, 2] rfl)
def ow_dm_X8_textPages : List Cond := .code yX8_textPages cX8_textPages 1 (some .int) :: ([.fieldLink RX8 28 "TimeMachine$Program" "textSize" "I"] ++ (u_ws RX8 TX8 10 ++ []))
theorem gd_dm_X8_textPages : ∀ w ∈ ow_dm_X8_textPages, (w.onTables && w.keeps) = true ∨ ∃ ty, w = Cond.arrayClass ty := List.forall_mem_cons.mpr ⟨good_of_word rfl, List.forall_mem_append.mpr ⟨fun w h => good_of_word (List.all_eq_true.mp (by decide +kernel) w h), List.forall_mem_append.mpr ⟨gu_X8, fun _ h => nomatch h⟩⟩⟩
theorem hi_dm_X8_textPages_X8 : ∀ w ∈ u_ws RX8 TX8 10, w ∈ ow_dm_X8_textPages := fun w h => List.mem_cons_of_mem _ (List.mem_append_right _ (List.mem_append_left _ h))
def dj_X8_textPages_0 (p : Program) (l : Launch) (e : Env) (s : State) (m : MethodId) (args : Array Value) (below : List Frame) (meth : Method) (c : Code) (Q : State → Prop) (A : Nat → Prop) (dC : Nat → ClassId) (dI : Nat → Nat → Nat) (a : Nat → Nat) (ac : Nat → ClassId) (g : (St) → Option (Int32 × (St))) (r : Int32 × (St)) : Prop := ∀ (s0 : St) (H : Heap) (locs : List Loc) (ls : Array Slot), g s0 = some r → va_P (dC, dI) vwCl (dw_X8 a ac s0) H → va_D A (dw_X8 a ac s0) → va_S A s.heap H locs → lv_has ls 1 [(0, .ref (a 0))] → W p l e (headSpec ow_dm_X8_textPages ({ frames := 0, cells := 0, slots := 0, locals := 0 })).room s m args below meth c H locs 0 0 Q (F0 m 0 ls [])
set_option maxHeartbeats 40000000 in
set_option maxRecDepth 100000 in
theorem db_X8_textPages_0 {p : Program} {l : Launch} {e : Env} {s : State} {m : MethodId} {args : Array Value} {below : List Frame} {meth : Method} {c : Code} {Q : State → Prop} {A : Nat → Prop} {dC : Nat → ClassId} {dI : Nat → Nat → Nat} {a : Nat → Nat} {ac : Nat → ClassId} {n : Nat} {r : Int32 × (St)} (C : nd_C p l s m args c A (dC, dI) cX8_textPages 1 RX8 ow_dm_X8_textPages (dk_X8 ac)) (K : nd_Ki p l e (headSpec ow_dm_X8_textPages ({ frames := 0, cells := 0, slots := 0, locals := 0 })).room s m args below meth c Q A (dC, dI) cX8_textPages .int (St) (dw_X8 a ac) r) : dj_X8_textPages_0 p l e s m args below meth c Q A dC dI a ac (df_X8_textPages_0 n) r := by
  obtain ⟨hlt, hx, hb, hml, hown, hts, hN, hA, hK⟩ := id C
  intro s0 H locs ls h hP hD hS hl
  unfold df_X8_textPages_0 at h
  refine lv_aload_n hx hb dX8_textPages_0 rfl (lv_at hl 0 rfl) ?_
  refine va_get (D := (dC, dI)) (ci := 9) (v := .int (sI s0 0)) (C := RX8) (T := TX8) (N := 10) hx hb hts hi_dm_X8_textPages_X8 hown hK hP 0 rfl rfl 1 (by decide) (hts (.fieldLink RX8 28 "TimeMachine$Program" "textSize" "I") (List.mem_of_getElem? (i := 1) rfl)) (fun _ h9 => h9) rfl dX8_textPages_1 ?_
  refine lv_sipush (v := 1024) hx hb dX8_textPages_4 (by decide) ?_
  refine lv_iadd hx hb dX8_textPages_7 ?_
  refine lv_iconst (v := 1) hx hb dX8_textPages_8 (by decide) ?_
  refine lv_isub hx hb dX8_textPages_9 ?_
  refine lv_sipush (v := 1024) hx hb dX8_textPages_10 (by decide) ?_
  refine lv_idiv hx hb dX8_textPages_13 (by decide) ?_
  exact K _ _ _ _ _ _ dX8_textPages_14 rfl (Option.some.inj h).symm hP hD hS
set_option maxHeartbeats 40000000 in
set_option maxRecDepth 100000 in
theorem dm_X8_textPages (l : Launch) (hlt : l.stackTraces = false) (dC : Nat → ClassId) (dI : Nat → Nat → Nat) (a : Nat → Nat) (ac : Nat → ClassId) (n : Nat) (s0 : St) {r : Int32 × (St)} (h : df_X8_textPages n s0 = some r) (sz : Nat) : Met l yX8_textPages ow_dm_X8_textPages ({ frames := 0, cells := 0, slots := 0, locals := 0 }) (va_Pc [.ref (a 0)] (fun U => U.heap.size = sz ∧ va_P (dC, dI) vwCl (dw_X8 a ac s0) U.heap ∧ va_K (dC, dI) vwCl (dk_X8 ac) U ∧ va_D (fun _ => True) (dw_X8 a ac s0) ∧ nv_E (va_A (dw_X8 a ac s0) sz) U)) (va_Qi (fun x _ => x = r.1) (fun (_ : Unit) t => va_P (dC, dI) vwCl (dw_X8 a ac r.2) t.heap ∧ va_K (dC, dI) vwCl (dk_X8 ac) t ∧ va_D (va_A (dw_X8 a ac s0) sz) (dw_X8 a ac r.2)) (va_A (dw_X8 a ac s0) sz)) 0 0 (va_A (dw_X8 a ac s0) sz) := by
  refine Met.ofW (cc := cX8_textPages) (maxL := 1) (ret := (some .int)) (by decide) rfl ?_
  intro p e s m args below meth c s₁ B hml hv
  obtain ⟨rfl, hsz, hP, hK, hD0, hN⟩ := hv
  have hx := B.exec
  have hb := B.bytes
  have hr := B.returns
  have hts := atoms_spec (ws := ow_dm_X8_textPages) B.pre
  have hown : s.vm.findClass RX8 = some m.cls := findClass_of_methodNamed B.named
  have hlocks := B.notSynchronized
  subst hsz
  have hD := hD0.self (sz := s.heap.size)
  generalize hAe : va_A (dw_X8 a ac s0) s.heap.size = A at hD hN ⊢
  have hA : ∀ q : Nat, s.heap.size ≤ q → A q := fun q h => by rw [← hAe]; exact Or.inr h
  have hl := lv_entry ([.ref (a 0)]) (n := 1) (Nat.le_of_ble_eq_true rfl)
  rw [lg_entry_eq]
  generalize (lg_sl ([.ref (a 0)]) ++ List.replicate (1 - (lg_sl ([.ref (a 0)])).length) Slot.unset).toArray = ls at hl ⊢
  have hl : lv_has ls 1 [(0, .ref (a 0))] := hl
  exact db_X8_textPages_0 (dC := dC) (dI := dI) (a := a) (ac := ac) (n := n) (r := r) ⟨hlt, hx, hb, hml, hown, hts, hN, hA, hK⟩ (fun pc v τ H locs ls d z er hP hD hS => by subst er; exact W.zret (v := v) hx hb hr z (fun t ht hW => ⟨⟨v, (), rfl, rfl, by rw [ht]; exact hP, va_K.moved hW.alike hK, hD⟩, hS.F ht⟩) hS.2.2 d) s0 _ _ _ h hP hD va_S.rf (lv_sub hl [0] rfl)
def ow_dm_X8_dataPages : List Cond := .code yX8_dataPages cX8_dataPages 1 (some .int) :: ([.fieldLink RX8 35 "TimeMachine$Program" "size" "I", .fieldLink RX8 32 "TimeMachine$Program" "dataStart" "I"] ++ (u_ws RX8 TX8 10 ++ []))
theorem gd_dm_X8_dataPages : ∀ w ∈ ow_dm_X8_dataPages, (w.onTables && w.keeps) = true ∨ ∃ ty, w = Cond.arrayClass ty := List.forall_mem_cons.mpr ⟨good_of_word rfl, List.forall_mem_append.mpr ⟨fun w h => good_of_word (List.all_eq_true.mp (by decide +kernel) w h), List.forall_mem_append.mpr ⟨gu_X8, fun _ h => nomatch h⟩⟩⟩
theorem hi_dm_X8_dataPages_X8 : ∀ w ∈ u_ws RX8 TX8 10, w ∈ ow_dm_X8_dataPages := fun w h => List.mem_cons_of_mem _ (List.mem_append_right _ (List.mem_append_left _ h))
def dj_X8_dataPages_34 (p : Program) (l : Launch) (e : Env) (s : State) (m : MethodId) (args : Array Value) (below : List Frame) (meth : Method) (c : Code) (Q : State → Prop) (A : Nat → Prop) (dC : Nat → ClassId) (dI : Nat → Nat → Nat) (a : Nat → Nat) (ac : Nat → ClassId) (g : Int32 → (St) → Option (Int32 × (St))) (r : Int32 × (St)) : Prop := ∀ (y0 : Int32) (s0 : St) (H : Heap) (locs : List Loc) (ls : Array Slot), g y0 s0 = some r → va_P (dC, dI) vwCl (dw_X8 a ac s0) H → va_D A (dw_X8 a ac s0) → va_S A s.heap H locs → lv_has ls 1 [] → W p l e (headSpec ow_dm_X8_dataPages ({ frames := 0, cells := 0, slots := 0, locals := 0 })).room s m args below meth c H locs 0 0 Q (F0 m 34 ls [.int y0])
def dj_X8_dataPages_0 (p : Program) (l : Launch) (e : Env) (s : State) (m : MethodId) (args : Array Value) (below : List Frame) (meth : Method) (c : Code) (Q : State → Prop) (A : Nat → Prop) (dC : Nat → ClassId) (dI : Nat → Nat → Nat) (a : Nat → Nat) (ac : Nat → ClassId) (g : (St) → Option (Int32 × (St))) (r : Int32 × (St)) : Prop := ∀ (s0 : St) (H : Heap) (locs : List Loc) (ls : Array Slot), g s0 = some r → va_P (dC, dI) vwCl (dw_X8 a ac s0) H → va_D A (dw_X8 a ac s0) → va_S A s.heap H locs → lv_has ls 1 [(0, .ref (a 0))] → W p l e (headSpec ow_dm_X8_dataPages ({ frames := 0, cells := 0, slots := 0, locals := 0 })).room s m args below meth c H locs 0 0 Q (F0 m 0 ls [])
set_option maxHeartbeats 40000000 in
set_option maxRecDepth 100000 in
theorem db_X8_dataPages_34 {p : Program} {l : Launch} {e : Env} {s : State} {m : MethodId} {args : Array Value} {below : List Frame} {meth : Method} {c : Code} {Q : State → Prop} {A : Nat → Prop} {dC : Nat → ClassId} {dI : Nat → Nat → Nat} {a : Nat → Nat} {ac : Nat → ClassId} {n : Nat} {r : Int32 × (St)} (C : nd_C p l s m args c A (dC, dI) cX8_dataPages 1 RX8 ow_dm_X8_dataPages (dk_X8 ac)) (K : nd_Ki p l e (headSpec ow_dm_X8_dataPages ({ frames := 0, cells := 0, slots := 0, locals := 0 })).room s m args below meth c Q A (dC, dI) cX8_dataPages .int (St) (dw_X8 a ac) r) : dj_X8_dataPages_34 p l e s m args below meth c Q A dC dI a ac (df_X8_dataPages_34 n) r := by
  obtain ⟨hlt, hx, hb, hml, hown, hts, hN, hA, hK⟩ := id C
  intro y0 s0 H locs ls h hP hD hS hl
  unfold df_X8_dataPages_34 at h
  exact K _ _ _ _ _ _ dX8_dataPages_34 rfl (Option.some.inj h).symm hP hD hS
set_option maxHeartbeats 40000000 in
set_option maxRecDepth 100000 in
theorem db_X8_dataPages_0 {p : Program} {l : Launch} {e : Env} {s : State} {m : MethodId} {args : Array Value} {below : List Frame} {meth : Method} {c : Code} {Q : State → Prop} {A : Nat → Prop} {dC : Nat → ClassId} {dI : Nat → Nat → Nat} {a : Nat → Nat} {ac : Nat → ClassId} {n : Nat} {r : Int32 × (St)} (C : nd_C p l s m args c A (dC, dI) cX8_dataPages 1 RX8 ow_dm_X8_dataPages (dk_X8 ac)) (K : nd_Ki p l e (headSpec ow_dm_X8_dataPages ({ frames := 0, cells := 0, slots := 0, locals := 0 })).room s m args below meth c Q A (dC, dI) cX8_dataPages .int (St) (dw_X8 a ac) r) : dj_X8_dataPages_0 p l e s m args below meth c Q A dC dI a ac (df_X8_dataPages_0 n) r := by
  obtain ⟨hlt, hx, hb, hml, hown, hts, hN, hA, hK⟩ := id C
  intro s0 H locs ls h hP hD hS hl
  unfold df_X8_dataPages_0 at h
  refine lv_aload_n hx hb dX8_dataPages_0 rfl (lv_at hl 0 rfl) ?_
  refine va_get (D := (dC, dI)) (ci := 9) (v := .int (sI s0 2)) (C := RX8) (T := TX8) (N := 10) hx hb hts hi_dm_X8_dataPages_X8 hown hK hP 0 rfl rfl 3 (by decide) (hts (.fieldLink RX8 35 "TimeMachine$Program" "size" "I") (List.mem_of_getElem? (i := 1) rfl)) (fun _ h9 => h9) rfl dX8_dataPages_1 ?_
  refine lv_aload_n hx hb dX8_dataPages_4 rfl (lv_at hl 0 rfl) ?_
  refine va_get (D := (dC, dI)) (ci := 9) (v := .int (sI s0 1)) (C := RX8) (T := TX8) (N := 10) hx hb hts hi_dm_X8_dataPages_X8 hown hK hP 0 rfl rfl 2 (by decide) (hts (.fieldLink RX8 32 "TimeMachine$Program" "dataStart" "I") (List.mem_of_getElem? (i := 2) rfl)) (fun _ h9 => h9) rfl dX8_dataPages_5 ?_
  refine lv_icmp_le (tgt := 33) hx hb dX8_dataPages_8 (by decide) (fun c1 => ?_) (fun c1 => ?_)
  · have h := nd_pos h c1
    refine lv_iconst (v := 0) hx hb dX8_dataPages_33 (by decide) ?_
    exact (db_X8_dataPages_34 C K) (0) s0 _ _ _ h hP hD hS (lv_sub hl [] rfl)
  · have h := nd_neg h c1
    refine lv_aload_n hx hb dX8_dataPages_11 rfl (lv_at hl 0 rfl) ?_
    refine va_get (D := (dC, dI)) (ci := 9) (v := .int (sI s0 2)) (C := RX8) (T := TX8) (N := 10) hx hb hts hi_dm_X8_dataPages_X8 hown hK hP 0 rfl rfl 3 (by decide) (hts (.fieldLink RX8 35 "TimeMachine$Program" "size" "I") (List.mem_of_getElem? (i := 1) rfl)) (fun _ h9 => h9) rfl dX8_dataPages_12 ?_
    refine lv_aload_n hx hb dX8_dataPages_15 rfl (lv_at hl 0 rfl) ?_
    refine va_get (D := (dC, dI)) (ci := 9) (v := .int (sI s0 1)) (C := RX8) (T := TX8) (N := 10) hx hb hts hi_dm_X8_dataPages_X8 hown hK hP 0 rfl rfl 2 (by decide) (hts (.fieldLink RX8 32 "TimeMachine$Program" "dataStart" "I") (List.mem_of_getElem? (i := 2) rfl)) (fun _ h9 => h9) rfl dX8_dataPages_16 ?_
    refine lv_isub hx hb dX8_dataPages_19 ?_
    refine lv_sipush (v := 1024) hx hb dX8_dataPages_20 (by decide) ?_
    refine lv_iadd hx hb dX8_dataPages_23 ?_
    refine lv_iconst (v := 1) hx hb dX8_dataPages_24 (by decide) ?_
    refine lv_isub hx hb dX8_dataPages_25 ?_
    refine lv_sipush (v := 1024) hx hb dX8_dataPages_26 (by decide) ?_
    refine lv_idiv hx hb dX8_dataPages_29 (by decide) ?_
    refine lv_goto (tgt := 34) hx hb dX8_dataPages_30 (by decide) ?_
    exact (db_X8_dataPages_34 C K) (((((((sI s0 2) - (sI s0 1)) + 1024) - 1) : Int32) / 1024)) s0 _ _ _ h hP hD hS (lv_sub hl [] rfl)
set_option maxHeartbeats 40000000 in
set_option maxRecDepth 100000 in
theorem dm_X8_dataPages (l : Launch) (hlt : l.stackTraces = false) (dC : Nat → ClassId) (dI : Nat → Nat → Nat) (a : Nat → Nat) (ac : Nat → ClassId) (n : Nat) (s0 : St) {r : Int32 × (St)} (h : df_X8_dataPages n s0 = some r) (sz : Nat) : Met l yX8_dataPages ow_dm_X8_dataPages ({ frames := 0, cells := 0, slots := 0, locals := 0 }) (va_Pc [.ref (a 0)] (fun U => U.heap.size = sz ∧ va_P (dC, dI) vwCl (dw_X8 a ac s0) U.heap ∧ va_K (dC, dI) vwCl (dk_X8 ac) U ∧ va_D (fun _ => True) (dw_X8 a ac s0) ∧ nv_E (va_A (dw_X8 a ac s0) sz) U)) (va_Qi (fun x _ => x = r.1) (fun (_ : Unit) t => va_P (dC, dI) vwCl (dw_X8 a ac r.2) t.heap ∧ va_K (dC, dI) vwCl (dk_X8 ac) t ∧ va_D (va_A (dw_X8 a ac s0) sz) (dw_X8 a ac r.2)) (va_A (dw_X8 a ac s0) sz)) 0 0 (va_A (dw_X8 a ac s0) sz) := by
  refine Met.ofW (cc := cX8_dataPages) (maxL := 1) (ret := (some .int)) (by decide) rfl ?_
  intro p e s m args below meth c s₁ B hml hv
  obtain ⟨rfl, hsz, hP, hK, hD0, hN⟩ := hv
  have hx := B.exec
  have hb := B.bytes
  have hr := B.returns
  have hts := atoms_spec (ws := ow_dm_X8_dataPages) B.pre
  have hown : s.vm.findClass RX8 = some m.cls := findClass_of_methodNamed B.named
  have hlocks := B.notSynchronized
  subst hsz
  have hD := hD0.self (sz := s.heap.size)
  generalize hAe : va_A (dw_X8 a ac s0) s.heap.size = A at hD hN ⊢
  have hA : ∀ q : Nat, s.heap.size ≤ q → A q := fun q h => by rw [← hAe]; exact Or.inr h
  have hl := lv_entry ([.ref (a 0)]) (n := 1) (Nat.le_of_ble_eq_true rfl)
  rw [lg_entry_eq]
  generalize (lg_sl ([.ref (a 0)]) ++ List.replicate (1 - (lg_sl ([.ref (a 0)])).length) Slot.unset).toArray = ls at hl ⊢
  have hl : lv_has ls 1 [(0, .ref (a 0))] := hl
  exact db_X8_dataPages_0 (dC := dC) (dI := dI) (a := a) (ac := ac) (n := n) (r := r) ⟨hlt, hx, hb, hml, hown, hts, hN, hA, hK⟩ (fun pc v τ H locs ls d z er hP hD hS => by subst er; exact W.zret (v := v) hx hb hr z (fun t ht hW => ⟨⟨v, (), rfl, rfl, by rw [ht]; exact hP, va_K.moved hW.alike hK, hD⟩, hS.F ht⟩) hS.2.2 d) s0 _ _ _ h hP hD va_S.rf (lv_sub hl [0] rfl)
def ow_dm_X8_heapStart : List Cond := .code yX8_heapStart cX8_heapStart 1 (some .int) :: ([.fieldLink RX8 35 "TimeMachine$Program" "size" "I"] ++ (u_ws RX8 TX8 10 ++ []))
theorem gd_dm_X8_heapStart : ∀ w ∈ ow_dm_X8_heapStart, (w.onTables && w.keeps) = true ∨ ∃ ty, w = Cond.arrayClass ty := List.forall_mem_cons.mpr ⟨good_of_word rfl, List.forall_mem_append.mpr ⟨fun w h => good_of_word (List.all_eq_true.mp (by decide +kernel) w h), List.forall_mem_append.mpr ⟨gu_X8, fun _ h => nomatch h⟩⟩⟩
theorem hi_dm_X8_heapStart_X8 : ∀ w ∈ u_ws RX8 TX8 10, w ∈ ow_dm_X8_heapStart := fun w h => List.mem_cons_of_mem _ (List.mem_append_right _ (List.mem_append_left _ h))
def dj_X8_heapStart_0 (p : Program) (l : Launch) (e : Env) (s : State) (m : MethodId) (args : Array Value) (below : List Frame) (meth : Method) (c : Code) (Q : State → Prop) (A : Nat → Prop) (dC : Nat → ClassId) (dI : Nat → Nat → Nat) (a : Nat → Nat) (ac : Nat → ClassId) (g : (St) → Option (Int32 × (St))) (r : Int32 × (St)) : Prop := ∀ (s0 : St) (H : Heap) (locs : List Loc) (ls : Array Slot), g s0 = some r → va_P (dC, dI) vwCl (dw_X8 a ac s0) H → va_D A (dw_X8 a ac s0) → va_S A s.heap H locs → lv_has ls 1 [(0, .ref (a 0))] → W p l e (headSpec ow_dm_X8_heapStart ({ frames := 0, cells := 0, slots := 0, locals := 0 })).room s m args below meth c H locs 0 0 Q (F0 m 0 ls [])
set_option maxHeartbeats 40000000 in
set_option maxRecDepth 100000 in
theorem db_X8_heapStart_0 {p : Program} {l : Launch} {e : Env} {s : State} {m : MethodId} {args : Array Value} {below : List Frame} {meth : Method} {c : Code} {Q : State → Prop} {A : Nat → Prop} {dC : Nat → ClassId} {dI : Nat → Nat → Nat} {a : Nat → Nat} {ac : Nat → ClassId} {n : Nat} {r : Int32 × (St)} (C : nd_C p l s m args c A (dC, dI) cX8_heapStart 1 RX8 ow_dm_X8_heapStart (dk_X8 ac)) (K : nd_Ki p l e (headSpec ow_dm_X8_heapStart ({ frames := 0, cells := 0, slots := 0, locals := 0 })).room s m args below meth c Q A (dC, dI) cX8_heapStart .int (St) (dw_X8 a ac) r) : dj_X8_heapStart_0 p l e s m args below meth c Q A dC dI a ac (df_X8_heapStart_0 n) r := by
  obtain ⟨hlt, hx, hb, hml, hown, hts, hN, hA, hK⟩ := id C
  intro s0 H locs ls h hP hD hS hl
  unfold df_X8_heapStart_0 at h
  refine lv_aload_n hx hb dX8_heapStart_0 rfl (lv_at hl 0 rfl) ?_
  refine va_get (D := (dC, dI)) (ci := 9) (v := .int (sI s0 2)) (C := RX8) (T := TX8) (N := 10) hx hb hts hi_dm_X8_heapStart_X8 hown hK hP 0 rfl rfl 3 (by decide) (hts (.fieldLink RX8 35 "TimeMachine$Program" "size" "I") (List.mem_of_getElem? (i := 1) rfl)) (fun _ h9 => h9) rfl dX8_heapStart_1 ?_
  refine lv_sipush (v := 1024) hx hb dX8_heapStart_4 (by decide) ?_
  refine lv_iadd hx hb dX8_heapStart_7 ?_
  refine lv_iconst (v := 1) hx hb dX8_heapStart_8 (by decide) ?_
  refine lv_isub hx hb dX8_heapStart_9 ?_
  refine lv_sipush (v := 1024) hx hb dX8_heapStart_10 (by decide) ?_
  refine lv_idiv hx hb dX8_heapStart_13 (by decide) ?_
  refine lv_sipush (v := 1024) hx hb dX8_heapStart_14 (by decide) ?_
  refine lv_imul hx hb dX8_heapStart_17 ?_
  exact K _ _ _ _ _ _ dX8_heapStart_18 rfl (Option.some.inj h).symm hP hD hS
set_option maxHeartbeats 40000000 in
set_option maxRecDepth 100000 in
theorem dm_X8_heapStart (l : Launch) (hlt : l.stackTraces = false) (dC : Nat → ClassId) (dI : Nat → Nat → Nat) (a : Nat → Nat) (ac : Nat → ClassId) (n : Nat) (s0 : St) {r : Int32 × (St)} (h : df_X8_heapStart n s0 = some r) (sz : Nat) : Met l yX8_heapStart ow_dm_X8_heapStart ({ frames := 0, cells := 0, slots := 0, locals := 0 }) (va_Pc [.ref (a 0)] (fun U => U.heap.size = sz ∧ va_P (dC, dI) vwCl (dw_X8 a ac s0) U.heap ∧ va_K (dC, dI) vwCl (dk_X8 ac) U ∧ va_D (fun _ => True) (dw_X8 a ac s0) ∧ nv_E (va_A (dw_X8 a ac s0) sz) U)) (va_Qi (fun x _ => x = r.1) (fun (_ : Unit) t => va_P (dC, dI) vwCl (dw_X8 a ac r.2) t.heap ∧ va_K (dC, dI) vwCl (dk_X8 ac) t ∧ va_D (va_A (dw_X8 a ac s0) sz) (dw_X8 a ac r.2)) (va_A (dw_X8 a ac s0) sz)) 0 0 (va_A (dw_X8 a ac s0) sz) := by
  refine Met.ofW (cc := cX8_heapStart) (maxL := 1) (ret := (some .int)) (by decide) rfl ?_
  intro p e s m args below meth c s₁ B hml hv
  obtain ⟨rfl, hsz, hP, hK, hD0, hN⟩ := hv
  have hx := B.exec
  have hb := B.bytes
  have hr := B.returns
  have hts := atoms_spec (ws := ow_dm_X8_heapStart) B.pre
  have hown : s.vm.findClass RX8 = some m.cls := findClass_of_methodNamed B.named
  have hlocks := B.notSynchronized
  subst hsz
  have hD := hD0.self (sz := s.heap.size)
  generalize hAe : va_A (dw_X8 a ac s0) s.heap.size = A at hD hN ⊢
  have hA : ∀ q : Nat, s.heap.size ≤ q → A q := fun q h => by rw [← hAe]; exact Or.inr h
  have hl := lv_entry ([.ref (a 0)]) (n := 1) (Nat.le_of_ble_eq_true rfl)
  rw [lg_entry_eq]
  generalize (lg_sl ([.ref (a 0)]) ++ List.replicate (1 - (lg_sl ([.ref (a 0)])).length) Slot.unset).toArray = ls at hl ⊢
  have hl : lv_has ls 1 [(0, .ref (a 0))] := hl
  exact db_X8_heapStart_0 (dC := dC) (dI := dI) (a := a) (ac := ac) (n := n) (r := r) ⟨hlt, hx, hb, hml, hown, hts, hN, hA, hK⟩ (fun pc v τ H locs ls d z er hP hD hS => by subst er; exact W.zret (v := v) hx hb hr z (fun t ht hW => ⟨⟨v, (), rfl, rfl, by rw [ht]; exact hP, va_K.moved hW.alike hK, hD⟩, hS.F ht⟩) hS.2.2 d) s0 _ _ _ h hP hD va_S.rf (lv_sub hl [0] rfl)
def ow_dm_X8_labelUpTo : List Cond := .code yX8_labelUpTo cX8_labelUpTo 4 (some .int) :: ([.fieldLink RX8 38 "TimeMachine$Program" "labels" "I", .fieldLink RX8 16 "TimeMachine$Program" "label" "[I"] ++ (u_ws RX8 TX8 10 ++ []))
theorem gd_dm_X8_labelUpTo : ∀ w ∈ ow_dm_X8_labelUpTo, (w.onTables && w.keeps) = true ∨ ∃ ty, w = Cond.arrayClass ty := List.forall_mem_cons.mpr ⟨good_of_word rfl, List.forall_mem_append.mpr ⟨fun w h => good_of_word (List.all_eq_true.mp (by decide +kernel) w h), List.forall_mem_append.mpr ⟨gu_X8, fun _ h => nomatch h⟩⟩⟩
theorem hi_dm_X8_labelUpTo_X8 : ∀ w ∈ u_ws RX8 TX8 10, w ∈ ow_dm_X8_labelUpTo := fun w h => List.mem_cons_of_mem _ (List.mem_append_right _ (List.mem_append_left _ h))
def dj_X8_labelUpTo_43 (p : Program) (l : Launch) (e : Env) (s : State) (m : MethodId) (args : Array Value) (below : List Frame) (meth : Method) (c : Code) (Q : State → Prop) (A : Nat → Prop) (dC : Nat → ClassId) (dI : Nat → Nat → Nat) (a : Nat → Nat) (ac : Nat → ClassId) (g : Int32 → Int32 → Int32 → (St) → Option (Int32 × (St))) (r : Int32 × (St)) : Prop := ∀ (x1 : Int32) (x2 : Int32) (x3 : Int32) (s0 : St) (H : Heap) (locs : List Loc) (ls : Array Slot), g x1 x2 x3 s0 = some r → va_P (dC, dI) vwCl (dw_X8 a ac s0) H → va_D A (dw_X8 a ac s0) → va_S A s.heap H locs → lv_has ls 4 [(0, .ref (a 0)), (1, .int x1), (2, .int x2), (3, .int x3)] → W p l e (headSpec ow_dm_X8_labelUpTo ({ frames := 0, cells := 0, slots := 0, locals := 0 })).room s m args below meth c H locs 0 0 Q (F0 m 43 ls [])
def dj_X8_labelUpTo_41 (p : Program) (l : Launch) (e : Env) (s : State) (m : MethodId) (args : Array Value) (below : List Frame) (meth : Method) (c : Code) (Q : State → Prop) (A : Nat → Prop) (dC : Nat → ClassId) (dI : Nat → Nat → Nat) (a : Nat → Nat) (ac : Nat → ClassId) (g : Int32 → Int32 → (St) → Option (Int32 × (St))) (r : Int32 × (St)) : Prop := ∀ (x1 : Int32) (x3 : Int32) (s0 : St) (H : Heap) (locs : List Loc) (ls : Array Slot), g x1 x3 s0 = some r → va_P (dC, dI) vwCl (dw_X8 a ac s0) H → va_D A (dw_X8 a ac s0) → va_S A s.heap H locs → lv_has ls 4 [(0, .ref (a 0)), (1, .int x1), (3, .int x3)] → W p l e (headSpec ow_dm_X8_labelUpTo ({ frames := 0, cells := 0, slots := 0, locals := 0 })).room s m args below meth c H locs 0 0 Q (F0 m 41 ls [])
def dj_X8_labelUpTo_4 (p : Program) (l : Launch) (e : Env) (s : State) (m : MethodId) (args : Array Value) (below : List Frame) (meth : Method) (c : Code) (Q : State → Prop) (A : Nat → Prop) (dC : Nat → ClassId) (dI : Nat → Nat → Nat) (a : Nat → Nat) (ac : Nat → ClassId) (g : Int32 → Int32 → Int32 → (St) → Option (Int32 × (St))) (r : Int32 × (St)) : Prop := ∀ (x1 : Int32) (x2 : Int32) (x3 : Int32) (s0 : St) (H : Heap) (locs : List Loc) (ls : Array Slot), g x1 x2 x3 s0 = some r → va_P (dC, dI) vwCl (dw_X8 a ac s0) H → va_D A (dw_X8 a ac s0) → va_S A s.heap H locs → lv_has ls 4 [(0, .ref (a 0)), (1, .int x1), (2, .int x2), (3, .int x3)] → W p l e (headSpec ow_dm_X8_labelUpTo ({ frames := 0, cells := 0, slots := 0, locals := 0 })).room s m args below meth c H locs 0 0 Q (F0 m 4 ls [])
def dj_X8_labelUpTo_0 (p : Program) (l : Launch) (e : Env) (s : State) (m : MethodId) (args : Array Value) (below : List Frame) (meth : Method) (c : Code) (Q : State → Prop) (A : Nat → Prop) (dC : Nat → ClassId) (dI : Nat → Nat → Nat) (a : Nat → Nat) (ac : Nat → ClassId) (g : Int32 → (St) → Option (Int32 × (St))) (r : Int32 × (St)) : Prop := ∀ (v0 : Int32) (s0 : St) (H : Heap) (locs : List Loc) (ls : Array Slot), g v0 s0 = some r → va_P (dC, dI) vwCl (dw_X8 a ac s0) H → va_D A (dw_X8 a ac s0) → va_S A s.heap H locs → lv_has ls 4 [(0, .ref (a 0)), (1, .int v0)] → W p l e (headSpec ow_dm_X8_labelUpTo ({ frames := 0, cells := 0, slots := 0, locals := 0 })).room s m args below meth c H locs 0 0 Q (F0 m 0 ls [])
set_option maxHeartbeats 40000000 in
set_option maxRecDepth 100000 in
theorem db_X8_labelUpTo_43 {p : Program} {l : Launch} {e : Env} {s : State} {m : MethodId} {args : Array Value} {below : List Frame} {meth : Method} {c : Code} {Q : State → Prop} {A : Nat → Prop} {dC : Nat → ClassId} {dI : Nat → Nat → Nat} {a : Nat → Nat} {ac : Nat → ClassId} {n : Nat} {r : Int32 × (St)} (C : nd_C p l s m args c A (dC, dI) cX8_labelUpTo 4 RX8 ow_dm_X8_labelUpTo (dk_X8 ac)) (K : nd_Ki p l e (headSpec ow_dm_X8_labelUpTo ({ frames := 0, cells := 0, slots := 0, locals := 0 })).room s m args below meth c Q A (dC, dI) cX8_labelUpTo .int (St) (dw_X8 a ac) r) {g4 : Int32 → Int32 → Int32 → (St) → Option (Int32 × (St))} (J4 : dj_X8_labelUpTo_4 p l e s m args below meth c Q A dC dI a ac g4 r) : dj_X8_labelUpTo_43 p l e s m args below meth c Q A dC dI a ac (df_X8_labelUpTo_43 n g4) r := by
  obtain ⟨hlt, hx, hb, hml, hown, hts, hN, hA, hK⟩ := id C
  intro x1 x2 x3 s0 H locs ls h hP hD hS hl
  unfold df_X8_labelUpTo_43 at h
  obtain ⟨z4, ez4, h⟩ := nd_let_e h
  refine lv_iinc (v := z4) (lv' := [(3, .int z4), (0, .ref (a 0)), (1, .int x1), (2, .int x2)]) hx hb dX8_labelUpTo_43 hl (k := 3) rfl (by rw [ez4]) (by decide) rfl (fun ls hl => ?_)
  refine lv_goto (tgt := 4) hx hb dX8_labelUpTo_46 (by decide) ?_
  exact (J4) (x1) (x2) (z4) s0 _ _ _ h hP hD hS (lv_sub hl [1, 2, 3, 0] rfl)
set_option maxHeartbeats 40000000 in
set_option maxRecDepth 100000 in
theorem db_X8_labelUpTo_41 {p : Program} {l : Launch} {e : Env} {s : State} {m : MethodId} {args : Array Value} {below : List Frame} {meth : Method} {c : Code} {Q : State → Prop} {A : Nat → Prop} {dC : Nat → ClassId} {dI : Nat → Nat → Nat} {a : Nat → Nat} {ac : Nat → ClassId} {n : Nat} {r : Int32 × (St)} (C : nd_C p l s m args c A (dC, dI) cX8_labelUpTo 4 RX8 ow_dm_X8_labelUpTo (dk_X8 ac)) (K : nd_Ki p l e (headSpec ow_dm_X8_labelUpTo ({ frames := 0, cells := 0, slots := 0, locals := 0 })).room s m args below meth c Q A (dC, dI) cX8_labelUpTo .int (St) (dw_X8 a ac) r) {g4 : Int32 → Int32 → Int32 → (St) → Option (Int32 × (St))} (J4 : dj_X8_labelUpTo_4 p l e s m args below meth c Q A dC dI a ac g4 r) : dj_X8_labelUpTo_41 p l e s m args below meth c Q A dC dI a ac (df_X8_labelUpTo_41 n g4) r := by
  obtain ⟨hlt, hx, hb, hml, hown, hts, hN, hA, hK⟩ := id C
  intro x1 x3 s0 H locs ls h hP hD hS hl
  unfold df_X8_labelUpTo_41 at h
  refine lv_iload_n hx hb dX8_labelUpTo_41 rfl (lv_at hl 2 rfl) ?_
  refine lv_istore_n (lv' := [(2, .int x3), (0, .ref (a 0)), (1, .int x1), (3, .int x3)]) hx hb dX8_labelUpTo_42 rfl hl (by decide) rfl (fun ls hl => ?_)
  exact (db_X8_labelUpTo_43 C K J4) (x1) (x3) (x3) s0 _ _ _ h hP hD hS (lv_sub hl [1, 2, 0, 3] rfl)
set_option maxHeartbeats 40000000 in
set_option maxRecDepth 100000 in
theorem dB_X8_labelUpTo_4 {p : Program} {l : Launch} {e : Env} {s : State} {m : MethodId} {args : Array Value} {below : List Frame} {meth : Method} {c : Code} {Q : State → Prop} {A : Nat → Prop} {dC : Nat → ClassId} {dI : Nat → Nat → Nat} {a : Nat → Nat} {ac : Nat → ClassId} {n : Nat} {r : Int32 × (St)} (C : nd_C p l s m args c A (dC, dI) cX8_labelUpTo 4 RX8 ow_dm_X8_labelUpTo (dk_X8 ac)) (K : nd_Ki p l e (headSpec ow_dm_X8_labelUpTo ({ frames := 0, cells := 0, slots := 0, locals := 0 })).room s m args below meth c Q A (dC, dI) cX8_labelUpTo .int (St) (dw_X8 a ac) r) {g4 : Int32 → Int32 → Int32 → (St) → Option (Int32 × (St))} (J4 : dj_X8_labelUpTo_4 p l e s m args below meth c Q A dC dI a ac g4 r) : dj_X8_labelUpTo_4 p l e s m args below meth c Q A dC dI a ac (dF_X8_labelUpTo_4 n g4) r := by
  obtain ⟨hlt, hx, hb, hml, hown, hts, hN, hA, hK⟩ := id C
  intro x1 x2 x3 s0 H locs ls h hP hD hS hl
  unfold dF_X8_labelUpTo_4 at h
  refine lv_iload_n hx hb dX8_labelUpTo_4 rfl (lv_at hl 3 rfl) ?_
  refine lv_aload_n hx hb dX8_labelUpTo_5 rfl (lv_at hl 0 rfl) ?_
  refine va_get (D := (dC, dI)) (ci := 9) (v := .int (sI s0 4)) (C := RX8) (T := TX8) (N := 10) hx hb hts hi_dm_X8_labelUpTo_X8 hown hK hP 0 rfl rfl 6 (by decide) (hts (.fieldLink RX8 38 "TimeMachine$Program" "labels" "I") (List.mem_of_getElem? (i := 1) rfl)) (fun _ h9 => h9) rfl dX8_labelUpTo_6 ?_
  refine lv_icmp_ge (tgt := 49) hx hb dX8_labelUpTo_9 (by decide) (fun c1 => ?_) (fun c1 => ?_)
  · have h := nd_pos h c1
    refine lv_iload_n hx hb dX8_labelUpTo_49 rfl (lv_at hl 2 rfl) ?_
    exact K _ _ _ _ _ _ dX8_labelUpTo_50 rfl (Option.some.inj h).symm hP hD hS
  · have h := nd_neg h c1
    refine lv_aload_n hx hb dX8_labelUpTo_12 rfl (lv_at hl 0 rfl) ?_
    refine va_get (D := (dC, dI)) (ci := 9) (v := .ref (a 2)) (C := RX8) (T := TX8) (N := 10) hx hb hts hi_dm_X8_labelUpTo_X8 hown hK hP 0 rfl rfl 5 (by decide) (hts (.fieldLink RX8 16 "TimeMachine$Program" "label" "[I") (List.mem_of_getElem? (i := 2) rfl)) (fun _ h9 => h9) rfl dX8_labelUpTo_13 ?_
    refine lv_iload_n hx hb dX8_labelUpTo_16 rfl (lv_at hl 3 rfl) ?_
    obtain ⟨i2, h⟩ := nd_ck_e h
    refine va_iald (i := x3) hx hb hK hP 2 1 rfl rfl i2 dX8_labelUpTo_17 ?_
    refine lv_iload_n hx hb dX8_labelUpTo_18 rfl (lv_at hl 1 rfl) ?_
    refine lv_icmp_gt (tgt := 43) hx hb dX8_labelUpTo_19 (by decide) (fun c3 => ?_) (fun c3 => ?_)
    · have h := nd_pos h c3
      exact (db_X8_labelUpTo_43 C K J4) (x1) (x2) (x3) s0 _ _ _ h hP hD hS (lv_sub hl [0, 1, 2, 3] rfl)
    · have h := nd_neg h c3
      refine lv_iload_n hx hb dX8_labelUpTo_22 rfl (lv_at hl 2 rfl) ?_
      refine lv_if_lt (tgt := 41) hx hb dX8_labelUpTo_23 (by decide) (fun c5 => ?_) (fun c5 => ?_)
      · have h := nd_pos h c5
        exact (db_X8_labelUpTo_41 C K J4) (x1) (x3) s0 _ _ _ h hP hD hS (lv_sub hl [0, 1, 3] rfl)
      · have h := nd_neg h c5
        refine lv_aload_n hx hb dX8_labelUpTo_26 rfl (lv_at hl 0 rfl) ?_
        refine va_get (D := (dC, dI)) (ci := 9) (v := .ref (a 2)) (C := RX8) (T := TX8) (N := 10) hx hb hts hi_dm_X8_labelUpTo_X8 hown hK hP 0 rfl rfl 5 (by decide) (hts (.fieldLink RX8 16 "TimeMachine$Program" "label" "[I") (List.mem_of_getElem? (i := 2) rfl)) (fun _ h9 => h9) rfl dX8_labelUpTo_27 ?_
        refine lv_iload_n hx hb dX8_labelUpTo_30 rfl (lv_at hl 3 rfl) ?_
        obtain ⟨i6, h⟩ := nd_ck_e h
        refine va_iald (i := x3) hx hb hK hP 2 1 rfl rfl i6 dX8_labelUpTo_31 ?_
        refine lv_aload_n hx hb dX8_labelUpTo_32 rfl (lv_at hl 0 rfl) ?_
        refine va_get (D := (dC, dI)) (ci := 9) (v := .ref (a 2)) (C := RX8) (T := TX8) (N := 10) hx hb hts hi_dm_X8_labelUpTo_X8 hown hK hP 0 rfl rfl 5 (by decide) (hts (.fieldLink RX8 16 "TimeMachine$Program" "label" "[I") (List.mem_of_getElem? (i := 2) rfl)) (fun _ h9 => h9) rfl dX8_labelUpTo_33 ?_
        refine lv_iload_n hx hb dX8_labelUpTo_36 rfl (lv_at hl 2 rfl) ?_
        obtain ⟨i7, h⟩ := nd_ck_e h
        refine va_iald (i := x2) hx hb hK hP 2 1 rfl rfl i7 dX8_labelUpTo_37 ?_
        refine lv_icmp_lt (tgt := 43) hx hb dX8_labelUpTo_38 (by decide) (fun c8 => ?_) (fun c8 => ?_)
        · have h := nd_pos h c8
          exact (db_X8_labelUpTo_43 C K J4) (x1) (x2) (x3) s0 _ _ _ h hP hD hS (lv_sub hl [0, 1, 2, 3] rfl)
        · have h := nd_neg h c8
          exact (db_X8_labelUpTo_41 C K J4) (x1) (x3) s0 _ _ _ h hP hD hS (lv_sub hl [0, 1, 3] rfl)
set_option maxHeartbeats 40000000 in
set_option maxRecDepth 100000 in
theorem db_X8_labelUpTo_4 {p : Program} {l : Launch} {e : Env} {s : State} {m : MethodId} {args : Array Value} {below : List Frame} {meth : Method} {c : Code} {Q : State → Prop} {A : Nat → Prop} {dC : Nat → ClassId} {dI : Nat → Nat → Nat} {a : Nat → Nat} {ac : Nat → ClassId} {n : Nat} {r : Int32 × (St)} (C : nd_C p l s m args c A (dC, dI) cX8_labelUpTo 4 RX8 ow_dm_X8_labelUpTo (dk_X8 ac)) (K : nd_Ki p l e (headSpec ow_dm_X8_labelUpTo ({ frames := 0, cells := 0, slots := 0, locals := 0 })).room s m args below meth c Q A (dC, dI) cX8_labelUpTo .int (St) (dw_X8 a ac) r) (k : Nat) : dj_X8_labelUpTo_4 p l e s m args below meth c Q A dC dI a ac (df_X8_labelUpTo_4 n k) r := by
  induction k with
  | zero => intro x1 x2 x3 s0 H locs ls h; exact nomatch (show (none : Option (Int32 × (St))) = some r from h)
  | succ k ih => exact dB_X8_labelUpTo_4 C K ih
set_option maxHeartbeats 40000000 in
set_option maxRecDepth 100000 in
theorem db_X8_labelUpTo_0 {p : Program} {l : Launch} {e : Env} {s : State} {m : MethodId} {args : Array Value} {below : List Frame} {meth : Method} {c : Code} {Q : State → Prop} {A : Nat → Prop} {dC : Nat → ClassId} {dI : Nat → Nat → Nat} {a : Nat → Nat} {ac : Nat → ClassId} {n : Nat} {r : Int32 × (St)} (C : nd_C p l s m args c A (dC, dI) cX8_labelUpTo 4 RX8 ow_dm_X8_labelUpTo (dk_X8 ac)) (K : nd_Ki p l e (headSpec ow_dm_X8_labelUpTo ({ frames := 0, cells := 0, slots := 0, locals := 0 })).room s m args below meth c Q A (dC, dI) cX8_labelUpTo .int (St) (dw_X8 a ac) r) : dj_X8_labelUpTo_0 p l e s m args below meth c Q A dC dI a ac (df_X8_labelUpTo_0 n) r := by
  obtain ⟨hlt, hx, hb, hml, hown, hts, hN, hA, hK⟩ := id C
  intro v0 s0 H locs ls h hP hD hS hl
  unfold df_X8_labelUpTo_0 at h
  refine lv_iconst (v := (-1)) hx hb dX8_labelUpTo_0 (by decide) ?_
  refine lv_istore_n (lv' := [(2, .int (-1)), (0, .ref (a 0)), (1, .int v0)]) hx hb dX8_labelUpTo_1 rfl hl (by decide) rfl (fun ls hl => ?_)
  refine lv_iconst (v := 0) hx hb dX8_labelUpTo_2 (by decide) ?_
  refine lv_istore_n (lv' := [(3, .int 0), (2, .int (-1)), (0, .ref (a 0)), (1, .int v0)]) hx hb dX8_labelUpTo_3 rfl hl (by decide) rfl (fun ls hl => ?_)
  exact (db_X8_labelUpTo_4 C K n) (v0) ((-1)) (0) s0 _ _ _ h hP hD hS (lv_sub hl [2, 3, 1, 0] rfl)
set_option maxHeartbeats 40000000 in
set_option maxRecDepth 100000 in
theorem dm_X8_labelUpTo (l : Launch) (hlt : l.stackTraces = false) (dC : Nat → ClassId) (dI : Nat → Nat → Nat) (a : Nat → Nat) (ac : Nat → ClassId) (n : Nat) (v0 : Int32) (s0 : St) {r : Int32 × (St)} (h : df_X8_labelUpTo n v0 s0 = some r) (sz : Nat) : Met l yX8_labelUpTo ow_dm_X8_labelUpTo ({ frames := 0, cells := 0, slots := 0, locals := 0 }) (va_Pc [.ref (a 0), .int v0] (fun U => U.heap.size = sz ∧ va_P (dC, dI) vwCl (dw_X8 a ac s0) U.heap ∧ va_K (dC, dI) vwCl (dk_X8 ac) U ∧ va_D (fun _ => True) (dw_X8 a ac s0) ∧ nv_E (va_A (dw_X8 a ac s0) sz) U)) (va_Qi (fun x _ => x = r.1) (fun (_ : Unit) t => va_P (dC, dI) vwCl (dw_X8 a ac r.2) t.heap ∧ va_K (dC, dI) vwCl (dk_X8 ac) t ∧ va_D (va_A (dw_X8 a ac s0) sz) (dw_X8 a ac r.2)) (va_A (dw_X8 a ac s0) sz)) 0 0 (va_A (dw_X8 a ac s0) sz) := by
  refine Met.ofW (cc := cX8_labelUpTo) (maxL := 4) (ret := (some .int)) (by decide) rfl ?_
  intro p e s m args below meth c s₁ B hml hv
  obtain ⟨rfl, hsz, hP, hK, hD0, hN⟩ := hv
  have hx := B.exec
  have hb := B.bytes
  have hr := B.returns
  have hts := atoms_spec (ws := ow_dm_X8_labelUpTo) B.pre
  have hown : s.vm.findClass RX8 = some m.cls := findClass_of_methodNamed B.named
  have hlocks := B.notSynchronized
  subst hsz
  have hD := hD0.self (sz := s.heap.size)
  generalize hAe : va_A (dw_X8 a ac s0) s.heap.size = A at hD hN ⊢
  have hA : ∀ q : Nat, s.heap.size ≤ q → A q := fun q h => by rw [← hAe]; exact Or.inr h
  have hl := lv_entry ([.ref (a 0), .int v0]) (n := 4) (Nat.le_of_ble_eq_true rfl)
  rw [lg_entry_eq]
  generalize (lg_sl ([.ref (a 0), .int v0]) ++ List.replicate (4 - (lg_sl ([.ref (a 0), .int v0])).length) Slot.unset).toArray = ls at hl ⊢
  have hl : lv_has ls 4 [(0, .ref (a 0)), (1, .int v0)] := hl
  exact db_X8_labelUpTo_0 (dC := dC) (dI := dI) (a := a) (ac := ac) (n := n) (r := r) ⟨hlt, hx, hb, hml, hown, hts, hN, hA, hK⟩ (fun pc v τ H locs ls d z er hP hD hS => by subst er; exact W.zret (v := v) hx hb hr z (fun t ht hW => ⟨⟨v, (), rfl, rfl, by rw [ht]; exact hP, va_K.moved hW.alike hK, hD⟩, hS.F ht⟩) hS.2.2 d) v0 s0 _ _ _ h hP hD va_S.rf (lv_sub hl [0, 1] rfl)
def ow_dm_X8_lineOf : List Cond := .code yX8_lineOf cX8_lineOf 4 (some .int) :: ([.fieldLink RX8 35 "TimeMachine$Program" "size" "I", .fieldLink RX8 28 "TimeMachine$Program" "textSize" "I", .fieldLink RX8 41 "TimeMachine$Program" "statements" "I", .fieldLink RX8 25 "TimeMachine$Program" "line" "[I", .fieldLink RX8 22 "TimeMachine$Program" "start" "[I", .fieldLink RX8 32 "TimeMachine$Program" "dataStart" "I"] ++ (u_ws RX8 TX8 10 ++ []))
theorem gd_dm_X8_lineOf : ∀ w ∈ ow_dm_X8_lineOf, (w.onTables && w.keeps) = true ∨ ∃ ty, w = Cond.arrayClass ty := List.forall_mem_cons.mpr ⟨good_of_word rfl, List.forall_mem_append.mpr ⟨fun w h => good_of_word (List.all_eq_true.mp (by decide +kernel) w h), List.forall_mem_append.mpr ⟨gu_X8, fun _ h => nomatch h⟩⟩⟩
theorem hi_dm_X8_lineOf_X8 : ∀ w ∈ u_ws RX8 TX8 10, w ∈ ow_dm_X8_lineOf := fun w h => List.mem_cons_of_mem _ (List.mem_append_right _ (List.mem_append_left _ h))
def dj_X8_lineOf_28 (p : Program) (l : Launch) (e : Env) (s : State) (m : MethodId) (args : Array Value) (below : List Frame) (meth : Method) (c : Code) (Q : State → Prop) (A : Nat → Prop) (dC : Nat → ClassId) (dI : Nat → Nat → Nat) (a : Nat → Nat) (ac : Nat → ClassId) (g : (St) → Option (Int32 × (St))) (r : Int32 × (St)) : Prop := ∀ (s0 : St) (H : Heap) (locs : List Loc) (ls : Array Slot), g s0 = some r → va_P (dC, dI) vwCl (dw_X8 a ac s0) H → va_D A (dw_X8 a ac s0) → va_S A s.heap H locs → lv_has ls 4 [] → W p l e (headSpec ow_dm_X8_lineOf ({ frames := 0, cells := 0, slots := 0, locals := 0 })).room s m args below meth c H locs 0 0 Q (F0 m 28 ls [])
def dj_X8_lineOf_93 (p : Program) (l : Launch) (e : Env) (s : State) (m : MethodId) (args : Array Value) (below : List Frame) (meth : Method) (c : Code) (Q : State → Prop) (A : Nat → Prop) (dC : Nat → ClassId) (dI : Nat → Nat → Nat) (a : Nat → Nat) (ac : Nat → ClassId) (g : Int32 → (St) → Option (Int32 × (St))) (r : Int32 × (St)) : Prop := ∀ (y0 : Int32) (s0 : St) (H : Heap) (locs : List Loc) (ls : Array Slot), g y0 s0 = some r → va_P (dC, dI) vwCl (dw_X8 a ac s0) H → va_D A (dw_X8 a ac s0) → va_S A s.heap H locs → lv_has ls 4 [] → W p l e (headSpec ow_dm_X8_lineOf ({ frames := 0, cells := 0, slots := 0, locals := 0 })).room s m args below meth c H locs 0 0 Q (F0 m 93 ls [.int y0])
def dj_X8_lineOf_73 (p : Program) (l : Launch) (e : Env) (s : State) (m : MethodId) (args : Array Value) (below : List Frame) (meth : Method) (c : Code) (Q : State → Prop) (A : Nat → Prop) (dC : Nat → ClassId) (dI : Nat → Nat → Nat) (a : Nat → Nat) (ac : Nat → ClassId) (g : Int32 → Int32 → Int32 → (St) → Option (Int32 × (St))) (r : Int32 × (St)) : Prop := ∀ (x1 : Int32) (x2 : Int32) (x3 : Int32) (s0 : St) (H : Heap) (locs : List Loc) (ls : Array Slot), g x1 x2 x3 s0 = some r → va_P (dC, dI) vwCl (dw_X8 a ac s0) H → va_D A (dw_X8 a ac s0) → va_S A s.heap H locs → lv_has ls 4 [(0, .ref (a 0)), (1, .int x1), (2, .int x2), (3, .int x3)] → W p l e (headSpec ow_dm_X8_lineOf ({ frames := 0, cells := 0, slots := 0, locals := 0 })).room s m args below meth c H locs 0 0 Q (F0 m 73 ls [])
def dj_X8_lineOf_71 (p : Program) (l : Launch) (e : Env) (s : State) (m : MethodId) (args : Array Value) (below : List Frame) (meth : Method) (c : Code) (Q : State → Prop) (A : Nat → Prop) (dC : Nat → ClassId) (dI : Nat → Nat → Nat) (a : Nat → Nat) (ac : Nat → ClassId) (g : Int32 → Int32 → (St) → Option (Int32 × (St))) (r : Int32 × (St)) : Prop := ∀ (x1 : Int32) (x3 : Int32) (s0 : St) (H : Heap) (locs : List Loc) (ls : Array Slot), g x1 x3 s0 = some r → va_P (dC, dI) vwCl (dw_X8 a ac s0) H → va_D A (dw_X8 a ac s0) → va_S A s.heap H locs → lv_has ls 4 [(0, .ref (a 0)), (1, .int x1), (3, .int x3)] → W p l e (headSpec ow_dm_X8_lineOf ({ frames := 0, cells := 0, slots := 0, locals := 0 })).room s m args below meth c H locs 0 0 Q (F0 m 71 ls [])
def dj_X8_lineOf_34 (p : Program) (l : Launch) (e : Env) (s : State) (m : MethodId) (args : Array Value) (below : List Frame) (meth : Method) (c : Code) (Q : State → Prop) (A : Nat → Prop) (dC : Nat → ClassId) (dI : Nat → Nat → Nat) (a : Nat → Nat) (ac : Nat → ClassId) (g : Int32 → Int32 → Int32 → (St) → Option (Int32 × (St))) (r : Int32 × (St)) : Prop := ∀ (x1 : Int32) (x2 : Int32) (x3 : Int32) (s0 : St) (H : Heap) (locs : List Loc) (ls : Array Slot), g x1 x2 x3 s0 = some r → va_P (dC, dI) vwCl (dw_X8 a ac s0) H → va_D A (dw_X8 a ac s0) → va_S A s.heap H locs → lv_has ls 4 [(0, .ref (a 0)), (1, .int x1), (2, .int x2), (3, .int x3)] → W p l e (headSpec ow_dm_X8_lineOf ({ frames := 0, cells := 0, slots := 0, locals := 0 })).room s m args below meth c H locs 0 0 Q (F0 m 34 ls [])
def dj_X8_lineOf_30 (p : Program) (l : Launch) (e : Env) (s : State) (m : MethodId) (args : Array Value) (below : List Frame) (meth : Method) (c : Code) (Q : State → Prop) (A : Nat → Prop) (dC : Nat → ClassId) (dI : Nat → Nat → Nat) (a : Nat → Nat) (ac : Nat → ClassId) (g : Int32 → (St) → Option (Int32 × (St))) (r : Int32 × (St)) : Prop := ∀ (x1 : Int32) (s0 : St) (H : Heap) (locs : List Loc) (ls : Array Slot), g x1 s0 = some r → va_P (dC, dI) vwCl (dw_X8 a ac s0) H → va_D A (dw_X8 a ac s0) → va_S A s.heap H locs → lv_has ls 4 [(0, .ref (a 0)), (1, .int x1)] → W p l e (headSpec ow_dm_X8_lineOf ({ frames := 0, cells := 0, slots := 0, locals := 0 })).room s m args below meth c H locs 0 0 Q (F0 m 30 ls [])
def dj_X8_lineOf_0 (p : Program) (l : Launch) (e : Env) (s : State) (m : MethodId) (args : Array Value) (below : List Frame) (meth : Method) (c : Code) (Q : State → Prop) (A : Nat → Prop) (dC : Nat → ClassId) (dI : Nat → Nat → Nat) (a : Nat → Nat) (ac : Nat → ClassId) (g : Int32 → (St) → Option (Int32 × (St))) (r : Int32 × (St)) : Prop := ∀ (v0 : Int32) (s0 : St) (H : Heap) (locs : List Loc) (ls : Array Slot), g v0 s0 = some r → va_P (dC, dI) vwCl (dw_X8 a ac s0) H → va_D A (dw_X8 a ac s0) → va_S A s.heap H locs → lv_has ls 4 [(0, .ref (a 0)), (1, .int v0)] → W p l e (headSpec ow_dm_X8_lineOf ({ frames := 0, cells := 0, slots := 0, locals := 0 })).room s m args below meth c H locs 0 0 Q (F0 m 0 ls [])
set_option maxHeartbeats 40000000 in
set_option maxRecDepth 100000 in
theorem db_X8_lineOf_28 {p : Program} {l : Launch} {e : Env} {s : State} {m : MethodId} {args : Array Value} {below : List Frame} {meth : Method} {c : Code} {Q : State → Prop} {A : Nat → Prop} {dC : Nat → ClassId} {dI : Nat → Nat → Nat} {a : Nat → Nat} {ac : Nat → ClassId} {n : Nat} {r : Int32 × (St)} (C : nd_C p l s m args c A (dC, dI) cX8_lineOf 4 RX8 ow_dm_X8_lineOf (dk_X8 ac)) (K : nd_Ki p l e (headSpec ow_dm_X8_lineOf ({ frames := 0, cells := 0, slots := 0, locals := 0 })).room s m args below meth c Q A (dC, dI) cX8_lineOf .int (St) (dw_X8 a ac) r) : dj_X8_lineOf_28 p l e s m args below meth c Q A dC dI a ac (df_X8_lineOf_28 n) r := by
  obtain ⟨hlt, hx, hb, hml, hown, hts, hN, hA, hK⟩ := id C
  intro s0 H locs ls h hP hD hS hl
  unfold df_X8_lineOf_28 at h
  refine lv_iconst (v := 0) hx hb dX8_lineOf_28 (by decide) ?_
  exact K _ _ _ _ _ _ dX8_lineOf_29 rfl (Option.some.inj h).symm hP hD hS
set_option maxHeartbeats 40000000 in
set_option maxRecDepth 100000 in
theorem db_X8_lineOf_93 {p : Program} {l : Launch} {e : Env} {s : State} {m : MethodId} {args : Array Value} {below : List Frame} {meth : Method} {c : Code} {Q : State → Prop} {A : Nat → Prop} {dC : Nat → ClassId} {dI : Nat → Nat → Nat} {a : Nat → Nat} {ac : Nat → ClassId} {n : Nat} {r : Int32 × (St)} (C : nd_C p l s m args c A (dC, dI) cX8_lineOf 4 RX8 ow_dm_X8_lineOf (dk_X8 ac)) (K : nd_Ki p l e (headSpec ow_dm_X8_lineOf ({ frames := 0, cells := 0, slots := 0, locals := 0 })).room s m args below meth c Q A (dC, dI) cX8_lineOf .int (St) (dw_X8 a ac) r) : dj_X8_lineOf_93 p l e s m args below meth c Q A dC dI a ac (df_X8_lineOf_93 n) r := by
  obtain ⟨hlt, hx, hb, hml, hown, hts, hN, hA, hK⟩ := id C
  intro y0 s0 H locs ls h hP hD hS hl
  unfold df_X8_lineOf_93 at h
  exact K _ _ _ _ _ _ dX8_lineOf_93 rfl (Option.some.inj h).symm hP hD hS
set_option maxHeartbeats 40000000 in
set_option maxRecDepth 100000 in
theorem db_X8_lineOf_73 {p : Program} {l : Launch} {e : Env} {s : State} {m : MethodId} {args : Array Value} {below : List Frame} {meth : Method} {c : Code} {Q : State → Prop} {A : Nat → Prop} {dC : Nat → ClassId} {dI : Nat → Nat → Nat} {a : Nat → Nat} {ac : Nat → ClassId} {n : Nat} {r : Int32 × (St)} (C : nd_C p l s m args c A (dC, dI) cX8_lineOf 4 RX8 ow_dm_X8_lineOf (dk_X8 ac)) (K : nd_Ki p l e (headSpec ow_dm_X8_lineOf ({ frames := 0, cells := 0, slots := 0, locals := 0 })).room s m args below meth c Q A (dC, dI) cX8_lineOf .int (St) (dw_X8 a ac) r) {g34 : Int32 → Int32 → Int32 → (St) → Option (Int32 × (St))} (J34 : dj_X8_lineOf_34 p l e s m args below meth c Q A dC dI a ac g34 r) : dj_X8_lineOf_73 p l e s m args below meth c Q A dC dI a ac (df_X8_lineOf_73 n g34) r := by
  obtain ⟨hlt, hx, hb, hml, hown, hts, hN, hA, hK⟩ := id C
  intro x1 x2 x3 s0 H locs ls h hP hD hS hl
  unfold df_X8_lineOf_73 at h
  obtain ⟨z9, ez9, h⟩ := nd_let_e h
  refine lv_iinc (v := z9) (lv' := [(3, .int z9), (0, .ref (a 0)), (1, .int x1), (2, .int x2)]) hx hb dX8_lineOf_73 hl (k := 3) rfl (by rw [ez9]) (by decide) rfl (fun ls hl => ?_)
  refine lv_goto (tgt := 34) hx hb dX8_lineOf_76 (by decide) ?_
  exact (J34) (x1) (x2) (z9) s0 _ _ _ h hP hD hS (lv_sub hl [1, 2, 3, 0] rfl)
set_option maxHeartbeats 40000000 in
set_option maxRecDepth 100000 in
theorem db_X8_lineOf_71 {p : Program} {l : Launch} {e : Env} {s : State} {m : MethodId} {args : Array Value} {below : List Frame} {meth : Method} {c : Code} {Q : State → Prop} {A : Nat → Prop} {dC : Nat → ClassId} {dI : Nat → Nat → Nat} {a : Nat → Nat} {ac : Nat → ClassId} {n : Nat} {r : Int32 × (St)} (C : nd_C p l s m args c A (dC, dI) cX8_lineOf 4 RX8 ow_dm_X8_lineOf (dk_X8 ac)) (K : nd_Ki p l e (headSpec ow_dm_X8_lineOf ({ frames := 0, cells := 0, slots := 0, locals := 0 })).room s m args below meth c Q A (dC, dI) cX8_lineOf .int (St) (dw_X8 a ac) r) {g34 : Int32 → Int32 → Int32 → (St) → Option (Int32 × (St))} (J34 : dj_X8_lineOf_34 p l e s m args below meth c Q A dC dI a ac g34 r) : dj_X8_lineOf_71 p l e s m args below meth c Q A dC dI a ac (df_X8_lineOf_71 n g34) r := by
  obtain ⟨hlt, hx, hb, hml, hown, hts, hN, hA, hK⟩ := id C
  intro x1 x3 s0 H locs ls h hP hD hS hl
  unfold df_X8_lineOf_71 at h
  refine lv_iload_n hx hb dX8_lineOf_71 rfl (lv_at hl 2 rfl) ?_
  refine lv_istore_n (lv' := [(2, .int x3), (0, .ref (a 0)), (1, .int x1), (3, .int x3)]) hx hb dX8_lineOf_72 rfl hl (by decide) rfl (fun ls hl => ?_)
  exact (db_X8_lineOf_73 C K J34) (x1) (x3) (x3) s0 _ _ _ h hP hD hS (lv_sub hl [1, 2, 0, 3] rfl)
set_option maxHeartbeats 40000000 in
set_option maxRecDepth 100000 in
theorem dB_X8_lineOf_34 {p : Program} {l : Launch} {e : Env} {s : State} {m : MethodId} {args : Array Value} {below : List Frame} {meth : Method} {c : Code} {Q : State → Prop} {A : Nat → Prop} {dC : Nat → ClassId} {dI : Nat → Nat → Nat} {a : Nat → Nat} {ac : Nat → ClassId} {n : Nat} {r : Int32 × (St)} (C : nd_C p l s m args c A (dC, dI) cX8_lineOf 4 RX8 ow_dm_X8_lineOf (dk_X8 ac)) (K : nd_Ki p l e (headSpec ow_dm_X8_lineOf ({ frames := 0, cells := 0, slots := 0, locals := 0 })).room s m args below meth c Q A (dC, dI) cX8_lineOf .int (St) (dw_X8 a ac) r) {g34 : Int32 → Int32 → Int32 → (St) → Option (Int32 × (St))} (J34 : dj_X8_lineOf_34 p l e s m args below meth c Q A dC dI a ac g34 r) : dj_X8_lineOf_34 p l e s m args below meth c Q A dC dI a ac (dF_X8_lineOf_34 n g34) r := by
  obtain ⟨hlt, hx, hb, hml, hown, hts, hN, hA, hK⟩ := id C
  intro x1 x2 x3 s0 H locs ls h hP hD hS hl
  unfold dF_X8_lineOf_34 at h
  refine lv_iload_n hx hb dX8_lineOf_34 rfl (lv_at hl 3 rfl) ?_
  refine lv_aload_n hx hb dX8_lineOf_35 rfl (lv_at hl 0 rfl) ?_
  refine va_get (D := (dC, dI)) (ci := 9) (v := .int (sI s0 5)) (C := RX8) (T := TX8) (N := 10) hx hb hts hi_dm_X8_lineOf_X8 hown hK hP 0 rfl rfl 9 (by decide) (hts (.fieldLink RX8 41 "TimeMachine$Program" "statements" "I") (List.mem_of_getElem? (i := 3) rfl)) (fun _ h9 => h9) rfl dX8_lineOf_36 ?_
  refine lv_icmp_ge (tgt := 79) hx hb dX8_lineOf_39 (by decide) (fun c4 => ?_) (fun c4 => ?_)
  · have h := nd_pos h c4
    refine lv_iload_n hx hb dX8_lineOf_79 rfl (lv_at hl 2 rfl) ?_
    refine lv_if_ge (tgt := 87) hx hb dX8_lineOf_80 (by decide) (fun c5 => ?_) (fun c5 => ?_)
    · have h := nd_pos h c5
      refine lv_aload_n hx hb dX8_lineOf_87 rfl (lv_at hl 0 rfl) ?_
      refine va_get (D := (dC, dI)) (ci := 9) (v := .ref (a 4)) (C := RX8) (T := TX8) (N := 10) hx hb hts hi_dm_X8_lineOf_X8 hown hK hP 0 rfl rfl 8 (by decide) (hts (.fieldLink RX8 25 "TimeMachine$Program" "line" "[I") (List.mem_of_getElem? (i := 4) rfl)) (fun _ h9 => h9) rfl dX8_lineOf_88 ?_
      refine lv_iload_n hx hb dX8_lineOf_91 rfl (lv_at hl 2 rfl) ?_
      obtain ⟨i6, h⟩ := nd_ck_e h
      refine va_iald (i := x2) hx hb hK hP 4 3 rfl rfl i6 dX8_lineOf_92 ?_
      exact (db_X8_lineOf_93 C K) ((sR s0 3 (Int32.toNatClampNeg x2))) s0 _ _ _ h hP hD hS (lv_sub hl [] rfl)
    · have h := nd_neg h c5
      refine lv_iconst (v := 0) hx hb dX8_lineOf_83 (by decide) ?_
      refine lv_goto (tgt := 93) hx hb dX8_lineOf_84 (by decide) ?_
      exact (db_X8_lineOf_93 C K) (0) s0 _ _ _ h hP hD hS (lv_sub hl [] rfl)
  · have h := nd_neg h c4
    refine lv_aload_n hx hb dX8_lineOf_42 rfl (lv_at hl 0 rfl) ?_
    refine va_get (D := (dC, dI)) (ci := 9) (v := .ref (a 3)) (C := RX8) (T := TX8) (N := 10) hx hb hts hi_dm_X8_lineOf_X8 hown hK hP 0 rfl rfl 7 (by decide) (hts (.fieldLink RX8 22 "TimeMachine$Program" "start" "[I") (List.mem_of_getElem? (i := 5) rfl)) (fun _ h9 => h9) rfl dX8_lineOf_43 ?_
    refine lv_iload_n hx hb dX8_lineOf_46 rfl (lv_at hl 3 rfl) ?_
    obtain ⟨i7, h⟩ := nd_ck_e h
    refine va_iald (i := x3) hx hb hK hP 3 2 rfl rfl i7 dX8_lineOf_47 ?_
    refine lv_iload_n hx hb dX8_lineOf_48 rfl (lv_at hl 1 rfl) ?_
    refine lv_icmp_gt (tgt := 73) hx hb dX8_lineOf_49 (by decide) (fun c8 => ?_) (fun c8 => ?_)
    · have h := nd_pos h c8
      exact (db_X8_lineOf_73 C K J34) (x1) (x2) (x3) s0 _ _ _ h hP hD hS (lv_sub hl [0, 1, 2, 3] rfl)
    · have h := nd_neg h c8
      refine lv_iload_n hx hb dX8_lineOf_52 rfl (lv_at hl 2 rfl) ?_
      refine lv_if_lt (tgt := 71) hx hb dX8_lineOf_53 (by decide) (fun c10 => ?_) (fun c10 => ?_)
      · have h := nd_pos h c10
        exact (db_X8_lineOf_71 C K J34) (x1) (x3) s0 _ _ _ h hP hD hS (lv_sub hl [0, 1, 3] rfl)
      · have h := nd_neg h c10
        refine lv_aload_n hx hb dX8_lineOf_56 rfl (lv_at hl 0 rfl) ?_
        refine va_get (D := (dC, dI)) (ci := 9) (v := .ref (a 3)) (C := RX8) (T := TX8) (N := 10) hx hb hts hi_dm_X8_lineOf_X8 hown hK hP 0 rfl rfl 7 (by decide) (hts (.fieldLink RX8 22 "TimeMachine$Program" "start" "[I") (List.mem_of_getElem? (i := 5) rfl)) (fun _ h9 => h9) rfl dX8_lineOf_57 ?_
        refine lv_iload_n hx hb dX8_lineOf_60 rfl (lv_at hl 3 rfl) ?_
        obtain ⟨i11, h⟩ := nd_ck_e h
        refine va_iald (i := x3) hx hb hK hP 3 2 rfl rfl i11 dX8_lineOf_61 ?_
        refine lv_aload_n hx hb dX8_lineOf_62 rfl (lv_at hl 0 rfl) ?_
        refine va_get (D := (dC, dI)) (ci := 9) (v := .ref (a 3)) (C := RX8) (T := TX8) (N := 10) hx hb hts hi_dm_X8_lineOf_X8 hown hK hP 0 rfl rfl 7 (by decide) (hts (.fieldLink RX8 22 "TimeMachine$Program" "start" "[I") (List.mem_of_getElem? (i := 5) rfl)) (fun _ h9 => h9) rfl dX8_lineOf_63 ?_
        refine lv_iload_n hx hb dX8_lineOf_66 rfl (lv_at hl 2 rfl) ?_
        obtain ⟨i12, h⟩ := nd_ck_e h
        refine va_iald (i := x2) hx hb hK hP 3 2 rfl rfl i12 dX8_lineOf_67 ?_
        refine lv_icmp_le (tgt := 73) hx hb dX8_lineOf_68 (by decide) (fun c13 => ?_) (fun c13 => ?_)
        · have h := nd_pos h c13
          exact (db_X8_lineOf_73 C K J34) (x1) (x2) (x3) s0 _ _ _ h hP hD hS (lv_sub hl [0, 1, 2, 3] rfl)
        · have h := nd_neg h c13
          exact (db_X8_lineOf_71 C K J34) (x1) (x3) s0 _ _ _ h hP hD hS (lv_sub hl [0, 1, 3] rfl)
set_option maxHeartbeats 40000000 in
set_option maxRecDepth 100000 in
theorem db_X8_lineOf_34 {p : Program} {l : Launch} {e : Env} {s : State} {m : MethodId} {args : Array Value} {below : List Frame} {meth : Method} {c : Code} {Q : State → Prop} {A : Nat → Prop} {dC : Nat → ClassId} {dI : Nat → Nat → Nat} {a : Nat → Nat} {ac : Nat → ClassId} {n : Nat} {r : Int32 × (St)} (C : nd_C p l s m args c A (dC, dI) cX8_lineOf 4 RX8 ow_dm_X8_lineOf (dk_X8 ac)) (K : nd_Ki p l e (headSpec ow_dm_X8_lineOf ({ frames := 0, cells := 0, slots := 0, locals := 0 })).room s m args below meth c Q A (dC, dI) cX8_lineOf .int (St) (dw_X8 a ac) r) (k : Nat) : dj_X8_lineOf_34 p l e s m args below meth c Q A dC dI a ac (df_X8_lineOf_34 n k) r := by
  induction k with
  | zero => intro x1 x2 x3 s0 H locs ls h; exact nomatch (show (none : Option (Int32 × (St))) = some r from h)
  | succ k ih => exact dB_X8_lineOf_34 C K ih
set_option maxHeartbeats 40000000 in
set_option maxRecDepth 100000 in
theorem db_X8_lineOf_30 {p : Program} {l : Launch} {e : Env} {s : State} {m : MethodId} {args : Array Value} {below : List Frame} {meth : Method} {c : Code} {Q : State → Prop} {A : Nat → Prop} {dC : Nat → ClassId} {dI : Nat → Nat → Nat} {a : Nat → Nat} {ac : Nat → ClassId} {n : Nat} {r : Int32 × (St)} (C : nd_C p l s m args c A (dC, dI) cX8_lineOf 4 RX8 ow_dm_X8_lineOf (dk_X8 ac)) (K : nd_Ki p l e (headSpec ow_dm_X8_lineOf ({ frames := 0, cells := 0, slots := 0, locals := 0 })).room s m args below meth c Q A (dC, dI) cX8_lineOf .int (St) (dw_X8 a ac) r) : dj_X8_lineOf_30 p l e s m args below meth c Q A dC dI a ac (df_X8_lineOf_30 n) r := by
  obtain ⟨hlt, hx, hb, hml, hown, hts, hN, hA, hK⟩ := id C
  intro x1 s0 H locs ls h hP hD hS hl
  unfold df_X8_lineOf_30 at h
  refine lv_iconst (v := (-1)) hx hb dX8_lineOf_30 (by decide) ?_
  refine lv_istore_n (lv' := [(2, .int (-1)), (0, .ref (a 0)), (1, .int x1)]) hx hb dX8_lineOf_31 rfl hl (by decide) rfl (fun ls hl => ?_)
  refine lv_iconst (v := 0) hx hb dX8_lineOf_32 (by decide) ?_
  refine lv_istore_n (lv' := [(3, .int 0), (2, .int (-1)), (0, .ref (a 0)), (1, .int x1)]) hx hb dX8_lineOf_33 rfl hl (by decide) rfl (fun ls hl => ?_)
  exact (db_X8_lineOf_34 C K n) (x1) ((-1)) (0) s0 _ _ _ h hP hD hS (lv_sub hl [2, 3, 1, 0] rfl)
set_option maxHeartbeats 40000000 in
set_option maxRecDepth 100000 in
theorem db_X8_lineOf_0 {p : Program} {l : Launch} {e : Env} {s : State} {m : MethodId} {args : Array Value} {below : List Frame} {meth : Method} {c : Code} {Q : State → Prop} {A : Nat → Prop} {dC : Nat → ClassId} {dI : Nat → Nat → Nat} {a : Nat → Nat} {ac : Nat → ClassId} {n : Nat} {r : Int32 × (St)} (C : nd_C p l s m args c A (dC, dI) cX8_lineOf 4 RX8 ow_dm_X8_lineOf (dk_X8 ac)) (K : nd_Ki p l e (headSpec ow_dm_X8_lineOf ({ frames := 0, cells := 0, slots := 0, locals := 0 })).room s m args below meth c Q A (dC, dI) cX8_lineOf .int (St) (dw_X8 a ac) r) : dj_X8_lineOf_0 p l e s m args below meth c Q A dC dI a ac (df_X8_lineOf_0 n) r := by
  obtain ⟨hlt, hx, hb, hml, hown, hts, hN, hA, hK⟩ := id C
  intro v0 s0 H locs ls h hP hD hS hl
  unfold df_X8_lineOf_0 at h
  refine lv_iload_n hx hb dX8_lineOf_0 rfl (lv_at hl 1 rfl) ?_
  refine lv_if_lt (tgt := 28) hx hb dX8_lineOf_1 (by decide) (fun c1 => ?_) (fun c1 => ?_)
  · have h := nd_pos h c1
    exact (db_X8_lineOf_28 C K)  s0 _ _ _ h hP hD hS (lv_sub hl [] rfl)
  · have h := nd_neg h c1
    refine lv_iload_n hx hb dX8_lineOf_4 rfl (lv_at hl 1 rfl) ?_
    refine lv_aload_n hx hb dX8_lineOf_5 rfl (lv_at hl 0 rfl) ?_
    refine va_get (D := (dC, dI)) (ci := 9) (v := .int (sI s0 2)) (C := RX8) (T := TX8) (N := 10) hx hb hts hi_dm_X8_lineOf_X8 hown hK hP 0 rfl rfl 3 (by decide) (hts (.fieldLink RX8 35 "TimeMachine$Program" "size" "I") (List.mem_of_getElem? (i := 1) rfl)) (fun _ h9 => h9) rfl dX8_lineOf_6 ?_
    refine lv_icmp_ge (tgt := 28) hx hb dX8_lineOf_9 (by decide) (fun c2 => ?_) (fun c2 => ?_)
    · have h := nd_pos h c2
      exact (db_X8_lineOf_28 C K)  s0 _ _ _ h hP hD hS (lv_sub hl [] rfl)
    · have h := nd_neg h c2
      refine lv_iload_n hx hb dX8_lineOf_12 rfl (lv_at hl 1 rfl) ?_
      refine lv_aload_n hx hb dX8_lineOf_13 rfl (lv_at hl 0 rfl) ?_
      refine va_get (D := (dC, dI)) (ci := 9) (v := .int (sI s0 0)) (C := RX8) (T := TX8) (N := 10) hx hb hts hi_dm_X8_lineOf_X8 hown hK hP 0 rfl rfl 1 (by decide) (hts (.fieldLink RX8 28 "TimeMachine$Program" "textSize" "I") (List.mem_of_getElem? (i := 2) rfl)) (fun _ h9 => h9) rfl dX8_lineOf_14 ?_
      refine lv_icmp_lt (tgt := 30) hx hb dX8_lineOf_17 (by decide) (fun c3 => ?_) (fun c3 => ?_)
      · have h := nd_pos h c3
        exact (db_X8_lineOf_30 C K) (v0) s0 _ _ _ h hP hD hS (lv_sub hl [0, 1] rfl)
      · have h := nd_neg h c3
        refine lv_iload_n hx hb dX8_lineOf_20 rfl (lv_at hl 1 rfl) ?_
        refine lv_aload_n hx hb dX8_lineOf_21 rfl (lv_at hl 0 rfl) ?_
        refine va_get (D := (dC, dI)) (ci := 9) (v := .int (sI s0 1)) (C := RX8) (T := TX8) (N := 10) hx hb hts hi_dm_X8_lineOf_X8 hown hK hP 0 rfl rfl 2 (by decide) (hts (.fieldLink RX8 32 "TimeMachine$Program" "dataStart" "I") (List.mem_of_getElem? (i := 6) rfl)) (fun _ h9 => h9) rfl dX8_lineOf_22 ?_
        refine lv_icmp_ge (tgt := 30) hx hb dX8_lineOf_25 (by decide) (fun c14 => ?_) (fun c14 => ?_)
        · have h := nd_pos h c14
          exact (db_X8_lineOf_30 C K) (v0) s0 _ _ _ h hP hD hS (lv_sub hl [0, 1] rfl)
        · have h := nd_neg h c14
          exact (db_X8_lineOf_28 C K)  s0 _ _ _ h hP hD hS (lv_sub hl [] rfl)
set_option maxHeartbeats 40000000 in
set_option maxRecDepth 100000 in
theorem dm_X8_lineOf (l : Launch) (hlt : l.stackTraces = false) (dC : Nat → ClassId) (dI : Nat → Nat → Nat) (a : Nat → Nat) (ac : Nat → ClassId) (n : Nat) (v0 : Int32) (s0 : St) {r : Int32 × (St)} (h : df_X8_lineOf n v0 s0 = some r) (sz : Nat) : Met l yX8_lineOf ow_dm_X8_lineOf ({ frames := 0, cells := 0, slots := 0, locals := 0 }) (va_Pc [.ref (a 0), .int v0] (fun U => U.heap.size = sz ∧ va_P (dC, dI) vwCl (dw_X8 a ac s0) U.heap ∧ va_K (dC, dI) vwCl (dk_X8 ac) U ∧ va_D (fun _ => True) (dw_X8 a ac s0) ∧ nv_E (va_A (dw_X8 a ac s0) sz) U)) (va_Qi (fun x _ => x = r.1) (fun (_ : Unit) t => va_P (dC, dI) vwCl (dw_X8 a ac r.2) t.heap ∧ va_K (dC, dI) vwCl (dk_X8 ac) t ∧ va_D (va_A (dw_X8 a ac s0) sz) (dw_X8 a ac r.2)) (va_A (dw_X8 a ac s0) sz)) 0 0 (va_A (dw_X8 a ac s0) sz) := by
  refine Met.ofW (cc := cX8_lineOf) (maxL := 4) (ret := (some .int)) (by decide) rfl ?_
  intro p e s m args below meth c s₁ B hml hv
  obtain ⟨rfl, hsz, hP, hK, hD0, hN⟩ := hv
  have hx := B.exec
  have hb := B.bytes
  have hr := B.returns
  have hts := atoms_spec (ws := ow_dm_X8_lineOf) B.pre
  have hown : s.vm.findClass RX8 = some m.cls := findClass_of_methodNamed B.named
  have hlocks := B.notSynchronized
  subst hsz
  have hD := hD0.self (sz := s.heap.size)
  generalize hAe : va_A (dw_X8 a ac s0) s.heap.size = A at hD hN ⊢
  have hA : ∀ q : Nat, s.heap.size ≤ q → A q := fun q h => by rw [← hAe]; exact Or.inr h
  have hl := lv_entry ([.ref (a 0), .int v0]) (n := 4) (Nat.le_of_ble_eq_true rfl)
  rw [lg_entry_eq]
  generalize (lg_sl ([.ref (a 0), .int v0]) ++ List.replicate (4 - (lg_sl ([.ref (a 0), .int v0])).length) Slot.unset).toArray = ls at hl ⊢
  have hl : lv_has ls 4 [(0, .ref (a 0)), (1, .int v0)] := hl
  exact db_X8_lineOf_0 (dC := dC) (dI := dI) (a := a) (ac := ac) (n := n) (r := r) ⟨hlt, hx, hb, hml, hown, hts, hN, hA, hK⟩ (fun pc v τ H locs ls d z er hP hD hS => by subst er; exact W.zret (v := v) hx hb hr z (fun t ht hW => ⟨⟨v, (), rfl, rfl, by rw [ht]; exact hP, va_K.moved hW.alike hK, hD⟩, hS.F ht⟩) hS.2.2 d) v0 s0 _ _ _ h hP hD va_S.rf (lv_sub hl [0, 1] rfl)
def ow_dm_J7_fill_53178 : List Cond := .code yJ7_fill_53178 cJ7_fill_53178 4 none :: ([] ++ [])
theorem gd_dm_J7_fill_53178 : ∀ w ∈ ow_dm_J7_fill_53178, (w.onTables && w.keeps) = true ∨ ∃ ty, w = Cond.arrayClass ty := List.forall_mem_cons.mpr ⟨good_of_word rfl, List.forall_mem_append.mpr ⟨fun w h => good_of_word (List.all_eq_true.mp (by decide +kernel) w h), fun _ h => nomatch h⟩⟩
set_option maxHeartbeats 40000000 in
set_option maxRecDepth 100000 in
theorem dl_J7_fill_53178 {p : Program} {l : Launch} {e : Env} {s : State} {m : MethodId} {args : Array Value} {below : List Frame} {meth : Method} {c : Code} {Q : State → Prop} {A : Nat → Prop} (dC : Nat → ClassId) (dI : Nat → Nat → Nat) (b : Nat) (cb : ClassId) (N : Nat) (hNN : (Int32.ofNat N).toInt = N) (hN31 : N < 2147483648) (f : Nat → Int32) (v : Int32) (hx : p.tables.exec = Jvm.exec) (hb : c.code = cJ7_fill_53178) (hK : va_K (dC, dI) vwCl [(cb, .int)] s)
    (kk : ∀ (H : Heap) (locs : List Loc) (ls : Array Slot), va_P (dC, dI) vwCl [(b, .inl (cb, N, .inl (nd_fl N v f)))] H → va_D A [(b, .inl (cb, N, .inl (nd_fl N v f)))] → va_S A s.heap H locs → W p l e (headSpec ow_dm_J7_fill_53178 ({ frames := 0, cells := 0, slots := 0, locals := 0 })).room s m args below meth c H locs 0 0 Q (F0 m 20 ls [])) :
    ∀ (k : Nat) (i : Int32) (H : Heap) (locs : List Loc) (ls : Array Slot), 0 ≤ i.toInt → i.toInt + k = N → va_P (dC, dI) vwCl [(b, .inl (cb, N, .inl (nd_fl i.toNatClampNeg v f)))] H → va_D A [(b, .inl (cb, N, .inl (nd_fl i.toNatClampNeg v f)))] → va_S A s.heap H locs → lv_has ls 4 [(2, .int i), (3, .int (Int32.ofNat N)), (0, .ref b), (1, .int v)] → W p l e (headSpec ow_dm_J7_fill_53178 ({ frames := 0, cells := 0, slots := 0, locals := 0 })).room s m args below meth c H locs 0 0 Q (F0 m 5 ls []) := by
  intro k
  induction k with
  | zero =>
    intro i H locs ls h0 hk hP hD hS hl
    refine lv_iload_n hx hb dJ7_fill_53178_5 rfl (lv_at hl 0 rfl) ?_
    refine lv_iload_n hx hb dJ7_fill_53178_6 rfl (lv_at hl 1 rfl) ?_
    refine lv_icmp_ge (tgt := 20) hx hb dJ7_fill_53178_7 (by decide) (fun _ => ?_) (fun h9 => absurd (Int32.le_iff_toInt_le.mpr (by rw [hNN]; omega)) h9)
    have hi : i.toNatClampNeg = N := by show i.toInt.toNat = N; omega
    rw [hi] at hP hD
    exact kk H locs ls hP hD hS
  | succ k ih =>
    intro i H locs ls h0 hk hP hD hS hl
    refine lv_iload_n hx hb dJ7_fill_53178_5 rfl (lv_at hl 0 rfl) ?_
    refine lv_iload_n hx hb dJ7_fill_53178_6 rfl (lv_at hl 1 rfl) ?_
    refine lv_icmp_ge (tgt := 20) hx hb dJ7_fill_53178_7 (by decide) (fun h9 => absurd (Int32.le_iff_toInt_le.mp h9) (by rw [hNN]; omega)) (fun _ => ?_)
    refine lv_aload_n hx hb dJ7_fill_53178_10 rfl (lv_at hl 2 rfl) ?_
    refine lv_iload_n hx hb dJ7_fill_53178_11 rfl (lv_at hl 0 rfl) ?_
    refine lv_iload_n hx hb dJ7_fill_53178_12 rfl (lv_at hl 3 rfl) ?_
    refine va_iast (i := i) (x := v) hx hb hK hP hD hS 0 0 rfl rfl (by rw [vp_in_iff]; omega) dJ7_fill_53178_13 (fun H locs hP hD hS => ?_)
    obtain ⟨z, ez⟩ : ∃ y : Int32, y = i + Int32.ofInt 1 := ⟨_, rfl⟩
    refine lv_iinc (v := z) (lv' := [(2, .int z), (3, .int (Int32.ofNat N)), (0, .ref b), (1, .int v)]) hx hb dJ7_fill_53178_14 hl (k := 0) rfl (by rw [ez]) (by decide) rfl (fun ls hl => ?_)
    refine lv_goto (tgt := 5) hx hb dJ7_fill_53178_17 (by decide) ?_
    have hz : z.toInt = i.toInt + 1 := by rw [ez]; exact nv_inc h0 (by omega)
    have hn : z.toNatClampNeg = i.toNatClampNeg + 1 := by show z.toInt.toNat = i.toInt.toNat + 1; omega
    have hP : va_P (dC, dI) vwCl [(b, .inl (cb, N, .inl (upd (nd_fl i.toNatClampNeg v f) i.toNatClampNeg v)))] H := hP
    have hD : va_D A [(b, .inl (cb, N, .inl (upd (nd_fl i.toNatClampNeg v f) i.toNatClampNeg v)))] := hD
    rw [nd_fl1, ← hn] at hP hD
    exact ih z H locs ls (by omega) (by omega) hP hD hS hl
set_option maxHeartbeats 40000000 in
set_option maxRecDepth 100000 in
theorem dm_J7_fill_53178 (l : Launch) (hlt : l.stackTraces = false) (dC : Nat → ClassId) (dI : Nat → Nat → Nat) (b : Nat) (cb : ClassId) (N : Nat) (hN31 : N < 2147483648) (f : Nat → Int32) (v : Int32) (sz : Nat) : Met l yJ7_fill_53178 ow_dm_J7_fill_53178 ({ frames := 0, cells := 0, slots := 0, locals := 0 }) (va_Pc [.ref b, .int v] (fun U => U.heap.size = sz ∧ va_P (dC, dI) vwCl [(b, .inl (cb, N, .inl f))] U.heap ∧ va_K (dC, dI) vwCl [(cb, .int)] U ∧ va_D (fun _ => True) [(b, .inl (cb, N, .inl f))] ∧ nv_E (va_A [(b, .inl (cb, N, .inl f))] sz) U)) (va_Qv (fun _ => True) (fun (_ : Unit) t => va_P (dC, dI) vwCl [(b, .inl (cb, N, .inl (nd_fl N v f)))] t.heap ∧ va_K (dC, dI) vwCl [(cb, .int)] t ∧ va_D (va_A [(b, .inl (cb, N, .inl f))] sz) [(b, .inl (cb, N, .inl (nd_fl N v f)))]) (va_A [(b, .inl (cb, N, .inl f))] sz)) 0 0 (va_A [(b, .inl (cb, N, .inl f))] sz) := by
  have hNN : (Int32.ofNat N).toInt = N := Int32.toInt_ofNat_of_lt hN31
  refine Met.ofW (cc := cJ7_fill_53178) (maxL := 4) (ret := none) (by decide) rfl ?_
  intro p e s m args below meth c s₁ B hml hv
  obtain ⟨rfl, hsz, hP, hK, hD0, hN⟩ := hv
  have hx := B.exec
  have hb := B.bytes
  have hr := B.returns
  have hlocks := B.notSynchronized
  subst hsz
  have hD := hD0.self (sz := s.heap.size)
  generalize hAe : va_A [(b, .inl (cb, N, .inl f))] s.heap.size = A at hD hN ⊢
  have hl := lv_entry ([.ref b, .int v]) (n := 4) (Nat.le_of_ble_eq_true rfl)
  rw [lg_entry_eq]
  generalize (lg_sl ([.ref b, .int v]) ++ List.replicate (4 - (lg_sl ([.ref b, .int v])).length) Slot.unset).toArray = ls at hl ⊢
  have hl : lv_has ls 4 [(0, .ref b), (1, .int v)] := hl
  refine lv_iconst (v := 0) hx hb dJ7_fill_53178_0 (by decide) ?_
  refine lv_istore_n (lv' := [(2, .int 0), (0, .ref b), (1, .int v)]) hx hb dJ7_fill_53178_1 rfl hl (by decide) rfl (fun ls hl => ?_)
  refine lv_aload_n hx hb dJ7_fill_53178_2 rfl (lv_at hl 1 rfl) ?_
  refine va_alen (v := Int32.ofNat N) hx hb hK hP 0 0 rfl rfl rfl dJ7_fill_53178_3 ?_
  refine lv_istore_n (lv' := [(3, .int (Int32.ofNat N)), (2, .int 0), (0, .ref b), (1, .int v)]) hx hb dJ7_fill_53178_4 rfl hl (by decide) rfl (fun ls hl => ?_)
  refine dl_J7_fill_53178 dC dI b cb N hNN hN31 f v hx hb hK (fun H locs ls hP hD hS => ?_) N 0 s.heap [] ls (by decide) (by show (0 : Int) + N = N; omega) (by rw [show (0 : Int32).toNatClampNeg = 0 from rfl, nd_fl0]; exact hP) (by rw [show (0 : Int32).toNatClampNeg = 0 from rfl, nd_fl0]; exact hD) va_S.rf (lv_sub hl [1, 0, 2, 3] rfl)
  exact W.vret hx hb hr (fun t ht hW => ⟨⟨(), rfl, trivial, by rw [ht]; exact hP, va_K.moved hW.alike hK, hD⟩, hS.F ht⟩) hS.2.2 dJ7_fill_53178_20
def ow_dm_X10_hold : List Cond := .code yX10_hold cX10_hold 4 none :: ([.fieldLink RX10 18 "TimeMachine$Things" "pipe" "[I", .fieldLink RX10 25 "TimeMachine$Things" "file" "[I"] ++ (u_ws RX10 TX10 11 ++ []))
theorem gd_dm_X10_hold : ∀ w ∈ ow_dm_X10_hold, (w.onTables && w.keeps) = true ∨ ∃ ty, w = Cond.arrayClass ty := List.forall_mem_cons.mpr ⟨good_of_word rfl, List.forall_mem_append.mpr ⟨fun w h => good_of_word (List.all_eq_true.mp (by decide +kernel) w h), List.forall_mem_append.mpr ⟨gu_X10, fun _ h => nomatch h⟩⟩⟩
theorem hi_dm_X10_hold_X10 : ∀ w ∈ u_ws RX10 TX10 11, w ∈ ow_dm_X10_hold := fun w h => List.mem_cons_of_mem _ (List.mem_append_right _ (List.mem_append_left _ h))
def dj_X10_hold_41 (p : Program) (l : Launch) (e : Env) (s : State) (m : MethodId) (args : Array Value) (below : List Frame) (meth : Method) (c : Code) (Q : State → Prop) (A : Nat → Prop) (dC : Nat → ClassId) (dI : Nat → Nat → Nat) (a : Nat → Nat) (ac : Nat → ClassId) (g : (St) → Option (St)) (r : St) : Prop := ∀ (s0 : St) (H : Heap) (locs : List Loc) (ls : Array Slot), g s0 = some r → va_P (dC, dI) vwCl (dw_X10 a ac s0) H → va_D A (dw_X10 a ac s0) → va_S A s.heap H locs → lv_has ls 4 [] → W p l e (headSpec ow_dm_X10_hold ({ frames := 0, cells := 0, slots := 0, locals := 0 })).room s m args below meth c H locs 0 0 Q (F0 m 41 ls [])
def dj_X10_hold_0 (p : Program) (l : Launch) (e : Env) (s : State) (m : MethodId) (args : Array Value) (below : List Frame) (meth : Method) (c : Code) (Q : State → Prop) (A : Nat → Prop) (dC : Nat → ClassId) (dI : Nat → Nat → Nat) (a : Nat → Nat) (ac : Nat → ClassId) (g : Int32 → Int32 → Int32 → (St) → Option (St)) (r : St) : Prop := ∀ (v0 : Int32) (v1 : Int32) (v2 : Int32) (s0 : St) (H : Heap) (locs : List Loc) (ls : Array Slot), g v0 v1 v2 s0 = some r → va_P (dC, dI) vwCl (dw_X10 a ac s0) H → va_D A (dw_X10 a ac s0) → va_S A s.heap H locs → lv_has ls 4 [(0, .ref (a 0)), (1, .int v0), (2, .int v1), (3, .int v2)] → W p l e (headSpec ow_dm_X10_hold ({ frames := 0, cells := 0, slots := 0, locals := 0 })).room s m args below meth c H locs 0 0 Q (F0 m 0 ls [])
set_option maxHeartbeats 40000000 in
set_option maxRecDepth 100000 in
theorem db_X10_hold_41 {p : Program} {l : Launch} {e : Env} {s : State} {m : MethodId} {args : Array Value} {below : List Frame} {meth : Method} {c : Code} {Q : State → Prop} {A : Nat → Prop} {dC : Nat → ClassId} {dI : Nat → Nat → Nat} {a : Nat → Nat} {ac : Nat → ClassId} {n : Nat} {r : St} (C : nd_C p l s m args c A (dC, dI) cX10_hold 4 RX10 ow_dm_X10_hold (dk_X10 ac)) (K : nd_Kv p l e (headSpec ow_dm_X10_hold ({ frames := 0, cells := 0, slots := 0, locals := 0 })).room s m args below meth c Q A (dC, dI) cX10_hold (St) (dw_X10 a ac) r) : dj_X10_hold_41 p l e s m args below meth c Q A dC dI a ac (df_X10_hold_41 n) r := by
  obtain ⟨hlt, hx, hb, hml, hown, hts, hN, hA, hK⟩ := id C
  intro s0 H locs ls h hP hD hS hl
  unfold df_X10_hold_41 at h
  exact K _ _ _ _ _ dX10_hold_41 (Option.some.inj h).symm hP hD hS
set_option maxHeartbeats 40000000 in
set_option maxRecDepth 100000 in
theorem db_X10_hold_0 {p : Program} {l : Launch} {e : Env} {s : State} {m : MethodId} {args : Array Value} {below : List Frame} {meth : Method} {c : Code} {Q : State → Prop} {A : Nat → Prop} {dC : Nat → ClassId} {dI : Nat → Nat → Nat} {a : Nat → Nat} {ac : Nat → ClassId} {n : Nat} {r : St} (C : nd_C p l s m args c A (dC, dI) cX10_hold 4 RX10 ow_dm_X10_hold (dk_X10 ac)) (K : nd_Kv p l e (headSpec ow_dm_X10_hold ({ frames := 0, cells := 0, slots := 0, locals := 0 })).room s m args below meth c Q A (dC, dI) cX10_hold (St) (dw_X10 a ac) r) : dj_X10_hold_0 p l e s m args below meth c Q A dC dI a ac (df_X10_hold_0 n) r := by
  obtain ⟨hlt, hx, hb, hml, hown, hts, hN, hA, hK⟩ := id C
  intro v0 v1 v2 s0 H locs ls h hP hD hS hl
  unfold df_X10_hold_0 at h
  refine lv_iload_n hx hb dX10_hold_0 rfl (lv_at hl 1 rfl) ?_
  refine lv_iconst (v := 3) hx hb dX10_hold_1 (by decide) ?_
  refine lv_icmp_ne (tgt := 22) hx hb dX10_hold_2 (by decide) (fun c1 => ?_) (fun c1 => ?_)
  · have h := nd_neg h c1
    refine lv_iload_n hx hb dX10_hold_22 rfl (lv_at hl 1 rfl) ?_
    refine lv_iconst (v := 4) hx hb dX10_hold_23 (by decide) ?_
    refine lv_icmp_eq (tgt := 41) hx hb dX10_hold_24 (by decide) (fun c2 => ?_) (fun c2 => ?_)
    · have h := nd_pos h c2
      exact (db_X10_hold_41 C K)  s0 _ _ _ h hP hD hS (lv_sub hl [] rfl)
    · have h := nd_neg h c2
      refine lv_aload_n hx hb dX10_hold_27 rfl (lv_at hl 0 rfl) ?_
      refine va_get (D := (dC, dI)) (ci := 11) (v := .ref (a 3)) (C := RX10) (T := TX10) (N := 11) hx hb hts hi_dm_X10_hold_X10 hown hK hP 0 rfl rfl 2 (by decide) (hts (.fieldLink RX10 18 "TimeMachine$Things" "pipe" "[I") (List.mem_of_getElem? (i := 1) rfl)) (fun _ h9 => h9) rfl dX10_hold_28 ?_
      refine lv_iload_n hx hb dX10_hold_31 rfl (lv_at hl 2 rfl) ?_
      refine lv_iconst (v := 4) hx hb dX10_hold_32 (by decide) ?_
      refine lv_imul hx hb dX10_hold_33 ?_
      refine lv_iload_n hx hb dX10_hold_34 rfl (lv_at hl 1 rfl) ?_
      refine lv_iadd hx hb dX10_hold_35 ?_
      refine lv_dup2_11 hx hb dX10_hold_36 rfl rfl ?_
      obtain ⟨i3, h⟩ := nd_ck_e h
      refine va_iald (i := ((v1 * 4) + v0)) hx hb hK hP 3 2 rfl rfl i3 dX10_hold_37 ?_
      refine lv_iload_n hx hb dX10_hold_38 rfl (lv_at hl 3 rfl) ?_
      refine lv_iadd hx hb dX10_hold_39 ?_
      obtain ⟨i4, h⟩ := nd_ck_e h
      refine va_iast (i := ((v1 * 4) + v0)) (x := ((sR s0 2 (Int32.toNatClampNeg ((v1 * 4) + v0))) + v2)) hx hb hK hP hD hS 3 2 rfl rfl i4 dX10_hold_40 (fun H locs hP hD hS => ?_)
      obtain ⟨s5, es5, h⟩ := nd_let_e h
      have hP : va_P (dC, dI) vwCl (dw_X10 a ac s5) H := by rw [es5]; exact hP
      have hD : va_D A (dw_X10 a ac s5) := by rw [es5]; exact hD
      exact (db_X10_hold_41 C K)  s5 _ _ _ h hP hD hS (lv_sub hl [] rfl)
  · have h := nd_pos h c1
    refine lv_aload_n hx hb dX10_hold_5 rfl (lv_at hl 0 rfl) ?_
    refine va_get (D := (dC, dI)) (ci := 11) (v := .ref (a 5)) (C := RX10) (T := TX10) (N := 11) hx hb hts hi_dm_X10_hold_X10 hown hK hP 0 rfl rfl 4 (by decide) (hts (.fieldLink RX10 25 "TimeMachine$Things" "file" "[I") (List.mem_of_getElem? (i := 2) rfl)) (fun _ h9 => h9) rfl dX10_hold_6 ?_
    refine lv_iload_n hx hb dX10_hold_9 rfl (lv_at hl 2 rfl) ?_
    refine lv_iconst (v := 3) hx hb dX10_hold_10 (by decide) ?_
    refine lv_imul hx hb dX10_hold_11 ?_
    refine lv_iconst (v := 1) hx hb dX10_hold_12 (by decide) ?_
    refine lv_iadd hx hb dX10_hold_13 ?_
    refine lv_dup2_11 hx hb dX10_hold_14 rfl rfl ?_
    obtain ⟨i6, h⟩ := nd_ck_e h
    refine va_iald (i := ((v1 * 3) + 1)) hx hb hK hP 5 4 rfl rfl i6 dX10_hold_15 ?_
    refine lv_iload_n hx hb dX10_hold_16 rfl (lv_at hl 3 rfl) ?_
    refine lv_iadd hx hb dX10_hold_17 ?_
    obtain ⟨i7, h⟩ := nd_ck_e h
    refine va_iast (i := ((v1 * 3) + 1)) (x := ((sR s0 4 (Int32.toNatClampNeg ((v1 * 3) + 1))) + v2)) hx hb hK hP hD hS 5 4 rfl rfl i7 dX10_hold_18 (fun H locs hP hD hS => ?_)
    obtain ⟨s8, es8, h⟩ := nd_let_e h
    have hP : va_P (dC, dI) vwCl (dw_X10 a ac s8) H := by rw [es8]; exact hP
    have hD : va_D A (dw_X10 a ac s8) := by rw [es8]; exact hD
    refine lv_goto (tgt := 41) hx hb dX10_hold_19 (by decide) ?_
    exact (db_X10_hold_41 C K)  s8 _ _ _ h hP hD hS (lv_sub hl [] rfl)
set_option maxHeartbeats 40000000 in
set_option maxRecDepth 100000 in
theorem dm_X10_hold (l : Launch) (hlt : l.stackTraces = false) (dC : Nat → ClassId) (dI : Nat → Nat → Nat) (a : Nat → Nat) (ac : Nat → ClassId) (n : Nat) (v0 : Int32) (v1 : Int32) (v2 : Int32) (s0 : St) {r : St} (h : df_X10_hold n v0 v1 v2 s0 = some r) (sz : Nat) : Met l yX10_hold ow_dm_X10_hold ({ frames := 0, cells := 0, slots := 0, locals := 0 }) (va_Pc [.ref (a 0), .int v0, .int v1, .int v2] (fun U => U.heap.size = sz ∧ va_P (dC, dI) vwCl (dw_X10 a ac s0) U.heap ∧ va_K (dC, dI) vwCl (dk_X10 ac) U ∧ va_D (fun _ => True) (dw_X10 a ac s0) ∧ nv_E (va_A (dw_X10 a ac s0) sz) U)) (va_Qv (fun _ => True) (fun (_ : Unit) t => va_P (dC, dI) vwCl (dw_X10 a ac r) t.heap ∧ va_K (dC, dI) vwCl (dk_X10 ac) t ∧ va_D (va_A (dw_X10 a ac s0) sz) (dw_X10 a ac r)) (va_A (dw_X10 a ac s0) sz)) 0 0 (va_A (dw_X10 a ac s0) sz) := by
  refine Met.ofW (cc := cX10_hold) (maxL := 4) (ret := none) (by decide) rfl ?_
  intro p e s m args below meth c s₁ B hml hv
  obtain ⟨rfl, hsz, hP, hK, hD0, hN⟩ := hv
  have hx := B.exec
  have hb := B.bytes
  have hr := B.returns
  have hts := atoms_spec (ws := ow_dm_X10_hold) B.pre
  have hown : s.vm.findClass RX10 = some m.cls := findClass_of_methodNamed B.named
  have hlocks := B.notSynchronized
  subst hsz
  have hD := hD0.self (sz := s.heap.size)
  generalize hAe : va_A (dw_X10 a ac s0) s.heap.size = A at hD hN ⊢
  have hA : ∀ q : Nat, s.heap.size ≤ q → A q := fun q h => by rw [← hAe]; exact Or.inr h
  have hl := lv_entry ([.ref (a 0), .int v0, .int v1, .int v2]) (n := 4) (Nat.le_of_ble_eq_true rfl)
  rw [lg_entry_eq]
  generalize (lg_sl ([.ref (a 0), .int v0, .int v1, .int v2]) ++ List.replicate (4 - (lg_sl ([.ref (a 0), .int v0, .int v1, .int v2])).length) Slot.unset).toArray = ls at hl ⊢
  have hl : lv_has ls 4 [(0, .ref (a 0)), (1, .int v0), (2, .int v1), (3, .int v2)] := hl
  exact db_X10_hold_0 (dC := dC) (dI := dI) (a := a) (ac := ac) (n := n) (r := r) ⟨hlt, hx, hb, hml, hown, hts, hN, hA, hK⟩ (fun pc τ H locs ls d er hP hD hS => by subst er; exact W.vret hx hb hr (fun t ht hW => ⟨⟨(), rfl, trivial, by rw [ht]; exact hP, va_K.moved hW.alike hK, hD⟩, hS.F ht⟩) hS.2.2 d) v0 v1 v2 s0 _ _ _ h hP hD va_S.rf (lv_sub hl [0, 1, 2, 3] rfl)
def ow_dm_X10_open : List Cond := .code yX10_open cX10_open 6 (some .int) :: ([.fieldLink RX10 15 "TimeMachine$Things" "opening" "[I", .methodLink RX10 77 yX10_hold, .instanceMethod yX10_hold, .selects RX10 yX10_hold yX10_hold, .initialized RX10] ++ (u_ws RX10 TX10 11 ++ (ow_dm_X10_hold ++ [])))
theorem gd_dm_X10_open : ∀ w ∈ ow_dm_X10_open, (w.onTables && w.keeps) = true ∨ ∃ ty, w = Cond.arrayClass ty := List.forall_mem_cons.mpr ⟨good_of_word rfl, List.forall_mem_append.mpr ⟨fun w h => good_of_word (List.all_eq_true.mp (by decide +kernel) w h), List.forall_mem_append.mpr ⟨gu_X10, List.forall_mem_append.mpr ⟨gd_dm_X10_hold, fun _ h => nomatch h⟩⟩⟩⟩
theorem hi_dm_X10_open_X10 : ∀ w ∈ u_ws RX10 TX10 11, w ∈ ow_dm_X10_open := fun w h => List.mem_cons_of_mem _ (List.mem_append_right _ (List.mem_append_left _ h))
theorem gi_dm_X10_open_0 : GoodIn ow_dm_X10_open (wsV RX10 77 RX10 yX10_hold ow_dm_X10_hold) := goodIn_app (goodIn_of _ (by decide +kernel)) (fun w h => ⟨List.mem_cons_of_mem _ (List.mem_append_right _ (List.mem_append_right _ (List.mem_append_left _ h))), gd_dm_X10_hold w h⟩)
def dj_X10_open_3 (p : Program) (l : Launch) (e : Env) (s : State) (m : MethodId) (args : Array Value) (below : List Frame) (meth : Method) (c : Code) (Q : State → Prop) (A : Nat → Prop) (dC : Nat → ClassId) (dI : Nat → Nat → Nat) (a : Nat → Nat) (ac : Nat → ClassId) (g : Int32 → Int32 → Int32 → Int32 → (St) → Option (Int32 × (St))) (r : Int32 × (St)) : Prop := ∀ (x1 : Int32) (x2 : Int32) (x3 : Int32) (x4 : Int32) (s0 : St) (H : Heap) (locs : List Loc) (ls : Array Slot), g x1 x2 x3 x4 s0 = some r → va_P (dC, dI) vwCl (dw_X10 a ac s0) H → va_D A (dw_X10 a ac s0) → va_S A s.heap H locs → lv_has ls 6 [(0, .ref (a 0)), (1, .int x1), (2, .int x2), (3, .int x3), (4, .int x4)] → W p l e (headSpec ow_dm_X10_open ({ frames := 1, cells := 0, slots := 0, locals := 23 })).room s m args below meth c H locs 0 0 Q (F0 m 3 ls [])
def dj_X10_open_0 (p : Program) (l : Launch) (e : Env) (s : State) (m : MethodId) (args : Array Value) (below : List Frame) (meth : Method) (c : Code) (Q : State → Prop) (A : Nat → Prop) (dC : Nat → ClassId) (dI : Nat → Nat → Nat) (a : Nat → Nat) (ac : Nat → ClassId) (g : Int32 → Int32 → Int32 → (St) → Option (Int32 × (St))) (r : Int32 × (St)) : Prop := ∀ (v0 : Int32) (v1 : Int32) (v2 : Int32) (s0 : St) (H : Heap) (locs : List Loc) (ls : Array Slot), g v0 v1 v2 s0 = some r → va_P (dC, dI) vwCl (dw_X10 a ac s0) H → va_D A (dw_X10 a ac s0) → va_S A s.heap H locs → lv_has ls 6 [(0, .ref (a 0)), (1, .int v0), (2, .int v1), (3, .int v2)] → W p l e (headSpec ow_dm_X10_open ({ frames := 1, cells := 0, slots := 0, locals := 23 })).room s m args below meth c H locs 0 0 Q (F0 m 0 ls [])
set_option maxHeartbeats 40000000 in
set_option maxRecDepth 100000 in
theorem dB_X10_open_3 {p : Program} {l : Launch} {e : Env} {s : State} {m : MethodId} {args : Array Value} {below : List Frame} {meth : Method} {c : Code} {Q : State → Prop} {A : Nat → Prop} {dC : Nat → ClassId} {dI : Nat → Nat → Nat} {a : Nat → Nat} {ac : Nat → ClassId} {n : Nat} {r : Int32 × (St)} (C : nd_C p l s m args c A (dC, dI) cX10_open 6 RX10 ow_dm_X10_open (dk_X10 ac)) (K : nd_Ki p l e (headSpec ow_dm_X10_open ({ frames := 1, cells := 0, slots := 0, locals := 23 })).room s m args below meth c Q A (dC, dI) cX10_open .int (St) (dw_X10 a ac) r) {g3 : Int32 → Int32 → Int32 → Int32 → (St) → Option (Int32 × (St))} (J3 : dj_X10_open_3 p l e s m args below meth c Q A dC dI a ac g3 r) : dj_X10_open_3 p l e s m args below meth c Q A dC dI a ac (dF_X10_open_3 n g3) r := by
  obtain ⟨hlt, hx, hb, hml, hown, hts, hN, hA, hK⟩ := id C
  intro x1 x2 x3 x4 s0 H locs ls h hP hD hS hl
  unfold dF_X10_open_3 at h
  refine lv_iload hx hb dX10_open_3 (lv_at hl 4 rfl) ?_
  refine lv_bipush (v := 48) hx hb dX10_open_5 (by decide) ?_
  refine lv_icmp_ge (tgt := 94) hx hb dX10_open_7 (by decide) (fun c1 => ?_) (fun c1 => ?_)
  · have h := nd_pos h c1
    refine lv_iconst (v := (-1)) hx hb dX10_open_94 (by decide) ?_
    exact K _ _ _ _ _ _ dX10_open_95 rfl (Option.some.inj h).symm hP hD hS
  · have h := nd_neg h c1
    refine lv_iload hx hb dX10_open_10 (lv_at hl 4 rfl) ?_
    refine lv_iconst (v := 5) hx hb dX10_open_12 (by decide) ?_
    refine lv_imul hx hb dX10_open_13 ?_
    refine lv_topi (fun z2 ez2 => ?_)
    have h := nd_at h ez2
    refine lv_istore (lv' := [(5, .int z2), (0, .ref (a 0)), (1, .int x1), (2, .int x2), (3, .int x3), (4, .int x4)]) hx hb dX10_open_14 hl (by decide) rfl (fun ls hl => ?_)
    refine lv_aload_n hx hb dX10_open_16 rfl (lv_at hl 1 rfl) ?_
    refine va_get (D := (dC, dI)) (ci := 11) (v := .ref (a 2)) (C := RX10) (T := TX10) (N := 11) hx hb hts hi_dm_X10_open_X10 hown hK hP 0 rfl rfl 1 (by decide) (hts (.fieldLink RX10 15 "TimeMachine$Things" "opening" "[I") (List.mem_of_getElem? (i := 1) rfl)) (fun _ h9 => h9) rfl dX10_open_17 ?_
    refine lv_iload hx hb dX10_open_20 (lv_at hl 0 rfl) ?_
    refine lv_iconst (v := 0) hx hb dX10_open_22 (by decide) ?_
    refine lv_iadd hx hb dX10_open_23 ?_
    obtain ⟨i3, h⟩ := nd_ck_e h
    refine va_iald (i := (z2 + 0)) hx hb hK hP 2 1 rfl rfl i3 dX10_open_24 ?_
    refine lv_if_ne (tgt := 88) hx hb dX10_open_25 (by decide) (fun c4 => ?_) (fun c4 => ?_)
    · have h := nd_neg h c4
      obtain ⟨z5, ez5, h⟩ := nd_let_e h
      refine lv_iinc (v := z5) (lv' := [(4, .int z5), (5, .int z2), (0, .ref (a 0)), (1, .int x1), (2, .int x2), (3, .int x3)]) hx hb dX10_open_88 hl (k := 5) rfl (by rw [ez5]) (by decide) rfl (fun ls hl => ?_)
      refine lv_goto (tgt := 3) hx hb dX10_open_91 (by decide) ?_
      exact (J3) (x1) (x2) (x3) (z5) s0 _ _ _ h hP hD hS (lv_sub hl [2, 3, 4, 5, 0] rfl)
    · have h := nd_pos h c4
      refine lv_aload_n hx hb dX10_open_28 rfl (lv_at hl 1 rfl) ?_
      refine va_get (D := (dC, dI)) (ci := 11) (v := .ref (a 2)) (C := RX10) (T := TX10) (N := 11) hx hb hts hi_dm_X10_open_X10 hown hK hP 0 rfl rfl 1 (by decide) (hts (.fieldLink RX10 15 "TimeMachine$Things" "opening" "[I") (List.mem_of_getElem? (i := 1) rfl)) (fun _ h9 => h9) rfl dX10_open_29 ?_
      refine lv_iload hx hb dX10_open_32 (lv_at hl 0 rfl) ?_
      refine lv_iconst (v := 0) hx hb dX10_open_34 (by decide) ?_
      refine lv_iadd hx hb dX10_open_35 ?_
      refine lv_iload_n hx hb dX10_open_36 rfl (lv_at hl 2 rfl) ?_
      obtain ⟨i6, h⟩ := nd_ck_e h
      refine va_iast (i := (z2 + 0)) (x := x1) hx hb hK hP hD hS 2 1 rfl rfl i6 dX10_open_37 (fun H locs hP hD hS => ?_)
      obtain ⟨s7, es7, h⟩ := nd_let_e h
      have hP : va_P (dC, dI) vwCl (dw_X10 a ac s7) H := by rw [es7]; exact hP
      have hD : va_D A (dw_X10 a ac s7) := by rw [es7]; exact hD
      refine lv_aload_n hx hb dX10_open_38 rfl (lv_at hl 1 rfl) ?_
      refine va_get (D := (dC, dI)) (ci := 11) (v := .ref (a 2)) (C := RX10) (T := TX10) (N := 11) hx hb hts hi_dm_X10_open_X10 hown hK hP 0 rfl rfl 1 (by decide) (hts (.fieldLink RX10 15 "TimeMachine$Things" "opening" "[I") (List.mem_of_getElem? (i := 1) rfl)) (fun _ h9 => h9) rfl dX10_open_39 ?_
      refine lv_iload hx hb dX10_open_42 (lv_at hl 0 rfl) ?_
      refine lv_iconst (v := 1) hx hb dX10_open_44 (by decide) ?_
      refine lv_iadd hx hb dX10_open_45 ?_
      refine lv_iconst (v := 0) hx hb dX10_open_46 (by decide) ?_
      obtain ⟨i8, h⟩ := nd_ck_e h
      refine va_iast (i := (z2 + 1)) (x := 0) hx hb hK hP hD hS 2 1 rfl rfl i8 dX10_open_47 (fun H locs hP hD hS => ?_)
      obtain ⟨s9, es9, h⟩ := nd_let_e h
      have hP : va_P (dC, dI) vwCl (dw_X10 a ac s9) H := by rw [es9]; exact hP
      have hD : va_D A (dw_X10 a ac s9) := by rw [es9]; exact hD
      refine lv_aload_n hx hb dX10_open_48 rfl (lv_at hl 1 rfl) ?_
      refine va_get (D := (dC, dI)) (ci := 11) (v := .ref (a 2)) (C := RX10) (T := TX10) (N := 11) hx hb hts hi_dm_X10_open_X10 hown hK hP 0 rfl rfl 1 (by decide) (hts (.fieldLink RX10 15 "TimeMachine$Things" "opening" "[I") (List.mem_of_getElem? (i := 1) rfl)) (fun _ h9 => h9) rfl dX10_open_49 ?_
      refine lv_iload hx hb dX10_open_52 (lv_at hl 0 rfl) ?_
      refine lv_iconst (v := 2) hx hb dX10_open_54 (by decide) ?_
      refine lv_iadd hx hb dX10_open_55 ?_
      refine lv_iload_n hx hb dX10_open_56 rfl (lv_at hl 3 rfl) ?_
      obtain ⟨i10, h⟩ := nd_ck_e h
      refine va_iast (i := (z2 + 2)) (x := x2) hx hb hK hP hD hS 2 1 rfl rfl i10 dX10_open_57 (fun H locs hP hD hS => ?_)
      obtain ⟨s11, es11, h⟩ := nd_let_e h
      have hP : va_P (dC, dI) vwCl (dw_X10 a ac s11) H := by rw [es11]; exact hP
      have hD : va_D A (dw_X10 a ac s11) := by rw [es11]; exact hD
      refine lv_aload_n hx hb dX10_open_58 rfl (lv_at hl 1 rfl) ?_
      refine va_get (D := (dC, dI)) (ci := 11) (v := .ref (a 2)) (C := RX10) (T := TX10) (N := 11) hx hb hts hi_dm_X10_open_X10 hown hK hP 0 rfl rfl 1 (by decide) (hts (.fieldLink RX10 15 "TimeMachine$Things" "opening" "[I") (List.mem_of_getElem? (i := 1) rfl)) (fun _ h9 => h9) rfl dX10_open_59 ?_
      refine lv_iload hx hb dX10_open_62 (lv_at hl 0 rfl) ?_
      refine lv_iconst (v := 3) hx hb dX10_open_64 (by decide) ?_
      refine lv_iadd hx hb dX10_open_65 ?_
      refine lv_iconst (v := 0) hx hb dX10_open_66 (by decide) ?_
      obtain ⟨i12, h⟩ := nd_ck_e h
      refine va_iast (i := (z2 + 3)) (x := 0) hx hb hK hP hD hS 2 1 rfl rfl i12 dX10_open_67 (fun H locs hP hD hS => ?_)
      obtain ⟨s13, es13, h⟩ := nd_let_e h
      have hP : va_P (dC, dI) vwCl (dw_X10 a ac s13) H := by rw [es13]; exact hP
      have hD : va_D A (dw_X10 a ac s13) := by rw [es13]; exact hD
      refine lv_aload_n hx hb dX10_open_68 rfl (lv_at hl 1 rfl) ?_
      refine va_get (D := (dC, dI)) (ci := 11) (v := .ref (a 2)) (C := RX10) (T := TX10) (N := 11) hx hb hts hi_dm_X10_open_X10 hown hK hP 0 rfl rfl 1 (by decide) (hts (.fieldLink RX10 15 "TimeMachine$Things" "opening" "[I") (List.mem_of_getElem? (i := 1) rfl)) (fun _ h9 => h9) rfl dX10_open_69 ?_
      refine lv_iload hx hb dX10_open_72 (lv_at hl 0 rfl) ?_
      refine lv_iconst (v := 4) hx hb dX10_open_74 (by decide) ?_
      refine lv_iadd hx hb dX10_open_75 ?_
      refine lv_iload_n hx hb dX10_open_76 rfl (lv_at hl 4 rfl) ?_
      obtain ⟨i14, h⟩ := nd_ck_e h
      refine va_iast (i := (z2 + 4)) (x := x3) hx hb hK hP hD hS 2 1 rfl rfl i14 dX10_open_77 (fun H locs hP hD hS => ?_)
      obtain ⟨s15, es15, h⟩ := nd_let_e h
      have hP : va_P (dC, dI) vwCl (dw_X10 a ac s15) H := by rw [es15]; exact hP
      have hD : va_D A (dw_X10 a ac s15) := by rw [es15]; exact hD
      refine lv_aload_n hx hb dX10_open_78 rfl (lv_at hl 1 rfl) ?_
      refine lv_iload_n hx hb dX10_open_79 rfl (lv_at hl 2 rfl) ?_
      refine lv_iload_n hx hb dX10_open_80 rfl (lv_at hl 3 rfl) ?_
      refine lv_iconst (v := 1) hx hb dX10_open_81 (by decide) ?_
      obtain ⟨s17, hq, h⟩ := nd_b1_e h
      have hPc := hP
      have hDc := hD
      have hKc := hK
      have hFc := nd_rs hD hS hA
      refine nd_cVv (As := [.int x1, .int x2, .int 1]) (rest := []) (w' := dw_X10 a ac s17) ⟨hx, hb, hml, hown, hts⟩ (fun sz => dm_X10_hold l hlt dC dI a ac n (x1) (x2) (1) s15 hq sz) (cwV 3 hts gi_dm_X10_open_0 rfl rfl rfl (by decide +kernel) ⟨Nat.le_of_ble_eq_true rfl, Nat.le_of_ble_eq_true rfl⟩) hPc hDc hKc hS hA hN (va_recv hKc hPc (ci := 11) (q0 := 0) rfl rfl) rfl hl.1 rfl (Nat.le_of_ble_eq_true rfl) dX10_open_82 (fun H locs hP1 hD1 hk1 hS => ?_)
      have hP := hP1
      have hD := hD1.weaken (fun k q _ h => hFc q.1 h)
      refine lv_iload hx hb dX10_open_85 (lv_at hl 5 rfl) ?_
      exact K _ _ _ _ _ _ dX10_open_87 rfl (Option.some.inj h).symm hP hD hS
set_option maxHeartbeats 40000000 in
set_option maxRecDepth 100000 in
theorem db_X10_open_3 {p : Program} {l : Launch} {e : Env} {s : State} {m : MethodId} {args : Array Value} {below : List Frame} {meth : Method} {c : Code} {Q : State → Prop} {A : Nat → Prop} {dC : Nat → ClassId} {dI : Nat → Nat → Nat} {a : Nat → Nat} {ac : Nat → ClassId} {n : Nat} {r : Int32 × (St)} (C : nd_C p l s m args c A (dC, dI) cX10_open 6 RX10 ow_dm_X10_open (dk_X10 ac)) (K : nd_Ki p l e (headSpec ow_dm_X10_open ({ frames := 1, cells := 0, slots := 0, locals := 23 })).room s m args below meth c Q A (dC, dI) cX10_open .int (St) (dw_X10 a ac) r) (k : Nat) : dj_X10_open_3 p l e s m args below meth c Q A dC dI a ac (df_X10_open_3 n k) r := by
  induction k with
  | zero => intro x1 x2 x3 x4 s0 H locs ls h; exact nomatch (show (none : Option (Int32 × (St))) = some r from h)
  | succ k ih => exact dB_X10_open_3 C K ih
set_option maxHeartbeats 40000000 in
set_option maxRecDepth 100000 in
theorem db_X10_open_0 {p : Program} {l : Launch} {e : Env} {s : State} {m : MethodId} {args : Array Value} {below : List Frame} {meth : Method} {c : Code} {Q : State → Prop} {A : Nat → Prop} {dC : Nat → ClassId} {dI : Nat → Nat → Nat} {a : Nat → Nat} {ac : Nat → ClassId} {n : Nat} {r : Int32 × (St)} (C : nd_C p l s m args c A (dC, dI) cX10_open 6 RX10 ow_dm_X10_open (dk_X10 ac)) (K : nd_Ki p l e (headSpec ow_dm_X10_open ({ frames := 1, cells := 0, slots := 0, locals := 23 })).room s m args below meth c Q A (dC, dI) cX10_open .int (St) (dw_X10 a ac) r) : dj_X10_open_0 p l e s m args below meth c Q A dC dI a ac (df_X10_open_0 n) r := by
  obtain ⟨hlt, hx, hb, hml, hown, hts, hN, hA, hK⟩ := id C
  intro v0 v1 v2 s0 H locs ls h hP hD hS hl
  unfold df_X10_open_0 at h
  refine lv_iconst (v := 0) hx hb dX10_open_0 (by decide) ?_
  refine lv_istore (lv' := [(4, .int 0), (0, .ref (a 0)), (1, .int v0), (2, .int v1), (3, .int v2)]) hx hb dX10_open_1 hl (by decide) rfl (fun ls hl => ?_)
  exact (db_X10_open_3 C K n) (v0) (v1) (v2) (0) s0 _ _ _ h hP hD hS (lv_sub hl [1, 2, 3, 4, 0] rfl)
set_option maxHeartbeats 40000000 in
set_option maxRecDepth 100000 in
theorem dm_X10_open (l : Launch) (hlt : l.stackTraces = false) (dC : Nat → ClassId) (dI : Nat → Nat → Nat) (a : Nat → Nat) (ac : Nat → ClassId) (n : Nat) (v0 : Int32) (v1 : Int32) (v2 : Int32) (s0 : St) {r : Int32 × (St)} (h : df_X10_open n v0 v1 v2 s0 = some r) (sz : Nat) : Met l yX10_open ow_dm_X10_open ({ frames := 1, cells := 0, slots := 0, locals := 23 }) (va_Pc [.ref (a 0), .int v0, .int v1, .int v2] (fun U => U.heap.size = sz ∧ va_P (dC, dI) vwCl (dw_X10 a ac s0) U.heap ∧ va_K (dC, dI) vwCl (dk_X10 ac) U ∧ va_D (fun _ => True) (dw_X10 a ac s0) ∧ nv_E (va_A (dw_X10 a ac s0) sz) U)) (va_Qi (fun x _ => x = r.1) (fun (_ : Unit) t => va_P (dC, dI) vwCl (dw_X10 a ac r.2) t.heap ∧ va_K (dC, dI) vwCl (dk_X10 ac) t ∧ va_D (va_A (dw_X10 a ac s0) sz) (dw_X10 a ac r.2)) (va_A (dw_X10 a ac s0) sz)) 0 0 (va_A (dw_X10 a ac s0) sz) := by
  refine Met.ofW (cc := cX10_open) (maxL := 6) (ret := (some .int)) (by decide) rfl ?_
  intro p e s m args below meth c s₁ B hml hv
  obtain ⟨rfl, hsz, hP, hK, hD0, hN⟩ := hv
  have hx := B.exec
  have hb := B.bytes
  have hr := B.returns
  have hts := atoms_spec (ws := ow_dm_X10_open) B.pre
  have hown : s.vm.findClass RX10 = some m.cls := findClass_of_methodNamed B.named
  have hlocks := B.notSynchronized
  subst hsz
  have hD := hD0.self (sz := s.heap.size)
  generalize hAe : va_A (dw_X10 a ac s0) s.heap.size = A at hD hN ⊢
  have hA : ∀ q : Nat, s.heap.size ≤ q → A q := fun q h => by rw [← hAe]; exact Or.inr h
  have hl := lv_entry ([.ref (a 0), .int v0, .int v1, .int v2]) (n := 6) (Nat.le_of_ble_eq_true rfl)
  rw [lg_entry_eq]
  generalize (lg_sl ([.ref (a 0), .int v0, .int v1, .int v2]) ++ List.replicate (6 - (lg_sl ([.ref (a 0), .int v0, .int v1, .int v2])).length) Slot.unset).toArray = ls at hl ⊢
  have hl : lv_has ls 6 [(0, .ref (a 0)), (1, .int v0), (2, .int v1), (3, .int v2)] := hl
  exact db_X10_open_0 (dC := dC) (dI := dI) (a := a) (ac := ac) (n := n) (r := r) ⟨hlt, hx, hb, hml, hown, hts, hN, hA, hK⟩ (fun pc v τ H locs ls d z er hP hD hS => by subst er; exact W.zret (v := v) hx hb hr z (fun t ht hW => ⟨⟨v, (), rfl, rfl, by rw [ht]; exact hP, va_K.moved hW.alike hK, hD⟩, hS.F ht⟩) hS.2.2 d) v0 v1 v2 s0 _ _ _ h hP hD va_S.rf (lv_sub hl [0, 1, 2, 3] rfl)
def ow_dm_X10_linkTo : List Cond := .code yX10_linkTo cX10_linkTo 4 none :: ([.fieldLink RX10 11 "TimeMachine$Things" "link" "[I", .fieldLink RX10 15 "TimeMachine$Things" "opening" "[I"] ++ (u_ws RX10 TX10 11 ++ []))
theorem gd_dm_X10_linkTo : ∀ w ∈ ow_dm_X10_linkTo, (w.onTables && w.keeps) = true ∨ ∃ ty, w = Cond.arrayClass ty := List.forall_mem_cons.mpr ⟨good_of_word rfl, List.forall_mem_append.mpr ⟨fun w h => good_of_word (List.all_eq_true.mp (by decide +kernel) w h), List.forall_mem_append.mpr ⟨gu_X10, fun _ h => nomatch h⟩⟩⟩
theorem hi_dm_X10_linkTo_X10 : ∀ w ∈ u_ws RX10 TX10 11, w ∈ ow_dm_X10_linkTo := fun w h => List.mem_cons_of_mem _ (List.mem_append_right _ (List.mem_append_left _ h))
def dj_X10_linkTo_0 (p : Program) (l : Launch) (e : Env) (s : State) (m : MethodId) (args : Array Value) (below : List Frame) (meth : Method) (c : Code) (Q : State → Prop) (A : Nat → Prop) (dC : Nat → ClassId) (dI : Nat → Nat → Nat) (a : Nat → Nat) (ac : Nat → ClassId) (g : Int32 → Int32 → Int32 → (St) → Option (St)) (r : St) : Prop := ∀ (v0 : Int32) (v1 : Int32) (v2 : Int32) (s0 : St) (H : Heap) (locs : List Loc) (ls : Array Slot), g v0 v1 v2 s0 = some r → va_P (dC, dI) vwCl (dw_X10 a ac s0) H → va_D A (dw_X10 a ac s0) → va_S A s.heap H locs → lv_has ls 4 [(0, .ref (a 0)), (1, .int v0), (2, .int v1), (3, .int v2)] → W p l e (headSpec ow_dm_X10_linkTo ({ frames := 0, cells := 0, slots := 0, locals := 0 })).room s m args below meth c H locs 0 0 Q (F0 m 0 ls [])
set_option maxHeartbeats 40000000 in
set_option maxRecDepth 100000 in
theorem db_X10_linkTo_0 {p : Program} {l : Launch} {e : Env} {s : State} {m : MethodId} {args : Array Value} {below : List Frame} {meth : Method} {c : Code} {Q : State → Prop} {A : Nat → Prop} {dC : Nat → ClassId} {dI : Nat → Nat → Nat} {a : Nat → Nat} {ac : Nat → ClassId} {n : Nat} {r : St} (C : nd_C p l s m args c A (dC, dI) cX10_linkTo 4 RX10 ow_dm_X10_linkTo (dk_X10 ac)) (K : nd_Kv p l e (headSpec ow_dm_X10_linkTo ({ frames := 0, cells := 0, slots := 0, locals := 0 })).room s m args below meth c Q A (dC, dI) cX10_linkTo (St) (dw_X10 a ac) r) : dj_X10_linkTo_0 p l e s m args below meth c Q A dC dI a ac (df_X10_linkTo_0 n) r := by
  obtain ⟨hlt, hx, hb, hml, hown, hts, hN, hA, hK⟩ := id C
  intro v0 v1 v2 s0 H locs ls h hP hD hS hl
  unfold df_X10_linkTo_0 at h
  refine lv_aload_n hx hb dX10_linkTo_0 rfl (lv_at hl 0 rfl) ?_
  refine va_get (D := (dC, dI)) (ci := 11) (v := .ref (a 1)) (C := RX10) (T := TX10) (N := 11) hx hb hts hi_dm_X10_linkTo_X10 hown hK hP 0 rfl rfl 0 (by decide) (hts (.fieldLink RX10 11 "TimeMachine$Things" "link" "[I") (List.mem_of_getElem? (i := 1) rfl)) (fun _ h9 => h9) rfl dX10_linkTo_1 ?_
  refine lv_iload_n hx hb dX10_linkTo_4 rfl (lv_at hl 1 rfl) ?_
  refine lv_bipush (v := 16) hx hb dX10_linkTo_5 (by decide) ?_
  refine lv_imul hx hb dX10_linkTo_7 ?_
  refine lv_iload_n hx hb dX10_linkTo_8 rfl (lv_at hl 2 rfl) ?_
  refine lv_iadd hx hb dX10_linkTo_9 ?_
  refine lv_iload_n hx hb dX10_linkTo_10 rfl (lv_at hl 3 rfl) ?_
  refine lv_iconst (v := 1) hx hb dX10_linkTo_11 (by decide) ?_
  refine lv_iadd hx hb dX10_linkTo_12 ?_
  obtain ⟨i1, h⟩ := nd_ck_e h
  refine va_iast (i := ((v0 * 16) + v1)) (x := (v2 + 1)) hx hb hK hP hD hS 1 0 rfl rfl i1 dX10_linkTo_13 (fun H locs hP hD hS => ?_)
  obtain ⟨s2, es2, h⟩ := nd_let_e h
  have hP : va_P (dC, dI) vwCl (dw_X10 a ac s2) H := by rw [es2]; exact hP
  have hD : va_D A (dw_X10 a ac s2) := by rw [es2]; exact hD
  refine lv_aload_n hx hb dX10_linkTo_14 rfl (lv_at hl 0 rfl) ?_
  refine va_get (D := (dC, dI)) (ci := 11) (v := .ref (a 2)) (C := RX10) (T := TX10) (N := 11) hx hb hts hi_dm_X10_linkTo_X10 hown hK hP 0 rfl rfl 1 (by decide) (hts (.fieldLink RX10 15 "TimeMachine$Things" "opening" "[I") (List.mem_of_getElem? (i := 2) rfl)) (fun _ h9 => h9) rfl dX10_linkTo_15 ?_
  refine lv_iload_n hx hb dX10_linkTo_18 rfl (lv_at hl 3 rfl) ?_
  refine lv_iconst (v := 5) hx hb dX10_linkTo_19 (by decide) ?_
  refine lv_imul hx hb dX10_linkTo_20 ?_
  refine lv_iconst (v := 1) hx hb dX10_linkTo_21 (by decide) ?_
  refine lv_iadd hx hb dX10_linkTo_22 ?_
  refine lv_dup2_11 hx hb dX10_linkTo_23 rfl rfl ?_
  obtain ⟨i3, h⟩ := nd_ck_e h
  refine va_iald (i := ((v2 * 5) + 1)) hx hb hK hP 2 1 rfl rfl i3 dX10_linkTo_24 ?_
  refine lv_iconst (v := 1) hx hb dX10_linkTo_25 (by decide) ?_
  refine lv_iadd hx hb dX10_linkTo_26 ?_
  obtain ⟨i4, h⟩ := nd_ck_e h
  refine va_iast (i := ((v2 * 5) + 1)) (x := ((sR s2 1 (Int32.toNatClampNeg ((v2 * 5) + 1))) + 1)) hx hb hK hP hD hS 2 1 rfl rfl i4 dX10_linkTo_27 (fun H locs hP hD hS => ?_)
  obtain ⟨s5, es5, h⟩ := nd_let_e h
  have hP : va_P (dC, dI) vwCl (dw_X10 a ac s5) H := by rw [es5]; exact hP
  have hD : va_D A (dw_X10 a ac s5) := by rw [es5]; exact hD
  exact K _ _ _ _ _ dX10_linkTo_28 (Option.some.inj h).symm hP hD hS
set_option maxHeartbeats 40000000 in
set_option maxRecDepth 100000 in
theorem dm_X10_linkTo (l : Launch) (hlt : l.stackTraces = false) (dC : Nat → ClassId) (dI : Nat → Nat → Nat) (a : Nat → Nat) (ac : Nat → ClassId) (n : Nat) (v0 : Int32) (v1 : Int32) (v2 : Int32) (s0 : St) {r : St} (h : df_X10_linkTo n v0 v1 v2 s0 = some r) (sz : Nat) : Met l yX10_linkTo ow_dm_X10_linkTo ({ frames := 0, cells := 0, slots := 0, locals := 0 }) (va_Pc [.ref (a 0), .int v0, .int v1, .int v2] (fun U => U.heap.size = sz ∧ va_P (dC, dI) vwCl (dw_X10 a ac s0) U.heap ∧ va_K (dC, dI) vwCl (dk_X10 ac) U ∧ va_D (fun _ => True) (dw_X10 a ac s0) ∧ nv_E (va_A (dw_X10 a ac s0) sz) U)) (va_Qv (fun _ => True) (fun (_ : Unit) t => va_P (dC, dI) vwCl (dw_X10 a ac r) t.heap ∧ va_K (dC, dI) vwCl (dk_X10 ac) t ∧ va_D (va_A (dw_X10 a ac s0) sz) (dw_X10 a ac r)) (va_A (dw_X10 a ac s0) sz)) 0 0 (va_A (dw_X10 a ac s0) sz) := by
  refine Met.ofW (cc := cX10_linkTo) (maxL := 4) (ret := none) (by decide) rfl ?_
  intro p e s m args below meth c s₁ B hml hv
  obtain ⟨rfl, hsz, hP, hK, hD0, hN⟩ := hv
  have hx := B.exec
  have hb := B.bytes
  have hr := B.returns
  have hts := atoms_spec (ws := ow_dm_X10_linkTo) B.pre
  have hown : s.vm.findClass RX10 = some m.cls := findClass_of_methodNamed B.named
  have hlocks := B.notSynchronized
  subst hsz
  have hD := hD0.self (sz := s.heap.size)
  generalize hAe : va_A (dw_X10 a ac s0) s.heap.size = A at hD hN ⊢
  have hA : ∀ q : Nat, s.heap.size ≤ q → A q := fun q h => by rw [← hAe]; exact Or.inr h
  have hl := lv_entry ([.ref (a 0), .int v0, .int v1, .int v2]) (n := 4) (Nat.le_of_ble_eq_true rfl)
  rw [lg_entry_eq]
  generalize (lg_sl ([.ref (a 0), .int v0, .int v1, .int v2]) ++ List.replicate (4 - (lg_sl ([.ref (a 0), .int v0, .int v1, .int v2])).length) Slot.unset).toArray = ls at hl ⊢
  have hl : lv_has ls 4 [(0, .ref (a 0)), (1, .int v0), (2, .int v1), (3, .int v2)] := hl
  exact db_X10_linkTo_0 (dC := dC) (dI := dI) (a := a) (ac := ac) (n := n) (r := r) ⟨hlt, hx, hb, hml, hown, hts, hN, hA, hK⟩ (fun pc τ H locs ls d er hP hD hS => by subst er; exact W.vret hx hb hr (fun t ht hW => ⟨⟨(), rfl, trivial, by rw [ht]; exact hP, va_K.moved hW.alike hK, hD⟩, hS.F ht⟩) hS.2.2 d) v0 v1 v2 s0 _ _ _ h hP hD va_S.rf (lv_sub hl [0, 1, 2, 3] rfl)
def ow_dm_X10_start : List Cond := .code yX10_start cX10_start 2 none :: ([.fieldLink RX10 11 "TimeMachine$Things" "link" "[I", .methodLink RX10 40 yJ7_fill_53178, .static yJ7_fill_53178, .initialized RJ7, .fieldLink RX10 15 "TimeMachine$Things" "opening" "[I", .fieldLink RX10 18 "TimeMachine$Things" "pipe" "[I", .fieldLink RX10 25 "TimeMachine$Things" "file" "[I", .fieldLink RX10 46 "TimeMachine$Things" "typedBytes" "I", .fieldLink RX10 50 "TimeMachine$Things" "shownInAll" "J", .methodLink RX10 54 yX10_open, .instanceMethod yX10_open, .selects RX10 yX10_open yX10_open, .initialized RX10, .methodLink RX10 58 yX10_linkTo, .instanceMethod yX10_linkTo, .selects RX10 yX10_linkTo yX10_linkTo] ++ (u_ws RX10 TX10 11 ++ (ow_dm_J7_fill_53178 ++ (ow_dm_X10_open ++ (ow_dm_X10_linkTo ++ [])))))
theorem gd_dm_X10_start : ∀ w ∈ ow_dm_X10_start, (w.onTables && w.keeps) = true ∨ ∃ ty, w = Cond.arrayClass ty := List.forall_mem_cons.mpr ⟨good_of_word rfl, List.forall_mem_append.mpr ⟨fun w h => good_of_word (List.all_eq_true.mp (by decide +kernel) w h), List.forall_mem_append.mpr ⟨gu_X10, List.forall_mem_append.mpr ⟨gd_dm_J7_fill_53178, List.forall_mem_append.mpr ⟨gd_dm_X10_open, List.forall_mem_append.mpr ⟨gd_dm_X10_linkTo, fun _ h => nomatch h⟩⟩⟩⟩⟩⟩
theorem hi_dm_X10_start_X10 : ∀ w ∈ u_ws RX10 TX10 11, w ∈ ow_dm_X10_start := fun w h => List.mem_cons_of_mem _ (List.mem_append_right _ (List.mem_append_left _ h))
theorem gi_dm_X10_start_0 : GoodIn ow_dm_X10_start (va_wsS RX10 40 yJ7_fill_53178 ow_dm_J7_fill_53178) := goodIn_app (goodIn_of _ (by decide +kernel)) (fun w h => ⟨List.mem_cons_of_mem _ (List.mem_append_right _ (List.mem_append_right _ (List.mem_append_left _ h))), gd_dm_J7_fill_53178 w h⟩)
theorem gi_dm_X10_start_1 : GoodIn ow_dm_X10_start (wsV RX10 54 RX10 yX10_open ow_dm_X10_open) := goodIn_app (goodIn_of _ (by decide +kernel)) (fun w h => ⟨List.mem_cons_of_mem _ (List.mem_append_right _ (List.mem_append_right _ (List.mem_append_right _ (List.mem_append_left _ h)))), gd_dm_X10_open w h⟩)
theorem gi_dm_X10_start_2 : GoodIn ow_dm_X10_start (wsV RX10 58 RX10 yX10_linkTo ow_dm_X10_linkTo) := goodIn_app (goodIn_of _ (by decide +kernel)) (fun w h => ⟨List.mem_cons_of_mem _ (List.mem_append_right _ (List.mem_append_right _ (List.mem_append_right _ (List.mem_append_right _ (List.mem_append_left _ h))))), gd_dm_X10_linkTo w h⟩)
def dj_X10_start_0 (p : Program) (l : Launch) (e : Env) (s : State) (m : MethodId) (args : Array Value) (below : List Frame) (meth : Method) (c : Code) (Q : State → Prop) (A : Nat → Prop) (dC : Nat → ClassId) (dI : Nat → Nat → Nat) (a : Nat → Nat) (ac : Nat → ClassId) (g : (St) → Option (St)) (r : St) : Prop := ∀ (s0 : St) (H : Heap) (locs : List Loc) (ls : Array Slot), g s0 = some r → va_P (dC, dI) vwCl (dw_X10 a ac s0) H → va_D A (dw_X10 a ac s0) → va_S A s.heap H locs → lv_has ls 2 [(0, .ref (a 0))] → W p l e (headSpec ow_dm_X10_start ({ frames := 2, cells := 0, slots := 0, locals := 48 })).room s m args below meth c H locs 0 0 Q (F0 m 0 ls [])
set_option maxHeartbeats 40000000 in
set_option maxRecDepth 100000 in
theorem db_X10_start_0 {p : Program} {l : Launch} {e : Env} {s : State} {m : MethodId} {args : Array Value} {below : List Frame} {meth : Method} {c : Code} {Q : State → Prop} {A : Nat → Prop} {dC : Nat → ClassId} {dI : Nat → Nat → Nat} {a : Nat → Nat} {ac : Nat → ClassId} {n : Nat} {r : St} (C : nd_C p l s m args c A (dC, dI) cX10_start 2 RX10 ow_dm_X10_start (dk_X10 ac)) (K : nd_Kv p l e (headSpec ow_dm_X10_start ({ frames := 2, cells := 0, slots := 0, locals := 48 })).room s m args below meth c Q A (dC, dI) cX10_start (St) (dw_X10 a ac) r) : dj_X10_start_0 p l e s m args below meth c Q A dC dI a ac (df_X10_start_0 n) r := by
  obtain ⟨hlt, hx, hb, hml, hown, hts, hN, hA, hK⟩ := id C
  intro s0 H locs ls h hP hD hS hl
  unfold df_X10_start_0 at h
  refine lv_aload_n hx hb dX10_start_0 rfl (lv_at hl 0 rfl) ?_
  refine va_get (D := (dC, dI)) (ci := 11) (v := .ref (a 1)) (C := RX10) (T := TX10) (N := 11) hx hb hts hi_dm_X10_start_X10 hown hK hP 0 rfl rfl 0 (by decide) (hts (.fieldLink RX10 11 "TimeMachine$Things" "link" "[I") (List.mem_of_getElem? (i := 1) rfl)) (fun _ h9 => h9) rfl dX10_start_1 ?_
  refine lv_iconst (v := 0) hx hb dX10_start_4 (by decide) ?_
  have hcl : (dw_X10 a ac s0)[1]? = some ((a 1), .inl (ac 1, 256, .inl (sR s0 0))) := rfl
  have hPc := nd_c1 hP hcl
  have hDc := nd_cd hD hcl
  have hKc : va_K (dC, dI) vwCl [(ac 1, .int)] s := hK.sub [0] rfl
  have hFc := nd_rs hDc hS hA
  refine va_callv (va_runS (As := [.ref (a 1), .int 0]) (rest := []) ⟨hx, hb, hml, hown, hts⟩ (dm_J7_fill_53178 l hlt dC dI (a 1) (ac 1) 256 (by decide) (sR s0 0) 0 _) (va_cwS 2 hts gi_dm_X10_start_0 rfl rfl rfl (by decide +kernel) ⟨Nat.le_of_ble_eq_true rfl, Nat.le_of_ble_eq_true rfl⟩) ⟨fun a U g mk q => by obtain ⟨q0, q1, qP, qK, qD, qN⟩ := q; exact ⟨q0, q1, qP, va_K.moved (u := U) (U := U.calling g mk a) (Vm.Alike.refl U.vm) qK, qD, nv_same rfl rfl qN⟩, fun U hU hW => ⟨rfl, by rw [hU], by rw [hU]; exact hPc, va_K.moved hW.alike hKc, hDc.weaken (fun _ _ _ _ => trivial), nv_call hS hFc hU hW hN⟩⟩ rfl rfl hl.1 rfl (lv_room (Nat.le_of_ble_eq_true rfl)) dX10_start_5 ⟨by decide +kernel, by decide +kernel⟩) hS (fun q _ h => hFc q h) hFc (fun u t H locs ht hvm hw hB hz1 hk1 hS => ?_)
  obtain ⟨hP1, -, hD1⟩ := hB
  rw [ht] at hP1
  have hP := nd_cs hP hD hcl hk1 hP1
  have hD := hD.set (e := .inl (ac 1, 256, .inl (nd_fl 256 0 (sR s0 0)))) hcl
  refine W.widen (k := 0) (n := 0) (Nat.le_refl _) (Nat.le_refl _) ?_
  obtain ⟨s1, es1, h⟩ := nd_let_e h
  have hP : va_P (dC, dI) vwCl (dw_X10 a ac s1) H := by rw [es1]; exact hP
  have hD : va_D A (dw_X10 a ac s1) := by rw [es1]; exact hD
  refine lv_aload_n hx hb dX10_start_8 rfl (lv_at hl 0 rfl) ?_
  refine va_get (D := (dC, dI)) (ci := 11) (v := .ref (a 2)) (C := RX10) (T := TX10) (N := 11) hx hb hts hi_dm_X10_start_X10 hown hK hP 0 rfl rfl 1 (by decide) (hts (.fieldLink RX10 15 "TimeMachine$Things" "opening" "[I") (List.mem_of_getElem? (i := 5) rfl)) (fun _ h9 => h9) rfl dX10_start_9 ?_
  refine lv_iconst (v := 0) hx hb dX10_start_12 (by decide) ?_
  have hcl : (dw_X10 a ac s1)[2]? = some ((a 2), .inl (ac 2, 240, .inl (sR s1 1))) := rfl
  have hPc := nd_c1 hP hcl
  have hDc := nd_cd hD hcl
  have hKc : va_K (dC, dI) vwCl [(ac 2, .int)] s := hK.sub [1] rfl
  have hFc := nd_rs hDc hS hA
  refine va_callv (va_runS (As := [.ref (a 2), .int 0]) (rest := []) ⟨hx, hb, hml, hown, hts⟩ (dm_J7_fill_53178 l hlt dC dI (a 2) (ac 2) 240 (by decide) (sR s1 1) 0 _) (va_cwS 2 hts gi_dm_X10_start_0 rfl rfl rfl (by decide +kernel) ⟨Nat.le_of_ble_eq_true rfl, Nat.le_of_ble_eq_true rfl⟩) ⟨fun a U g mk q => by obtain ⟨q0, q1, qP, qK, qD, qN⟩ := q; exact ⟨q0, q1, qP, va_K.moved (u := U) (U := U.calling g mk a) (Vm.Alike.refl U.vm) qK, qD, nv_same rfl rfl qN⟩, fun U hU hW => ⟨rfl, by rw [hU], by rw [hU]; exact hPc, va_K.moved hW.alike hKc, hDc.weaken (fun _ _ _ _ => trivial), nv_call hS hFc hU hW hN⟩⟩ rfl rfl hl.1 rfl (lv_room (Nat.le_of_ble_eq_true rfl)) dX10_start_13 ⟨by decide +kernel, by decide +kernel⟩) hS (fun q _ h => hFc q h) hFc (fun u t H locs ht hvm hw hB hz1 hk1 hS => ?_)
  obtain ⟨hP1, -, hD1⟩ := hB
  rw [ht] at hP1
  have hP := nd_cs hP hD hcl hk1 hP1
  have hD := hD.set (e := .inl (ac 2, 240, .inl (nd_fl 240 0 (sR s1 1)))) hcl
  refine W.widen (k := 0) (n := 0) (Nat.le_refl _) (Nat.le_refl _) ?_
  obtain ⟨s2, es2, h⟩ := nd_let_e h
  have hP : va_P (dC, dI) vwCl (dw_X10 a ac s2) H := by rw [es2]; exact hP
  have hD : va_D A (dw_X10 a ac s2) := by rw [es2]; exact hD
  refine lv_aload_n hx hb dX10_start_16 rfl (lv_at hl 0 rfl) ?_
  refine va_get (D := (dC, dI)) (ci := 11) (v := .ref (a 3)) (C := RX10) (T := TX10) (N := 11) hx hb hts hi_dm_X10_start_X10 hown hK hP 0 rfl rfl 2 (by decide) (hts (.fieldLink RX10 18 "TimeMachine$Things" "pipe" "[I") (List.mem_of_getElem? (i := 6) rfl)) (fun _ h9 => h9) rfl dX10_start_17 ?_
  refine lv_iconst (v := 0) hx hb dX10_start_20 (by decide) ?_
  have hcl : (dw_X10 a ac s2)[3]? = some ((a 3), .inl (ac 3, 32, .inl (sR s2 2))) := rfl
  have hPc := nd_c1 hP hcl
  have hDc := nd_cd hD hcl
  have hKc : va_K (dC, dI) vwCl [(ac 3, .int)] s := hK.sub [2] rfl
  have hFc := nd_rs hDc hS hA
  refine va_callv (va_runS (As := [.ref (a 3), .int 0]) (rest := []) ⟨hx, hb, hml, hown, hts⟩ (dm_J7_fill_53178 l hlt dC dI (a 3) (ac 3) 32 (by decide) (sR s2 2) 0 _) (va_cwS 2 hts gi_dm_X10_start_0 rfl rfl rfl (by decide +kernel) ⟨Nat.le_of_ble_eq_true rfl, Nat.le_of_ble_eq_true rfl⟩) ⟨fun a U g mk q => by obtain ⟨q0, q1, qP, qK, qD, qN⟩ := q; exact ⟨q0, q1, qP, va_K.moved (u := U) (U := U.calling g mk a) (Vm.Alike.refl U.vm) qK, qD, nv_same rfl rfl qN⟩, fun U hU hW => ⟨rfl, by rw [hU], by rw [hU]; exact hPc, va_K.moved hW.alike hKc, hDc.weaken (fun _ _ _ _ => trivial), nv_call hS hFc hU hW hN⟩⟩ rfl rfl hl.1 rfl (lv_room (Nat.le_of_ble_eq_true rfl)) dX10_start_21 ⟨by decide +kernel, by decide +kernel⟩) hS (fun q _ h => hFc q h) hFc (fun u t H locs ht hvm hw hB hz1 hk1 hS => ?_)
  obtain ⟨hP1, -, hD1⟩ := hB
  rw [ht] at hP1
  have hP := nd_cs hP hD hcl hk1 hP1
  have hD := hD.set (e := .inl (ac 3, 32, .inl (nd_fl 32 0 (sR s2 2)))) hcl
  refine W.widen (k := 0) (n := 0) (Nat.le_refl _) (Nat.le_refl _) ?_
  obtain ⟨s3, es3, h⟩ := nd_let_e h
  have hP : va_P (dC, dI) vwCl (dw_X10 a ac s3) H := by rw [es3]; exact hP
  have hD : va_D A (dw_X10 a ac s3) := by rw [es3]; exact hD
  refine lv_aload_n hx hb dX10_start_24 rfl (lv_at hl 0 rfl) ?_
  refine va_get (D := (dC, dI)) (ci := 11) (v := .ref (a 5)) (C := RX10) (T := TX10) (N := 11) hx hb hts hi_dm_X10_start_X10 hown hK hP 0 rfl rfl 4 (by decide) (hts (.fieldLink RX10 25 "TimeMachine$Things" "file" "[I") (List.mem_of_getElem? (i := 7) rfl)) (fun _ h9 => h9) rfl dX10_start_25 ?_
  refine lv_iconst (v := 0) hx hb dX10_start_28 (by decide) ?_
  have hcl : (dw_X10 a ac s3)[5]? = some ((a 5), .inl (ac 5, 48, .inl (sR s3 4))) := rfl
  have hPc := nd_c1 hP hcl
  have hDc := nd_cd hD hcl
  have hKc : va_K (dC, dI) vwCl [(ac 5, .int)] s := hK.sub [4] rfl
  have hFc := nd_rs hDc hS hA
  refine va_callv (va_runS (As := [.ref (a 5), .int 0]) (rest := []) ⟨hx, hb, hml, hown, hts⟩ (dm_J7_fill_53178 l hlt dC dI (a 5) (ac 5) 48 (by decide) (sR s3 4) 0 _) (va_cwS 2 hts gi_dm_X10_start_0 rfl rfl rfl (by decide +kernel) ⟨Nat.le_of_ble_eq_true rfl, Nat.le_of_ble_eq_true rfl⟩) ⟨fun a U g mk q => by obtain ⟨q0, q1, qP, qK, qD, qN⟩ := q; exact ⟨q0, q1, qP, va_K.moved (u := U) (U := U.calling g mk a) (Vm.Alike.refl U.vm) qK, qD, nv_same rfl rfl qN⟩, fun U hU hW => ⟨rfl, by rw [hU], by rw [hU]; exact hPc, va_K.moved hW.alike hKc, hDc.weaken (fun _ _ _ _ => trivial), nv_call hS hFc hU hW hN⟩⟩ rfl rfl hl.1 rfl (lv_room (Nat.le_of_ble_eq_true rfl)) dX10_start_29 ⟨by decide +kernel, by decide +kernel⟩) hS (fun q _ h => hFc q h) hFc (fun u t H locs ht hvm hw hB hz1 hk1 hS => ?_)
  obtain ⟨hP1, -, hD1⟩ := hB
  rw [ht] at hP1
  have hP := nd_cs hP hD hcl hk1 hP1
  have hD := hD.set (e := .inl (ac 5, 48, .inl (nd_fl 48 0 (sR s3 4)))) hcl
  refine W.widen (k := 0) (n := 0) (Nat.le_refl _) (Nat.le_refl _) ?_
  obtain ⟨s4, es4, h⟩ := nd_let_e h
  have hP : va_P (dC, dI) vwCl (dw_X10 a ac s4) H := by rw [es4]; exact hP
  have hD : va_D A (dw_X10 a ac s4) := by rw [es4]; exact hD
  refine lv_aload_n hx hb dX10_start_32 rfl (lv_at hl 0 rfl) ?_
  refine lv_iconst (v := 0) hx hb dX10_start_33 (by decide) ?_
  refine va_put (D := (dC, dI)) (ci := 11) (v := .int 0) (ty := .int) (C := RX10) (T := TX10) (N := 11) hx hb hts hi_dm_X10_start_X10 tyX10 tyX10_ok nmX10 hown hK hP hD hS 0 rfl rfl 8 (by decide) (hts (.fieldLink RX10 46 "TimeMachine$Things" "typedBytes" "I") (List.mem_of_getElem? (i := 8) rfl)) (fun _ h9 => h9) rfl (by decide +kernel) rfl rfl (Nat.le_of_ble_eq_true rfl) dX10_start_34 (fun H locs hP hD hS => ?_)
  obtain ⟨s5, es5, h⟩ := nd_let_e h
  have hP : va_P (dC, dI) vwCl (dw_X10 a ac s5) H := by rw [es5]; exact hP
  have hD : va_D A (dw_X10 a ac s5) := by rw [es5]; exact hD
  refine lv_aload_n hx hb dX10_start_37 rfl (lv_at hl 0 rfl) ?_
  refine lv_lconst (v := 0) hx hb dX10_start_38 (by decide) ?_
  refine va_put (D := (dC, dI)) (ci := 11) (v := .long 0) (ty := .long) (C := RX10) (T := TX10) (N := 11) hx hb hts hi_dm_X10_start_X10 tyX10 tyX10_ok nmX10 hown hK hP hD hS 0 rfl rfl 10 (by decide) (hts (.fieldLink RX10 50 "TimeMachine$Things" "shownInAll" "J") (List.mem_of_getElem? (i := 9) rfl)) (fun _ h9 => h9) rfl (by decide +kernel) rfl rfl (Nat.le_of_ble_eq_true rfl) dX10_start_39 (fun H locs hP hD hS => ?_)
  obtain ⟨s6, es6, h⟩ := nd_let_e h
  have hP : va_P (dC, dI) vwCl (dw_X10 a ac s6) H := by rw [es6]; exact hP
  have hD : va_D A (dw_X10 a ac s6) := by rw [es6]; exact hD
  refine lv_aload_n hx hb dX10_start_42 rfl (lv_at hl 0 rfl) ?_
  refine lv_iconst (v := 4) hx hb dX10_start_43 (by decide) ?_
  refine lv_iconst (v := 0) hx hb dX10_start_44 (by decide) ?_
  refine lv_iconst (v := 3) hx hb dX10_start_45 (by decide) ?_
  obtain ⟨q7, s8, hq, h⟩ := nd_b2_e h
  have hPc := hP
  have hDc := hD
  have hKc := hK
  have hFc := nd_rs hD hS hA
  refine nd_cVi (As := [.int 4, .int 0, .int 3]) (rest := []) (q := q7) (w' := dw_X10 a ac s8) ⟨hx, hb, hml, hown, hts⟩ (fun sz => dm_X10_open l hlt dC dI a ac n (4) (0) (3) s6 hq sz) (cwV 3 hts gi_dm_X10_start_1 rfl rfl rfl (by decide +kernel) ⟨Nat.le_of_ble_eq_true rfl, Nat.le_of_ble_eq_true rfl⟩) hPc hDc hKc hS hA hN (va_recv hKc hPc (ci := 11) (q0 := 0) rfl rfl) rfl hl.1 rfl (Nat.le_of_ble_eq_true rfl) dX10_start_46 (fun H locs hP1 hD1 hk1 hS => ?_)
  have hP := hP1
  have hD := hD1.weaken (fun k q _ h => hFc q.1 h)
  refine lv_istore_n (lv' := [(1, .int q7), (0, .ref (a 0))]) hx hb dX10_start_49 rfl hl (by decide) rfl (fun ls hl => ?_)
  refine lv_aload_n hx hb dX10_start_50 rfl (lv_at hl 1 rfl) ?_
  refine lv_iconst (v := 0) hx hb dX10_start_51 (by decide) ?_
  refine lv_iconst (v := 0) hx hb dX10_start_52 (by decide) ?_
  refine lv_iload_n hx hb dX10_start_53 rfl (lv_at hl 0 rfl) ?_
  obtain ⟨s11, hq, h⟩ := nd_b1_e h
  have hPc := hP
  have hDc := hD
  have hKc := hK
  have hFc := nd_rs hD hS hA
  refine nd_cVv (As := [.int 0, .int 0, .int q7]) (rest := []) (w' := dw_X10 a ac s11) ⟨hx, hb, hml, hown, hts⟩ (fun sz => dm_X10_linkTo l hlt dC dI a ac n (0) (0) (q7) s8 hq sz) (cwV 3 hts gi_dm_X10_start_2 rfl rfl rfl (by decide +kernel) ⟨Nat.le_of_ble_eq_true rfl, Nat.le_of_ble_eq_true rfl⟩) hPc hDc hKc hS hA hN (va_recv hKc hPc (ci := 11) (q0 := 0) rfl rfl) rfl hl.1 rfl (Nat.le_of_ble_eq_true rfl) dX10_start_54 (fun H locs hP1 hD1 hk1 hS => ?_)
  have hP := hP1
  have hD := hD1.weaken (fun k q _ h => hFc q.1 h)
  refine lv_aload_n hx hb dX10_start_57 rfl (lv_at hl 1 rfl) ?_
  refine lv_iconst (v := 0) hx hb dX10_start_58 (by decide) ?_
  refine lv_iconst (v := 1) hx hb dX10_start_59 (by decide) ?_
  refine lv_iload_n hx hb dX10_start_60 rfl (lv_at hl 0 rfl) ?_
  obtain ⟨s14, hq, h⟩ := nd_b1_e h
  have hPc := hP
  have hDc := hD
  have hKc := hK
  have hFc := nd_rs hD hS hA
  refine nd_cVv (As := [.int 0, .int 1, .int q7]) (rest := []) (w' := dw_X10 a ac s14) ⟨hx, hb, hml, hown, hts⟩ (fun sz => dm_X10_linkTo l hlt dC dI a ac n (0) (1) (q7) s11 hq sz) (cwV 3 hts gi_dm_X10_start_2 rfl rfl rfl (by decide +kernel) ⟨Nat.le_of_ble_eq_true rfl, Nat.le_of_ble_eq_true rfl⟩) hPc hDc hKc hS hA hN (va_recv hKc hPc (ci := 11) (q0 := 0) rfl rfl) rfl hl.1 rfl (Nat.le_of_ble_eq_true rfl) dX10_start_61 (fun H locs hP1 hD1 hk1 hS => ?_)
  have hP := hP1
  have hD := hD1.weaken (fun k q _ h => hFc q.1 h)
  exact K _ _ _ _ _ dX10_start_64 (Option.some.inj h).symm hP hD hS
set_option maxHeartbeats 40000000 in
set_option maxRecDepth 100000 in
theorem dm_X10_start (l : Launch) (hlt : l.stackTraces = false) (dC : Nat → ClassId) (dI : Nat → Nat → Nat) (a : Nat → Nat) (ac : Nat → ClassId) (n : Nat) (s0 : St) {r : St} (h : df_X10_start n s0 = some r) (sz : Nat) : Met l yX10_start ow_dm_X10_start ({ frames := 2, cells := 0, slots := 0, locals := 48 }) (va_Pc [.ref (a 0)] (fun U => U.heap.size = sz ∧ va_P (dC, dI) vwCl (dw_X10 a ac s0) U.heap ∧ va_K (dC, dI) vwCl (dk_X10 ac) U ∧ va_D (fun _ => True) (dw_X10 a ac s0) ∧ nv_E (va_A (dw_X10 a ac s0) sz) U)) (va_Qv (fun _ => True) (fun (_ : Unit) t => va_P (dC, dI) vwCl (dw_X10 a ac r) t.heap ∧ va_K (dC, dI) vwCl (dk_X10 ac) t ∧ va_D (va_A (dw_X10 a ac s0) sz) (dw_X10 a ac r)) (va_A (dw_X10 a ac s0) sz)) 0 0 (va_A (dw_X10 a ac s0) sz) := by
  refine Met.ofW (cc := cX10_start) (maxL := 2) (ret := none) (by decide) rfl ?_
  intro p e s m args below meth c s₁ B hml hv
  obtain ⟨rfl, hsz, hP, hK, hD0, hN⟩ := hv
  have hx := B.exec
  have hb := B.bytes
  have hr := B.returns
  have hts := atoms_spec (ws := ow_dm_X10_start) B.pre
  have hown : s.vm.findClass RX10 = some m.cls := findClass_of_methodNamed B.named
  have hlocks := B.notSynchronized
  subst hsz
  have hD := hD0.self (sz := s.heap.size)
  generalize hAe : va_A (dw_X10 a ac s0) s.heap.size = A at hD hN ⊢
  have hA : ∀ q : Nat, s.heap.size ≤ q → A q := fun q h => by rw [← hAe]; exact Or.inr h
  have hl := lv_entry ([.ref (a 0)]) (n := 2) (Nat.le_of_ble_eq_true rfl)
  rw [lg_entry_eq]
  generalize (lg_sl ([.ref (a 0)]) ++ List.replicate (2 - (lg_sl ([.ref (a 0)])).length) Slot.unset).toArray = ls at hl ⊢
  have hl : lv_has ls 2 [(0, .ref (a 0))] := hl
  exact db_X10_start_0 (dC := dC) (dI := dI) (a := a) (ac := ac) (n := n) (r := r) ⟨hlt, hx, hb, hml, hown, hts, hN, hA, hK⟩ (fun pc τ H locs ls d er hP hD hS => by subst er; exact W.vret hx hb hr (fun t ht hW => ⟨⟨(), rfl, trivial, by rw [ht]; exact hP, va_K.moved hW.alike hK, hD⟩, hS.F ht⟩) hS.2.2 d) s0 _ _ _ h hP hD va_S.rf (lv_sub hl [0] rfl)
def ow_dm_X10_become : List Cond := .code yX10_become cX10_become 2 none :: ([.fieldLink RX10 11 "TimeMachine$Things" "link" "[I", .methodLink RX10 62 arraycopyName, .native arraycopyName, .static arraycopyName, .initialized "java/lang/System", .fieldLink RX10 15 "TimeMachine$Things" "opening" "[I", .fieldLink RX10 18 "TimeMachine$Things" "pipe" "[I", .fieldLink RX10 21 "TimeMachine$Things" "piped" "[B", .fieldLink RX10 25 "TimeMachine$Things" "file" "[I", .fieldLink RX10 28 "TimeMachine$Things" "filed" "[B", .fieldLink RX10 31 "TimeMachine$Things" "names" "[B", .fieldLink RX10 34 "TimeMachine$Things" "typed" "[B", .fieldLink RX10 46 "TimeMachine$Things" "typedBytes" "I", .fieldLink RX10 37 "TimeMachine$Things" "shownBytes" "[B", .fieldLink RX10 50 "TimeMachine$Things" "shownInAll" "J"] ++ (u_ws RX10 TX10 11 ++ []))
theorem gd_dm_X10_become : ∀ w ∈ ow_dm_X10_become, (w.onTables && w.keeps) = true ∨ ∃ ty, w = Cond.arrayClass ty := List.forall_mem_cons.mpr ⟨good_of_word rfl, List.forall_mem_append.mpr ⟨fun w h => good_of_word (List.all_eq_true.mp (by decide +kernel) w h), List.forall_mem_append.mpr ⟨gu_X10, fun _ h => nomatch h⟩⟩⟩
theorem hi_dm_X10_become_X10 : ∀ w ∈ u_ws RX10 TX10 11, w ∈ ow_dm_X10_become := fun w h => List.mem_cons_of_mem _ (List.mem_append_right _ (List.mem_append_left _ h))
def dj_X10_become_0 (p : Program) (l : Launch) (e : Env) (s : State) (m : MethodId) (args : Array Value) (below : List Frame) (meth : Method) (c : Code) (Q : State → Prop) (A : Nat → Prop) (dC : Nat → ClassId) (dI : Nat → Nat → Nat) (a : Nat → Nat) (ac : Nat → ClassId) (g : (St × (St) × (St)) → Option (St × (St) × (St))) (r : St × (St) × (St)) : Prop := ∀ (s0 : St × (St) × (St)) (H : Heap) (locs : List Loc) (ls : Array Slot), g s0 = some r → va_P (dC, dI) vwCl (dw_X10m a ac s0) H → va_D A (dw_X10m a ac s0) → va_S A s.heap H locs → lv_has ls 2 [(0, .ref (a 0)), (1, .ref (a 10))] → W p l e (headSpec ow_dm_X10_become ({ frames := 1, cells := 0, slots := 0, locals := 40 })).room s m args below meth c H locs 0 0 Q (F0 m 0 ls [])
set_option maxHeartbeats 40000000 in
set_option maxRecDepth 100000 in
theorem db_X10_become_0 {p : Program} {l : Launch} {e : Env} {s : State} {m : MethodId} {args : Array Value} {below : List Frame} {meth : Method} {c : Code} {Q : State → Prop} {A : Nat → Prop} {dC : Nat → ClassId} {dI : Nat → Nat → Nat} {a : Nat → Nat} {ac : Nat → ClassId} {n : Nat} {r : St × (St) × (St)} (C : nd_C p l s m args c A (dC, dI) cX10_become 2 RX10 ow_dm_X10_become (dk_X10m ac)) (K : nd_Kv p l e (headSpec ow_dm_X10_become ({ frames := 1, cells := 0, slots := 0, locals := 40 })).room s m args below meth c Q A (dC, dI) cX10_become (St × (St) × (St)) (dw_X10m a ac) r) : dj_X10_become_0 p l e s m args below meth c Q A dC dI a ac (df_X10_become_0 n) r := by
  obtain ⟨hlt, hx, hb, hml, hown, hts, hN, hA, hK⟩ := id C
  intro s0 H locs ls h hP hD hS hl
  unfold df_X10_become_0 at h
  refine lv_aload_n hx hb dX10_become_0 rfl (lv_at hl 1 rfl) ?_
  refine va_get (D := (dC, dI)) (ci := 11) (v := .ref (a 11)) (C := RX10) (T := TX10) (N := 11) hx hb hts hi_dm_X10_become_X10 hown hK hP 10 rfl rfl 0 (by decide) (hts (.fieldLink RX10 11 "TimeMachine$Things" "link" "[I") (List.mem_of_getElem? (i := 1) rfl)) (fun _ h9 => h9) rfl dX10_become_1 ?_
  refine lv_iconst (v := 0) hx hb dX10_become_4 (by decide) ?_
  refine lv_aload_n hx hb dX10_become_5 rfl (lv_at hl 0 rfl) ?_
  refine va_get (D := (dC, dI)) (ci := 11) (v := .ref (a 1)) (C := RX10) (T := TX10) (N := 11) hx hb hts hi_dm_X10_become_X10 hown hK hP 0 rfl rfl 0 (by decide) (hts (.fieldLink RX10 11 "TimeMachine$Things" "link" "[I") (List.mem_of_getElem? (i := 1) rfl)) (fun _ h9 => h9) rfl dX10_become_6 ?_
  refine lv_iconst (v := 0) hx hb dX10_become_9 (by decide) ?_
  refine lv_aload_n hx hb dX10_become_10 rfl (lv_at hl 0 rfl) ?_
  refine va_get (D := (dC, dI)) (ci := 11) (v := .ref (a 1)) (C := RX10) (T := TX10) (N := 11) hx hb hts hi_dm_X10_become_X10 hown hK hP 0 rfl rfl 0 (by decide) (hts (.fieldLink RX10 11 "TimeMachine$Things" "link" "[I") (List.mem_of_getElem? (i := 1) rfl)) (fun _ h9 => h9) rfl dX10_become_11 ?_
  refine va_alen (v := 256) hx hb hK hP 1 0 rfl rfl (show Int32.ofNat 256 = 256 by decide) dX10_become_14 ?_
  obtain ⟨k1, h⟩ := nd_cp_e h
  refine va_copyi (sp := 0) (dp := 0) (n := 256) hx hb (by rw [hml]; exact hl.1.symm) hown (hts (.methodLink RX10 62 arraycopyName) (List.mem_of_getElem? (i := 2) rfl)) (hts (.native arraycopyName) (List.mem_of_getElem? (i := 3) rfl)) (hts (.static arraycopyName) (List.mem_of_getElem? (i := 4) rfl)) (hts (.initialized "java/lang/System") (List.mem_of_getElem? (i := 5) rfl)) hK hP hD hS 11 1 9 0 rfl rfl rfl rfl rfl k1.1 k1.2.1 k1.2.2.1 k1.2.2.2.1 k1.2.2.2.2 (fun _ _ => rfl) (Nat.le_of_ble_eq_true rfl) (by decide +kernel) dX10_become_15 (fun H locs hP hD hS => ?_)
  obtain ⟨s2, es2, h⟩ := nd_let_e h
  have hP : va_P (dC, dI) vwCl (dw_X10m a ac s2) H := by rw [es2]; exact hP
  have hD : va_D A (dw_X10m a ac s2) := by rw [es2]; exact hD
  refine lv_aload_n hx hb dX10_become_18 rfl (lv_at hl 1 rfl) ?_
  refine va_get (D := (dC, dI)) (ci := 11) (v := .ref (a 12)) (C := RX10) (T := TX10) (N := 11) hx hb hts hi_dm_X10_become_X10 hown hK hP 10 rfl rfl 1 (by decide) (hts (.fieldLink RX10 15 "TimeMachine$Things" "opening" "[I") (List.mem_of_getElem? (i := 6) rfl)) (fun _ h9 => h9) rfl dX10_become_19 ?_
  refine lv_iconst (v := 0) hx hb dX10_become_22 (by decide) ?_
  refine lv_aload_n hx hb dX10_become_23 rfl (lv_at hl 0 rfl) ?_
  refine va_get (D := (dC, dI)) (ci := 11) (v := .ref (a 2)) (C := RX10) (T := TX10) (N := 11) hx hb hts hi_dm_X10_become_X10 hown hK hP 0 rfl rfl 1 (by decide) (hts (.fieldLink RX10 15 "TimeMachine$Things" "opening" "[I") (List.mem_of_getElem? (i := 6) rfl)) (fun _ h9 => h9) rfl dX10_become_24 ?_
  refine lv_iconst (v := 0) hx hb dX10_become_27 (by decide) ?_
  refine lv_aload_n hx hb dX10_become_28 rfl (lv_at hl 0 rfl) ?_
  refine va_get (D := (dC, dI)) (ci := 11) (v := .ref (a 2)) (C := RX10) (T := TX10) (N := 11) hx hb hts hi_dm_X10_become_X10 hown hK hP 0 rfl rfl 1 (by decide) (hts (.fieldLink RX10 15 "TimeMachine$Things" "opening" "[I") (List.mem_of_getElem? (i := 6) rfl)) (fun _ h9 => h9) rfl dX10_become_29 ?_
  refine va_alen (v := 240) hx hb hK hP 2 1 rfl rfl (show Int32.ofNat 240 = 240 by decide) dX10_become_32 ?_
  obtain ⟨k3, h⟩ := nd_cp_e h
  refine va_copyi (sp := 0) (dp := 0) (n := 240) hx hb (by rw [hml]; exact hl.1.symm) hown (hts (.methodLink RX10 62 arraycopyName) (List.mem_of_getElem? (i := 2) rfl)) (hts (.native arraycopyName) (List.mem_of_getElem? (i := 3) rfl)) (hts (.static arraycopyName) (List.mem_of_getElem? (i := 4) rfl)) (hts (.initialized "java/lang/System") (List.mem_of_getElem? (i := 5) rfl)) hK hP hD hS 12 2 10 1 rfl rfl rfl rfl rfl k3.1 k3.2.1 k3.2.2.1 k3.2.2.2.1 k3.2.2.2.2 (fun _ _ => rfl) (Nat.le_of_ble_eq_true rfl) (by decide +kernel) dX10_become_33 (fun H locs hP hD hS => ?_)
  obtain ⟨s4, es4, h⟩ := nd_let_e h
  have hP : va_P (dC, dI) vwCl (dw_X10m a ac s4) H := by rw [es4]; exact hP
  have hD : va_D A (dw_X10m a ac s4) := by rw [es4]; exact hD
  refine lv_aload_n hx hb dX10_become_36 rfl (lv_at hl 1 rfl) ?_
  refine va_get (D := (dC, dI)) (ci := 11) (v := .ref (a 13)) (C := RX10) (T := TX10) (N := 11) hx hb hts hi_dm_X10_become_X10 hown hK hP 10 rfl rfl 2 (by decide) (hts (.fieldLink RX10 18 "TimeMachine$Things" "pipe" "[I") (List.mem_of_getElem? (i := 7) rfl)) (fun _ h9 => h9) rfl dX10_become_37 ?_
  refine lv_iconst (v := 0) hx hb dX10_become_40 (by decide) ?_
  refine lv_aload_n hx hb dX10_become_41 rfl (lv_at hl 0 rfl) ?_
  refine va_get (D := (dC, dI)) (ci := 11) (v := .ref (a 3)) (C := RX10) (T := TX10) (N := 11) hx hb hts hi_dm_X10_become_X10 hown hK hP 0 rfl rfl 2 (by decide) (hts (.fieldLink RX10 18 "TimeMachine$Things" "pipe" "[I") (List.mem_of_getElem? (i := 7) rfl)) (fun _ h9 => h9) rfl dX10_become_42 ?_
  refine lv_iconst (v := 0) hx hb dX10_become_45 (by decide) ?_
  refine lv_aload_n hx hb dX10_become_46 rfl (lv_at hl 0 rfl) ?_
  refine va_get (D := (dC, dI)) (ci := 11) (v := .ref (a 3)) (C := RX10) (T := TX10) (N := 11) hx hb hts hi_dm_X10_become_X10 hown hK hP 0 rfl rfl 2 (by decide) (hts (.fieldLink RX10 18 "TimeMachine$Things" "pipe" "[I") (List.mem_of_getElem? (i := 7) rfl)) (fun _ h9 => h9) rfl dX10_become_47 ?_
  refine va_alen (v := 32) hx hb hK hP 3 2 rfl rfl (show Int32.ofNat 32 = 32 by decide) dX10_become_50 ?_
  obtain ⟨k5, h⟩ := nd_cp_e h
  refine va_copyi (sp := 0) (dp := 0) (n := 32) hx hb (by rw [hml]; exact hl.1.symm) hown (hts (.methodLink RX10 62 arraycopyName) (List.mem_of_getElem? (i := 2) rfl)) (hts (.native arraycopyName) (List.mem_of_getElem? (i := 3) rfl)) (hts (.static arraycopyName) (List.mem_of_getElem? (i := 4) rfl)) (hts (.initialized "java/lang/System") (List.mem_of_getElem? (i := 5) rfl)) hK hP hD hS 13 3 11 2 rfl rfl rfl rfl rfl k5.1 k5.2.1 k5.2.2.1 k5.2.2.2.1 k5.2.2.2.2 (fun _ _ => rfl) (Nat.le_of_ble_eq_true rfl) (by decide +kernel) dX10_become_51 (fun H locs hP hD hS => ?_)
  obtain ⟨s6, es6, h⟩ := nd_let_e h
  have hP : va_P (dC, dI) vwCl (dw_X10m a ac s6) H := by rw [es6]; exact hP
  have hD : va_D A (dw_X10m a ac s6) := by rw [es6]; exact hD
  refine lv_aload_n hx hb dX10_become_54 rfl (lv_at hl 1 rfl) ?_
  refine va_get (D := (dC, dI)) (ci := 11) (v := .ref (a 14)) (C := RX10) (T := TX10) (N := 11) hx hb hts hi_dm_X10_become_X10 hown hK hP 10 rfl rfl 3 (by decide) (hts (.fieldLink RX10 21 "TimeMachine$Things" "piped" "[B") (List.mem_of_getElem? (i := 8) rfl)) (fun _ h9 => h9) rfl dX10_become_55 ?_
  refine lv_iconst (v := 0) hx hb dX10_become_58 (by decide) ?_
  refine lv_aload_n hx hb dX10_become_59 rfl (lv_at hl 0 rfl) ?_
  refine va_get (D := (dC, dI)) (ci := 11) (v := .ref (a 4)) (C := RX10) (T := TX10) (N := 11) hx hb hts hi_dm_X10_become_X10 hown hK hP 0 rfl rfl 3 (by decide) (hts (.fieldLink RX10 21 "TimeMachine$Things" "piped" "[B") (List.mem_of_getElem? (i := 8) rfl)) (fun _ h9 => h9) rfl dX10_become_60 ?_
  refine lv_iconst (v := 0) hx hb dX10_become_63 (by decide) ?_
  refine lv_aload_n hx hb dX10_become_64 rfl (lv_at hl 0 rfl) ?_
  refine va_get (D := (dC, dI)) (ci := 11) (v := .ref (a 4)) (C := RX10) (T := TX10) (N := 11) hx hb hts hi_dm_X10_become_X10 hown hK hP 0 rfl rfl 3 (by decide) (hts (.fieldLink RX10 21 "TimeMachine$Things" "piped" "[B") (List.mem_of_getElem? (i := 8) rfl)) (fun _ h9 => h9) rfl dX10_become_65 ?_
  refine va_alen (v := 4096) hx hb hK hP 4 3 rfl rfl (show Int32.ofNat 4096 = 4096 by decide) dX10_become_68 ?_
  obtain ⟨k7, h⟩ := nd_cp_e h
  obtain ⟨k8, h⟩ := nd_fa_e h
  refine va_copyi (sp := 0) (dp := 0) (n := 4096) hx hb (by rw [hml]; exact hl.1.symm) hown (hts (.methodLink RX10 62 arraycopyName) (List.mem_of_getElem? (i := 2) rfl)) (hts (.native arraycopyName) (List.mem_of_getElem? (i := 3) rfl)) (hts (.static arraycopyName) (List.mem_of_getElem? (i := 4) rfl)) (hts (.initialized "java/lang/System") (List.mem_of_getElem? (i := 5) rfl)) hK hP hD hS 14 4 12 3 rfl rfl rfl rfl rfl k7.1 k7.2.1 k7.2.2.1 k7.2.2.2.1 k7.2.2.2.2 k8 (Nat.le_of_ble_eq_true rfl) (by decide +kernel) dX10_become_69 (fun H locs hP hD hS => ?_)
  obtain ⟨s9, es9, h⟩ := nd_let_e h
  have hP : va_P (dC, dI) vwCl (dw_X10m a ac s9) H := by rw [es9]; exact hP
  have hD : va_D A (dw_X10m a ac s9) := by rw [es9]; exact hD
  refine lv_aload_n hx hb dX10_become_72 rfl (lv_at hl 1 rfl) ?_
  refine va_get (D := (dC, dI)) (ci := 11) (v := .ref (a 15)) (C := RX10) (T := TX10) (N := 11) hx hb hts hi_dm_X10_become_X10 hown hK hP 10 rfl rfl 4 (by decide) (hts (.fieldLink RX10 25 "TimeMachine$Things" "file" "[I") (List.mem_of_getElem? (i := 9) rfl)) (fun _ h9 => h9) rfl dX10_become_73 ?_
  refine lv_iconst (v := 0) hx hb dX10_become_76 (by decide) ?_
  refine lv_aload_n hx hb dX10_become_77 rfl (lv_at hl 0 rfl) ?_
  refine va_get (D := (dC, dI)) (ci := 11) (v := .ref (a 5)) (C := RX10) (T := TX10) (N := 11) hx hb hts hi_dm_X10_become_X10 hown hK hP 0 rfl rfl 4 (by decide) (hts (.fieldLink RX10 25 "TimeMachine$Things" "file" "[I") (List.mem_of_getElem? (i := 9) rfl)) (fun _ h9 => h9) rfl dX10_become_78 ?_
  refine lv_iconst (v := 0) hx hb dX10_become_81 (by decide) ?_
  refine lv_aload_n hx hb dX10_become_82 rfl (lv_at hl 0 rfl) ?_
  refine va_get (D := (dC, dI)) (ci := 11) (v := .ref (a 5)) (C := RX10) (T := TX10) (N := 11) hx hb hts hi_dm_X10_become_X10 hown hK hP 0 rfl rfl 4 (by decide) (hts (.fieldLink RX10 25 "TimeMachine$Things" "file" "[I") (List.mem_of_getElem? (i := 9) rfl)) (fun _ h9 => h9) rfl dX10_become_83 ?_
  refine va_alen (v := 48) hx hb hK hP 5 4 rfl rfl (show Int32.ofNat 48 = 48 by decide) dX10_become_86 ?_
  obtain ⟨k10, h⟩ := nd_cp_e h
  refine va_copyi (sp := 0) (dp := 0) (n := 48) hx hb (by rw [hml]; exact hl.1.symm) hown (hts (.methodLink RX10 62 arraycopyName) (List.mem_of_getElem? (i := 2) rfl)) (hts (.native arraycopyName) (List.mem_of_getElem? (i := 3) rfl)) (hts (.static arraycopyName) (List.mem_of_getElem? (i := 4) rfl)) (hts (.initialized "java/lang/System") (List.mem_of_getElem? (i := 5) rfl)) hK hP hD hS 15 5 13 4 rfl rfl rfl rfl rfl k10.1 k10.2.1 k10.2.2.1 k10.2.2.2.1 k10.2.2.2.2 (fun _ _ => rfl) (Nat.le_of_ble_eq_true rfl) (by decide +kernel) dX10_become_87 (fun H locs hP hD hS => ?_)
  obtain ⟨s11, es11, h⟩ := nd_let_e h
  have hP : va_P (dC, dI) vwCl (dw_X10m a ac s11) H := by rw [es11]; exact hP
  have hD : va_D A (dw_X10m a ac s11) := by rw [es11]; exact hD
  refine lv_aload_n hx hb dX10_become_90 rfl (lv_at hl 1 rfl) ?_
  refine va_get (D := (dC, dI)) (ci := 11) (v := .ref (a 16)) (C := RX10) (T := TX10) (N := 11) hx hb hts hi_dm_X10_become_X10 hown hK hP 10 rfl rfl 5 (by decide) (hts (.fieldLink RX10 28 "TimeMachine$Things" "filed" "[B") (List.mem_of_getElem? (i := 10) rfl)) (fun _ h9 => h9) rfl dX10_become_91 ?_
  refine lv_iconst (v := 0) hx hb dX10_become_94 (by decide) ?_
  refine lv_aload_n hx hb dX10_become_95 rfl (lv_at hl 0 rfl) ?_
  refine va_get (D := (dC, dI)) (ci := 11) (v := .ref (a 6)) (C := RX10) (T := TX10) (N := 11) hx hb hts hi_dm_X10_become_X10 hown hK hP 0 rfl rfl 5 (by decide) (hts (.fieldLink RX10 28 "TimeMachine$Things" "filed" "[B") (List.mem_of_getElem? (i := 10) rfl)) (fun _ h9 => h9) rfl dX10_become_96 ?_
  refine lv_iconst (v := 0) hx hb dX10_become_99 (by decide) ?_
  refine lv_aload_n hx hb dX10_become_100 rfl (lv_at hl 0 rfl) ?_
  refine va_get (D := (dC, dI)) (ci := 11) (v := .ref (a 6)) (C := RX10) (T := TX10) (N := 11) hx hb hts hi_dm_X10_become_X10 hown hK hP 0 rfl rfl 5 (by decide) (hts (.fieldLink RX10 28 "TimeMachine$Things" "filed" "[B") (List.mem_of_getElem? (i := 10) rfl)) (fun _ h9 => h9) rfl dX10_become_101 ?_
  refine va_alen (v := 8192) hx hb hK hP 6 5 rfl rfl (show Int32.ofNat 8192 = 8192 by decide) dX10_become_104 ?_
  obtain ⟨k12, h⟩ := nd_cp_e h
  obtain ⟨k13, h⟩ := nd_fa_e h
  refine va_copyi (sp := 0) (dp := 0) (n := 8192) hx hb (by rw [hml]; exact hl.1.symm) hown (hts (.methodLink RX10 62 arraycopyName) (List.mem_of_getElem? (i := 2) rfl)) (hts (.native arraycopyName) (List.mem_of_getElem? (i := 3) rfl)) (hts (.static arraycopyName) (List.mem_of_getElem? (i := 4) rfl)) (hts (.initialized "java/lang/System") (List.mem_of_getElem? (i := 5) rfl)) hK hP hD hS 16 6 14 5 rfl rfl rfl rfl rfl k12.1 k12.2.1 k12.2.2.1 k12.2.2.2.1 k12.2.2.2.2 k13 (Nat.le_of_ble_eq_true rfl) (by decide +kernel) dX10_become_105 (fun H locs hP hD hS => ?_)
  obtain ⟨s14, es14, h⟩ := nd_let_e h
  have hP : va_P (dC, dI) vwCl (dw_X10m a ac s14) H := by rw [es14]; exact hP
  have hD : va_D A (dw_X10m a ac s14) := by rw [es14]; exact hD
  refine lv_aload_n hx hb dX10_become_108 rfl (lv_at hl 1 rfl) ?_
  refine va_get (D := (dC, dI)) (ci := 11) (v := .ref (a 17)) (C := RX10) (T := TX10) (N := 11) hx hb hts hi_dm_X10_become_X10 hown hK hP 10 rfl rfl 6 (by decide) (hts (.fieldLink RX10 31 "TimeMachine$Things" "names" "[B") (List.mem_of_getElem? (i := 11) rfl)) (fun _ h9 => h9) rfl dX10_become_109 ?_
  refine lv_iconst (v := 0) hx hb dX10_become_112 (by decide) ?_
  refine lv_aload_n hx hb dX10_become_113 rfl (lv_at hl 0 rfl) ?_
  refine va_get (D := (dC, dI)) (ci := 11) (v := .ref (a 7)) (C := RX10) (T := TX10) (N := 11) hx hb hts hi_dm_X10_become_X10 hown hK hP 0 rfl rfl 6 (by decide) (hts (.fieldLink RX10 31 "TimeMachine$Things" "names" "[B") (List.mem_of_getElem? (i := 11) rfl)) (fun _ h9 => h9) rfl dX10_become_114 ?_
  refine lv_iconst (v := 0) hx hb dX10_become_117 (by decide) ?_
  refine lv_aload_n hx hb dX10_become_118 rfl (lv_at hl 0 rfl) ?_
  refine va_get (D := (dC, dI)) (ci := 11) (v := .ref (a 7)) (C := RX10) (T := TX10) (N := 11) hx hb hts hi_dm_X10_become_X10 hown hK hP 0 rfl rfl 6 (by decide) (hts (.fieldLink RX10 31 "TimeMachine$Things" "names" "[B") (List.mem_of_getElem? (i := 11) rfl)) (fun _ h9 => h9) rfl dX10_become_119 ?_
  refine va_alen (v := 256) hx hb hK hP 7 6 rfl rfl (show Int32.ofNat 256 = 256 by decide) dX10_become_122 ?_
  obtain ⟨k15, h⟩ := nd_cp_e h
  obtain ⟨k16, h⟩ := nd_fa_e h
  refine va_copyi (sp := 0) (dp := 0) (n := 256) hx hb (by rw [hml]; exact hl.1.symm) hown (hts (.methodLink RX10 62 arraycopyName) (List.mem_of_getElem? (i := 2) rfl)) (hts (.native arraycopyName) (List.mem_of_getElem? (i := 3) rfl)) (hts (.static arraycopyName) (List.mem_of_getElem? (i := 4) rfl)) (hts (.initialized "java/lang/System") (List.mem_of_getElem? (i := 5) rfl)) hK hP hD hS 17 7 15 6 rfl rfl rfl rfl rfl k15.1 k15.2.1 k15.2.2.1 k15.2.2.2.1 k15.2.2.2.2 k16 (Nat.le_of_ble_eq_true rfl) (by decide +kernel) dX10_become_123 (fun H locs hP hD hS => ?_)
  obtain ⟨s17, es17, h⟩ := nd_let_e h
  have hP : va_P (dC, dI) vwCl (dw_X10m a ac s17) H := by rw [es17]; exact hP
  have hD : va_D A (dw_X10m a ac s17) := by rw [es17]; exact hD
  refine lv_aload_n hx hb dX10_become_126 rfl (lv_at hl 1 rfl) ?_
  refine va_get (D := (dC, dI)) (ci := 11) (v := .ref (a 18)) (C := RX10) (T := TX10) (N := 11) hx hb hts hi_dm_X10_become_X10 hown hK hP 10 rfl rfl 7 (by decide) (hts (.fieldLink RX10 34 "TimeMachine$Things" "typed" "[B") (List.mem_of_getElem? (i := 12) rfl)) (fun _ h9 => h9) rfl dX10_become_127 ?_
  refine lv_iconst (v := 0) hx hb dX10_become_130 (by decide) ?_
  refine lv_aload_n hx hb dX10_become_131 rfl (lv_at hl 0 rfl) ?_
  refine va_get (D := (dC, dI)) (ci := 11) (v := .ref (a 8)) (C := RX10) (T := TX10) (N := 11) hx hb hts hi_dm_X10_become_X10 hown hK hP 0 rfl rfl 7 (by decide) (hts (.fieldLink RX10 34 "TimeMachine$Things" "typed" "[B") (List.mem_of_getElem? (i := 12) rfl)) (fun _ h9 => h9) rfl dX10_become_132 ?_
  refine lv_iconst (v := 0) hx hb dX10_become_135 (by decide) ?_
  refine lv_aload_n hx hb dX10_become_136 rfl (lv_at hl 0 rfl) ?_
  refine va_get (D := (dC, dI)) (ci := 11) (v := .ref (a 8)) (C := RX10) (T := TX10) (N := 11) hx hb hts hi_dm_X10_become_X10 hown hK hP 0 rfl rfl 7 (by decide) (hts (.fieldLink RX10 34 "TimeMachine$Things" "typed" "[B") (List.mem_of_getElem? (i := 12) rfl)) (fun _ h9 => h9) rfl dX10_become_137 ?_
  refine va_alen (v := 512) hx hb hK hP 8 7 rfl rfl (show Int32.ofNat 512 = 512 by decide) dX10_become_140 ?_
  obtain ⟨k18, h⟩ := nd_cp_e h
  obtain ⟨k19, h⟩ := nd_fa_e h
  refine va_copyi (sp := 0) (dp := 0) (n := 512) hx hb (by rw [hml]; exact hl.1.symm) hown (hts (.methodLink RX10 62 arraycopyName) (List.mem_of_getElem? (i := 2) rfl)) (hts (.native arraycopyName) (List.mem_of_getElem? (i := 3) rfl)) (hts (.static arraycopyName) (List.mem_of_getElem? (i := 4) rfl)) (hts (.initialized "java/lang/System") (List.mem_of_getElem? (i := 5) rfl)) hK hP hD hS 18 8 16 7 rfl rfl rfl rfl rfl k18.1 k18.2.1 k18.2.2.1 k18.2.2.2.1 k18.2.2.2.2 k19 (Nat.le_of_ble_eq_true rfl) (by decide +kernel) dX10_become_141 (fun H locs hP hD hS => ?_)
  obtain ⟨s20, es20, h⟩ := nd_let_e h
  have hP : va_P (dC, dI) vwCl (dw_X10m a ac s20) H := by rw [es20]; exact hP
  have hD : va_D A (dw_X10m a ac s20) := by rw [es20]; exact hD
  refine lv_aload_n hx hb dX10_become_144 rfl (lv_at hl 0 rfl) ?_
  refine lv_aload_n hx hb dX10_become_145 rfl (lv_at hl 1 rfl) ?_
  refine va_get (D := (dC, dI)) (ci := 11) (v := .int (sI s20.2.2 0)) (C := RX10) (T := TX10) (N := 11) hx hb hts hi_dm_X10_become_X10 hown hK hP 10 rfl rfl 8 (by decide) (hts (.fieldLink RX10 46 "TimeMachine$Things" "typedBytes" "I") (List.mem_of_getElem? (i := 13) rfl)) (fun _ h9 => h9) rfl dX10_become_146 ?_
  refine va_put (D := (dC, dI)) (ci := 11) (v := .int (sI s20.2.2 0)) (ty := .int) (C := RX10) (T := TX10) (N := 11) hx hb hts hi_dm_X10_become_X10 tyX10 tyX10_ok nmX10 hown hK hP hD hS 0 rfl rfl 8 (by decide) (hts (.fieldLink RX10 46 "TimeMachine$Things" "typedBytes" "I") (List.mem_of_getElem? (i := 13) rfl)) (fun _ h9 => h9) rfl (by decide +kernel) rfl rfl (Nat.le_of_ble_eq_true rfl) dX10_become_149 (fun H locs hP hD hS => ?_)
  obtain ⟨s21, es21, h⟩ := nd_let_e h
  have hP : va_P (dC, dI) vwCl (dw_X10m a ac s21) H := by rw [es21]; exact hP
  have hD : va_D A (dw_X10m a ac s21) := by rw [es21]; exact hD
  refine lv_aload_n hx hb dX10_become_152 rfl (lv_at hl 1 rfl) ?_
  refine va_get (D := (dC, dI)) (ci := 11) (v := .ref (a 19)) (C := RX10) (T := TX10) (N := 11) hx hb hts hi_dm_X10_become_X10 hown hK hP 10 rfl rfl 9 (by decide) (hts (.fieldLink RX10 37 "TimeMachine$Things" "shownBytes" "[B") (List.mem_of_getElem? (i := 14) rfl)) (fun _ h9 => h9) rfl dX10_become_153 ?_
  refine lv_iconst (v := 0) hx hb dX10_become_156 (by decide) ?_
  refine lv_aload_n hx hb dX10_become_157 rfl (lv_at hl 0 rfl) ?_
  refine va_get (D := (dC, dI)) (ci := 11) (v := .ref (a 9)) (C := RX10) (T := TX10) (N := 11) hx hb hts hi_dm_X10_become_X10 hown hK hP 0 rfl rfl 9 (by decide) (hts (.fieldLink RX10 37 "TimeMachine$Things" "shownBytes" "[B") (List.mem_of_getElem? (i := 14) rfl)) (fun _ h9 => h9) rfl dX10_become_158 ?_
  refine lv_iconst (v := 0) hx hb dX10_become_161 (by decide) ?_
  refine lv_aload_n hx hb dX10_become_162 rfl (lv_at hl 0 rfl) ?_
  refine va_get (D := (dC, dI)) (ci := 11) (v := .ref (a 9)) (C := RX10) (T := TX10) (N := 11) hx hb hts hi_dm_X10_become_X10 hown hK hP 0 rfl rfl 9 (by decide) (hts (.fieldLink RX10 37 "TimeMachine$Things" "shownBytes" "[B") (List.mem_of_getElem? (i := 14) rfl)) (fun _ h9 => h9) rfl dX10_become_163 ?_
  refine va_alen (v := 2048) hx hb hK hP 9 8 rfl rfl (show Int32.ofNat 2048 = 2048 by decide) dX10_become_166 ?_
  obtain ⟨k22, h⟩ := nd_cp_e h
  obtain ⟨k23, h⟩ := nd_fa_e h
  refine va_copyi (sp := 0) (dp := 0) (n := 2048) hx hb (by rw [hml]; exact hl.1.symm) hown (hts (.methodLink RX10 62 arraycopyName) (List.mem_of_getElem? (i := 2) rfl)) (hts (.native arraycopyName) (List.mem_of_getElem? (i := 3) rfl)) (hts (.static arraycopyName) (List.mem_of_getElem? (i := 4) rfl)) (hts (.initialized "java/lang/System") (List.mem_of_getElem? (i := 5) rfl)) hK hP hD hS 19 9 17 8 rfl rfl rfl rfl rfl k22.1 k22.2.1 k22.2.2.1 k22.2.2.2.1 k22.2.2.2.2 k23 (Nat.le_of_ble_eq_true rfl) (by decide +kernel) dX10_become_167 (fun H locs hP hD hS => ?_)
  obtain ⟨s24, es24, h⟩ := nd_let_e h
  have hP : va_P (dC, dI) vwCl (dw_X10m a ac s24) H := by rw [es24]; exact hP
  have hD : va_D A (dw_X10m a ac s24) := by rw [es24]; exact hD
  refine lv_aload_n hx hb dX10_become_170 rfl (lv_at hl 0 rfl) ?_
  refine lv_aload_n hx hb dX10_become_171 rfl (lv_at hl 1 rfl) ?_
  refine va_get (D := (dC, dI)) (ci := 11) (v := .long (sL s24.2.2 0)) (C := RX10) (T := TX10) (N := 11) hx hb hts hi_dm_X10_become_X10 hown hK hP 10 rfl rfl 10 (by decide) (hts (.fieldLink RX10 50 "TimeMachine$Things" "shownInAll" "J") (List.mem_of_getElem? (i := 15) rfl)) (fun _ h9 => h9) rfl dX10_become_172 ?_
  refine va_put (D := (dC, dI)) (ci := 11) (v := .long (sL s24.2.2 0)) (ty := .long) (C := RX10) (T := TX10) (N := 11) hx hb hts hi_dm_X10_become_X10 tyX10 tyX10_ok nmX10 hown hK hP hD hS 0 rfl rfl 10 (by decide) (hts (.fieldLink RX10 50 "TimeMachine$Things" "shownInAll" "J") (List.mem_of_getElem? (i := 15) rfl)) (fun _ h9 => h9) rfl (by decide +kernel) rfl rfl (Nat.le_of_ble_eq_true rfl) dX10_become_175 (fun H locs hP hD hS => ?_)
  obtain ⟨s25, es25, h⟩ := nd_let_e h
  have hP : va_P (dC, dI) vwCl (dw_X10m a ac s25) H := by rw [es25]; exact hP
  have hD : va_D A (dw_X10m a ac s25) := by rw [es25]; exact hD
  exact K _ _ _ _ _ dX10_become_178 (Option.some.inj h).symm hP hD hS
set_option maxHeartbeats 40000000 in
set_option maxRecDepth 100000 in
theorem dm_X10_become (l : Launch) (hlt : l.stackTraces = false) (dC : Nat → ClassId) (dI : Nat → Nat → Nat) (a : Nat → Nat) (ac : Nat → ClassId) (n : Nat) (s0 : St × (St) × (St)) {r : St × (St) × (St)} (h : df_X10_become n s0 = some r) (sz : Nat) : Met l yX10_become ow_dm_X10_become ({ frames := 1, cells := 0, slots := 0, locals := 40 }) (va_Pc [.ref (a 0), .ref (a 10)] (fun U => U.heap.size = sz ∧ va_P (dC, dI) vwCl (dw_X10m a ac s0) U.heap ∧ va_K (dC, dI) vwCl (dk_X10m ac) U ∧ va_D (fun _ => True) (dw_X10m a ac s0) ∧ nv_E (va_A (dw_X10m a ac s0) sz) U)) (va_Qv (fun _ => True) (fun (_ : Unit) t => va_P (dC, dI) vwCl (dw_X10m a ac r) t.heap ∧ va_K (dC, dI) vwCl (dk_X10m ac) t ∧ va_D (va_A (dw_X10m a ac s0) sz) (dw_X10m a ac r)) (va_A (dw_X10m a ac s0) sz)) 0 0 (va_A (dw_X10m a ac s0) sz) := by
  refine Met.ofW (cc := cX10_become) (maxL := 2) (ret := none) (by decide) rfl ?_
  intro p e s m args below meth c s₁ B hml hv
  obtain ⟨rfl, hsz, hP, hK, hD0, hN⟩ := hv
  have hx := B.exec
  have hb := B.bytes
  have hr := B.returns
  have hts := atoms_spec (ws := ow_dm_X10_become) B.pre
  have hown : s.vm.findClass RX10 = some m.cls := findClass_of_methodNamed B.named
  have hlocks := B.notSynchronized
  subst hsz
  have hD := hD0.self (sz := s.heap.size)
  generalize hAe : va_A (dw_X10m a ac s0) s.heap.size = A at hD hN ⊢
  have hA : ∀ q : Nat, s.heap.size ≤ q → A q := fun q h => by rw [← hAe]; exact Or.inr h
  have hl := lv_entry ([.ref (a 0), .ref (a 10)]) (n := 2) (Nat.le_of_ble_eq_true rfl)
  rw [lg_entry_eq]
  generalize (lg_sl ([.ref (a 0), .ref (a 10)]) ++ List.replicate (2 - (lg_sl ([.ref (a 0), .ref (a 10)])).length) Slot.unset).toArray = ls at hl ⊢
  have hl : lv_has ls 2 [(0, .ref (a 0)), (1, .ref (a 10))] := hl
  exact db_X10_become_0 (dC := dC) (dI := dI) (a := a) (ac := ac) (n := n) (r := r) ⟨hlt, hx, hb, hml, hown, hts, hN, hA, hK⟩ (fun pc τ H locs ls d er hP hD hS => by subst er; exact W.vret hx hb hr (fun t ht hW => ⟨⟨(), rfl, trivial, by rw [ht]; exact hP, va_K.moved hW.alike hK, hD⟩, hS.F ht⟩) hS.2.2 d) s0 _ _ _ h hP hD va_S.rf (lv_sub hl [0, 1] rfl)
def ow_dm_X10_openingOf : List Cond := .code yX10_openingOf cX10_openingOf 3 (some .int) :: ([.fieldLink RX10 11 "TimeMachine$Things" "link" "[I"] ++ (u_ws RX10 TX10 11 ++ []))
theorem gd_dm_X10_openingOf : ∀ w ∈ ow_dm_X10_openingOf, (w.onTables && w.keeps) = true ∨ ∃ ty, w = Cond.arrayClass ty := List.forall_mem_cons.mpr ⟨good_of_word rfl, List.forall_mem_append.mpr ⟨fun w h => good_of_word (List.all_eq_true.mp (by decide +kernel) w h), List.forall_mem_append.mpr ⟨gu_X10, fun _ h => nomatch h⟩⟩⟩
theorem hi_dm_X10_openingOf_X10 : ∀ w ∈ u_ws RX10 TX10 11, w ∈ ow_dm_X10_openingOf := fun w h => List.mem_cons_of_mem _ (List.mem_append_right _ (List.mem_append_left _ h))
def dj_X10_openingOf_27 (p : Program) (l : Launch) (e : Env) (s : State) (m : MethodId) (args : Array Value) (below : List Frame) (meth : Method) (c : Code) (Q : State → Prop) (A : Nat → Prop) (dC : Nat → ClassId) (dI : Nat → Nat → Nat) (a : Nat → Nat) (ac : Nat → ClassId) (g : Int32 → (St) → Option (Int32 × (St))) (r : Int32 × (St)) : Prop := ∀ (y0 : Int32) (s0 : St) (H : Heap) (locs : List Loc) (ls : Array Slot), g y0 s0 = some r → va_P (dC, dI) vwCl (dw_X10 a ac s0) H → va_D A (dw_X10 a ac s0) → va_S A s.heap H locs → lv_has ls 3 [] → W p l e (headSpec ow_dm_X10_openingOf ({ frames := 0, cells := 0, slots := 0, locals := 0 })).room s m args below meth c H locs 0 0 Q (F0 m 27 ls [.int y0])
def dj_X10_openingOf_10 (p : Program) (l : Launch) (e : Env) (s : State) (m : MethodId) (args : Array Value) (below : List Frame) (meth : Method) (c : Code) (Q : State → Prop) (A : Nat → Prop) (dC : Nat → ClassId) (dI : Nat → Nat → Nat) (a : Nat → Nat) (ac : Nat → ClassId) (g : (St) → Option (Int32 × (St))) (r : Int32 × (St)) : Prop := ∀ (s0 : St) (H : Heap) (locs : List Loc) (ls : Array Slot), g s0 = some r → va_P (dC, dI) vwCl (dw_X10 a ac s0) H → va_D A (dw_X10 a ac s0) → va_S A s.heap H locs → lv_has ls 3 [] → W p l e (headSpec ow_dm_X10_openingOf ({ frames := 0, cells := 0, slots := 0, locals := 0 })).room s m args below meth c H locs 0 0 Q (F0 m 10 ls [])
def dj_X10_openingOf_0 (p : Program) (l : Launch) (e : Env) (s : State) (m : MethodId) (args : Array Value) (below : List Frame) (meth : Method) (c : Code) (Q : State → Prop) (A : Nat → Prop) (dC : Nat → ClassId) (dI : Nat → Nat → Nat) (a : Nat → Nat) (ac : Nat → ClassId) (g : Int32 → Int32 → (St) → Option (Int32 × (St))) (r : Int32 × (St)) : Prop := ∀ (v0 : Int32) (v1 : Int32) (s0 : St) (H : Heap) (locs : List Loc) (ls : Array Slot), g v0 v1 s0 = some r → va_P (dC, dI) vwCl (dw_X10 a ac s0) H → va_D A (dw_X10 a ac s0) → va_S A s.heap H locs → lv_has ls 3 [(0, .ref (a 0)), (1, .int v0), (2, .int v1)] → W p l e (headSpec ow_dm_X10_openingOf ({ frames := 0, cells := 0, slots := 0, locals := 0 })).room s m args below meth c H locs 0 0 Q (F0 m 0 ls [])
set_option maxHeartbeats 40000000 in
set_option maxRecDepth 100000 in
theorem db_X10_openingOf_27 {p : Program} {l : Launch} {e : Env} {s : State} {m : MethodId} {args : Array Value} {below : List Frame} {meth : Method} {c : Code} {Q : State → Prop} {A : Nat → Prop} {dC : Nat → ClassId} {dI : Nat → Nat → Nat} {a : Nat → Nat} {ac : Nat → ClassId} {n : Nat} {r : Int32 × (St)} (C : nd_C p l s m args c A (dC, dI) cX10_openingOf 3 RX10 ow_dm_X10_openingOf (dk_X10 ac)) (K : nd_Ki p l e (headSpec ow_dm_X10_openingOf ({ frames := 0, cells := 0, slots := 0, locals := 0 })).room s m args below meth c Q A (dC, dI) cX10_openingOf .int (St) (dw_X10 a ac) r) : dj_X10_openingOf_27 p l e s m args below meth c Q A dC dI a ac (df_X10_openingOf_27 n) r := by
  obtain ⟨hlt, hx, hb, hml, hown, hts, hN, hA, hK⟩ := id C
  intro y0 s0 H locs ls h hP hD hS hl
  unfold df_X10_openingOf_27 at h
  exact K _ _ _ _ _ _ dX10_openingOf_27 rfl (Option.some.inj h).symm hP hD hS
set_option maxHeartbeats 40000000 in
set_option maxRecDepth 100000 in
theorem db_X10_openingOf_10 {p : Program} {l : Launch} {e : Env} {s : State} {m : MethodId} {args : Array Value} {below : List Frame} {meth : Method} {c : Code} {Q : State → Prop} {A : Nat → Prop} {dC : Nat → ClassId} {dI : Nat → Nat → Nat} {a : Nat → Nat} {ac : Nat → ClassId} {n : Nat} {r : Int32 × (St)} (C : nd_C p l s m args c A (dC, dI) cX10_openingOf 3 RX10 ow_dm_X10_openingOf (dk_X10 ac)) (K : nd_Ki p l e (headSpec ow_dm_X10_openingOf ({ frames := 0, cells := 0, slots := 0, locals := 0 })).room s m args below meth c Q A (dC, dI) cX10_openingOf .int (St) (dw_X10 a ac) r) : dj_X10_openingOf_10 p l e s m args below meth c Q A dC dI a ac (df_X10_openingOf_10 n) r := by
  obtain ⟨hlt, hx, hb, hml, hown, hts, hN, hA, hK⟩ := id C
  intro s0 H locs ls h hP hD hS hl
  unfold df_X10_openingOf_10 at h
  refine lv_iconst (v := (-1)) hx hb dX10_openingOf_10 (by decide) ?_
  refine lv_goto (tgt := 27) hx hb dX10_openingOf_11 (by decide) ?_
  exact (db_X10_openingOf_27 C K) ((-1)) s0 _ _ _ h hP hD hS (lv_sub hl [] rfl)
set_option maxHeartbeats 40000000 in
set_option maxRecDepth 100000 in
theorem db_X10_openingOf_0 {p : Program} {l : Launch} {e : Env} {s : State} {m : MethodId} {args : Array Value} {below : List Frame} {meth : Method} {c : Code} {Q : State → Prop} {A : Nat → Prop} {dC : Nat → ClassId} {dI : Nat → Nat → Nat} {a : Nat → Nat} {ac : Nat → ClassId} {n : Nat} {r : Int32 × (St)} (C : nd_C p l s m args c A (dC, dI) cX10_openingOf 3 RX10 ow_dm_X10_openingOf (dk_X10 ac)) (K : nd_Ki p l e (headSpec ow_dm_X10_openingOf ({ frames := 0, cells := 0, slots := 0, locals := 0 })).room s m args below meth c Q A (dC, dI) cX10_openingOf .int (St) (dw_X10 a ac) r) : dj_X10_openingOf_0 p l e s m args below meth c Q A dC dI a ac (df_X10_openingOf_0 n) r := by
  obtain ⟨hlt, hx, hb, hml, hown, hts, hN, hA, hK⟩ := id C
  intro v0 v1 s0 H locs ls h hP hD hS hl
  unfold df_X10_openingOf_0 at h
  refine lv_iload_n hx hb dX10_openingOf_0 rfl (lv_at hl 2 rfl) ?_
  refine lv_if_lt (tgt := 10) hx hb dX10_openingOf_1 (by decide) (fun c1 => ?_) (fun c1 => ?_)
  · have h := nd_pos h c1
    exact (db_X10_openingOf_10 C K)  s0 _ _ _ h hP hD hS (lv_sub hl [] rfl)
  · have h := nd_neg h c1
    refine lv_iload_n hx hb dX10_openingOf_4 rfl (lv_at hl 2 rfl) ?_
    refine lv_bipush (v := 16) hx hb dX10_openingOf_5 (by decide) ?_
    refine lv_icmp_lt (tgt := 14) hx hb dX10_openingOf_7 (by decide) (fun c2 => ?_) (fun c2 => ?_)
    · have h := nd_pos h c2
      refine lv_aload_n hx hb dX10_openingOf_14 rfl (lv_at hl 0 rfl) ?_
      refine va_get (D := (dC, dI)) (ci := 11) (v := .ref (a 1)) (C := RX10) (T := TX10) (N := 11) hx hb hts hi_dm_X10_openingOf_X10 hown hK hP 0 rfl rfl 0 (by decide) (hts (.fieldLink RX10 11 "TimeMachine$Things" "link" "[I") (List.mem_of_getElem? (i := 1) rfl)) (fun _ h9 => h9) rfl dX10_openingOf_15 ?_
      refine lv_iload_n hx hb dX10_openingOf_18 rfl (lv_at hl 1 rfl) ?_
      refine lv_bipush (v := 16) hx hb dX10_openingOf_19 (by decide) ?_
      refine lv_imul hx hb dX10_openingOf_21 ?_
      refine lv_iload_n hx hb dX10_openingOf_22 rfl (lv_at hl 2 rfl) ?_
      refine lv_iadd hx hb dX10_openingOf_23 ?_
      obtain ⟨i3, h⟩ := nd_ck_e h
      refine va_iald (i := ((v0 * 16) + v1)) hx hb hK hP 1 0 rfl rfl i3 dX10_openingOf_24 ?_
      refine lv_iconst (v := 1) hx hb dX10_openingOf_25 (by decide) ?_
      refine lv_isub hx hb dX10_openingOf_26 ?_
      exact (db_X10_openingOf_27 C K) (((sR s0 0 (Int32.toNatClampNeg ((v0 * 16) + v1))) - 1)) s0 _ _ _ h hP hD hS (lv_sub hl [] rfl)
    · have h := nd_neg h c2
      exact (db_X10_openingOf_10 C K)  s0 _ _ _ h hP hD hS (lv_sub hl [] rfl)
set_option maxHeartbeats 40000000 in
set_option maxRecDepth 100000 in
theorem dm_X10_openingOf (l : Launch) (hlt : l.stackTraces = false) (dC : Nat → ClassId) (dI : Nat → Nat → Nat) (a : Nat → Nat) (ac : Nat → ClassId) (n : Nat) (v0 : Int32) (v1 : Int32) (s0 : St) {r : Int32 × (St)} (h : df_X10_openingOf n v0 v1 s0 = some r) (sz : Nat) : Met l yX10_openingOf ow_dm_X10_openingOf ({ frames := 0, cells := 0, slots := 0, locals := 0 }) (va_Pc [.ref (a 0), .int v0, .int v1] (fun U => U.heap.size = sz ∧ va_P (dC, dI) vwCl (dw_X10 a ac s0) U.heap ∧ va_K (dC, dI) vwCl (dk_X10 ac) U ∧ va_D (fun _ => True) (dw_X10 a ac s0) ∧ nv_E (va_A (dw_X10 a ac s0) sz) U)) (va_Qi (fun x _ => x = r.1) (fun (_ : Unit) t => va_P (dC, dI) vwCl (dw_X10 a ac r.2) t.heap ∧ va_K (dC, dI) vwCl (dk_X10 ac) t ∧ va_D (va_A (dw_X10 a ac s0) sz) (dw_X10 a ac r.2)) (va_A (dw_X10 a ac s0) sz)) 0 0 (va_A (dw_X10 a ac s0) sz) := by
  refine Met.ofW (cc := cX10_openingOf) (maxL := 3) (ret := (some .int)) (by decide) rfl ?_
  intro p e s m args below meth c s₁ B hml hv
  obtain ⟨rfl, hsz, hP, hK, hD0, hN⟩ := hv
  have hx := B.exec
  have hb := B.bytes
  have hr := B.returns
  have hts := atoms_spec (ws := ow_dm_X10_openingOf) B.pre
  have hown : s.vm.findClass RX10 = some m.cls := findClass_of_methodNamed B.named
  have hlocks := B.notSynchronized
  subst hsz
  have hD := hD0.self (sz := s.heap.size)
  generalize hAe : va_A (dw_X10 a ac s0) s.heap.size = A at hD hN ⊢
  have hA : ∀ q : Nat, s.heap.size ≤ q → A q := fun q h => by rw [← hAe]; exact Or.inr h
  have hl := lv_entry ([.ref (a 0), .int v0, .int v1]) (n := 3) (Nat.le_of_ble_eq_true rfl)
  rw [lg_entry_eq]
  generalize (lg_sl ([.ref (a 0), .int v0, .int v1]) ++ List.replicate (3 - (lg_sl ([.ref (a 0), .int v0, .int v1])).length) Slot.unset).toArray = ls at hl ⊢
  have hl : lv_has ls 3 [(0, .ref (a 0)), (1, .int v0), (2, .int v1)] := hl
  exact db_X10_openingOf_0 (dC := dC) (dI := dI) (a := a) (ac := ac) (n := n) (r := r) ⟨hlt, hx, hb, hml, hown, hts, hN, hA, hK⟩ (fun pc v τ H locs ls d z er hP hD hS => by subst er; exact W.zret (v := v) hx hb hr z (fun t ht hW => ⟨⟨v, (), rfl, rfl, by rw [ht]; exact hP, va_K.moved hW.alike hK, hD⟩, hS.F ht⟩) hS.2.2 d) v0 v1 s0 _ _ _ h hP hD va_S.rf (lv_sub hl [0, 1, 2] rfl)
def ow_dm_X10_of : List Cond := .code yX10_of cX10_of 3 (some .int) :: ([.fieldLink RX10 15 "TimeMachine$Things" "opening" "[I"] ++ (u_ws RX10 TX10 11 ++ []))
theorem gd_dm_X10_of : ∀ w ∈ ow_dm_X10_of, (w.onTables && w.keeps) = true ∨ ∃ ty, w = Cond.arrayClass ty := List.forall_mem_cons.mpr ⟨good_of_word rfl, List.forall_mem_append.mpr ⟨fun w h => good_of_word (List.all_eq_true.mp (by decide +kernel) w h), List.forall_mem_append.mpr ⟨gu_X10, fun _ h => nomatch h⟩⟩⟩
theorem hi_dm_X10_of_X10 : ∀ w ∈ u_ws RX10 TX10 11, w ∈ ow_dm_X10_of := fun w h => List.mem_cons_of_mem _ (List.mem_append_right _ (List.mem_append_left _ h))
def dj_X10_of_0 (p : Program) (l : Launch) (e : Env) (s : State) (m : MethodId) (args : Array Value) (below : List Frame) (meth : Method) (c : Code) (Q : State → Prop) (A : Nat → Prop) (dC : Nat → ClassId) (dI : Nat → Nat → Nat) (a : Nat → Nat) (ac : Nat → ClassId) (g : Int32 → Int32 → (St) → Option (Int32 × (St))) (r : Int32 × (St)) : Prop := ∀ (v0 : Int32) (v1 : Int32) (s0 : St) (H : Heap) (locs : List Loc) (ls : Array Slot), g v0 v1 s0 = some r → va_P (dC, dI) vwCl (dw_X10 a ac s0) H → va_D A (dw_X10 a ac s0) → va_S A s.heap H locs → lv_has ls 3 [(0, .ref (a 0)), (1, .int v0), (2, .int v1)] → W p l e (headSpec ow_dm_X10_of ({ frames := 0, cells := 0, slots := 0, locals := 0 })).room s m args below meth c H locs 0 0 Q (F0 m 0 ls [])
set_option maxHeartbeats 40000000 in
set_option maxRecDepth 100000 in
theorem db_X10_of_0 {p : Program} {l : Launch} {e : Env} {s : State} {m : MethodId} {args : Array Value} {below : List Frame} {meth : Method} {c : Code} {Q : State → Prop} {A : Nat → Prop} {dC : Nat → ClassId} {dI : Nat → Nat → Nat} {a : Nat → Nat} {ac : Nat → ClassId} {n : Nat} {r : Int32 × (St)} (C : nd_C p l s m args c A (dC, dI) cX10_of 3 RX10 ow_dm_X10_of (dk_X10 ac)) (K : nd_Ki p l e (headSpec ow_dm_X10_of ({ frames := 0, cells := 0, slots := 0, locals := 0 })).room s m args below meth c Q A (dC, dI) cX10_of .int (St) (dw_X10 a ac) r) : dj_X10_of_0 p l e s m args below meth c Q A dC dI a ac (df_X10_of_0 n) r := by
  obtain ⟨hlt, hx, hb, hml, hown, hts, hN, hA, hK⟩ := id C
  intro v0 v1 s0 H locs ls h hP hD hS hl
  unfold df_X10_of_0 at h
  refine lv_aload_n hx hb dX10_of_0 rfl (lv_at hl 0 rfl) ?_
  refine va_get (D := (dC, dI)) (ci := 11) (v := .ref (a 2)) (C := RX10) (T := TX10) (N := 11) hx hb hts hi_dm_X10_of_X10 hown hK hP 0 rfl rfl 1 (by decide) (hts (.fieldLink RX10 15 "TimeMachine$Things" "opening" "[I") (List.mem_of_getElem? (i := 1) rfl)) (fun _ h9 => h9) rfl dX10_of_1 ?_
  refine lv_iload_n hx hb dX10_of_4 rfl (lv_at hl 1 rfl) ?_
  refine lv_iconst (v := 5) hx hb dX10_of_5 (by decide) ?_
  refine lv_imul hx hb dX10_of_6 ?_
  refine lv_iload_n hx hb dX10_of_7 rfl (lv_at hl 2 rfl) ?_
  refine lv_iadd hx hb dX10_of_8 ?_
  obtain ⟨i1, h⟩ := nd_ck_e h
  refine va_iald (i := ((v0 * 5) + v1)) hx hb hK hP 2 1 rfl rfl i1 dX10_of_9 ?_
  exact K _ _ _ _ _ _ dX10_of_10 rfl (Option.some.inj h).symm hP hD hS
set_option maxHeartbeats 40000000 in
set_option maxRecDepth 100000 in
theorem dm_X10_of (l : Launch) (hlt : l.stackTraces = false) (dC : Nat → ClassId) (dI : Nat → Nat → Nat) (a : Nat → Nat) (ac : Nat → ClassId) (n : Nat) (v0 : Int32) (v1 : Int32) (s0 : St) {r : Int32 × (St)} (h : df_X10_of n v0 v1 s0 = some r) (sz : Nat) : Met l yX10_of ow_dm_X10_of ({ frames := 0, cells := 0, slots := 0, locals := 0 }) (va_Pc [.ref (a 0), .int v0, .int v1] (fun U => U.heap.size = sz ∧ va_P (dC, dI) vwCl (dw_X10 a ac s0) U.heap ∧ va_K (dC, dI) vwCl (dk_X10 ac) U ∧ va_D (fun _ => True) (dw_X10 a ac s0) ∧ nv_E (va_A (dw_X10 a ac s0) sz) U)) (va_Qi (fun x _ => x = r.1) (fun (_ : Unit) t => va_P (dC, dI) vwCl (dw_X10 a ac r.2) t.heap ∧ va_K (dC, dI) vwCl (dk_X10 ac) t ∧ va_D (va_A (dw_X10 a ac s0) sz) (dw_X10 a ac r.2)) (va_A (dw_X10 a ac s0) sz)) 0 0 (va_A (dw_X10 a ac s0) sz) := by
  refine Met.ofW (cc := cX10_of) (maxL := 3) (ret := (some .int)) (by decide) rfl ?_
  intro p e s m args below meth c s₁ B hml hv
  obtain ⟨rfl, hsz, hP, hK, hD0, hN⟩ := hv
  have hx := B.exec
  have hb := B.bytes
  have hr := B.returns
  have hts := atoms_spec (ws := ow_dm_X10_of) B.pre
  have hown : s.vm.findClass RX10 = some m.cls := findClass_of_methodNamed B.named
  have hlocks := B.notSynchronized
  subst hsz
  have hD := hD0.self (sz := s.heap.size)
  generalize hAe : va_A (dw_X10 a ac s0) s.heap.size = A at hD hN ⊢
  have hA : ∀ q : Nat, s.heap.size ≤ q → A q := fun q h => by rw [← hAe]; exact Or.inr h
  have hl := lv_entry ([.ref (a 0), .int v0, .int v1]) (n := 3) (Nat.le_of_ble_eq_true rfl)
  rw [lg_entry_eq]
  generalize (lg_sl ([.ref (a 0), .int v0, .int v1]) ++ List.replicate (3 - (lg_sl ([.ref (a 0), .int v0, .int v1])).length) Slot.unset).toArray = ls at hl ⊢
  have hl : lv_has ls 3 [(0, .ref (a 0)), (1, .int v0), (2, .int v1)] := hl
  exact db_X10_of_0 (dC := dC) (dI := dI) (a := a) (ac := ac) (n := n) (r := r) ⟨hlt, hx, hb, hml, hown, hts, hN, hA, hK⟩ (fun pc v τ H locs ls d z er hP hD hS => by subst er; exact W.zret (v := v) hx hb hr z (fun t ht hW => ⟨⟨v, (), rfl, rfl, by rw [ht]; exact hP, va_K.moved hW.alike hK, hD⟩, hS.F ht⟩) hS.2.2 d) v0 v1 s0 _ _ _ h hP hD va_S.rf (lv_sub hl [0, 1, 2] rfl)
def ow_dm_X10_freeLink : List Cond := .code yX10_freeLink cX10_freeLink 4 (some .int) :: ([.methodLink RX10 68 Lib.Math.max.name, .static Lib.Math.max.name, .initialized "java/lang/Math", .code Lib.Math.max.name Lib.Math.max.code 2 (some .int), .fieldLink RX10 11 "TimeMachine$Things" "link" "[I"] ++ (u_ws RX10 TX10 11 ++ []))
theorem gd_dm_X10_freeLink : ∀ w ∈ ow_dm_X10_freeLink, (w.onTables && w.keeps) = true ∨ ∃ ty, w = Cond.arrayClass ty := List.forall_mem_cons.mpr ⟨good_of_word rfl, List.forall_mem_append.mpr ⟨fun w h => good_of_word (List.all_eq_true.mp (by decide +kernel) w h), List.forall_mem_append.mpr ⟨gu_X10, fun _ h => nomatch h⟩⟩⟩
theorem hi_dm_X10_freeLink_X10 : ∀ w ∈ u_ws RX10 TX10 11, w ∈ ow_dm_X10_freeLink := fun w h => List.mem_cons_of_mem _ (List.mem_append_right _ (List.mem_append_left _ h))
def dj_X10_freeLink_6 (p : Program) (l : Launch) (e : Env) (s : State) (m : MethodId) (args : Array Value) (below : List Frame) (meth : Method) (c : Code) (Q : State → Prop) (A : Nat → Prop) (dC : Nat → ClassId) (dI : Nat → Nat → Nat) (a : Nat → Nat) (ac : Nat → ClassId) (g : Int32 → Int32 → (St) → Option (Int32 × (St))) (r : Int32 × (St)) : Prop := ∀ (x1 : Int32) (x3 : Int32) (s0 : St) (H : Heap) (locs : List Loc) (ls : Array Slot), g x1 x3 s0 = some r → va_P (dC, dI) vwCl (dw_X10 a ac s0) H → va_D A (dw_X10 a ac s0) → va_S A s.heap H locs → lv_has ls 4 [(0, .ref (a 0)), (1, .int x1), (3, .int x3)] → W p l e (headSpec ow_dm_X10_freeLink ({ frames := 1, cells := 0, slots := 0, locals := 13 })).room s m args below meth c H locs 0 0 Q (F0 m 6 ls [])
def dj_X10_freeLink_0 (p : Program) (l : Launch) (e : Env) (s : State) (m : MethodId) (args : Array Value) (below : List Frame) (meth : Method) (c : Code) (Q : State → Prop) (A : Nat → Prop) (dC : Nat → ClassId) (dI : Nat → Nat → Nat) (a : Nat → Nat) (ac : Nat → ClassId) (g : Int32 → Int32 → (St) → Option (Int32 × (St))) (r : Int32 × (St)) : Prop := ∀ (v0 : Int32) (v1 : Int32) (s0 : St) (H : Heap) (locs : List Loc) (ls : Array Slot), g v0 v1 s0 = some r → va_P (dC, dI) vwCl (dw_X10 a ac s0) H → va_D A (dw_X10 a ac s0) → va_S A s.heap H locs → lv_has ls 4 [(0, .ref (a 0)), (1, .int v0), (2, .int v1)] → W p l e (headSpec ow_dm_X10_freeLink ({ frames := 1, cells := 0, slots := 0, locals := 13 })).room s m args below meth c H locs 0 0 Q (F0 m 0 ls [])
set_option maxHeartbeats 40000000 in
set_option maxRecDepth 100000 in
theorem dB_X10_freeLink_6 {p : Program} {l : Launch} {e : Env} {s : State} {m : MethodId} {args : Array Value} {below : List Frame} {meth : Method} {c : Code} {Q : State → Prop} {A : Nat → Prop} {dC : Nat → ClassId} {dI : Nat → Nat → Nat} {a : Nat → Nat} {ac : Nat → ClassId} {n : Nat} {r : Int32 × (St)} (C : nd_C p l s m args c A (dC, dI) cX10_freeLink 4 RX10 ow_dm_X10_freeLink (dk_X10 ac)) (K : nd_Ki p l e (headSpec ow_dm_X10_freeLink ({ frames := 1, cells := 0, slots := 0, locals := 13 })).room s m args below meth c Q A (dC, dI) cX10_freeLink .int (St) (dw_X10 a ac) r) {g6 : Int32 → Int32 → (St) → Option (Int32 × (St))} (J6 : dj_X10_freeLink_6 p l e s m args below meth c Q A dC dI a ac g6 r) : dj_X10_freeLink_6 p l e s m args below meth c Q A dC dI a ac (dF_X10_freeLink_6 n g6) r := by
  obtain ⟨hlt, hx, hb, hml, hown, hts, hN, hA, hK⟩ := id C
  intro x1 x3 s0 H locs ls h hP hD hS hl
  unfold dF_X10_freeLink_6 at h
  refine lv_iload_n hx hb dX10_freeLink_6 rfl (lv_at hl 2 rfl) ?_
  refine lv_bipush (v := 16) hx hb dX10_freeLink_7 (by decide) ?_
  refine lv_icmp_ge (tgt := 34) hx hb dX10_freeLink_9 (by decide) (fun c2 => ?_) (fun c2 => ?_)
  · have h := nd_pos h c2
    refine lv_iconst (v := (-1)) hx hb dX10_freeLink_34 (by decide) ?_
    exact K _ _ _ _ _ _ dX10_freeLink_35 rfl (Option.some.inj h).symm hP hD hS
  · have h := nd_neg h c2
    refine lv_aload_n hx hb dX10_freeLink_12 rfl (lv_at hl 0 rfl) ?_
    refine va_get (D := (dC, dI)) (ci := 11) (v := .ref (a 1)) (C := RX10) (T := TX10) (N := 11) hx hb hts hi_dm_X10_freeLink_X10 hown hK hP 0 rfl rfl 0 (by decide) (hts (.fieldLink RX10 11 "TimeMachine$Things" "link" "[I") (List.mem_of_getElem? (i := 5) rfl)) (fun _ h9 => h9) rfl dX10_freeLink_13 ?_
    refine lv_iload_n hx hb dX10_freeLink_16 rfl (lv_at hl 1 rfl) ?_
    refine lv_bipush (v := 16) hx hb dX10_freeLink_17 (by decide) ?_
    refine lv_imul hx hb dX10_freeLink_19 ?_
    refine lv_iload_n hx hb dX10_freeLink_20 rfl (lv_at hl 2 rfl) ?_
    refine lv_iadd hx hb dX10_freeLink_21 ?_
    obtain ⟨i3, h⟩ := nd_ck_e h
    refine va_iald (i := ((x1 * 16) + x3)) hx hb hK hP 1 0 rfl rfl i3 dX10_freeLink_22 ?_
    refine lv_if_ne (tgt := 28) hx hb dX10_freeLink_23 (by decide) (fun c4 => ?_) (fun c4 => ?_)
    · have h := nd_neg h c4
      obtain ⟨z5, ez5, h⟩ := nd_let_e h
      refine lv_iinc (v := z5) (lv' := [(3, .int z5), (0, .ref (a 0)), (1, .int x1)]) hx hb dX10_freeLink_28 hl (k := 2) rfl (by rw [ez5]) (by decide) rfl (fun ls hl => ?_)
      refine lv_goto (tgt := 6) hx hb dX10_freeLink_31 (by decide) ?_
      exact (J6) (x1) (z5) s0 _ _ _ h hP hD hS (lv_sub hl [1, 2, 0] rfl)
    · have h := nd_pos h c4
      refine lv_iload_n hx hb dX10_freeLink_26 rfl (lv_at hl 2 rfl) ?_
      exact K _ _ _ _ _ _ dX10_freeLink_27 rfl (Option.some.inj h).symm hP hD hS
set_option maxHeartbeats 40000000 in
set_option maxRecDepth 100000 in
theorem db_X10_freeLink_6 {p : Program} {l : Launch} {e : Env} {s : State} {m : MethodId} {args : Array Value} {below : List Frame} {meth : Method} {c : Code} {Q : State → Prop} {A : Nat → Prop} {dC : Nat → ClassId} {dI : Nat → Nat → Nat} {a : Nat → Nat} {ac : Nat → ClassId} {n : Nat} {r : Int32 × (St)} (C : nd_C p l s m args c A (dC, dI) cX10_freeLink 4 RX10 ow_dm_X10_freeLink (dk_X10 ac)) (K : nd_Ki p l e (headSpec ow_dm_X10_freeLink ({ frames := 1, cells := 0, slots := 0, locals := 13 })).room s m args below meth c Q A (dC, dI) cX10_freeLink .int (St) (dw_X10 a ac) r) (k : Nat) : dj_X10_freeLink_6 p l e s m args below meth c Q A dC dI a ac (df_X10_freeLink_6 n k) r := by
  induction k with
  | zero => intro x1 x3 s0 H locs ls h; exact nomatch (show (none : Option (Int32 × (St))) = some r from h)
  | succ k ih => exact dB_X10_freeLink_6 C K ih
set_option maxHeartbeats 40000000 in
set_option maxRecDepth 100000 in
theorem db_X10_freeLink_0 {p : Program} {l : Launch} {e : Env} {s : State} {m : MethodId} {args : Array Value} {below : List Frame} {meth : Method} {c : Code} {Q : State → Prop} {A : Nat → Prop} {dC : Nat → ClassId} {dI : Nat → Nat → Nat} {a : Nat → Nat} {ac : Nat → ClassId} {n : Nat} {r : Int32 × (St)} (C : nd_C p l s m args c A (dC, dI) cX10_freeLink 4 RX10 ow_dm_X10_freeLink (dk_X10 ac)) (K : nd_Ki p l e (headSpec ow_dm_X10_freeLink ({ frames := 1, cells := 0, slots := 0, locals := 13 })).room s m args below meth c Q A (dC, dI) cX10_freeLink .int (St) (dw_X10 a ac) r) : dj_X10_freeLink_0 p l e s m args below meth c Q A dC dI a ac (df_X10_freeLink_0 n) r := by
  obtain ⟨hlt, hx, hb, hml, hown, hts, hN, hA, hK⟩ := id C
  intro v0 v1 s0 H locs ls h hP hD hS hl
  unfold df_X10_freeLink_0 at h
  refine lv_iconst (v := 0) hx hb dX10_freeLink_0 (by decide) ?_
  refine lv_iload_n hx hb dX10_freeLink_1 rfl (lv_at hl 2 rfl) ?_
  refine va_mmax hx hb (by rw [hml]; exact hl.1.symm) hown (hts (.methodLink RX10 68 Lib.Math.max.name) (List.mem_of_getElem? (i := 1) rfl)) (hts (.static Lib.Math.max.name) (List.mem_of_getElem? (i := 2) rfl)) (hts (.initialized "java/lang/Math") (List.mem_of_getElem? (i := 3) rfl)) (hts (.code Lib.Math.max.name Lib.Math.max.code 2 (some .int)) (List.mem_of_getElem? (i := 4) rfl)) (Nat.le_of_ble_eq_true rfl) (Nat.le_of_ble_eq_true rfl) (by decide +kernel) (by decide +kernel) dX10_freeLink_2 ?_
  refine lv_topi (fun z1 ez1 => ?_)
  have h := nd_at h ez1
  refine lv_istore_n (lv' := [(3, .int z1), (0, .ref (a 0)), (1, .int v0), (2, .int v1)]) hx hb dX10_freeLink_5 rfl hl (by decide) rfl (fun ls hl => ?_)
  exact (db_X10_freeLink_6 C K n) (v0) (z1) s0 _ _ _ h hP hD hS (lv_sub hl [1, 2, 0] rfl)
set_option maxHeartbeats 40000000 in
set_option maxRecDepth 100000 in
theorem dm_X10_freeLink (l : Launch) (hlt : l.stackTraces = false) (dC : Nat → ClassId) (dI : Nat → Nat → Nat) (a : Nat → Nat) (ac : Nat → ClassId) (n : Nat) (v0 : Int32) (v1 : Int32) (s0 : St) {r : Int32 × (St)} (h : df_X10_freeLink n v0 v1 s0 = some r) (sz : Nat) : Met l yX10_freeLink ow_dm_X10_freeLink ({ frames := 1, cells := 0, slots := 0, locals := 13 }) (va_Pc [.ref (a 0), .int v0, .int v1] (fun U => U.heap.size = sz ∧ va_P (dC, dI) vwCl (dw_X10 a ac s0) U.heap ∧ va_K (dC, dI) vwCl (dk_X10 ac) U ∧ va_D (fun _ => True) (dw_X10 a ac s0) ∧ nv_E (va_A (dw_X10 a ac s0) sz) U)) (va_Qi (fun x _ => x = r.1) (fun (_ : Unit) t => va_P (dC, dI) vwCl (dw_X10 a ac r.2) t.heap ∧ va_K (dC, dI) vwCl (dk_X10 ac) t ∧ va_D (va_A (dw_X10 a ac s0) sz) (dw_X10 a ac r.2)) (va_A (dw_X10 a ac s0) sz)) 0 0 (va_A (dw_X10 a ac s0) sz) := by
  refine Met.ofW (cc := cX10_freeLink) (maxL := 4) (ret := (some .int)) (by decide) rfl ?_
  intro p e s m args below meth c s₁ B hml hv
  obtain ⟨rfl, hsz, hP, hK, hD0, hN⟩ := hv
  have hx := B.exec
  have hb := B.bytes
  have hr := B.returns
  have hts := atoms_spec (ws := ow_dm_X10_freeLink) B.pre
  have hown : s.vm.findClass RX10 = some m.cls := findClass_of_methodNamed B.named
  have hlocks := B.notSynchronized
  subst hsz
  have hD := hD0.self (sz := s.heap.size)
  generalize hAe : va_A (dw_X10 a ac s0) s.heap.size = A at hD hN ⊢
  have hA : ∀ q : Nat, s.heap.size ≤ q → A q := fun q h => by rw [← hAe]; exact Or.inr h
  have hl := lv_entry ([.ref (a 0), .int v0, .int v1]) (n := 4) (Nat.le_of_ble_eq_true rfl)
  rw [lg_entry_eq]
  generalize (lg_sl ([.ref (a 0), .int v0, .int v1]) ++ List.replicate (4 - (lg_sl ([.ref (a 0), .int v0, .int v1])).length) Slot.unset).toArray = ls at hl ⊢
  have hl : lv_has ls 4 [(0, .ref (a 0)), (1, .int v0), (2, .int v1)] := hl
  exact db_X10_freeLink_0 (dC := dC) (dI := dI) (a := a) (ac := ac) (n := n) (r := r) ⟨hlt, hx, hb, hml, hown, hts, hN, hA, hK⟩ (fun pc v τ H locs ls d z er hP hD hS => by subst er; exact W.zret (v := v) hx hb hr z (fun t ht hW => ⟨⟨v, (), rfl, rfl, by rw [ht]; exact hP, va_K.moved hW.alike hK, hD⟩, hS.F ht⟩) hS.2.2 d) v0 v1 s0 _ _ _ h hP hD va_S.rf (lv_sub hl [0, 1, 2] rfl)
def ow_dm_X10_openingsFree : List Cond := .code yX10_openingsFree cX10_openingsFree 3 (some .int) :: ([.methodLink RX10 74 yX10_of, .instanceMethod yX10_of, .selects RX10 yX10_of yX10_of, .initialized RX10] ++ (ow_dm_X10_of ++ []))
theorem gd_dm_X10_openingsFree : ∀ w ∈ ow_dm_X10_openingsFree, (w.onTables && w.keeps) = true ∨ ∃ ty, w = Cond.arrayClass ty := List.forall_mem_cons.mpr ⟨good_of_word rfl, List.forall_mem_append.mpr ⟨fun w h => good_of_word (List.all_eq_true.mp (by decide +kernel) w h), List.forall_mem_append.mpr ⟨gd_dm_X10_of, fun _ h => nomatch h⟩⟩⟩
theorem gi_dm_X10_openingsFree_0 : GoodIn ow_dm_X10_openingsFree (wsV RX10 74 RX10 yX10_of ow_dm_X10_of) := goodIn_app (goodIn_of _ (by decide +kernel)) (fun w h => ⟨List.mem_cons_of_mem _ (List.mem_append_right _ (List.mem_append_left _ h)), gd_dm_X10_of w h⟩)
def dj_X10_openingsFree_22 (p : Program) (l : Launch) (e : Env) (s : State) (m : MethodId) (args : Array Value) (below : List Frame) (meth : Method) (c : Code) (Q : State → Prop) (A : Nat → Prop) (dC : Nat → ClassId) (dI : Nat → Nat → Nat) (a : Nat → Nat) (ac : Nat → ClassId) (g : Int32 → Int32 → (St) → Option (Int32 × (St))) (r : Int32 × (St)) : Prop := ∀ (x1 : Int32) (x2 : Int32) (s0 : St) (H : Heap) (locs : List Loc) (ls : Array Slot), g x1 x2 s0 = some r → va_P (dC, dI) vwCl (dw_X10 a ac s0) H → va_D A (dw_X10 a ac s0) → va_S A s.heap H locs → lv_has ls 3 [(0, .ref (a 0)), (1, .int x1), (2, .int x2)] → W p l e (headSpec ow_dm_X10_openingsFree ({ frames := 1, cells := 0, slots := 0, locals := 22 })).room s m args below meth c H locs 0 0 Q (F0 m 22 ls [])
def dj_X10_openingsFree_4 (p : Program) (l : Launch) (e : Env) (s : State) (m : MethodId) (args : Array Value) (below : List Frame) (meth : Method) (c : Code) (Q : State → Prop) (A : Nat → Prop) (dC : Nat → ClassId) (dI : Nat → Nat → Nat) (a : Nat → Nat) (ac : Nat → ClassId) (g : Int32 → Int32 → (St) → Option (Int32 × (St))) (r : Int32 × (St)) : Prop := ∀ (x1 : Int32) (x2 : Int32) (s0 : St) (H : Heap) (locs : List Loc) (ls : Array Slot), g x1 x2 s0 = some r → va_P (dC, dI) vwCl (dw_X10 a ac s0) H → va_D A (dw_X10 a ac s0) → va_S A s.heap H locs → lv_has ls 3 [(0, .ref (a 0)), (1, .int x1), (2, .int x2)] → W p l e (headSpec ow_dm_X10_openingsFree ({ frames := 1, cells := 0, slots := 0, locals := 22 })).room s m args below meth c H locs 0 0 Q (F0 m 4 ls [])
def dj_X10_openingsFree_0 (p : Program) (l : Launch) (e : Env) (s : State) (m : MethodId) (args : Array Value) (below : List Frame) (meth : Method) (c : Code) (Q : State → Prop) (A : Nat → Prop) (dC : Nat → ClassId) (dI : Nat → Nat → Nat) (a : Nat → Nat) (ac : Nat → ClassId) (g : (St) → Option (Int32 × (St))) (r : Int32 × (St)) : Prop := ∀ (s0 : St) (H : Heap) (locs : List Loc) (ls : Array Slot), g s0 = some r → va_P (dC, dI) vwCl (dw_X10 a ac s0) H → va_D A (dw_X10 a ac s0) → va_S A s.heap H locs → lv_has ls 3 [(0, .ref (a 0))] → W p l e (headSpec ow_dm_X10_openingsFree ({ frames := 1, cells := 0, slots := 0, locals := 22 })).room s m args below meth c H locs 0 0 Q (F0 m 0 ls [])
set_option maxHeartbeats 40000000 in
set_option maxRecDepth 100000 in
theorem db_X10_openingsFree_22 {p : Program} {l : Launch} {e : Env} {s : State} {m : MethodId} {args : Array Value} {below : List Frame} {meth : Method} {c : Code} {Q : State → Prop} {A : Nat → Prop} {dC : Nat → ClassId} {dI : Nat → Nat → Nat} {a : Nat → Nat} {ac : Nat → ClassId} {n : Nat} {r : Int32 × (St)} (C : nd_C p l s m args c A (dC, dI) cX10_openingsFree 3 RX10 ow_dm_X10_openingsFree (dk_X10 ac)) (K : nd_Ki p l e (headSpec ow_dm_X10_openingsFree ({ frames := 1, cells := 0, slots := 0, locals := 22 })).room s m args below meth c Q A (dC, dI) cX10_openingsFree .int (St) (dw_X10 a ac) r) {g4 : Int32 → Int32 → (St) → Option (Int32 × (St))} (J4 : dj_X10_openingsFree_4 p l e s m args below meth c Q A dC dI a ac g4 r) : dj_X10_openingsFree_22 p l e s m args below meth c Q A dC dI a ac (df_X10_openingsFree_22 n g4) r := by
  obtain ⟨hlt, hx, hb, hml, hown, hts, hN, hA, hK⟩ := id C
  intro x1 x2 s0 H locs ls h hP hD hS hl
  unfold df_X10_openingsFree_22 at h
  obtain ⟨z6, ez6, h⟩ := nd_let_e h
  refine lv_iinc (v := z6) (lv' := [(2, .int z6), (0, .ref (a 0)), (1, .int x1)]) hx hb dX10_openingsFree_22 hl (k := 2) rfl (by rw [ez6]) (by decide) rfl (fun ls hl => ?_)
  refine lv_goto (tgt := 4) hx hb dX10_openingsFree_25 (by decide) ?_
  exact (J4) (x1) (z6) s0 _ _ _ h hP hD hS (lv_sub hl [1, 2, 0] rfl)
set_option maxHeartbeats 40000000 in
set_option maxRecDepth 100000 in
theorem dB_X10_openingsFree_4 {p : Program} {l : Launch} {e : Env} {s : State} {m : MethodId} {args : Array Value} {below : List Frame} {meth : Method} {c : Code} {Q : State → Prop} {A : Nat → Prop} {dC : Nat → ClassId} {dI : Nat → Nat → Nat} {a : Nat → Nat} {ac : Nat → ClassId} {n : Nat} {r : Int32 × (St)} (C : nd_C p l s m args c A (dC, dI) cX10_openingsFree 3 RX10 ow_dm_X10_openingsFree (dk_X10 ac)) (K : nd_Ki p l e (headSpec ow_dm_X10_openingsFree ({ frames := 1, cells := 0, slots := 0, locals := 22 })).room s m args below meth c Q A (dC, dI) cX10_openingsFree .int (St) (dw_X10 a ac) r) {g4 : Int32 → Int32 → (St) → Option (Int32 × (St))} (J4 : dj_X10_openingsFree_4 p l e s m args below meth c Q A dC dI a ac g4 r) : dj_X10_openingsFree_4 p l e s m args below meth c Q A dC dI a ac (dF_X10_openingsFree_4 n g4) r := by
  obtain ⟨hlt, hx, hb, hml, hown, hts, hN, hA, hK⟩ := id C
  intro x1 x2 s0 H locs ls h hP hD hS hl
  unfold dF_X10_openingsFree_4 at h
  refine lv_iload_n hx hb dX10_openingsFree_4 rfl (lv_at hl 2 rfl) ?_
  refine lv_bipush (v := 48) hx hb dX10_openingsFree_5 (by decide) ?_
  refine lv_icmp_ge (tgt := 28) hx hb dX10_openingsFree_7 (by decide) (fun c1 => ?_) (fun c1 => ?_)
  · have h := nd_pos h c1
    refine lv_iload_n hx hb dX10_openingsFree_28 rfl (lv_at hl 1 rfl) ?_
    exact K _ _ _ _ _ _ dX10_openingsFree_29 rfl (Option.some.inj h).symm hP hD hS
  · have h := nd_neg h c1
    refine lv_aload_n hx hb dX10_openingsFree_10 rfl (lv_at hl 0 rfl) ?_
    refine lv_iload_n hx hb dX10_openingsFree_11 rfl (lv_at hl 2 rfl) ?_
    refine lv_iconst (v := 0) hx hb dX10_openingsFree_12 (by decide) ?_
    obtain ⟨q2, s3, hq, h⟩ := nd_b2_e h
    have hPc := hP
    have hDc := hD
    have hKc := hK
    have hFc := nd_rs hD hS hA
    refine nd_cVi (As := [.int x2, .int 0]) (rest := []) (q := q2) (w' := dw_X10 a ac s3) ⟨hx, hb, hml, hown, hts⟩ (fun sz => dm_X10_of l hlt dC dI a ac n (x2) (0) s0 hq sz) (cwV 2 hts gi_dm_X10_openingsFree_0 rfl rfl rfl (by decide +kernel) ⟨Nat.le_of_ble_eq_true rfl, Nat.le_of_ble_eq_true rfl⟩) hPc hDc hKc hS hA hN (va_recv hKc hPc (ci := 11) (q0 := 0) rfl rfl) rfl hl.1 rfl (Nat.le_of_ble_eq_true rfl) dX10_openingsFree_13 (fun H locs hP1 hD1 hk1 hS => ?_)
    have hP := hP1
    have hD := hD1.weaken (fun k q _ h => hFc q.1 h)
    refine lv_if_ne (tgt := 22) hx hb dX10_openingsFree_16 (by decide) (fun c5 => ?_) (fun c5 => ?_)
    · have h := nd_neg h c5
      exact (db_X10_openingsFree_22 C K J4) (x1) (x2) s3 _ _ _ h hP hD hS (lv_sub hl [0, 1, 2] rfl)
    · have h := nd_pos h c5
      obtain ⟨z7, ez7, h⟩ := nd_let_e h
      refine lv_iinc (v := z7) (lv' := [(1, .int z7), (0, .ref (a 0)), (2, .int x2)]) hx hb dX10_openingsFree_19 hl (k := 1) rfl (by rw [ez7]) (by decide) rfl (fun ls hl => ?_)
      exact (db_X10_openingsFree_22 C K J4) (z7) (x2) s3 _ _ _ h hP hD hS (lv_sub hl [1, 0, 2] rfl)
set_option maxHeartbeats 40000000 in
set_option maxRecDepth 100000 in
theorem db_X10_openingsFree_4 {p : Program} {l : Launch} {e : Env} {s : State} {m : MethodId} {args : Array Value} {below : List Frame} {meth : Method} {c : Code} {Q : State → Prop} {A : Nat → Prop} {dC : Nat → ClassId} {dI : Nat → Nat → Nat} {a : Nat → Nat} {ac : Nat → ClassId} {n : Nat} {r : Int32 × (St)} (C : nd_C p l s m args c A (dC, dI) cX10_openingsFree 3 RX10 ow_dm_X10_openingsFree (dk_X10 ac)) (K : nd_Ki p l e (headSpec ow_dm_X10_openingsFree ({ frames := 1, cells := 0, slots := 0, locals := 22 })).room s m args below meth c Q A (dC, dI) cX10_openingsFree .int (St) (dw_X10 a ac) r) (k : Nat) : dj_X10_openingsFree_4 p l e s m args below meth c Q A dC dI a ac (df_X10_openingsFree_4 n k) r := by
  induction k with
  | zero => intro x1 x2 s0 H locs ls h; exact nomatch (show (none : Option (Int32 × (St))) = some r from h)
  | succ k ih => exact dB_X10_openingsFree_4 C K ih
set_option maxHeartbeats 40000000 in
set_option maxRecDepth 100000 in
theorem db_X10_openingsFree_0 {p : Program} {l : Launch} {e : Env} {s : State} {m : MethodId} {args : Array Value} {below : List Frame} {meth : Method} {c : Code} {Q : State → Prop} {A : Nat → Prop} {dC : Nat → ClassId} {dI : Nat → Nat → Nat} {a : Nat → Nat} {ac : Nat → ClassId} {n : Nat} {r : Int32 × (St)} (C : nd_C p l s m args c A (dC, dI) cX10_openingsFree 3 RX10 ow_dm_X10_openingsFree (dk_X10 ac)) (K : nd_Ki p l e (headSpec ow_dm_X10_openingsFree ({ frames := 1, cells := 0, slots := 0, locals := 22 })).room s m args below meth c Q A (dC, dI) cX10_openingsFree .int (St) (dw_X10 a ac) r) : dj_X10_openingsFree_0 p l e s m args below meth c Q A dC dI a ac (df_X10_openingsFree_0 n) r := by
  obtain ⟨hlt, hx, hb, hml, hown, hts, hN, hA, hK⟩ := id C
  intro s0 H locs ls h hP hD hS hl
  unfold df_X10_openingsFree_0 at h
  refine lv_iconst (v := 0) hx hb dX10_openingsFree_0 (by decide) ?_
  refine lv_istore_n (lv' := [(1, .int 0), (0, .ref (a 0))]) hx hb dX10_openingsFree_1 rfl hl (by decide) rfl (fun ls hl => ?_)
  refine lv_iconst (v := 0) hx hb dX10_openingsFree_2 (by decide) ?_
  refine lv_istore_n (lv' := [(2, .int 0), (1, .int 0), (0, .ref (a 0))]) hx hb dX10_openingsFree_3 rfl hl (by decide) rfl (fun ls hl => ?_)
  exact (db_X10_openingsFree_4 C K n) (0) (0) s0 _ _ _ h hP hD hS (lv_sub hl [2, 1, 0] rfl)
set_option maxHeartbeats 40000000 in
set_option maxRecDepth 100000 in
theorem dm_X10_openingsFree (l : Launch) (hlt : l.stackTraces = false) (dC : Nat → ClassId) (dI : Nat → Nat → Nat) (a : Nat → Nat) (ac : Nat → ClassId) (n : Nat) (s0 : St) {r : Int32 × (St)} (h : df_X10_openingsFree n s0 = some r) (sz : Nat) : Met l yX10_openingsFree ow_dm_X10_openingsFree ({ frames := 1, cells := 0, slots := 0, locals := 22 }) (va_Pc [.ref (a 0)] (fun U => U.heap.size = sz ∧ va_P (dC, dI) vwCl (dw_X10 a ac s0) U.heap ∧ va_K (dC, dI) vwCl (dk_X10 ac) U ∧ va_D (fun _ => True) (dw_X10 a ac s0) ∧ nv_E (va_A (dw_X10 a ac s0) sz) U)) (va_Qi (fun x _ => x = r.1) (fun (_ : Unit) t => va_P (dC, dI) vwCl (dw_X10 a ac r.2) t.heap ∧ va_K (dC, dI) vwCl (dk_X10 ac) t ∧ va_D (va_A (dw_X10 a ac s0) sz) (dw_X10 a ac r.2)) (va_A (dw_X10 a ac s0) sz)) 0 0 (va_A (dw_X10 a ac s0) sz) := by
  refine Met.ofW (cc := cX10_openingsFree) (maxL := 3) (ret := (some .int)) (by decide) rfl ?_
  intro p e s m args below meth c s₁ B hml hv
  obtain ⟨rfl, hsz, hP, hK, hD0, hN⟩ := hv
  have hx := B.exec
  have hb := B.bytes
  have hr := B.returns
  have hts := atoms_spec (ws := ow_dm_X10_openingsFree) B.pre
  have hown : s.vm.findClass RX10 = some m.cls := findClass_of_methodNamed B.named
  have hlocks := B.notSynchronized
  subst hsz
  have hD := hD0.self (sz := s.heap.size)
  generalize hAe : va_A (dw_X10 a ac s0) s.heap.size = A at hD hN ⊢
  have hA : ∀ q : Nat, s.heap.size ≤ q → A q := fun q h => by rw [← hAe]; exact Or.inr h
  have hl := lv_entry ([.ref (a 0)]) (n := 3) (Nat.le_of_ble_eq_true rfl)
  rw [lg_entry_eq]
  generalize (lg_sl ([.ref (a 0)]) ++ List.replicate (3 - (lg_sl ([.ref (a 0)])).length) Slot.unset).toArray = ls at hl ⊢
  have hl : lv_has ls 3 [(0, .ref (a 0))] := hl
  exact db_X10_openingsFree_0 (dC := dC) (dI := dI) (a := a) (ac := ac) (n := n) (r := r) ⟨hlt, hx, hb, hml, hown, hts, hN, hA, hK⟩ (fun pc v τ H locs ls d z er hP hD hS => by subst er; exact W.zret (v := v) hx hb hr z (fun t ht hW => ⟨⟨v, (), rfl, rfl, by rw [ht]; exact hP, va_K.moved hW.alike hK, hD⟩, hS.F ht⟩) hS.2.2 d) s0 _ _ _ h hP hD va_S.rf (lv_sub hl [0] rfl)
def ow_dm_X10_close : List Cond := .code yX10_close cX10_close 4 none :: ([.methodLink RX10 80 yX10_openingOf, .instanceMethod yX10_openingOf, .selects RX10 yX10_openingOf yX10_openingOf, .initialized RX10, .fieldLink RX10 11 "TimeMachine$Things" "link" "[I", .fieldLink RX10 15 "TimeMachine$Things" "opening" "[I", .methodLink RX10 74 yX10_of, .instanceMethod yX10_of, .selects RX10 yX10_of yX10_of, .methodLink RX10 77 yX10_hold, .instanceMethod yX10_hold, .selects RX10 yX10_hold yX10_hold] ++ (u_ws RX10 TX10 11 ++ (ow_dm_X10_openingOf ++ (ow_dm_X10_of ++ (ow_dm_X10_hold ++ [])))))
theorem gd_dm_X10_close : ∀ w ∈ ow_dm_X10_close, (w.onTables && w.keeps) = true ∨ ∃ ty, w = Cond.arrayClass ty := List.forall_mem_cons.mpr ⟨good_of_word rfl, List.forall_mem_append.mpr ⟨fun w h => good_of_word (List.all_eq_true.mp (by decide +kernel) w h), List.forall_mem_append.mpr ⟨gu_X10, List.forall_mem_append.mpr ⟨gd_dm_X10_openingOf, List.forall_mem_append.mpr ⟨gd_dm_X10_of, List.forall_mem_append.mpr ⟨gd_dm_X10_hold, fun _ h => nomatch h⟩⟩⟩⟩⟩⟩
theorem hi_dm_X10_close_X10 : ∀ w ∈ u_ws RX10 TX10 11, w ∈ ow_dm_X10_close := fun w h => List.mem_cons_of_mem _ (List.mem_append_right _ (List.mem_append_left _ h))
theorem gi_dm_X10_close_0 : GoodIn ow_dm_X10_close (wsV RX10 80 RX10 yX10_openingOf ow_dm_X10_openingOf) := goodIn_app (goodIn_of _ (by decide +kernel)) (fun w h => ⟨List.mem_cons_of_mem _ (List.mem_append_right _ (List.mem_append_right _ (List.mem_append_left _ h))), gd_dm_X10_openingOf w h⟩)
theorem gi_dm_X10_close_1 : GoodIn ow_dm_X10_close (wsV RX10 74 RX10 yX10_of ow_dm_X10_of) := goodIn_app (goodIn_of _ (by decide +kernel)) (fun w h => ⟨List.mem_cons_of_mem _ (List.mem_append_right _ (List.mem_append_right _ (List.mem_append_right _ (List.mem_append_left _ h)))), gd_dm_X10_of w h⟩)
theorem gi_dm_X10_close_2 : GoodIn ow_dm_X10_close (wsV RX10 77 RX10 yX10_hold ow_dm_X10_hold) := goodIn_app (goodIn_of _ (by decide +kernel)) (fun w h => ⟨List.mem_cons_of_mem _ (List.mem_append_right _ (List.mem_append_right _ (List.mem_append_right _ (List.mem_append_right _ (List.mem_append_left _ h))))), gd_dm_X10_hold w h⟩)
def dj_X10_close_74 (p : Program) (l : Launch) (e : Env) (s : State) (m : MethodId) (args : Array Value) (below : List Frame) (meth : Method) (c : Code) (Q : State → Prop) (A : Nat → Prop) (dC : Nat → ClassId) (dI : Nat → Nat → Nat) (a : Nat → Nat) (ac : Nat → ClassId) (g : (St) → Option (St)) (r : St) : Prop := ∀ (s0 : St) (H : Heap) (locs : List Loc) (ls : Array Slot), g s0 = some r → va_P (dC, dI) vwCl (dw_X10 a ac s0) H → va_D A (dw_X10 a ac s0) → va_S A s.heap H locs → lv_has ls 4 [] → W p l e (headSpec ow_dm_X10_close ({ frames := 1, cells := 0, slots := 0, locals := 23 })).room s m args below meth c H locs 0 0 Q (F0 m 74 ls [])
def dj_X10_close_0 (p : Program) (l : Launch) (e : Env) (s : State) (m : MethodId) (args : Array Value) (below : List Frame) (meth : Method) (c : Code) (Q : State → Prop) (A : Nat → Prop) (dC : Nat → ClassId) (dI : Nat → Nat → Nat) (a : Nat → Nat) (ac : Nat → ClassId) (g : Int32 → Int32 → (St) → Option (St)) (r : St) : Prop := ∀ (v0 : Int32) (v1 : Int32) (s0 : St) (H : Heap) (locs : List Loc) (ls : Array Slot), g v0 v1 s0 = some r → va_P (dC, dI) vwCl (dw_X10 a ac s0) H → va_D A (dw_X10 a ac s0) → va_S A s.heap H locs → lv_has ls 4 [(0, .ref (a 0)), (1, .int v0), (2, .int v1)] → W p l e (headSpec ow_dm_X10_close ({ frames := 1, cells := 0, slots := 0, locals := 23 })).room s m args below meth c H locs 0 0 Q (F0 m 0 ls [])
set_option maxHeartbeats 40000000 in
set_option maxRecDepth 100000 in
theorem db_X10_close_74 {p : Program} {l : Launch} {e : Env} {s : State} {m : MethodId} {args : Array Value} {below : List Frame} {meth : Method} {c : Code} {Q : State → Prop} {A : Nat → Prop} {dC : Nat → ClassId} {dI : Nat → Nat → Nat} {a : Nat → Nat} {ac : Nat → ClassId} {n : Nat} {r : St} (C : nd_C p l s m args c A (dC, dI) cX10_close 4 RX10 ow_dm_X10_close (dk_X10 ac)) (K : nd_Kv p l e (headSpec ow_dm_X10_close ({ frames := 1, cells := 0, slots := 0, locals := 23 })).room s m args below meth c Q A (dC, dI) cX10_close (St) (dw_X10 a ac) r) : dj_X10_close_74 p l e s m args below meth c Q A dC dI a ac (df_X10_close_74 n) r := by
  obtain ⟨hlt, hx, hb, hml, hown, hts, hN, hA, hK⟩ := id C
  intro s0 H locs ls h hP hD hS hl
  unfold df_X10_close_74 at h
  exact K _ _ _ _ _ dX10_close_74 (Option.some.inj h).symm hP hD hS
set_option maxHeartbeats 40000000 in
set_option maxRecDepth 100000 in
theorem db_X10_close_0 {p : Program} {l : Launch} {e : Env} {s : State} {m : MethodId} {args : Array Value} {below : List Frame} {meth : Method} {c : Code} {Q : State → Prop} {A : Nat → Prop} {dC : Nat → ClassId} {dI : Nat → Nat → Nat} {a : Nat → Nat} {ac : Nat → ClassId} {n : Nat} {r : St} (C : nd_C p l s m args c A (dC, dI) cX10_close 4 RX10 ow_dm_X10_close (dk_X10 ac)) (K : nd_Kv p l e (headSpec ow_dm_X10_close ({ frames := 1, cells := 0, slots := 0, locals := 23 })).room s m args below meth c Q A (dC, dI) cX10_close (St) (dw_X10 a ac) r) : dj_X10_close_0 p l e s m args below meth c Q A dC dI a ac (df_X10_close_0 n) r := by
  obtain ⟨hlt, hx, hb, hml, hown, hts, hN, hA, hK⟩ := id C
  intro v0 v1 s0 H locs ls h hP hD hS hl
  unfold df_X10_close_0 at h
  refine lv_aload_n hx hb dX10_close_0 rfl (lv_at hl 0 rfl) ?_
  refine lv_iload_n hx hb dX10_close_1 rfl (lv_at hl 1 rfl) ?_
  refine lv_iload_n hx hb dX10_close_2 rfl (lv_at hl 2 rfl) ?_
  obtain ⟨q1, s2, hq, h⟩ := nd_b2_e h
  have hPc := hP
  have hDc := hD
  have hKc := hK
  have hFc := nd_rs hD hS hA
  refine nd_cVi (As := [.int v0, .int v1]) (rest := []) (q := q1) (w' := dw_X10 a ac s2) ⟨hx, hb, hml, hown, hts⟩ (fun sz => dm_X10_openingOf l hlt dC dI a ac n (v0) (v1) s0 hq sz) (cwV 2 hts gi_dm_X10_close_0 rfl rfl rfl (by decide +kernel) ⟨Nat.le_of_ble_eq_true rfl, Nat.le_of_ble_eq_true rfl⟩) hPc hDc hKc hS hA hN (va_recv hKc hPc (ci := 11) (q0 := 0) rfl rfl) rfl hl.1 rfl (Nat.le_of_ble_eq_true rfl) dX10_close_3 (fun H locs hP1 hD1 hk1 hS => ?_)
  have hP := hP1
  have hD := hD1.weaken (fun k q _ h => hFc q.1 h)
  refine lv_istore_n (lv' := [(3, .int q1), (0, .ref (a 0)), (1, .int v0), (2, .int v1)]) hx hb dX10_close_6 rfl hl (by decide) rfl (fun ls hl => ?_)
  refine lv_iload_n hx hb dX10_close_7 rfl (lv_at hl 0 rfl) ?_
  refine lv_if_lt (tgt := 74) hx hb dX10_close_8 (by decide) (fun c4 => ?_) (fun c4 => ?_)
  · have h := nd_pos h c4
    exact (db_X10_close_74 C K)  s2 _ _ _ h hP hD hS (lv_sub hl [] rfl)
  · have h := nd_neg h c4
    refine lv_aload_n hx hb dX10_close_11 rfl (lv_at hl 1 rfl) ?_
    refine va_get (D := (dC, dI)) (ci := 11) (v := .ref (a 1)) (C := RX10) (T := TX10) (N := 11) hx hb hts hi_dm_X10_close_X10 hown hK hP 0 rfl rfl 0 (by decide) (hts (.fieldLink RX10 11 "TimeMachine$Things" "link" "[I") (List.mem_of_getElem? (i := 5) rfl)) (fun _ h9 => h9) rfl dX10_close_12 ?_
    refine lv_iload_n hx hb dX10_close_15 rfl (lv_at hl 2 rfl) ?_
    refine lv_bipush (v := 16) hx hb dX10_close_16 (by decide) ?_
    refine lv_imul hx hb dX10_close_18 ?_
    refine lv_iload_n hx hb dX10_close_19 rfl (lv_at hl 3 rfl) ?_
    refine lv_iadd hx hb dX10_close_20 ?_
    refine lv_iconst (v := 0) hx hb dX10_close_21 (by decide) ?_
    obtain ⟨i5, h⟩ := nd_ck_e h
    refine va_iast (i := ((v0 * 16) + v1)) (x := 0) hx hb hK hP hD hS 1 0 rfl rfl i5 dX10_close_22 (fun H locs hP hD hS => ?_)
    obtain ⟨s6, es6, h⟩ := nd_let_e h
    have hP : va_P (dC, dI) vwCl (dw_X10 a ac s6) H := by rw [es6]; exact hP
    have hD : va_D A (dw_X10 a ac s6) := by rw [es6]; exact hD
    refine lv_aload_n hx hb dX10_close_23 rfl (lv_at hl 1 rfl) ?_
    refine va_get (D := (dC, dI)) (ci := 11) (v := .ref (a 2)) (C := RX10) (T := TX10) (N := 11) hx hb hts hi_dm_X10_close_X10 hown hK hP 0 rfl rfl 1 (by decide) (hts (.fieldLink RX10 15 "TimeMachine$Things" "opening" "[I") (List.mem_of_getElem? (i := 6) rfl)) (fun _ h9 => h9) rfl dX10_close_24 ?_
    refine lv_iload_n hx hb dX10_close_27 rfl (lv_at hl 0 rfl) ?_
    refine lv_iconst (v := 5) hx hb dX10_close_28 (by decide) ?_
    refine lv_imul hx hb dX10_close_29 ?_
    refine lv_iconst (v := 1) hx hb dX10_close_30 (by decide) ?_
    refine lv_iadd hx hb dX10_close_31 ?_
    refine lv_dup2_11 hx hb dX10_close_32 rfl rfl ?_
    obtain ⟨i7, h⟩ := nd_ck_e h
    refine va_iald (i := ((q1 * 5) + 1)) hx hb hK hP 2 1 rfl rfl i7 dX10_close_33 ?_
    refine lv_iconst (v := 1) hx hb dX10_close_34 (by decide) ?_
    refine lv_isub hx hb dX10_close_35 ?_
    obtain ⟨i8, h⟩ := nd_ck_e h
    refine va_iast (i := ((q1 * 5) + 1)) (x := ((sR s6 1 (Int32.toNatClampNeg ((q1 * 5) + 1))) - 1)) hx hb hK hP hD hS 2 1 rfl rfl i8 dX10_close_36 (fun H locs hP hD hS => ?_)
    obtain ⟨s9, es9, h⟩ := nd_let_e h
    have hP : va_P (dC, dI) vwCl (dw_X10 a ac s9) H := by rw [es9]; exact hP
    have hD : va_D A (dw_X10 a ac s9) := by rw [es9]; exact hD
    refine lv_aload_n hx hb dX10_close_37 rfl (lv_at hl 1 rfl) ?_
    refine lv_iload_n hx hb dX10_close_38 rfl (lv_at hl 0 rfl) ?_
    refine lv_iconst (v := 1) hx hb dX10_close_39 (by decide) ?_
    obtain ⟨q10, s11, hq, h⟩ := nd_b2_e h
    have hPc := hP
    have hDc := hD
    have hKc := hK
    have hFc := nd_rs hD hS hA
    refine nd_cVi (As := [.int q1, .int 1]) (rest := []) (q := q10) (w' := dw_X10 a ac s11) ⟨hx, hb, hml, hown, hts⟩ (fun sz => dm_X10_of l hlt dC dI a ac n (q1) (1) s9 hq sz) (cwV 2 hts gi_dm_X10_close_1 rfl rfl rfl (by decide +kernel) ⟨Nat.le_of_ble_eq_true rfl, Nat.le_of_ble_eq_true rfl⟩) hPc hDc hKc hS hA hN (va_recv hKc hPc (ci := 11) (q0 := 0) rfl rfl) rfl hl.1 rfl (Nat.le_of_ble_eq_true rfl) dX10_close_40 (fun H locs hP1 hD1 hk1 hS => ?_)
    have hP := hP1
    have hD := hD1.weaken (fun k q _ h => hFc q.1 h)
    refine lv_if_ne (tgt := 74) hx hb dX10_close_43 (by decide) (fun c13 => ?_) (fun c13 => ?_)
    · have h := nd_neg h c13
      exact (db_X10_close_74 C K)  s11 _ _ _ h hP hD hS (lv_sub hl [] rfl)
    · have h := nd_pos h c13
      refine lv_aload_n hx hb dX10_close_46 rfl (lv_at hl 1 rfl) ?_
      refine lv_aload_n hx hb dX10_close_47 rfl (lv_at hl 1 rfl) ?_
      refine lv_iload_n hx hb dX10_close_48 rfl (lv_at hl 0 rfl) ?_
      refine lv_iconst (v := 0) hx hb dX10_close_49 (by decide) ?_
      obtain ⟨q14, s15, hq, h⟩ := nd_b2_e h
      have hPc := hP
      have hDc := hD
      have hKc := hK
      have hFc := nd_rs hD hS hA
      refine nd_cVi (As := [.int q1, .int 0]) (rest := [.ref (a 0)]) (q := q14) (w' := dw_X10 a ac s15) ⟨hx, hb, hml, hown, hts⟩ (fun sz => dm_X10_of l hlt dC dI a ac n (q1) (0) s11 hq sz) (cwV 2 hts gi_dm_X10_close_1 rfl rfl rfl (by decide +kernel) ⟨Nat.le_of_ble_eq_true rfl, Nat.le_of_ble_eq_true rfl⟩) hPc hDc hKc hS hA hN (va_recv hKc hPc (ci := 11) (q0 := 0) rfl rfl) rfl hl.1 rfl (Nat.le_of_ble_eq_true rfl) dX10_close_50 (fun H locs hP1 hD1 hk1 hS => ?_)
      have hP := hP1
      have hD := hD1.weaken (fun k q _ h => hFc q.1 h)
      refine lv_aload_n hx hb dX10_close_53 rfl (lv_at hl 1 rfl) ?_
      refine lv_iload_n hx hb dX10_close_54 rfl (lv_at hl 0 rfl) ?_
      refine lv_iconst (v := 2) hx hb dX10_close_55 (by decide) ?_
      obtain ⟨q17, s18, hq, h⟩ := nd_b2_e h
      have hPc := hP
      have hDc := hD
      have hKc := hK
      have hFc := nd_rs hD hS hA
      refine nd_cVi (As := [.int q1, .int 2]) (rest := [.int q14, .ref (a 0)]) (q := q17) (w' := dw_X10 a ac s18) ⟨hx, hb, hml, hown, hts⟩ (fun sz => dm_X10_of l hlt dC dI a ac n (q1) (2) s15 hq sz) (cwV 2 hts gi_dm_X10_close_1 rfl rfl rfl (by decide +kernel) ⟨Nat.le_of_ble_eq_true rfl, Nat.le_of_ble_eq_true rfl⟩) hPc hDc hKc hS hA hN (va_recv hKc hPc (ci := 11) (q0 := 0) rfl rfl) rfl hl.1 rfl (Nat.le_of_ble_eq_true rfl) dX10_close_56 (fun H locs hP1 hD1 hk1 hS => ?_)
      have hP := hP1
      have hD := hD1.weaken (fun k q _ h => hFc q.1 h)
      refine lv_iconst (v := (-1)) hx hb dX10_close_59 (by decide) ?_
      obtain ⟨s21, hq, h⟩ := nd_b1_e h
      have hPc := hP
      have hDc := hD
      have hKc := hK
      have hFc := nd_rs hD hS hA
      refine nd_cVv (As := [.int q14, .int q17, .int (-1)]) (rest := []) (w' := dw_X10 a ac s21) ⟨hx, hb, hml, hown, hts⟩ (fun sz => dm_X10_hold l hlt dC dI a ac n (q14) (q17) ((-1)) s18 hq sz) (cwV 3 hts gi_dm_X10_close_2 rfl rfl rfl (by decide +kernel) ⟨Nat.le_of_ble_eq_true rfl, Nat.le_of_ble_eq_true rfl⟩) hPc hDc hKc hS hA hN (va_recv hKc hPc (ci := 11) (q0 := 0) rfl rfl) rfl hl.1 rfl (Nat.le_of_ble_eq_true rfl) dX10_close_60 (fun H locs hP1 hD1 hk1 hS => ?_)
      have hP := hP1
      have hD := hD1.weaken (fun k q _ h => hFc q.1 h)
      refine lv_aload_n hx hb dX10_close_63 rfl (lv_at hl 1 rfl) ?_
      refine va_get (D := (dC, dI)) (ci := 11) (v := .ref (a 2)) (C := RX10) (T := TX10) (N := 11) hx hb hts hi_dm_X10_close_X10 hown hK hP 0 rfl rfl 1 (by decide) (hts (.fieldLink RX10 15 "TimeMachine$Things" "opening" "[I") (List.mem_of_getElem? (i := 6) rfl)) (fun _ h9 => h9) rfl dX10_close_64 ?_
      refine lv_iload_n hx hb dX10_close_67 rfl (lv_at hl 0 rfl) ?_
      refine lv_iconst (v := 5) hx hb dX10_close_68 (by decide) ?_
      refine lv_imul hx hb dX10_close_69 ?_
      refine lv_iconst (v := 0) hx hb dX10_close_70 (by decide) ?_
      refine lv_iadd hx hb dX10_close_71 ?_
      refine lv_iconst (v := 0) hx hb dX10_close_72 (by decide) ?_
      obtain ⟨i23, h⟩ := nd_ck_e h
      refine va_iast (i := ((q1 * 5) + 0)) (x := 0) hx hb hK hP hD hS 2 1 rfl rfl i23 dX10_close_73 (fun H locs hP hD hS => ?_)
      obtain ⟨s24, es24, h⟩ := nd_let_e h
      have hP : va_P (dC, dI) vwCl (dw_X10 a ac s24) H := by rw [es24]; exact hP
      have hD : va_D A (dw_X10 a ac s24) := by rw [es24]; exact hD
      exact (db_X10_close_74 C K)  s24 _ _ _ h hP hD hS (lv_sub hl [] rfl)
set_option maxHeartbeats 40000000 in
set_option maxRecDepth 100000 in
theorem dm_X10_close (l : Launch) (hlt : l.stackTraces = false) (dC : Nat → ClassId) (dI : Nat → Nat → Nat) (a : Nat → Nat) (ac : Nat → ClassId) (n : Nat) (v0 : Int32) (v1 : Int32) (s0 : St) {r : St} (h : df_X10_close n v0 v1 s0 = some r) (sz : Nat) : Met l yX10_close ow_dm_X10_close ({ frames := 1, cells := 0, slots := 0, locals := 23 }) (va_Pc [.ref (a 0), .int v0, .int v1] (fun U => U.heap.size = sz ∧ va_P (dC, dI) vwCl (dw_X10 a ac s0) U.heap ∧ va_K (dC, dI) vwCl (dk_X10 ac) U ∧ va_D (fun _ => True) (dw_X10 a ac s0) ∧ nv_E (va_A (dw_X10 a ac s0) sz) U)) (va_Qv (fun _ => True) (fun (_ : Unit) t => va_P (dC, dI) vwCl (dw_X10 a ac r) t.heap ∧ va_K (dC, dI) vwCl (dk_X10 ac) t ∧ va_D (va_A (dw_X10 a ac s0) sz) (dw_X10 a ac r)) (va_A (dw_X10 a ac s0) sz)) 0 0 (va_A (dw_X10 a ac s0) sz) := by
  refine Met.ofW (cc := cX10_close) (maxL := 4) (ret := none) (by decide) rfl ?_
  intro p e s m args below meth c s₁ B hml hv
  obtain ⟨rfl, hsz, hP, hK, hD0, hN⟩ := hv
  have hx := B.exec
  have hb := B.bytes
  have hr := B.returns
  have hts := atoms_spec (ws := ow_dm_X10_close) B.pre
  have hown : s.vm.findClass RX10 = some m.cls := findClass_of_methodNamed B.named
  have hlocks := B.notSynchronized
  subst hsz
  have hD := hD0.self (sz := s.heap.size)
  generalize hAe : va_A (dw_X10 a ac s0) s.heap.size = A at hD hN ⊢
  have hA : ∀ q : Nat, s.heap.size ≤ q → A q := fun q h => by rw [← hAe]; exact Or.inr h
  have hl := lv_entry ([.ref (a 0), .int v0, .int v1]) (n := 4) (Nat.le_of_ble_eq_true rfl)
  rw [lg_entry_eq]
  generalize (lg_sl ([.ref (a 0), .int v0, .int v1]) ++ List.replicate (4 - (lg_sl ([.ref (a 0), .int v0, .int v1])).length) Slot.unset).toArray = ls at hl ⊢
  have hl : lv_has ls 4 [(0, .ref (a 0)), (1, .int v0), (2, .int v1)] := hl
  exact db_X10_close_0 (dC := dC) (dI := dI) (a := a) (ac := ac) (n := n) (r := r) ⟨hlt, hx, hb, hml, hown, hts, hN, hA, hK⟩ (fun pc τ H locs ls d er hP hD hS => by subst er; exact W.vret hx hb hr (fun t ht hW => ⟨⟨(), rfl, trivial, by rw [ht]; exact hP, va_K.moved hW.alike hK, hD⟩, hS.F ht⟩) hS.2.2 d) v0 v1 s0 _ _ _ h hP hD va_S.rf (lv_sub hl [0, 1, 2] rfl)
def ow_dm_X10_share : List Cond := .code yX10_share cX10_share 5 none :: ([.methodLink RX10 80 yX10_openingOf, .instanceMethod yX10_openingOf, .selects RX10 yX10_openingOf yX10_openingOf, .initialized RX10, .methodLink RX10 58 yX10_linkTo, .instanceMethod yX10_linkTo, .selects RX10 yX10_linkTo yX10_linkTo] ++ (ow_dm_X10_openingOf ++ (ow_dm_X10_linkTo ++ [])))
theorem gd_dm_X10_share : ∀ w ∈ ow_dm_X10_share, (w.onTables && w.keeps) = true ∨ ∃ ty, w = Cond.arrayClass ty := List.forall_mem_cons.mpr ⟨good_of_word rfl, List.forall_mem_append.mpr ⟨fun w h => good_of_word (List.all_eq_true.mp (by decide +kernel) w h), List.forall_mem_append.mpr ⟨gd_dm_X10_openingOf, List.forall_mem_append.mpr ⟨gd_dm_X10_linkTo, fun _ h => nomatch h⟩⟩⟩⟩
theorem gi_dm_X10_share_0 : GoodIn ow_dm_X10_share (wsV RX10 80 RX10 yX10_openingOf ow_dm_X10_openingOf) := goodIn_app (goodIn_of _ (by decide +kernel)) (fun w h => ⟨List.mem_cons_of_mem _ (List.mem_append_right _ (List.mem_append_left _ h)), gd_dm_X10_openingOf w h⟩)
theorem gi_dm_X10_share_1 : GoodIn ow_dm_X10_share (wsV RX10 58 RX10 yX10_linkTo ow_dm_X10_linkTo) := goodIn_app (goodIn_of _ (by decide +kernel)) (fun w h => ⟨List.mem_cons_of_mem _ (List.mem_append_right _ (List.mem_append_right _ (List.mem_append_left _ h))), gd_dm_X10_linkTo w h⟩)
def dj_X10_share_29 (p : Program) (l : Launch) (e : Env) (s : State) (m : MethodId) (args : Array Value) (below : List Frame) (meth : Method) (c : Code) (Q : State → Prop) (A : Nat → Prop) (dC : Nat → ClassId) (dI : Nat → Nat → Nat) (a : Nat → Nat) (ac : Nat → ClassId) (g : Int32 → Int32 → Int32 → (St) → Option (St)) (r : St) : Prop := ∀ (x1 : Int32) (x2 : Int32) (x3 : Int32) (s0 : St) (H : Heap) (locs : List Loc) (ls : Array Slot), g x1 x2 x3 s0 = some r → va_P (dC, dI) vwCl (dw_X10 a ac s0) H → va_D A (dw_X10 a ac s0) → va_S A s.heap H locs → lv_has ls 5 [(0, .ref (a 0)), (1, .int x1), (2, .int x2), (3, .int x3)] → W p l e (headSpec ow_dm_X10_share ({ frames := 1, cells := 0, slots := 0, locals := 23 })).room s m args below meth c H locs 0 0 Q (F0 m 29 ls [])
def dj_X10_share_2 (p : Program) (l : Launch) (e : Env) (s : State) (m : MethodId) (args : Array Value) (below : List Frame) (meth : Method) (c : Code) (Q : State → Prop) (A : Nat → Prop) (dC : Nat → ClassId) (dI : Nat → Nat → Nat) (a : Nat → Nat) (ac : Nat → ClassId) (g : Int32 → Int32 → Int32 → (St) → Option (St)) (r : St) : Prop := ∀ (x1 : Int32) (x2 : Int32) (x3 : Int32) (s0 : St) (H : Heap) (locs : List Loc) (ls : Array Slot), g x1 x2 x3 s0 = some r → va_P (dC, dI) vwCl (dw_X10 a ac s0) H → va_D A (dw_X10 a ac s0) → va_S A s.heap H locs → lv_has ls 5 [(0, .ref (a 0)), (1, .int x1), (2, .int x2), (3, .int x3)] → W p l e (headSpec ow_dm_X10_share ({ frames := 1, cells := 0, slots := 0, locals := 23 })).room s m args below meth c H locs 0 0 Q (F0 m 2 ls [])
def dj_X10_share_0 (p : Program) (l : Launch) (e : Env) (s : State) (m : MethodId) (args : Array Value) (below : List Frame) (meth : Method) (c : Code) (Q : State → Prop) (A : Nat → Prop) (dC : Nat → ClassId) (dI : Nat → Nat → Nat) (a : Nat → Nat) (ac : Nat → ClassId) (g : Int32 → Int32 → (St) → Option (St)) (r : St) : Prop := ∀ (v0 : Int32) (v1 : Int32) (s0 : St) (H : Heap) (locs : List Loc) (ls : Array Slot), g v0 v1 s0 = some r → va_P (dC, dI) vwCl (dw_X10 a ac s0) H → va_D A (dw_X10 a ac s0) → va_S A s.heap H locs → lv_has ls 5 [(0, .ref (a 0)), (1, .int v0), (2, .int v1)] → W p l e (headSpec ow_dm_X10_share ({ frames := 1, cells := 0, slots := 0, locals := 23 })).room s m args below meth c H locs 0 0 Q (F0 m 0 ls [])
set_option maxHeartbeats 40000000 in
set_option maxRecDepth 100000 in
theorem db_X10_share_29 {p : Program} {l : Launch} {e : Env} {s : State} {m : MethodId} {args : Array Value} {below : List Frame} {meth : Method} {c : Code} {Q : State → Prop} {A : Nat → Prop} {dC : Nat → ClassId} {dI : Nat → Nat → Nat} {a : Nat → Nat} {ac : Nat → ClassId} {n : Nat} {r : St} (C : nd_C p l s m args c A (dC, dI) cX10_share 5 RX10 ow_dm_X10_share (dk_X10 ac)) (K : nd_Kv p l e (headSpec ow_dm_X10_share ({ frames := 1, cells := 0, slots := 0, locals := 23 })).room s m args below meth c Q A (dC, dI) cX10_share (St) (dw_X10 a ac) r) {g2 : Int32 → Int32 → Int32 → (St) → Option (St)} (J2 : dj_X10_share_2 p l e s m args below meth c Q A dC dI a ac g2 r) : dj_X10_share_29 p l e s m args below meth c Q A dC dI a ac (df_X10_share_29 n g2) r := by
  obtain ⟨hlt, hx, hb, hml, hown, hts, hN, hA, hK⟩ := id C
  intro x1 x2 x3 s0 H locs ls h hP hD hS hl
  unfold df_X10_share_29 at h
  obtain ⟨z6, ez6, h⟩ := nd_let_e h
  refine lv_iinc (v := z6) (lv' := [(3, .int z6), (0, .ref (a 0)), (1, .int x1), (2, .int x2)]) hx hb dX10_share_29 hl (k := 3) rfl (by rw [ez6]) (by decide) rfl (fun ls hl => ?_)
  refine lv_goto (tgt := 2) hx hb dX10_share_32 (by decide) ?_
  exact (J2) (x1) (x2) (z6) s0 _ _ _ h hP hD hS (lv_sub hl [1, 2, 3, 0] rfl)
set_option maxHeartbeats 40000000 in
set_option maxRecDepth 100000 in
theorem dB_X10_share_2 {p : Program} {l : Launch} {e : Env} {s : State} {m : MethodId} {args : Array Value} {below : List Frame} {meth : Method} {c : Code} {Q : State → Prop} {A : Nat → Prop} {dC : Nat → ClassId} {dI : Nat → Nat → Nat} {a : Nat → Nat} {ac : Nat → ClassId} {n : Nat} {r : St} (C : nd_C p l s m args c A (dC, dI) cX10_share 5 RX10 ow_dm_X10_share (dk_X10 ac)) (K : nd_Kv p l e (headSpec ow_dm_X10_share ({ frames := 1, cells := 0, slots := 0, locals := 23 })).room s m args below meth c Q A (dC, dI) cX10_share (St) (dw_X10 a ac) r) {g2 : Int32 → Int32 → Int32 → (St) → Option (St)} (J2 : dj_X10_share_2 p l e s m args below meth c Q A dC dI a ac g2 r) : dj_X10_share_2 p l e s m args below meth c Q A dC dI a ac (dF_X10_share_2 n g2) r := by
  obtain ⟨hlt, hx, hb, hml, hown, hts, hN, hA, hK⟩ := id C
  intro x1 x2 x3 s0 H locs ls h hP hD hS hl
  unfold dF_X10_share_2 at h
  refine lv_iload_n hx hb dX10_share_2 rfl (lv_at hl 3 rfl) ?_
  refine lv_bipush (v := 16) hx hb dX10_share_3 (by decide) ?_
  refine lv_icmp_ge (tgt := 35) hx hb dX10_share_5 (by decide) (fun c1 => ?_) (fun c1 => ?_)
  · have h := nd_pos h c1
    exact K _ _ _ _ _ dX10_share_35 (Option.some.inj h).symm hP hD hS
  · have h := nd_neg h c1
    refine lv_aload_n hx hb dX10_share_8 rfl (lv_at hl 0 rfl) ?_
    refine lv_iload_n hx hb dX10_share_9 rfl (lv_at hl 1 rfl) ?_
    refine lv_iload_n hx hb dX10_share_10 rfl (lv_at hl 3 rfl) ?_
    obtain ⟨q2, s3, hq, h⟩ := nd_b2_e h
    have hPc := hP
    have hDc := hD
    have hKc := hK
    have hFc := nd_rs hD hS hA
    refine nd_cVi (As := [.int x1, .int x3]) (rest := []) (q := q2) (w' := dw_X10 a ac s3) ⟨hx, hb, hml, hown, hts⟩ (fun sz => dm_X10_openingOf l hlt dC dI a ac n (x1) (x3) s0 hq sz) (cwV 2 hts gi_dm_X10_share_0 rfl rfl rfl (by decide +kernel) ⟨Nat.le_of_ble_eq_true rfl, Nat.le_of_ble_eq_true rfl⟩) hPc hDc hKc hS hA hN (va_recv hKc hPc (ci := 11) (q0 := 0) rfl rfl) rfl hl.1 rfl (Nat.le_of_ble_eq_true rfl) dX10_share_11 (fun H locs hP1 hD1 hk1 hS => ?_)
    have hP := hP1
    have hD := hD1.weaken (fun k q _ h => hFc q.1 h)
    refine lv_istore (lv' := [(4, .int q2), (0, .ref (a 0)), (1, .int x1), (2, .int x2), (3, .int x3)]) hx hb dX10_share_14 hl (by decide) rfl (fun ls hl => ?_)
    refine lv_iload hx hb dX10_share_16 (lv_at hl 0 rfl) ?_
    refine lv_if_lt (tgt := 29) hx hb dX10_share_18 (by decide) (fun c5 => ?_) (fun c5 => ?_)
    · have h := nd_pos h c5
      exact (db_X10_share_29 C K J2) (x1) (x2) (x3) s3 _ _ _ h hP hD hS (lv_sub hl [1, 2, 3, 4] rfl)
    · have h := nd_neg h c5
      refine lv_aload_n hx hb dX10_share_21 rfl (lv_at hl 1 rfl) ?_
      refine lv_iload_n hx hb dX10_share_22 rfl (lv_at hl 3 rfl) ?_
      refine lv_iload_n hx hb dX10_share_23 rfl (lv_at hl 4 rfl) ?_
      refine lv_iload hx hb dX10_share_24 (lv_at hl 0 rfl) ?_
      obtain ⟨s8, hq, h⟩ := nd_b1_e h
      have hPc := hP
      have hDc := hD
      have hKc := hK
      have hFc := nd_rs hD hS hA
      refine nd_cVv (As := [.int x2, .int x3, .int q2]) (rest := []) (w' := dw_X10 a ac s8) ⟨hx, hb, hml, hown, hts⟩ (fun sz => dm_X10_linkTo l hlt dC dI a ac n (x2) (x3) (q2) s3 hq sz) (cwV 3 hts gi_dm_X10_share_1 rfl rfl rfl (by decide +kernel) ⟨Nat.le_of_ble_eq_true rfl, Nat.le_of_ble_eq_true rfl⟩) hPc hDc hKc hS hA hN (va_recv hKc hPc (ci := 11) (q0 := 0) rfl rfl) rfl hl.1 rfl (Nat.le_of_ble_eq_true rfl) dX10_share_26 (fun H locs hP1 hD1 hk1 hS => ?_)
      have hP := hP1
      have hD := hD1.weaken (fun k q _ h => hFc q.1 h)
      exact (db_X10_share_29 C K J2) (x1) (x2) (x3) s8 _ _ _ h hP hD hS (lv_sub hl [1, 2, 3, 4] rfl)
set_option maxHeartbeats 40000000 in
set_option maxRecDepth 100000 in
theorem db_X10_share_2 {p : Program} {l : Launch} {e : Env} {s : State} {m : MethodId} {args : Array Value} {below : List Frame} {meth : Method} {c : Code} {Q : State → Prop} {A : Nat → Prop} {dC : Nat → ClassId} {dI : Nat → Nat → Nat} {a : Nat → Nat} {ac : Nat → ClassId} {n : Nat} {r : St} (C : nd_C p l s m args c A (dC, dI) cX10_share 5 RX10 ow_dm_X10_share (dk_X10 ac)) (K : nd_Kv p l e (headSpec ow_dm_X10_share ({ frames := 1, cells := 0, slots := 0, locals := 23 })).room s m args below meth c Q A (dC, dI) cX10_share (St) (dw_X10 a ac) r) (k : Nat) : dj_X10_share_2 p l e s m args below meth c Q A dC dI a ac (df_X10_share_2 n k) r := by
  induction k with
  | zero => intro x1 x2 x3 s0 H locs ls h; exact nomatch (show (none : Option (St)) = some r from h)
  | succ k ih => exact dB_X10_share_2 C K ih
set_option maxHeartbeats 40000000 in
set_option maxRecDepth 100000 in
theorem db_X10_share_0 {p : Program} {l : Launch} {e : Env} {s : State} {m : MethodId} {args : Array Value} {below : List Frame} {meth : Method} {c : Code} {Q : State → Prop} {A : Nat → Prop} {dC : Nat → ClassId} {dI : Nat → Nat → Nat} {a : Nat → Nat} {ac : Nat → ClassId} {n : Nat} {r : St} (C : nd_C p l s m args c A (dC, dI) cX10_share 5 RX10 ow_dm_X10_share (dk_X10 ac)) (K : nd_Kv p l e (headSpec ow_dm_X10_share ({ frames := 1, cells := 0, slots := 0, locals := 23 })).room s m args below meth c Q A (dC, dI) cX10_share (St) (dw_X10 a ac) r) : dj_X10_share_0 p l e s m args below meth c Q A dC dI a ac (df_X10_share_0 n) r := by
  obtain ⟨hlt, hx, hb, hml, hown, hts, hN, hA, hK⟩ := id C
  intro v0 v1 s0 H locs ls h hP hD hS hl
  unfold df_X10_share_0 at h
  refine lv_iconst (v := 0) hx hb dX10_share_0 (by decide) ?_
  refine lv_istore_n (lv' := [(3, .int 0), (0, .ref (a 0)), (1, .int v0), (2, .int v1)]) hx hb dX10_share_1 rfl hl (by decide) rfl (fun ls hl => ?_)
  exact (db_X10_share_2 C K n) (v0) (v1) (0) s0 _ _ _ h hP hD hS (lv_sub hl [1, 2, 3, 0] rfl)
set_option maxHeartbeats 40000000 in
set_option maxRecDepth 100000 in
theorem dm_X10_share (l : Launch) (hlt : l.stackTraces = false) (dC : Nat → ClassId) (dI : Nat → Nat → Nat) (a : Nat → Nat) (ac : Nat → ClassId) (n : Nat) (v0 : Int32) (v1 : Int32) (s0 : St) {r : St} (h : df_X10_share n v0 v1 s0 = some r) (sz : Nat) : Met l yX10_share ow_dm_X10_share ({ frames := 1, cells := 0, slots := 0, locals := 23 }) (va_Pc [.ref (a 0), .int v0, .int v1] (fun U => U.heap.size = sz ∧ va_P (dC, dI) vwCl (dw_X10 a ac s0) U.heap ∧ va_K (dC, dI) vwCl (dk_X10 ac) U ∧ va_D (fun _ => True) (dw_X10 a ac s0) ∧ nv_E (va_A (dw_X10 a ac s0) sz) U)) (va_Qv (fun _ => True) (fun (_ : Unit) t => va_P (dC, dI) vwCl (dw_X10 a ac r) t.heap ∧ va_K (dC, dI) vwCl (dk_X10 ac) t ∧ va_D (va_A (dw_X10 a ac s0) sz) (dw_X10 a ac r)) (va_A (dw_X10 a ac s0) sz)) 0 0 (va_A (dw_X10 a ac s0) sz) := by
  refine Met.ofW (cc := cX10_share) (maxL := 5) (ret := none) (by decide) rfl ?_
  intro p e s m args below meth c s₁ B hml hv
  obtain ⟨rfl, hsz, hP, hK, hD0, hN⟩ := hv
  have hx := B.exec
  have hb := B.bytes
  have hr := B.returns
  have hts := atoms_spec (ws := ow_dm_X10_share) B.pre
  have hown : s.vm.findClass RX10 = some m.cls := findClass_of_methodNamed B.named
  have hlocks := B.notSynchronized
  subst hsz
  have hD := hD0.self (sz := s.heap.size)
  generalize hAe : va_A (dw_X10 a ac s0) s.heap.size = A at hD hN ⊢
  have hA : ∀ q : Nat, s.heap.size ≤ q → A q := fun q h => by rw [← hAe]; exact Or.inr h
  have hl := lv_entry ([.ref (a 0), .int v0, .int v1]) (n := 5) (Nat.le_of_ble_eq_true rfl)
  rw [lg_entry_eq]
  generalize (lg_sl ([.ref (a 0), .int v0, .int v1]) ++ List.replicate (5 - (lg_sl ([.ref (a 0), .int v0, .int v1])).length) Slot.unset).toArray = ls at hl ⊢
  have hl : lv_has ls 5 [(0, .ref (a 0)), (1, .int v0), (2, .int v1)] := hl
  exact db_X10_share_0 (dC := dC) (dI := dI) (a := a) (ac := ac) (n := n) (r := r) ⟨hlt, hx, hb, hml, hown, hts, hN, hA, hK⟩ (fun pc τ H locs ls d er hP hD hS => by subst er; exact W.vret hx hb hr (fun t ht hW => ⟨⟨(), rfl, trivial, by rw [ht]; exact hP, va_K.moved hW.alike hK, hD⟩, hS.F ht⟩) hS.2.2 d) v0 v1 s0 _ _ _ h hP hD va_S.rf (lv_sub hl [0, 1, 2] rfl)
def ow_dm_X10_freePipe : List Cond := .code yX10_freePipe cX10_freePipe 2 (some .int) :: ([.fieldLink RX10 18 "TimeMachine$Things" "pipe" "[I"] ++ (u_ws RX10 TX10 11 ++ []))
theorem gd_dm_X10_freePipe : ∀ w ∈ ow_dm_X10_freePipe, (w.onTables && w.keeps) = true ∨ ∃ ty, w = Cond.arrayClass ty := List.forall_mem_cons.mpr ⟨good_of_word rfl, List.forall_mem_append.mpr ⟨fun w h => good_of_word (List.all_eq_true.mp (by decide +kernel) w h), List.forall_mem_append.mpr ⟨gu_X10, fun _ h => nomatch h⟩⟩⟩
theorem hi_dm_X10_freePipe_X10 : ∀ w ∈ u_ws RX10 TX10 11, w ∈ ow_dm_X10_freePipe := fun w h => List.mem_cons_of_mem _ (List.mem_append_right _ (List.mem_append_left _ h))
def dj_X10_freePipe_2 (p : Program) (l : Launch) (e : Env) (s : State) (m : MethodId) (args : Array Value) (below : List Frame) (meth : Method) (c : Code) (Q : State → Prop) (A : Nat → Prop) (dC : Nat → ClassId) (dI : Nat → Nat → Nat) (a : Nat → Nat) (ac : Nat → ClassId) (g : Int32 → (St) → Option (Int32 × (St))) (r : Int32 × (St)) : Prop := ∀ (x1 : Int32) (s0 : St) (H : Heap) (locs : List Loc) (ls : Array Slot), g x1 s0 = some r → va_P (dC, dI) vwCl (dw_X10 a ac s0) H → va_D A (dw_X10 a ac s0) → va_S A s.heap H locs → lv_has ls 2 [(0, .ref (a 0)), (1, .int x1)] → W p l e (headSpec ow_dm_X10_freePipe ({ frames := 0, cells := 0, slots := 0, locals := 0 })).room s m args below meth c H locs 0 0 Q (F0 m 2 ls [])
def dj_X10_freePipe_0 (p : Program) (l : Launch) (e : Env) (s : State) (m : MethodId) (args : Array Value) (below : List Frame) (meth : Method) (c : Code) (Q : State → Prop) (A : Nat → Prop) (dC : Nat → ClassId) (dI : Nat → Nat → Nat) (a : Nat → Nat) (ac : Nat → ClassId) (g : (St) → Option (Int32 × (St))) (r : Int32 × (St)) : Prop := ∀ (s0 : St) (H : Heap) (locs : List Loc) (ls : Array Slot), g s0 = some r → va_P (dC, dI) vwCl (dw_X10 a ac s0) H → va_D A (dw_X10 a ac s0) → va_S A s.heap H locs → lv_has ls 2 [(0, .ref (a 0))] → W p l e (headSpec ow_dm_X10_freePipe ({ frames := 0, cells := 0, slots := 0, locals := 0 })).room s m args below meth c H locs 0 0 Q (F0 m 0 ls [])
set_option maxHeartbeats 40000000 in
set_option maxRecDepth 100000 in
theorem dB_X10_freePipe_2 {p : Program} {l : Launch} {e : Env} {s : State} {m : MethodId} {args : Array Value} {below : List Frame} {meth : Method} {c : Code} {Q : State → Prop} {A : Nat → Prop} {dC : Nat → ClassId} {dI : Nat → Nat → Nat} {a : Nat → Nat} {ac : Nat → ClassId} {n : Nat} {r : Int32 × (St)} (C : nd_C p l s m args c A (dC, dI) cX10_freePipe 2 RX10 ow_dm_X10_freePipe (dk_X10 ac)) (K : nd_Ki p l e (headSpec ow_dm_X10_freePipe ({ frames := 0, cells := 0, slots := 0, locals := 0 })).room s m args below meth c Q A (dC, dI) cX10_freePipe .int (St) (dw_X10 a ac) r) {g2 : Int32 → (St) → Option (Int32 × (St))} (J2 : dj_X10_freePipe_2 p l e s m args below meth c Q A dC dI a ac g2 r) : dj_X10_freePipe_2 p l e s m args below meth c Q A dC dI a ac (dF_X10_freePipe_2 n g2) r := by
  obtain ⟨hlt, hx, hb, hml, hown, hts, hN, hA, hK⟩ := id C
  intro x1 s0 H locs ls h hP hD hS hl
  unfold dF_X10_freePipe_2 at h
  refine lv_iload_n hx hb dX10_freePipe_2 rfl (lv_at hl 1 rfl) ?_
  refine lv_bipush (v := 8) hx hb dX10_freePipe_3 (by decide) ?_
  refine lv_icmp_ge (tgt := 40) hx hb dX10_freePipe_5 (by decide) (fun c1 => ?_) (fun c1 => ?_)
  · have h := nd_pos h c1
    refine lv_iconst (v := (-1)) hx hb dX10_freePipe_40 (by decide) ?_
    exact K _ _ _ _ _ _ dX10_freePipe_41 rfl (Option.some.inj h).symm hP hD hS
  · have h := nd_neg h c1
    refine lv_aload_n hx hb dX10_freePipe_8 rfl (lv_at hl 0 rfl) ?_
    refine va_get (D := (dC, dI)) (ci := 11) (v := .ref (a 3)) (C := RX10) (T := TX10) (N := 11) hx hb hts hi_dm_X10_freePipe_X10 hown hK hP 0 rfl rfl 2 (by decide) (hts (.fieldLink RX10 18 "TimeMachine$Things" "pipe" "[I") (List.mem_of_getElem? (i := 1) rfl)) (fun _ h9 => h9) rfl dX10_freePipe_9 ?_
    refine lv_iload_n hx hb dX10_freePipe_12 rfl (lv_at hl 1 rfl) ?_
    refine lv_iconst (v := 4) hx hb dX10_freePipe_13 (by decide) ?_
    refine lv_imul hx hb dX10_freePipe_14 ?_
    refine lv_iconst (v := 1) hx hb dX10_freePipe_15 (by decide) ?_
    refine lv_iadd hx hb dX10_freePipe_16 ?_
    obtain ⟨i2, h⟩ := nd_ck_e h
    refine va_iald (i := ((x1 * 4) + 1)) hx hb hK hP 3 2 rfl rfl i2 dX10_freePipe_17 ?_
    refine lv_aload_n hx hb dX10_freePipe_18 rfl (lv_at hl 0 rfl) ?_
    refine va_get (D := (dC, dI)) (ci := 11) (v := .ref (a 3)) (C := RX10) (T := TX10) (N := 11) hx hb hts hi_dm_X10_freePipe_X10 hown hK hP 0 rfl rfl 2 (by decide) (hts (.fieldLink RX10 18 "TimeMachine$Things" "pipe" "[I") (List.mem_of_getElem? (i := 1) rfl)) (fun _ h9 => h9) rfl dX10_freePipe_19 ?_
    refine lv_iload_n hx hb dX10_freePipe_22 rfl (lv_at hl 1 rfl) ?_
    refine lv_iconst (v := 4) hx hb dX10_freePipe_23 (by decide) ?_
    refine lv_imul hx hb dX10_freePipe_24 ?_
    refine lv_iconst (v := 2) hx hb dX10_freePipe_25 (by decide) ?_
    refine lv_iadd hx hb dX10_freePipe_26 ?_
    obtain ⟨i3, h⟩ := nd_ck_e h
    refine va_iald (i := ((x1 * 4) + 2)) hx hb hK hP 3 2 rfl rfl i3 dX10_freePipe_27 ?_
    refine lv_iadd hx hb dX10_freePipe_28 ?_
    refine lv_if_ne (tgt := 34) hx hb dX10_freePipe_29 (by decide) (fun c4 => ?_) (fun c4 => ?_)
    · have h := nd_neg h c4
      obtain ⟨z5, ez5, h⟩ := nd_let_e h
      refine lv_iinc (v := z5) (lv' := [(1, .int z5), (0, .ref (a 0))]) hx hb dX10_freePipe_34 hl (k := 1) rfl (by rw [ez5]) (by decide) rfl (fun ls hl => ?_)
      refine lv_goto (tgt := 2) hx hb dX10_freePipe_37 (by decide) ?_
      exact (J2) (z5) s0 _ _ _ h hP hD hS (lv_sub hl [1, 0] rfl)
    · have h := nd_pos h c4
      refine lv_iload_n hx hb dX10_freePipe_32 rfl (lv_at hl 1 rfl) ?_
      exact K _ _ _ _ _ _ dX10_freePipe_33 rfl (Option.some.inj h).symm hP hD hS
set_option maxHeartbeats 40000000 in
set_option maxRecDepth 100000 in
theorem db_X10_freePipe_2 {p : Program} {l : Launch} {e : Env} {s : State} {m : MethodId} {args : Array Value} {below : List Frame} {meth : Method} {c : Code} {Q : State → Prop} {A : Nat → Prop} {dC : Nat → ClassId} {dI : Nat → Nat → Nat} {a : Nat → Nat} {ac : Nat → ClassId} {n : Nat} {r : Int32 × (St)} (C : nd_C p l s m args c A (dC, dI) cX10_freePipe 2 RX10 ow_dm_X10_freePipe (dk_X10 ac)) (K : nd_Ki p l e (headSpec ow_dm_X10_freePipe ({ frames := 0, cells := 0, slots := 0, locals := 0 })).room s m args below meth c Q A (dC, dI) cX10_freePipe .int (St) (dw_X10 a ac) r) (k : Nat) : dj_X10_freePipe_2 p l e s m args below meth c Q A dC dI a ac (df_X10_freePipe_2 n k) r := by
  induction k with
  | zero => intro x1 s0 H locs ls h; exact nomatch (show (none : Option (Int32 × (St))) = some r from h)
  | succ k ih => exact dB_X10_freePipe_2 C K ih
set_option maxHeartbeats 40000000 in
set_option maxRecDepth 100000 in
theorem db_X10_freePipe_0 {p : Program} {l : Launch} {e : Env} {s : State} {m : MethodId} {args : Array Value} {below : List Frame} {meth : Method} {c : Code} {Q : State → Prop} {A : Nat → Prop} {dC : Nat → ClassId} {dI : Nat → Nat → Nat} {a : Nat → Nat} {ac : Nat → ClassId} {n : Nat} {r : Int32 × (St)} (C : nd_C p l s m args c A (dC, dI) cX10_freePipe 2 RX10 ow_dm_X10_freePipe (dk_X10 ac)) (K : nd_Ki p l e (headSpec ow_dm_X10_freePipe ({ frames := 0, cells := 0, slots := 0, locals := 0 })).room s m args below meth c Q A (dC, dI) cX10_freePipe .int (St) (dw_X10 a ac) r) : dj_X10_freePipe_0 p l e s m args below meth c Q A dC dI a ac (df_X10_freePipe_0 n) r := by
  obtain ⟨hlt, hx, hb, hml, hown, hts, hN, hA, hK⟩ := id C
  intro s0 H locs ls h hP hD hS hl
  unfold df_X10_freePipe_0 at h
  refine lv_iconst (v := 0) hx hb dX10_freePipe_0 (by decide) ?_
  refine lv_istore_n (lv' := [(1, .int 0), (0, .ref (a 0))]) hx hb dX10_freePipe_1 rfl hl (by decide) rfl (fun ls hl => ?_)
  exact (db_X10_freePipe_2 C K n) (0) s0 _ _ _ h hP hD hS (lv_sub hl [1, 0] rfl)
set_option maxHeartbeats 40000000 in
set_option maxRecDepth 100000 in
theorem dm_X10_freePipe (l : Launch) (hlt : l.stackTraces = false) (dC : Nat → ClassId) (dI : Nat → Nat → Nat) (a : Nat → Nat) (ac : Nat → ClassId) (n : Nat) (s0 : St) {r : Int32 × (St)} (h : df_X10_freePipe n s0 = some r) (sz : Nat) : Met l yX10_freePipe ow_dm_X10_freePipe ({ frames := 0, cells := 0, slots := 0, locals := 0 }) (va_Pc [.ref (a 0)] (fun U => U.heap.size = sz ∧ va_P (dC, dI) vwCl (dw_X10 a ac s0) U.heap ∧ va_K (dC, dI) vwCl (dk_X10 ac) U ∧ va_D (fun _ => True) (dw_X10 a ac s0) ∧ nv_E (va_A (dw_X10 a ac s0) sz) U)) (va_Qi (fun x _ => x = r.1) (fun (_ : Unit) t => va_P (dC, dI) vwCl (dw_X10 a ac r.2) t.heap ∧ va_K (dC, dI) vwCl (dk_X10 ac) t ∧ va_D (va_A (dw_X10 a ac s0) sz) (dw_X10 a ac r.2)) (va_A (dw_X10 a ac s0) sz)) 0 0 (va_A (dw_X10 a ac s0) sz) := by
  refine Met.ofW (cc := cX10_freePipe) (maxL := 2) (ret := (some .int)) (by decide) rfl ?_
  intro p e s m args below meth c s₁ B hml hv
  obtain ⟨rfl, hsz, hP, hK, hD0, hN⟩ := hv
  have hx := B.exec
  have hb := B.bytes
  have hr := B.returns
  have hts := atoms_spec (ws := ow_dm_X10_freePipe) B.pre
  have hown : s.vm.findClass RX10 = some m.cls := findClass_of_methodNamed B.named
  have hlocks := B.notSynchronized
  subst hsz
  have hD := hD0.self (sz := s.heap.size)
  generalize hAe : va_A (dw_X10 a ac s0) s.heap.size = A at hD hN ⊢
  have hA : ∀ q : Nat, s.heap.size ≤ q → A q := fun q h => by rw [← hAe]; exact Or.inr h
  have hl := lv_entry ([.ref (a 0)]) (n := 2) (Nat.le_of_ble_eq_true rfl)
  rw [lg_entry_eq]
  generalize (lg_sl ([.ref (a 0)]) ++ List.replicate (2 - (lg_sl ([.ref (a 0)])).length) Slot.unset).toArray = ls at hl ⊢
  have hl : lv_has ls 2 [(0, .ref (a 0))] := hl
  exact db_X10_freePipe_0 (dC := dC) (dI := dI) (a := a) (ac := ac) (n := n) (r := r) ⟨hlt, hx, hb, hml, hown, hts, hN, hA, hK⟩ (fun pc v τ H locs ls d z er hP hD hS => by subst er; exact W.zret (v := v) hx hb hr z (fun t ht hW => ⟨⟨v, (), rfl, rfl, by rw [ht]; exact hP, va_K.moved hW.alike hK, hD⟩, hS.F ht⟩) hS.2.2 d) s0 _ _ _ h hP hD va_S.rf (lv_sub hl [0] rfl)
def ow_dm_X10_emptyPipe : List Cond := .code yX10_emptyPipe cX10_emptyPipe 2 none :: ([.fieldLink RX10 18 "TimeMachine$Things" "pipe" "[I"] ++ (u_ws RX10 TX10 11 ++ []))
theorem gd_dm_X10_emptyPipe : ∀ w ∈ ow_dm_X10_emptyPipe, (w.onTables && w.keeps) = true ∨ ∃ ty, w = Cond.arrayClass ty := List.forall_mem_cons.mpr ⟨good_of_word rfl, List.forall_mem_append.mpr ⟨fun w h => good_of_word (List.all_eq_true.mp (by decide +kernel) w h), List.forall_mem_append.mpr ⟨gu_X10, fun _ h => nomatch h⟩⟩⟩
theorem hi_dm_X10_emptyPipe_X10 : ∀ w ∈ u_ws RX10 TX10 11, w ∈ ow_dm_X10_emptyPipe := fun w h => List.mem_cons_of_mem _ (List.mem_append_right _ (List.mem_append_left _ h))
def dj_X10_emptyPipe_0 (p : Program) (l : Launch) (e : Env) (s : State) (m : MethodId) (args : Array Value) (below : List Frame) (meth : Method) (c : Code) (Q : State → Prop) (A : Nat → Prop) (dC : Nat → ClassId) (dI : Nat → Nat → Nat) (a : Nat → Nat) (ac : Nat → ClassId) (g : Int32 → (St) → Option (St)) (r : St) : Prop := ∀ (v0 : Int32) (s0 : St) (H : Heap) (locs : List Loc) (ls : Array Slot), g v0 s0 = some r → va_P (dC, dI) vwCl (dw_X10 a ac s0) H → va_D A (dw_X10 a ac s0) → va_S A s.heap H locs → lv_has ls 2 [(0, .ref (a 0)), (1, .int v0)] → W p l e (headSpec ow_dm_X10_emptyPipe ({ frames := 0, cells := 0, slots := 0, locals := 0 })).room s m args below meth c H locs 0 0 Q (F0 m 0 ls [])
set_option maxHeartbeats 40000000 in
set_option maxRecDepth 100000 in
theorem db_X10_emptyPipe_0 {p : Program} {l : Launch} {e : Env} {s : State} {m : MethodId} {args : Array Value} {below : List Frame} {meth : Method} {c : Code} {Q : State → Prop} {A : Nat → Prop} {dC : Nat → ClassId} {dI : Nat → Nat → Nat} {a : Nat → Nat} {ac : Nat → ClassId} {n : Nat} {r : St} (C : nd_C p l s m args c A (dC, dI) cX10_emptyPipe 2 RX10 ow_dm_X10_emptyPipe (dk_X10 ac)) (K : nd_Kv p l e (headSpec ow_dm_X10_emptyPipe ({ frames := 0, cells := 0, slots := 0, locals := 0 })).room s m args below meth c Q A (dC, dI) cX10_emptyPipe (St) (dw_X10 a ac) r) : dj_X10_emptyPipe_0 p l e s m args below meth c Q A dC dI a ac (df_X10_emptyPipe_0 n) r := by
  obtain ⟨hlt, hx, hb, hml, hown, hts, hN, hA, hK⟩ := id C
  intro v0 s0 H locs ls h hP hD hS hl
  unfold df_X10_emptyPipe_0 at h
  refine lv_aload_n hx hb dX10_emptyPipe_0 rfl (lv_at hl 0 rfl) ?_
  refine va_get (D := (dC, dI)) (ci := 11) (v := .ref (a 3)) (C := RX10) (T := TX10) (N := 11) hx hb hts hi_dm_X10_emptyPipe_X10 hown hK hP 0 rfl rfl 2 (by decide) (hts (.fieldLink RX10 18 "TimeMachine$Things" "pipe" "[I") (List.mem_of_getElem? (i := 1) rfl)) (fun _ h9 => h9) rfl dX10_emptyPipe_1 ?_
  refine lv_iload_n hx hb dX10_emptyPipe_4 rfl (lv_at hl 1 rfl) ?_
  refine lv_iconst (v := 4) hx hb dX10_emptyPipe_5 (by decide) ?_
  refine lv_imul hx hb dX10_emptyPipe_6 ?_
  refine lv_iconst (v := 0) hx hb dX10_emptyPipe_7 (by decide) ?_
  refine lv_iadd hx hb dX10_emptyPipe_8 ?_
  refine lv_iconst (v := 0) hx hb dX10_emptyPipe_9 (by decide) ?_
  obtain ⟨i1, h⟩ := nd_ck_e h
  refine va_iast (i := ((v0 * 4) + 0)) (x := 0) hx hb hK hP hD hS 3 2 rfl rfl i1 dX10_emptyPipe_10 (fun H locs hP hD hS => ?_)
  obtain ⟨s2, es2, h⟩ := nd_let_e h
  have hP : va_P (dC, dI) vwCl (dw_X10 a ac s2) H := by rw [es2]; exact hP
  have hD : va_D A (dw_X10 a ac s2) := by rw [es2]; exact hD
  refine lv_aload_n hx hb dX10_emptyPipe_11 rfl (lv_at hl 0 rfl) ?_
  refine va_get (D := (dC, dI)) (ci := 11) (v := .ref (a 3)) (C := RX10) (T := TX10) (N := 11) hx hb hts hi_dm_X10_emptyPipe_X10 hown hK hP 0 rfl rfl 2 (by decide) (hts (.fieldLink RX10 18 "TimeMachine$Things" "pipe" "[I") (List.mem_of_getElem? (i := 1) rfl)) (fun _ h9 => h9) rfl dX10_emptyPipe_12 ?_
  refine lv_iload_n hx hb dX10_emptyPipe_15 rfl (lv_at hl 1 rfl) ?_
  refine lv_iconst (v := 4) hx hb dX10_emptyPipe_16 (by decide) ?_
  refine lv_imul hx hb dX10_emptyPipe_17 ?_
  refine lv_iconst (v := 3) hx hb dX10_emptyPipe_18 (by decide) ?_
  refine lv_iadd hx hb dX10_emptyPipe_19 ?_
  refine lv_iconst (v := 0) hx hb dX10_emptyPipe_20 (by decide) ?_
  obtain ⟨i3, h⟩ := nd_ck_e h
  refine va_iast (i := ((v0 * 4) + 3)) (x := 0) hx hb hK hP hD hS 3 2 rfl rfl i3 dX10_emptyPipe_21 (fun H locs hP hD hS => ?_)
  obtain ⟨s4, es4, h⟩ := nd_let_e h
  have hP : va_P (dC, dI) vwCl (dw_X10 a ac s4) H := by rw [es4]; exact hP
  have hD : va_D A (dw_X10 a ac s4) := by rw [es4]; exact hD
  exact K _ _ _ _ _ dX10_emptyPipe_22 (Option.some.inj h).symm hP hD hS
set_option maxHeartbeats 40000000 in
set_option maxRecDepth 100000 in
theorem dm_X10_emptyPipe (l : Launch) (hlt : l.stackTraces = false) (dC : Nat → ClassId) (dI : Nat → Nat → Nat) (a : Nat → Nat) (ac : Nat → ClassId) (n : Nat) (v0 : Int32) (s0 : St) {r : St} (h : df_X10_emptyPipe n v0 s0 = some r) (sz : Nat) : Met l yX10_emptyPipe ow_dm_X10_emptyPipe ({ frames := 0, cells := 0, slots := 0, locals := 0 }) (va_Pc [.ref (a 0), .int v0] (fun U => U.heap.size = sz ∧ va_P (dC, dI) vwCl (dw_X10 a ac s0) U.heap ∧ va_K (dC, dI) vwCl (dk_X10 ac) U ∧ va_D (fun _ => True) (dw_X10 a ac s0) ∧ nv_E (va_A (dw_X10 a ac s0) sz) U)) (va_Qv (fun _ => True) (fun (_ : Unit) t => va_P (dC, dI) vwCl (dw_X10 a ac r) t.heap ∧ va_K (dC, dI) vwCl (dk_X10 ac) t ∧ va_D (va_A (dw_X10 a ac s0) sz) (dw_X10 a ac r)) (va_A (dw_X10 a ac s0) sz)) 0 0 (va_A (dw_X10 a ac s0) sz) := by
  refine Met.ofW (cc := cX10_emptyPipe) (maxL := 2) (ret := none) (by decide) rfl ?_
  intro p e s m args below meth c s₁ B hml hv
  obtain ⟨rfl, hsz, hP, hK, hD0, hN⟩ := hv
  have hx := B.exec
  have hb := B.bytes
  have hr := B.returns
  have hts := atoms_spec (ws := ow_dm_X10_emptyPipe) B.pre
  have hown : s.vm.findClass RX10 = some m.cls := findClass_of_methodNamed B.named
  have hlocks := B.notSynchronized
  subst hsz
  have hD := hD0.self (sz := s.heap.size)
  generalize hAe : va_A (dw_X10 a ac s0) s.heap.size = A at hD hN ⊢
  have hA : ∀ q : Nat, s.heap.size ≤ q → A q := fun q h => by rw [← hAe]; exact Or.inr h
  have hl := lv_entry ([.ref (a 0), .int v0]) (n := 2) (Nat.le_of_ble_eq_true rfl)
  rw [lg_entry_eq]
  generalize (lg_sl ([.ref (a 0), .int v0]) ++ List.replicate (2 - (lg_sl ([.ref (a 0), .int v0])).length) Slot.unset).toArray = ls at hl ⊢
  have hl : lv_has ls 2 [(0, .ref (a 0)), (1, .int v0)] := hl
  exact db_X10_emptyPipe_0 (dC := dC) (dI := dI) (a := a) (ac := ac) (n := n) (r := r) ⟨hlt, hx, hb, hml, hown, hts, hN, hA, hK⟩ (fun pc τ H locs ls d er hP hD hS => by subst er; exact W.vret hx hb hr (fun t ht hW => ⟨⟨(), rfl, trivial, by rw [ht]; exact hP, va_K.moved hW.alike hK, hD⟩, hS.F ht⟩) hS.2.2 d) v0 s0 _ _ _ h hP hD va_S.rf (lv_sub hl [0, 1] rfl)
def ow_dm_X10_isBroken : List Cond := .code yX10_isBroken cX10_isBroken 2 (some .boolean) :: ([.methodLink RX10 74 yX10_of, .instanceMethod yX10_of, .selects RX10 yX10_of yX10_of, .initialized RX10, .fieldLink RX10 18 "TimeMachine$Things" "pipe" "[I"] ++ (u_ws RX10 TX10 11 ++ (ow_dm_X10_of ++ [])))
theorem gd_dm_X10_isBroken : ∀ w ∈ ow_dm_X10_isBroken, (w.onTables && w.keeps) = true ∨ ∃ ty, w = Cond.arrayClass ty := List.forall_mem_cons.mpr ⟨good_of_word rfl, List.forall_mem_append.mpr ⟨fun w h => good_of_word (List.all_eq_true.mp (by decide +kernel) w h), List.forall_mem_append.mpr ⟨gu_X10, List.forall_mem_append.mpr ⟨gd_dm_X10_of, fun _ h => nomatch h⟩⟩⟩⟩
theorem hi_dm_X10_isBroken_X10 : ∀ w ∈ u_ws RX10 TX10 11, w ∈ ow_dm_X10_isBroken := fun w h => List.mem_cons_of_mem _ (List.mem_append_right _ (List.mem_append_left _ h))
theorem gi_dm_X10_isBroken_0 : GoodIn ow_dm_X10_isBroken (wsV RX10 74 RX10 yX10_of ow_dm_X10_of) := goodIn_app (goodIn_of _ (by decide +kernel)) (fun w h => ⟨List.mem_cons_of_mem _ (List.mem_append_right _ (List.mem_append_right _ (List.mem_append_left _ h))), gd_dm_X10_of w h⟩)
def dj_X10_isBroken_33 (p : Program) (l : Launch) (e : Env) (s : State) (m : MethodId) (args : Array Value) (below : List Frame) (meth : Method) (c : Code) (Q : State → Prop) (A : Nat → Prop) (dC : Nat → ClassId) (dI : Nat → Nat → Nat) (a : Nat → Nat) (ac : Nat → ClassId) (g : Int32 → (St) → Option (Int32 × (St))) (r : Int32 × (St)) : Prop := ∀ (y0 : Int32) (s0 : St) (H : Heap) (locs : List Loc) (ls : Array Slot), g y0 s0 = some r → va_P (dC, dI) vwCl (dw_X10 a ac s0) H → va_D A (dw_X10 a ac s0) → va_S A s.heap H locs → lv_has ls 2 [] → W p l e (headSpec ow_dm_X10_isBroken ({ frames := 1, cells := 0, slots := 0, locals := 22 })).room s m args below meth c H locs 0 0 Q (F0 m 33 ls [.int y0])
def dj_X10_isBroken_32 (p : Program) (l : Launch) (e : Env) (s : State) (m : MethodId) (args : Array Value) (below : List Frame) (meth : Method) (c : Code) (Q : State → Prop) (A : Nat → Prop) (dC : Nat → ClassId) (dI : Nat → Nat → Nat) (a : Nat → Nat) (ac : Nat → ClassId) (g : (St) → Option (Int32 × (St))) (r : Int32 × (St)) : Prop := ∀ (s0 : St) (H : Heap) (locs : List Loc) (ls : Array Slot), g s0 = some r → va_P (dC, dI) vwCl (dw_X10 a ac s0) H → va_D A (dw_X10 a ac s0) → va_S A s.heap H locs → lv_has ls 2 [] → W p l e (headSpec ow_dm_X10_isBroken ({ frames := 1, cells := 0, slots := 0, locals := 22 })).room s m args below meth c H locs 0 0 Q (F0 m 32 ls [])
def dj_X10_isBroken_0 (p : Program) (l : Launch) (e : Env) (s : State) (m : MethodId) (args : Array Value) (below : List Frame) (meth : Method) (c : Code) (Q : State → Prop) (A : Nat → Prop) (dC : Nat → ClassId) (dI : Nat → Nat → Nat) (a : Nat → Nat) (ac : Nat → ClassId) (g : Int32 → (St) → Option (Int32 × (St))) (r : Int32 × (St)) : Prop := ∀ (v0 : Int32) (s0 : St) (H : Heap) (locs : List Loc) (ls : Array Slot), g v0 s0 = some r → va_P (dC, dI) vwCl (dw_X10 a ac s0) H → va_D A (dw_X10 a ac s0) → va_S A s.heap H locs → lv_has ls 2 [(0, .ref (a 0)), (1, .int v0)] → W p l e (headSpec ow_dm_X10_isBroken ({ frames := 1, cells := 0, slots := 0, locals := 22 })).room s m args below meth c H locs 0 0 Q (F0 m 0 ls [])
set_option maxHeartbeats 40000000 in
set_option maxRecDepth 100000 in
theorem db_X10_isBroken_33 {p : Program} {l : Launch} {e : Env} {s : State} {m : MethodId} {args : Array Value} {below : List Frame} {meth : Method} {c : Code} {Q : State → Prop} {A : Nat → Prop} {dC : Nat → ClassId} {dI : Nat → Nat → Nat} {a : Nat → Nat} {ac : Nat → ClassId} {n : Nat} {r : Int32 × (St)} (C : nd_C p l s m args c A (dC, dI) cX10_isBroken 2 RX10 ow_dm_X10_isBroken (dk_X10 ac)) (K : nd_Ki p l e (headSpec ow_dm_X10_isBroken ({ frames := 1, cells := 0, slots := 0, locals := 22 })).room s m args below meth c Q A (dC, dI) cX10_isBroken .boolean (St) (dw_X10 a ac) r) : dj_X10_isBroken_33 p l e s m args below meth c Q A dC dI a ac (df_X10_isBroken_33 n) r := by
  obtain ⟨hlt, hx, hb, hml, hown, hts, hN, hA, hK⟩ := id C
  intro y0 s0 H locs ls h hP hD hS hl
  unfold df_X10_isBroken_33 at h
  obtain ⟨n5, h⟩ := nd_z_e ⟨_, rfl⟩ h
  exact K _ _ _ _ _ _ dX10_isBroken_33 n5 (Option.some.inj h).symm hP hD hS
set_option maxHeartbeats 40000000 in
set_option maxRecDepth 100000 in
theorem db_X10_isBroken_32 {p : Program} {l : Launch} {e : Env} {s : State} {m : MethodId} {args : Array Value} {below : List Frame} {meth : Method} {c : Code} {Q : State → Prop} {A : Nat → Prop} {dC : Nat → ClassId} {dI : Nat → Nat → Nat} {a : Nat → Nat} {ac : Nat → ClassId} {n : Nat} {r : Int32 × (St)} (C : nd_C p l s m args c A (dC, dI) cX10_isBroken 2 RX10 ow_dm_X10_isBroken (dk_X10 ac)) (K : nd_Ki p l e (headSpec ow_dm_X10_isBroken ({ frames := 1, cells := 0, slots := 0, locals := 22 })).room s m args below meth c Q A (dC, dI) cX10_isBroken .boolean (St) (dw_X10 a ac) r) : dj_X10_isBroken_32 p l e s m args below meth c Q A dC dI a ac (df_X10_isBroken_32 n) r := by
  obtain ⟨hlt, hx, hb, hml, hown, hts, hN, hA, hK⟩ := id C
  intro s0 H locs ls h hP hD hS hl
  unfold df_X10_isBroken_32 at h
  refine lv_iconst (v := 0) hx hb dX10_isBroken_32 (by decide) ?_
  exact (db_X10_isBroken_33 C K) (0) s0 _ _ _ h hP hD hS (lv_sub hl [] rfl)
set_option maxHeartbeats 40000000 in
set_option maxRecDepth 100000 in
theorem db_X10_isBroken_0 {p : Program} {l : Launch} {e : Env} {s : State} {m : MethodId} {args : Array Value} {below : List Frame} {meth : Method} {c : Code} {Q : State → Prop} {A : Nat → Prop} {dC : Nat → ClassId} {dI : Nat → Nat → Nat} {a : Nat → Nat} {ac : Nat → ClassId} {n : Nat} {r : Int32 × (St)} (C : nd_C p l s m args c A (dC, dI) cX10_isBroken 2 RX10 ow_dm_X10_isBroken (dk_X10 ac)) (K : nd_Ki p l e (headSpec ow_dm_X10_isBroken ({ frames := 1, cells := 0, slots := 0, locals := 22 })).room s m args below meth c Q A (dC, dI) cX10_isBroken .boolean (St) (dw_X10 a ac) r) : dj_X10_isBroken_0 p l e s m args below meth c Q A dC dI a ac (df_X10_isBroken_0 n) r := by
  obtain ⟨hlt, hx, hb, hml, hown, hts, hN, hA, hK⟩ := id C
  intro v0 s0 H locs ls h hP hD hS hl
  unfold df_X10_isBroken_0 at h
  refine lv_aload_n hx hb dX10_isBroken_0 rfl (lv_at hl 0 rfl) ?_
  refine lv_iload_n hx hb dX10_isBroken_1 rfl (lv_at hl 1 rfl) ?_
  refine lv_iconst (v := 0) hx hb dX10_isBroken_2 (by decide) ?_
  obtain ⟨q1, s2, hq, h⟩ := nd_b2_e h
  have hPc := hP
  have hDc := hD
  have hKc := hK
  have hFc := nd_rs hD hS hA
  refine nd_cVi (As := [.int v0, .int 0]) (rest := []) (q := q1) (w' := dw_X10 a ac s2) ⟨hx, hb, hml, hown, hts⟩ (fun sz => dm_X10_of l hlt dC dI a ac n (v0) (0) s0 hq sz) (cwV 2 hts gi_dm_X10_isBroken_0 rfl rfl rfl (by decide +kernel) ⟨Nat.le_of_ble_eq_true rfl, Nat.le_of_ble_eq_true rfl⟩) hPc hDc hKc hS hA hN (va_recv hKc hPc (ci := 11) (q0 := 0) rfl rfl) rfl hl.1 rfl (Nat.le_of_ble_eq_true rfl) dX10_isBroken_3 (fun H locs hP1 hD1 hk1 hS => ?_)
  have hP := hP1
  have hD := hD1.weaken (fun k q _ h => hFc q.1 h)
  refine lv_iconst (v := 2) hx hb dX10_isBroken_6 (by decide) ?_
  refine lv_icmp_ne (tgt := 32) hx hb dX10_isBroken_7 (by decide) (fun c4 => ?_) (fun c4 => ?_)
  · have h := nd_neg h c4
    exact (db_X10_isBroken_32 C K)  s2 _ _ _ h hP hD hS (lv_sub hl [] rfl)
  · have h := nd_pos h c4
    refine lv_aload_n hx hb dX10_isBroken_10 rfl (lv_at hl 0 rfl) ?_
    refine va_get (D := (dC, dI)) (ci := 11) (v := .ref (a 3)) (C := RX10) (T := TX10) (N := 11) hx hb hts hi_dm_X10_isBroken_X10 hown hK hP 0 rfl rfl 2 (by decide) (hts (.fieldLink RX10 18 "TimeMachine$Things" "pipe" "[I") (List.mem_of_getElem? (i := 5) rfl)) (fun _ h9 => h9) rfl dX10_isBroken_11 ?_
    refine lv_aload_n hx hb dX10_isBroken_14 rfl (lv_at hl 0 rfl) ?_
    refine lv_iload_n hx hb dX10_isBroken_15 rfl (lv_at hl 1 rfl) ?_
    refine lv_iconst (v := 2) hx hb dX10_isBroken_16 (by decide) ?_
    obtain ⟨q6, s7, hq, h⟩ := nd_b2_e h
    have hPc := hP
    have hDc := hD
    have hKc := hK
    have hFc := nd_rs hD hS hA
    refine nd_cVi (As := [.int v0, .int 2]) (rest := [.ref (a 3)]) (q := q6) (w' := dw_X10 a ac s7) ⟨hx, hb, hml, hown, hts⟩ (fun sz => dm_X10_of l hlt dC dI a ac n (v0) (2) s2 hq sz) (cwV 2 hts gi_dm_X10_isBroken_0 rfl rfl rfl (by decide +kernel) ⟨Nat.le_of_ble_eq_true rfl, Nat.le_of_ble_eq_true rfl⟩) hPc hDc hKc hS hA hN (va_recv hKc hPc (ci := 11) (q0 := 0) rfl rfl) rfl hl.1 rfl (Nat.le_of_ble_eq_true rfl) dX10_isBroken_17 (fun H locs hP1 hD1 hk1 hS => ?_)
    have hP := hP1
    have hD := hD1.weaken (fun k q _ h => hFc q.1 h)
    refine lv_iconst (v := 4) hx hb dX10_isBroken_20 (by decide) ?_
    refine lv_imul hx hb dX10_isBroken_21 ?_
    refine lv_iconst (v := 1) hx hb dX10_isBroken_22 (by decide) ?_
    refine lv_iadd hx hb dX10_isBroken_23 ?_
    obtain ⟨i9, h⟩ := nd_ck_e h
    refine va_iald (i := ((q6 * 4) + 1)) hx hb hK hP 3 2 rfl rfl i9 dX10_isBroken_24 ?_
    refine lv_if_ne (tgt := 32) hx hb dX10_isBroken_25 (by decide) (fun c10 => ?_) (fun c10 => ?_)
    · have h := nd_neg h c10
      exact (db_X10_isBroken_32 C K)  s7 _ _ _ h hP hD hS (lv_sub hl [] rfl)
    · have h := nd_pos h c10
      refine lv_iconst (v := 1) hx hb dX10_isBroken_28 (by decide) ?_
      refine lv_goto (tgt := 33) hx hb dX10_isBroken_29 (by decide) ?_
      exact (db_X10_isBroken_33 C K) (1) s7 _ _ _ h hP hD hS (lv_sub hl [] rfl)
set_option maxHeartbeats 40000000 in
set_option maxRecDepth 100000 in
theorem dm_X10_isBroken (l : Launch) (hlt : l.stackTraces = false) (dC : Nat → ClassId) (dI : Nat → Nat → Nat) (a : Nat → Nat) (ac : Nat → ClassId) (n : Nat) (v0 : Int32) (s0 : St) {r : Int32 × (St)} (h : df_X10_isBroken n v0 s0 = some r) (sz : Nat) : Met l yX10_isBroken ow_dm_X10_isBroken ({ frames := 1, cells := 0, slots := 0, locals := 22 }) (va_Pc [.ref (a 0), .int v0] (fun U => U.heap.size = sz ∧ va_P (dC, dI) vwCl (dw_X10 a ac s0) U.heap ∧ va_K (dC, dI) vwCl (dk_X10 ac) U ∧ va_D (fun _ => True) (dw_X10 a ac s0) ∧ nv_E (va_A (dw_X10 a ac s0) sz) U)) (va_Qi (fun x _ => x = r.1) (fun (_ : Unit) t => va_P (dC, dI) vwCl (dw_X10 a ac r.2) t.heap ∧ va_K (dC, dI) vwCl (dk_X10 ac) t ∧ va_D (va_A (dw_X10 a ac s0) sz) (dw_X10 a ac r.2)) (va_A (dw_X10 a ac s0) sz)) 0 0 (va_A (dw_X10 a ac s0) sz) := by
  refine Met.ofW (cc := cX10_isBroken) (maxL := 2) (ret := (some .boolean)) (by decide) rfl ?_
  intro p e s m args below meth c s₁ B hml hv
  obtain ⟨rfl, hsz, hP, hK, hD0, hN⟩ := hv
  have hx := B.exec
  have hb := B.bytes
  have hr := B.returns
  have hts := atoms_spec (ws := ow_dm_X10_isBroken) B.pre
  have hown : s.vm.findClass RX10 = some m.cls := findClass_of_methodNamed B.named
  have hlocks := B.notSynchronized
  subst hsz
  have hD := hD0.self (sz := s.heap.size)
  generalize hAe : va_A (dw_X10 a ac s0) s.heap.size = A at hD hN ⊢
  have hA : ∀ q : Nat, s.heap.size ≤ q → A q := fun q h => by rw [← hAe]; exact Or.inr h
  have hl := lv_entry ([.ref (a 0), .int v0]) (n := 2) (Nat.le_of_ble_eq_true rfl)
  rw [lg_entry_eq]
  generalize (lg_sl ([.ref (a 0), .int v0]) ++ List.replicate (2 - (lg_sl ([.ref (a 0), .int v0])).length) Slot.unset).toArray = ls at hl ⊢
  have hl : lv_has ls 2 [(0, .ref (a 0)), (1, .int v0)] := hl
  exact db_X10_isBroken_0 (dC := dC) (dI := dI) (a := a) (ac := ac) (n := n) (r := r) ⟨hlt, hx, hb, hml, hown, hts, hN, hA, hK⟩ (fun pc v τ H locs ls d z er hP hD hS => by subst er; exact W.zret (v := v) hx hb hr z (fun t ht hW => ⟨⟨v, (), rfl, rfl, by rw [ht]; exact hP, va_K.moved hW.alike hK, hD⟩, hS.F ht⟩) hS.2.2 d) v0 s0 _ _ _ h hP hD va_S.rf (lv_sub hl [0, 1] rfl)
def ow_dm_X10_fileNamed : List Cond := .code yX10_fileNamed cX10_fileNamed 5 (some .int) :: ([.fieldLink RX10 25 "TimeMachine$Things" "file" "[I", .fieldLink RX10 31 "TimeMachine$Things" "names" "[B"] ++ (u_ws RX10 TX10 11 ++ []))
theorem gd_dm_X10_fileNamed : ∀ w ∈ ow_dm_X10_fileNamed, (w.onTables && w.keeps) = true ∨ ∃ ty, w = Cond.arrayClass ty := List.forall_mem_cons.mpr ⟨good_of_word rfl, List.forall_mem_append.mpr ⟨fun w h => good_of_word (List.all_eq_true.mp (by decide +kernel) w h), List.forall_mem_append.mpr ⟨gu_X10, fun _ h => nomatch h⟩⟩⟩
theorem hi_dm_X10_fileNamed_X10 : ∀ w ∈ u_ws RX10 TX10 11, w ∈ ow_dm_X10_fileNamed := fun w h => List.mem_cons_of_mem _ (List.mem_append_right _ (List.mem_append_left _ h))
def dj_X10_fileNamed_72 (p : Program) (l : Launch) (e : Env) (s : State) (m : MethodId) (args : Array Value) (below : List Frame) (meth : Method) (c : Code) (Q : State → Prop) (A : Nat → Prop) (dC : Nat → ClassId) (dI : Nat → Nat → Nat) (a : Nat → Nat) (ac : Nat → ClassId) (g : Int32 → Int32 → (St × (St)) → Option (Int32 × (St × (St)))) (r : Int32 × (St × (St))) : Prop := ∀ (x2 : Int32) (x3 : Int32) (s0 : St × (St)) (H : Heap) (locs : List Loc) (ls : Array Slot), g x2 x3 s0 = some r → va_P (dC, dI) vwCl (dw_X10n a ac s0) H → va_D A (dw_X10n a ac s0) → va_S A s.heap H locs → lv_has ls 5 [(0, .ref (a 1)), (1, .ref (a 0)), (2, .int x2), (3, .int x3)] → W p l e (headSpec ow_dm_X10_fileNamed ({ frames := 0, cells := 0, slots := 0, locals := 0 })).room s m args below meth c H locs 0 0 Q (F0 m 72 ls [])
def dj_X10_fileNamed_65 (p : Program) (l : Launch) (e : Env) (s : State) (m : MethodId) (args : Array Value) (below : List Frame) (meth : Method) (c : Code) (Q : State → Prop) (A : Nat → Prop) (dC : Nat → ClassId) (dI : Nat → Nat → Nat) (a : Nat → Nat) (ac : Nat → ClassId) (g : Int32 → Int32 → Int32 → (St × (St)) → Option (Int32 × (St × (St)))) (r : Int32 × (St × (St))) : Prop := ∀ (x2 : Int32) (x4 : Int32) (y0 : Int32) (s0 : St × (St)) (H : Heap) (locs : List Loc) (ls : Array Slot), g x2 x4 y0 s0 = some r → va_P (dC, dI) vwCl (dw_X10n a ac s0) H → va_D A (dw_X10n a ac s0) → va_S A s.heap H locs → lv_has ls 5 [(0, .ref (a 1)), (1, .ref (a 0)), (2, .int x2), (4, .int x4)] → W p l e (headSpec ow_dm_X10_fileNamed ({ frames := 0, cells := 0, slots := 0, locals := 0 })).room s m args below meth c H locs 0 0 Q (F0 m 65 ls [.int y0])
def dj_X10_fileNamed_30 (p : Program) (l : Launch) (e : Env) (s : State) (m : MethodId) (args : Array Value) (below : List Frame) (meth : Method) (c : Code) (Q : State → Prop) (A : Nat → Prop) (dC : Nat → ClassId) (dI : Nat → Nat → Nat) (a : Nat → Nat) (ac : Nat → ClassId) (g : Int32 → Int32 → Int32 → (St × (St)) → Option (Int32 × (St × (St)))) (r : Int32 × (St × (St))) : Prop := ∀ (x2 : Int32) (x3 : Int32) (x4 : Int32) (s0 : St × (St)) (H : Heap) (locs : List Loc) (ls : Array Slot), g x2 x3 x4 s0 = some r → va_P (dC, dI) vwCl (dw_X10n a ac s0) H → va_D A (dw_X10n a ac s0) → va_S A s.heap H locs → lv_has ls 5 [(0, .ref (a 1)), (1, .ref (a 0)), (2, .int x2), (3, .int x3), (4, .int x4)] → W p l e (headSpec ow_dm_X10_fileNamed ({ frames := 0, cells := 0, slots := 0, locals := 0 })).room s m args below meth c H locs 0 0 Q (F0 m 30 ls [])
def dj_X10_fileNamed_26 (p : Program) (l : Launch) (e : Env) (s : State) (m : MethodId) (args : Array Value) (below : List Frame) (meth : Method) (c : Code) (Q : State → Prop) (A : Nat → Prop) (dC : Nat → ClassId) (dI : Nat → Nat → Nat) (a : Nat → Nat) (ac : Nat → ClassId) (g : Int32 → Int32 → (St × (St)) → Option (Int32 × (St × (St)))) (r : Int32 × (St × (St))) : Prop := ∀ (x2 : Int32) (y0 : Int32) (s0 : St × (St)) (H : Heap) (locs : List Loc) (ls : Array Slot), g x2 y0 s0 = some r → va_P (dC, dI) vwCl (dw_X10n a ac s0) H → va_D A (dw_X10n a ac s0) → va_S A s.heap H locs → lv_has ls 5 [(0, .ref (a 1)), (1, .ref (a 0)), (2, .int x2)] → W p l e (headSpec ow_dm_X10_fileNamed ({ frames := 0, cells := 0, slots := 0, locals := 0 })).room s m args below meth c H locs 0 0 Q (F0 m 26 ls [.int y0])
def dj_X10_fileNamed_2 (p : Program) (l : Launch) (e : Env) (s : State) (m : MethodId) (args : Array Value) (below : List Frame) (meth : Method) (c : Code) (Q : State → Prop) (A : Nat → Prop) (dC : Nat → ClassId) (dI : Nat → Nat → Nat) (a : Nat → Nat) (ac : Nat → ClassId) (g : Int32 → (St × (St)) → Option (Int32 × (St × (St)))) (r : Int32 × (St × (St))) : Prop := ∀ (x2 : Int32) (s0 : St × (St)) (H : Heap) (locs : List Loc) (ls : Array Slot), g x2 s0 = some r → va_P (dC, dI) vwCl (dw_X10n a ac s0) H → va_D A (dw_X10n a ac s0) → va_S A s.heap H locs → lv_has ls 5 [(0, .ref (a 1)), (1, .ref (a 0)), (2, .int x2)] → W p l e (headSpec ow_dm_X10_fileNamed ({ frames := 0, cells := 0, slots := 0, locals := 0 })).room s m args below meth c H locs 0 0 Q (F0 m 2 ls [])
def dj_X10_fileNamed_0 (p : Program) (l : Launch) (e : Env) (s : State) (m : MethodId) (args : Array Value) (below : List Frame) (meth : Method) (c : Code) (Q : State → Prop) (A : Nat → Prop) (dC : Nat → ClassId) (dI : Nat → Nat → Nat) (a : Nat → Nat) (ac : Nat → ClassId) (g : (St × (St)) → Option (Int32 × (St × (St)))) (r : Int32 × (St × (St))) : Prop := ∀ (s0 : St × (St)) (H : Heap) (locs : List Loc) (ls : Array Slot), g s0 = some r → va_P (dC, dI) vwCl (dw_X10n a ac s0) H → va_D A (dw_X10n a ac s0) → va_S A s.heap H locs → lv_has ls 5 [(0, .ref (a 1)), (1, .ref (a 0))] → W p l e (headSpec ow_dm_X10_fileNamed ({ frames := 0, cells := 0, slots := 0, locals := 0 })).room s m args below meth c H locs 0 0 Q (F0 m 0 ls [])
set_option maxHeartbeats 40000000 in
set_option maxRecDepth 100000 in
theorem db_X10_fileNamed_72 {p : Program} {l : Launch} {e : Env} {s : State} {m : MethodId} {args : Array Value} {below : List Frame} {meth : Method} {c : Code} {Q : State → Prop} {A : Nat → Prop} {dC : Nat → ClassId} {dI : Nat → Nat → Nat} {a : Nat → Nat} {ac : Nat → ClassId} {n : Nat} {r : Int32 × (St × (St))} (C : nd_C p l s m args c A (dC, dI) cX10_fileNamed 5 RX10 ow_dm_X10_fileNamed (dk_X10n ac)) (K : nd_Ki p l e (headSpec ow_dm_X10_fileNamed ({ frames := 0, cells := 0, slots := 0, locals := 0 })).room s m args below meth c Q A (dC, dI) cX10_fileNamed .int (St × (St)) (dw_X10n a ac) r) {g2 : Int32 → (St × (St)) → Option (Int32 × (St × (St)))} (J2 : dj_X10_fileNamed_2 p l e s m args below meth c Q A dC dI a ac g2 r) : dj_X10_fileNamed_72 p l e s m args below meth c Q A dC dI a ac (df_X10_fileNamed_72 n g2) r := by
  obtain ⟨hlt, hx, hb, hml, hown, hts, hN, hA, hK⟩ := id C
  intro x2 x3 s0 H locs ls h hP hD hS hl
  unfold df_X10_fileNamed_72 at h
  refine lv_iload_n hx hb dX10_fileNamed_72 rfl (lv_at hl 3 rfl) ?_
  refine lv_if_eq (tgt := 78) hx hb dX10_fileNamed_73 (by decide) (fun c5 => ?_) (fun c5 => ?_)
  · have h := nd_pos h c5
    obtain ⟨z6, ez6, h⟩ := nd_let_e h
    refine lv_iinc (v := z6) (lv' := [(2, .int z6), (0, .ref (a 1)), (1, .ref (a 0)), (3, .int x3)]) hx hb dX10_fileNamed_78 hl (k := 2) rfl (by rw [ez6]) (by decide) rfl (fun ls hl => ?_)
    refine lv_goto (tgt := 2) hx hb dX10_fileNamed_81 (by decide) ?_
    exact (J2) (z6) s0 _ _ _ h hP hD hS (lv_sub hl [1, 2, 0] rfl)
  · have h := nd_neg h c5
    refine lv_iload_n hx hb dX10_fileNamed_76 rfl (lv_at hl 2 rfl) ?_
    exact K _ _ _ _ _ _ dX10_fileNamed_77 rfl (Option.some.inj h).symm hP hD hS
set_option maxHeartbeats 40000000 in
set_option maxRecDepth 100000 in
theorem db_X10_fileNamed_65 {p : Program} {l : Launch} {e : Env} {s : State} {m : MethodId} {args : Array Value} {below : List Frame} {meth : Method} {c : Code} {Q : State → Prop} {A : Nat → Prop} {dC : Nat → ClassId} {dI : Nat → Nat → Nat} {a : Nat → Nat} {ac : Nat → ClassId} {n : Nat} {r : Int32 × (St × (St))} (C : nd_C p l s m args c A (dC, dI) cX10_fileNamed 5 RX10 ow_dm_X10_fileNamed (dk_X10n ac)) (K : nd_Ki p l e (headSpec ow_dm_X10_fileNamed ({ frames := 0, cells := 0, slots := 0, locals := 0 })).room s m args below meth c Q A (dC, dI) cX10_fileNamed .int (St × (St)) (dw_X10n a ac) r) {g2 : Int32 → (St × (St)) → Option (Int32 × (St × (St)))} {g30 : Int32 → Int32 → Int32 → (St × (St)) → Option (Int32 × (St × (St)))} (J2 : dj_X10_fileNamed_2 p l e s m args below meth c Q A dC dI a ac g2 r) (J30 : dj_X10_fileNamed_30 p l e s m args below meth c Q A dC dI a ac g30 r) : dj_X10_fileNamed_65 p l e s m args below meth c Q A dC dI a ac (df_X10_fileNamed_65 n g2 g30) r := by
  obtain ⟨hlt, hx, hb, hml, hown, hts, hN, hA, hK⟩ := id C
  intro x2 x4 y0 s0 H locs ls h hP hD hS hl
  unfold df_X10_fileNamed_65 at h
  refine lv_istore_n (lv' := [(3, .int y0), (0, .ref (a 1)), (1, .ref (a 0)), (2, .int x2), (4, .int x4)]) hx hb dX10_fileNamed_65 rfl hl (by decide) rfl (fun ls hl => ?_)
  obtain ⟨z11, ez11, h⟩ := nd_let_e h
  refine lv_iinc (v := z11) (lv' := [(4, .int z11), (3, .int y0), (0, .ref (a 1)), (1, .ref (a 0)), (2, .int x2)]) hx hb dX10_fileNamed_66 hl (k := 4) rfl (by rw [ez11]) (by decide) rfl (fun ls hl => ?_)
  refine lv_goto (tgt := 30) hx hb dX10_fileNamed_69 (by decide) ?_
  exact (J30) (x2) (y0) (z11) s0 _ _ _ h hP hD hS (lv_sub hl [2, 3, 4, 1, 0] rfl)
set_option maxHeartbeats 40000000 in
set_option maxRecDepth 100000 in
theorem dB_X10_fileNamed_30 {p : Program} {l : Launch} {e : Env} {s : State} {m : MethodId} {args : Array Value} {below : List Frame} {meth : Method} {c : Code} {Q : State → Prop} {A : Nat → Prop} {dC : Nat → ClassId} {dI : Nat → Nat → Nat} {a : Nat → Nat} {ac : Nat → ClassId} {n : Nat} {r : Int32 × (St × (St))} (C : nd_C p l s m args c A (dC, dI) cX10_fileNamed 5 RX10 ow_dm_X10_fileNamed (dk_X10n ac)) (K : nd_Ki p l e (headSpec ow_dm_X10_fileNamed ({ frames := 0, cells := 0, slots := 0, locals := 0 })).room s m args below meth c Q A (dC, dI) cX10_fileNamed .int (St × (St)) (dw_X10n a ac) r) {g2 : Int32 → (St × (St)) → Option (Int32 × (St × (St)))} (J2 : dj_X10_fileNamed_2 p l e s m args below meth c Q A dC dI a ac g2 r) {g30 : Int32 → Int32 → Int32 → (St × (St)) → Option (Int32 × (St × (St)))} (J30 : dj_X10_fileNamed_30 p l e s m args below meth c Q A dC dI a ac g30 r) : dj_X10_fileNamed_30 p l e s m args below meth c Q A dC dI a ac (dF_X10_fileNamed_30 n g2 g30) r := by
  obtain ⟨hlt, hx, hb, hml, hown, hts, hN, hA, hK⟩ := id C
  intro x2 x3 x4 s0 H locs ls h hP hD hS hl
  unfold dF_X10_fileNamed_30 at h
  refine lv_iload_n hx hb dX10_fileNamed_30 rfl (lv_at hl 3 rfl) ?_
  refine lv_if_eq (tgt := 72) hx hb dX10_fileNamed_31 (by decide) (fun c4 => ?_) (fun c4 => ?_)
  · have h := nd_pos h c4
    exact (db_X10_fileNamed_72 C K J2) (x2) (x3) s0 _ _ _ h hP hD hS (lv_sub hl [0, 1, 2, 3] rfl)
  · have h := nd_neg h c4
    refine lv_iload hx hb dX10_fileNamed_34 (lv_at hl 4 rfl) ?_
    refine lv_bipush (v := 16) hx hb dX10_fileNamed_36 (by decide) ?_
    refine lv_icmp_ge (tgt := 72) hx hb dX10_fileNamed_38 (by decide) (fun c7 => ?_) (fun c7 => ?_)
    · have h := nd_pos h c7
      exact (db_X10_fileNamed_72 C K J2) (x2) (x3) s0 _ _ _ h hP hD hS (lv_sub hl [0, 1, 2, 3] rfl)
    · have h := nd_neg h c7
      refine lv_aload_n hx hb dX10_fileNamed_41 rfl (lv_at hl 0 rfl) ?_
      refine va_get (D := (dC, dI)) (ci := 11) (v := .ref (a 8)) (C := RX10) (T := TX10) (N := 11) hx hb hts hi_dm_X10_fileNamed_X10 hown hK hP 1 rfl rfl 6 (by decide) (hts (.fieldLink RX10 31 "TimeMachine$Things" "names" "[B") (List.mem_of_getElem? (i := 2) rfl)) (fun _ h9 => h9) rfl dX10_fileNamed_42 ?_
      refine lv_iload_n hx hb dX10_fileNamed_45 rfl (lv_at hl 2 rfl) ?_
      refine lv_bipush (v := 16) hx hb dX10_fileNamed_46 (by decide) ?_
      refine lv_imul hx hb dX10_fileNamed_48 ?_
      refine lv_iload hx hb dX10_fileNamed_49 (lv_at hl 4 rfl) ?_
      refine lv_iadd hx hb dX10_fileNamed_51 ?_
      obtain ⟨i8, h⟩ := nd_ck_e h
      refine va_bald (i := ((x2 * 16) + x4)) hx hb hK hP 8 7 rfl rfl i8 dX10_fileNamed_52 ?_
      refine lv_aload_n hx hb dX10_fileNamed_53 rfl (lv_at hl 1 rfl) ?_
      refine lv_iload hx hb dX10_fileNamed_54 (lv_at hl 4 rfl) ?_
      obtain ⟨i9, h⟩ := nd_ck_e h
      refine va_bald (i := x4) hx hb hK hP 0 0 rfl rfl i9 dX10_fileNamed_56 ?_
      refine lv_icmp_ne (tgt := 64) hx hb dX10_fileNamed_57 (by decide) (fun c10 => ?_) (fun c10 => ?_)
      · have h := nd_neg h c10
        refine lv_iconst (v := 0) hx hb dX10_fileNamed_64 (by decide) ?_
        exact (db_X10_fileNamed_65 C K J2 J30) (x2) (x4) (0) s0 _ _ _ h hP hD hS (lv_sub hl [0, 1, 2, 4] rfl)
      · have h := nd_pos h c10
        refine lv_iconst (v := 1) hx hb dX10_fileNamed_60 (by decide) ?_
        refine lv_goto (tgt := 65) hx hb dX10_fileNamed_61 (by decide) ?_
        exact (db_X10_fileNamed_65 C K J2 J30) (x2) (x4) (1) s0 _ _ _ h hP hD hS (lv_sub hl [0, 1, 2, 4] rfl)
set_option maxHeartbeats 40000000 in
set_option maxRecDepth 100000 in
theorem db_X10_fileNamed_30 {p : Program} {l : Launch} {e : Env} {s : State} {m : MethodId} {args : Array Value} {below : List Frame} {meth : Method} {c : Code} {Q : State → Prop} {A : Nat → Prop} {dC : Nat → ClassId} {dI : Nat → Nat → Nat} {a : Nat → Nat} {ac : Nat → ClassId} {n : Nat} {r : Int32 × (St × (St))} (C : nd_C p l s m args c A (dC, dI) cX10_fileNamed 5 RX10 ow_dm_X10_fileNamed (dk_X10n ac)) (K : nd_Ki p l e (headSpec ow_dm_X10_fileNamed ({ frames := 0, cells := 0, slots := 0, locals := 0 })).room s m args below meth c Q A (dC, dI) cX10_fileNamed .int (St × (St)) (dw_X10n a ac) r) {g2 : Int32 → (St × (St)) → Option (Int32 × (St × (St)))} (J2 : dj_X10_fileNamed_2 p l e s m args below meth c Q A dC dI a ac g2 r) (k : Nat) : dj_X10_fileNamed_30 p l e s m args below meth c Q A dC dI a ac (df_X10_fileNamed_30 n g2 k) r := by
  induction k with
  | zero => intro x2 x3 x4 s0 H locs ls h; exact nomatch (show (none : Option (Int32 × (St × (St)))) = some r from h)
  | succ k ih => exact dB_X10_fileNamed_30 C K J2 ih
set_option maxHeartbeats 40000000 in
set_option maxRecDepth 100000 in
theorem db_X10_fileNamed_26 {p : Program} {l : Launch} {e : Env} {s : State} {m : MethodId} {args : Array Value} {below : List Frame} {meth : Method} {c : Code} {Q : State → Prop} {A : Nat → Prop} {dC : Nat → ClassId} {dI : Nat → Nat → Nat} {a : Nat → Nat} {ac : Nat → ClassId} {n : Nat} {r : Int32 × (St × (St))} (C : nd_C p l s m args c A (dC, dI) cX10_fileNamed 5 RX10 ow_dm_X10_fileNamed (dk_X10n ac)) (K : nd_Ki p l e (headSpec ow_dm_X10_fileNamed ({ frames := 0, cells := 0, slots := 0, locals := 0 })).room s m args below meth c Q A (dC, dI) cX10_fileNamed .int (St × (St)) (dw_X10n a ac) r) {g2 : Int32 → (St × (St)) → Option (Int32 × (St × (St)))} (J2 : dj_X10_fileNamed_2 p l e s m args below meth c Q A dC dI a ac g2 r) : dj_X10_fileNamed_26 p l e s m args below meth c Q A dC dI a ac (df_X10_fileNamed_26 n g2) r := by
  obtain ⟨hlt, hx, hb, hml, hown, hts, hN, hA, hK⟩ := id C
  intro x2 y0 s0 H locs ls h hP hD hS hl
  unfold df_X10_fileNamed_26 at h
  refine lv_istore_n (lv' := [(3, .int y0), (0, .ref (a 1)), (1, .ref (a 0)), (2, .int x2)]) hx hb dX10_fileNamed_26 rfl hl (by decide) rfl (fun ls hl => ?_)
  refine lv_iconst (v := 0) hx hb dX10_fileNamed_27 (by decide) ?_
  refine lv_istore (lv' := [(4, .int 0), (3, .int y0), (0, .ref (a 1)), (1, .ref (a 0)), (2, .int x2)]) hx hb dX10_fileNamed_28 hl (by decide) rfl (fun ls hl => ?_)
  exact (db_X10_fileNamed_30 C K J2 n) (x2) (y0) (0) s0 _ _ _ h hP hD hS (lv_sub hl [2, 3, 4, 1, 0] rfl)
set_option maxHeartbeats 40000000 in
set_option maxRecDepth 100000 in
theorem dB_X10_fileNamed_2 {p : Program} {l : Launch} {e : Env} {s : State} {m : MethodId} {args : Array Value} {below : List Frame} {meth : Method} {c : Code} {Q : State → Prop} {A : Nat → Prop} {dC : Nat → ClassId} {dI : Nat → Nat → Nat} {a : Nat → Nat} {ac : Nat → ClassId} {n : Nat} {r : Int32 × (St × (St))} (C : nd_C p l s m args c A (dC, dI) cX10_fileNamed 5 RX10 ow_dm_X10_fileNamed (dk_X10n ac)) (K : nd_Ki p l e (headSpec ow_dm_X10_fileNamed ({ frames := 0, cells := 0, slots := 0, locals := 0 })).room s m args below meth c Q A (dC, dI) cX10_fileNamed .int (St × (St)) (dw_X10n a ac) r) {g2 : Int32 → (St × (St)) → Option (Int32 × (St × (St)))} (J2 : dj_X10_fileNamed_2 p l e s m args below meth c Q A dC dI a ac g2 r) : dj_X10_fileNamed_2 p l e s m args below meth c Q A dC dI a ac (dF_X10_fileNamed_2 n g2) r := by
  obtain ⟨hlt, hx, hb, hml, hown, hts, hN, hA, hK⟩ := id C
  intro x2 s0 H locs ls h hP hD hS hl
  unfold dF_X10_fileNamed_2 at h
  refine lv_iload_n hx hb dX10_fileNamed_2 rfl (lv_at hl 2 rfl) ?_
  refine lv_bipush (v := 16) hx hb dX10_fileNamed_3 (by decide) ?_
  refine lv_icmp_ge (tgt := 84) hx hb dX10_fileNamed_5 (by decide) (fun c1 => ?_) (fun c1 => ?_)
  · have h := nd_pos h c1
    refine lv_iconst (v := (-1)) hx hb dX10_fileNamed_84 (by decide) ?_
    exact K _ _ _ _ _ _ dX10_fileNamed_85 rfl (Option.some.inj h).symm hP hD hS
  · have h := nd_neg h c1
    refine lv_aload_n hx hb dX10_fileNamed_8 rfl (lv_at hl 0 rfl) ?_
    refine va_get (D := (dC, dI)) (ci := 11) (v := .ref (a 6)) (C := RX10) (T := TX10) (N := 11) hx hb hts hi_dm_X10_fileNamed_X10 hown hK hP 1 rfl rfl 4 (by decide) (hts (.fieldLink RX10 25 "TimeMachine$Things" "file" "[I") (List.mem_of_getElem? (i := 1) rfl)) (fun _ h9 => h9) rfl dX10_fileNamed_9 ?_
    refine lv_iload_n hx hb dX10_fileNamed_12 rfl (lv_at hl 2 rfl) ?_
    refine lv_iconst (v := 3) hx hb dX10_fileNamed_13 (by decide) ?_
    refine lv_imul hx hb dX10_fileNamed_14 ?_
    refine lv_iconst (v := 2) hx hb dX10_fileNamed_15 (by decide) ?_
    refine lv_iadd hx hb dX10_fileNamed_16 ?_
    obtain ⟨i2, h⟩ := nd_ck_e h
    refine va_iald (i := ((x2 * 3) + 2)) hx hb hK hP 6 5 rfl rfl i2 dX10_fileNamed_17 ?_
    refine lv_if_eq (tgt := 25) hx hb dX10_fileNamed_18 (by decide) (fun c3 => ?_) (fun c3 => ?_)
    · have h := nd_pos h c3
      refine lv_iconst (v := 0) hx hb dX10_fileNamed_25 (by decide) ?_
      exact (db_X10_fileNamed_26 C K J2) (x2) (0) s0 _ _ _ h hP hD hS (lv_sub hl [0, 1, 2] rfl)
    · have h := nd_neg h c3
      refine lv_iconst (v := 1) hx hb dX10_fileNamed_21 (by decide) ?_
      refine lv_goto (tgt := 26) hx hb dX10_fileNamed_22 (by decide) ?_
      exact (db_X10_fileNamed_26 C K J2) (x2) (1) s0 _ _ _ h hP hD hS (lv_sub hl [0, 1, 2] rfl)
set_option maxHeartbeats 40000000 in
set_option maxRecDepth 100000 in
theorem db_X10_fileNamed_2 {p : Program} {l : Launch} {e : Env} {s : State} {m : MethodId} {args : Array Value} {below : List Frame} {meth : Method} {c : Code} {Q : State → Prop} {A : Nat → Prop} {dC : Nat → ClassId} {dI : Nat → Nat → Nat} {a : Nat → Nat} {ac : Nat → ClassId} {n : Nat} {r : Int32 × (St × (St))} (C : nd_C p l s m args c A (dC, dI) cX10_fileNamed 5 RX10 ow_dm_X10_fileNamed (dk_X10n ac)) (K : nd_Ki p l e (headSpec ow_dm_X10_fileNamed ({ frames := 0, cells := 0, slots := 0, locals := 0 })).room s m args below meth c Q A (dC, dI) cX10_fileNamed .int (St × (St)) (dw_X10n a ac) r) (k : Nat) : dj_X10_fileNamed_2 p l e s m args below meth c Q A dC dI a ac (df_X10_fileNamed_2 n k) r := by
  induction k with
  | zero => intro x2 s0 H locs ls h; exact nomatch (show (none : Option (Int32 × (St × (St)))) = some r from h)
  | succ k ih => exact dB_X10_fileNamed_2 C K ih
set_option maxHeartbeats 40000000 in
set_option maxRecDepth 100000 in
theorem db_X10_fileNamed_0 {p : Program} {l : Launch} {e : Env} {s : State} {m : MethodId} {args : Array Value} {below : List Frame} {meth : Method} {c : Code} {Q : State → Prop} {A : Nat → Prop} {dC : Nat → ClassId} {dI : Nat → Nat → Nat} {a : Nat → Nat} {ac : Nat → ClassId} {n : Nat} {r : Int32 × (St × (St))} (C : nd_C p l s m args c A (dC, dI) cX10_fileNamed 5 RX10 ow_dm_X10_fileNamed (dk_X10n ac)) (K : nd_Ki p l e (headSpec ow_dm_X10_fileNamed ({ frames := 0, cells := 0, slots := 0, locals := 0 })).room s m args below meth c Q A (dC, dI) cX10_fileNamed .int (St × (St)) (dw_X10n a ac) r) : dj_X10_fileNamed_0 p l e s m args below meth c Q A dC dI a ac (df_X10_fileNamed_0 n) r := by
  obtain ⟨hlt, hx, hb, hml, hown, hts, hN, hA, hK⟩ := id C
  intro s0 H locs ls h hP hD hS hl
  unfold df_X10_fileNamed_0 at h
  refine lv_iconst (v := 0) hx hb dX10_fileNamed_0 (by decide) ?_
  refine lv_istore_n (lv' := [(2, .int 0), (0, .ref (a 1)), (1, .ref (a 0))]) hx hb dX10_fileNamed_1 rfl hl (by decide) rfl (fun ls hl => ?_)
  exact (db_X10_fileNamed_2 C K n) (0) s0 _ _ _ h hP hD hS (lv_sub hl [1, 2, 0] rfl)
set_option maxHeartbeats 40000000 in
set_option maxRecDepth 100000 in
theorem dm_X10_fileNamed (l : Launch) (hlt : l.stackTraces = false) (dC : Nat → ClassId) (dI : Nat → Nat → Nat) (a : Nat → Nat) (ac : Nat → ClassId) (n : Nat) (s0 : St × (St)) {r : Int32 × (St × (St))} (h : df_X10_fileNamed n s0 = some r) (sz : Nat) : Met l yX10_fileNamed ow_dm_X10_fileNamed ({ frames := 0, cells := 0, slots := 0, locals := 0 }) (va_Pc [.ref (a 1), .ref (a 0)] (fun U => U.heap.size = sz ∧ va_P (dC, dI) vwCl (dw_X10n a ac s0) U.heap ∧ va_K (dC, dI) vwCl (dk_X10n ac) U ∧ va_D (fun _ => True) (dw_X10n a ac s0) ∧ nv_E (va_A (dw_X10n a ac s0) sz) U)) (va_Qi (fun x _ => x = r.1) (fun (_ : Unit) t => va_P (dC, dI) vwCl (dw_X10n a ac r.2) t.heap ∧ va_K (dC, dI) vwCl (dk_X10n ac) t ∧ va_D (va_A (dw_X10n a ac s0) sz) (dw_X10n a ac r.2)) (va_A (dw_X10n a ac s0) sz)) 0 0 (va_A (dw_X10n a ac s0) sz) := by
  refine Met.ofW (cc := cX10_fileNamed) (maxL := 5) (ret := (some .int)) (by decide) rfl ?_
  intro p e s m args below meth c s₁ B hml hv
  obtain ⟨rfl, hsz, hP, hK, hD0, hN⟩ := hv
  have hx := B.exec
  have hb := B.bytes
  have hr := B.returns
  have hts := atoms_spec (ws := ow_dm_X10_fileNamed) B.pre
  have hown : s.vm.findClass RX10 = some m.cls := findClass_of_methodNamed B.named
  have hlocks := B.notSynchronized
  subst hsz
  have hD := hD0.self (sz := s.heap.size)
  generalize hAe : va_A (dw_X10n a ac s0) s.heap.size = A at hD hN ⊢
  have hA : ∀ q : Nat, s.heap.size ≤ q → A q := fun q h => by rw [← hAe]; exact Or.inr h
  have hl := lv_entry ([.ref (a 1), .ref (a 0)]) (n := 5) (Nat.le_of_ble_eq_true rfl)
  rw [lg_entry_eq]
  generalize (lg_sl ([.ref (a 1), .ref (a 0)]) ++ List.replicate (5 - (lg_sl ([.ref (a 1), .ref (a 0)])).length) Slot.unset).toArray = ls at hl ⊢
  have hl : lv_has ls 5 [(0, .ref (a 1)), (1, .ref (a 0))] := hl
  exact db_X10_fileNamed_0 (dC := dC) (dI := dI) (a := a) (ac := ac) (n := n) (r := r) ⟨hlt, hx, hb, hml, hown, hts, hN, hA, hK⟩ (fun pc v τ H locs ls d z er hP hD hS => by subst er; exact W.zret (v := v) hx hb hr z (fun t ht hW => ⟨⟨v, (), rfl, rfl, by rw [ht]; exact hP, va_K.moved hW.alike hK, hD⟩, hS.F ht⟩) hS.2.2 d) s0 _ _ _ h hP hD va_S.rf (lv_sub hl [0, 1] rfl)
def ow_dm_X10_freeFile : List Cond := .code yX10_freeFile cX10_freeFile 2 (some .int) :: ([.fieldLink RX10 25 "TimeMachine$Things" "file" "[I"] ++ (u_ws RX10 TX10 11 ++ []))
theorem gd_dm_X10_freeFile : ∀ w ∈ ow_dm_X10_freeFile, (w.onTables && w.keeps) = true ∨ ∃ ty, w = Cond.arrayClass ty := List.forall_mem_cons.mpr ⟨good_of_word rfl, List.forall_mem_append.mpr ⟨fun w h => good_of_word (List.all_eq_true.mp (by decide +kernel) w h), List.forall_mem_append.mpr ⟨gu_X10, fun _ h => nomatch h⟩⟩⟩
theorem hi_dm_X10_freeFile_X10 : ∀ w ∈ u_ws RX10 TX10 11, w ∈ ow_dm_X10_freeFile := fun w h => List.mem_cons_of_mem _ (List.mem_append_right _ (List.mem_append_left _ h))
def dj_X10_freeFile_36 (p : Program) (l : Launch) (e : Env) (s : State) (m : MethodId) (args : Array Value) (below : List Frame) (meth : Method) (c : Code) (Q : State → Prop) (A : Nat → Prop) (dC : Nat → ClassId) (dI : Nat → Nat → Nat) (a : Nat → Nat) (ac : Nat → ClassId) (g : Int32 → (St) → Option (Int32 × (St))) (r : Int32 × (St)) : Prop := ∀ (x1 : Int32) (s0 : St) (H : Heap) (locs : List Loc) (ls : Array Slot), g x1 s0 = some r → va_P (dC, dI) vwCl (dw_X10 a ac s0) H → va_D A (dw_X10 a ac s0) → va_S A s.heap H locs → lv_has ls 2 [(0, .ref (a 0)), (1, .int x1)] → W p l e (headSpec ow_dm_X10_freeFile ({ frames := 0, cells := 0, slots := 0, locals := 0 })).room s m args below meth c H locs 0 0 Q (F0 m 36 ls [])
def dj_X10_freeFile_2 (p : Program) (l : Launch) (e : Env) (s : State) (m : MethodId) (args : Array Value) (below : List Frame) (meth : Method) (c : Code) (Q : State → Prop) (A : Nat → Prop) (dC : Nat → ClassId) (dI : Nat → Nat → Nat) (a : Nat → Nat) (ac : Nat → ClassId) (g : Int32 → (St) → Option (Int32 × (St))) (r : Int32 × (St)) : Prop := ∀ (x1 : Int32) (s0 : St) (H : Heap) (locs : List Loc) (ls : Array Slot), g x1 s0 = some r → va_P (dC, dI) vwCl (dw_X10 a ac s0) H → va_D A (dw_X10 a ac s0) → va_S A s.heap H locs → lv_has ls 2 [(0, .ref (a 0)), (1, .int x1)] → W p l e (headSpec ow_dm_X10_freeFile ({ frames := 0, cells := 0, slots := 0, locals := 0 })).room s m args below meth c H locs 0 0 Q (F0 m 2 ls [])
def dj_X10_freeFile_0 (p : Program) (l : Launch) (e : Env) (s : State) (m : MethodId) (args : Array Value) (below : List Frame) (meth : Method) (c : Code) (Q : State → Prop) (A : Nat → Prop) (dC : Nat → ClassId) (dI : Nat → Nat → Nat) (a : Nat → Nat) (ac : Nat → ClassId) (g : (St) → Option (Int32 × (St))) (r : Int32 × (St)) : Prop := ∀ (s0 : St) (H : Heap) (locs : List Loc) (ls : Array Slot), g s0 = some r → va_P (dC, dI) vwCl (dw_X10 a ac s0) H → va_D A (dw_X10 a ac s0) → va_S A s.heap H locs → lv_has ls 2 [(0, .ref (a 0))] → W p l e (headSpec ow_dm_X10_freeFile ({ frames := 0, cells := 0, slots := 0, locals := 0 })).room s m args below meth c H locs 0 0 Q (F0 m 0 ls [])
set_option maxHeartbeats 40000000 in
set_option maxRecDepth 100000 in
theorem db_X10_freeFile_36 {p : Program} {l : Launch} {e : Env} {s : State} {m : MethodId} {args : Array Value} {below : List Frame} {meth : Method} {c : Code} {Q : State → Prop} {A : Nat → Prop} {dC : Nat → ClassId} {dI : Nat → Nat → Nat} {a : Nat → Nat} {ac : Nat → ClassId} {n : Nat} {r : Int32 × (St)} (C : nd_C p l s m args c A (dC, dI) cX10_freeFile 2 RX10 ow_dm_X10_freeFile (dk_X10 ac)) (K : nd_Ki p l e (headSpec ow_dm_X10_freeFile ({ frames := 0, cells := 0, slots := 0, locals := 0 })).room s m args below meth c Q A (dC, dI) cX10_freeFile .int (St) (dw_X10 a ac) r) {g2 : Int32 → (St) → Option (Int32 × (St))} (J2 : dj_X10_freeFile_2 p l e s m args below meth c Q A dC dI a ac g2 r) : dj_X10_freeFile_36 p l e s m args below meth c Q A dC dI a ac (df_X10_freeFile_36 n g2) r := by
  obtain ⟨hlt, hx, hb, hml, hown, hts, hN, hA, hK⟩ := id C
  intro x1 s0 H locs ls h hP hD hS hl
  unfold df_X10_freeFile_36 at h
  obtain ⟨z4, ez4, h⟩ := nd_let_e h
  refine lv_iinc (v := z4) (lv' := [(1, .int z4), (0, .ref (a 0))]) hx hb dX10_freeFile_36 hl (k := 1) rfl (by rw [ez4]) (by decide) rfl (fun ls hl => ?_)
  refine lv_goto (tgt := 2) hx hb dX10_freeFile_39 (by decide) ?_
  exact (J2) (z4) s0 _ _ _ h hP hD hS (lv_sub hl [1, 0] rfl)
set_option maxHeartbeats 40000000 in
set_option maxRecDepth 100000 in
theorem dB_X10_freeFile_2 {p : Program} {l : Launch} {e : Env} {s : State} {m : MethodId} {args : Array Value} {below : List Frame} {meth : Method} {c : Code} {Q : State → Prop} {A : Nat → Prop} {dC : Nat → ClassId} {dI : Nat → Nat → Nat} {a : Nat → Nat} {ac : Nat → ClassId} {n : Nat} {r : Int32 × (St)} (C : nd_C p l s m args c A (dC, dI) cX10_freeFile 2 RX10 ow_dm_X10_freeFile (dk_X10 ac)) (K : nd_Ki p l e (headSpec ow_dm_X10_freeFile ({ frames := 0, cells := 0, slots := 0, locals := 0 })).room s m args below meth c Q A (dC, dI) cX10_freeFile .int (St) (dw_X10 a ac) r) {g2 : Int32 → (St) → Option (Int32 × (St))} (J2 : dj_X10_freeFile_2 p l e s m args below meth c Q A dC dI a ac g2 r) : dj_X10_freeFile_2 p l e s m args below meth c Q A dC dI a ac (dF_X10_freeFile_2 n g2) r := by
  obtain ⟨hlt, hx, hb, hml, hown, hts, hN, hA, hK⟩ := id C
  intro x1 s0 H locs ls h hP hD hS hl
  unfold dF_X10_freeFile_2 at h
  refine lv_iload_n hx hb dX10_freeFile_2 rfl (lv_at hl 1 rfl) ?_
  refine lv_bipush (v := 16) hx hb dX10_freeFile_3 (by decide) ?_
  refine lv_icmp_ge (tgt := 42) hx hb dX10_freeFile_5 (by decide) (fun c1 => ?_) (fun c1 => ?_)
  · have h := nd_pos h c1
    refine lv_iconst (v := (-1)) hx hb dX10_freeFile_42 (by decide) ?_
    exact K _ _ _ _ _ _ dX10_freeFile_43 rfl (Option.some.inj h).symm hP hD hS
  · have h := nd_neg h c1
    refine lv_aload_n hx hb dX10_freeFile_8 rfl (lv_at hl 0 rfl) ?_
    refine va_get (D := (dC, dI)) (ci := 11) (v := .ref (a 5)) (C := RX10) (T := TX10) (N := 11) hx hb hts hi_dm_X10_freeFile_X10 hown hK hP 0 rfl rfl 4 (by decide) (hts (.fieldLink RX10 25 "TimeMachine$Things" "file" "[I") (List.mem_of_getElem? (i := 1) rfl)) (fun _ h9 => h9) rfl dX10_freeFile_9 ?_
    refine lv_iload_n hx hb dX10_freeFile_12 rfl (lv_at hl 1 rfl) ?_
    refine lv_iconst (v := 3) hx hb dX10_freeFile_13 (by decide) ?_
    refine lv_imul hx hb dX10_freeFile_14 ?_
    refine lv_iconst (v := 2) hx hb dX10_freeFile_15 (by decide) ?_
    refine lv_iadd hx hb dX10_freeFile_16 ?_
    obtain ⟨i2, h⟩ := nd_ck_e h
    refine va_iald (i := ((x1 * 3) + 2)) hx hb hK hP 5 4 rfl rfl i2 dX10_freeFile_17 ?_
    refine lv_if_ne (tgt := 36) hx hb dX10_freeFile_18 (by decide) (fun c3 => ?_) (fun c3 => ?_)
    · have h := nd_neg h c3
      exact (db_X10_freeFile_36 C K J2) (x1) s0 _ _ _ h hP hD hS (lv_sub hl [0, 1] rfl)
    · have h := nd_pos h c3
      refine lv_aload_n hx hb dX10_freeFile_21 rfl (lv_at hl 0 rfl) ?_
      refine va_get (D := (dC, dI)) (ci := 11) (v := .ref (a 5)) (C := RX10) (T := TX10) (N := 11) hx hb hts hi_dm_X10_freeFile_X10 hown hK hP 0 rfl rfl 4 (by decide) (hts (.fieldLink RX10 25 "TimeMachine$Things" "file" "[I") (List.mem_of_getElem? (i := 1) rfl)) (fun _ h9 => h9) rfl dX10_freeFile_22 ?_
      refine lv_iload_n hx hb dX10_freeFile_25 rfl (lv_at hl 1 rfl) ?_
      refine lv_iconst (v := 3) hx hb dX10_freeFile_26 (by decide) ?_
      refine lv_imul hx hb dX10_freeFile_27 ?_
      refine lv_iconst (v := 1) hx hb dX10_freeFile_28 (by decide) ?_
      refine lv_iadd hx hb dX10_freeFile_29 ?_
      obtain ⟨i5, h⟩ := nd_ck_e h
      refine va_iald (i := ((x1 * 3) + 1)) hx hb hK hP 5 4 rfl rfl i5 dX10_freeFile_30 ?_
      refine lv_if_ne (tgt := 36) hx hb dX10_freeFile_31 (by decide) (fun c6 => ?_) (fun c6 => ?_)
      · have h := nd_neg h c6
        exact (db_X10_freeFile_36 C K J2) (x1) s0 _ _ _ h hP hD hS (lv_sub hl [0, 1] rfl)
      · have h := nd_pos h c6
        refine lv_iload_n hx hb dX10_freeFile_34 rfl (lv_at hl 1 rfl) ?_
        exact K _ _ _ _ _ _ dX10_freeFile_35 rfl (Option.some.inj h).symm hP hD hS
set_option maxHeartbeats 40000000 in
set_option maxRecDepth 100000 in
theorem db_X10_freeFile_2 {p : Program} {l : Launch} {e : Env} {s : State} {m : MethodId} {args : Array Value} {below : List Frame} {meth : Method} {c : Code} {Q : State → Prop} {A : Nat → Prop} {dC : Nat → ClassId} {dI : Nat → Nat → Nat} {a : Nat → Nat} {ac : Nat → ClassId} {n : Nat} {r : Int32 × (St)} (C : nd_C p l s m args c A (dC, dI) cX10_freeFile 2 RX10 ow_dm_X10_freeFile (dk_X10 ac)) (K : nd_Ki p l e (headSpec ow_dm_X10_freeFile ({ frames := 0, cells := 0, slots := 0, locals := 0 })).room s m args below meth c Q A (dC, dI) cX10_freeFile .int (St) (dw_X10 a ac) r) (k : Nat) : dj_X10_freeFile_2 p l e s m args below meth c Q A dC dI a ac (df_X10_freeFile_2 n k) r := by
  induction k with
  | zero => intro x1 s0 H locs ls h; exact nomatch (show (none : Option (Int32 × (St))) = some r from h)
  | succ k ih => exact dB_X10_freeFile_2 C K ih
set_option maxHeartbeats 40000000 in
set_option maxRecDepth 100000 in
theorem db_X10_freeFile_0 {p : Program} {l : Launch} {e : Env} {s : State} {m : MethodId} {args : Array Value} {below : List Frame} {meth : Method} {c : Code} {Q : State → Prop} {A : Nat → Prop} {dC : Nat → ClassId} {dI : Nat → Nat → Nat} {a : Nat → Nat} {ac : Nat → ClassId} {n : Nat} {r : Int32 × (St)} (C : nd_C p l s m args c A (dC, dI) cX10_freeFile 2 RX10 ow_dm_X10_freeFile (dk_X10 ac)) (K : nd_Ki p l e (headSpec ow_dm_X10_freeFile ({ frames := 0, cells := 0, slots := 0, locals := 0 })).room s m args below meth c Q A (dC, dI) cX10_freeFile .int (St) (dw_X10 a ac) r) : dj_X10_freeFile_0 p l e s m args below meth c Q A dC dI a ac (df_X10_freeFile_0 n) r := by
  obtain ⟨hlt, hx, hb, hml, hown, hts, hN, hA, hK⟩ := id C
  intro s0 H locs ls h hP hD hS hl
  unfold df_X10_freeFile_0 at h
  refine lv_iconst (v := 0) hx hb dX10_freeFile_0 (by decide) ?_
  refine lv_istore_n (lv' := [(1, .int 0), (0, .ref (a 0))]) hx hb dX10_freeFile_1 rfl hl (by decide) rfl (fun ls hl => ?_)
  exact (db_X10_freeFile_2 C K n) (0) s0 _ _ _ h hP hD hS (lv_sub hl [1, 0] rfl)
set_option maxHeartbeats 40000000 in
set_option maxRecDepth 100000 in
theorem dm_X10_freeFile (l : Launch) (hlt : l.stackTraces = false) (dC : Nat → ClassId) (dI : Nat → Nat → Nat) (a : Nat → Nat) (ac : Nat → ClassId) (n : Nat) (s0 : St) {r : Int32 × (St)} (h : df_X10_freeFile n s0 = some r) (sz : Nat) : Met l yX10_freeFile ow_dm_X10_freeFile ({ frames := 0, cells := 0, slots := 0, locals := 0 }) (va_Pc [.ref (a 0)] (fun U => U.heap.size = sz ∧ va_P (dC, dI) vwCl (dw_X10 a ac s0) U.heap ∧ va_K (dC, dI) vwCl (dk_X10 ac) U ∧ va_D (fun _ => True) (dw_X10 a ac s0) ∧ nv_E (va_A (dw_X10 a ac s0) sz) U)) (va_Qi (fun x _ => x = r.1) (fun (_ : Unit) t => va_P (dC, dI) vwCl (dw_X10 a ac r.2) t.heap ∧ va_K (dC, dI) vwCl (dk_X10 ac) t ∧ va_D (va_A (dw_X10 a ac s0) sz) (dw_X10 a ac r.2)) (va_A (dw_X10 a ac s0) sz)) 0 0 (va_A (dw_X10 a ac s0) sz) := by
  refine Met.ofW (cc := cX10_freeFile) (maxL := 2) (ret := (some .int)) (by decide) rfl ?_
  intro p e s m args below meth c s₁ B hml hv
  obtain ⟨rfl, hsz, hP, hK, hD0, hN⟩ := hv
  have hx := B.exec
  have hb := B.bytes
  have hr := B.returns
  have hts := atoms_spec (ws := ow_dm_X10_freeFile) B.pre
  have hown : s.vm.findClass RX10 = some m.cls := findClass_of_methodNamed B.named
  have hlocks := B.notSynchronized
  subst hsz
  have hD := hD0.self (sz := s.heap.size)
  generalize hAe : va_A (dw_X10 a ac s0) s.heap.size = A at hD hN ⊢
  have hA : ∀ q : Nat, s.heap.size ≤ q → A q := fun q h => by rw [← hAe]; exact Or.inr h
  have hl := lv_entry ([.ref (a 0)]) (n := 2) (Nat.le_of_ble_eq_true rfl)
  rw [lg_entry_eq]
  generalize (lg_sl ([.ref (a 0)]) ++ List.replicate (2 - (lg_sl ([.ref (a 0)])).length) Slot.unset).toArray = ls at hl ⊢
  have hl : lv_has ls 2 [(0, .ref (a 0))] := hl
  exact db_X10_freeFile_0 (dC := dC) (dI := dI) (a := a) (ac := ac) (n := n) (r := r) ⟨hlt, hx, hb, hml, hown, hts, hN, hA, hK⟩ (fun pc v τ H locs ls d z er hP hD hS => by subst er; exact W.zret (v := v) hx hb hr z (fun t ht hW => ⟨⟨v, (), rfl, rfl, by rw [ht]; exact hP, va_K.moved hW.alike hK, hD⟩, hS.F ht⟩) hS.2.2 d) s0 _ _ _ h hP hD va_S.rf (lv_sub hl [0] rfl)
def ow_dm_X10_giveName : List Cond := .code yX10_giveName cX10_giveName 3 none :: ([.fieldLink RX10 25 "TimeMachine$Things" "file" "[I", .fieldLink RX10 31 "TimeMachine$Things" "names" "[B", .methodLink RX10 62 arraycopyName, .native arraycopyName, .static arraycopyName, .initialized "java/lang/System"] ++ (u_ws RX10 TX10 11 ++ []))
theorem gd_dm_X10_giveName : ∀ w ∈ ow_dm_X10_giveName, (w.onTables && w.keeps) = true ∨ ∃ ty, w = Cond.arrayClass ty := List.forall_mem_cons.mpr ⟨good_of_word rfl, List.forall_mem_append.mpr ⟨fun w h => good_of_word (List.all_eq_true.mp (by decide +kernel) w h), List.forall_mem_append.mpr ⟨gu_X10, fun _ h => nomatch h⟩⟩⟩
theorem hi_dm_X10_giveName_X10 : ∀ w ∈ u_ws RX10 TX10 11, w ∈ ow_dm_X10_giveName := fun w h => List.mem_cons_of_mem _ (List.mem_append_right _ (List.mem_append_left _ h))
def dj_X10_giveName_0 (p : Program) (l : Launch) (e : Env) (s : State) (m : MethodId) (args : Array Value) (below : List Frame) (meth : Method) (c : Code) (Q : State → Prop) (A : Nat → Prop) (dC : Nat → ClassId) (dI : Nat → Nat → Nat) (a : Nat → Nat) (ac : Nat → ClassId) (g : Int32 → (St × (St)) → Option (St × (St))) (r : St × (St)) : Prop := ∀ (v0 : Int32) (s0 : St × (St)) (H : Heap) (locs : List Loc) (ls : Array Slot), g v0 s0 = some r → va_P (dC, dI) vwCl (dw_X10n a ac s0) H → va_D A (dw_X10n a ac s0) → va_S A s.heap H locs → lv_has ls 3 [(0, .ref (a 1)), (1, .int v0), (2, .ref (a 0))] → W p l e (headSpec ow_dm_X10_giveName ({ frames := 1, cells := 0, slots := 0, locals := 40 })).room s m args below meth c H locs 0 0 Q (F0 m 0 ls [])
set_option maxHeartbeats 40000000 in
set_option maxRecDepth 100000 in
theorem db_X10_giveName_0 {p : Program} {l : Launch} {e : Env} {s : State} {m : MethodId} {args : Array Value} {below : List Frame} {meth : Method} {c : Code} {Q : State → Prop} {A : Nat → Prop} {dC : Nat → ClassId} {dI : Nat → Nat → Nat} {a : Nat → Nat} {ac : Nat → ClassId} {n : Nat} {r : St × (St)} (C : nd_C p l s m args c A (dC, dI) cX10_giveName 3 RX10 ow_dm_X10_giveName (dk_X10n ac)) (K : nd_Kv p l e (headSpec ow_dm_X10_giveName ({ frames := 1, cells := 0, slots := 0, locals := 40 })).room s m args below meth c Q A (dC, dI) cX10_giveName (St × (St)) (dw_X10n a ac) r) : dj_X10_giveName_0 p l e s m args below meth c Q A dC dI a ac (df_X10_giveName_0 n) r := by
  obtain ⟨hlt, hx, hb, hml, hown, hts, hN, hA, hK⟩ := id C
  intro v0 s0 H locs ls h hP hD hS hl
  unfold df_X10_giveName_0 at h
  refine lv_aload_n hx hb dX10_giveName_0 rfl (lv_at hl 0 rfl) ?_
  refine va_get (D := (dC, dI)) (ci := 11) (v := .ref (a 6)) (C := RX10) (T := TX10) (N := 11) hx hb hts hi_dm_X10_giveName_X10 hown hK hP 1 rfl rfl 4 (by decide) (hts (.fieldLink RX10 25 "TimeMachine$Things" "file" "[I") (List.mem_of_getElem? (i := 1) rfl)) (fun _ h9 => h9) rfl dX10_giveName_1 ?_
  refine lv_iload_n hx hb dX10_giveName_4 rfl (lv_at hl 1 rfl) ?_
  refine lv_iconst (v := 3) hx hb dX10_giveName_5 (by decide) ?_
  refine lv_imul hx hb dX10_giveName_6 ?_
  refine lv_iconst (v := 2) hx hb dX10_giveName_7 (by decide) ?_
  refine lv_iadd hx hb dX10_giveName_8 ?_
  refine lv_iconst (v := 1) hx hb dX10_giveName_9 (by decide) ?_
  obtain ⟨i1, h⟩ := nd_ck_e h
  refine va_iast (i := ((v0 * 3) + 2)) (x := 1) hx hb hK hP hD hS 6 5 rfl rfl i1 dX10_giveName_10 (fun H locs hP hD hS => ?_)
  obtain ⟨s2, es2, h⟩ := nd_let_e h
  have hP : va_P (dC, dI) vwCl (dw_X10n a ac s2) H := by rw [es2]; exact hP
  have hD : va_D A (dw_X10n a ac s2) := by rw [es2]; exact hD
  refine lv_aload_n hx hb dX10_giveName_11 rfl (lv_at hl 2 rfl) ?_
  refine lv_iconst (v := 0) hx hb dX10_giveName_12 (by decide) ?_
  refine lv_aload_n hx hb dX10_giveName_13 rfl (lv_at hl 0 rfl) ?_
  refine va_get (D := (dC, dI)) (ci := 11) (v := .ref (a 8)) (C := RX10) (T := TX10) (N := 11) hx hb hts hi_dm_X10_giveName_X10 hown hK hP 1 rfl rfl 6 (by decide) (hts (.fieldLink RX10 31 "TimeMachine$Things" "names" "[B") (List.mem_of_getElem? (i := 2) rfl)) (fun _ h9 => h9) rfl dX10_giveName_14 ?_
  refine lv_iload_n hx hb dX10_giveName_17 rfl (lv_at hl 1 rfl) ?_
  refine lv_bipush (v := 16) hx hb dX10_giveName_18 (by decide) ?_
  refine lv_imul hx hb dX10_giveName_20 ?_
  refine lv_bipush (v := 16) hx hb dX10_giveName_21 (by decide) ?_
  obtain ⟨k3, h⟩ := nd_cp_e h
  obtain ⟨k4, h⟩ := nd_fa_e h
  refine va_copyi (sp := 0) (dp := (v0 * 16)) (n := 16) hx hb (by rw [hml]; exact hl.1.symm) hown (hts (.methodLink RX10 62 arraycopyName) (List.mem_of_getElem? (i := 3) rfl)) (hts (.native arraycopyName) (List.mem_of_getElem? (i := 4) rfl)) (hts (.static arraycopyName) (List.mem_of_getElem? (i := 5) rfl)) (hts (.initialized "java/lang/System") (List.mem_of_getElem? (i := 6) rfl)) hK hP hD hS 0 8 0 7 rfl rfl rfl rfl rfl k3.1 k3.2.1 k3.2.2.1 k3.2.2.2.1 k3.2.2.2.2 k4 (Nat.le_of_ble_eq_true rfl) (by decide +kernel) dX10_giveName_23 (fun H locs hP hD hS => ?_)
  obtain ⟨s5, es5, h⟩ := nd_let_e h
  have hP : va_P (dC, dI) vwCl (dw_X10n a ac s5) H := by rw [es5]; exact hP
  have hD : va_D A (dw_X10n a ac s5) := by rw [es5]; exact hD
  exact K _ _ _ _ _ dX10_giveName_26 (Option.some.inj h).symm hP hD hS
set_option maxHeartbeats 40000000 in
set_option maxRecDepth 100000 in
theorem dm_X10_giveName (l : Launch) (hlt : l.stackTraces = false) (dC : Nat → ClassId) (dI : Nat → Nat → Nat) (a : Nat → Nat) (ac : Nat → ClassId) (n : Nat) (v0 : Int32) (s0 : St × (St)) {r : St × (St)} (h : df_X10_giveName n v0 s0 = some r) (sz : Nat) : Met l yX10_giveName ow_dm_X10_giveName ({ frames := 1, cells := 0, slots := 0, locals := 40 }) (va_Pc [.ref (a 1), .int v0, .ref (a 0)] (fun U => U.heap.size = sz ∧ va_P (dC, dI) vwCl (dw_X10n a ac s0) U.heap ∧ va_K (dC, dI) vwCl (dk_X10n ac) U ∧ va_D (fun _ => True) (dw_X10n a ac s0) ∧ nv_E (va_A (dw_X10n a ac s0) sz) U)) (va_Qv (fun _ => True) (fun (_ : Unit) t => va_P (dC, dI) vwCl (dw_X10n a ac r) t.heap ∧ va_K (dC, dI) vwCl (dk_X10n ac) t ∧ va_D (va_A (dw_X10n a ac s0) sz) (dw_X10n a ac r)) (va_A (dw_X10n a ac s0) sz)) 0 0 (va_A (dw_X10n a ac s0) sz) := by
  refine Met.ofW (cc := cX10_giveName) (maxL := 3) (ret := none) (by decide) rfl ?_
  intro p e s m args below meth c s₁ B hml hv
  obtain ⟨rfl, hsz, hP, hK, hD0, hN⟩ := hv
  have hx := B.exec
  have hb := B.bytes
  have hr := B.returns
  have hts := atoms_spec (ws := ow_dm_X10_giveName) B.pre
  have hown : s.vm.findClass RX10 = some m.cls := findClass_of_methodNamed B.named
  have hlocks := B.notSynchronized
  subst hsz
  have hD := hD0.self (sz := s.heap.size)
  generalize hAe : va_A (dw_X10n a ac s0) s.heap.size = A at hD hN ⊢
  have hA : ∀ q : Nat, s.heap.size ≤ q → A q := fun q h => by rw [← hAe]; exact Or.inr h
  have hl := lv_entry ([.ref (a 1), .int v0, .ref (a 0)]) (n := 3) (Nat.le_of_ble_eq_true rfl)
  rw [lg_entry_eq]
  generalize (lg_sl ([.ref (a 1), .int v0, .ref (a 0)]) ++ List.replicate (3 - (lg_sl ([.ref (a 1), .int v0, .ref (a 0)])).length) Slot.unset).toArray = ls at hl ⊢
  have hl : lv_has ls 3 [(0, .ref (a 1)), (1, .int v0), (2, .ref (a 0))] := hl
  exact db_X10_giveName_0 (dC := dC) (dI := dI) (a := a) (ac := ac) (n := n) (r := r) ⟨hlt, hx, hb, hml, hown, hts, hN, hA, hK⟩ (fun pc τ H locs ls d er hP hD hS => by subst er; exact W.vret hx hb hr (fun t ht hW => ⟨⟨(), rfl, trivial, by rw [ht]; exact hP, va_K.moved hW.alike hK, hD⟩, hS.F ht⟩) hS.2.2 d) v0 s0 _ _ _ h hP hD va_S.rf (lv_sub hl [0, 1, 2] rfl)
def ow_dm_X10_loseName : List Cond := .code yX10_loseName cX10_loseName 2 none :: ([.fieldLink RX10 25 "TimeMachine$Things" "file" "[I"] ++ (u_ws RX10 TX10 11 ++ []))
theorem gd_dm_X10_loseName : ∀ w ∈ ow_dm_X10_loseName, (w.onTables && w.keeps) = true ∨ ∃ ty, w = Cond.arrayClass ty := List.forall_mem_cons.mpr ⟨good_of_word rfl, List.forall_mem_append.mpr ⟨fun w h => good_of_word (List.all_eq_true.mp (by decide +kernel) w h), List.forall_mem_append.mpr ⟨gu_X10, fun _ h => nomatch h⟩⟩⟩
theorem hi_dm_X10_loseName_X10 : ∀ w ∈ u_ws RX10 TX10 11, w ∈ ow_dm_X10_loseName := fun w h => List.mem_cons_of_mem _ (List.mem_append_right _ (List.mem_append_left _ h))
def dj_X10_loseName_0 (p : Program) (l : Launch) (e : Env) (s : State) (m : MethodId) (args : Array Value) (below : List Frame) (meth : Method) (c : Code) (Q : State → Prop) (A : Nat → Prop) (dC : Nat → ClassId) (dI : Nat → Nat → Nat) (a : Nat → Nat) (ac : Nat → ClassId) (g : Int32 → (St) → Option (St)) (r : St) : Prop := ∀ (v0 : Int32) (s0 : St) (H : Heap) (locs : List Loc) (ls : Array Slot), g v0 s0 = some r → va_P (dC, dI) vwCl (dw_X10 a ac s0) H → va_D A (dw_X10 a ac s0) → va_S A s.heap H locs → lv_has ls 2 [(0, .ref (a 0)), (1, .int v0)] → W p l e (headSpec ow_dm_X10_loseName ({ frames := 0, cells := 0, slots := 0, locals := 0 })).room s m args below meth c H locs 0 0 Q (F0 m 0 ls [])
set_option maxHeartbeats 40000000 in
set_option maxRecDepth 100000 in
theorem db_X10_loseName_0 {p : Program} {l : Launch} {e : Env} {s : State} {m : MethodId} {args : Array Value} {below : List Frame} {meth : Method} {c : Code} {Q : State → Prop} {A : Nat → Prop} {dC : Nat → ClassId} {dI : Nat → Nat → Nat} {a : Nat → Nat} {ac : Nat → ClassId} {n : Nat} {r : St} (C : nd_C p l s m args c A (dC, dI) cX10_loseName 2 RX10 ow_dm_X10_loseName (dk_X10 ac)) (K : nd_Kv p l e (headSpec ow_dm_X10_loseName ({ frames := 0, cells := 0, slots := 0, locals := 0 })).room s m args below meth c Q A (dC, dI) cX10_loseName (St) (dw_X10 a ac) r) : dj_X10_loseName_0 p l e s m args below meth c Q A dC dI a ac (df_X10_loseName_0 n) r := by
  obtain ⟨hlt, hx, hb, hml, hown, hts, hN, hA, hK⟩ := id C
  intro v0 s0 H locs ls h hP hD hS hl
  unfold df_X10_loseName_0 at h
  refine lv_aload_n hx hb dX10_loseName_0 rfl (lv_at hl 0 rfl) ?_
  refine va_get (D := (dC, dI)) (ci := 11) (v := .ref (a 5)) (C := RX10) (T := TX10) (N := 11) hx hb hts hi_dm_X10_loseName_X10 hown hK hP 0 rfl rfl 4 (by decide) (hts (.fieldLink RX10 25 "TimeMachine$Things" "file" "[I") (List.mem_of_getElem? (i := 1) rfl)) (fun _ h9 => h9) rfl dX10_loseName_1 ?_
  refine lv_iload_n hx hb dX10_loseName_4 rfl (lv_at hl 1 rfl) ?_
  refine lv_iconst (v := 3) hx hb dX10_loseName_5 (by decide) ?_
  refine lv_imul hx hb dX10_loseName_6 ?_
  refine lv_iconst (v := 2) hx hb dX10_loseName_7 (by decide) ?_
  refine lv_iadd hx hb dX10_loseName_8 ?_
  refine lv_iconst (v := 0) hx hb dX10_loseName_9 (by decide) ?_
  obtain ⟨i1, h⟩ := nd_ck_e h
  refine va_iast (i := ((v0 * 3) + 2)) (x := 0) hx hb hK hP hD hS 5 4 rfl rfl i1 dX10_loseName_10 (fun H locs hP hD hS => ?_)
  obtain ⟨s2, es2, h⟩ := nd_let_e h
  have hP : va_P (dC, dI) vwCl (dw_X10 a ac s2) H := by rw [es2]; exact hP
  have hD : va_D A (dw_X10 a ac s2) := by rw [es2]; exact hD
  exact K _ _ _ _ _ dX10_loseName_11 (Option.some.inj h).symm hP hD hS
set_option maxHeartbeats 40000000 in
set_option maxRecDepth 100000 in
theorem dm_X10_loseName (l : Launch) (hlt : l.stackTraces = false) (dC : Nat → ClassId) (dI : Nat → Nat → Nat) (a : Nat → Nat) (ac : Nat → ClassId) (n : Nat) (v0 : Int32) (s0 : St) {r : St} (h : df_X10_loseName n v0 s0 = some r) (sz : Nat) : Met l yX10_loseName ow_dm_X10_loseName ({ frames := 0, cells := 0, slots := 0, locals := 0 }) (va_Pc [.ref (a 0), .int v0] (fun U => U.heap.size = sz ∧ va_P (dC, dI) vwCl (dw_X10 a ac s0) U.heap ∧ va_K (dC, dI) vwCl (dk_X10 ac) U ∧ va_D (fun _ => True) (dw_X10 a ac s0) ∧ nv_E (va_A (dw_X10 a ac s0) sz) U)) (va_Qv (fun _ => True) (fun (_ : Unit) t => va_P (dC, dI) vwCl (dw_X10 a ac r) t.heap ∧ va_K (dC, dI) vwCl (dk_X10 ac) t ∧ va_D (va_A (dw_X10 a ac s0) sz) (dw_X10 a ac r)) (va_A (dw_X10 a ac s0) sz)) 0 0 (va_A (dw_X10 a ac s0) sz) := by
  refine Met.ofW (cc := cX10_loseName) (maxL := 2) (ret := none) (by decide) rfl ?_
  intro p e s m args below meth c s₁ B hml hv
  obtain ⟨rfl, hsz, hP, hK, hD0, hN⟩ := hv
  have hx := B.exec
  have hb := B.bytes
  have hr := B.returns
  have hts := atoms_spec (ws := ow_dm_X10_loseName) B.pre
  have hown : s.vm.findClass RX10 = some m.cls := findClass_of_methodNamed B.named
  have hlocks := B.notSynchronized
  subst hsz
  have hD := hD0.self (sz := s.heap.size)
  generalize hAe : va_A (dw_X10 a ac s0) s.heap.size = A at hD hN ⊢
  have hA : ∀ q : Nat, s.heap.size ≤ q → A q := fun q h => by rw [← hAe]; exact Or.inr h
  have hl := lv_entry ([.ref (a 0), .int v0]) (n := 2) (Nat.le_of_ble_eq_true rfl)
  rw [lg_entry_eq]
  generalize (lg_sl ([.ref (a 0), .int v0]) ++ List.replicate (2 - (lg_sl ([.ref (a 0), .int v0])).length) Slot.unset).toArray = ls at hl ⊢
  have hl : lv_has ls 2 [(0, .ref (a 0)), (1, .int v0)] := hl
  exact db_X10_loseName_0 (dC := dC) (dI := dI) (a := a) (ac := ac) (n := n) (r := r) ⟨hlt, hx, hb, hml, hown, hts, hN, hA, hK⟩ (fun pc τ H locs ls d er hP hD hS => by subst er; exact W.vret hx hb hr (fun t ht hW => ⟨⟨(), rfl, trivial, by rw [ht]; exact hP, va_K.moved hW.alike hK, hD⟩, hS.F ht⟩) hS.2.2 d) v0 s0 _ _ _ h hP hD va_S.rf (lv_sub hl [0, 1] rfl)
def ow_dm_X10_emptyFile : List Cond := .code yX10_emptyFile cX10_emptyFile 2 none :: ([.fieldLink RX10 25 "TimeMachine$Things" "file" "[I"] ++ (u_ws RX10 TX10 11 ++ []))
theorem gd_dm_X10_emptyFile : ∀ w ∈ ow_dm_X10_emptyFile, (w.onTables && w.keeps) = true ∨ ∃ ty, w = Cond.arrayClass ty := List.forall_mem_cons.mpr ⟨good_of_word rfl, List.forall_mem_append.mpr ⟨fun w h => good_of_word (List.all_eq_true.mp (by decide +kernel) w h), List.forall_mem_append.mpr ⟨gu_X10, fun _ h => nomatch h⟩⟩⟩
theorem hi_dm_X10_emptyFile_X10 : ∀ w ∈ u_ws RX10 TX10 11, w ∈ ow_dm_X10_emptyFile := fun w h => List.mem_cons_of_mem _ (List.mem_append_right _ (List.mem_append_left _ h))
def dj_X10_emptyFile_0 (p : Program) (l : Launch) (e : Env) (s : State) (m : MethodId) (args : Array Value) (below : List Frame) (meth : Method) (c : Code) (Q : State → Prop) (A : Nat → Prop) (dC : Nat → ClassId) (dI : Nat → Nat → Nat) (a : Nat → Nat) (ac : Nat → ClassId) (g : Int32 → (St) → Option (St)) (r : St) : Prop := ∀ (v0 : Int32) (s0 : St) (H : Heap) (locs : List Loc) (ls : Array Slot), g v0 s0 = some r → va_P (dC, dI) vwCl (dw_X10 a ac s0) H → va_D A (dw_X10 a ac s0) → va_S A s.heap H locs → lv_has ls 2 [(0, .ref (a 0)), (1, .int v0)] → W p l e (headSpec ow_dm_X10_emptyFile ({ frames := 0, cells := 0, slots := 0, locals := 0 })).room s m args below meth c H locs 0 0 Q (F0 m 0 ls [])
set_option maxHeartbeats 40000000 in
set_option maxRecDepth 100000 in
theorem db_X10_emptyFile_0 {p : Program} {l : Launch} {e : Env} {s : State} {m : MethodId} {args : Array Value} {below : List Frame} {meth : Method} {c : Code} {Q : State → Prop} {A : Nat → Prop} {dC : Nat → ClassId} {dI : Nat → Nat → Nat} {a : Nat → Nat} {ac : Nat → ClassId} {n : Nat} {r : St} (C : nd_C p l s m args c A (dC, dI) cX10_emptyFile 2 RX10 ow_dm_X10_emptyFile (dk_X10 ac)) (K : nd_Kv p l e (headSpec ow_dm_X10_emptyFile ({ frames := 0, cells := 0, slots := 0, locals := 0 })).room s m args below meth c Q A (dC, dI) cX10_emptyFile (St) (dw_X10 a ac) r) : dj_X10_emptyFile_0 p l e s m args below meth c Q A dC dI a ac (df_X10_emptyFile_0 n) r := by
  obtain ⟨hlt, hx, hb, hml, hown, hts, hN, hA, hK⟩ := id C
  intro v0 s0 H locs ls h hP hD hS hl
  unfold df_X10_emptyFile_0 at h
  refine lv_aload_n hx hb dX10_emptyFile_0 rfl (lv_at hl 0 rfl) ?_
  refine va_get (D := (dC, dI)) (ci := 11) (v := .ref (a 5)) (C := RX10) (T := TX10) (N := 11) hx hb hts hi_dm_X10_emptyFile_X10 hown hK hP 0 rfl rfl 4 (by decide) (hts (.fieldLink RX10 25 "TimeMachine$Things" "file" "[I") (List.mem_of_getElem? (i := 1) rfl)) (fun _ h9 => h9) rfl dX10_emptyFile_1 ?_
  refine lv_iload_n hx hb dX10_emptyFile_4 rfl (lv_at hl 1 rfl) ?_
  refine lv_iconst (v := 3) hx hb dX10_emptyFile_5 (by decide) ?_
  refine lv_imul hx hb dX10_emptyFile_6 ?_
  refine lv_iconst (v := 0) hx hb dX10_emptyFile_7 (by decide) ?_
  refine lv_iadd hx hb dX10_emptyFile_8 ?_
  refine lv_iconst (v := 0) hx hb dX10_emptyFile_9 (by decide) ?_
  obtain ⟨i1, h⟩ := nd_ck_e h
  refine va_iast (i := ((v0 * 3) + 0)) (x := 0) hx hb hK hP hD hS 5 4 rfl rfl i1 dX10_emptyFile_10 (fun H locs hP hD hS => ?_)
  obtain ⟨s2, es2, h⟩ := nd_let_e h
  have hP : va_P (dC, dI) vwCl (dw_X10 a ac s2) H := by rw [es2]; exact hP
  have hD : va_D A (dw_X10 a ac s2) := by rw [es2]; exact hD
  exact K _ _ _ _ _ dX10_emptyFile_11 (Option.some.inj h).symm hP hD hS
set_option maxHeartbeats 40000000 in
set_option maxRecDepth 100000 in
theorem dm_X10_emptyFile (l : Launch) (hlt : l.stackTraces = false) (dC : Nat → ClassId) (dI : Nat → Nat → Nat) (a : Nat → Nat) (ac : Nat → ClassId) (n : Nat) (v0 : Int32) (s0 : St) {r : St} (h : df_X10_emptyFile n v0 s0 = some r) (sz : Nat) : Met l yX10_emptyFile ow_dm_X10_emptyFile ({ frames := 0, cells := 0, slots := 0, locals := 0 }) (va_Pc [.ref (a 0), .int v0] (fun U => U.heap.size = sz ∧ va_P (dC, dI) vwCl (dw_X10 a ac s0) U.heap ∧ va_K (dC, dI) vwCl (dk_X10 ac) U ∧ va_D (fun _ => True) (dw_X10 a ac s0) ∧ nv_E (va_A (dw_X10 a ac s0) sz) U)) (va_Qv (fun _ => True) (fun (_ : Unit) t => va_P (dC, dI) vwCl (dw_X10 a ac r) t.heap ∧ va_K (dC, dI) vwCl (dk_X10 ac) t ∧ va_D (va_A (dw_X10 a ac s0) sz) (dw_X10 a ac r)) (va_A (dw_X10 a ac s0) sz)) 0 0 (va_A (dw_X10 a ac s0) sz) := by
  refine Met.ofW (cc := cX10_emptyFile) (maxL := 2) (ret := none) (by decide) rfl ?_
  intro p e s m args below meth c s₁ B hml hv
  obtain ⟨rfl, hsz, hP, hK, hD0, hN⟩ := hv
  have hx := B.exec
  have hb := B.bytes
  have hr := B.returns
  have hts := atoms_spec (ws := ow_dm_X10_emptyFile) B.pre
  have hown : s.vm.findClass RX10 = some m.cls := findClass_of_methodNamed B.named
  have hlocks := B.notSynchronized
  subst hsz
  have hD := hD0.self (sz := s.heap.size)
  generalize hAe : va_A (dw_X10 a ac s0) s.heap.size = A at hD hN ⊢
  have hA : ∀ q : Nat, s.heap.size ≤ q → A q := fun q h => by rw [← hAe]; exact Or.inr h
  have hl := lv_entry ([.ref (a 0), .int v0]) (n := 2) (Nat.le_of_ble_eq_true rfl)
  rw [lg_entry_eq]
  generalize (lg_sl ([.ref (a 0), .int v0]) ++ List.replicate (2 - (lg_sl ([.ref (a 0), .int v0])).length) Slot.unset).toArray = ls at hl ⊢
  have hl : lv_has ls 2 [(0, .ref (a 0)), (1, .int v0)] := hl
  exact db_X10_emptyFile_0 (dC := dC) (dI := dI) (a := a) (ac := ac) (n := n) (r := r) ⟨hlt, hx, hb, hml, hown, hts, hN, hA, hK⟩ (fun pc τ H locs ls d er hP hD hS => by subst er; exact W.vret hx hb hr (fun t ht hW => ⟨⟨(), rfl, trivial, by rw [ht]; exact hP, va_K.moved hW.alike hK, hD⟩, hS.F ht⟩) hS.2.2 d) v0 s0 _ _ _ h hP hD va_S.rf (lv_sub hl [0, 1] rfl)
def ow_dm_X10_namedFiles : List Cond := .code yX10_namedFiles cX10_namedFiles 3 (some .int) :: ([.fieldLink RX10 25 "TimeMachine$Things" "file" "[I"] ++ (u_ws RX10 TX10 11 ++ []))
theorem gd_dm_X10_namedFiles : ∀ w ∈ ow_dm_X10_namedFiles, (w.onTables && w.keeps) = true ∨ ∃ ty, w = Cond.arrayClass ty := List.forall_mem_cons.mpr ⟨good_of_word rfl, List.forall_mem_append.mpr ⟨fun w h => good_of_word (List.all_eq_true.mp (by decide +kernel) w h), List.forall_mem_append.mpr ⟨gu_X10, fun _ h => nomatch h⟩⟩⟩
theorem hi_dm_X10_namedFiles_X10 : ∀ w ∈ u_ws RX10 TX10 11, w ∈ ow_dm_X10_namedFiles := fun w h => List.mem_cons_of_mem _ (List.mem_append_right _ (List.mem_append_left _ h))
def dj_X10_namedFiles_4 (p : Program) (l : Launch) (e : Env) (s : State) (m : MethodId) (args : Array Value) (below : List Frame) (meth : Method) (c : Code) (Q : State → Prop) (A : Nat → Prop) (dC : Nat → ClassId) (dI : Nat → Nat → Nat) (a : Nat → Nat) (ac : Nat → ClassId) (g : Int32 → Int32 → (St) → Option (Int32 × (St))) (r : Int32 × (St)) : Prop := ∀ (x1 : Int32) (x2 : Int32) (s0 : St) (H : Heap) (locs : List Loc) (ls : Array Slot), g x1 x2 s0 = some r → va_P (dC, dI) vwCl (dw_X10 a ac s0) H → va_D A (dw_X10 a ac s0) → va_S A s.heap H locs → lv_has ls 3 [(0, .ref (a 0)), (1, .int x1), (2, .int x2)] → W p l e (headSpec ow_dm_X10_namedFiles ({ frames := 0, cells := 0, slots := 0, locals := 0 })).room s m args below meth c H locs 0 0 Q (F0 m 4 ls [])
def dj_X10_namedFiles_0 (p : Program) (l : Launch) (e : Env) (s : State) (m : MethodId) (args : Array Value) (below : List Frame) (meth : Method) (c : Code) (Q : State → Prop) (A : Nat → Prop) (dC : Nat → ClassId) (dI : Nat → Nat → Nat) (a : Nat → Nat) (ac : Nat → ClassId) (g : (St) → Option (Int32 × (St))) (r : Int32 × (St)) : Prop := ∀ (s0 : St) (H : Heap) (locs : List Loc) (ls : Array Slot), g s0 = some r → va_P (dC, dI) vwCl (dw_X10 a ac s0) H → va_D A (dw_X10 a ac s0) → va_S A s.heap H locs → lv_has ls 3 [(0, .ref (a 0))] → W p l e (headSpec ow_dm_X10_namedFiles ({ frames := 0, cells := 0, slots := 0, locals := 0 })).room s m args below meth c H locs 0 0 Q (F0 m 0 ls [])
set_option maxHeartbeats 40000000 in
set_option maxRecDepth 100000 in
theorem dB_X10_namedFiles_4 {p : Program} {l : Launch} {e : Env} {s : State} {m : MethodId} {args : Array Value} {below : List Frame} {meth : Method} {c : Code} {Q : State → Prop} {A : Nat → Prop} {dC : Nat → ClassId} {dI : Nat → Nat → Nat} {a : Nat → Nat} {ac : Nat → ClassId} {n : Nat} {r : Int32 × (St)} (C : nd_C p l s m args c A (dC, dI) cX10_namedFiles 3 RX10 ow_dm_X10_namedFiles (dk_X10 ac)) (K : nd_Ki p l e (headSpec ow_dm_X10_namedFiles ({ frames := 0, cells := 0, slots := 0, locals := 0 })).room s m args below meth c Q A (dC, dI) cX10_namedFiles .int (St) (dw_X10 a ac) r) {g4 : Int32 → Int32 → (St) → Option (Int32 × (St))} (J4 : dj_X10_namedFiles_4 p l e s m args below meth c Q A dC dI a ac g4 r) : dj_X10_namedFiles_4 p l e s m args below meth c Q A dC dI a ac (dF_X10_namedFiles_4 n g4) r := by
  obtain ⟨hlt, hx, hb, hml, hown, hts, hN, hA, hK⟩ := id C
  intro x1 x2 s0 H locs ls h hP hD hS hl
  unfold dF_X10_namedFiles_4 at h
  refine lv_iload_n hx hb dX10_namedFiles_4 rfl (lv_at hl 2 rfl) ?_
  refine lv_bipush (v := 16) hx hb dX10_namedFiles_5 (by decide) ?_
  refine lv_icmp_ge (tgt := 29) hx hb dX10_namedFiles_7 (by decide) (fun c1 => ?_) (fun c1 => ?_)
  · have h := nd_pos h c1
    refine lv_iload_n hx hb dX10_namedFiles_29 rfl (lv_at hl 1 rfl) ?_
    exact K _ _ _ _ _ _ dX10_namedFiles_30 rfl (Option.some.inj h).symm hP hD hS
  · have h := nd_neg h c1
    refine lv_iload_n hx hb dX10_namedFiles_10 rfl (lv_at hl 1 rfl) ?_
    refine lv_aload_n hx hb dX10_namedFiles_11 rfl (lv_at hl 0 rfl) ?_
    refine va_get (D := (dC, dI)) (ci := 11) (v := .ref (a 5)) (C := RX10) (T := TX10) (N := 11) hx hb hts hi_dm_X10_namedFiles_X10 hown hK hP 0 rfl rfl 4 (by decide) (hts (.fieldLink RX10 25 "TimeMachine$Things" "file" "[I") (List.mem_of_getElem? (i := 1) rfl)) (fun _ h9 => h9) rfl dX10_namedFiles_12 ?_
    refine lv_iload_n hx hb dX10_namedFiles_15 rfl (lv_at hl 2 rfl) ?_
    refine lv_iconst (v := 3) hx hb dX10_namedFiles_16 (by decide) ?_
    refine lv_imul hx hb dX10_namedFiles_17 ?_
    refine lv_iconst (v := 2) hx hb dX10_namedFiles_18 (by decide) ?_
    refine lv_iadd hx hb dX10_namedFiles_19 ?_
    obtain ⟨i2, h⟩ := nd_ck_e h
    refine va_iald (i := ((x2 * 3) + 2)) hx hb hK hP 5 4 rfl rfl i2 dX10_namedFiles_20 ?_
    refine lv_iadd hx hb dX10_namedFiles_21 ?_
    refine lv_topi (fun z3 ez3 => ?_)
    have h := nd_at h ez3
    refine lv_istore_n (lv' := [(1, .int z3), (0, .ref (a 0)), (2, .int x2)]) hx hb dX10_namedFiles_22 rfl hl (by decide) rfl (fun ls hl => ?_)
    obtain ⟨z4, ez4, h⟩ := nd_let_e h
    refine lv_iinc (v := z4) (lv' := [(2, .int z4), (1, .int z3), (0, .ref (a 0))]) hx hb dX10_namedFiles_23 hl (k := 2) rfl (by rw [ez4]) (by decide) rfl (fun ls hl => ?_)
    refine lv_goto (tgt := 4) hx hb dX10_namedFiles_26 (by decide) ?_
    exact (J4) (z3) (z4) s0 _ _ _ h hP hD hS (lv_sub hl [2, 1, 0] rfl)
set_option maxHeartbeats 40000000 in
set_option maxRecDepth 100000 in
theorem db_X10_namedFiles_4 {p : Program} {l : Launch} {e : Env} {s : State} {m : MethodId} {args : Array Value} {below : List Frame} {meth : Method} {c : Code} {Q : State → Prop} {A : Nat → Prop} {dC : Nat → ClassId} {dI : Nat → Nat → Nat} {a : Nat → Nat} {ac : Nat → ClassId} {n : Nat} {r : Int32 × (St)} (C : nd_C p l s m args c A (dC, dI) cX10_namedFiles 3 RX10 ow_dm_X10_namedFiles (dk_X10 ac)) (K : nd_Ki p l e (headSpec ow_dm_X10_namedFiles ({ frames := 0, cells := 0, slots := 0, locals := 0 })).room s m args below meth c Q A (dC, dI) cX10_namedFiles .int (St) (dw_X10 a ac) r) (k : Nat) : dj_X10_namedFiles_4 p l e s m args below meth c Q A dC dI a ac (df_X10_namedFiles_4 n k) r := by
  induction k with
  | zero => intro x1 x2 s0 H locs ls h; exact nomatch (show (none : Option (Int32 × (St))) = some r from h)
  | succ k ih => exact dB_X10_namedFiles_4 C K ih
set_option maxHeartbeats 40000000 in
set_option maxRecDepth 100000 in
theorem db_X10_namedFiles_0 {p : Program} {l : Launch} {e : Env} {s : State} {m : MethodId} {args : Array Value} {below : List Frame} {meth : Method} {c : Code} {Q : State → Prop} {A : Nat → Prop} {dC : Nat → ClassId} {dI : Nat → Nat → Nat} {a : Nat → Nat} {ac : Nat → ClassId} {n : Nat} {r : Int32 × (St)} (C : nd_C p l s m args c A (dC, dI) cX10_namedFiles 3 RX10 ow_dm_X10_namedFiles (dk_X10 ac)) (K : nd_Ki p l e (headSpec ow_dm_X10_namedFiles ({ frames := 0, cells := 0, slots := 0, locals := 0 })).room s m args below meth c Q A (dC, dI) cX10_namedFiles .int (St) (dw_X10 a ac) r) : dj_X10_namedFiles_0 p l e s m args below meth c Q A dC dI a ac (df_X10_namedFiles_0 n) r := by
  obtain ⟨hlt, hx, hb, hml, hown, hts, hN, hA, hK⟩ := id C
  intro s0 H locs ls h hP hD hS hl
  unfold df_X10_namedFiles_0 at h
  refine lv_iconst (v := 0) hx hb dX10_namedFiles_0 (by decide) ?_
  refine lv_istore_n (lv' := [(1, .int 0), (0, .ref (a 0))]) hx hb dX10_namedFiles_1 rfl hl (by decide) rfl (fun ls hl => ?_)
  refine lv_iconst (v := 0) hx hb dX10_namedFiles_2 (by decide) ?_
  refine lv_istore_n (lv' := [(2, .int 0), (1, .int 0), (0, .ref (a 0))]) hx hb dX10_namedFiles_3 rfl hl (by decide) rfl (fun ls hl => ?_)
  exact (db_X10_namedFiles_4 C K n) (0) (0) s0 _ _ _ h hP hD hS (lv_sub hl [2, 1, 0] rfl)
set_option maxHeartbeats 40000000 in
set_option maxRecDepth 100000 in
theorem dm_X10_namedFiles (l : Launch) (hlt : l.stackTraces = false) (dC : Nat → ClassId) (dI : Nat → Nat → Nat) (a : Nat → Nat) (ac : Nat → ClassId) (n : Nat) (s0 : St) {r : Int32 × (St)} (h : df_X10_namedFiles n s0 = some r) (sz : Nat) : Met l yX10_namedFiles ow_dm_X10_namedFiles ({ frames := 0, cells := 0, slots := 0, locals := 0 }) (va_Pc [.ref (a 0)] (fun U => U.heap.size = sz ∧ va_P (dC, dI) vwCl (dw_X10 a ac s0) U.heap ∧ va_K (dC, dI) vwCl (dk_X10 ac) U ∧ va_D (fun _ => True) (dw_X10 a ac s0) ∧ nv_E (va_A (dw_X10 a ac s0) sz) U)) (va_Qi (fun x _ => x = r.1) (fun (_ : Unit) t => va_P (dC, dI) vwCl (dw_X10 a ac r.2) t.heap ∧ va_K (dC, dI) vwCl (dk_X10 ac) t ∧ va_D (va_A (dw_X10 a ac s0) sz) (dw_X10 a ac r.2)) (va_A (dw_X10 a ac s0) sz)) 0 0 (va_A (dw_X10 a ac s0) sz) := by
  refine Met.ofW (cc := cX10_namedFiles) (maxL := 3) (ret := (some .int)) (by decide) rfl ?_
  intro p e s m args below meth c s₁ B hml hv
  obtain ⟨rfl, hsz, hP, hK, hD0, hN⟩ := hv
  have hx := B.exec
  have hb := B.bytes
  have hr := B.returns
  have hts := atoms_spec (ws := ow_dm_X10_namedFiles) B.pre
  have hown : s.vm.findClass RX10 = some m.cls := findClass_of_methodNamed B.named
  have hlocks := B.notSynchronized
  subst hsz
  have hD := hD0.self (sz := s.heap.size)
  generalize hAe : va_A (dw_X10 a ac s0) s.heap.size = A at hD hN ⊢
  have hA : ∀ q : Nat, s.heap.size ≤ q → A q := fun q h => by rw [← hAe]; exact Or.inr h
  have hl := lv_entry ([.ref (a 0)]) (n := 3) (Nat.le_of_ble_eq_true rfl)
  rw [lg_entry_eq]
  generalize (lg_sl ([.ref (a 0)]) ++ List.replicate (3 - (lg_sl ([.ref (a 0)])).length) Slot.unset).toArray = ls at hl ⊢
  have hl : lv_has ls 3 [(0, .ref (a 0))] := hl
  exact db_X10_namedFiles_0 (dC := dC) (dI := dI) (a := a) (ac := ac) (n := n) (r := r) ⟨hlt, hx, hb, hml, hown, hts, hN, hA, hK⟩ (fun pc v τ H locs ls d z er hP hD hS => by subst er; exact W.zret (v := v) hx hb hr z (fun t ht hW => ⟨⟨v, (), rfl, rfl, by rw [ht]; exact hP, va_K.moved hW.alike hK, hD⟩, hS.F ht⟩) hS.2.2 d) s0 _ _ _ h hP hD va_S.rf (lv_sub hl [0] rfl)
def ow_dm_X10_amount : List Cond := .code yX10_amount cX10_amount 4 (some .int) :: ([.fieldLink RX10 15 "TimeMachine$Things" "opening" "[I", .fieldLink RX10 18 "TimeMachine$Things" "pipe" "[I", .fieldLink RX10 25 "TimeMachine$Things" "file" "[I", .fieldLink RX10 46 "TimeMachine$Things" "typedBytes" "I"] ++ (u_ws RX10 TX10 11 ++ []))
theorem gd_dm_X10_amount : ∀ w ∈ ow_dm_X10_amount, (w.onTables && w.keeps) = true ∨ ∃ ty, w = Cond.arrayClass ty := List.forall_mem_cons.mpr ⟨good_of_word rfl, List.forall_mem_append.mpr ⟨fun w h => good_of_word (List.all_eq_true.mp (by decide +kernel) w h), List.forall_mem_append.mpr ⟨gu_X10, fun _ h => nomatch h⟩⟩⟩
theorem hi_dm_X10_amount_X10 : ∀ w ∈ u_ws RX10 TX10 11, w ∈ ow_dm_X10_amount := fun w h => List.mem_cons_of_mem _ (List.mem_append_right _ (List.mem_append_left _ h))
def dj_X10_amount_60 (p : Program) (l : Launch) (e : Env) (s : State) (m : MethodId) (args : Array Value) (below : List Frame) (meth : Method) (c : Code) (Q : State → Prop) (A : Nat → Prop) (dC : Nat → ClassId) (dI : Nat → Nat → Nat) (a : Nat → Nat) (ac : Nat → ClassId) (g : Int32 → (St) → Option (Int32 × (St))) (r : Int32 × (St)) : Prop := ∀ (y0 : Int32) (s0 : St) (H : Heap) (locs : List Loc) (ls : Array Slot), g y0 s0 = some r → va_P (dC, dI) vwCl (dw_X10 a ac s0) H → va_D A (dw_X10 a ac s0) → va_S A s.heap H locs → lv_has ls 4 [] → W p l e (headSpec ow_dm_X10_amount ({ frames := 0, cells := 0, slots := 0, locals := 0 })).room s m args below meth c H locs 0 0 Q (F0 m 60 ls [.int y0])
def dj_X10_amount_0 (p : Program) (l : Launch) (e : Env) (s : State) (m : MethodId) (args : Array Value) (below : List Frame) (meth : Method) (c : Code) (Q : State → Prop) (A : Nat → Prop) (dC : Nat → ClassId) (dI : Nat → Nat → Nat) (a : Nat → Nat) (ac : Nat → ClassId) (g : Int32 → (St) → Option (Int32 × (St))) (r : Int32 × (St)) : Prop := ∀ (v0 : Int32) (s0 : St) (H : Heap) (locs : List Loc) (ls : Array Slot), g v0 s0 = some r → va_P (dC, dI) vwCl (dw_X10 a ac s0) H → va_D A (dw_X10 a ac s0) → va_S A s.heap H locs → lv_has ls 4 [(0, .ref (a 0)), (1, .int v0)] → W p l e (headSpec ow_dm_X10_amount ({ frames := 0, cells := 0, slots := 0, locals := 0 })).room s m args below meth c H locs 0 0 Q (F0 m 0 ls [])
set_option maxHeartbeats 40000000 in
set_option maxRecDepth 100000 in
theorem db_X10_amount_60 {p : Program} {l : Launch} {e : Env} {s : State} {m : MethodId} {args : Array Value} {below : List Frame} {meth : Method} {c : Code} {Q : State → Prop} {A : Nat → Prop} {dC : Nat → ClassId} {dI : Nat → Nat → Nat} {a : Nat → Nat} {ac : Nat → ClassId} {n : Nat} {r : Int32 × (St)} (C : nd_C p l s m args c A (dC, dI) cX10_amount 4 RX10 ow_dm_X10_amount (dk_X10 ac)) (K : nd_Ki p l e (headSpec ow_dm_X10_amount ({ frames := 0, cells := 0, slots := 0, locals := 0 })).room s m args below meth c Q A (dC, dI) cX10_amount .int (St) (dw_X10 a ac) r) : dj_X10_amount_60 p l e s m args below meth c Q A dC dI a ac (df_X10_amount_60 n) r := by
  obtain ⟨hlt, hx, hb, hml, hown, hts, hN, hA, hK⟩ := id C
  intro y0 s0 H locs ls h hP hD hS hl
  unfold df_X10_amount_60 at h
  exact K _ _ _ _ _ _ dX10_amount_60 rfl (Option.some.inj h).symm hP hD hS
set_option maxHeartbeats 40000000 in
set_option maxRecDepth 100000 in
theorem db_X10_amount_0 {p : Program} {l : Launch} {e : Env} {s : State} {m : MethodId} {args : Array Value} {below : List Frame} {meth : Method} {c : Code} {Q : State → Prop} {A : Nat → Prop} {dC : Nat → ClassId} {dI : Nat → Nat → Nat} {a : Nat → Nat} {ac : Nat → ClassId} {n : Nat} {r : Int32 × (St)} (C : nd_C p l s m args c A (dC, dI) cX10_amount 4 RX10 ow_dm_X10_amount (dk_X10 ac)) (K : nd_Ki p l e (headSpec ow_dm_X10_amount ({ frames := 0, cells := 0, slots := 0, locals := 0 })).room s m args below meth c Q A (dC, dI) cX10_amount .int (St) (dw_X10 a ac) r) : dj_X10_amount_0 p l e s m args below meth c Q A dC dI a ac (df_X10_amount_0 n) r := by
  obtain ⟨hlt, hx, hb, hml, hown, hts, hN, hA, hK⟩ := id C
  intro v0 s0 H locs ls h hP hD hS hl
  unfold df_X10_amount_0 at h
  refine lv_aload_n hx hb dX10_amount_0 rfl (lv_at hl 0 rfl) ?_
  refine va_get (D := (dC, dI)) (ci := 11) (v := .ref (a 2)) (C := RX10) (T := TX10) (N := 11) hx hb hts hi_dm_X10_amount_X10 hown hK hP 0 rfl rfl 1 (by decide) (hts (.fieldLink RX10 15 "TimeMachine$Things" "opening" "[I") (List.mem_of_getElem? (i := 1) rfl)) (fun _ h9 => h9) rfl dX10_amount_1 ?_
  refine lv_iload_n hx hb dX10_amount_4 rfl (lv_at hl 1 rfl) ?_
  refine lv_iconst (v := 5) hx hb dX10_amount_5 (by decide) ?_
  refine lv_imul hx hb dX10_amount_6 ?_
  refine lv_iconst (v := 0) hx hb dX10_amount_7 (by decide) ?_
  refine lv_iadd hx hb dX10_amount_8 ?_
  obtain ⟨i1, h⟩ := nd_ck_e h
  refine va_iald (i := ((v0 * 5) + 0)) hx hb hK hP 2 1 rfl rfl i1 dX10_amount_9 ?_
  refine lv_topi (fun z2 ez2 => ?_)
  have h := nd_at h ez2
  refine lv_istore_n (lv' := [(2, .int z2), (0, .ref (a 0)), (1, .int v0)]) hx hb dX10_amount_10 rfl hl (by decide) rfl (fun ls hl => ?_)
  refine lv_aload_n hx hb dX10_amount_11 rfl (lv_at hl 1 rfl) ?_
  refine va_get (D := (dC, dI)) (ci := 11) (v := .ref (a 2)) (C := RX10) (T := TX10) (N := 11) hx hb hts hi_dm_X10_amount_X10 hown hK hP 0 rfl rfl 1 (by decide) (hts (.fieldLink RX10 15 "TimeMachine$Things" "opening" "[I") (List.mem_of_getElem? (i := 1) rfl)) (fun _ h9 => h9) rfl dX10_amount_12 ?_
  refine lv_iload_n hx hb dX10_amount_15 rfl (lv_at hl 2 rfl) ?_
  refine lv_iconst (v := 5) hx hb dX10_amount_16 (by decide) ?_
  refine lv_imul hx hb dX10_amount_17 ?_
  refine lv_iconst (v := 2) hx hb dX10_amount_18 (by decide) ?_
  refine lv_iadd hx hb dX10_amount_19 ?_
  obtain ⟨i3, h⟩ := nd_ck_e h
  refine va_iald (i := ((v0 * 5) + 2)) hx hb hK hP 2 1 rfl rfl i3 dX10_amount_20 ?_
  refine lv_topi (fun z4 ez4 => ?_)
  have h := nd_at h ez4
  refine lv_istore_n (lv' := [(3, .int z4), (2, .int z2), (0, .ref (a 0)), (1, .int v0)]) hx hb dX10_amount_21 rfl hl (by decide) rfl (fun ls hl => ?_)
  refine lv_iload_n hx hb dX10_amount_22 rfl (lv_at hl 1 rfl) ?_
  refine lv_iconst (v := 4) hx hb dX10_amount_23 (by decide) ?_
  refine lv_icmp_ne (tgt := 32) hx hb dX10_amount_24 (by decide) (fun c5 => ?_) (fun c5 => ?_)
  · have h := nd_neg h c5
    refine lv_iload_n hx hb dX10_amount_32 rfl (lv_at hl 1 rfl) ?_
    refine lv_iconst (v := 3) hx hb dX10_amount_33 (by decide) ?_
    refine lv_icmp_ne (tgt := 50) hx hb dX10_amount_34 (by decide) (fun c6 => ?_) (fun c6 => ?_)
    · have h := nd_neg h c6
      refine lv_aload_n hx hb dX10_amount_50 rfl (lv_at hl 2 rfl) ?_
      refine va_get (D := (dC, dI)) (ci := 11) (v := .ref (a 3)) (C := RX10) (T := TX10) (N := 11) hx hb hts hi_dm_X10_amount_X10 hown hK hP 0 rfl rfl 2 (by decide) (hts (.fieldLink RX10 18 "TimeMachine$Things" "pipe" "[I") (List.mem_of_getElem? (i := 2) rfl)) (fun _ h9 => h9) rfl dX10_amount_51 ?_
      refine lv_iload_n hx hb dX10_amount_54 rfl (lv_at hl 0 rfl) ?_
      refine lv_iconst (v := 4) hx hb dX10_amount_55 (by decide) ?_
      refine lv_imul hx hb dX10_amount_56 ?_
      refine lv_iconst (v := 0) hx hb dX10_amount_57 (by decide) ?_
      refine lv_iadd hx hb dX10_amount_58 ?_
      obtain ⟨i7, h⟩ := nd_ck_e h
      refine va_iald (i := ((z4 * 4) + 0)) hx hb hK hP 3 2 rfl rfl i7 dX10_amount_59 ?_
      exact (db_X10_amount_60 C K) ((sR s0 2 (Int32.toNatClampNeg ((z4 * 4) + 0)))) s0 _ _ _ h hP hD hS (lv_sub hl [] rfl)
    · have h := nd_pos h c6
      refine lv_aload_n hx hb dX10_amount_37 rfl (lv_at hl 2 rfl) ?_
      refine va_get (D := (dC, dI)) (ci := 11) (v := .ref (a 5)) (C := RX10) (T := TX10) (N := 11) hx hb hts hi_dm_X10_amount_X10 hown hK hP 0 rfl rfl 4 (by decide) (hts (.fieldLink RX10 25 "TimeMachine$Things" "file" "[I") (List.mem_of_getElem? (i := 3) rfl)) (fun _ h9 => h9) rfl dX10_amount_38 ?_
      refine lv_iload_n hx hb dX10_amount_41 rfl (lv_at hl 0 rfl) ?_
      refine lv_iconst (v := 3) hx hb dX10_amount_42 (by decide) ?_
      refine lv_imul hx hb dX10_amount_43 ?_
      refine lv_iconst (v := 0) hx hb dX10_amount_44 (by decide) ?_
      refine lv_iadd hx hb dX10_amount_45 ?_
      obtain ⟨i8, h⟩ := nd_ck_e h
      refine va_iald (i := ((z4 * 3) + 0)) hx hb hK hP 5 4 rfl rfl i8 dX10_amount_46 ?_
      refine lv_goto (tgt := 60) hx hb dX10_amount_47 (by decide) ?_
      exact (db_X10_amount_60 C K) ((sR s0 4 (Int32.toNatClampNeg ((z4 * 3) + 0)))) s0 _ _ _ h hP hD hS (lv_sub hl [] rfl)
  · have h := nd_pos h c5
    refine lv_aload_n hx hb dX10_amount_27 rfl (lv_at hl 2 rfl) ?_
    refine va_get (D := (dC, dI)) (ci := 11) (v := .int (sI s0 0)) (C := RX10) (T := TX10) (N := 11) hx hb hts hi_dm_X10_amount_X10 hown hK hP 0 rfl rfl 8 (by decide) (hts (.fieldLink RX10 46 "TimeMachine$Things" "typedBytes" "I") (List.mem_of_getElem? (i := 4) rfl)) (fun _ h9 => h9) rfl dX10_amount_28 ?_
    exact K _ _ _ _ _ _ dX10_amount_31 rfl (Option.some.inj h).symm hP hD hS
set_option maxHeartbeats 40000000 in
set_option maxRecDepth 100000 in
theorem dm_X10_amount (l : Launch) (hlt : l.stackTraces = false) (dC : Nat → ClassId) (dI : Nat → Nat → Nat) (a : Nat → Nat) (ac : Nat → ClassId) (n : Nat) (v0 : Int32) (s0 : St) {r : Int32 × (St)} (h : df_X10_amount n v0 s0 = some r) (sz : Nat) : Met l yX10_amount ow_dm_X10_amount ({ frames := 0, cells := 0, slots := 0, locals := 0 }) (va_Pc [.ref (a 0), .int v0] (fun U => U.heap.size = sz ∧ va_P (dC, dI) vwCl (dw_X10 a ac s0) U.heap ∧ va_K (dC, dI) vwCl (dk_X10 ac) U ∧ va_D (fun _ => True) (dw_X10 a ac s0) ∧ nv_E (va_A (dw_X10 a ac s0) sz) U)) (va_Qi (fun x _ => x = r.1) (fun (_ : Unit) t => va_P (dC, dI) vwCl (dw_X10 a ac r.2) t.heap ∧ va_K (dC, dI) vwCl (dk_X10 ac) t ∧ va_D (va_A (dw_X10 a ac s0) sz) (dw_X10 a ac r.2)) (va_A (dw_X10 a ac s0) sz)) 0 0 (va_A (dw_X10 a ac s0) sz) := by
  refine Met.ofW (cc := cX10_amount) (maxL := 4) (ret := (some .int)) (by decide) rfl ?_
  intro p e s m args below meth c s₁ B hml hv
  obtain ⟨rfl, hsz, hP, hK, hD0, hN⟩ := hv
  have hx := B.exec
  have hb := B.bytes
  have hr := B.returns
  have hts := atoms_spec (ws := ow_dm_X10_amount) B.pre
  have hown : s.vm.findClass RX10 = some m.cls := findClass_of_methodNamed B.named
  have hlocks := B.notSynchronized
  subst hsz
  have hD := hD0.self (sz := s.heap.size)
  generalize hAe : va_A (dw_X10 a ac s0) s.heap.size = A at hD hN ⊢
  have hA : ∀ q : Nat, s.heap.size ≤ q → A q := fun q h => by rw [← hAe]; exact Or.inr h
  have hl := lv_entry ([.ref (a 0), .int v0]) (n := 4) (Nat.le_of_ble_eq_true rfl)
  rw [lg_entry_eq]
  generalize (lg_sl ([.ref (a 0), .int v0]) ++ List.replicate (4 - (lg_sl ([.ref (a 0), .int v0])).length) Slot.unset).toArray = ls at hl ⊢
  have hl : lv_has ls 4 [(0, .ref (a 0)), (1, .int v0)] := hl
  exact db_X10_amount_0 (dC := dC) (dI := dI) (a := a) (ac := ac) (n := n) (r := r) ⟨hlt, hx, hb, hml, hown, hts, hN, hA, hK⟩ (fun pc v τ H locs ls d z er hP hD hS => by subst er; exact W.zret (v := v) hx hb hr z (fun t ht hW => ⟨⟨v, (), rfl, rfl, by rw [ht]; exact hP, va_K.moved hW.alike hK, hD⟩, hS.F ht⟩) hS.2.2 d) v0 s0 _ _ _ h hP hD va_S.rf (lv_sub hl [0, 1] rfl)
def ow_dm_X10_byteOf : List Cond := .code yX10_byteOf cX10_byteOf 4 (some .int) :: ([.fieldLink RX10 15 "TimeMachine$Things" "opening" "[I", .fieldLink RX10 28 "TimeMachine$Things" "filed" "[B", .fieldLink RX10 34 "TimeMachine$Things" "typed" "[B", .fieldLink RX10 21 "TimeMachine$Things" "piped" "[B", .fieldLink RX10 18 "TimeMachine$Things" "pipe" "[I"] ++ (u_ws RX10 TX10 11 ++ []))
theorem gd_dm_X10_byteOf : ∀ w ∈ ow_dm_X10_byteOf, (w.onTables && w.keeps) = true ∨ ∃ ty, w = Cond.arrayClass ty := List.forall_mem_cons.mpr ⟨good_of_word rfl, List.forall_mem_append.mpr ⟨fun w h => good_of_word (List.all_eq_true.mp (by decide +kernel) w h), List.forall_mem_append.mpr ⟨gu_X10, fun _ h => nomatch h⟩⟩⟩
theorem hi_dm_X10_byteOf_X10 : ∀ w ∈ u_ws RX10 TX10 11, w ∈ ow_dm_X10_byteOf := fun w h => List.mem_cons_of_mem _ (List.mem_append_right _ (List.mem_append_left _ h))
def dj_X10_byteOf_0 (p : Program) (l : Launch) (e : Env) (s : State) (m : MethodId) (args : Array Value) (below : List Frame) (meth : Method) (c : Code) (Q : State → Prop) (A : Nat → Prop) (dC : Nat → ClassId) (dI : Nat → Nat → Nat) (a : Nat → Nat) (ac : Nat → ClassId) (g : Int32 → Int32 → (St) → Option (Int32 × (St))) (r : Int32 × (St)) : Prop := ∀ (v0 : Int32) (v1 : Int32) (s0 : St) (H : Heap) (locs : List Loc) (ls : Array Slot), g v0 v1 s0 = some r → va_P (dC, dI) vwCl (dw_X10 a ac s0) H → va_D A (dw_X10 a ac s0) → va_S A s.heap H locs → lv_has ls 4 [(0, .ref (a 0)), (1, .int v0), (2, .int v1)] → W p l e (headSpec ow_dm_X10_byteOf ({ frames := 0, cells := 0, slots := 0, locals := 0 })).room s m args below meth c H locs 0 0 Q (F0 m 0 ls [])
set_option maxHeartbeats 40000000 in
set_option maxRecDepth 100000 in
theorem db_X10_byteOf_0 {p : Program} {l : Launch} {e : Env} {s : State} {m : MethodId} {args : Array Value} {below : List Frame} {meth : Method} {c : Code} {Q : State → Prop} {A : Nat → Prop} {dC : Nat → ClassId} {dI : Nat → Nat → Nat} {a : Nat → Nat} {ac : Nat → ClassId} {n : Nat} {r : Int32 × (St)} (C : nd_C p l s m args c A (dC, dI) cX10_byteOf 4 RX10 ow_dm_X10_byteOf (dk_X10 ac)) (K : nd_Ki p l e (headSpec ow_dm_X10_byteOf ({ frames := 0, cells := 0, slots := 0, locals := 0 })).room s m args below meth c Q A (dC, dI) cX10_byteOf .int (St) (dw_X10 a ac) r) : dj_X10_byteOf_0 p l e s m args below meth c Q A dC dI a ac (df_X10_byteOf_0 n) r := by
  obtain ⟨hlt, hx, hb, hml, hown, hts, hN, hA, hK⟩ := id C
  intro v0 v1 s0 H locs ls h hP hD hS hl
  unfold df_X10_byteOf_0 at h
  refine lv_aload_n hx hb dX10_byteOf_0 rfl (lv_at hl 0 rfl) ?_
  refine va_get (D := (dC, dI)) (ci := 11) (v := .ref (a 2)) (C := RX10) (T := TX10) (N := 11) hx hb hts hi_dm_X10_byteOf_X10 hown hK hP 0 rfl rfl 1 (by decide) (hts (.fieldLink RX10 15 "TimeMachine$Things" "opening" "[I") (List.mem_of_getElem? (i := 1) rfl)) (fun _ h9 => h9) rfl dX10_byteOf_1 ?_
  refine lv_iload_n hx hb dX10_byteOf_4 rfl (lv_at hl 1 rfl) ?_
  refine lv_iconst (v := 5) hx hb dX10_byteOf_5 (by decide) ?_
  refine lv_imul hx hb dX10_byteOf_6 ?_
  refine lv_iconst (v := 2) hx hb dX10_byteOf_7 (by decide) ?_
  refine lv_iadd hx hb dX10_byteOf_8 ?_
  obtain ⟨i1, h⟩ := nd_ck_e h
  refine va_iald (i := ((v0 * 5) + 2)) hx hb hK hP 2 1 rfl rfl i1 dX10_byteOf_9 ?_
  refine lv_topi (fun z2 ez2 => ?_)
  have h := nd_at h ez2
  refine lv_istore_n (lv' := [(3, .int z2), (0, .ref (a 0)), (1, .int v0), (2, .int v1)]) hx hb dX10_byteOf_10 rfl hl (by decide) rfl (fun ls hl => ?_)
  refine lv_aload_n hx hb dX10_byteOf_11 rfl (lv_at hl 1 rfl) ?_
  refine va_get (D := (dC, dI)) (ci := 11) (v := .ref (a 2)) (C := RX10) (T := TX10) (N := 11) hx hb hts hi_dm_X10_byteOf_X10 hown hK hP 0 rfl rfl 1 (by decide) (hts (.fieldLink RX10 15 "TimeMachine$Things" "opening" "[I") (List.mem_of_getElem? (i := 1) rfl)) (fun _ h9 => h9) rfl dX10_byteOf_12 ?_
  refine lv_iload_n hx hb dX10_byteOf_15 rfl (lv_at hl 2 rfl) ?_
  refine lv_iconst (v := 5) hx hb dX10_byteOf_16 (by decide) ?_
  refine lv_imul hx hb dX10_byteOf_17 ?_
  refine lv_iconst (v := 0) hx hb dX10_byteOf_18 (by decide) ?_
  refine lv_iadd hx hb dX10_byteOf_19 ?_
  obtain ⟨i3, h⟩ := nd_ck_e h
  refine va_iald (i := ((v0 * 5) + 0)) hx hb hK hP 2 1 rfl rfl i3 dX10_byteOf_20 ?_
  by_cases c4 : (sR s0 1 (Int32.toNatClampNeg ((v0 * 5) + 0))) = 3
  · have h := nd_pos h c4
    refine lv_lookup (off := 42) (tgt := 63) hx hb dX10_byteOf_21 (by decide) (by rw [c4]; decide) (by decide) ?_
    refine lv_aload_n hx hb dX10_byteOf_63 rfl (lv_at hl 1 rfl) ?_
    refine va_get (D := (dC, dI)) (ci := 11) (v := .ref (a 6)) (C := RX10) (T := TX10) (N := 11) hx hb hts hi_dm_X10_byteOf_X10 hown hK hP 0 rfl rfl 5 (by decide) (hts (.fieldLink RX10 28 "TimeMachine$Things" "filed" "[B") (List.mem_of_getElem? (i := 2) rfl)) (fun _ h9 => h9) rfl dX10_byteOf_64 ?_
    refine lv_iload_n hx hb dX10_byteOf_67 rfl (lv_at hl 0 rfl) ?_
    refine lv_sipush (v := 512) hx hb dX10_byteOf_68 (by decide) ?_
    refine lv_imul hx hb dX10_byteOf_71 ?_
    refine lv_iload_n hx hb dX10_byteOf_72 rfl (lv_at hl 3 rfl) ?_
    refine lv_sipush (v := 511) hx hb dX10_byteOf_73 (by decide) ?_
    refine lv_iand hx hb dX10_byteOf_76 ?_
    refine lv_iadd hx hb dX10_byteOf_77 ?_
    obtain ⟨i5, h⟩ := nd_ck_e h
    refine va_bald (i := ((z2 * 512) + (v1 &&& 511))) hx hb hK hP 6 5 rfl rfl i5 dX10_byteOf_78 ?_
    refine lv_sipush (v := 255) hx hb dX10_byteOf_79 (by decide) ?_
    refine lv_iand hx hb dX10_byteOf_82 ?_
    exact K _ _ _ _ _ _ dX10_byteOf_83 rfl (Option.some.inj h).symm hP hD hS
  have h := nd_neg h c4
  by_cases c6 : (sR s0 1 (Int32.toNatClampNeg ((v0 * 5) + 0))) = 4
  · have h := nd_pos h c6
    refine lv_lookup (off := 27) (tgt := 48) hx hb dX10_byteOf_21 (by decide) (by rw [c6]; decide) (by decide) ?_
    refine lv_aload_n hx hb dX10_byteOf_48 rfl (lv_at hl 1 rfl) ?_
    refine va_get (D := (dC, dI)) (ci := 11) (v := .ref (a 8)) (C := RX10) (T := TX10) (N := 11) hx hb hts hi_dm_X10_byteOf_X10 hown hK hP 0 rfl rfl 7 (by decide) (hts (.fieldLink RX10 34 "TimeMachine$Things" "typed" "[B") (List.mem_of_getElem? (i := 3) rfl)) (fun _ h9 => h9) rfl dX10_byteOf_49 ?_
    refine lv_iload_n hx hb dX10_byteOf_52 rfl (lv_at hl 3 rfl) ?_
    refine lv_sipush (v := 511) hx hb dX10_byteOf_53 (by decide) ?_
    refine lv_iand hx hb dX10_byteOf_56 ?_
    obtain ⟨i7, h⟩ := nd_ck_e h
    refine va_bald (i := (v1 &&& 511)) hx hb hK hP 8 7 rfl rfl i7 dX10_byteOf_57 ?_
    refine lv_sipush (v := 255) hx hb dX10_byteOf_58 (by decide) ?_
    refine lv_iand hx hb dX10_byteOf_61 ?_
    exact K _ _ _ _ _ _ dX10_byteOf_62 rfl (Option.some.inj h).symm hP hD hS
  have h := nd_neg h c6
  refine lv_lookup (off := 63) (tgt := 84) hx hb dX10_byteOf_21 (by decide) (show Op.lookupswitch.offset [(3, 42), (4, 27)] 63 ((sR s0 1 (Int32.toNatClampNeg ((v0 * 5) + 0))) : Int32).toInt = 63 by rw [lv_osw c4 (by decide), lv_osw c6 (by decide)] <;> rfl) (by decide) ?_
  refine lv_aload_n hx hb dX10_byteOf_84 rfl (lv_at hl 1 rfl) ?_
  refine va_get (D := (dC, dI)) (ci := 11) (v := .ref (a 4)) (C := RX10) (T := TX10) (N := 11) hx hb hts hi_dm_X10_byteOf_X10 hown hK hP 0 rfl rfl 3 (by decide) (hts (.fieldLink RX10 21 "TimeMachine$Things" "piped" "[B") (List.mem_of_getElem? (i := 4) rfl)) (fun _ h9 => h9) rfl dX10_byteOf_85 ?_
  refine lv_iload_n hx hb dX10_byteOf_88 rfl (lv_at hl 0 rfl) ?_
  refine lv_sipush (v := 512) hx hb dX10_byteOf_89 (by decide) ?_
  refine lv_imul hx hb dX10_byteOf_92 ?_
  refine lv_aload_n hx hb dX10_byteOf_93 rfl (lv_at hl 1 rfl) ?_
  refine va_get (D := (dC, dI)) (ci := 11) (v := .ref (a 3)) (C := RX10) (T := TX10) (N := 11) hx hb hts hi_dm_X10_byteOf_X10 hown hK hP 0 rfl rfl 2 (by decide) (hts (.fieldLink RX10 18 "TimeMachine$Things" "pipe" "[I") (List.mem_of_getElem? (i := 5) rfl)) (fun _ h9 => h9) rfl dX10_byteOf_94 ?_
  refine lv_iload_n hx hb dX10_byteOf_97 rfl (lv_at hl 0 rfl) ?_
  refine lv_iconst (v := 4) hx hb dX10_byteOf_98 (by decide) ?_
  refine lv_imul hx hb dX10_byteOf_99 ?_
  refine lv_iconst (v := 3) hx hb dX10_byteOf_100 (by decide) ?_
  refine lv_iadd hx hb dX10_byteOf_101 ?_
  obtain ⟨i8, h⟩ := nd_ck_e h
  refine va_iald (i := ((z2 * 4) + 3)) hx hb hK hP 3 2 rfl rfl i8 dX10_byteOf_102 ?_
  refine lv_iload_n hx hb dX10_byteOf_103 rfl (lv_at hl 3 rfl) ?_
  refine lv_iadd hx hb dX10_byteOf_104 ?_
  refine lv_sipush (v := 511) hx hb dX10_byteOf_105 (by decide) ?_
  refine lv_iand hx hb dX10_byteOf_108 ?_
  refine lv_iadd hx hb dX10_byteOf_109 ?_
  obtain ⟨i9, h⟩ := nd_ck_e h
  refine va_bald (i := ((z2 * 512) + (((sR s0 2 (Int32.toNatClampNeg ((z2 * 4) + 3))) + v1) &&& 511))) hx hb hK hP 4 3 rfl rfl i9 dX10_byteOf_110 ?_
  refine lv_sipush (v := 255) hx hb dX10_byteOf_111 (by decide) ?_
  refine lv_iand hx hb dX10_byteOf_114 ?_
  exact K _ _ _ _ _ _ dX10_byteOf_115 rfl (Option.some.inj h).symm hP hD hS
set_option maxHeartbeats 40000000 in
set_option maxRecDepth 100000 in
theorem dm_X10_byteOf (l : Launch) (hlt : l.stackTraces = false) (dC : Nat → ClassId) (dI : Nat → Nat → Nat) (a : Nat → Nat) (ac : Nat → ClassId) (n : Nat) (v0 : Int32) (v1 : Int32) (s0 : St) {r : Int32 × (St)} (h : df_X10_byteOf n v0 v1 s0 = some r) (sz : Nat) : Met l yX10_byteOf ow_dm_X10_byteOf ({ frames := 0, cells := 0, slots := 0, locals := 0 }) (va_Pc [.ref (a 0), .int v0, .int v1] (fun U => U.heap.size = sz ∧ va_P (dC, dI) vwCl (dw_X10 a ac s0) U.heap ∧ va_K (dC, dI) vwCl (dk_X10 ac) U ∧ va_D (fun _ => True) (dw_X10 a ac s0) ∧ nv_E (va_A (dw_X10 a ac s0) sz) U)) (va_Qi (fun x _ => x = r.1) (fun (_ : Unit) t => va_P (dC, dI) vwCl (dw_X10 a ac r.2) t.heap ∧ va_K (dC, dI) vwCl (dk_X10 ac) t ∧ va_D (va_A (dw_X10 a ac s0) sz) (dw_X10 a ac r.2)) (va_A (dw_X10 a ac s0) sz)) 0 0 (va_A (dw_X10 a ac s0) sz) := by
  refine Met.ofW (cc := cX10_byteOf) (maxL := 4) (ret := (some .int)) (by decide) rfl ?_
  intro p e s m args below meth c s₁ B hml hv
  obtain ⟨rfl, hsz, hP, hK, hD0, hN⟩ := hv
  have hx := B.exec
  have hb := B.bytes
  have hr := B.returns
  have hts := atoms_spec (ws := ow_dm_X10_byteOf) B.pre
  have hown : s.vm.findClass RX10 = some m.cls := findClass_of_methodNamed B.named
  have hlocks := B.notSynchronized
  subst hsz
  have hD := hD0.self (sz := s.heap.size)
  generalize hAe : va_A (dw_X10 a ac s0) s.heap.size = A at hD hN ⊢
  have hA : ∀ q : Nat, s.heap.size ≤ q → A q := fun q h => by rw [← hAe]; exact Or.inr h
  have hl := lv_entry ([.ref (a 0), .int v0, .int v1]) (n := 4) (Nat.le_of_ble_eq_true rfl)
  rw [lg_entry_eq]
  generalize (lg_sl ([.ref (a 0), .int v0, .int v1]) ++ List.replicate (4 - (lg_sl ([.ref (a 0), .int v0, .int v1])).length) Slot.unset).toArray = ls at hl ⊢
  have hl : lv_has ls 4 [(0, .ref (a 0)), (1, .int v0), (2, .int v1)] := hl
  exact db_X10_byteOf_0 (dC := dC) (dI := dI) (a := a) (ac := ac) (n := n) (r := r) ⟨hlt, hx, hb, hml, hown, hts, hN, hA, hK⟩ (fun pc v τ H locs ls d z er hP hD hS => by subst er; exact W.zret (v := v) hx hb hr z (fun t ht hW => ⟨⟨v, (), rfl, rfl, by rw [ht]; exact hP, va_K.moved hW.alike hK, hD⟩, hS.F ht⟩) hS.2.2 d) v0 v1 s0 _ _ _ h hP hD va_S.rf (lv_sub hl [0, 1, 2] rfl)
def ow_dm_X10_told : List Cond := .code yX10_told cX10_told 3 (some .int) :: ([.methodLink RX10 74 yX10_of, .instanceMethod yX10_of, .selects RX10 yX10_of yX10_of, .initialized RX10, .methodLink RX10 83 yX10_amount, .instanceMethod yX10_amount, .selects RX10 yX10_amount yX10_amount] ++ (ow_dm_X10_of ++ (ow_dm_X10_amount ++ [])))
theorem gd_dm_X10_told : ∀ w ∈ ow_dm_X10_told, (w.onTables && w.keeps) = true ∨ ∃ ty, w = Cond.arrayClass ty := List.forall_mem_cons.mpr ⟨good_of_word rfl, List.forall_mem_append.mpr ⟨fun w h => good_of_word (List.all_eq_true.mp (by decide +kernel) w h), List.forall_mem_append.mpr ⟨gd_dm_X10_of, List.forall_mem_append.mpr ⟨gd_dm_X10_amount, fun _ h => nomatch h⟩⟩⟩⟩
theorem gi_dm_X10_told_0 : GoodIn ow_dm_X10_told (wsV RX10 74 RX10 yX10_of ow_dm_X10_of) := goodIn_app (goodIn_of _ (by decide +kernel)) (fun w h => ⟨List.mem_cons_of_mem _ (List.mem_append_right _ (List.mem_append_left _ h)), gd_dm_X10_of w h⟩)
theorem gi_dm_X10_told_1 : GoodIn ow_dm_X10_told (wsV RX10 83 RX10 yX10_amount ow_dm_X10_amount) := goodIn_app (goodIn_of _ (by decide +kernel)) (fun w h => ⟨List.mem_cons_of_mem _ (List.mem_append_right _ (List.mem_append_right _ (List.mem_append_left _ h))), gd_dm_X10_amount w h⟩)
def dj_X10_told_0 (p : Program) (l : Launch) (e : Env) (s : State) (m : MethodId) (args : Array Value) (below : List Frame) (meth : Method) (c : Code) (Q : State → Prop) (A : Nat → Prop) (dC : Nat → ClassId) (dI : Nat → Nat → Nat) (a : Nat → Nat) (ac : Nat → ClassId) (g : Int32 → Int32 → (St) → Option (Int32 × (St))) (r : Int32 × (St)) : Prop := ∀ (v0 : Int32) (v1 : Int32) (s0 : St) (H : Heap) (locs : List Loc) (ls : Array Slot), g v0 v1 s0 = some r → va_P (dC, dI) vwCl (dw_X10 a ac s0) H → va_D A (dw_X10 a ac s0) → va_S A s.heap H locs → lv_has ls 3 [(0, .ref (a 0)), (1, .int v0), (2, .int v1)] → W p l e (headSpec ow_dm_X10_told ({ frames := 1, cells := 0, slots := 0, locals := 23 })).room s m args below meth c H locs 0 0 Q (F0 m 0 ls [])
set_option maxHeartbeats 40000000 in
set_option maxRecDepth 100000 in
theorem db_X10_told_0 {p : Program} {l : Launch} {e : Env} {s : State} {m : MethodId} {args : Array Value} {below : List Frame} {meth : Method} {c : Code} {Q : State → Prop} {A : Nat → Prop} {dC : Nat → ClassId} {dI : Nat → Nat → Nat} {a : Nat → Nat} {ac : Nat → ClassId} {n : Nat} {r : Int32 × (St)} (C : nd_C p l s m args c A (dC, dI) cX10_told 3 RX10 ow_dm_X10_told (dk_X10 ac)) (K : nd_Ki p l e (headSpec ow_dm_X10_told ({ frames := 1, cells := 0, slots := 0, locals := 23 })).room s m args below meth c Q A (dC, dI) cX10_told .int (St) (dw_X10 a ac) r) : dj_X10_told_0 p l e s m args below meth c Q A dC dI a ac (df_X10_told_0 n) r := by
  obtain ⟨hlt, hx, hb, hml, hown, hts, hN, hA, hK⟩ := id C
  intro v0 v1 s0 H locs ls h hP hD hS hl
  unfold df_X10_told_0 at h
  refine lv_iload_n hx hb dX10_told_0 rfl (lv_at hl 2 rfl) ?_
  by_cases c1 : v1 = 1
  · have h := nd_pos h c1
    refine lv_lookup (off := 27) (tgt := 28) hx hb dX10_told_1 (by decide) (by rw [c1]; decide) (by decide) ?_
    refine lv_aload_n hx hb dX10_told_28 rfl (lv_at hl 0 rfl) ?_
    refine lv_iload_n hx hb dX10_told_29 rfl (lv_at hl 1 rfl) ?_
    refine lv_iconst (v := 1) hx hb dX10_told_30 (by decide) ?_
    obtain ⟨q2, s3, hq, h⟩ := nd_b2_e h
    have hPc := hP
    have hDc := hD
    have hKc := hK
    have hFc := nd_rs hD hS hA
    refine nd_cVi (As := [.int v0, .int 1]) (rest := []) (q := q2) (w' := dw_X10 a ac s3) ⟨hx, hb, hml, hown, hts⟩ (fun sz => dm_X10_of l hlt dC dI a ac n (v0) (1) s0 hq sz) (cwV 2 hts gi_dm_X10_told_0 rfl rfl rfl (by decide +kernel) ⟨Nat.le_of_ble_eq_true rfl, Nat.le_of_ble_eq_true rfl⟩) hPc hDc hKc hS hA hN (va_recv hKc hPc (ci := 11) (q0 := 0) rfl rfl) rfl hl.1 rfl (Nat.le_of_ble_eq_true rfl) dX10_told_31 (fun H locs hP1 hD1 hk1 hS => ?_)
    have hP := hP1
    have hD := hD1.weaken (fun k q _ h => hFc q.1 h)
    exact K _ _ _ _ _ _ dX10_told_34 rfl (Option.some.inj h).symm hP hD hS
  have h := nd_neg h c1
  by_cases c5 : v1 = 2
  · have h := nd_pos h c5
    refine lv_lookup (off := 34) (tgt := 35) hx hb dX10_told_1 (by decide) (by rw [c5]; decide) (by decide) ?_
    refine lv_aload_n hx hb dX10_told_35 rfl (lv_at hl 0 rfl) ?_
    refine lv_iload_n hx hb dX10_told_36 rfl (lv_at hl 1 rfl) ?_
    obtain ⟨q6, s7, hq, h⟩ := nd_b2_e h
    have hPc := hP
    have hDc := hD
    have hKc := hK
    have hFc := nd_rs hD hS hA
    refine nd_cVi (As := [.int v0]) (rest := []) (q := q6) (w' := dw_X10 a ac s7) ⟨hx, hb, hml, hown, hts⟩ (fun sz => dm_X10_amount l hlt dC dI a ac n (v0) s0 hq sz) (cwV 1 hts gi_dm_X10_told_1 rfl rfl rfl (by decide +kernel) ⟨Nat.le_of_ble_eq_true rfl, Nat.le_of_ble_eq_true rfl⟩) hPc hDc hKc hS hA hN (va_recv hKc hPc (ci := 11) (q0 := 0) rfl rfl) rfl hl.1 rfl (Nat.le_of_ble_eq_true rfl) dX10_told_37 (fun H locs hP1 hD1 hk1 hS => ?_)
    have hP := hP1
    have hD := hD1.weaken (fun k q _ h => hFc q.1 h)
    exact K _ _ _ _ _ _ dX10_told_40 rfl (Option.some.inj h).symm hP hD hS
  have h := nd_neg h c5
  refine lv_lookup (off := 40) (tgt := 41) hx hb dX10_told_1 (by decide) (show Op.lookupswitch.offset [(1, 27), (2, 34)] 40 (v1 : Int32).toInt = 40 by rw [lv_osw c1 (by decide), lv_osw c5 (by decide)] <;> rfl) (by decide) ?_
  refine lv_aload_n hx hb dX10_told_41 rfl (lv_at hl 0 rfl) ?_
  refine lv_iload_n hx hb dX10_told_42 rfl (lv_at hl 1 rfl) ?_
  refine lv_iload_n hx hb dX10_told_43 rfl (lv_at hl 2 rfl) ?_
  obtain ⟨q9, s10, hq, h⟩ := nd_b2_e h
  have hPc := hP
  have hDc := hD
  have hKc := hK
  have hFc := nd_rs hD hS hA
  refine nd_cVi (As := [.int v0, .int v1]) (rest := []) (q := q9) (w' := dw_X10 a ac s10) ⟨hx, hb, hml, hown, hts⟩ (fun sz => dm_X10_of l hlt dC dI a ac n (v0) (v1) s0 hq sz) (cwV 2 hts gi_dm_X10_told_0 rfl rfl rfl (by decide +kernel) ⟨Nat.le_of_ble_eq_true rfl, Nat.le_of_ble_eq_true rfl⟩) hPc hDc hKc hS hA hN (va_recv hKc hPc (ci := 11) (q0 := 0) rfl rfl) rfl hl.1 rfl (Nat.le_of_ble_eq_true rfl) dX10_told_44 (fun H locs hP1 hD1 hk1 hS => ?_)
  have hP := hP1
  have hD := hD1.weaken (fun k q _ h => hFc q.1 h)
  exact K _ _ _ _ _ _ dX10_told_47 rfl (Option.some.inj h).symm hP hD hS
set_option maxHeartbeats 40000000 in
set_option maxRecDepth 100000 in
theorem dm_X10_told (l : Launch) (hlt : l.stackTraces = false) (dC : Nat → ClassId) (dI : Nat → Nat → Nat) (a : Nat → Nat) (ac : Nat → ClassId) (n : Nat) (v0 : Int32) (v1 : Int32) (s0 : St) {r : Int32 × (St)} (h : df_X10_told n v0 v1 s0 = some r) (sz : Nat) : Met l yX10_told ow_dm_X10_told ({ frames := 1, cells := 0, slots := 0, locals := 23 }) (va_Pc [.ref (a 0), .int v0, .int v1] (fun U => U.heap.size = sz ∧ va_P (dC, dI) vwCl (dw_X10 a ac s0) U.heap ∧ va_K (dC, dI) vwCl (dk_X10 ac) U ∧ va_D (fun _ => True) (dw_X10 a ac s0) ∧ nv_E (va_A (dw_X10 a ac s0) sz) U)) (va_Qi (fun x _ => x = r.1) (fun (_ : Unit) t => va_P (dC, dI) vwCl (dw_X10 a ac r.2) t.heap ∧ va_K (dC, dI) vwCl (dk_X10 ac) t ∧ va_D (va_A (dw_X10 a ac s0) sz) (dw_X10 a ac r.2)) (va_A (dw_X10 a ac s0) sz)) 0 0 (va_A (dw_X10 a ac s0) sz) := by
  refine Met.ofW (cc := cX10_told) (maxL := 3) (ret := (some .int)) (by decide) rfl ?_
  intro p e s m args below meth c s₁ B hml hv
  obtain ⟨rfl, hsz, hP, hK, hD0, hN⟩ := hv
  have hx := B.exec
  have hb := B.bytes
  have hr := B.returns
  have hts := atoms_spec (ws := ow_dm_X10_told) B.pre
  have hown : s.vm.findClass RX10 = some m.cls := findClass_of_methodNamed B.named
  have hlocks := B.notSynchronized
  subst hsz
  have hD := hD0.self (sz := s.heap.size)
  generalize hAe : va_A (dw_X10 a ac s0) s.heap.size = A at hD hN ⊢
  have hA : ∀ q : Nat, s.heap.size ≤ q → A q := fun q h => by rw [← hAe]; exact Or.inr h
  have hl := lv_entry ([.ref (a 0), .int v0, .int v1]) (n := 3) (Nat.le_of_ble_eq_true rfl)
  rw [lg_entry_eq]
  generalize (lg_sl ([.ref (a 0), .int v0, .int v1]) ++ List.replicate (3 - (lg_sl ([.ref (a 0), .int v0, .int v1])).length) Slot.unset).toArray = ls at hl ⊢
  have hl : lv_has ls 3 [(0, .ref (a 0)), (1, .int v0), (2, .int v1)] := hl
  exact db_X10_told_0 (dC := dC) (dI := dI) (a := a) (ac := ac) (n := n) (r := r) ⟨hlt, hx, hb, hml, hown, hts, hN, hA, hK⟩ (fun pc v τ H locs ls d z er hP hD hS => by subst er; exact W.zret (v := v) hx hb hr z (fun t ht hW => ⟨⟨v, (), rfl, rfl, by rw [ht]; exact hP, va_K.moved hW.alike hK, hD⟩, hS.F ht⟩) hS.2.2 d) v0 v1 s0 _ _ _ h hP hD va_S.rf (lv_sub hl [0, 1, 2] rfl)
def ow_dm_X10_readWaits : List Cond := .code yX10_readWaits cX10_readWaits 5 (some .boolean) :: ([.fieldLink RX10 15 "TimeMachine$Things" "opening" "[I", .fieldLink RX10 18 "TimeMachine$Things" "pipe" "[I", .fieldLink RX10 46 "TimeMachine$Things" "typedBytes" "I"] ++ (u_ws RX10 TX10 11 ++ []))
theorem gd_dm_X10_readWaits : ∀ w ∈ ow_dm_X10_readWaits, (w.onTables && w.keeps) = true ∨ ∃ ty, w = Cond.arrayClass ty := List.forall_mem_cons.mpr ⟨good_of_word rfl, List.forall_mem_append.mpr ⟨fun w h => good_of_word (List.all_eq_true.mp (by decide +kernel) w h), List.forall_mem_append.mpr ⟨gu_X10, fun _ h => nomatch h⟩⟩⟩
theorem hi_dm_X10_readWaits_X10 : ∀ w ∈ u_ws RX10 TX10 11, w ∈ ow_dm_X10_readWaits := fun w h => List.mem_cons_of_mem _ (List.mem_append_right _ (List.mem_append_left _ h))
def dj_X10_readWaits_8 (p : Program) (l : Launch) (e : Env) (s : State) (m : MethodId) (args : Array Value) (below : List Frame) (meth : Method) (c : Code) (Q : State → Prop) (A : Nat → Prop) (dC : Nat → ClassId) (dI : Nat → Nat → Nat) (a : Nat → Nat) (ac : Nat → ClassId) (g : (St) → Option (Int32 × (St))) (r : Int32 × (St)) : Prop := ∀ (s0 : St) (H : Heap) (locs : List Loc) (ls : Array Slot), g s0 = some r → va_P (dC, dI) vwCl (dw_X10 a ac s0) H → va_D A (dw_X10 a ac s0) → va_S A s.heap H locs → lv_has ls 5 [] → W p l e (headSpec ow_dm_X10_readWaits ({ frames := 0, cells := 0, slots := 0, locals := 0 })).room s m args below meth c H locs 0 0 Q (F0 m 8 ls [])
def dj_X10_readWaits_87 (p : Program) (l : Launch) (e : Env) (s : State) (m : MethodId) (args : Array Value) (below : List Frame) (meth : Method) (c : Code) (Q : State → Prop) (A : Nat → Prop) (dC : Nat → ClassId) (dI : Nat → Nat → Nat) (a : Nat → Nat) (ac : Nat → ClassId) (g : Int32 → (St) → Option (Int32 × (St))) (r : Int32 × (St)) : Prop := ∀ (y0 : Int32) (s0 : St) (H : Heap) (locs : List Loc) (ls : Array Slot), g y0 s0 = some r → va_P (dC, dI) vwCl (dw_X10 a ac s0) H → va_D A (dw_X10 a ac s0) → va_S A s.heap H locs → lv_has ls 5 [] → W p l e (headSpec ow_dm_X10_readWaits ({ frames := 0, cells := 0, slots := 0, locals := 0 })).room s m args below meth c H locs 0 0 Q (F0 m 87 ls [.int y0])
def dj_X10_readWaits_86 (p : Program) (l : Launch) (e : Env) (s : State) (m : MethodId) (args : Array Value) (below : List Frame) (meth : Method) (c : Code) (Q : State → Prop) (A : Nat → Prop) (dC : Nat → ClassId) (dI : Nat → Nat → Nat) (a : Nat → Nat) (ac : Nat → ClassId) (g : (St) → Option (Int32 × (St))) (r : Int32 × (St)) : Prop := ∀ (s0 : St) (H : Heap) (locs : List Loc) (ls : Array Slot), g s0 = some r → va_P (dC, dI) vwCl (dw_X10 a ac s0) H → va_D A (dw_X10 a ac s0) → va_S A s.heap H locs → lv_has ls 5 [] → W p l e (headSpec ow_dm_X10_readWaits ({ frames := 0, cells := 0, slots := 0, locals := 0 })).room s m args below meth c H locs 0 0 Q (F0 m 86 ls [])
def dj_X10_readWaits_52 (p : Program) (l : Launch) (e : Env) (s : State) (m : MethodId) (args : Array Value) (below : List Frame) (meth : Method) (c : Code) (Q : State → Prop) (A : Nat → Prop) (dC : Nat → ClassId) (dI : Nat → Nat → Nat) (a : Nat → Nat) (ac : Nat → ClassId) (g : Int32 → (St) → Option (Int32 × (St))) (r : Int32 × (St)) : Prop := ∀ (y0 : Int32) (s0 : St) (H : Heap) (locs : List Loc) (ls : Array Slot), g y0 s0 = some r → va_P (dC, dI) vwCl (dw_X10 a ac s0) H → va_D A (dw_X10 a ac s0) → va_S A s.heap H locs → lv_has ls 5 [] → W p l e (headSpec ow_dm_X10_readWaits ({ frames := 0, cells := 0, slots := 0, locals := 0 })).room s m args below meth c H locs 0 0 Q (F0 m 52 ls [.int y0])
def dj_X10_readWaits_0 (p : Program) (l : Launch) (e : Env) (s : State) (m : MethodId) (args : Array Value) (below : List Frame) (meth : Method) (c : Code) (Q : State → Prop) (A : Nat → Prop) (dC : Nat → ClassId) (dI : Nat → Nat → Nat) (a : Nat → Nat) (ac : Nat → ClassId) (g : Int32 → Int32 → (St) → Option (Int32 × (St))) (r : Int32 × (St)) : Prop := ∀ (v0 : Int32) (v1 : Int32) (s0 : St) (H : Heap) (locs : List Loc) (ls : Array Slot), g v0 v1 s0 = some r → va_P (dC, dI) vwCl (dw_X10 a ac s0) H → va_D A (dw_X10 a ac s0) → va_S A s.heap H locs → lv_has ls 5 [(0, .ref (a 0)), (1, .int v0), (2, .int v1)] → W p l e (headSpec ow_dm_X10_readWaits ({ frames := 0, cells := 0, slots := 0, locals := 0 })).room s m args below meth c H locs 0 0 Q (F0 m 0 ls [])
set_option maxHeartbeats 40000000 in
set_option maxRecDepth 100000 in
theorem db_X10_readWaits_8 {p : Program} {l : Launch} {e : Env} {s : State} {m : MethodId} {args : Array Value} {below : List Frame} {meth : Method} {c : Code} {Q : State → Prop} {A : Nat → Prop} {dC : Nat → ClassId} {dI : Nat → Nat → Nat} {a : Nat → Nat} {ac : Nat → ClassId} {n : Nat} {r : Int32 × (St)} (C : nd_C p l s m args c A (dC, dI) cX10_readWaits 5 RX10 ow_dm_X10_readWaits (dk_X10 ac)) (K : nd_Ki p l e (headSpec ow_dm_X10_readWaits ({ frames := 0, cells := 0, slots := 0, locals := 0 })).room s m args below meth c Q A (dC, dI) cX10_readWaits .boolean (St) (dw_X10 a ac) r) : dj_X10_readWaits_8 p l e s m args below meth c Q A dC dI a ac (df_X10_readWaits_8 n) r := by
  obtain ⟨hlt, hx, hb, hml, hown, hts, hN, hA, hK⟩ := id C
  intro s0 H locs ls h hP hD hS hl
  unfold df_X10_readWaits_8 at h
  refine lv_iconst (v := 0) hx hb dX10_readWaits_8 (by decide) ?_
  exact K _ _ _ _ _ _ dX10_readWaits_9 (by first | rfl | decide) (Option.some.inj h).symm hP hD hS
set_option maxHeartbeats 40000000 in
set_option maxRecDepth 100000 in
theorem db_X10_readWaits_87 {p : Program} {l : Launch} {e : Env} {s : State} {m : MethodId} {args : Array Value} {below : List Frame} {meth : Method} {c : Code} {Q : State → Prop} {A : Nat → Prop} {dC : Nat → ClassId} {dI : Nat → Nat → Nat} {a : Nat → Nat} {ac : Nat → ClassId} {n : Nat} {r : Int32 × (St)} (C : nd_C p l s m args c A (dC, dI) cX10_readWaits 5 RX10 ow_dm_X10_readWaits (dk_X10 ac)) (K : nd_Ki p l e (headSpec ow_dm_X10_readWaits ({ frames := 0, cells := 0, slots := 0, locals := 0 })).room s m args below meth c Q A (dC, dI) cX10_readWaits .boolean (St) (dw_X10 a ac) r) : dj_X10_readWaits_87 p l e s m args below meth c Q A dC dI a ac (df_X10_readWaits_87 n) r := by
  obtain ⟨hlt, hx, hb, hml, hown, hts, hN, hA, hK⟩ := id C
  intro y0 s0 H locs ls h hP hD hS hl
  unfold df_X10_readWaits_87 at h
  obtain ⟨n9, h⟩ := nd_z_e ⟨_, rfl⟩ h
  exact K _ _ _ _ _ _ dX10_readWaits_87 n9 (Option.some.inj h).symm hP hD hS
set_option maxHeartbeats 40000000 in
set_option maxRecDepth 100000 in
theorem db_X10_readWaits_86 {p : Program} {l : Launch} {e : Env} {s : State} {m : MethodId} {args : Array Value} {below : List Frame} {meth : Method} {c : Code} {Q : State → Prop} {A : Nat → Prop} {dC : Nat → ClassId} {dI : Nat → Nat → Nat} {a : Nat → Nat} {ac : Nat → ClassId} {n : Nat} {r : Int32 × (St)} (C : nd_C p l s m args c A (dC, dI) cX10_readWaits 5 RX10 ow_dm_X10_readWaits (dk_X10 ac)) (K : nd_Ki p l e (headSpec ow_dm_X10_readWaits ({ frames := 0, cells := 0, slots := 0, locals := 0 })).room s m args below meth c Q A (dC, dI) cX10_readWaits .boolean (St) (dw_X10 a ac) r) : dj_X10_readWaits_86 p l e s m args below meth c Q A dC dI a ac (df_X10_readWaits_86 n) r := by
  obtain ⟨hlt, hx, hb, hml, hown, hts, hN, hA, hK⟩ := id C
  intro s0 H locs ls h hP hD hS hl
  unfold df_X10_readWaits_86 at h
  refine lv_iconst (v := 0) hx hb dX10_readWaits_86 (by decide) ?_
  exact (db_X10_readWaits_87 C K) (0) s0 _ _ _ h hP hD hS (lv_sub hl [] rfl)
set_option maxHeartbeats 40000000 in
set_option maxRecDepth 100000 in
theorem db_X10_readWaits_52 {p : Program} {l : Launch} {e : Env} {s : State} {m : MethodId} {args : Array Value} {below : List Frame} {meth : Method} {c : Code} {Q : State → Prop} {A : Nat → Prop} {dC : Nat → ClassId} {dI : Nat → Nat → Nat} {a : Nat → Nat} {ac : Nat → ClassId} {n : Nat} {r : Int32 × (St)} (C : nd_C p l s m args c A (dC, dI) cX10_readWaits 5 RX10 ow_dm_X10_readWaits (dk_X10 ac)) (K : nd_Ki p l e (headSpec ow_dm_X10_readWaits ({ frames := 0, cells := 0, slots := 0, locals := 0 })).room s m args below meth c Q A (dC, dI) cX10_readWaits .boolean (St) (dw_X10 a ac) r) : dj_X10_readWaits_52 p l e s m args below meth c Q A dC dI a ac (df_X10_readWaits_52 n) r := by
  obtain ⟨hlt, hx, hb, hml, hown, hts, hN, hA, hK⟩ := id C
  intro y0 s0 H locs ls h hP hD hS hl
  unfold df_X10_readWaits_52 at h
  obtain ⟨n15, h⟩ := nd_z_e ⟨_, rfl⟩ h
  exact K _ _ _ _ _ _ dX10_readWaits_52 n15 (Option.some.inj h).symm hP hD hS
set_option maxHeartbeats 40000000 in
set_option maxRecDepth 100000 in
theorem db_X10_readWaits_0 {p : Program} {l : Launch} {e : Env} {s : State} {m : MethodId} {args : Array Value} {below : List Frame} {meth : Method} {c : Code} {Q : State → Prop} {A : Nat → Prop} {dC : Nat → ClassId} {dI : Nat → Nat → Nat} {a : Nat → Nat} {ac : Nat → ClassId} {n : Nat} {r : Int32 × (St)} (C : nd_C p l s m args c A (dC, dI) cX10_readWaits 5 RX10 ow_dm_X10_readWaits (dk_X10 ac)) (K : nd_Ki p l e (headSpec ow_dm_X10_readWaits ({ frames := 0, cells := 0, slots := 0, locals := 0 })).room s m args below meth c Q A (dC, dI) cX10_readWaits .boolean (St) (dw_X10 a ac) r) : dj_X10_readWaits_0 p l e s m args below meth c Q A dC dI a ac (df_X10_readWaits_0 n) r := by
  obtain ⟨hlt, hx, hb, hml, hown, hts, hN, hA, hK⟩ := id C
  intro v0 v1 s0 H locs ls h hP hD hS hl
  unfold df_X10_readWaits_0 at h
  refine lv_iload_n hx hb dX10_readWaits_0 rfl (lv_at hl 2 rfl) ?_
  refine lv_if_eq (tgt := 8) hx hb dX10_readWaits_1 (by decide) (fun c1 => ?_) (fun c1 => ?_)
  · have h := nd_pos h c1
    exact (db_X10_readWaits_8 C K)  s0 _ _ _ h hP hD hS (lv_sub hl [] rfl)
  · have h := nd_neg h c1
    refine lv_iload_n hx hb dX10_readWaits_4 rfl (lv_at hl 1 rfl) ?_
    refine lv_if_ge (tgt := 10) hx hb dX10_readWaits_5 (by decide) (fun c2 => ?_) (fun c2 => ?_)
    · have h := nd_pos h c2
      refine lv_aload_n hx hb dX10_readWaits_10 rfl (lv_at hl 0 rfl) ?_
      refine va_get (D := (dC, dI)) (ci := 11) (v := .ref (a 2)) (C := RX10) (T := TX10) (N := 11) hx hb hts hi_dm_X10_readWaits_X10 hown hK hP 0 rfl rfl 1 (by decide) (hts (.fieldLink RX10 15 "TimeMachine$Things" "opening" "[I") (List.mem_of_getElem? (i := 1) rfl)) (fun _ h9 => h9) rfl dX10_readWaits_11 ?_
      refine lv_iload_n hx hb dX10_readWaits_14 rfl (lv_at hl 1 rfl) ?_
      refine lv_iconst (v := 5) hx hb dX10_readWaits_15 (by decide) ?_
      refine lv_imul hx hb dX10_readWaits_16 ?_
      refine lv_iconst (v := 0) hx hb dX10_readWaits_17 (by decide) ?_
      refine lv_iadd hx hb dX10_readWaits_18 ?_
      obtain ⟨i3, h⟩ := nd_ck_e h
      refine va_iald (i := ((v0 * 5) + 0)) hx hb hK hP 2 1 rfl rfl i3 dX10_readWaits_19 ?_
      refine lv_topi (fun z4 ez4 => ?_)
      have h := nd_at h ez4
      refine lv_istore_n (lv' := [(3, .int z4), (0, .ref (a 0)), (1, .int v0), (2, .int v1)]) hx hb dX10_readWaits_20 rfl hl (by decide) rfl (fun ls hl => ?_)
      refine lv_aload_n hx hb dX10_readWaits_21 rfl (lv_at hl 1 rfl) ?_
      refine va_get (D := (dC, dI)) (ci := 11) (v := .ref (a 2)) (C := RX10) (T := TX10) (N := 11) hx hb hts hi_dm_X10_readWaits_X10 hown hK hP 0 rfl rfl 1 (by decide) (hts (.fieldLink RX10 15 "TimeMachine$Things" "opening" "[I") (List.mem_of_getElem? (i := 1) rfl)) (fun _ h9 => h9) rfl dX10_readWaits_22 ?_
      refine lv_iload_n hx hb dX10_readWaits_25 rfl (lv_at hl 2 rfl) ?_
      refine lv_iconst (v := 5) hx hb dX10_readWaits_26 (by decide) ?_
      refine lv_imul hx hb dX10_readWaits_27 ?_
      refine lv_iconst (v := 2) hx hb dX10_readWaits_28 (by decide) ?_
      refine lv_iadd hx hb dX10_readWaits_29 ?_
      obtain ⟨i5, h⟩ := nd_ck_e h
      refine va_iald (i := ((v0 * 5) + 2)) hx hb hK hP 2 1 rfl rfl i5 dX10_readWaits_30 ?_
      refine lv_iconst (v := 4) hx hb dX10_readWaits_31 (by decide) ?_
      refine lv_imul hx hb dX10_readWaits_32 ?_
      refine lv_topi (fun z6 ez6 => ?_)
      have h := nd_at h ez6
      refine lv_istore (lv' := [(4, .int z6), (3, .int z4), (0, .ref (a 0)), (1, .int v0), (2, .int v1)]) hx hb dX10_readWaits_33 hl (by decide) rfl (fun ls hl => ?_)
      refine lv_iload_n hx hb dX10_readWaits_35 rfl (lv_at hl 1 rfl) ?_
      refine lv_iconst (v := 4) hx hb dX10_readWaits_36 (by decide) ?_
      refine lv_icmp_ne (tgt := 53) hx hb dX10_readWaits_37 (by decide) (fun c7 => ?_) (fun c7 => ?_)
      · have h := nd_neg h c7
        refine lv_iload_n hx hb dX10_readWaits_53 rfl (lv_at hl 1 rfl) ?_
        refine lv_iconst (v := 1) hx hb dX10_readWaits_54 (by decide) ?_
        refine lv_icmp_ne (tgt := 86) hx hb dX10_readWaits_55 (by decide) (fun c8 => ?_) (fun c8 => ?_)
        · have h := nd_neg h c8
          exact (db_X10_readWaits_86 C K)  s0 _ _ _ h hP hD hS (lv_sub hl [] rfl)
        · have h := nd_pos h c8
          refine lv_aload_n hx hb dX10_readWaits_58 rfl (lv_at hl 2 rfl) ?_
          refine va_get (D := (dC, dI)) (ci := 11) (v := .ref (a 3)) (C := RX10) (T := TX10) (N := 11) hx hb hts hi_dm_X10_readWaits_X10 hown hK hP 0 rfl rfl 2 (by decide) (hts (.fieldLink RX10 18 "TimeMachine$Things" "pipe" "[I") (List.mem_of_getElem? (i := 2) rfl)) (fun _ h9 => h9) rfl dX10_readWaits_59 ?_
          refine lv_iload hx hb dX10_readWaits_62 (lv_at hl 0 rfl) ?_
          refine lv_iconst (v := 0) hx hb dX10_readWaits_64 (by decide) ?_
          refine lv_iadd hx hb dX10_readWaits_65 ?_
          obtain ⟨i10, h⟩ := nd_ck_e h
          refine va_iald (i := (z6 + 0)) hx hb hK hP 3 2 rfl rfl i10 dX10_readWaits_66 ?_
          refine lv_if_ne (tgt := 86) hx hb dX10_readWaits_67 (by decide) (fun c11 => ?_) (fun c11 => ?_)
          · have h := nd_neg h c11
            exact (db_X10_readWaits_86 C K)  s0 _ _ _ h hP hD hS (lv_sub hl [] rfl)
          · have h := nd_pos h c11
            refine lv_aload_n hx hb dX10_readWaits_70 rfl (lv_at hl 2 rfl) ?_
            refine va_get (D := (dC, dI)) (ci := 11) (v := .ref (a 3)) (C := RX10) (T := TX10) (N := 11) hx hb hts hi_dm_X10_readWaits_X10 hown hK hP 0 rfl rfl 2 (by decide) (hts (.fieldLink RX10 18 "TimeMachine$Things" "pipe" "[I") (List.mem_of_getElem? (i := 2) rfl)) (fun _ h9 => h9) rfl dX10_readWaits_71 ?_
            refine lv_iload hx hb dX10_readWaits_74 (lv_at hl 0 rfl) ?_
            refine lv_iconst (v := 2) hx hb dX10_readWaits_76 (by decide) ?_
            refine lv_iadd hx hb dX10_readWaits_77 ?_
            obtain ⟨i12, h⟩ := nd_ck_e h
            refine va_iald (i := (z6 + 2)) hx hb hK hP 3 2 rfl rfl i12 dX10_readWaits_78 ?_
            refine lv_if_le (tgt := 86) hx hb dX10_readWaits_79 (by decide) (fun c13 => ?_) (fun c13 => ?_)
            · have h := nd_pos h c13
              exact (db_X10_readWaits_86 C K)  s0 _ _ _ h hP hD hS (lv_sub hl [] rfl)
            · have h := nd_neg h c13
              refine lv_iconst (v := 1) hx hb dX10_readWaits_82 (by decide) ?_
              refine lv_goto (tgt := 87) hx hb dX10_readWaits_83 (by decide) ?_
              exact (db_X10_readWaits_87 C K) (1) s0 _ _ _ h hP hD hS (lv_sub hl [] rfl)
      · have h := nd_pos h c7
        refine lv_aload_n hx hb dX10_readWaits_40 rfl (lv_at hl 2 rfl) ?_
        refine va_get (D := (dC, dI)) (ci := 11) (v := .int (sI s0 0)) (C := RX10) (T := TX10) (N := 11) hx hb hts hi_dm_X10_readWaits_X10 hown hK hP 0 rfl rfl 8 (by decide) (hts (.fieldLink RX10 46 "TimeMachine$Things" "typedBytes" "I") (List.mem_of_getElem? (i := 3) rfl)) (fun _ h9 => h9) rfl dX10_readWaits_41 ?_
        refine lv_if_ne (tgt := 51) hx hb dX10_readWaits_44 (by decide) (fun c14 => ?_) (fun c14 => ?_)
        · have h := nd_neg h c14
          refine lv_iconst (v := 0) hx hb dX10_readWaits_51 (by decide) ?_
          exact (db_X10_readWaits_52 C K) (0) s0 _ _ _ h hP hD hS (lv_sub hl [] rfl)
        · have h := nd_pos h c14
          refine lv_iconst (v := 1) hx hb dX10_readWaits_47 (by decide) ?_
          refine lv_goto (tgt := 52) hx hb dX10_readWaits_48 (by decide) ?_
          exact (db_X10_readWaits_52 C K) (1) s0 _ _ _ h hP hD hS (lv_sub hl [] rfl)
    · have h := nd_neg h c2
      exact (db_X10_readWaits_8 C K)  s0 _ _ _ h hP hD hS (lv_sub hl [] rfl)
set_option maxHeartbeats 40000000 in
set_option maxRecDepth 100000 in
theorem dm_X10_readWaits (l : Launch) (hlt : l.stackTraces = false) (dC : Nat → ClassId) (dI : Nat → Nat → Nat) (a : Nat → Nat) (ac : Nat → ClassId) (n : Nat) (v0 : Int32) (v1 : Int32) (s0 : St) {r : Int32 × (St)} (h : df_X10_readWaits n v0 v1 s0 = some r) (sz : Nat) : Met l yX10_readWaits ow_dm_X10_readWaits ({ frames := 0, cells := 0, slots := 0, locals := 0 }) (va_Pc [.ref (a 0), .int v0, .int v1] (fun U => U.heap.size = sz ∧ va_P (dC, dI) vwCl (dw_X10 a ac s0) U.heap ∧ va_K (dC, dI) vwCl (dk_X10 ac) U ∧ va_D (fun _ => True) (dw_X10 a ac s0) ∧ nv_E (va_A (dw_X10 a ac s0) sz) U)) (va_Qi (fun x _ => x = r.1) (fun (_ : Unit) t => va_P (dC, dI) vwCl (dw_X10 a ac r.2) t.heap ∧ va_K (dC, dI) vwCl (dk_X10 ac) t ∧ va_D (va_A (dw_X10 a ac s0) sz) (dw_X10 a ac r.2)) (va_A (dw_X10 a ac s0) sz)) 0 0 (va_A (dw_X10 a ac s0) sz) := by
  refine Met.ofW (cc := cX10_readWaits) (maxL := 5) (ret := (some .boolean)) (by decide) rfl ?_
  intro p e s m args below meth c s₁ B hml hv
  obtain ⟨rfl, hsz, hP, hK, hD0, hN⟩ := hv
  have hx := B.exec
  have hb := B.bytes
  have hr := B.returns
  have hts := atoms_spec (ws := ow_dm_X10_readWaits) B.pre
  have hown : s.vm.findClass RX10 = some m.cls := findClass_of_methodNamed B.named
  have hlocks := B.notSynchronized
  subst hsz
  have hD := hD0.self (sz := s.heap.size)
  generalize hAe : va_A (dw_X10 a ac s0) s.heap.size = A at hD hN ⊢
  have hA : ∀ q : Nat, s.heap.size ≤ q → A q := fun q h => by rw [← hAe]; exact Or.inr h
  have hl := lv_entry ([.ref (a 0), .int v0, .int v1]) (n := 5) (Nat.le_of_ble_eq_true rfl)
  rw [lg_entry_eq]
  generalize (lg_sl ([.ref (a 0), .int v0, .int v1]) ++ List.replicate (5 - (lg_sl ([.ref (a 0), .int v0, .int v1])).length) Slot.unset).toArray = ls at hl ⊢
  have hl : lv_has ls 5 [(0, .ref (a 0)), (1, .int v0), (2, .int v1)] := hl
  exact db_X10_readWaits_0 (dC := dC) (dI := dI) (a := a) (ac := ac) (n := n) (r := r) ⟨hlt, hx, hb, hml, hown, hts, hN, hA, hK⟩ (fun pc v τ H locs ls d z er hP hD hS => by subst er; exact W.zret (v := v) hx hb hr z (fun t ht hW => ⟨⟨v, (), rfl, rfl, by rw [ht]; exact hP, va_K.moved hW.alike hK, hD⟩, hS.F ht⟩) hS.2.2 d) v0 v1 s0 _ _ _ h hP hD va_S.rf (lv_sub hl [0, 1, 2] rfl)
def ow_dm_X10_writeWaits : List Cond := .code yX10_writeWaits cX10_writeWaits 4 (some .boolean) :: ([.fieldLink RX10 15 "TimeMachine$Things" "opening" "[I", .fieldLink RX10 18 "TimeMachine$Things" "pipe" "[I"] ++ (u_ws RX10 TX10 11 ++ []))
theorem gd_dm_X10_writeWaits : ∀ w ∈ ow_dm_X10_writeWaits, (w.onTables && w.keeps) = true ∨ ∃ ty, w = Cond.arrayClass ty := List.forall_mem_cons.mpr ⟨good_of_word rfl, List.forall_mem_append.mpr ⟨fun w h => good_of_word (List.all_eq_true.mp (by decide +kernel) w h), List.forall_mem_append.mpr ⟨gu_X10, fun _ h => nomatch h⟩⟩⟩
theorem hi_dm_X10_writeWaits_X10 : ∀ w ∈ u_ws RX10 TX10 11, w ∈ ow_dm_X10_writeWaits := fun w h => List.mem_cons_of_mem _ (List.mem_append_right _ (List.mem_append_left _ h))
def dj_X10_writeWaits_22 (p : Program) (l : Launch) (e : Env) (s : State) (m : MethodId) (args : Array Value) (below : List Frame) (meth : Method) (c : Code) (Q : State → Prop) (A : Nat → Prop) (dC : Nat → ClassId) (dI : Nat → Nat → Nat) (a : Nat → Nat) (ac : Nat → ClassId) (g : (St) → Option (Int32 × (St))) (r : Int32 × (St)) : Prop := ∀ (s0 : St) (H : Heap) (locs : List Loc) (ls : Array Slot), g s0 = some r → va_P (dC, dI) vwCl (dw_X10 a ac s0) H → va_D A (dw_X10 a ac s0) → va_S A s.heap H locs → lv_has ls 4 [] → W p l e (headSpec ow_dm_X10_writeWaits ({ frames := 0, cells := 0, slots := 0, locals := 0 })).room s m args below meth c H locs 0 0 Q (F0 m 22 ls [])
def dj_X10_writeWaits_69 (p : Program) (l : Launch) (e : Env) (s : State) (m : MethodId) (args : Array Value) (below : List Frame) (meth : Method) (c : Code) (Q : State → Prop) (A : Nat → Prop) (dC : Nat → ClassId) (dI : Nat → Nat → Nat) (a : Nat → Nat) (ac : Nat → ClassId) (g : Int32 → (St) → Option (Int32 × (St))) (r : Int32 × (St)) : Prop := ∀ (y0 : Int32) (s0 : St) (H : Heap) (locs : List Loc) (ls : Array Slot), g y0 s0 = some r → va_P (dC, dI) vwCl (dw_X10 a ac s0) H → va_D A (dw_X10 a ac s0) → va_S A s.heap H locs → lv_has ls 4 [] → W p l e (headSpec ow_dm_X10_writeWaits ({ frames := 0, cells := 0, slots := 0, locals := 0 })).room s m args below meth c H locs 0 0 Q (F0 m 69 ls [.int y0])
def dj_X10_writeWaits_68 (p : Program) (l : Launch) (e : Env) (s : State) (m : MethodId) (args : Array Value) (below : List Frame) (meth : Method) (c : Code) (Q : State → Prop) (A : Nat → Prop) (dC : Nat → ClassId) (dI : Nat → Nat → Nat) (a : Nat → Nat) (ac : Nat → ClassId) (g : (St) → Option (Int32 × (St))) (r : Int32 × (St)) : Prop := ∀ (s0 : St) (H : Heap) (locs : List Loc) (ls : Array Slot), g s0 = some r → va_P (dC, dI) vwCl (dw_X10 a ac s0) H → va_D A (dw_X10 a ac s0) → va_S A s.heap H locs → lv_has ls 4 [] → W p l e (headSpec ow_dm_X10_writeWaits ({ frames := 0, cells := 0, slots := 0, locals := 0 })).room s m args below meth c H locs 0 0 Q (F0 m 68 ls [])
def dj_X10_writeWaits_0 (p : Program) (l : Launch) (e : Env) (s : State) (m : MethodId) (args : Array Value) (below : List Frame) (meth : Method) (c : Code) (Q : State → Prop) (A : Nat → Prop) (dC : Nat → ClassId) (dI : Nat → Nat → Nat) (a : Nat → Nat) (ac : Nat → ClassId) (g : Int32 → Int32 → (St) → Option (Int32 × (St))) (r : Int32 × (St)) : Prop := ∀ (v0 : Int32) (v1 : Int32) (s0 : St) (H : Heap) (locs : List Loc) (ls : Array Slot), g v0 v1 s0 = some r → va_P (dC, dI) vwCl (dw_X10 a ac s0) H → va_D A (dw_X10 a ac s0) → va_S A s.heap H locs → lv_has ls 4 [(0, .ref (a 0)), (1, .int v0), (2, .int v1)] → W p l e (headSpec ow_dm_X10_writeWaits ({ frames := 0, cells := 0, slots := 0, locals := 0 })).room s m args below meth c H locs 0 0 Q (F0 m 0 ls [])
set_option maxHeartbeats 40000000 in
set_option maxRecDepth 100000 in
theorem db_X10_writeWaits_22 {p : Program} {l : Launch} {e : Env} {s : State} {m : MethodId} {args : Array Value} {below : List Frame} {meth : Method} {c : Code} {Q : State → Prop} {A : Nat → Prop} {dC : Nat → ClassId} {dI : Nat → Nat → Nat} {a : Nat → Nat} {ac : Nat → ClassId} {n : Nat} {r : Int32 × (St)} (C : nd_C p l s m args c A (dC, dI) cX10_writeWaits 4 RX10 ow_dm_X10_writeWaits (dk_X10 ac)) (K : nd_Ki p l e (headSpec ow_dm_X10_writeWaits ({ frames := 0, cells := 0, slots := 0, locals := 0 })).room s m args below meth c Q A (dC, dI) cX10_writeWaits .boolean (St) (dw_X10 a ac) r) : dj_X10_writeWaits_22 p l e s m args below meth c Q A dC dI a ac (df_X10_writeWaits_22 n) r := by
  obtain ⟨hlt, hx, hb, hml, hown, hts, hN, hA, hK⟩ := id C
  intro s0 H locs ls h hP hD hS hl
  unfold df_X10_writeWaits_22 at h
  refine lv_iconst (v := 0) hx hb dX10_writeWaits_22 (by decide) ?_
  exact K _ _ _ _ _ _ dX10_writeWaits_23 (by first | rfl | decide) (Option.some.inj h).symm hP hD hS
set_option maxHeartbeats 40000000 in
set_option maxRecDepth 100000 in
theorem db_X10_writeWaits_69 {p : Program} {l : Launch} {e : Env} {s : State} {m : MethodId} {args : Array Value} {below : List Frame} {meth : Method} {c : Code} {Q : State → Prop} {A : Nat → Prop} {dC : Nat → ClassId} {dI : Nat → Nat → Nat} {a : Nat → Nat} {ac : Nat → ClassId} {n : Nat} {r : Int32 × (St)} (C : nd_C p l s m args c A (dC, dI) cX10_writeWaits 4 RX10 ow_dm_X10_writeWaits (dk_X10 ac)) (K : nd_Ki p l e (headSpec ow_dm_X10_writeWaits ({ frames := 0, cells := 0, slots := 0, locals := 0 })).room s m args below meth c Q A (dC, dI) cX10_writeWaits .boolean (St) (dw_X10 a ac) r) : dj_X10_writeWaits_69 p l e s m args below meth c Q A dC dI a ac (df_X10_writeWaits_69 n) r := by
  obtain ⟨hlt, hx, hb, hml, hown, hts, hN, hA, hK⟩ := id C
  intro y0 s0 H locs ls h hP hD hS hl
  unfold df_X10_writeWaits_69 at h
  obtain ⟨n9, h⟩ := nd_z_e ⟨_, rfl⟩ h
  exact K _ _ _ _ _ _ dX10_writeWaits_69 n9 (Option.some.inj h).symm hP hD hS
set_option maxHeartbeats 40000000 in
set_option maxRecDepth 100000 in
theorem db_X10_writeWaits_68 {p : Program} {l : Launch} {e : Env} {s : State} {m : MethodId} {args : Array Value} {below : List Frame} {meth : Method} {c : Code} {Q : State → Prop} {A : Nat → Prop} {dC : Nat → ClassId} {dI : Nat → Nat → Nat} {a : Nat → Nat} {ac : Nat → ClassId} {n : Nat} {r : Int32 × (St)} (C : nd_C p l s m args c A (dC, dI) cX10_writeWaits 4 RX10 ow_dm_X10_writeWaits (dk_X10 ac)) (K : nd_Ki p l e (headSpec ow_dm_X10_writeWaits ({ frames := 0, cells := 0, slots := 0, locals := 0 })).room s m args below meth c Q A (dC, dI) cX10_writeWaits .boolean (St) (dw_X10 a ac) r) : dj_X10_writeWaits_68 p l e s m args below meth c Q A dC dI a ac (df_X10_writeWaits_68 n) r := by
  obtain ⟨hlt, hx, hb, hml, hown, hts, hN, hA, hK⟩ := id C
  intro s0 H locs ls h hP hD hS hl
  unfold df_X10_writeWaits_68 at h
  refine lv_iconst (v := 0) hx hb dX10_writeWaits_68 (by decide) ?_
  exact (db_X10_writeWaits_69 C K) (0) s0 _ _ _ h hP hD hS (lv_sub hl [] rfl)
