set_option maxHeartbeats 40000000 in
set_option maxRecDepth 100000 in
theorem db_X4_changed_0 {p : Program} {l : Launch} {e : Env} {s : State} {m : MethodId} {args : Array Value} {below : List Frame} {meth : Method} {c : Code} {Q : State → Prop} {A : Nat → Prop} {dC : Nat → ClassId} {dI : Nat → Nat → Nat} {a : Nat → Nat} {ac : Nat → ClassId} {n : Nat} {r : Int32 × (Unit)} (C : nd_C p l s m args c A (dC, dI) cX4_changed 3 RX4 ow_dm_X4_changed (dk_P ac)) (K : nd_Ki p l e (headSpec ow_dm_X4_changed ({ frames := 2, cells := 0, slots := 0, locals := 42 })).room s m args below meth c Q A (dC, dI) cX4_changed .int (Unit) (dw_P a ac) r) : dj_X4_changed_0 p l e s m args below meth c Q A dC dI a ac (df_X4_changed_0 n) r := by
  obtain ⟨hlt, hx, hb, hml, hown, hts, hN, hA, hK⟩ := id C
  intro v0 v1 v2 s0 H locs ls h hP hD hS hl
  unfold df_X4_changed_0 at h
  refine lv_iload_n hx hb dX4_changed_0 rfl (lv_at hl 0 rfl) ?_
  by_cases c1 : v0 = 0
  · have h := nd_pos h c1
    refine lv_tableIn (off := 115) (tgt := 116) hx hb dX4_changed_1 (by rw [c1]; decide) (by rw [c1]; decide) (by rw [c1]; decide) (by decide) ?_
    refine lv_iload_n hx hb dX4_changed_116 rfl (lv_at hl 1 rfl) ?_
    refine lv_iload_n hx hb dX4_changed_117 rfl (lv_at hl 2 rfl) ?_
    refine lv_iadd hx hb dX4_changed_118 ?_
    exact K _ _ _ _ _ _ dX4_changed_119 rfl (Option.some.inj h).symm hP hD hS
  have h := nd_neg h c1
  by_cases c2 : v0 = 1
  · have h := nd_pos h c2
    refine lv_tableIn (off := 119) (tgt := 120) hx hb dX4_changed_1 (by rw [c2]; decide) (by rw [c2]; decide) (by rw [c2]; decide) (by decide) ?_
    refine lv_iload_n hx hb dX4_changed_120 rfl (lv_at hl 2 rfl) ?_
    exact K _ _ _ _ _ _ dX4_changed_121 rfl (Option.some.inj h).symm hP hD hS
  have h := nd_neg h c2
  by_cases c3 : v0 = 2
  · have h := nd_pos h c3
    refine lv_tableIn (off := 159) (tgt := 160) hx hb dX4_changed_1 (by rw [c3]; decide) (by rw [c3]; decide) (by rw [c3]; decide) (by decide) ?_
    exact (db_X4_changed_160 C K) (v1) (v2) s0 _ _ _ h hP hD hS (lv_sub hl [1, 2] rfl)
  have h := nd_neg h c3
  by_cases c8 : v0 = 3
  · have h := nd_pos h c8
    refine lv_tableIn (off := 159) (tgt := 160) hx hb dX4_changed_1 (by rw [c8]; decide) (by rw [c8]; decide) (by rw [c8]; decide) (by decide) ?_
    exact (db_X4_changed_160 C K) (v1) (v2) s0 _ _ _ h hP hD hS (lv_sub hl [1, 2] rfl)
  have h := nd_neg h c8
  by_cases c9 : v0 = 4
  · have h := nd_pos h c9
    refine lv_tableIn (off := 121) (tgt := 122) hx hb dX4_changed_1 (by rw [c9]; decide) (by rw [c9]; decide) (by rw [c9]; decide) (by decide) ?_
    refine lv_iload_n hx hb dX4_changed_122 rfl (lv_at hl 1 rfl) ?_
    refine lv_iload_n hx hb dX4_changed_123 rfl (lv_at hl 2 rfl) ?_
    refine lv_ixor hx hb dX4_changed_124 ?_
    exact K _ _ _ _ _ _ dX4_changed_125 rfl (Option.some.inj h).symm hP hD hS
  have h := nd_neg h c9
  by_cases c10 : v0 = 5
  · have h := nd_pos h c10
    refine lv_tableIn (off := 159) (tgt := 160) hx hb dX4_changed_1 (by rw [c10]; decide) (by rw [c10]; decide) (by rw [c10]; decide) (by decide) ?_
    exact (db_X4_changed_160 C K) (v1) (v2) s0 _ _ _ h hP hD hS (lv_sub hl [1, 2] rfl)
  have h := nd_neg h c10
  by_cases c11 : v0 = 6
  · have h := nd_pos h c11
    refine lv_tableIn (off := 159) (tgt := 160) hx hb dX4_changed_1 (by rw [c11]; decide) (by rw [c11]; decide) (by rw [c11]; decide) (by decide) ?_
    exact (db_X4_changed_160 C K) (v1) (v2) s0 _ _ _ h hP hD hS (lv_sub hl [1, 2] rfl)
  have h := nd_neg h c11
  by_cases c12 : v0 = 7
  · have h := nd_pos h c12
    refine lv_tableIn (off := 159) (tgt := 160) hx hb dX4_changed_1 (by rw [c12]; decide) (by rw [c12]; decide) (by rw [c12]; decide) (by decide) ?_
    exact (db_X4_changed_160 C K) (v1) (v2) s0 _ _ _ h hP hD hS (lv_sub hl [1, 2] rfl)
  have h := nd_neg h c12
  by_cases c13 : v0 = 8
  · have h := nd_pos h c13
    refine lv_tableIn (off := 125) (tgt := 126) hx hb dX4_changed_1 (by rw [c13]; decide) (by rw [c13]; decide) (by rw [c13]; decide) (by decide) ?_
    refine lv_iload_n hx hb dX4_changed_126 rfl (lv_at hl 1 rfl) ?_
    refine lv_iload_n hx hb dX4_changed_127 rfl (lv_at hl 2 rfl) ?_
    refine lv_ior hx hb dX4_changed_128 ?_
    exact K _ _ _ _ _ _ dX4_changed_129 rfl (Option.some.inj h).symm hP hD hS
  have h := nd_neg h c13
  by_cases c14 : v0 = 9
  · have h := nd_pos h c14
    refine lv_tableIn (off := 159) (tgt := 160) hx hb dX4_changed_1 (by rw [c14]; decide) (by rw [c14]; decide) (by rw [c14]; decide) (by decide) ?_
    exact (db_X4_changed_160 C K) (v1) (v2) s0 _ _ _ h hP hD hS (lv_sub hl [1, 2] rfl)
  have h := nd_neg h c14
  by_cases c15 : v0 = 10
  · have h := nd_pos h c15
    refine lv_tableIn (off := 159) (tgt := 160) hx hb dX4_changed_1 (by rw [c15]; decide) (by rw [c15]; decide) (by rw [c15]; decide) (by decide) ?_
    exact (db_X4_changed_160 C K) (v1) (v2) s0 _ _ _ h hP hD hS (lv_sub hl [1, 2] rfl)
  have h := nd_neg h c15
  by_cases c16 : v0 = 11
  · have h := nd_pos h c16
    refine lv_tableIn (off := 159) (tgt := 160) hx hb dX4_changed_1 (by rw [c16]; decide) (by rw [c16]; decide) (by rw [c16]; decide) (by decide) ?_
    exact (db_X4_changed_160 C K) (v1) (v2) s0 _ _ _ h hP hD hS (lv_sub hl [1, 2] rfl)
  have h := nd_neg h c16
  by_cases c17 : v0 = 12
  · have h := nd_pos h c17
    refine lv_tableIn (off := 129) (tgt := 130) hx hb dX4_changed_1 (by rw [c17]; decide) (by rw [c17]; decide) (by rw [c17]; decide) (by decide) ?_
    refine lv_iload_n hx hb dX4_changed_130 rfl (lv_at hl 1 rfl) ?_
    refine lv_iload_n hx hb dX4_changed_131 rfl (lv_at hl 2 rfl) ?_
    refine lv_iand hx hb dX4_changed_132 ?_
    exact K _ _ _ _ _ _ dX4_changed_133 rfl (Option.some.inj h).symm hP hD hS
  have h := nd_neg h c17
  by_cases c18 : v0 = 13
  · have h := nd_pos h c18
    refine lv_tableIn (off := 159) (tgt := 160) hx hb dX4_changed_1 (by rw [c18]; decide) (by rw [c18]; decide) (by rw [c18]; decide) (by decide) ?_
    exact (db_X4_changed_160 C K) (v1) (v2) s0 _ _ _ h hP hD hS (lv_sub hl [1, 2] rfl)
  have h := nd_neg h c18
  by_cases c19 : v0 = 14
  · have h := nd_pos h c19
    refine lv_tableIn (off := 159) (tgt := 160) hx hb dX4_changed_1 (by rw [c19]; decide) (by rw [c19]; decide) (by rw [c19]; decide) (by decide) ?_
    exact (db_X4_changed_160 C K) (v1) (v2) s0 _ _ _ h hP hD hS (lv_sub hl [1, 2] rfl)
  have h := nd_neg h c19
  by_cases c20 : v0 = 15
  · have h := nd_pos h c20
    refine lv_tableIn (off := 159) (tgt := 160) hx hb dX4_changed_1 (by rw [c20]; decide) (by rw [c20]; decide) (by rw [c20]; decide) (by decide) ?_
    exact (db_X4_changed_160 C K) (v1) (v2) s0 _ _ _ h hP hD hS (lv_sub hl [1, 2] rfl)
  have h := nd_neg h c20
  by_cases c21 : v0 = 16
  · have h := nd_pos h c21
    refine lv_tableIn (off := 133) (tgt := 134) hx hb dX4_changed_1 (by rw [c21]; decide) (by rw [c21]; decide) (by rw [c21]; decide) (by decide) ?_
    refine lv_iload_n hx hb dX4_changed_134 rfl (lv_at hl 1 rfl) ?_
    refine lv_iload_n hx hb dX4_changed_135 rfl (lv_at hl 2 rfl) ?_
    refine va_mmin hx hb (by rw [hml]; exact hl.1.symm) hown (hts (.methodLink RX4 128 Lib.Math.min.name) (List.mem_of_getElem? (i := 4) rfl)) (hts (.static Lib.Math.min.name) (List.mem_of_getElem? (i := 5) rfl)) (hts (.initialized "java/lang/Math") (List.mem_of_getElem? (i := 6) rfl)) (hts (.code Lib.Math.min.name Lib.Math.min.code 2 (some .int)) (List.mem_of_getElem? (i := 7) rfl)) (Nat.le_of_ble_eq_true rfl) (Nat.le_of_ble_eq_true rfl) (by decide +kernel) (by decide +kernel) dX4_changed_136 ?_
    exact K _ _ _ _ _ _ dX4_changed_139 rfl (Option.some.inj h).symm hP hD hS
  have h := nd_neg h c21
  by_cases c22 : v0 = 17
  · have h := nd_pos h c22
    refine lv_tableIn (off := 159) (tgt := 160) hx hb dX4_changed_1 (by rw [c22]; decide) (by rw [c22]; decide) (by rw [c22]; decide) (by decide) ?_
    exact (db_X4_changed_160 C K) (v1) (v2) s0 _ _ _ h hP hD hS (lv_sub hl [1, 2] rfl)
  have h := nd_neg h c22
  by_cases c23 : v0 = 18
  · have h := nd_pos h c23
    refine lv_tableIn (off := 159) (tgt := 160) hx hb dX4_changed_1 (by rw [c23]; decide) (by rw [c23]; decide) (by rw [c23]; decide) (by decide) ?_
    exact (db_X4_changed_160 C K) (v1) (v2) s0 _ _ _ h hP hD hS (lv_sub hl [1, 2] rfl)
  have h := nd_neg h c23
  by_cases c24 : v0 = 19
  · have h := nd_pos h c24
    refine lv_tableIn (off := 159) (tgt := 160) hx hb dX4_changed_1 (by rw [c24]; decide) (by rw [c24]; decide) (by rw [c24]; decide) (by decide) ?_
    exact (db_X4_changed_160 C K) (v1) (v2) s0 _ _ _ h hP hD hS (lv_sub hl [1, 2] rfl)
  have h := nd_neg h c24
  by_cases c25 : v0 = 20
  · have h := nd_pos h c25
    refine lv_tableIn (off := 139) (tgt := 140) hx hb dX4_changed_1 (by rw [c25]; decide) (by rw [c25]; decide) (by rw [c25]; decide) (by decide) ?_
    refine lv_iload_n hx hb dX4_changed_140 rfl (lv_at hl 1 rfl) ?_
    refine lv_iload_n hx hb dX4_changed_141 rfl (lv_at hl 2 rfl) ?_
    refine va_mmax hx hb (by rw [hml]; exact hl.1.symm) hown (hts (.methodLink RX4 133 Lib.Math.max.name) (List.mem_of_getElem? (i := 8) rfl)) (hts (.static Lib.Math.max.name) (List.mem_of_getElem? (i := 9) rfl)) (hts (.initialized "java/lang/Math") (List.mem_of_getElem? (i := 6) rfl)) (hts (.code Lib.Math.max.name Lib.Math.max.code 2 (some .int)) (List.mem_of_getElem? (i := 10) rfl)) (Nat.le_of_ble_eq_true rfl) (Nat.le_of_ble_eq_true rfl) (by decide +kernel) (by decide +kernel) dX4_changed_142 ?_
    exact K _ _ _ _ _ _ dX4_changed_145 rfl (Option.some.inj h).symm hP hD hS
  have h := nd_neg h c25
  by_cases c26 : v0 = 21
  · have h := nd_pos h c26
    refine lv_tableIn (off := 159) (tgt := 160) hx hb dX4_changed_1 (by rw [c26]; decide) (by rw [c26]; decide) (by rw [c26]; decide) (by decide) ?_
    exact (db_X4_changed_160 C K) (v1) (v2) s0 _ _ _ h hP hD hS (lv_sub hl [1, 2] rfl)
  have h := nd_neg h c26
  by_cases c27 : v0 = 22
  · have h := nd_pos h c27
    refine lv_tableIn (off := 159) (tgt := 160) hx hb dX4_changed_1 (by rw [c27]; decide) (by rw [c27]; decide) (by rw [c27]; decide) (by decide) ?_
    exact (db_X4_changed_160 C K) (v1) (v2) s0 _ _ _ h hP hD hS (lv_sub hl [1, 2] rfl)
  have h := nd_neg h c27
  by_cases c28 : v0 = 23
  · have h := nd_pos h c28
    refine lv_tableIn (off := 159) (tgt := 160) hx hb dX4_changed_1 (by rw [c28]; decide) (by rw [c28]; decide) (by rw [c28]; decide) (by decide) ?_
    exact (db_X4_changed_160 C K) (v1) (v2) s0 _ _ _ h hP hD hS (lv_sub hl [1, 2] rfl)
  have h := nd_neg h c28
  by_cases c29 : v0 = 24
  · have h := nd_pos h c29
    refine lv_tableIn (off := 145) (tgt := 146) hx hb dX4_changed_1 (by rw [c29]; decide) (by rw [c29]; decide) (by rw [c29]; decide) (by decide) ?_
    refine lv_iload_n hx hb dX4_changed_146 rfl (lv_at hl 1 rfl) ?_
    refine lv_iload_n hx hb dX4_changed_147 rfl (lv_at hl 2 rfl) ?_
    obtain ⟨q30, s31, hq, h⟩ := nd_b2_e h
    have hPc : va_P (dC, dI) vwCl (dw_P a ac ()) H := nd_p0
    have hDc : va_D A (dw_P a ac ()) := nd_d0
    have hKc : va_K (dC, dI) vwCl (dk_P ac) s := nd_y0 hK
    have hFc : ∀ q, va_A (dw_P a ac ()) H.size q → A q := nd_r0 hS hA
    refine nd_cSi (As := [.int v1, .int v2]) (rest := []) (q := q30) (w' := dw_P a ac s31) ⟨hx, hb, hml, hown, hts⟩ (fun sz => dm_J6_compareUnsigned_7cf53 l hlt dC dI a ac n (v1) (v2) () hq sz) (va_cwS 2 hts gi_dm_X4_changed_0 rfl rfl rfl (by decide +kernel) ⟨Nat.le_of_ble_eq_true rfl, Nat.le_of_ble_eq_true rfl⟩) hPc hDc hKc hS hA hN rfl hl.1 rfl (Nat.le_of_ble_eq_true rfl) dX4_changed_148 (fun H locs hP1 hD1 hk1 hS => ?_)
    have hP := nd_n0 hP hk1
    refine lv_if_ge (tgt := 158) hx hb dX4_changed_151 (by decide) (fun c33 => ?_) (fun c33 => ?_)
    · have h := nd_pos h c33
      refine lv_iload_n hx hb dX4_changed_158 rfl (lv_at hl 2 rfl) ?_
      exact (db_X4_changed_159 C K) (v2) s0 _ _ _ h hP hD hS (lv_sub hl [] rfl)
    · have h := nd_neg h c33
      refine lv_iload_n hx hb dX4_changed_154 rfl (lv_at hl 1 rfl) ?_
      refine lv_goto (tgt := 159) hx hb dX4_changed_155 (by decide) ?_
      exact (db_X4_changed_159 C K) (v1) s0 _ _ _ h hP hD hS (lv_sub hl [] rfl)
  have h := nd_neg h c29
  refine lv_tableOut (tgt := 160) hx hb dX4_changed_1 (by have g0 := nv_nei c1 (k := 0) (by decide); have g1 := nv_nei c2 (k := 1) (by decide); have g2 := nv_nei c3 (k := 2) (by decide); have g3 := nv_nei c8 (k := 3) (by decide); have g4 := nv_nei c9 (k := 4) (by decide); have g5 := nv_nei c10 (k := 5) (by decide); have g6 := nv_nei c11 (k := 6) (by decide); have g7 := nv_nei c12 (k := 7) (by decide); have g8 := nv_nei c13 (k := 8) (by decide); have g9 := nv_nei c14 (k := 9) (by decide); have g10 := nv_nei c15 (k := 10) (by decide); have g11 := nv_nei c16 (k := 11) (by decide); have g12 := nv_nei c17 (k := 12) (by decide); have g13 := nv_nei c18 (k := 13) (by decide); have g14 := nv_nei c19 (k := 14) (by decide); have g15 := nv_nei c20 (k := 15) (by decide); have g16 := nv_nei c21 (k := 16) (by decide); have g17 := nv_nei c22 (k := 17) (by decide); have g18 := nv_nei c23 (k := 18) (by decide); have g19 := nv_nei c24 (k := 19) (by decide); have g20 := nv_nei c25 (k := 20) (by decide); have g21 := nv_nei c26 (k := 21) (by decide); have g22 := nv_nei c27 (k := 22) (by decide); have g23 := nv_nei c28 (k := 23) (by decide); have g24 := nv_nei c29 (k := 24) (by decide); omega) (by decide) ?_
  exact (db_X4_changed_160 C K) (v1) (v2) s0 _ _ _ h hP hD hS (lv_sub hl [1, 2] rfl)
set_option maxHeartbeats 40000000 in
set_option maxRecDepth 100000 in
theorem dm_X4_changed (l : Launch) (hlt : l.stackTraces = false) (dC : Nat → ClassId) (dI : Nat → Nat → Nat) (a : Nat → Nat) (ac : Nat → ClassId) (n : Nat) (v0 : Int32) (v1 : Int32) (v2 : Int32) (s0 : Unit) {r : Int32 × (Unit)} (h : df_X4_changed n v0 v1 v2 s0 = some r) (sz : Nat) : Met l yX4_changed ow_dm_X4_changed ({ frames := 2, cells := 0, slots := 0, locals := 42 }) (va_Pc [.int v0, .int v1, .int v2] (fun U => U.heap.size = sz ∧ va_P (dC, dI) vwCl (dw_P a ac s0) U.heap ∧ va_K (dC, dI) vwCl (dk_P ac) U ∧ va_D (fun _ => True) (dw_P a ac s0) ∧ nv_E (va_A (dw_P a ac s0) sz) U)) (va_Qi (fun x _ => x = r.1) (fun (_ : Unit) t => va_P (dC, dI) vwCl (dw_P a ac r.2) t.heap ∧ va_K (dC, dI) vwCl (dk_P ac) t ∧ va_D (va_A (dw_P a ac s0) sz) (dw_P a ac r.2)) (va_A (dw_P a ac s0) sz)) 0 0 (va_A (dw_P a ac s0) sz) := by
  refine Met.ofW (cc := cX4_changed) (maxL := 3) (ret := (some .int)) (by decide) rfl ?_
  intro p e s m args below meth c s₁ B hml hv
  obtain ⟨rfl, hsz, hP, hK, hD0, hN⟩ := hv
  have hx := B.exec
  have hb := B.bytes
  have hr := B.returns
  have hts := atoms_spec (ws := ow_dm_X4_changed) B.pre
  have hown : s.vm.findClass RX4 = some m.cls := findClass_of_methodNamed B.named
  have hlocks := B.notSynchronized
  subst hsz
  have hD := hD0.self (sz := s.heap.size)
  generalize hAe : va_A (dw_P a ac s0) s.heap.size = A at hD hN ⊢
  have hA : ∀ q : Nat, s.heap.size ≤ q → A q := fun q h => by rw [← hAe]; exact Or.inr h
  have hl := lv_entry ([.int v0, .int v1, .int v2]) (n := 3) (Nat.le_of_ble_eq_true rfl)
  rw [lg_entry_eq]
  generalize (lg_sl ([.int v0, .int v1, .int v2]) ++ List.replicate (3 - (lg_sl ([.int v0, .int v1, .int v2])).length) Slot.unset).toArray = ls at hl ⊢
  have hl : lv_has ls 3 [(0, .int v0), (1, .int v1), (2, .int v2)] := hl
  exact db_X4_changed_0 (dC := dC) (dI := dI) (a := a) (ac := ac) (n := n) (r := r) ⟨hlt, hx, hb, hml, hown, hts, hN, hA, hK⟩ (fun pc v τ H locs ls d z er hP hD hS => by subst er; exact W.zret (v := v) hx hb hr z (fun t ht hW => ⟨⟨v, (), rfl, rfl, by rw [ht]; exact hP, va_K.moved hW.alike hK, hD⟩, hS.F ht⟩) hS.2.2 d) v0 v1 v2 s0 _ _ _ h hP hD va_S.rf (lv_sub hl [0, 1, 2] rfl)
def ow_dm_X4_atomic : List Cond := .code yX4_atomic cX4_atomic 8 (some .int) :: ([.methodLink RX4 118 yX4_isAtomic, .static yX4_isAtomic, .initialized RX4, .fieldLink RX4 7 "TimeMachine$Hart" "machine" "LTimeMachine$Machine;", .fieldLink RX4 20 "TimeMachine$Hart" "process" "I", .methodLink RX4 30 yX6_may, .instanceMethod yX6_may, .selects RX6 yX6_may yX6_may, .initialized RX6, .methodLink RX4 100 yX6_own, .instanceMethod yX6_own, .selects RX6 yX6_own yX6_own, .methodLink RX4 97 yX6_wordAt, .instanceMethod yX6_wordAt, .selects RX6 yX6_wordAt yX6_wordAt, .methodLink RX4 125 yX4_changed, .static yX4_changed, .methodLink RX4 105 yX6_put, .instanceMethod yX6_put, .selects RX6 yX6_put yX6_put, .methodLink RX4 109 yX6_noteWrite, .instanceMethod yX6_noteWrite, .selects RX6 yX6_noteWrite yX6_noteWrite, .methodLink RX4 52 yX4_set, .instanceMethod yX4_set, .selects RX4 yX4_set yX4_set, .fieldLink RX4 122 "TimeMachine$Machine" "reserved" "I"] ++ (u_ws RX4 TX4 6 ++ (u_ws RX6 TX6 20 ++ (ow_dm_X4_isAtomic ++ (ow_dm_X6_may ++ (ow_dm_X6_own ++ (ow_dm_X6_wordAt ++ (ow_dm_X4_changed ++ (ow_dm_X6_put ++ (ow_dm_X6_noteWrite ++ (ow_dm_X4_set ++ [])))))))))))
theorem gd_dm_X4_atomic : ∀ w ∈ ow_dm_X4_atomic, (w.onTables && w.keeps) = true ∨ ∃ ty, w = Cond.arrayClass ty := List.forall_mem_cons.mpr ⟨good_of_word rfl, List.forall_mem_append.mpr ⟨fun w h => good_of_word (List.all_eq_true.mp (by decide +kernel) w h), List.forall_mem_append.mpr ⟨gu_X4, List.forall_mem_append.mpr ⟨gu_X6, List.forall_mem_append.mpr ⟨gd_dm_X4_isAtomic, List.forall_mem_append.mpr ⟨gd_dm_X6_may, List.forall_mem_append.mpr ⟨gd_dm_X6_own, List.forall_mem_append.mpr ⟨gd_dm_X6_wordAt, List.forall_mem_append.mpr ⟨gd_dm_X4_changed, List.forall_mem_append.mpr ⟨gd_dm_X6_put, List.forall_mem_append.mpr ⟨gd_dm_X6_noteWrite, List.forall_mem_append.mpr ⟨gd_dm_X4_set, fun _ h => nomatch h⟩⟩⟩⟩⟩⟩⟩⟩⟩⟩⟩⟩
theorem hi_dm_X4_atomic_X4 : ∀ w ∈ u_ws RX4 TX4 6, w ∈ ow_dm_X4_atomic := fun w h => List.mem_cons_of_mem _ (List.mem_append_right _ (List.mem_append_left _ h))
theorem hi_dm_X4_atomic_X6 : ∀ w ∈ u_ws RX6 TX6 20, w ∈ ow_dm_X4_atomic := fun w h => List.mem_cons_of_mem _ (List.mem_append_right _ (List.mem_append_right _ (List.mem_append_left _ h)))
theorem gi_dm_X4_atomic_0 : GoodIn ow_dm_X4_atomic (wsS RX4 118 yX4_isAtomic ow_dm_X4_isAtomic) := goodIn_app (goodIn_of _ (by decide +kernel)) (fun w h => ⟨List.mem_cons_of_mem _ (List.mem_append_right _ (List.mem_append_right _ (List.mem_append_right _ (List.mem_append_left _ h)))), gd_dm_X4_isAtomic w h⟩)
theorem gi_dm_X4_atomic_1 : GoodIn ow_dm_X4_atomic (wsV RX4 30 RX6 yX6_may ow_dm_X6_may) := goodIn_app (goodIn_of _ (by decide +kernel)) (fun w h => ⟨List.mem_cons_of_mem _ (List.mem_append_right _ (List.mem_append_right _ (List.mem_append_right _ (List.mem_append_right _ (List.mem_append_left _ h))))), gd_dm_X6_may w h⟩)
theorem gi_dm_X4_atomic_2 : GoodIn ow_dm_X4_atomic (wsV RX4 100 RX6 yX6_own ow_dm_X6_own) := goodIn_app (goodIn_of _ (by decide +kernel)) (fun w h => ⟨List.mem_cons_of_mem _ (List.mem_append_right _ (List.mem_append_right _ (List.mem_append_right _ (List.mem_append_right _ (List.mem_append_right _ (List.mem_append_left _ h)))))), gd_dm_X6_own w h⟩)
theorem gi_dm_X4_atomic_3 : GoodIn ow_dm_X4_atomic (wsV RX4 97 RX6 yX6_wordAt ow_dm_X6_wordAt) := goodIn_app (goodIn_of _ (by decide +kernel)) (fun w h => ⟨List.mem_cons_of_mem _ (List.mem_append_right _ (List.mem_append_right _ (List.mem_append_right _ (List.mem_append_right _ (List.mem_append_right _ (List.mem_append_right _ (List.mem_append_left _ h))))))), gd_dm_X6_wordAt w h⟩)
theorem gi_dm_X4_atomic_4 : GoodIn ow_dm_X4_atomic (wsS RX4 125 yX4_changed ow_dm_X4_changed) := goodIn_app (goodIn_of _ (by decide +kernel)) (fun w h => ⟨List.mem_cons_of_mem _ (List.mem_append_right _ (List.mem_append_right _ (List.mem_append_right _ (List.mem_append_right _ (List.mem_append_right _ (List.mem_append_right _ (List.mem_append_right _ (List.mem_append_left _ h)))))))), gd_dm_X4_changed w h⟩)
theorem gi_dm_X4_atomic_5 : GoodIn ow_dm_X4_atomic (wsV RX4 105 RX6 yX6_put ow_dm_X6_put) := goodIn_app (goodIn_of _ (by decide +kernel)) (fun w h => ⟨List.mem_cons_of_mem _ (List.mem_append_right _ (List.mem_append_right _ (List.mem_append_right _ (List.mem_append_right _ (List.mem_append_right _ (List.mem_append_right _ (List.mem_append_right _ (List.mem_append_right _ (List.mem_append_left _ h))))))))), gd_dm_X6_put w h⟩)
theorem gi_dm_X4_atomic_6 : GoodIn ow_dm_X4_atomic (wsV RX4 109 RX6 yX6_noteWrite ow_dm_X6_noteWrite) := goodIn_app (goodIn_of _ (by decide +kernel)) (fun w h => ⟨List.mem_cons_of_mem _ (List.mem_append_right _ (List.mem_append_right _ (List.mem_append_right _ (List.mem_append_right _ (List.mem_append_right _ (List.mem_append_right _ (List.mem_append_right _ (List.mem_append_right _ (List.mem_append_right _ (List.mem_append_left _ h)))))))))), gd_dm_X6_noteWrite w h⟩)
theorem gi_dm_X4_atomic_7 : GoodIn ow_dm_X4_atomic (wsV RX4 52 RX4 yX4_set ow_dm_X4_set) := goodIn_app (goodIn_of _ (by decide +kernel)) (fun w h => ⟨List.mem_cons_of_mem _ (List.mem_append_right _ (List.mem_append_right _ (List.mem_append_right _ (List.mem_append_right _ (List.mem_append_right _ (List.mem_append_right _ (List.mem_append_right _ (List.mem_append_right _ (List.mem_append_right _ (List.mem_append_right _ (List.mem_append_left _ h))))))))))), gd_dm_X4_set w h⟩)
def dj_X4_atomic_258 (p : Program) (l : Launch) (e : Env) (s : State) (m : MethodId) (args : Array Value) (below : List Frame) (meth : Method) (c : Code) (Q : State → Prop) (A : Nat → Prop) (dC : Nat → ClassId) (dI : Nat → Nat → Nat) (a : Nat → Nat) (ac : Nat → ClassId) (g : Int32 → Int32 → (St × (St × (St))) → Option (Int32 × (St × (St × (St))))) (r : Int32 × (St × (St × (St)))) : Prop := ∀ (y1 : Int32) (y2 : Int32) (s0 : St × (St × (St))) (H : Heap) (locs : List Loc) (ls : Array Slot), g y1 y2 s0 = some r → va_P (dC, dI) vwCl (dw_X4 a ac s0) H → va_D A (dw_X4 a ac s0) → va_S A s.heap H locs → lv_has ls 8 [] → W p l e (headSpec ow_dm_X4_atomic ({ frames := 3, cells := 0, slots := 0, locals := 65 })).room s m args below meth c H locs 0 0 Q (F0 m 258 ls [.int y2, .int y1, .ref (a 0)])
def dj_X4_atomic_229 (p : Program) (l : Launch) (e : Env) (s : State) (m : MethodId) (args : Array Value) (below : List Frame) (meth : Method) (c : Code) (Q : State → Prop) (A : Nat → Prop) (dC : Nat → ClassId) (dI : Nat → Nat → Nat) (a : Nat → Nat) (ac : Nat → ClassId) (g : Int32 → Int32 → Int32 → Int32 → Int32 → Int32 → Int32 → Int32 → (St × (St × (St))) → Option (Int32 × (St × (St × (St))))) (r : Int32 × (St × (St × (St)))) : Prop := ∀ (x1 : Int32) (x2 : Int32) (x6 : Int32) (x7 : Int32) (y1 : Int32) (y2 : Int32) (y3 : Int32) (y4 : Int32) (s0 : St × (St × (St))) (H : Heap) (locs : List Loc) (ls : Array Slot), g x1 x2 x6 x7 y1 y2 y3 y4 s0 = some r → va_P (dC, dI) vwCl (dw_X4 a ac s0) H → va_D A (dw_X4 a ac s0) → va_S A s.heap H locs → lv_has ls 8 [(0, .ref (a 0)), (1, .int x1), (2, .int x2), (6, .int x6), (7, .int x7)] → W p l e (headSpec ow_dm_X4_atomic ({ frames := 3, cells := 0, slots := 0, locals := 65 })).room s m args below meth c H locs 0 0 Q (F0 m 229 ls [.int y4, .int y3, .int y2, .int y1, .ref (a 1)])
def dj_X4_atomic_170 (p : Program) (l : Launch) (e : Env) (s : State) (m : MethodId) (args : Array Value) (below : List Frame) (meth : Method) (c : Code) (Q : State → Prop) (A : Nat → Prop) (dC : Nat → ClassId) (dI : Nat → Nat → Nat) (a : Nat → Nat) (ac : Nat → ClassId) (g : Int32 → Int32 → Int32 → Int32 → Int32 → (St × (St × (St))) → Option (Int32 × (St × (St × (St))))) (r : Int32 × (St × (St × (St)))) : Prop := ∀ (x1 : Int32) (x2 : Int32) (x3 : Int32) (x4 : Int32) (x6 : Int32) (s0 : St × (St × (St))) (H : Heap) (locs : List Loc) (ls : Array Slot), g x1 x2 x3 x4 x6 s0 = some r → va_P (dC, dI) vwCl (dw_X4 a ac s0) H → va_D A (dw_X4 a ac s0) → va_S A s.heap H locs → lv_has ls 8 [(0, .ref (a 0)), (1, .int x1), (2, .int x2), (3, .int x3), (4, .int x4), (6, .int x6)] → W p l e (headSpec ow_dm_X4_atomic ({ frames := 3, cells := 0, slots := 0, locals := 65 })).room s m args below meth c H locs 0 0 Q (F0 m 170 ls [])
def dj_X4_atomic_136 (p : Program) (l : Launch) (e : Env) (s : State) (m : MethodId) (args : Array Value) (below : List Frame) (meth : Method) (c : Code) (Q : State → Prop) (A : Nat → Prop) (dC : Nat → ClassId) (dI : Nat → Nat → Nat) (a : Nat → Nat) (ac : Nat → ClassId) (g : Int32 → Int32 → Int32 → Int32 → Int32 → (St × (St × (St))) → Option (Int32 × (St × (St × (St))))) (r : Int32 × (St × (St × (St)))) : Prop := ∀ (x1 : Int32) (x2 : Int32) (x3 : Int32) (x4 : Int32) (y0 : Int32) (s0 : St × (St × (St))) (H : Heap) (locs : List Loc) (ls : Array Slot), g x1 x2 x3 x4 y0 s0 = some r → va_P (dC, dI) vwCl (dw_X4 a ac s0) H → va_D A (dw_X4 a ac s0) → va_S A s.heap H locs → lv_has ls 8 [(0, .ref (a 0)), (1, .int x1), (2, .int x2), (3, .int x3), (4, .int x4)] → W p l e (headSpec ow_dm_X4_atomic ({ frames := 3, cells := 0, slots := 0, locals := 65 })).room s m args below meth c H locs 0 0 Q (F0 m 136 ls [.int y0])
def dj_X4_atomic_90 (p : Program) (l : Launch) (e : Env) (s : State) (m : MethodId) (args : Array Value) (below : List Frame) (meth : Method) (c : Code) (Q : State → Prop) (A : Nat → Prop) (dC : Nat → ClassId) (dI : Nat → Nat → Nat) (a : Nat → Nat) (ac : Nat → ClassId) (g : (St × (St × (St))) → Option (Int32 × (St × (St × (St))))) (r : Int32 × (St × (St × (St)))) : Prop := ∀ (s0 : St × (St × (St))) (H : Heap) (locs : List Loc) (ls : Array Slot), g s0 = some r → va_P (dC, dI) vwCl (dw_X4 a ac s0) H → va_D A (dw_X4 a ac s0) → va_S A s.heap H locs → lv_has ls 8 [] → W p l e (headSpec ow_dm_X4_atomic ({ frames := 3, cells := 0, slots := 0, locals := 65 })).room s m args below meth c H locs 0 0 Q (F0 m 90 ls [])
def dj_X4_atomic_74 (p : Program) (l : Launch) (e : Env) (s : State) (m : MethodId) (args : Array Value) (below : List Frame) (meth : Method) (c : Code) (Q : State → Prop) (A : Nat → Prop) (dC : Nat → ClassId) (dI : Nat → Nat → Nat) (a : Nat → Nat) (ac : Nat → ClassId) (g : Int32 → Int32 → Int32 → Int32 → Int32 → (St × (St × (St))) → Option (Int32 × (St × (St × (St))))) (r : Int32 × (St × (St × (St)))) : Prop := ∀ (x1 : Int32) (x2 : Int32) (x3 : Int32) (x4 : Int32) (x5 : Int32) (s0 : St × (St × (St))) (H : Heap) (locs : List Loc) (ls : Array Slot), g x1 x2 x3 x4 x5 s0 = some r → va_P (dC, dI) vwCl (dw_X4 a ac s0) H → va_D A (dw_X4 a ac s0) → va_S A s.heap H locs → lv_has ls 8 [(0, .ref (a 0)), (1, .int x1), (2, .int x2), (3, .int x3), (4, .int x4), (5, .int x5)] → W p l e (headSpec ow_dm_X4_atomic ({ frames := 3, cells := 0, slots := 0, locals := 65 })).room s m args below meth c H locs 0 0 Q (F0 m 74 ls [])
def dj_X4_atomic_42 (p : Program) (l : Launch) (e : Env) (s : State) (m : MethodId) (args : Array Value) (below : List Frame) (meth : Method) (c : Code) (Q : State → Prop) (A : Nat → Prop) (dC : Nat → ClassId) (dI : Nat → Nat → Nat) (a : Nat → Nat) (ac : Nat → ClassId) (g : (St × (St × (St))) → Option (Int32 × (St × (St × (St))))) (r : Int32 × (St × (St × (St)))) : Prop := ∀ (s0 : St × (St × (St))) (H : Heap) (locs : List Loc) (ls : Array Slot), g s0 = some r → va_P (dC, dI) vwCl (dw_X4 a ac s0) H → va_D A (dw_X4 a ac s0) → va_S A s.heap H locs → lv_has ls 8 [] → W p l e (headSpec ow_dm_X4_atomic ({ frames := 3, cells := 0, slots := 0, locals := 65 })).room s m args below meth c H locs 0 0 Q (F0 m 42 ls [])
def dj_X4_atomic_34 (p : Program) (l : Launch) (e : Env) (s : State) (m : MethodId) (args : Array Value) (below : List Frame) (meth : Method) (c : Code) (Q : State → Prop) (A : Nat → Prop) (dC : Nat → ClassId) (dI : Nat → Nat → Nat) (a : Nat → Nat) (ac : Nat → ClassId) (g : Int32 → Int32 → Int32 → Int32 → Int32 → (St × (St × (St))) → Option (Int32 × (St × (St × (St))))) (r : Int32 × (St × (St × (St)))) : Prop := ∀ (x1 : Int32) (x2 : Int32) (x3 : Int32) (x4 : Int32) (x5 : Int32) (s0 : St × (St × (St))) (H : Heap) (locs : List Loc) (ls : Array Slot), g x1 x2 x3 x4 x5 s0 = some r → va_P (dC, dI) vwCl (dw_X4 a ac s0) H → va_D A (dw_X4 a ac s0) → va_S A s.heap H locs → lv_has ls 8 [(0, .ref (a 0)), (1, .int x1), (2, .int x2), (3, .int x3), (4, .int x4), (5, .int x5)] → W p l e (headSpec ow_dm_X4_atomic ({ frames := 3, cells := 0, slots := 0, locals := 65 })).room s m args below meth c H locs 0 0 Q (F0 m 34 ls [])
def dj_X4_atomic_17 (p : Program) (l : Launch) (e : Env) (s : State) (m : MethodId) (args : Array Value) (below : List Frame) (meth : Method) (c : Code) (Q : State → Prop) (A : Nat → Prop) (dC : Nat → ClassId) (dI : Nat → Nat → Nat) (a : Nat → Nat) (ac : Nat → ClassId) (g : Int32 → Int32 → Int32 → Int32 → Int32 → (St × (St × (St))) → Option (Int32 × (St × (St × (St))))) (r : Int32 × (St × (St × (St)))) : Prop := ∀ (x1 : Int32) (x2 : Int32) (x3 : Int32) (x4 : Int32) (y0 : Int32) (s0 : St × (St × (St))) (H : Heap) (locs : List Loc) (ls : Array Slot), g x1 x2 x3 x4 y0 s0 = some r → va_P (dC, dI) vwCl (dw_X4 a ac s0) H → va_D A (dw_X4 a ac s0) → va_S A s.heap H locs → lv_has ls 8 [(0, .ref (a 0)), (1, .int x1), (2, .int x2), (3, .int x3), (4, .int x4)] → W p l e (headSpec ow_dm_X4_atomic ({ frames := 3, cells := 0, slots := 0, locals := 65 })).room s m args below meth c H locs 0 0 Q (F0 m 17 ls [.int y0])
def dj_X4_atomic_0 (p : Program) (l : Launch) (e : Env) (s : State) (m : MethodId) (args : Array Value) (below : List Frame) (meth : Method) (c : Code) (Q : State → Prop) (A : Nat → Prop) (dC : Nat → ClassId) (dI : Nat → Nat → Nat) (a : Nat → Nat) (ac : Nat → ClassId) (g : Int32 → Int32 → Int32 → (St × (St × (St))) → Option (Int32 × (St × (St × (St))))) (r : Int32 × (St × (St × (St)))) : Prop := ∀ (v0 : Int32) (v1 : Int32) (v2 : Int32) (s0 : St × (St × (St))) (H : Heap) (locs : List Loc) (ls : Array Slot), g v0 v1 v2 s0 = some r → va_P (dC, dI) vwCl (dw_X4 a ac s0) H → va_D A (dw_X4 a ac s0) → va_S A s.heap H locs → lv_has ls 8 [(0, .ref (a 0)), (1, .int v0), (2, .int v1), (3, .int v2)] → W p l e (headSpec ow_dm_X4_atomic ({ frames := 3, cells := 0, slots := 0, locals := 65 })).room s m args below meth c H locs 0 0 Q (F0 m 0 ls [])
set_option maxHeartbeats 40000000 in
set_option maxRecDepth 100000 in
theorem db_X4_atomic_258 {p : Program} {l : Launch} {e : Env} {s : State} {m : MethodId} {args : Array Value} {below : List Frame} {meth : Method} {c : Code} {Q : State → Prop} {A : Nat → Prop} {dC : Nat → ClassId} {dI : Nat → Nat → Nat} {a : Nat → Nat} {ac : Nat → ClassId} {n : Nat} {r : Int32 × (St × (St × (St)))} (C : nd_C p l s m args c A (dC, dI) cX4_atomic 8 RX4 ow_dm_X4_atomic (dk_X4 ac)) (K : nd_Ki p l e (headSpec ow_dm_X4_atomic ({ frames := 3, cells := 0, slots := 0, locals := 65 })).room s m args below meth c Q A (dC, dI) cX4_atomic .int (St × (St × (St))) (dw_X4 a ac) r) : dj_X4_atomic_258 p l e s m args below meth c Q A dC dI a ac (df_X4_atomic_258 n) r := by
  obtain ⟨hlt, hx, hb, hml, hown, hts, hN, hA, hK⟩ := id C
  intro y1 y2 s0 H locs ls h hP hD hS hl
  unfold df_X4_atomic_258 at h
  obtain ⟨s41, hq, h⟩ := nd_b1_e h
  have hPc := hP
  have hDc := hD
  have hKc := hK
  have hFc := nd_rs hD hS hA
  refine nd_cVv (As := [.int y1, .int y2]) (rest := []) (w' := dw_X4 a ac s41) ⟨hx, hb, hml, hown, hts⟩ (fun sz => dm_X4_set l hlt dC dI a ac n (y1) (y2) s0 hq sz) (cwV 2 hts gi_dm_X4_atomic_7 rfl rfl rfl (by decide +kernel) ⟨Nat.le_of_ble_eq_true rfl, Nat.le_of_ble_eq_true rfl⟩) hPc hDc hKc hS hA hN (va_recv hKc hPc (ci := 5) (q0 := 0) rfl rfl) rfl hl.1 rfl (Nat.le_of_ble_eq_true rfl) dX4_atomic_258 (fun H locs hP1 hD1 hk1 hS => ?_)
  have hP := hP1
  have hD := hD1.weaken (fun k q _ h => hFc q.1 h)
  refine lv_iconst (v := 0) hx hb dX4_atomic_261 (by decide) ?_
  exact K _ _ _ _ _ _ dX4_atomic_262 rfl (Option.some.inj h).symm hP hD hS
set_option maxHeartbeats 40000000 in
set_option maxRecDepth 100000 in
theorem db_X4_atomic_229 {p : Program} {l : Launch} {e : Env} {s : State} {m : MethodId} {args : Array Value} {below : List Frame} {meth : Method} {c : Code} {Q : State → Prop} {A : Nat → Prop} {dC : Nat → ClassId} {dI : Nat → Nat → Nat} {a : Nat → Nat} {ac : Nat → ClassId} {n : Nat} {r : Int32 × (St × (St × (St)))} (C : nd_C p l s m args c A (dC, dI) cX4_atomic 8 RX4 ow_dm_X4_atomic (dk_X4 ac)) (K : nd_Ki p l e (headSpec ow_dm_X4_atomic ({ frames := 3, cells := 0, slots := 0, locals := 65 })).room s m args below meth c Q A (dC, dI) cX4_atomic .int (St × (St × (St))) (dw_X4 a ac) r) : dj_X4_atomic_229 p l e s m args below meth c Q A dC dI a ac (df_X4_atomic_229 n) r := by
  obtain ⟨hlt, hx, hb, hml, hown, hts, hN, hA, hK⟩ := id C
  intro x1 x2 x6 x7 y1 y2 y3 y4 s0 H locs ls h hP hD hS hl
  unfold df_X4_atomic_229 at h
  obtain ⟨s32, hq, h⟩ := nd_b1_e h
  have hPc := dp_X4_1 hP
  have hDc := dd_X4_1 hD
  have hKc := dy_X4_1 hK
  have hFc := nd_rs hDc hS hA
  have hzA : ∀ q : Nat, H.size ≤ q → A q := fun q h => hA q (Nat.le_trans hS.1 h)
  refine nd_cVv (As := [.int y1, .int y2, .int y3, .int y4]) (rest := []) (w' := dw_X6 (fun k => a (k + 1)) (fun k => ac (k + 1)) s32) ⟨hx, hb, hml, hown, hts⟩ (fun sz => dm_X6_put l hlt dC dI (fun k => a (k + 1)) (fun k => ac (k + 1)) n (y1) (y2) (y3) (y4) s0.2 hq sz) (cwV 4 hts gi_dm_X4_atomic_5 rfl rfl rfl (by decide +kernel) ⟨Nat.le_of_ble_eq_true rfl, Nat.le_of_ble_eq_true rfl⟩) hPc hDc hKc hS hA hN (va_recv hKc hPc (ci := 7) (q0 := 0) rfl rfl) rfl hl.1 rfl (Nat.le_of_ble_eq_true rfl) dX4_atomic_229 (fun H locs hP1 hD1 hk1 hS => ?_)
  obtain ⟨hP, hD⟩ := dn_X4_1 hP hD hzA hk1 hP1 hD1
  obtain ⟨s34, es34, h⟩ := nd_let_e h
  have hP : va_P (dC, dI) vwCl (dw_X4 a ac s34) H := by rw [es34]; exact hP
  have hD : va_D A (dw_X4 a ac s34) := by rw [es34]; exact hD
  refine lv_aload_n hx hb dX4_atomic_232 rfl (lv_at hl 0 rfl) ?_
  refine va_get (D := (dC, dI)) (ci := 5) (v := .ref (a 1)) (C := RX4) (T := TX4) (N := 6) hx hb hts hi_dm_X4_atomic_X4 hown hK hP 0 rfl rfl 0 (by decide) (hts (.fieldLink RX4 7 "TimeMachine$Hart" "machine" "LTimeMachine$Machine;") (List.mem_of_getElem? (i := 4) rfl)) (fun _ h9 => h9) rfl dX4_atomic_233 ?_
  refine lv_aload_n hx hb dX4_atomic_236 rfl (lv_at hl 0 rfl) ?_
  refine va_get (D := (dC, dI)) (ci := 5) (v := .int (sI s34.1 0)) (C := RX4) (T := TX4) (N := 6) hx hb hts hi_dm_X4_atomic_X4 hown hK hP 0 rfl rfl 2 (by decide) (hts (.fieldLink RX4 20 "TimeMachine$Hart" "process" "I") (List.mem_of_getElem? (i := 5) rfl)) (fun _ h9 => h9) rfl dX4_atomic_237 ?_
  refine lv_iload_n hx hb dX4_atomic_240 rfl (lv_at hl 2 rfl) ?_
  refine lv_iconst (v := 4) hx hb dX4_atomic_241 (by decide) ?_
  obtain ⟨s36, hq, h⟩ := nd_b1_e h
  have hPc := dp_X4_1 hP
  have hDc := dd_X4_1 hD
  have hKc := dy_X4_1 hK
  have hFc := nd_rs hDc hS hA
  have hzA : ∀ q : Nat, H.size ≤ q → A q := fun q h => hA q (Nat.le_trans hS.1 h)
  refine nd_cVv (As := [.int (sI s34.1 0), .int x2, .int 4]) (rest := []) (w' := dw_X6 (fun k => a (k + 1)) (fun k => ac (k + 1)) s36) ⟨hx, hb, hml, hown, hts⟩ (fun sz => dm_X6_noteWrite l hlt dC dI (fun k => a (k + 1)) (fun k => ac (k + 1)) n ((sI s34.1 0)) (x2) (4) s34.2 hq sz) (cwV 3 hts gi_dm_X4_atomic_6 rfl rfl rfl (by decide +kernel) ⟨Nat.le_of_ble_eq_true rfl, Nat.le_of_ble_eq_true rfl⟩) hPc hDc hKc hS hA hN (va_recv hKc hPc (ci := 7) (q0 := 0) rfl rfl) rfl hl.1 rfl (Nat.le_of_ble_eq_true rfl) dX4_atomic_242 (fun H locs hP1 hD1 hk1 hS => ?_)
  obtain ⟨hP, hD⟩ := dn_X4_1 hP hD hzA hk1 hP1 hD1
  obtain ⟨s38, es38, h⟩ := nd_let_e h
  have hP : va_P (dC, dI) vwCl (dw_X4 a ac s38) H := by rw [es38]; exact hP
  have hD : va_D A (dw_X4 a ac s38) := by rw [es38]; exact hD
  refine lv_aload_n hx hb dX4_atomic_245 rfl (lv_at hl 0 rfl) ?_
  refine lv_iload_n hx hb dX4_atomic_246 rfl (lv_at hl 1 rfl) ?_
  refine lv_iload hx hb dX4_atomic_247 (lv_at hl 3 rfl) ?_
  refine lv_if_eq (tgt := 256) hx hb dX4_atomic_249 (by decide) (fun c39 => ?_) (fun c39 => ?_)
  · have h := nd_pos h c39
    refine lv_iload hx hb dX4_atomic_256 (lv_at hl 4 rfl) ?_
    exact (db_X4_atomic_258 C K) (x1) (x7) s38 _ _ _ h hP hD hS (lv_sub hl [] rfl)
  · have h := nd_neg h c39
    refine lv_iconst (v := 0) hx hb dX4_atomic_252 (by decide) ?_
    refine lv_goto (tgt := 258) hx hb dX4_atomic_253 (by decide) ?_
    exact (db_X4_atomic_258 C K) (x1) (0) s38 _ _ _ h hP hD hS (lv_sub hl [] rfl)
set_option maxHeartbeats 40000000 in
set_option maxRecDepth 100000 in
theorem db_X4_atomic_170 {p : Program} {l : Launch} {e : Env} {s : State} {m : MethodId} {args : Array Value} {below : List Frame} {meth : Method} {c : Code} {Q : State → Prop} {A : Nat → Prop} {dC : Nat → ClassId} {dI : Nat → Nat → Nat} {a : Nat → Nat} {ac : Nat → ClassId} {n : Nat} {r : Int32 × (St × (St × (St)))} (C : nd_C p l s m args c A (dC, dI) cX4_atomic 8 RX4 ow_dm_X4_atomic (dk_X4 ac)) (K : nd_Ki p l e (headSpec ow_dm_X4_atomic ({ frames := 3, cells := 0, slots := 0, locals := 65 })).room s m args below meth c Q A (dC, dI) cX4_atomic .int (St × (St × (St))) (dw_X4 a ac) r) : dj_X4_atomic_170 p l e s m args below meth c Q A dC dI a ac (df_X4_atomic_170 n) r := by
  obtain ⟨hlt, hx, hb, hml, hown, hts, hN, hA, hK⟩ := id C
  intro x1 x2 x3 x4 x6 s0 H locs ls h hP hD hS hl
  unfold df_X4_atomic_170 at h
  refine lv_aload_n hx hb dX4_atomic_170 rfl (lv_at hl 0 rfl) ?_
  refine va_get (D := (dC, dI)) (ci := 5) (v := .ref (a 1)) (C := RX4) (T := TX4) (N := 6) hx hb hts hi_dm_X4_atomic_X4 hown hK hP 0 rfl rfl 0 (by decide) (hts (.fieldLink RX4 7 "TimeMachine$Hart" "machine" "LTimeMachine$Machine;") (List.mem_of_getElem? (i := 4) rfl)) (fun _ h9 => h9) rfl dX4_atomic_171 ?_
  refine lv_aload_n hx hb dX4_atomic_174 rfl (lv_at hl 0 rfl) ?_
  refine va_get (D := (dC, dI)) (ci := 5) (v := .int (sI s0.1 0)) (C := RX4) (T := TX4) (N := 6) hx hb hts hi_dm_X4_atomic_X4 hown hK hP 0 rfl rfl 2 (by decide) (hts (.fieldLink RX4 20 "TimeMachine$Hart" "process" "I") (List.mem_of_getElem? (i := 5) rfl)) (fun _ h9 => h9) rfl dX4_atomic_175 ?_
  refine lv_iload_n hx hb dX4_atomic_178 rfl (lv_at hl 2 rfl) ?_
  obtain ⟨q18, s19, hq, h⟩ := nd_b2_e h
  have hPc := dp_X4_1 hP
  have hDc := dd_X4_1 hD
  have hKc := dy_X4_1 hK
  have hFc := nd_rs hDc hS hA
  have hzA : ∀ q : Nat, H.size ≤ q → A q := fun q h => hA q (Nat.le_trans hS.1 h)
  refine nd_cVi (As := [.int (sI s0.1 0), .int x2]) (rest := []) (q := q18) (w' := dw_X6 (fun k => a (k + 1)) (fun k => ac (k + 1)) s19) ⟨hx, hb, hml, hown, hts⟩ (fun sz => dm_X6_own l hlt dC dI (fun k => a (k + 1)) (fun k => ac (k + 1)) n ((sI s0.1 0)) (x2) s0.2 hq sz) (cwV 2 hts gi_dm_X4_atomic_2 rfl rfl rfl (by decide +kernel) ⟨Nat.le_of_ble_eq_true rfl, Nat.le_of_ble_eq_true rfl⟩) hPc hDc hKc hS hA hN (va_recv hKc hPc (ci := 7) (q0 := 0) rfl rfl) rfl hl.1 rfl (Nat.le_of_ble_eq_true rfl) dX4_atomic_179 (fun H locs hP1 hD1 hk1 hS => ?_)
  obtain ⟨hP, hD⟩ := dn_X4_1 hP hD hzA hk1 hP1 hD1
  obtain ⟨s21, es21, h⟩ := nd_let_e h
  have hP : va_P (dC, dI) vwCl (dw_X4 a ac s21) H := by rw [es21]; exact hP
  have hD : va_D A (dw_X4 a ac s21) := by rw [es21]; exact hD
  refine lv_if_ne (tgt := 188) hx hb dX4_atomic_182 (by decide) (fun c22 => ?_) (fun c22 => ?_)
  · have h := nd_neg h c22
    refine lv_aload_n hx hb dX4_atomic_188 rfl (lv_at hl 0 rfl) ?_
    refine va_get (D := (dC, dI)) (ci := 5) (v := .ref (a 1)) (C := RX4) (T := TX4) (N := 6) hx hb hts hi_dm_X4_atomic_X4 hown hK hP 0 rfl rfl 0 (by decide) (hts (.fieldLink RX4 7 "TimeMachine$Hart" "machine" "LTimeMachine$Machine;") (List.mem_of_getElem? (i := 4) rfl)) (fun _ h9 => h9) rfl dX4_atomic_189 ?_
    refine lv_aload_n hx hb dX4_atomic_192 rfl (lv_at hl 0 rfl) ?_
    refine va_get (D := (dC, dI)) (ci := 5) (v := .int (sI s21.1 0)) (C := RX4) (T := TX4) (N := 6) hx hb hts hi_dm_X4_atomic_X4 hown hK hP 0 rfl rfl 2 (by decide) (hts (.fieldLink RX4 20 "TimeMachine$Hart" "process" "I") (List.mem_of_getElem? (i := 5) rfl)) (fun _ h9 => h9) rfl dX4_atomic_193 ?_
    refine lv_iload_n hx hb dX4_atomic_196 rfl (lv_at hl 2 rfl) ?_
    obtain ⟨q23, s24, hq, h⟩ := nd_b2_e h
    have hPc := dp_X4_1 hP
    have hDc := dd_X4_1 hD
    have hKc := dy_X4_1 hK
    have hFc := nd_rs hDc hS hA
    have hzA : ∀ q : Nat, H.size ≤ q → A q := fun q h => hA q (Nat.le_trans hS.1 h)
    refine nd_cVi (As := [.int (sI s21.1 0), .int x2]) (rest := []) (q := q23) (w' := dw_X6 (fun k => a (k + 1)) (fun k => ac (k + 1)) s24) ⟨hx, hb, hml, hown, hts⟩ (fun sz => dm_X6_wordAt l hlt dC dI (fun k => a (k + 1)) (fun k => ac (k + 1)) n ((sI s21.1 0)) (x2) s21.2 hq sz) (cwV 2 hts gi_dm_X4_atomic_3 rfl rfl rfl (by decide +kernel) ⟨Nat.le_of_ble_eq_true rfl, Nat.le_of_ble_eq_true rfl⟩) hPc hDc hKc hS hA hN (va_recv hKc hPc (ci := 7) (q0 := 0) rfl rfl) rfl hl.1 rfl (Nat.le_of_ble_eq_true rfl) dX4_atomic_197 (fun H locs hP1 hD1 hk1 hS => ?_)
    obtain ⟨hP, hD⟩ := dn_X4_1 hP hD hzA hk1 hP1 hD1
    obtain ⟨s26, es26, h⟩ := nd_let_e h
    have hP : va_P (dC, dI) vwCl (dw_X4 a ac s26) H := by rw [es26]; exact hP
    have hD : va_D A (dw_X4 a ac s26) := by rw [es26]; exact hD
    refine lv_istore (lv' := [(7, .int q23), (0, .ref (a 0)), (1, .int x1), (2, .int x2), (3, .int x3), (4, .int x4), (6, .int x6)]) hx hb dX4_atomic_200 hl (by decide) rfl (fun ls hl => ?_)
    refine lv_aload_n hx hb dX4_atomic_202 rfl (lv_at hl 1 rfl) ?_
    refine va_get (D := (dC, dI)) (ci := 5) (v := .ref (a 1)) (C := RX4) (T := TX4) (N := 6) hx hb hts hi_dm_X4_atomic_X4 hown hK hP 0 rfl rfl 0 (by decide) (hts (.fieldLink RX4 7 "TimeMachine$Hart" "machine" "LTimeMachine$Machine;") (List.mem_of_getElem? (i := 4) rfl)) (fun _ h9 => h9) rfl dX4_atomic_203 ?_
    refine lv_aload_n hx hb dX4_atomic_206 rfl (lv_at hl 1 rfl) ?_
    refine va_get (D := (dC, dI)) (ci := 5) (v := .int (sI s26.1 0)) (C := RX4) (T := TX4) (N := 6) hx hb hts hi_dm_X4_atomic_X4 hown hK hP 0 rfl rfl 2 (by decide) (hts (.fieldLink RX4 20 "TimeMachine$Hart" "process" "I") (List.mem_of_getElem? (i := 5) rfl)) (fun _ h9 => h9) rfl dX4_atomic_207 ?_
    refine lv_iload_n hx hb dX4_atomic_210 rfl (lv_at hl 3 rfl) ?_
    refine lv_iconst (v := (-1)) hx hb dX4_atomic_211 (by decide) ?_
    refine lv_iload hx hb dX4_atomic_212 (lv_at hl 6 rfl) ?_
    refine lv_if_eq (tgt := 221) hx hb dX4_atomic_214 (by decide) (fun c27 => ?_) (fun c27 => ?_)
    · have h := nd_pos h c27
      refine lv_iload hx hb dX4_atomic_221 (lv_at hl 5 rfl) ?_
      refine lv_iload hx hb dX4_atomic_223 (lv_at hl 0 rfl) ?_
      refine lv_iload_n hx hb dX4_atomic_225 rfl (lv_at hl 4 rfl) ?_
      obtain ⟨q28, s29, hq, h⟩ := nd_b2_e h
      have hPc : va_P (dC, dI) vwCl (dw_P a ac ()) H := nd_p0
      have hDc : va_D A (dw_P a ac ()) := nd_d0
      have hKc : va_K (dC, dI) vwCl (dk_P ac) s := nd_y0 hK
      have hFc : ∀ q, va_A (dw_P a ac ()) H.size q → A q := nd_r0 hS hA
      refine nd_cSi (As := [.int x4, .int q23, .int x3]) (rest := [.int (-1), .int x2, .int (sI s26.1 0), .ref (a 1)]) (q := q28) (w' := dw_P a ac s29) ⟨hx, hb, hml, hown, hts⟩ (fun sz => dm_X4_changed l hlt dC dI a ac n (x4) (q23) (x3) () hq sz) (cwS 3 hts gi_dm_X4_atomic_4 rfl rfl rfl (by decide +kernel) ⟨Nat.le_of_ble_eq_true rfl, Nat.le_of_ble_eq_true rfl⟩) hPc hDc hKc hS hA hN rfl hl.1 rfl (Nat.le_of_ble_eq_true rfl) dX4_atomic_226 (fun H locs hP1 hD1 hk1 hS => ?_)
      have hP := nd_n0 hP hk1
      exact (db_X4_atomic_229 C K) (x1) (x2) (x6) (q23) ((sI s26.1 0)) (x2) ((-1)) (q28) s26 _ _ _ h hP hD hS (lv_sub hl [1, 2, 3, 6, 0] rfl)
    · have h := nd_neg h c27
      refine lv_iload_n hx hb dX4_atomic_217 rfl (lv_at hl 4 rfl) ?_
      refine lv_goto (tgt := 229) hx hb dX4_atomic_218 (by decide) ?_
      exact (db_X4_atomic_229 C K) (x1) (x2) (x6) (q23) ((sI s26.1 0)) (x2) ((-1)) (x3) s26 _ _ _ h hP hD hS (lv_sub hl [1, 2, 3, 6, 0] rfl)
  · have h := nd_pos h c22
    refine lv_bipush (v := 7) hx hb dX4_atomic_185 (by decide) ?_
    exact K _ _ _ _ _ _ dX4_atomic_187 rfl (Option.some.inj h).symm hP hD hS
set_option maxHeartbeats 40000000 in
set_option maxRecDepth 100000 in
theorem db_X4_atomic_136 {p : Program} {l : Launch} {e : Env} {s : State} {m : MethodId} {args : Array Value} {below : List Frame} {meth : Method} {c : Code} {Q : State → Prop} {A : Nat → Prop} {dC : Nat → ClassId} {dI : Nat → Nat → Nat} {a : Nat → Nat} {ac : Nat → ClassId} {n : Nat} {r : Int32 × (St × (St × (St)))} (C : nd_C p l s m args c A (dC, dI) cX4_atomic 8 RX4 ow_dm_X4_atomic (dk_X4 ac)) (K : nd_Ki p l e (headSpec ow_dm_X4_atomic ({ frames := 3, cells := 0, slots := 0, locals := 65 })).room s m args below meth c Q A (dC, dI) cX4_atomic .int (St × (St × (St))) (dw_X4 a ac) r) : dj_X4_atomic_136 p l e s m args below meth c Q A dC dI a ac (df_X4_atomic_136 n) r := by
  obtain ⟨hlt, hx, hb, hml, hown, hts, hN, hA, hK⟩ := id C
  intro x1 x2 x3 x4 y0 s0 H locs ls h hP hD hS hl
  unfold df_X4_atomic_136 at h
  refine lv_istore (lv' := [(6, .int y0), (0, .ref (a 0)), (1, .int x1), (2, .int x2), (3, .int x3), (4, .int x4)]) hx hb dX4_atomic_136 hl (by decide) rfl (fun ls hl => ?_)
  refine lv_iload hx hb dX4_atomic_138 (lv_at hl 0 rfl) ?_
  refine lv_if_eq (tgt := 170) hx hb dX4_atomic_140 (by decide) (fun c17 => ?_) (fun c17 => ?_)
  · have h := nd_pos h c17
    exact (db_X4_atomic_170 C K) (x1) (x2) (x3) (x4) (y0) s0 _ _ _ h hP hD hS (lv_sub hl [1, 2, 3, 4, 5, 0] rfl)
  · have h := nd_neg h c17
    refine lv_aload_n hx hb dX4_atomic_143 rfl (lv_at hl 1 rfl) ?_
    refine va_get (D := (dC, dI)) (ci := 5) (v := .ref (a 1)) (C := RX4) (T := TX4) (N := 6) hx hb hts hi_dm_X4_atomic_X4 hown hK hP 0 rfl rfl 0 (by decide) (hts (.fieldLink RX4 7 "TimeMachine$Hart" "machine" "LTimeMachine$Machine;") (List.mem_of_getElem? (i := 4) rfl)) (fun _ h9 => h9) rfl dX4_atomic_144 ?_
    refine va_get (D := (dC, dI)) (ci := 7) (v := .int (sI s0.2.1 6)) (C := RX6) (T := TX6) (N := 20) hx hb hts hi_dm_X4_atomic_X6 hown hK hP 1 rfl rfl 16 (by decide) (hts (.fieldLink RX4 122 "TimeMachine$Machine" "reserved" "I") (List.mem_of_getElem? (i := 27) rfl)) (fun _ h9 => h9) rfl dX4_atomic_147 ?_
    refine lv_iload_n hx hb dX4_atomic_150 rfl (lv_at hl 3 rfl) ?_
    refine lv_icmp_eq (tgt := 170) hx hb dX4_atomic_151 (by decide) (fun c43 => ?_) (fun c43 => ?_)
    · have h := nd_pos h c43
      exact (db_X4_atomic_170 C K) (x1) (x2) (x3) (x4) (y0) s0 _ _ _ h hP hD hS (lv_sub hl [1, 2, 3, 4, 5, 0] rfl)
    · have h := nd_neg h c43
      refine lv_aload_n hx hb dX4_atomic_154 rfl (lv_at hl 1 rfl) ?_
      refine lv_iload_n hx hb dX4_atomic_155 rfl (lv_at hl 2 rfl) ?_
      refine lv_iconst (v := 1) hx hb dX4_atomic_156 (by decide) ?_
      obtain ⟨s45, hq, h⟩ := nd_b1_e h
      have hPc := hP
      have hDc := hD
      have hKc := hK
      have hFc := nd_rs hD hS hA
      refine nd_cVv (As := [.int x1, .int 1]) (rest := []) (w' := dw_X4 a ac s45) ⟨hx, hb, hml, hown, hts⟩ (fun sz => dm_X4_set l hlt dC dI a ac n (x1) (1) s0 hq sz) (cwV 2 hts gi_dm_X4_atomic_7 rfl rfl rfl (by decide +kernel) ⟨Nat.le_of_ble_eq_true rfl, Nat.le_of_ble_eq_true rfl⟩) hPc hDc hKc hS hA hN (va_recv hKc hPc (ci := 5) (q0 := 0) rfl rfl) rfl hl.1 rfl (Nat.le_of_ble_eq_true rfl) dX4_atomic_157 (fun H locs hP1 hD1 hk1 hS => ?_)
      have hP := hP1
      have hD := hD1.weaken (fun k q _ h => hFc q.1 h)
      refine lv_aload_n hx hb dX4_atomic_160 rfl (lv_at hl 1 rfl) ?_
      refine va_get (D := (dC, dI)) (ci := 5) (v := .ref (a 1)) (C := RX4) (T := TX4) (N := 6) hx hb hts hi_dm_X4_atomic_X4 hown hK hP 0 rfl rfl 0 (by decide) (hts (.fieldLink RX4 7 "TimeMachine$Hart" "machine" "LTimeMachine$Machine;") (List.mem_of_getElem? (i := 4) rfl)) (fun _ h9 => h9) rfl dX4_atomic_161 ?_
      refine lv_iconst (v := (-1)) hx hb dX4_atomic_164 (by decide) ?_
      refine va_put (D := (dC, dI)) (ci := 7) (v := .int (-1)) (ty := .int) (C := RX6) (T := TX6) (N := 20) hx hb hts hi_dm_X4_atomic_X6 tyX6 tyX6_ok nmX6 hown hK hP hD hS 1 rfl rfl 16 (by decide) (hts (.fieldLink RX4 122 "TimeMachine$Machine" "reserved" "I") (List.mem_of_getElem? (i := 27) rfl)) (fun _ h9 => h9) rfl (by decide +kernel) rfl rfl (Nat.le_of_ble_eq_true rfl) dX4_atomic_165 (fun H locs hP hD hS => ?_)
      obtain ⟨s47, es47, h⟩ := nd_let_e h
      have hP : va_P (dC, dI) vwCl (dw_X4 a ac s47) H := by rw [es47]; exact hP
      have hD : va_D A (dw_X4 a ac s47) := by rw [es47]; exact hD
      refine lv_iconst (v := 0) hx hb dX4_atomic_168 (by decide) ?_
      exact K _ _ _ _ _ _ dX4_atomic_169 rfl (Option.some.inj h).symm hP hD hS
set_option maxHeartbeats 40000000 in
set_option maxRecDepth 100000 in
theorem db_X4_atomic_90 {p : Program} {l : Launch} {e : Env} {s : State} {m : MethodId} {args : Array Value} {below : List Frame} {meth : Method} {c : Code} {Q : State → Prop} {A : Nat → Prop} {dC : Nat → ClassId} {dI : Nat → Nat → Nat} {a : Nat → Nat} {ac : Nat → ClassId} {n : Nat} {r : Int32 × (St × (St × (St)))} (C : nd_C p l s m args c A (dC, dI) cX4_atomic 8 RX4 ow_dm_X4_atomic (dk_X4 ac)) (K : nd_Ki p l e (headSpec ow_dm_X4_atomic ({ frames := 3, cells := 0, slots := 0, locals := 65 })).room s m args below meth c Q A (dC, dI) cX4_atomic .int (St × (St × (St))) (dw_X4 a ac) r) : dj_X4_atomic_90 p l e s m args below meth c Q A dC dI a ac (df_X4_atomic_90 n) r := by
  obtain ⟨hlt, hx, hb, hml, hown, hts, hN, hA, hK⟩ := id C
  intro s0 H locs ls h hP hD hS hl
  unfold df_X4_atomic_90 at h
  refine lv_bipush (v := 11) hx hb dX4_atomic_90 (by decide) ?_
  exact K _ _ _ _ _ _ dX4_atomic_92 rfl (Option.some.inj h).symm hP hD hS
set_option maxHeartbeats 40000000 in
set_option maxRecDepth 100000 in
theorem db_X4_atomic_74 {p : Program} {l : Launch} {e : Env} {s : State} {m : MethodId} {args : Array Value} {below : List Frame} {meth : Method} {c : Code} {Q : State → Prop} {A : Nat → Prop} {dC : Nat → ClassId} {dI : Nat → Nat → Nat} {a : Nat → Nat} {ac : Nat → ClassId} {n : Nat} {r : Int32 × (St × (St × (St)))} (C : nd_C p l s m args c A (dC, dI) cX4_atomic 8 RX4 ow_dm_X4_atomic (dk_X4 ac)) (K : nd_Ki p l e (headSpec ow_dm_X4_atomic ({ frames := 3, cells := 0, slots := 0, locals := 65 })).room s m args below meth c Q A (dC, dI) cX4_atomic .int (St × (St × (St))) (dw_X4 a ac) r) : dj_X4_atomic_74 p l e s m args below meth c Q A dC dI a ac (df_X4_atomic_74 n) r := by
  obtain ⟨hlt, hx, hb, hml, hown, hts, hN, hA, hK⟩ := id C
  intro x1 x2 x3 x4 x5 s0 H locs ls h hP hD hS hl
  unfold df_X4_atomic_74 at h
  refine lv_aload_n hx hb dX4_atomic_74 rfl (lv_at hl 0 rfl) ?_
  refine va_get (D := (dC, dI)) (ci := 5) (v := .ref (a 1)) (C := RX4) (T := TX4) (N := 6) hx hb hts hi_dm_X4_atomic_X4 hown hK hP 0 rfl rfl 0 (by decide) (hts (.fieldLink RX4 7 "TimeMachine$Hart" "machine" "LTimeMachine$Machine;") (List.mem_of_getElem? (i := 4) rfl)) (fun _ h9 => h9) rfl dX4_atomic_75 ?_
  refine lv_aload_n hx hb dX4_atomic_78 rfl (lv_at hl 0 rfl) ?_
  refine va_get (D := (dC, dI)) (ci := 5) (v := .int (sI s0.1 0)) (C := RX4) (T := TX4) (N := 6) hx hb hts hi_dm_X4_atomic_X4 hown hK hP 0 rfl rfl 2 (by decide) (hts (.fieldLink RX4 20 "TimeMachine$Hart" "process" "I") (List.mem_of_getElem? (i := 5) rfl)) (fun _ h9 => h9) rfl dX4_atomic_79 ?_
  refine lv_iload_n hx hb dX4_atomic_82 rfl (lv_at hl 2 rfl) ?_
  refine lv_iconst (v := 1) hx hb dX4_atomic_83 (by decide) ?_
  obtain ⟨q10, s11, hq, h⟩ := nd_b2_e h
  have hPc := dp_X4_1 hP
  have hDc := dd_X4_1 hD
  have hKc := dy_X4_1 hK
  have hFc := nd_rs hDc hS hA
  have hzA : ∀ q : Nat, H.size ≤ q → A q := fun q h => hA q (Nat.le_trans hS.1 h)
  refine nd_cVi (As := [.int (sI s0.1 0), .int x2, .int 1]) (rest := []) (q := q10) (w' := dw_X6 (fun k => a (k + 1)) (fun k => ac (k + 1)) s11) ⟨hx, hb, hml, hown, hts⟩ (fun sz => dm_X6_may l hlt dC dI (fun k => a (k + 1)) (fun k => ac (k + 1)) n ((sI s0.1 0)) (x2) (1) s0.2 hq sz) (cwV 3 hts gi_dm_X4_atomic_1 rfl rfl rfl (by decide +kernel) ⟨Nat.le_of_ble_eq_true rfl, Nat.le_of_ble_eq_true rfl⟩) hPc hDc hKc hS hA hN (va_recv hKc hPc (ci := 7) (q0 := 0) rfl rfl) rfl hl.1 rfl (Nat.le_of_ble_eq_true rfl) dX4_atomic_84 (fun H locs hP1 hD1 hk1 hS => ?_)
  obtain ⟨hP, hD⟩ := dn_X4_1 hP hD hzA hk1 hP1 hD1
  obtain ⟨s13, es13, h⟩ := nd_let_e h
  have hP : va_P (dC, dI) vwCl (dw_X4 a ac s13) H := by rw [es13]; exact hP
  have hD : va_D A (dw_X4 a ac s13) := by rw [es13]; exact hD
  refine lv_if_ne (tgt := 93) hx hb dX4_atomic_87 (by decide) (fun c14 => ?_) (fun c14 => ?_)
  · have h := nd_neg h c14
    refine lv_iload hx hb dX4_atomic_93 (lv_at hl 5 rfl) ?_
    refine lv_if_eq (tgt := 125) hx hb dX4_atomic_95 (by decide) (fun c15 => ?_) (fun c15 => ?_)
    · have h := nd_pos h c15
      refine lv_iload hx hb dX4_atomic_125 (lv_at hl 4 rfl) ?_
      refine lv_iconst (v := 3) hx hb dX4_atomic_127 (by decide) ?_
      refine lv_icmp_ne (tgt := 135) hx hb dX4_atomic_128 (by decide) (fun c16 => ?_) (fun c16 => ?_)
      · have h := nd_neg h c16
        refine lv_iconst (v := 0) hx hb dX4_atomic_135 (by decide) ?_
        exact (db_X4_atomic_136 C K) (x1) (x2) (x3) (x4) (0) s13 _ _ _ h hP hD hS (lv_sub hl [0, 1, 2, 3, 4] rfl)
      · have h := nd_pos h c16
        refine lv_iconst (v := 1) hx hb dX4_atomic_131 (by decide) ?_
        refine lv_goto (tgt := 136) hx hb dX4_atomic_132 (by decide) ?_
        exact (db_X4_atomic_136 C K) (x1) (x2) (x3) (x4) (1) s13 _ _ _ h hP hD hS (lv_sub hl [0, 1, 2, 3, 4] rfl)
    · have h := nd_neg h c15
      refine lv_aload_n hx hb dX4_atomic_98 rfl (lv_at hl 0 rfl) ?_
      refine lv_iload_n hx hb dX4_atomic_99 rfl (lv_at hl 1 rfl) ?_
      refine lv_aload_n hx hb dX4_atomic_100 rfl (lv_at hl 0 rfl) ?_
      refine va_get (D := (dC, dI)) (ci := 5) (v := .ref (a 1)) (C := RX4) (T := TX4) (N := 6) hx hb hts hi_dm_X4_atomic_X4 hown hK hP 0 rfl rfl 0 (by decide) (hts (.fieldLink RX4 7 "TimeMachine$Hart" "machine" "LTimeMachine$Machine;") (List.mem_of_getElem? (i := 4) rfl)) (fun _ h9 => h9) rfl dX4_atomic_101 ?_
      refine lv_aload_n hx hb dX4_atomic_104 rfl (lv_at hl 0 rfl) ?_
      refine va_get (D := (dC, dI)) (ci := 5) (v := .int (sI s13.1 0)) (C := RX4) (T := TX4) (N := 6) hx hb hts hi_dm_X4_atomic_X4 hown hK hP 0 rfl rfl 2 (by decide) (hts (.fieldLink RX4 20 "TimeMachine$Hart" "process" "I") (List.mem_of_getElem? (i := 5) rfl)) (fun _ h9 => h9) rfl dX4_atomic_105 ?_
      refine lv_iload_n hx hb dX4_atomic_108 rfl (lv_at hl 2 rfl) ?_
      obtain ⟨q48, s49, hq, h⟩ := nd_b2_e h
      have hPc := dp_X4_1 hP
      have hDc := dd_X4_1 hD
      have hKc := dy_X4_1 hK
      have hFc := nd_rs hDc hS hA
      have hzA : ∀ q : Nat, H.size ≤ q → A q := fun q h => hA q (Nat.le_trans hS.1 h)
      refine nd_cVi (As := [.int (sI s13.1 0), .int x2]) (rest := [.int x1, .ref (a 0)]) (q := q48) (w' := dw_X6 (fun k => a (k + 1)) (fun k => ac (k + 1)) s49) ⟨hx, hb, hml, hown, hts⟩ (fun sz => dm_X6_wordAt l hlt dC dI (fun k => a (k + 1)) (fun k => ac (k + 1)) n ((sI s13.1 0)) (x2) s13.2 hq sz) (cwV 2 hts gi_dm_X4_atomic_3 rfl rfl rfl (by decide +kernel) ⟨Nat.le_of_ble_eq_true rfl, Nat.le_of_ble_eq_true rfl⟩) hPc hDc hKc hS hA hN (va_recv hKc hPc (ci := 7) (q0 := 0) rfl rfl) rfl hl.1 rfl (Nat.le_of_ble_eq_true rfl) dX4_atomic_109 (fun H locs hP1 hD1 hk1 hS => ?_)
      obtain ⟨hP, hD⟩ := dn_X4_1 hP hD hzA hk1 hP1 hD1
      obtain ⟨s51, es51, h⟩ := nd_let_e h
      have hP : va_P (dC, dI) vwCl (dw_X4 a ac s51) H := by rw [es51]; exact hP
      have hD : va_D A (dw_X4 a ac s51) := by rw [es51]; exact hD
      obtain ⟨s53, hq, h⟩ := nd_b1_e h
      have hPc := hP
      have hDc := hD
      have hKc := hK
      have hFc := nd_rs hD hS hA
      refine nd_cVv (As := [.int x1, .int q48]) (rest := []) (w' := dw_X4 a ac s53) ⟨hx, hb, hml, hown, hts⟩ (fun sz => dm_X4_set l hlt dC dI a ac n (x1) (q48) s51 hq sz) (cwV 2 hts gi_dm_X4_atomic_7 rfl rfl rfl (by decide +kernel) ⟨Nat.le_of_ble_eq_true rfl, Nat.le_of_ble_eq_true rfl⟩) hPc hDc hKc hS hA hN (va_recv hKc hPc (ci := 5) (q0 := 0) rfl rfl) rfl hl.1 rfl (Nat.le_of_ble_eq_true rfl) dX4_atomic_112 (fun H locs hP1 hD1 hk1 hS => ?_)
      have hP := hP1
      have hD := hD1.weaken (fun k q _ h => hFc q.1 h)
      refine lv_aload_n hx hb dX4_atomic_115 rfl (lv_at hl 0 rfl) ?_
      refine va_get (D := (dC, dI)) (ci := 5) (v := .ref (a 1)) (C := RX4) (T := TX4) (N := 6) hx hb hts hi_dm_X4_atomic_X4 hown hK hP 0 rfl rfl 0 (by decide) (hts (.fieldLink RX4 7 "TimeMachine$Hart" "machine" "LTimeMachine$Machine;") (List.mem_of_getElem? (i := 4) rfl)) (fun _ h9 => h9) rfl dX4_atomic_116 ?_
      refine lv_iload_n hx hb dX4_atomic_119 rfl (lv_at hl 2 rfl) ?_
      refine va_put (D := (dC, dI)) (ci := 7) (v := .int x2) (ty := .int) (C := RX6) (T := TX6) (N := 20) hx hb hts hi_dm_X4_atomic_X6 tyX6 tyX6_ok nmX6 hown hK hP hD hS 1 rfl rfl 16 (by decide) (hts (.fieldLink RX4 122 "TimeMachine$Machine" "reserved" "I") (List.mem_of_getElem? (i := 27) rfl)) (fun _ h9 => h9) rfl (by decide +kernel) rfl rfl (Nat.le_of_ble_eq_true rfl) dX4_atomic_120 (fun H locs hP hD hS => ?_)
      obtain ⟨s55, es55, h⟩ := nd_let_e h
      have hP : va_P (dC, dI) vwCl (dw_X4 a ac s55) H := by rw [es55]; exact hP
      have hD : va_D A (dw_X4 a ac s55) := by rw [es55]; exact hD
      refine lv_iconst (v := 0) hx hb dX4_atomic_123 (by decide) ?_
      exact K _ _ _ _ _ _ dX4_atomic_124 rfl (Option.some.inj h).symm hP hD hS
  · have h := nd_pos h c14
    exact (db_X4_atomic_90 C K)  s13 _ _ _ h hP hD hS (lv_sub hl [] rfl)
set_option maxHeartbeats 40000000 in
set_option maxRecDepth 100000 in
theorem db_X4_atomic_42 {p : Program} {l : Launch} {e : Env} {s : State} {m : MethodId} {args : Array Value} {below : List Frame} {meth : Method} {c : Code} {Q : State → Prop} {A : Nat → Prop} {dC : Nat → ClassId} {dI : Nat → Nat → Nat} {a : Nat → Nat} {ac : Nat → ClassId} {n : Nat} {r : Int32 × (St × (St × (St)))} (C : nd_C p l s m args c A (dC, dI) cX4_atomic 8 RX4 ow_dm_X4_atomic (dk_X4 ac)) (K : nd_Ki p l e (headSpec ow_dm_X4_atomic ({ frames := 3, cells := 0, slots := 0, locals := 65 })).room s m args below meth c Q A (dC, dI) cX4_atomic .int (St × (St × (St))) (dw_X4 a ac) r) : dj_X4_atomic_42 p l e s m args below meth c Q A dC dI a ac (df_X4_atomic_42 n) r := by
  obtain ⟨hlt, hx, hb, hml, hown, hts, hN, hA, hK⟩ := id C
  intro s0 H locs ls h hP hD hS hl
  unfold df_X4_atomic_42 at h
  refine lv_iconst (v := 4) hx hb dX4_atomic_42 (by decide) ?_
  exact K _ _ _ _ _ _ dX4_atomic_43 rfl (Option.some.inj h).symm hP hD hS
set_option maxHeartbeats 40000000 in
set_option maxRecDepth 100000 in
theorem db_X4_atomic_34 {p : Program} {l : Launch} {e : Env} {s : State} {m : MethodId} {args : Array Value} {below : List Frame} {meth : Method} {c : Code} {Q : State → Prop} {A : Nat → Prop} {dC : Nat → ClassId} {dI : Nat → Nat → Nat} {a : Nat → Nat} {ac : Nat → ClassId} {n : Nat} {r : Int32 × (St × (St × (St)))} (C : nd_C p l s m args c A (dC, dI) cX4_atomic 8 RX4 ow_dm_X4_atomic (dk_X4 ac)) (K : nd_Ki p l e (headSpec ow_dm_X4_atomic ({ frames := 3, cells := 0, slots := 0, locals := 65 })).room s m args below meth c Q A (dC, dI) cX4_atomic .int (St × (St × (St))) (dw_X4 a ac) r) : dj_X4_atomic_34 p l e s m args below meth c Q A dC dI a ac (df_X4_atomic_34 n) r := by
  obtain ⟨hlt, hx, hb, hml, hown, hts, hN, hA, hK⟩ := id C
  intro x1 x2 x3 x4 x5 s0 H locs ls h hP hD hS hl
  unfold df_X4_atomic_34 at h
  refine lv_iload hx hb dX4_atomic_34 (lv_at hl 4 rfl) ?_
  obtain ⟨q4, s5, hq, h⟩ := nd_b2_e h
  have hPc : va_P (dC, dI) vwCl (dw_P a ac ()) H := nd_p0
  have hDc : va_D A (dw_P a ac ()) := nd_d0
  have hKc : va_K (dC, dI) vwCl (dk_P ac) s := nd_y0 hK
  have hFc : ∀ q, va_A (dw_P a ac ()) H.size q → A q := nd_r0 hS hA
  refine nd_cSi (As := [.int x4]) (rest := []) (q := q4) (w' := dw_P a ac s5) ⟨hx, hb, hml, hown, hts⟩ (fun sz => dm_X4_isAtomic l hlt dC dI a ac n (x4) () hq sz) (cwS 1 hts gi_dm_X4_atomic_0 rfl rfl rfl (by decide +kernel) ⟨Nat.le_of_ble_eq_true rfl, Nat.le_of_ble_eq_true rfl⟩) hPc hDc hKc hS hA hN rfl hl.1 rfl (Nat.le_of_ble_eq_true rfl) dX4_atomic_36 (fun H locs hP1 hD1 hk1 hS => ?_)
  have hP := nd_n0 hP hk1
  refine lv_if_ne (tgt := 44) hx hb dX4_atomic_39 (by decide) (fun c7 => ?_) (fun c7 => ?_)
  · have h := nd_neg h c7
    refine lv_iload_n hx hb dX4_atomic_44 rfl (lv_at hl 2 rfl) ?_
    refine lv_iconst (v := 3) hx hb dX4_atomic_45 (by decide) ?_
    refine lv_iand hx hb dX4_atomic_46 ?_
    refine lv_if_eq (tgt := 53) hx hb dX4_atomic_47 (by decide) (fun c8 => ?_) (fun c8 => ?_)
    · have h := nd_pos h c8
      refine lv_iload hx hb dX4_atomic_53 (lv_at hl 5 rfl) ?_
      refine lv_if_ne (tgt := 74) hx hb dX4_atomic_55 (by decide) (fun c9 => ?_) (fun c9 => ?_)
      · have h := nd_neg h c9
        exact (db_X4_atomic_74 C K) (x1) (x2) (x3) (x4) (x5) s0 _ _ _ h hP hD hS (lv_sub hl [0, 1, 2, 3, 4, 5] rfl)
      · have h := nd_pos h c9
        refine lv_aload_n hx hb dX4_atomic_58 rfl (lv_at hl 0 rfl) ?_
        refine va_get (D := (dC, dI)) (ci := 5) (v := .ref (a 1)) (C := RX4) (T := TX4) (N := 6) hx hb hts hi_dm_X4_atomic_X4 hown hK hP 0 rfl rfl 0 (by decide) (hts (.fieldLink RX4 7 "TimeMachine$Hart" "machine" "LTimeMachine$Machine;") (List.mem_of_getElem? (i := 4) rfl)) (fun _ h9 => h9) rfl dX4_atomic_59 ?_
        refine lv_aload_n hx hb dX4_atomic_62 rfl (lv_at hl 0 rfl) ?_
        refine va_get (D := (dC, dI)) (ci := 5) (v := .int (sI s0.1 0)) (C := RX4) (T := TX4) (N := 6) hx hb hts hi_dm_X4_atomic_X4 hown hK hP 0 rfl rfl 2 (by decide) (hts (.fieldLink RX4 20 "TimeMachine$Hart" "process" "I") (List.mem_of_getElem? (i := 5) rfl)) (fun _ h9 => h9) rfl dX4_atomic_63 ?_
        refine lv_iload_n hx hb dX4_atomic_66 rfl (lv_at hl 2 rfl) ?_
        refine lv_iconst (v := 2) hx hb dX4_atomic_67 (by decide) ?_
        obtain ⟨q56, s57, hq, h⟩ := nd_b2_e h
        have hPc := dp_X4_1 hP
        have hDc := dd_X4_1 hD
        have hKc := dy_X4_1 hK
        have hFc := nd_rs hDc hS hA
        have hzA : ∀ q : Nat, H.size ≤ q → A q := fun q h => hA q (Nat.le_trans hS.1 h)
        refine nd_cVi (As := [.int (sI s0.1 0), .int x2, .int 2]) (rest := []) (q := q56) (w' := dw_X6 (fun k => a (k + 1)) (fun k => ac (k + 1)) s57) ⟨hx, hb, hml, hown, hts⟩ (fun sz => dm_X6_may l hlt dC dI (fun k => a (k + 1)) (fun k => ac (k + 1)) n ((sI s0.1 0)) (x2) (2) s0.2 hq sz) (cwV 3 hts gi_dm_X4_atomic_1 rfl rfl rfl (by decide +kernel) ⟨Nat.le_of_ble_eq_true rfl, Nat.le_of_ble_eq_true rfl⟩) hPc hDc hKc hS hA hN (va_recv hKc hPc (ci := 7) (q0 := 0) rfl rfl) rfl hl.1 rfl (Nat.le_of_ble_eq_true rfl) dX4_atomic_68 (fun H locs hP1 hD1 hk1 hS => ?_)
        obtain ⟨hP, hD⟩ := dn_X4_1 hP hD hzA hk1 hP1 hD1
        obtain ⟨s59, es59, h⟩ := nd_let_e h
        have hP : va_P (dC, dI) vwCl (dw_X4 a ac s59) H := by rw [es59]; exact hP
        have hD : va_D A (dw_X4 a ac s59) := by rw [es59]; exact hD
        refine lv_if_eq (tgt := 90) hx hb dX4_atomic_71 (by decide) (fun c60 => ?_) (fun c60 => ?_)
        · have h := nd_pos h c60
          exact (db_X4_atomic_90 C K)  s59 _ _ _ h hP hD hS (lv_sub hl [] rfl)
        · have h := nd_neg h c60
          exact (db_X4_atomic_74 C K) (x1) (x2) (x3) (x4) (x5) s59 _ _ _ h hP hD hS (lv_sub hl [0, 1, 2, 3, 4, 5] rfl)
    · have h := nd_neg h c8
      refine lv_bipush (v := 7) hx hb dX4_atomic_50 (by decide) ?_
      exact K _ _ _ _ _ _ dX4_atomic_52 rfl (Option.some.inj h).symm hP hD hS
  · have h := nd_pos h c7
    exact (db_X4_atomic_42 C K)  s0 _ _ _ h hP hD hS (lv_sub hl [] rfl)
set_option maxHeartbeats 40000000 in
set_option maxRecDepth 100000 in
theorem db_X4_atomic_17 {p : Program} {l : Launch} {e : Env} {s : State} {m : MethodId} {args : Array Value} {below : List Frame} {meth : Method} {c : Code} {Q : State → Prop} {A : Nat → Prop} {dC : Nat → ClassId} {dI : Nat → Nat → Nat} {a : Nat → Nat} {ac : Nat → ClassId} {n : Nat} {r : Int32 × (St × (St × (St)))} (C : nd_C p l s m args c A (dC, dI) cX4_atomic 8 RX4 ow_dm_X4_atomic (dk_X4 ac)) (K : nd_Ki p l e (headSpec ow_dm_X4_atomic ({ frames := 3, cells := 0, slots := 0, locals := 65 })).room s m args below meth c Q A (dC, dI) cX4_atomic .int (St × (St × (St))) (dw_X4 a ac) r) : dj_X4_atomic_17 p l e s m args below meth c Q A dC dI a ac (df_X4_atomic_17 n) r := by
  obtain ⟨hlt, hx, hb, hml, hown, hts, hN, hA, hK⟩ := id C
  intro x1 x2 x3 x4 y0 s0 H locs ls h hP hD hS hl
  unfold df_X4_atomic_17 at h
  refine lv_istore (lv' := [(5, .int y0), (0, .ref (a 0)), (1, .int x1), (2, .int x2), (3, .int x3), (4, .int x4)]) hx hb dX4_atomic_17 hl (by decide) rfl (fun ls hl => ?_)
  refine lv_iload hx hb dX4_atomic_19 (lv_at hl 0 rfl) ?_
  refine lv_if_eq (tgt := 34) hx hb dX4_atomic_21 (by decide) (fun c3 => ?_) (fun c3 => ?_)
  · have h := nd_pos h c3
    exact (db_X4_atomic_34 C K) (x1) (x2) (x3) (x4) (y0) s0 _ _ _ h hP hD hS (lv_sub hl [1, 2, 3, 4, 5, 0] rfl)
  · have h := nd_neg h c3
    refine lv_iload_n hx hb dX4_atomic_24 rfl (lv_at hl 2 rfl) ?_
    refine lv_bipush (v := 20) hx hb dX4_atomic_25 (by decide) ?_
    refine lv_ishr hx hb dX4_atomic_27 ?_
    refine lv_bipush (v := 31) hx hb dX4_atomic_28 (by decide) ?_
    refine lv_iand hx hb dX4_atomic_30 ?_
    refine lv_if_ne (tgt := 42) hx hb dX4_atomic_31 (by decide) (fun c61 => ?_) (fun c61 => ?_)
    · have h := nd_neg h c61
      exact (db_X4_atomic_42 C K)  s0 _ _ _ h hP hD hS (lv_sub hl [] rfl)
    · have h := nd_pos h c61
      exact (db_X4_atomic_34 C K) (x1) (x2) (x3) (x4) (y0) s0 _ _ _ h hP hD hS (lv_sub hl [1, 2, 3, 4, 5, 0] rfl)
set_option maxHeartbeats 40000000 in
set_option maxRecDepth 100000 in
theorem db_X4_atomic_0 {p : Program} {l : Launch} {e : Env} {s : State} {m : MethodId} {args : Array Value} {below : List Frame} {meth : Method} {c : Code} {Q : State → Prop} {A : Nat → Prop} {dC : Nat → ClassId} {dI : Nat → Nat → Nat} {a : Nat → Nat} {ac : Nat → ClassId} {n : Nat} {r : Int32 × (St × (St × (St)))} (C : nd_C p l s m args c A (dC, dI) cX4_atomic 8 RX4 ow_dm_X4_atomic (dk_X4 ac)) (K : nd_Ki p l e (headSpec ow_dm_X4_atomic ({ frames := 3, cells := 0, slots := 0, locals := 65 })).room s m args below meth c Q A (dC, dI) cX4_atomic .int (St × (St × (St))) (dw_X4 a ac) r) : dj_X4_atomic_0 p l e s m args below meth c Q A dC dI a ac (df_X4_atomic_0 n) r := by
  obtain ⟨hlt, hx, hb, hml, hown, hts, hN, hA, hK⟩ := id C
  intro v0 v1 v2 s0 H locs ls h hP hD hS hl
  unfold df_X4_atomic_0 at h
  refine lv_iload_n hx hb dX4_atomic_0 rfl (lv_at hl 1 rfl) ?_
  refine lv_bipush (v := 27) hx hb dX4_atomic_1 (by decide) ?_
  refine lv_iushr hx hb dX4_atomic_3 rfl ?_
  refine lv_topi (fun z1 ez1 => ?_)
  have h := nd_at h ez1
  refine lv_istore (lv' := [(4, .int z1), (0, .ref (a 0)), (1, .int v0), (2, .int v1), (3, .int v2)]) hx hb dX4_atomic_4 hl (by decide) rfl (fun ls hl => ?_)
  refine lv_iload hx hb dX4_atomic_6 (lv_at hl 0 rfl) ?_
  refine lv_iconst (v := 2) hx hb dX4_atomic_8 (by decide) ?_
  refine lv_icmp_ne (tgt := 16) hx hb dX4_atomic_9 (by decide) (fun c2 => ?_) (fun c2 => ?_)
  · have h := nd_neg h c2
    refine lv_iconst (v := 0) hx hb dX4_atomic_16 (by decide) ?_
    exact (db_X4_atomic_17 C K) (v0) (v1) (v2) (z1) (0) s0 _ _ _ h hP hD hS (lv_sub hl [1, 2, 3, 4, 0] rfl)
  · have h := nd_pos h c2
    refine lv_iconst (v := 1) hx hb dX4_atomic_12 (by decide) ?_
    refine lv_goto (tgt := 17) hx hb dX4_atomic_13 (by decide) ?_
    exact (db_X4_atomic_17 C K) (v0) (v1) (v2) (z1) (1) s0 _ _ _ h hP hD hS (lv_sub hl [1, 2, 3, 4, 0] rfl)
set_option maxHeartbeats 40000000 in
set_option maxRecDepth 100000 in
theorem dm_X4_atomic (l : Launch) (hlt : l.stackTraces = false) (dC : Nat → ClassId) (dI : Nat → Nat → Nat) (a : Nat → Nat) (ac : Nat → ClassId) (n : Nat) (v0 : Int32) (v1 : Int32) (v2 : Int32) (s0 : St × (St × (St))) {r : Int32 × (St × (St × (St)))} (h : df_X4_atomic n v0 v1 v2 s0 = some r) (sz : Nat) : Met l yX4_atomic ow_dm_X4_atomic ({ frames := 3, cells := 0, slots := 0, locals := 65 }) (va_Pc [.ref (a 0), .int v0, .int v1, .int v2] (fun U => U.heap.size = sz ∧ va_P (dC, dI) vwCl (dw_X4 a ac s0) U.heap ∧ va_K (dC, dI) vwCl (dk_X4 ac) U ∧ va_D (fun _ => True) (dw_X4 a ac s0) ∧ nv_E (va_A (dw_X4 a ac s0) sz) U)) (va_Qi (fun x _ => x = r.1) (fun (_ : Unit) t => va_P (dC, dI) vwCl (dw_X4 a ac r.2) t.heap ∧ va_K (dC, dI) vwCl (dk_X4 ac) t ∧ va_D (va_A (dw_X4 a ac s0) sz) (dw_X4 a ac r.2)) (va_A (dw_X4 a ac s0) sz)) 0 0 (va_A (dw_X4 a ac s0) sz) := by
  refine Met.ofW (cc := cX4_atomic) (maxL := 8) (ret := (some .int)) (by decide) rfl ?_
  intro p e s m args below meth c s₁ B hml hv
  obtain ⟨rfl, hsz, hP, hK, hD0, hN⟩ := hv
  have hx := B.exec
  have hb := B.bytes
  have hr := B.returns
  have hts := atoms_spec (ws := ow_dm_X4_atomic) B.pre
  have hown : s.vm.findClass RX4 = some m.cls := findClass_of_methodNamed B.named
  have hlocks := B.notSynchronized
  subst hsz
  have hD := hD0.self (sz := s.heap.size)
  generalize hAe : va_A (dw_X4 a ac s0) s.heap.size = A at hD hN ⊢
  have hA : ∀ q : Nat, s.heap.size ≤ q → A q := fun q h => by rw [← hAe]; exact Or.inr h
  have hl := lv_entry ([.ref (a 0), .int v0, .int v1, .int v2]) (n := 8) (Nat.le_of_ble_eq_true rfl)
  rw [lg_entry_eq]
  generalize (lg_sl ([.ref (a 0), .int v0, .int v1, .int v2]) ++ List.replicate (8 - (lg_sl ([.ref (a 0), .int v0, .int v1, .int v2])).length) Slot.unset).toArray = ls at hl ⊢
  have hl : lv_has ls 8 [(0, .ref (a 0)), (1, .int v0), (2, .int v1), (3, .int v2)] := hl
  exact db_X4_atomic_0 (dC := dC) (dI := dI) (a := a) (ac := ac) (n := n) (r := r) ⟨hlt, hx, hb, hml, hown, hts, hN, hA, hK⟩ (fun pc v τ H locs ls d z er hP hD hS => by subst er; exact W.zret (v := v) hx hb hr z (fun t ht hW => ⟨⟨v, (), rfl, rfl, by rw [ht]; exact hP, va_K.moved hW.alike hK, hD⟩, hS.F ht⟩) hS.2.2 d) v0 v1 v2 s0 _ _ _ h hP hD va_S.rf (lv_sub hl [0, 1, 2, 3] rfl)
def ow_dm_X4_workWithRegister : List Cond := .code yX4_workWithRegister cX4_workWithRegister 6 (some .int) :: ([.methodLink RX4 52 yX4_set, .instanceMethod yX4_set, .selects RX4 yX4_set yX4_set, .initialized RX4, .methodLink RX4 113 yX4_reckoned, .static yX4_reckoned] ++ (ow_dm_X4_set ++ (ow_dm_X4_reckoned ++ [])))
theorem gd_dm_X4_workWithRegister : ∀ w ∈ ow_dm_X4_workWithRegister, (w.onTables && w.keeps) = true ∨ ∃ ty, w = Cond.arrayClass ty := List.forall_mem_cons.mpr ⟨good_of_word rfl, List.forall_mem_append.mpr ⟨fun w h => good_of_word (List.all_eq_true.mp (by decide +kernel) w h), List.forall_mem_append.mpr ⟨gd_dm_X4_set, List.forall_mem_append.mpr ⟨gd_dm_X4_reckoned, fun _ h => nomatch h⟩⟩⟩⟩
theorem gi_dm_X4_workWithRegister_0 : GoodIn ow_dm_X4_workWithRegister (wsV RX4 52 RX4 yX4_set ow_dm_X4_set) := goodIn_app (goodIn_of _ (by decide +kernel)) (fun w h => ⟨List.mem_cons_of_mem _ (List.mem_append_right _ (List.mem_append_left _ h)), gd_dm_X4_set w h⟩)
theorem gi_dm_X4_workWithRegister_1 : GoodIn ow_dm_X4_workWithRegister (wsS RX4 113 yX4_reckoned ow_dm_X4_reckoned) := goodIn_app (goodIn_of _ (by decide +kernel)) (fun w h => ⟨List.mem_cons_of_mem _ (List.mem_append_right _ (List.mem_append_right _ (List.mem_append_left _ h))), gd_dm_X4_reckoned w h⟩)
def dj_X4_workWithRegister_76 (p : Program) (l : Launch) (e : Env) (s : State) (m : MethodId) (args : Array Value) (below : List Frame) (meth : Method) (c : Code) (Q : State → Prop) (A : Nat → Prop) (dC : Nat → ClassId) (dI : Nat → Nat → Nat) (a : Nat → Nat) (ac : Nat → ClassId) (g : (St × (St × (St))) → Option (Int32 × (St × (St × (St))))) (r : Int32 × (St × (St × (St)))) : Prop := ∀ (s0 : St × (St × (St))) (H : Heap) (locs : List Loc) (ls : Array Slot), g s0 = some r → va_P (dC, dI) vwCl (dw_X4 a ac s0) H → va_D A (dw_X4 a ac s0) → va_S A s.heap H locs → lv_has ls 6 [] → W p l e (headSpec ow_dm_X4_workWithRegister ({ frames := 3, cells := 0, slots := 0, locals := 64 })).room s m args below meth c H locs 0 0 Q (F0 m 76 ls [])
def dj_X4_workWithRegister_78 (p : Program) (l : Launch) (e : Env) (s : State) (m : MethodId) (args : Array Value) (below : List Frame) (meth : Method) (c : Code) (Q : State → Prop) (A : Nat → Prop) (dC : Nat → ClassId) (dI : Nat → Nat → Nat) (a : Nat → Nat) (ac : Nat → ClassId) (g : (St × (St × (St))) → Option (Int32 × (St × (St × (St))))) (r : Int32 × (St × (St × (St)))) : Prop := ∀ (s0 : St × (St × (St))) (H : Heap) (locs : List Loc) (ls : Array Slot), g s0 = some r → va_P (dC, dI) vwCl (dw_X4 a ac s0) H → va_D A (dw_X4 a ac s0) → va_S A s.heap H locs → lv_has ls 6 [] → W p l e (headSpec ow_dm_X4_workWithRegister ({ frames := 3, cells := 0, slots := 0, locals := 64 })).room s m args below meth c H locs 0 0 Q (F0 m 78 ls [])
def dj_X4_workWithRegister_49 (p : Program) (l : Launch) (e : Env) (s : State) (m : MethodId) (args : Array Value) (below : List Frame) (meth : Method) (c : Code) (Q : State → Prop) (A : Nat → Prop) (dC : Nat → ClassId) (dI : Nat → Nat → Nat) (a : Nat → Nat) (ac : Nat → ClassId) (g : Int32 → Int32 → Int32 → Int32 → Int32 → (St × (St × (St))) → Option (Int32 × (St × (St × (St))))) (r : Int32 × (St × (St × (St)))) : Prop := ∀ (x1 : Int32) (x2 : Int32) (x3 : Int32) (x4 : Int32) (x5 : Int32) (s0 : St × (St × (St))) (H : Heap) (locs : List Loc) (ls : Array Slot), g x1 x2 x3 x4 x5 s0 = some r → va_P (dC, dI) vwCl (dw_X4 a ac s0) H → va_D A (dw_X4 a ac s0) → va_S A s.heap H locs → lv_has ls 6 [(0, .ref (a 0)), (1, .int x1), (2, .int x2), (3, .int x3), (4, .int x4), (5, .int x5)] → W p l e (headSpec ow_dm_X4_workWithRegister ({ frames := 3, cells := 0, slots := 0, locals := 64 })).room s m args below meth c H locs 0 0 Q (F0 m 49 ls [])
def dj_X4_workWithRegister_0 (p : Program) (l : Launch) (e : Env) (s : State) (m : MethodId) (args : Array Value) (below : List Frame) (meth : Method) (c : Code) (Q : State → Prop) (A : Nat → Prop) (dC : Nat → ClassId) (dI : Nat → Nat → Nat) (a : Nat → Nat) (ac : Nat → ClassId) (g : Int32 → Int32 → Int32 → Int32 → (St × (St × (St))) → Option (Int32 × (St × (St × (St))))) (r : Int32 × (St × (St × (St)))) : Prop := ∀ (v0 : Int32) (v1 : Int32) (v2 : Int32) (v3 : Int32) (s0 : St × (St × (St))) (H : Heap) (locs : List Loc) (ls : Array Slot), g v0 v1 v2 v3 s0 = some r → va_P (dC, dI) vwCl (dw_X4 a ac s0) H → va_D A (dw_X4 a ac s0) → va_S A s.heap H locs → lv_has ls 6 [(0, .ref (a 0)), (1, .int v0), (2, .int v1), (3, .int v2), (4, .int v3)] → W p l e (headSpec ow_dm_X4_workWithRegister ({ frames := 3, cells := 0, slots := 0, locals := 64 })).room s m args below meth c H locs 0 0 Q (F0 m 0 ls [])
set_option maxHeartbeats 40000000 in
set_option maxRecDepth 100000 in
theorem db_X4_workWithRegister_76 {p : Program} {l : Launch} {e : Env} {s : State} {m : MethodId} {args : Array Value} {below : List Frame} {meth : Method} {c : Code} {Q : State → Prop} {A : Nat → Prop} {dC : Nat → ClassId} {dI : Nat → Nat → Nat} {a : Nat → Nat} {ac : Nat → ClassId} {n : Nat} {r : Int32 × (St × (St × (St)))} (C : nd_C p l s m args c A (dC, dI) cX4_workWithRegister 6 RX4 ow_dm_X4_workWithRegister (dk_X4 ac)) (K : nd_Ki p l e (headSpec ow_dm_X4_workWithRegister ({ frames := 3, cells := 0, slots := 0, locals := 64 })).room s m args below meth c Q A (dC, dI) cX4_workWithRegister .int (St × (St × (St))) (dw_X4 a ac) r) : dj_X4_workWithRegister_76 p l e s m args below meth c Q A dC dI a ac (df_X4_workWithRegister_76 n) r := by
  obtain ⟨hlt, hx, hb, hml, hown, hts, hN, hA, hK⟩ := id C
  intro s0 H locs ls h hP hD hS hl
  unfold df_X4_workWithRegister_76 at h
  refine lv_iconst (v := 4) hx hb dX4_workWithRegister_76 (by decide) ?_
  exact K _ _ _ _ _ _ dX4_workWithRegister_77 rfl (Option.some.inj h).symm hP hD hS
set_option maxHeartbeats 40000000 in
set_option maxRecDepth 100000 in
theorem db_X4_workWithRegister_78 {p : Program} {l : Launch} {e : Env} {s : State} {m : MethodId} {args : Array Value} {below : List Frame} {meth : Method} {c : Code} {Q : State → Prop} {A : Nat → Prop} {dC : Nat → ClassId} {dI : Nat → Nat → Nat} {a : Nat → Nat} {ac : Nat → ClassId} {n : Nat} {r : Int32 × (St × (St × (St)))} (C : nd_C p l s m args c A (dC, dI) cX4_workWithRegister 6 RX4 ow_dm_X4_workWithRegister (dk_X4 ac)) (K : nd_Ki p l e (headSpec ow_dm_X4_workWithRegister ({ frames := 3, cells := 0, slots := 0, locals := 64 })).room s m args below meth c Q A (dC, dI) cX4_workWithRegister .int (St × (St × (St))) (dw_X4 a ac) r) : dj_X4_workWithRegister_78 p l e s m args below meth c Q A dC dI a ac (df_X4_workWithRegister_78 n) r := by
  obtain ⟨hlt, hx, hb, hml, hown, hts, hN, hA, hK⟩ := id C
  intro s0 H locs ls h hP hD hS hl
  unfold df_X4_workWithRegister_78 at h
  refine lv_iconst (v := 0) hx hb dX4_workWithRegister_78 (by decide) ?_
  exact K _ _ _ _ _ _ dX4_workWithRegister_79 rfl (Option.some.inj h).symm hP hD hS
set_option maxHeartbeats 40000000 in
set_option maxRecDepth 100000 in
theorem db_X4_workWithRegister_49 {p : Program} {l : Launch} {e : Env} {s : State} {m : MethodId} {args : Array Value} {below : List Frame} {meth : Method} {c : Code} {Q : State → Prop} {A : Nat → Prop} {dC : Nat → ClassId} {dI : Nat → Nat → Nat} {a : Nat → Nat} {ac : Nat → ClassId} {n : Nat} {r : Int32 × (St × (St × (St)))} (C : nd_C p l s m args c A (dC, dI) cX4_workWithRegister 6 RX4 ow_dm_X4_workWithRegister (dk_X4 ac)) (K : nd_Ki p l e (headSpec ow_dm_X4_workWithRegister ({ frames := 3, cells := 0, slots := 0, locals := 64 })).room s m args below meth c Q A (dC, dI) cX4_workWithRegister .int (St × (St × (St))) (dw_X4 a ac) r) : dj_X4_workWithRegister_49 p l e s m args below meth c Q A dC dI a ac (df_X4_workWithRegister_49 n) r := by
  obtain ⟨hlt, hx, hb, hml, hown, hts, hN, hA, hK⟩ := id C
  intro x1 x2 x3 x4 x5 s0 H locs ls h hP hD hS hl
  unfold df_X4_workWithRegister_49 at h
  refine lv_iload hx hb dX4_workWithRegister_49 (lv_at hl 5 rfl) ?_
  refine lv_bipush (v := 32) hx hb dX4_workWithRegister_51 (by decide) ?_
  refine lv_icmp_ne (tgt := 76) hx hb dX4_workWithRegister_53 (by decide) (fun c4 => ?_) (fun c4 => ?_)
  · have h := nd_neg h c4
    exact (db_X4_workWithRegister_76 C K)  s0 _ _ _ h hP hD hS (lv_sub hl [] rfl)
  · have h := nd_pos h c4
    refine lv_iload_n hx hb dX4_workWithRegister_56 rfl (lv_at hl 2 rfl) ?_
    refine lv_iconst (v := 5) hx hb dX4_workWithRegister_57 (by decide) ?_
    refine lv_icmp_ne (tgt := 76) hx hb dX4_workWithRegister_58 (by decide) (fun c5 => ?_) (fun c5 => ?_)
    · have h := nd_neg h c5
      exact (db_X4_workWithRegister_76 C K)  s0 _ _ _ h hP hD hS (lv_sub hl [] rfl)
    · have h := nd_pos h c5
      refine lv_aload_n hx hb dX4_workWithRegister_61 rfl (lv_at hl 0 rfl) ?_
      refine lv_iload_n hx hb dX4_workWithRegister_62 rfl (lv_at hl 1 rfl) ?_
      refine lv_iload_n hx hb dX4_workWithRegister_63 rfl (lv_at hl 3 rfl) ?_
      refine lv_iload hx hb dX4_workWithRegister_64 (lv_at hl 4 rfl) ?_
      refine lv_bipush (v := 31) hx hb dX4_workWithRegister_66 (by decide) ?_
      refine lv_iand hx hb dX4_workWithRegister_68 ?_
      refine lv_ishr hx hb dX4_workWithRegister_69 ?_
      obtain ⟨s7, hq, h⟩ := nd_b1_e h
      have hPc := hP
      have hDc := hD
      have hKc := hK
      have hFc := nd_rs hD hS hA
      refine nd_cVv (As := [.int x1, .int ((x3 : Int32) >>> (((x4 &&& 31) : Int32) &&& 31))]) (rest := []) (w' := dw_X4 a ac s7) ⟨hx, hb, hml, hown, hts⟩ (fun sz => dm_X4_set l hlt dC dI a ac n (x1) (((x3 : Int32) >>> (((x4 &&& 31) : Int32) &&& 31))) s0 hq sz) (cwV 2 hts gi_dm_X4_workWithRegister_0 rfl rfl rfl (by decide +kernel) ⟨Nat.le_of_ble_eq_true rfl, Nat.le_of_ble_eq_true rfl⟩) hPc hDc hKc hS hA hN (va_recv hKc hPc (ci := 5) (q0 := 0) rfl rfl) rfl hl.1 rfl (Nat.le_of_ble_eq_true rfl) dX4_workWithRegister_70 (fun H locs hP1 hD1 hk1 hS => ?_)
      have hP := hP1
      have hD := hD1.weaken (fun k q _ h => hFc q.1 h)
      refine lv_goto (tgt := 78) hx hb dX4_workWithRegister_73 (by decide) ?_
      exact (db_X4_workWithRegister_78 C K)  s7 _ _ _ h hP hD hS (lv_sub hl [] rfl)
set_option maxHeartbeats 40000000 in
set_option maxRecDepth 100000 in
theorem db_X4_workWithRegister_0 {p : Program} {l : Launch} {e : Env} {s : State} {m : MethodId} {args : Array Value} {below : List Frame} {meth : Method} {c : Code} {Q : State → Prop} {A : Nat → Prop} {dC : Nat → ClassId} {dI : Nat → Nat → Nat} {a : Nat → Nat} {ac : Nat → ClassId} {n : Nat} {r : Int32 × (St × (St × (St)))} (C : nd_C p l s m args c A (dC, dI) cX4_workWithRegister 6 RX4 ow_dm_X4_workWithRegister (dk_X4 ac)) (K : nd_Ki p l e (headSpec ow_dm_X4_workWithRegister ({ frames := 3, cells := 0, slots := 0, locals := 64 })).room s m args below meth c Q A (dC, dI) cX4_workWithRegister .int (St × (St × (St))) (dw_X4 a ac) r) : dj_X4_workWithRegister_0 p l e s m args below meth c Q A dC dI a ac (df_X4_workWithRegister_0 n) r := by
  obtain ⟨hlt, hx, hb, hml, hown, hts, hN, hA, hK⟩ := id C
  intro v0 v1 v2 v3 s0 H locs ls h hP hD hS hl
  unfold df_X4_workWithRegister_0 at h
  refine lv_iload_n hx hb dX4_workWithRegister_0 rfl (lv_at hl 1 rfl) ?_
  refine lv_bipush (v := 25) hx hb dX4_workWithRegister_1 (by decide) ?_
  refine lv_iushr hx hb dX4_workWithRegister_3 rfl ?_
  refine lv_topi (fun z1 ez1 => ?_)
  have h := nd_at h ez1
  refine lv_istore (lv' := [(5, .int z1), (0, .ref (a 0)), (1, .int v0), (2, .int v1), (3, .int v2), (4, .int v3)]) hx hb dX4_workWithRegister_4 hl (by decide) rfl (fun ls hl => ?_)
  refine lv_iload hx hb dX4_workWithRegister_6 (lv_at hl 0 rfl) ?_
  refine lv_if_ne (tgt := 26) hx hb dX4_workWithRegister_8 (by decide) (fun c2 => ?_) (fun c2 => ?_)
  · have h := nd_neg h c2
    refine lv_iload hx hb dX4_workWithRegister_26 (lv_at hl 0 rfl) ?_
    refine lv_bipush (v := 32) hx hb dX4_workWithRegister_28 (by decide) ?_
    refine lv_icmp_ne (tgt := 49) hx hb dX4_workWithRegister_30 (by decide) (fun c3 => ?_) (fun c3 => ?_)
    · have h := nd_neg h c3
      exact (db_X4_workWithRegister_49 C K) (v0) (v1) (v2) (v3) (z1) s0 _ _ _ h hP hD hS (lv_sub hl [1, 2, 3, 4, 5, 0] rfl)
    · have h := nd_pos h c3
      refine lv_iload_n hx hb dX4_workWithRegister_33 rfl (lv_at hl 3 rfl) ?_
      refine lv_if_ne (tgt := 49) hx hb dX4_workWithRegister_34 (by decide) (fun c9 => ?_) (fun c9 => ?_)
      · have h := nd_neg h c9
        exact (db_X4_workWithRegister_49 C K) (v0) (v1) (v2) (v3) (z1) s0 _ _ _ h hP hD hS (lv_sub hl [1, 2, 3, 4, 5, 0] rfl)
      · have h := nd_pos h c9
        refine lv_aload_n hx hb dX4_workWithRegister_37 rfl (lv_at hl 1 rfl) ?_
        refine lv_iload_n hx hb dX4_workWithRegister_38 rfl (lv_at hl 2 rfl) ?_
        refine lv_iload_n hx hb dX4_workWithRegister_39 rfl (lv_at hl 4 rfl) ?_
        refine lv_iload hx hb dX4_workWithRegister_40 (lv_at hl 5 rfl) ?_
        refine lv_isub hx hb dX4_workWithRegister_42 ?_
        obtain ⟨s11, hq, h⟩ := nd_b1_e h
        have hPc := hP
        have hDc := hD
        have hKc := hK
        have hFc := nd_rs hD hS hA
        refine nd_cVv (As := [.int v0, .int (v2 - v3)]) (rest := []) (w' := dw_X4 a ac s11) ⟨hx, hb, hml, hown, hts⟩ (fun sz => dm_X4_set l hlt dC dI a ac n (v0) ((v2 - v3)) s0 hq sz) (cwV 2 hts gi_dm_X4_workWithRegister_0 rfl rfl rfl (by decide +kernel) ⟨Nat.le_of_ble_eq_true rfl, Nat.le_of_ble_eq_true rfl⟩) hPc hDc hKc hS hA hN (va_recv hKc hPc (ci := 5) (q0 := 0) rfl rfl) rfl hl.1 rfl (Nat.le_of_ble_eq_true rfl) dX4_workWithRegister_43 (fun H locs hP1 hD1 hk1 hS => ?_)
        have hP := hP1
        have hD := hD1.weaken (fun k q _ h => hFc q.1 h)
        refine lv_goto (tgt := 78) hx hb dX4_workWithRegister_46 (by decide) ?_
        exact (db_X4_workWithRegister_78 C K)  s11 _ _ _ h hP hD hS (lv_sub hl [] rfl)
  · have h := nd_pos h c2
    refine lv_aload_n hx hb dX4_workWithRegister_11 rfl (lv_at hl 1 rfl) ?_
    refine lv_iload_n hx hb dX4_workWithRegister_12 rfl (lv_at hl 2 rfl) ?_
    refine lv_iload_n hx hb dX4_workWithRegister_13 rfl (lv_at hl 3 rfl) ?_
    refine lv_iload_n hx hb dX4_workWithRegister_14 rfl (lv_at hl 4 rfl) ?_
    refine lv_iload hx hb dX4_workWithRegister_15 (lv_at hl 5 rfl) ?_
    obtain ⟨q13, s14, hq, h⟩ := nd_b2_e h
    have hPc : va_P (dC, dI) vwCl (dw_P a ac ()) H := nd_p0
    have hDc : va_D A (dw_P a ac ()) := nd_d0
    have hKc : va_K (dC, dI) vwCl (dk_P ac) s := nd_y0 hK
    have hFc : ∀ q, va_A (dw_P a ac ()) H.size q → A q := nd_r0 hS hA
    refine nd_cSi (As := [.int v1, .int v2, .int v3]) (rest := [.int v0, .ref (a 0)]) (q := q13) (w' := dw_P a ac s14) ⟨hx, hb, hml, hown, hts⟩ (fun sz => dm_X4_reckoned l hlt dC dI a ac n (v1) (v2) (v3) () hq sz) (cwS 3 hts gi_dm_X4_workWithRegister_1 rfl rfl rfl (by decide +kernel) ⟨Nat.le_of_ble_eq_true rfl, Nat.le_of_ble_eq_true rfl⟩) hPc hDc hKc hS hA hN rfl hl.1 rfl (Nat.le_of_ble_eq_true rfl) dX4_workWithRegister_17 (fun H locs hP1 hD1 hk1 hS => ?_)
    have hP := nd_n0 hP hk1
    obtain ⟨s17, hq, h⟩ := nd_b1_e h
    have hPc := hP
    have hDc := hD
    have hKc := hK
    have hFc := nd_rs hD hS hA
    refine nd_cVv (As := [.int v0, .int q13]) (rest := []) (w' := dw_X4 a ac s17) ⟨hx, hb, hml, hown, hts⟩ (fun sz => dm_X4_set l hlt dC dI a ac n (v0) (q13) s0 hq sz) (cwV 2 hts gi_dm_X4_workWithRegister_0 rfl rfl rfl (by decide +kernel) ⟨Nat.le_of_ble_eq_true rfl, Nat.le_of_ble_eq_true rfl⟩) hPc hDc hKc hS hA hN (va_recv hKc hPc (ci := 5) (q0 := 0) rfl rfl) rfl hl.1 rfl (Nat.le_of_ble_eq_true rfl) dX4_workWithRegister_20 (fun H locs hP1 hD1 hk1 hS => ?_)
    have hP := hP1
    have hD := hD1.weaken (fun k q _ h => hFc q.1 h)
    refine lv_goto (tgt := 78) hx hb dX4_workWithRegister_23 (by decide) ?_
    exact (db_X4_workWithRegister_78 C K)  s17 _ _ _ h hP hD hS (lv_sub hl [] rfl)
set_option maxHeartbeats 40000000 in
set_option maxRecDepth 100000 in
theorem dm_X4_workWithRegister (l : Launch) (hlt : l.stackTraces = false) (dC : Nat → ClassId) (dI : Nat → Nat → Nat) (a : Nat → Nat) (ac : Nat → ClassId) (n : Nat) (v0 : Int32) (v1 : Int32) (v2 : Int32) (v3 : Int32) (s0 : St × (St × (St))) {r : Int32 × (St × (St × (St)))} (h : df_X4_workWithRegister n v0 v1 v2 v3 s0 = some r) (sz : Nat) : Met l yX4_workWithRegister ow_dm_X4_workWithRegister ({ frames := 3, cells := 0, slots := 0, locals := 64 }) (va_Pc [.ref (a 0), .int v0, .int v1, .int v2, .int v3] (fun U => U.heap.size = sz ∧ va_P (dC, dI) vwCl (dw_X4 a ac s0) U.heap ∧ va_K (dC, dI) vwCl (dk_X4 ac) U ∧ va_D (fun _ => True) (dw_X4 a ac s0) ∧ nv_E (va_A (dw_X4 a ac s0) sz) U)) (va_Qi (fun x _ => x = r.1) (fun (_ : Unit) t => va_P (dC, dI) vwCl (dw_X4 a ac r.2) t.heap ∧ va_K (dC, dI) vwCl (dk_X4 ac) t ∧ va_D (va_A (dw_X4 a ac s0) sz) (dw_X4 a ac r.2)) (va_A (dw_X4 a ac s0) sz)) 0 0 (va_A (dw_X4 a ac s0) sz) := by
  refine Met.ofW (cc := cX4_workWithRegister) (maxL := 6) (ret := (some .int)) (by decide) rfl ?_
  intro p e s m args below meth c s₁ B hml hv
  obtain ⟨rfl, hsz, hP, hK, hD0, hN⟩ := hv
  have hx := B.exec
  have hb := B.bytes
  have hr := B.returns
  have hts := atoms_spec (ws := ow_dm_X4_workWithRegister) B.pre
  have hown : s.vm.findClass RX4 = some m.cls := findClass_of_methodNamed B.named
  have hlocks := B.notSynchronized
  subst hsz
  have hD := hD0.self (sz := s.heap.size)
  generalize hAe : va_A (dw_X4 a ac s0) s.heap.size = A at hD hN ⊢
  have hA : ∀ q : Nat, s.heap.size ≤ q → A q := fun q h => by rw [← hAe]; exact Or.inr h
  have hl := lv_entry ([.ref (a 0), .int v0, .int v1, .int v2, .int v3]) (n := 6) (Nat.le_of_ble_eq_true rfl)
  rw [lg_entry_eq]
  generalize (lg_sl ([.ref (a 0), .int v0, .int v1, .int v2, .int v3]) ++ List.replicate (6 - (lg_sl ([.ref (a 0), .int v0, .int v1, .int v2, .int v3])).length) Slot.unset).toArray = ls at hl ⊢
  have hl : lv_has ls 6 [(0, .ref (a 0)), (1, .int v0), (2, .int v1), (3, .int v2), (4, .int v3)] := hl
  exact db_X4_workWithRegister_0 (dC := dC) (dI := dI) (a := a) (ac := ac) (n := n) (r := r) ⟨hlt, hx, hb, hml, hown, hts, hN, hA, hK⟩ (fun pc v τ H locs ls d z er hP hD hS => by subst er; exact W.zret (v := v) hx hb hr z (fun t ht hW => ⟨⟨v, (), rfl, rfl, by rw [ht]; exact hP, va_K.moved hW.alike hK, hD⟩, hS.F ht⟩) hS.2.2 d) v0 v1 v2 v3 s0 _ _ _ h hP hD va_S.rf (lv_sub hl [0, 1, 2, 3, 4] rfl)
def ow_dm_X4_multiply : List Cond := .code yX4_multiply cX4_multiply 10 (some .int) :: ([.constantLong RX4 116 (4294967295), .methodLink RX4 52 yX4_set, .instanceMethod yX4_set, .selects RX4 yX4_set yX4_set, .initialized RX4] ++ (ow_dm_X4_set ++ []))
theorem gd_dm_X4_multiply : ∀ w ∈ ow_dm_X4_multiply, (w.onTables && w.keeps) = true ∨ ∃ ty, w = Cond.arrayClass ty := List.forall_mem_cons.mpr ⟨good_of_word rfl, List.forall_mem_append.mpr ⟨fun w h => good_of_word (List.all_eq_true.mp (by decide +kernel) w h), List.forall_mem_append.mpr ⟨gd_dm_X4_set, fun _ h => nomatch h⟩⟩⟩
theorem gi_dm_X4_multiply_0 : GoodIn ow_dm_X4_multiply (wsV RX4 52 RX4 yX4_set ow_dm_X4_set) := goodIn_app (goodIn_of _ (by decide +kernel)) (fun w h => ⟨List.mem_cons_of_mem _ (List.mem_append_right _ (List.mem_append_left _ h)), gd_dm_X4_set w h⟩)
def dj_X4_multiply_185 (p : Program) (l : Launch) (e : Env) (s : State) (m : MethodId) (args : Array Value) (below : List Frame) (meth : Method) (c : Code) (Q : State → Prop) (A : Nat → Prop) (dC : Nat → ClassId) (dI : Nat → Nat → Nat) (a : Nat → Nat) (ac : Nat → ClassId) (g : Int32 → Int32 → (St × (St × (St))) → Option (Int32 × (St × (St × (St))))) (r : Int32 × (St × (St × (St)))) : Prop := ∀ (x1 : Int32) (x9 : Int32) (s0 : St × (St × (St))) (H : Heap) (locs : List Loc) (ls : Array Slot), g x1 x9 s0 = some r → va_P (dC, dI) vwCl (dw_X4 a ac s0) H → va_D A (dw_X4 a ac s0) → va_S A s.heap H locs → lv_has ls 10 [(0, .ref (a 0)), (1, .int x1), (9, .int x9)] → W p l e (headSpec ow_dm_X4_multiply ({ frames := 1, cells := 0, slots := 0, locals := 23 })).room s m args below meth c H locs 0 0 Q (F0 m 185 ls [])
def dj_X4_multiply_125 (p : Program) (l : Launch) (e : Env) (s : State) (m : MethodId) (args : Array Value) (below : List Frame) (meth : Method) (c : Code) (Q : State → Prop) (A : Nat → Prop) (dC : Nat → ClassId) (dI : Nat → Nat → Nat) (a : Nat → Nat) (ac : Nat → ClassId) (g : Int32 → Int32 → (St × (St × (St))) → Option (Int32 × (St × (St × (St))))) (r : Int32 × (St × (St × (St)))) : Prop := ∀ (x1 : Int32) (y0 : Int32) (s0 : St × (St × (St))) (H : Heap) (locs : List Loc) (ls : Array Slot), g x1 y0 s0 = some r → va_P (dC, dI) vwCl (dw_X4 a ac s0) H → va_D A (dw_X4 a ac s0) → va_S A s.heap H locs → lv_has ls 10 [(0, .ref (a 0)), (1, .int x1)] → W p l e (headSpec ow_dm_X4_multiply ({ frames := 1, cells := 0, slots := 0, locals := 23 })).room s m args below meth c H locs 0 0 Q (F0 m 125 ls [.int y0])
def dj_X4_multiply_145 (p : Program) (l : Launch) (e : Env) (s : State) (m : MethodId) (args : Array Value) (below : List Frame) (meth : Method) (c : Code) (Q : State → Prop) (A : Nat → Prop) (dC : Nat → ClassId) (dI : Nat → Nat → Nat) (a : Nat → Nat) (ac : Nat → ClassId) (g : Int32 → Int32 → (St × (St × (St))) → Option (Int32 × (St × (St × (St))))) (r : Int32 × (St × (St × (St)))) : Prop := ∀ (x1 : Int32) (y0 : Int32) (s0 : St × (St × (St))) (H : Heap) (locs : List Loc) (ls : Array Slot), g x1 y0 s0 = some r → va_P (dC, dI) vwCl (dw_X4 a ac s0) H → va_D A (dw_X4 a ac s0) → va_S A s.heap H locs → lv_has ls 10 [(0, .ref (a 0)), (1, .int x1)] → W p l e (headSpec ow_dm_X4_multiply ({ frames := 1, cells := 0, slots := 0, locals := 23 })).room s m args below meth c H locs 0 0 Q (F0 m 145 ls [.int y0])
def dj_X4_multiply_163 (p : Program) (l : Launch) (e : Env) (s : State) (m : MethodId) (args : Array Value) (below : List Frame) (meth : Method) (c : Code) (Q : State → Prop) (A : Nat → Prop) (dC : Nat → ClassId) (dI : Nat → Nat → Nat) (a : Nat → Nat) (ac : Nat → ClassId) (g : Int32 → Int32 → (St × (St × (St))) → Option (Int32 × (St × (St × (St))))) (r : Int32 × (St × (St × (St)))) : Prop := ∀ (x1 : Int32) (y0 : Int32) (s0 : St × (St × (St))) (H : Heap) (locs : List Loc) (ls : Array Slot), g x1 y0 s0 = some r → va_P (dC, dI) vwCl (dw_X4 a ac s0) H → va_D A (dw_X4 a ac s0) → va_S A s.heap H locs → lv_has ls 10 [(0, .ref (a 0)), (1, .int x1)] → W p l e (headSpec ow_dm_X4_multiply ({ frames := 1, cells := 0, slots := 0, locals := 23 })).room s m args below meth c H locs 0 0 Q (F0 m 163 ls [.int y0])
def dj_X4_multiply_183 (p : Program) (l : Launch) (e : Env) (s : State) (m : MethodId) (args : Array Value) (below : List Frame) (meth : Method) (c : Code) (Q : State → Prop) (A : Nat → Prop) (dC : Nat → ClassId) (dI : Nat → Nat → Nat) (a : Nat → Nat) (ac : Nat → ClassId) (g : Int32 → Int32 → (St × (St × (St))) → Option (Int32 × (St × (St × (St))))) (r : Int32 × (St × (St × (St)))) : Prop := ∀ (x1 : Int32) (y0 : Int32) (s0 : St × (St × (St))) (H : Heap) (locs : List Loc) (ls : Array Slot), g x1 y0 s0 = some r → va_P (dC, dI) vwCl (dw_X4 a ac s0) H → va_D A (dw_X4 a ac s0) → va_S A s.heap H locs → lv_has ls 10 [(0, .ref (a 0)), (1, .int x1)] → W p l e (headSpec ow_dm_X4_multiply ({ frames := 1, cells := 0, slots := 0, locals := 23 })).room s m args below meth c H locs 0 0 Q (F0 m 183 ls [.int y0])
def dj_X4_multiply_0 (p : Program) (l : Launch) (e : Env) (s : State) (m : MethodId) (args : Array Value) (below : List Frame) (meth : Method) (c : Code) (Q : State → Prop) (A : Nat → Prop) (dC : Nat → ClassId) (dI : Nat → Nat → Nat) (a : Nat → Nat) (ac : Nat → ClassId) (g : Int32 → Int32 → Int32 → Int32 → (St × (St × (St))) → Option (Int32 × (St × (St × (St))))) (r : Int32 × (St × (St × (St)))) : Prop := ∀ (v0 : Int32) (v1 : Int32) (v2 : Int32) (v3 : Int32) (s0 : St × (St × (St))) (H : Heap) (locs : List Loc) (ls : Array Slot), g v0 v1 v2 v3 s0 = some r → va_P (dC, dI) vwCl (dw_X4 a ac s0) H → va_D A (dw_X4 a ac s0) → va_S A s.heap H locs → lv_has ls 10 [(0, .ref (a 0)), (1, .int v0), (2, .int v1), (3, .int v2), (4, .int v3)] → W p l e (headSpec ow_dm_X4_multiply ({ frames := 1, cells := 0, slots := 0, locals := 23 })).room s m args below meth c H locs 0 0 Q (F0 m 0 ls [])
set_option maxHeartbeats 40000000 in
set_option maxRecDepth 100000 in
theorem db_X4_multiply_185 {p : Program} {l : Launch} {e : Env} {s : State} {m : MethodId} {args : Array Value} {below : List Frame} {meth : Method} {c : Code} {Q : State → Prop} {A : Nat → Prop} {dC : Nat → ClassId} {dI : Nat → Nat → Nat} {a : Nat → Nat} {ac : Nat → ClassId} {n : Nat} {r : Int32 × (St × (St × (St)))} (C : nd_C p l s m args c A (dC, dI) cX4_multiply 10 RX4 ow_dm_X4_multiply (dk_X4 ac)) (K : nd_Ki p l e (headSpec ow_dm_X4_multiply ({ frames := 1, cells := 0, slots := 0, locals := 23 })).room s m args below meth c Q A (dC, dI) cX4_multiply .int (St × (St × (St))) (dw_X4 a ac) r) : dj_X4_multiply_185 p l e s m args below meth c Q A dC dI a ac (df_X4_multiply_185 n) r := by
  obtain ⟨hlt, hx, hb, hml, hown, hts, hN, hA, hK⟩ := id C
  intro x1 x9 s0 H locs ls h hP hD hS hl
  unfold df_X4_multiply_185 at h
  refine lv_aload_n hx hb dX4_multiply_185 rfl (lv_at hl 0 rfl) ?_
  refine lv_iload_n hx hb dX4_multiply_186 rfl (lv_at hl 1 rfl) ?_
  refine lv_iload hx hb dX4_multiply_187 (lv_at hl 2 rfl) ?_
  obtain ⟨s6, hq, h⟩ := nd_b1_e h
  have hPc := hP
  have hDc := hD
  have hKc := hK
  have hFc := nd_rs hD hS hA
  refine nd_cVv (As := [.int x1, .int x9]) (rest := []) (w' := dw_X4 a ac s6) ⟨hx, hb, hml, hown, hts⟩ (fun sz => dm_X4_set l hlt dC dI a ac n (x1) (x9) s0 hq sz) (cwV 2 hts gi_dm_X4_multiply_0 rfl rfl rfl (by decide +kernel) ⟨Nat.le_of_ble_eq_true rfl, Nat.le_of_ble_eq_true rfl⟩) hPc hDc hKc hS hA hN (va_recv hKc hPc (ci := 5) (q0 := 0) rfl rfl) rfl hl.1 rfl (Nat.le_of_ble_eq_true rfl) dX4_multiply_189 (fun H locs hP1 hD1 hk1 hS => ?_)
  have hP := hP1
  have hD := hD1.weaken (fun k q _ h => hFc q.1 h)
  refine lv_iconst (v := 0) hx hb dX4_multiply_192 (by decide) ?_
  exact K _ _ _ _ _ _ dX4_multiply_193 rfl (Option.some.inj h).symm hP hD hS
set_option maxHeartbeats 40000000 in
set_option maxRecDepth 100000 in
theorem db_X4_multiply_125 {p : Program} {l : Launch} {e : Env} {s : State} {m : MethodId} {args : Array Value} {below : List Frame} {meth : Method} {c : Code} {Q : State → Prop} {A : Nat → Prop} {dC : Nat → ClassId} {dI : Nat → Nat → Nat} {a : Nat → Nat} {ac : Nat → ClassId} {n : Nat} {r : Int32 × (St × (St × (St)))} (C : nd_C p l s m args c A (dC, dI) cX4_multiply 10 RX4 ow_dm_X4_multiply (dk_X4 ac)) (K : nd_Ki p l e (headSpec ow_dm_X4_multiply ({ frames := 1, cells := 0, slots := 0, locals := 23 })).room s m args below meth c Q A (dC, dI) cX4_multiply .int (St × (St × (St))) (dw_X4 a ac) r) : dj_X4_multiply_125 p l e s m args below meth c Q A dC dI a ac (df_X4_multiply_125 n) r := by
  obtain ⟨hlt, hx, hb, hml, hown, hts, hN, hA, hK⟩ := id C
  intro x1 y0 s0 H locs ls h hP hD hS hl
  unfold df_X4_multiply_125 at h
  refine lv_istore (lv' := [(9, .int y0), (0, .ref (a 0)), (1, .int x1)]) hx hb dX4_multiply_125 hl (by decide) rfl (fun ls hl => ?_)
  refine lv_goto (tgt := 185) hx hb dX4_multiply_127 (by decide) ?_
  exact (db_X4_multiply_185 C K) (x1) (y0) s0 _ _ _ h hP hD hS (lv_sub hl [1, 2, 0] rfl)
set_option maxHeartbeats 40000000 in
set_option maxRecDepth 100000 in
theorem db_X4_multiply_145 {p : Program} {l : Launch} {e : Env} {s : State} {m : MethodId} {args : Array Value} {below : List Frame} {meth : Method} {c : Code} {Q : State → Prop} {A : Nat → Prop} {dC : Nat → ClassId} {dI : Nat → Nat → Nat} {a : Nat → Nat} {ac : Nat → ClassId} {n : Nat} {r : Int32 × (St × (St × (St)))} (C : nd_C p l s m args c A (dC, dI) cX4_multiply 10 RX4 ow_dm_X4_multiply (dk_X4 ac)) (K : nd_Ki p l e (headSpec ow_dm_X4_multiply ({ frames := 1, cells := 0, slots := 0, locals := 23 })).room s m args below meth c Q A (dC, dI) cX4_multiply .int (St × (St × (St))) (dw_X4 a ac) r) : dj_X4_multiply_145 p l e s m args below meth c Q A dC dI a ac (df_X4_multiply_145 n) r := by
  obtain ⟨hlt, hx, hb, hml, hown, hts, hN, hA, hK⟩ := id C
  intro x1 y0 s0 H locs ls h hP hD hS hl
  unfold df_X4_multiply_145 at h
  refine lv_istore (lv' := [(9, .int y0), (0, .ref (a 0)), (1, .int x1)]) hx hb dX4_multiply_145 hl (by decide) rfl (fun ls hl => ?_)
  refine lv_goto (tgt := 185) hx hb dX4_multiply_147 (by decide) ?_
  exact (db_X4_multiply_185 C K) (x1) (y0) s0 _ _ _ h hP hD hS (lv_sub hl [1, 2, 0] rfl)
set_option maxHeartbeats 40000000 in
set_option maxRecDepth 100000 in
theorem db_X4_multiply_163 {p : Program} {l : Launch} {e : Env} {s : State} {m : MethodId} {args : Array Value} {below : List Frame} {meth : Method} {c : Code} {Q : State → Prop} {A : Nat → Prop} {dC : Nat → ClassId} {dI : Nat → Nat → Nat} {a : Nat → Nat} {ac : Nat → ClassId} {n : Nat} {r : Int32 × (St × (St × (St)))} (C : nd_C p l s m args c A (dC, dI) cX4_multiply 10 RX4 ow_dm_X4_multiply (dk_X4 ac)) (K : nd_Ki p l e (headSpec ow_dm_X4_multiply ({ frames := 1, cells := 0, slots := 0, locals := 23 })).room s m args below meth c Q A (dC, dI) cX4_multiply .int (St × (St × (St))) (dw_X4 a ac) r) : dj_X4_multiply_163 p l e s m args below meth c Q A dC dI a ac (df_X4_multiply_163 n) r := by
  obtain ⟨hlt, hx, hb, hml, hown, hts, hN, hA, hK⟩ := id C
  intro x1 y0 s0 H locs ls h hP hD hS hl
  unfold df_X4_multiply_163 at h
  refine lv_istore (lv' := [(9, .int y0), (0, .ref (a 0)), (1, .int x1)]) hx hb dX4_multiply_163 hl (by decide) rfl (fun ls hl => ?_)
  refine lv_goto (tgt := 185) hx hb dX4_multiply_165 (by decide) ?_
  exact (db_X4_multiply_185 C K) (x1) (y0) s0 _ _ _ h hP hD hS (lv_sub hl [1, 2, 0] rfl)
set_option maxHeartbeats 40000000 in
set_option maxRecDepth 100000 in
theorem db_X4_multiply_183 {p : Program} {l : Launch} {e : Env} {s : State} {m : MethodId} {args : Array Value} {below : List Frame} {meth : Method} {c : Code} {Q : State → Prop} {A : Nat → Prop} {dC : Nat → ClassId} {dI : Nat → Nat → Nat} {a : Nat → Nat} {ac : Nat → ClassId} {n : Nat} {r : Int32 × (St × (St × (St)))} (C : nd_C p l s m args c A (dC, dI) cX4_multiply 10 RX4 ow_dm_X4_multiply (dk_X4 ac)) (K : nd_Ki p l e (headSpec ow_dm_X4_multiply ({ frames := 1, cells := 0, slots := 0, locals := 23 })).room s m args below meth c Q A (dC, dI) cX4_multiply .int (St × (St × (St))) (dw_X4 a ac) r) : dj_X4_multiply_183 p l e s m args below meth c Q A dC dI a ac (df_X4_multiply_183 n) r := by
  obtain ⟨hlt, hx, hb, hml, hown, hts, hN, hA, hK⟩ := id C
  intro x1 y0 s0 H locs ls h hP hD hS hl
  unfold df_X4_multiply_183 at h
  refine lv_istore (lv' := [(9, .int y0), (0, .ref (a 0)), (1, .int x1)]) hx hb dX4_multiply_183 hl (by decide) rfl (fun ls hl => ?_)
  exact (db_X4_multiply_185 C K) (x1) (y0) s0 _ _ _ h hP hD hS (lv_sub hl [1, 2, 0] rfl)
set_option maxHeartbeats 40000000 in
set_option maxRecDepth 100000 in
theorem db_X4_multiply_0 {p : Program} {l : Launch} {e : Env} {s : State} {m : MethodId} {args : Array Value} {below : List Frame} {meth : Method} {c : Code} {Q : State → Prop} {A : Nat → Prop} {dC : Nat → ClassId} {dI : Nat → Nat → Nat} {a : Nat → Nat} {ac : Nat → ClassId} {n : Nat} {r : Int32 × (St × (St × (St)))} (C : nd_C p l s m args c A (dC, dI) cX4_multiply 10 RX4 ow_dm_X4_multiply (dk_X4 ac)) (K : nd_Ki p l e (headSpec ow_dm_X4_multiply ({ frames := 1, cells := 0, slots := 0, locals := 23 })).room s m args below meth c Q A (dC, dI) cX4_multiply .int (St × (St × (St))) (dw_X4 a ac) r) : dj_X4_multiply_0 p l e s m args below meth c Q A dC dI a ac (df_X4_multiply_0 n) r := by
  obtain ⟨hlt, hx, hb, hml, hown, hts, hN, hA, hK⟩ := id C
  intro v0 v1 v2 v3 s0 H locs ls h hP hD hS hl
  unfold df_X4_multiply_0 at h
  refine lv_iload_n hx hb dX4_multiply_0 rfl (lv_at hl 3 rfl) ?_
  refine lv_i2l hx hb dX4_multiply_1 rfl ?_
  refine lv_ldc2 hx hb hown (hts (.constantLong RX4 116 (4294967295)) (List.mem_of_getElem? (i := 1) rfl)) dX4_multiply_2 ?_
  refine lv_land hx hb dX4_multiply_5 ?_
  refine lv_topl (fun z1 ez1 => ?_)
  have h := nd_at h ez1
  refine lv_lstore (lv' := [(5, .long z1), (0, .ref (a 0)), (1, .int v0), (2, .int v1), (3, .int v2), (4, .int v3)]) hx hb dX4_multiply_6 hl (by decide) rfl (fun ls hl => ?_)
  refine lv_iload hx hb dX4_multiply_8 (lv_at hl 5 rfl) ?_
  refine lv_i2l hx hb dX4_multiply_10 rfl ?_
  refine lv_ldc2 hx hb hown (hts (.constantLong RX4 116 (4294967295)) (List.mem_of_getElem? (i := 1) rfl)) dX4_multiply_11 ?_
  refine lv_land hx hb dX4_multiply_14 ?_
  refine lv_topl (fun z2 ez2 => ?_)
  have h := nd_at h ez2
  refine lv_lstore (lv' := [(7, .long z2), (5, .long z1), (0, .ref (a 0)), (1, .int v0), (2, .int v1), (3, .int v2), (4, .int v3)]) hx hb dX4_multiply_15 hl (by decide) rfl (fun ls hl => ?_)
  refine lv_iload_n hx hb dX4_multiply_17 rfl (lv_at hl 4 rfl) ?_
  by_cases c3 : v1 = 0
  · have h := nd_pos h c3
    refine lv_tableIn (off := 42) (tgt := 60) hx hb dX4_multiply_18 (by rw [c3]; decide) (by rw [c3]; decide) (by rw [c3]; decide) (by decide) ?_
    refine lv_iload_n hx hb dX4_multiply_60 rfl (lv_at hl 5 rfl) ?_
    refine lv_iload hx hb dX4_multiply_61 (lv_at hl 6 rfl) ?_
    refine lv_imul hx hb dX4_multiply_63 ?_
    refine lv_topi (fun z4 ez4 => ?_)
    have h := nd_at h ez4
    refine lv_istore (lv' := [(9, .int z4), (7, .long z2), (5, .long z1), (0, .ref (a 0)), (1, .int v0), (2, .int v1), (3, .int v2), (4, .int v3)]) hx hb dX4_multiply_64 hl (by decide) rfl (fun ls hl => ?_)
    refine lv_goto (tgt := 185) hx hb dX4_multiply_66 (by decide) ?_
    exact (db_X4_multiply_185 C K) (v0) (z4) s0 _ _ _ h hP hD hS (lv_sub hl [3, 4, 0] rfl)
  have h := nd_neg h c3
  by_cases c8 : v1 = 1
  · have h := nd_pos h c8
    refine lv_tableIn (off := 51) (tgt := 69) hx hb dX4_multiply_18 (by rw [c8]; decide) (by rw [c8]; decide) (by rw [c8]; decide) (by decide) ?_
    refine lv_iload_n hx hb dX4_multiply_69 rfl (lv_at hl 5 rfl) ?_
    refine lv_i2l hx hb dX4_multiply_70 rfl ?_
    refine lv_iload hx hb dX4_multiply_71 (lv_at hl 6 rfl) ?_
    refine lv_i2l hx hb dX4_multiply_73 rfl ?_
    refine lv_lmul hx hb dX4_multiply_74 ?_
    refine lv_bipush (v := 32) hx hb dX4_multiply_75 (by decide) ?_
    refine lv_lshr hx hb dX4_multiply_77 rfl ?_
    refine lv_l2i hx hb dX4_multiply_78 rfl ?_
    refine lv_topi (fun z9 ez9 => ?_)
    have h := nd_at h ez9
    refine lv_istore (lv' := [(9, .int z9), (7, .long z2), (5, .long z1), (0, .ref (a 0)), (1, .int v0), (2, .int v1), (3, .int v2), (4, .int v3)]) hx hb dX4_multiply_79 hl (by decide) rfl (fun ls hl => ?_)
    refine lv_goto (tgt := 185) hx hb dX4_multiply_81 (by decide) ?_
    exact (db_X4_multiply_185 C K) (v0) (z9) s0 _ _ _ h hP hD hS (lv_sub hl [3, 4, 0] rfl)
  have h := nd_neg h c8
  by_cases c10 : v1 = 2
  · have h := nd_pos h c10
    refine lv_tableIn (off := 66) (tgt := 84) hx hb dX4_multiply_18 (by rw [c10]; decide) (by rw [c10]; decide) (by rw [c10]; decide) (by decide) ?_
    refine lv_iload_n hx hb dX4_multiply_84 rfl (lv_at hl 5 rfl) ?_
    refine lv_i2l hx hb dX4_multiply_85 rfl ?_
    refine lv_lload hx hb dX4_multiply_86 (lv_at hl 0 rfl) ?_
    refine lv_lmul hx hb dX4_multiply_88 ?_
    refine lv_bipush (v := 32) hx hb dX4_multiply_89 (by decide) ?_
    refine lv_lshr hx hb dX4_multiply_91 rfl ?_
    refine lv_l2i hx hb dX4_multiply_92 rfl ?_
    refine lv_topi (fun z11 ez11 => ?_)
    have h := nd_at h ez11
    refine lv_istore (lv' := [(9, .int z11), (7, .long z2), (5, .long z1), (0, .ref (a 0)), (1, .int v0), (2, .int v1), (3, .int v2), (4, .int v3)]) hx hb dX4_multiply_93 hl (by decide) rfl (fun ls hl => ?_)
    refine lv_goto (tgt := 185) hx hb dX4_multiply_95 (by decide) ?_
    exact (db_X4_multiply_185 C K) (v0) (z11) s0 _ _ _ h hP hD hS (lv_sub hl [3, 4, 0] rfl)
  have h := nd_neg h c10
  by_cases c12 : v1 = 3
  · have h := nd_pos h c12
    refine lv_tableIn (off := 80) (tgt := 98) hx hb dX4_multiply_18 (by rw [c12]; decide) (by rw [c12]; decide) (by rw [c12]; decide) (by decide) ?_
    refine lv_lload hx hb dX4_multiply_98 (lv_at hl 1 rfl) ?_
    refine lv_lload hx hb dX4_multiply_100 (lv_at hl 0 rfl) ?_
    refine lv_lmul hx hb dX4_multiply_102 ?_
    refine lv_bipush (v := 32) hx hb dX4_multiply_103 (by decide) ?_
    refine lv_lushr hx hb dX4_multiply_105 rfl ?_
    refine lv_l2i hx hb dX4_multiply_106 rfl ?_
    refine lv_topi (fun z13 ez13 => ?_)
    have h := nd_at h ez13
    refine lv_istore (lv' := [(9, .int z13), (7, .long z2), (5, .long z1), (0, .ref (a 0)), (1, .int v0), (2, .int v1), (3, .int v2), (4, .int v3)]) hx hb dX4_multiply_107 hl (by decide) rfl (fun ls hl => ?_)
    refine lv_goto (tgt := 185) hx hb dX4_multiply_109 (by decide) ?_
    exact (db_X4_multiply_185 C K) (v0) (z13) s0 _ _ _ h hP hD hS (lv_sub hl [3, 4, 0] rfl)
  have h := nd_neg h c12
  by_cases c14 : v1 = 4
  · have h := nd_pos h c14
    refine lv_tableIn (off := 94) (tgt := 112) hx hb dX4_multiply_18 (by rw [c14]; decide) (by rw [c14]; decide) (by rw [c14]; decide) (by decide) ?_
    refine lv_iload hx hb dX4_multiply_112 (lv_at hl 6 rfl) ?_
    refine lv_if_ne (tgt := 121) hx hb dX4_multiply_114 (by decide) (fun c15 => ?_) (fun c15 => ?_)
    · have h := nd_neg h c15
      refine lv_iload_n hx hb dX4_multiply_121 rfl (lv_at hl 5 rfl) ?_
      refine lv_iload hx hb dX4_multiply_122 (lv_at hl 6 rfl) ?_
      obtain ⟨i16, h⟩ := nd_nz_e h
      refine lv_idiv hx hb dX4_multiply_124 i16 ?_
      exact (db_X4_multiply_125 C K) (v0) (((v2 : Int32) / v3)) s0 _ _ _ h hP hD hS (lv_sub hl [2, 3] rfl)
    · have h := nd_pos h c15
      refine lv_iconst (v := (-1)) hx hb dX4_multiply_117 (by decide) ?_
      refine lv_goto (tgt := 125) hx hb dX4_multiply_118 (by decide) ?_
      exact (db_X4_multiply_125 C K) (v0) ((-1)) s0 _ _ _ h hP hD hS (lv_sub hl [2, 3] rfl)
  have h := nd_neg h c14
  by_cases c17 : v1 = 5
  · have h := nd_pos h c17
    refine lv_tableIn (off := 112) (tgt := 130) hx hb dX4_multiply_18 (by rw [c17]; decide) (by rw [c17]; decide) (by rw [c17]; decide) (by decide) ?_
    refine lv_iload hx hb dX4_multiply_130 (lv_at hl 6 rfl) ?_
    refine lv_if_ne (tgt := 139) hx hb dX4_multiply_132 (by decide) (fun c18 => ?_) (fun c18 => ?_)
    · have h := nd_neg h c18
      refine lv_lload hx hb dX4_multiply_139 (lv_at hl 1 rfl) ?_
      refine lv_lload hx hb dX4_multiply_141 (lv_at hl 0 rfl) ?_
      obtain ⟨i19, h⟩ := nd_nz_e h
      refine lv_ldiv hx hb dX4_multiply_143 i19 ?_
      refine lv_l2i hx hb dX4_multiply_144 rfl ?_
      exact (db_X4_multiply_145 C K) (v0) ((((z1 : Int64) / z2).toInt32)) s0 _ _ _ h hP hD hS (lv_sub hl [2, 3] rfl)
    · have h := nd_pos h c18
      refine lv_iconst (v := (-1)) hx hb dX4_multiply_135 (by decide) ?_
      refine lv_goto (tgt := 145) hx hb dX4_multiply_136 (by decide) ?_
      exact (db_X4_multiply_145 C K) (v0) ((-1)) s0 _ _ _ h hP hD hS (lv_sub hl [2, 3] rfl)
  have h := nd_neg h c17
  by_cases c20 : v1 = 6
  · have h := nd_pos h c20
    refine lv_tableIn (off := 132) (tgt := 150) hx hb dX4_multiply_18 (by rw [c20]; decide) (by rw [c20]; decide) (by rw [c20]; decide) (by decide) ?_
    refine lv_iload hx hb dX4_multiply_150 (lv_at hl 6 rfl) ?_
    refine lv_if_ne (tgt := 159) hx hb dX4_multiply_152 (by decide) (fun c21 => ?_) (fun c21 => ?_)
    · have h := nd_neg h c21
      refine lv_iload_n hx hb dX4_multiply_159 rfl (lv_at hl 5 rfl) ?_
      refine lv_iload hx hb dX4_multiply_160 (lv_at hl 6 rfl) ?_
      obtain ⟨i22, h⟩ := nd_nz_e h
      refine lv_irem hx hb dX4_multiply_162 i22 ?_
      exact (db_X4_multiply_163 C K) (v0) (((v2 : Int32) - v2 / v3 * v3)) s0 _ _ _ h hP hD hS (lv_sub hl [2, 3] rfl)
    · have h := nd_pos h c21
      refine lv_iload_n hx hb dX4_multiply_155 rfl (lv_at hl 5 rfl) ?_
      refine lv_goto (tgt := 163) hx hb dX4_multiply_156 (by decide) ?_
      exact (db_X4_multiply_163 C K) (v0) (v2) s0 _ _ _ h hP hD hS (lv_sub hl [2, 3] rfl)
  have h := nd_neg h c20
  refine lv_tableOut (tgt := 168) hx hb dX4_multiply_18 (by have g0 := nv_nei c3 (k := 0) (by decide); have g1 := nv_nei c8 (k := 1) (by decide); have g2 := nv_nei c10 (k := 2) (by decide); have g3 := nv_nei c12 (k := 3) (by decide); have g4 := nv_nei c14 (k := 4) (by decide); have g5 := nv_nei c17 (k := 5) (by decide); have g6 := nv_nei c20 (k := 6) (by decide); omega) (by decide) ?_
  refine lv_iload hx hb dX4_multiply_168 (lv_at hl 6 rfl) ?_
  refine lv_if_ne (tgt := 177) hx hb dX4_multiply_170 (by decide) (fun c23 => ?_) (fun c23 => ?_)
  · have h := nd_neg h c23
    refine lv_lload hx hb dX4_multiply_177 (lv_at hl 1 rfl) ?_
    refine lv_lload hx hb dX4_multiply_179 (lv_at hl 0 rfl) ?_
    obtain ⟨i24, h⟩ := nd_nz_e h
    refine lv_lrem hx hb dX4_multiply_181 i24 ?_
    refine lv_l2i hx hb dX4_multiply_182 rfl ?_
    exact (db_X4_multiply_183 C K) (v0) ((((z1 : Int64) - z1 / z2 * z2).toInt32)) s0 _ _ _ h hP hD hS (lv_sub hl [2, 3] rfl)
  · have h := nd_pos h c23
    refine lv_iload_n hx hb dX4_multiply_173 rfl (lv_at hl 5 rfl) ?_
    refine lv_goto (tgt := 183) hx hb dX4_multiply_174 (by decide) ?_
    exact (db_X4_multiply_183 C K) (v0) (v2) s0 _ _ _ h hP hD hS (lv_sub hl [2, 3] rfl)
set_option maxHeartbeats 40000000 in
set_option maxRecDepth 100000 in
theorem dm_X4_multiply (l : Launch) (hlt : l.stackTraces = false) (dC : Nat → ClassId) (dI : Nat → Nat → Nat) (a : Nat → Nat) (ac : Nat → ClassId) (n : Nat) (v0 : Int32) (v1 : Int32) (v2 : Int32) (v3 : Int32) (s0 : St × (St × (St))) {r : Int32 × (St × (St × (St)))} (h : df_X4_multiply n v0 v1 v2 v3 s0 = some r) (sz : Nat) : Met l yX4_multiply ow_dm_X4_multiply ({ frames := 1, cells := 0, slots := 0, locals := 23 }) (va_Pc [.ref (a 0), .int v0, .int v1, .int v2, .int v3] (fun U => U.heap.size = sz ∧ va_P (dC, dI) vwCl (dw_X4 a ac s0) U.heap ∧ va_K (dC, dI) vwCl (dk_X4 ac) U ∧ va_D (fun _ => True) (dw_X4 a ac s0) ∧ nv_E (va_A (dw_X4 a ac s0) sz) U)) (va_Qi (fun x _ => x = r.1) (fun (_ : Unit) t => va_P (dC, dI) vwCl (dw_X4 a ac r.2) t.heap ∧ va_K (dC, dI) vwCl (dk_X4 ac) t ∧ va_D (va_A (dw_X4 a ac s0) sz) (dw_X4 a ac r.2)) (va_A (dw_X4 a ac s0) sz)) 0 0 (va_A (dw_X4 a ac s0) sz) := by
  refine Met.ofW (cc := cX4_multiply) (maxL := 10) (ret := (some .int)) (by decide) rfl ?_
  intro p e s m args below meth c s₁ B hml hv
  obtain ⟨rfl, hsz, hP, hK, hD0, hN⟩ := hv
  have hx := B.exec
  have hb := B.bytes
  have hr := B.returns
  have hts := atoms_spec (ws := ow_dm_X4_multiply) B.pre
  have hown : s.vm.findClass RX4 = some m.cls := findClass_of_methodNamed B.named
  have hlocks := B.notSynchronized
  subst hsz
  have hD := hD0.self (sz := s.heap.size)
  generalize hAe : va_A (dw_X4 a ac s0) s.heap.size = A at hD hN ⊢
  have hA : ∀ q : Nat, s.heap.size ≤ q → A q := fun q h => by rw [← hAe]; exact Or.inr h
  have hl := lv_entry ([.ref (a 0), .int v0, .int v1, .int v2, .int v3]) (n := 10) (Nat.le_of_ble_eq_true rfl)
  rw [lg_entry_eq]
  generalize (lg_sl ([.ref (a 0), .int v0, .int v1, .int v2, .int v3]) ++ List.replicate (10 - (lg_sl ([.ref (a 0), .int v0, .int v1, .int v2, .int v3])).length) Slot.unset).toArray = ls at hl ⊢
  have hl : lv_has ls 10 [(0, .ref (a 0)), (1, .int v0), (2, .int v1), (3, .int v2), (4, .int v3)] := hl
  exact db_X4_multiply_0 (dC := dC) (dI := dI) (a := a) (ac := ac) (n := n) (r := r) ⟨hlt, hx, hb, hml, hown, hts, hN, hA, hK⟩ (fun pc v τ H locs ls d z er hP hD hS => by subst er; exact W.zret (v := v) hx hb hr z (fun t ht hW => ⟨⟨v, (), rfl, rfl, by rw [ht]; exact hP, va_K.moved hW.alike hK, hD⟩, hS.F ht⟩) hS.2.2 d) v0 v1 v2 v3 s0 _ _ _ h hP hD va_S.rf (lv_sub hl [0, 1, 2, 3, 4] rfl)
def ow_dm_X4_branch : List Cond := .code yX4_branch cX4_branch 6 (some .int) :: ([.fieldLink RX4 27 "TimeMachine$Hart" "place" "I", .fieldLink RX4 38 "TimeMachine$Hart" "next" "I", .methodLink RX4 89 yJ6_compareUnsigned_7cf53, .static yJ6_compareUnsigned_7cf53, .initialized RJ6] ++ (u_ws RX4 TX4 6 ++ (ow_dm_J6_compareUnsigned_7cf53 ++ [])))
theorem gd_dm_X4_branch : ∀ w ∈ ow_dm_X4_branch, (w.onTables && w.keeps) = true ∨ ∃ ty, w = Cond.arrayClass ty := List.forall_mem_cons.mpr ⟨good_of_word rfl, List.forall_mem_append.mpr ⟨fun w h => good_of_word (List.all_eq_true.mp (by decide +kernel) w h), List.forall_mem_append.mpr ⟨gu_X4, List.forall_mem_append.mpr ⟨gd_dm_J6_compareUnsigned_7cf53, fun _ h => nomatch h⟩⟩⟩⟩
theorem hi_dm_X4_branch_X4 : ∀ w ∈ u_ws RX4 TX4 6, w ∈ ow_dm_X4_branch := fun w h => List.mem_cons_of_mem _ (List.mem_append_right _ (List.mem_append_left _ h))
theorem gi_dm_X4_branch_0 : GoodIn ow_dm_X4_branch (va_wsS RX4 89 yJ6_compareUnsigned_7cf53 ow_dm_J6_compareUnsigned_7cf53) := goodIn_app (goodIn_of _ (by decide +kernel)) (fun w h => ⟨List.mem_cons_of_mem _ (List.mem_append_right _ (List.mem_append_right _ (List.mem_append_left _ h))), gd_dm_J6_compareUnsigned_7cf53 w h⟩)
def dj_X4_branch_142 (p : Program) (l : Launch) (e : Env) (s : State) (m : MethodId) (args : Array Value) (below : List Frame) (meth : Method) (c : Code) (Q : State → Prop) (A : Nat → Prop) (dC : Nat → ClassId) (dI : Nat → Nat → Nat) (a : Nat → Nat) (ac : Nat → ClassId) (g : (St × (St × (St))) → Option (Int32 × (St × (St × (St))))) (r : Int32 × (St × (St × (St)))) : Prop := ∀ (s0 : St × (St × (St))) (H : Heap) (locs : List Loc) (ls : Array Slot), g s0 = some r → va_P (dC, dI) vwCl (dw_X4 a ac s0) H → va_D A (dw_X4 a ac s0) → va_S A s.heap H locs → lv_has ls 6 [] → W p l e (headSpec ow_dm_X4_branch ({ frames := 2, cells := 0, slots := 0, locals := 42 })).room s m args below meth c H locs 0 0 Q (F0 m 142 ls [])
def dj_X4_branch_98 (p : Program) (l : Launch) (e : Env) (s : State) (m : MethodId) (args : Array Value) (below : List Frame) (meth : Method) (c : Code) (Q : State → Prop) (A : Nat → Prop) (dC : Nat → ClassId) (dI : Nat → Nat → Nat) (a : Nat → Nat) (ac : Nat → ClassId) (g : Int32 → Int32 → Int32 → (St × (St × (St))) → Option (Int32 × (St × (St × (St))))) (r : Int32 × (St × (St × (St)))) : Prop := ∀ (x1 : Int32) (y0 : Int32) (y1 : Int32) (s0 : St × (St × (St))) (H : Heap) (locs : List Loc) (ls : Array Slot), g x1 y0 y1 s0 = some r → va_P (dC, dI) vwCl (dw_X4 a ac s0) H → va_D A (dw_X4 a ac s0) → va_S A s.heap H locs → lv_has ls 6 [(0, .ref (a 0)), (1, .int x1)] → W p l e (headSpec ow_dm_X4_branch ({ frames := 2, cells := 0, slots := 0, locals := 42 })).room s m args below meth c H locs 0 0 Q (F0 m 98 ls [.int y1, .int y0])
def dj_X4_branch_85 (p : Program) (l : Launch) (e : Env) (s : State) (m : MethodId) (args : Array Value) (below : List Frame) (meth : Method) (c : Code) (Q : State → Prop) (A : Nat → Prop) (dC : Nat → ClassId) (dI : Nat → Nat → Nat) (a : Nat → Nat) (ac : Nat → ClassId) (g : Int32 → Int32 → Int32 → (St × (St × (St))) → Option (Int32 × (St × (St × (St))))) (r : Int32 × (St × (St × (St)))) : Prop := ∀ (x1 : Int32) (x2 : Int32) (x5 : Int32) (s0 : St × (St × (St))) (H : Heap) (locs : List Loc) (ls : Array Slot), g x1 x2 x5 s0 = some r → va_P (dC, dI) vwCl (dw_X4 a ac s0) H → va_D A (dw_X4 a ac s0) → va_S A s.heap H locs → lv_has ls 6 [(0, .ref (a 0)), (1, .int x1), (2, .int x2), (5, .int x5)] → W p l e (headSpec ow_dm_X4_branch ({ frames := 2, cells := 0, slots := 0, locals := 42 })).room s m args below meth c H locs 0 0 Q (F0 m 85 ls [])
def dj_X4_branch_43 (p : Program) (l : Launch) (e : Env) (s : State) (m : MethodId) (args : Array Value) (below : List Frame) (meth : Method) (c : Code) (Q : State → Prop) (A : Nat → Prop) (dC : Nat → ClassId) (dI : Nat → Nat → Nat) (a : Nat → Nat) (ac : Nat → ClassId) (g : Int32 → Int32 → Int32 → (St × (St × (St))) → Option (Int32 × (St × (St × (St))))) (r : Int32 × (St × (St × (St)))) : Prop := ∀ (x1 : Int32) (x2 : Int32) (y0 : Int32) (s0 : St × (St × (St))) (H : Heap) (locs : List Loc) (ls : Array Slot), g x1 x2 y0 s0 = some r → va_P (dC, dI) vwCl (dw_X4 a ac s0) H → va_D A (dw_X4 a ac s0) → va_S A s.heap H locs → lv_has ls 6 [(0, .ref (a 0)), (1, .int x1), (2, .int x2)] → W p l e (headSpec ow_dm_X4_branch ({ frames := 2, cells := 0, slots := 0, locals := 42 })).room s m args below meth c H locs 0 0 Q (F0 m 43 ls [.int y0])
def dj_X4_branch_83 (p : Program) (l : Launch) (e : Env) (s : State) (m : MethodId) (args : Array Value) (below : List Frame) (meth : Method) (c : Code) (Q : State → Prop) (A : Nat → Prop) (dC : Nat → ClassId) (dI : Nat → Nat → Nat) (a : Nat → Nat) (ac : Nat → ClassId) (g : (St × (St × (St))) → Option (Int32 × (St × (St × (St))))) (r : Int32 × (St × (St × (St)))) : Prop := ∀ (s0 : St × (St × (St))) (H : Heap) (locs : List Loc) (ls : Array Slot), g s0 = some r → va_P (dC, dI) vwCl (dw_X4 a ac s0) H → va_D A (dw_X4 a ac s0) → va_S A s.heap H locs → lv_has ls 6 [] → W p l e (headSpec ow_dm_X4_branch ({ frames := 2, cells := 0, slots := 0, locals := 42 })).room s m args below meth c H locs 0 0 Q (F0 m 83 ls [])
def dj_X4_branch_59 (p : Program) (l : Launch) (e : Env) (s : State) (m : MethodId) (args : Array Value) (below : List Frame) (meth : Method) (c : Code) (Q : State → Prop) (A : Nat → Prop) (dC : Nat → ClassId) (dI : Nat → Nat → Nat) (a : Nat → Nat) (ac : Nat → ClassId) (g : Int32 → Int32 → Int32 → (St × (St × (St))) → Option (Int32 × (St × (St × (St))))) (r : Int32 × (St × (St × (St)))) : Prop := ∀ (x1 : Int32) (x2 : Int32) (y0 : Int32) (s0 : St × (St × (St))) (H : Heap) (locs : List Loc) (ls : Array Slot), g x1 x2 y0 s0 = some r → va_P (dC, dI) vwCl (dw_X4 a ac s0) H → va_D A (dw_X4 a ac s0) → va_S A s.heap H locs → lv_has ls 6 [(0, .ref (a 0)), (1, .int x1), (2, .int x2)] → W p l e (headSpec ow_dm_X4_branch ({ frames := 2, cells := 0, slots := 0, locals := 42 })).room s m args below meth c H locs 0 0 Q (F0 m 59 ls [.int y0])
def dj_X4_branch_78 (p : Program) (l : Launch) (e : Env) (s : State) (m : MethodId) (args : Array Value) (below : List Frame) (meth : Method) (c : Code) (Q : State → Prop) (A : Nat → Prop) (dC : Nat → ClassId) (dI : Nat → Nat → Nat) (a : Nat → Nat) (ac : Nat → ClassId) (g : Int32 → Int32 → Int32 → (St × (St × (St))) → Option (Int32 × (St × (St × (St))))) (r : Int32 × (St × (St × (St)))) : Prop := ∀ (x1 : Int32) (x2 : Int32) (y0 : Int32) (s0 : St × (St × (St))) (H : Heap) (locs : List Loc) (ls : Array Slot), g x1 x2 y0 s0 = some r → va_P (dC, dI) vwCl (dw_X4 a ac s0) H → va_D A (dw_X4 a ac s0) → va_S A s.heap H locs → lv_has ls 6 [(0, .ref (a 0)), (1, .int x1), (2, .int x2)] → W p l e (headSpec ow_dm_X4_branch ({ frames := 2, cells := 0, slots := 0, locals := 42 })).room s m args below meth c H locs 0 0 Q (F0 m 78 ls [.int y0])
def dj_X4_branch_0 (p : Program) (l : Launch) (e : Env) (s : State) (m : MethodId) (args : Array Value) (below : List Frame) (meth : Method) (c : Code) (Q : State → Prop) (A : Nat → Prop) (dC : Nat → ClassId) (dI : Nat → Nat → Nat) (a : Nat → Nat) (ac : Nat → ClassId) (g : Int32 → Int32 → Int32 → Int32 → (St × (St × (St))) → Option (Int32 × (St × (St × (St))))) (r : Int32 × (St × (St × (St)))) : Prop := ∀ (v0 : Int32) (v1 : Int32) (v2 : Int32) (v3 : Int32) (s0 : St × (St × (St))) (H : Heap) (locs : List Loc) (ls : Array Slot), g v0 v1 v2 v3 s0 = some r → va_P (dC, dI) vwCl (dw_X4 a ac s0) H → va_D A (dw_X4 a ac s0) → va_S A s.heap H locs → lv_has ls 6 [(0, .ref (a 0)), (1, .int v0), (2, .int v1), (3, .int v2), (4, .int v3)] → W p l e (headSpec ow_dm_X4_branch ({ frames := 2, cells := 0, slots := 0, locals := 42 })).room s m args below meth c H locs 0 0 Q (F0 m 0 ls [])
set_option maxHeartbeats 40000000 in
set_option maxRecDepth 100000 in
theorem db_X4_branch_142 {p : Program} {l : Launch} {e : Env} {s : State} {m : MethodId} {args : Array Value} {below : List Frame} {meth : Method} {c : Code} {Q : State → Prop} {A : Nat → Prop} {dC : Nat → ClassId} {dI : Nat → Nat → Nat} {a : Nat → Nat} {ac : Nat → ClassId} {n : Nat} {r : Int32 × (St × (St × (St)))} (C : nd_C p l s m args c A (dC, dI) cX4_branch 6 RX4 ow_dm_X4_branch (dk_X4 ac)) (K : nd_Ki p l e (headSpec ow_dm_X4_branch ({ frames := 2, cells := 0, slots := 0, locals := 42 })).room s m args below meth c Q A (dC, dI) cX4_branch .int (St × (St × (St))) (dw_X4 a ac) r) : dj_X4_branch_142 p l e s m args below meth c Q A dC dI a ac (df_X4_branch_142 n) r := by
  obtain ⟨hlt, hx, hb, hml, hown, hts, hN, hA, hK⟩ := id C
  intro s0 H locs ls h hP hD hS hl
  unfold df_X4_branch_142 at h
  refine lv_iconst (v := 0) hx hb dX4_branch_142 (by decide) ?_
  exact K _ _ _ _ _ _ dX4_branch_143 rfl (Option.some.inj h).symm hP hD hS
set_option maxHeartbeats 40000000 in
set_option maxRecDepth 100000 in
theorem db_X4_branch_98 {p : Program} {l : Launch} {e : Env} {s : State} {m : MethodId} {args : Array Value} {below : List Frame} {meth : Method} {c : Code} {Q : State → Prop} {A : Nat → Prop} {dC : Nat → ClassId} {dI : Nat → Nat → Nat} {a : Nat → Nat} {ac : Nat → ClassId} {n : Nat} {r : Int32 × (St × (St × (St)))} (C : nd_C p l s m args c A (dC, dI) cX4_branch 6 RX4 ow_dm_X4_branch (dk_X4 ac)) (K : nd_Ki p l e (headSpec ow_dm_X4_branch ({ frames := 2, cells := 0, slots := 0, locals := 42 })).room s m args below meth c Q A (dC, dI) cX4_branch .int (St × (St × (St))) (dw_X4 a ac) r) : dj_X4_branch_98 p l e s m args below meth c Q A dC dI a ac (df_X4_branch_98 n) r := by
  obtain ⟨hlt, hx, hb, hml, hown, hts, hN, hA, hK⟩ := id C
  intro x1 y0 y1 s0 H locs ls h hP hD hS hl
  unfold df_X4_branch_98 at h
  refine lv_icmp_ne (tgt := 142) hx hb dX4_branch_98 (by decide) (fun c4 => ?_) (fun c4 => ?_)
  · have h := nd_neg h c4
    exact (db_X4_branch_142 C K)  s0 _ _ _ h hP hD hS (lv_sub hl [] rfl)
  · have h := nd_pos h c4
    refine lv_aload_n hx hb dX4_branch_101 rfl (lv_at hl 0 rfl) ?_
    refine lv_aload_n hx hb dX4_branch_102 rfl (lv_at hl 0 rfl) ?_
    refine va_get (D := (dC, dI)) (ci := 5) (v := .int (sI s0.1 2)) (C := RX4) (T := TX4) (N := 6) hx hb hts hi_dm_X4_branch_X4 hown hK hP 0 rfl rfl 4 (by decide) (hts (.fieldLink RX4 27 "TimeMachine$Hart" "place" "I") (List.mem_of_getElem? (i := 1) rfl)) (fun _ h9 => h9) rfl dX4_branch_103 ?_
    refine lv_iload_n hx hb dX4_branch_106 rfl (lv_at hl 1 rfl) ?_
    refine lv_bipush (v := 31) hx hb dX4_branch_107 (by decide) ?_
    refine lv_ishr hx hb dX4_branch_109 ?_
    refine lv_bipush (v := 12) hx hb dX4_branch_110 (by decide) ?_
    refine lv_ishl hx hb dX4_branch_112 ?_
    refine lv_iload_n hx hb dX4_branch_113 rfl (lv_at hl 1 rfl) ?_
    refine lv_iconst (v := 4) hx hb dX4_branch_114 (by decide) ?_
    refine lv_ishl hx hb dX4_branch_115 ?_
    refine lv_sipush (v := 2048) hx hb dX4_branch_116 (by decide) ?_
    refine lv_iand hx hb dX4_branch_119 ?_
    refine lv_ior hx hb dX4_branch_120 ?_
    refine lv_iload_n hx hb dX4_branch_121 rfl (lv_at hl 1 rfl) ?_
    refine lv_bipush (v := 20) hx hb dX4_branch_122 (by decide) ?_
    refine lv_ishr hx hb dX4_branch_124 ?_
    refine lv_sipush (v := 2016) hx hb dX4_branch_125 (by decide) ?_
    refine lv_iand hx hb dX4_branch_128 ?_
    refine lv_ior hx hb dX4_branch_129 ?_
    refine lv_iload_n hx hb dX4_branch_130 rfl (lv_at hl 1 rfl) ?_
    refine lv_bipush (v := 7) hx hb dX4_branch_131 (by decide) ?_
    refine lv_ishr hx hb dX4_branch_133 ?_
    refine lv_bipush (v := 30) hx hb dX4_branch_134 (by decide) ?_
    refine lv_iand hx hb dX4_branch_136 ?_
    refine lv_ior hx hb dX4_branch_137 ?_
    refine lv_iadd hx hb dX4_branch_138 ?_
    refine va_put (D := (dC, dI)) (ci := 5) (v := .int ((sI s0.1 2) + (((((((x1 : Int32) >>> ((31 : Int32) &&& 31)) : Int32) <<< ((12 : Int32) &&& 31)) ||| (((x1 : Int32) <<< ((4 : Int32) &&& 31)) &&& 2048)) ||| (((x1 : Int32) >>> ((20 : Int32) &&& 31)) &&& 2016)) ||| (((x1 : Int32) >>> ((7 : Int32) &&& 31)) &&& 30)))) (ty := .int) (C := RX4) (T := TX4) (N := 6) hx hb hts hi_dm_X4_branch_X4 tyX4 tyX4_ok nmX4 hown hK hP hD hS 0 rfl rfl 5 (by decide) (hts (.fieldLink RX4 38 "TimeMachine$Hart" "next" "I") (List.mem_of_getElem? (i := 2) rfl)) (fun _ h9 => h9) rfl (by decide +kernel) rfl rfl (Nat.le_of_ble_eq_true rfl) dX4_branch_139 (fun H locs hP hD hS => ?_)
    obtain ⟨s5, es5, h⟩ := nd_let_e h
    have hP : va_P (dC, dI) vwCl (dw_X4 a ac s5) H := by rw [es5]; exact hP
    have hD : va_D A (dw_X4 a ac s5) := by rw [es5]; exact hD
    exact (db_X4_branch_142 C K)  s5 _ _ _ h hP hD hS (lv_sub hl [] rfl)
set_option maxHeartbeats 40000000 in
set_option maxRecDepth 100000 in
theorem db_X4_branch_85 {p : Program} {l : Launch} {e : Env} {s : State} {m : MethodId} {args : Array Value} {below : List Frame} {meth : Method} {c : Code} {Q : State → Prop} {A : Nat → Prop} {dC : Nat → ClassId} {dI : Nat → Nat → Nat} {a : Nat → Nat} {ac : Nat → ClassId} {n : Nat} {r : Int32 × (St × (St × (St)))} (C : nd_C p l s m args c A (dC, dI) cX4_branch 6 RX4 ow_dm_X4_branch (dk_X4 ac)) (K : nd_Ki p l e (headSpec ow_dm_X4_branch ({ frames := 2, cells := 0, slots := 0, locals := 42 })).room s m args below meth c Q A (dC, dI) cX4_branch .int (St × (St × (St))) (dw_X4 a ac) r) : dj_X4_branch_85 p l e s m args below meth c Q A dC dI a ac (df_X4_branch_85 n) r := by
  obtain ⟨hlt, hx, hb, hml, hown, hts, hN, hA, hK⟩ := id C
  intro x1 x2 x5 s0 H locs ls h hP hD hS hl
  unfold df_X4_branch_85 at h
  refine lv_iload hx hb dX4_branch_85 (lv_at hl 3 rfl) ?_
  refine lv_iload_n hx hb dX4_branch_87 rfl (lv_at hl 2 rfl) ?_
  refine lv_iconst (v := 1) hx hb dX4_branch_88 (by decide) ?_
  refine lv_iand hx hb dX4_branch_89 ?_
  refine lv_if_ne (tgt := 97) hx hb dX4_branch_90 (by decide) (fun c3 => ?_) (fun c3 => ?_)
  · have h := nd_neg h c3
    refine lv_iconst (v := 0) hx hb dX4_branch_97 (by decide) ?_
    exact (db_X4_branch_98 C K) (x1) (x5) (0) s0 _ _ _ h hP hD hS (lv_sub hl [0, 1] rfl)
  · have h := nd_pos h c3
    refine lv_iconst (v := 1) hx hb dX4_branch_93 (by decide) ?_
    refine lv_goto (tgt := 98) hx hb dX4_branch_94 (by decide) ?_
    exact (db_X4_branch_98 C K) (x1) (x5) (1) s0 _ _ _ h hP hD hS (lv_sub hl [0, 1] rfl)
set_option maxHeartbeats 40000000 in
set_option maxRecDepth 100000 in
theorem db_X4_branch_43 {p : Program} {l : Launch} {e : Env} {s : State} {m : MethodId} {args : Array Value} {below : List Frame} {meth : Method} {c : Code} {Q : State → Prop} {A : Nat → Prop} {dC : Nat → ClassId} {dI : Nat → Nat → Nat} {a : Nat → Nat} {ac : Nat → ClassId} {n : Nat} {r : Int32 × (St × (St × (St)))} (C : nd_C p l s m args c A (dC, dI) cX4_branch 6 RX4 ow_dm_X4_branch (dk_X4 ac)) (K : nd_Ki p l e (headSpec ow_dm_X4_branch ({ frames := 2, cells := 0, slots := 0, locals := 42 })).room s m args below meth c Q A (dC, dI) cX4_branch .int (St × (St × (St))) (dw_X4 a ac) r) : dj_X4_branch_43 p l e s m args below meth c Q A dC dI a ac (df_X4_branch_43 n) r := by
  obtain ⟨hlt, hx, hb, hml, hown, hts, hN, hA, hK⟩ := id C
  intro x1 x2 y0 s0 H locs ls h hP hD hS hl
  unfold df_X4_branch_43 at h
  refine lv_istore (lv' := [(5, .int y0), (0, .ref (a 0)), (1, .int x1), (2, .int x2)]) hx hb dX4_branch_43 hl (by decide) rfl (fun ls hl => ?_)
  refine lv_goto (tgt := 85) hx hb dX4_branch_45 (by decide) ?_
  exact (db_X4_branch_85 C K) (x1) (x2) (y0) s0 _ _ _ h hP hD hS (lv_sub hl [1, 2, 3, 0] rfl)
set_option maxHeartbeats 40000000 in
set_option maxRecDepth 100000 in
theorem db_X4_branch_83 {p : Program} {l : Launch} {e : Env} {s : State} {m : MethodId} {args : Array Value} {below : List Frame} {meth : Method} {c : Code} {Q : State → Prop} {A : Nat → Prop} {dC : Nat → ClassId} {dI : Nat → Nat → Nat} {a : Nat → Nat} {ac : Nat → ClassId} {n : Nat} {r : Int32 × (St × (St × (St)))} (C : nd_C p l s m args c A (dC, dI) cX4_branch 6 RX4 ow_dm_X4_branch (dk_X4 ac)) (K : nd_Ki p l e (headSpec ow_dm_X4_branch ({ frames := 2, cells := 0, slots := 0, locals := 42 })).room s m args below meth c Q A (dC, dI) cX4_branch .int (St × (St × (St))) (dw_X4 a ac) r) : dj_X4_branch_83 p l e s m args below meth c Q A dC dI a ac (df_X4_branch_83 n) r := by
  obtain ⟨hlt, hx, hb, hml, hown, hts, hN, hA, hK⟩ := id C
  intro s0 H locs ls h hP hD hS hl
  unfold df_X4_branch_83 at h
  refine lv_iconst (v := 4) hx hb dX4_branch_83 (by decide) ?_
  exact K _ _ _ _ _ _ dX4_branch_84 rfl (Option.some.inj h).symm hP hD hS
set_option maxHeartbeats 40000000 in
set_option maxRecDepth 100000 in
theorem db_X4_branch_59 {p : Program} {l : Launch} {e : Env} {s : State} {m : MethodId} {args : Array Value} {below : List Frame} {meth : Method} {c : Code} {Q : State → Prop} {A : Nat → Prop} {dC : Nat → ClassId} {dI : Nat → Nat → Nat} {a : Nat → Nat} {ac : Nat → ClassId} {n : Nat} {r : Int32 × (St × (St × (St)))} (C : nd_C p l s m args c A (dC, dI) cX4_branch 6 RX4 ow_dm_X4_branch (dk_X4 ac)) (K : nd_Ki p l e (headSpec ow_dm_X4_branch ({ frames := 2, cells := 0, slots := 0, locals := 42 })).room s m args below meth c Q A (dC, dI) cX4_branch .int (St × (St × (St))) (dw_X4 a ac) r) : dj_X4_branch_59 p l e s m args below meth c Q A dC dI a ac (df_X4_branch_59 n) r := by
  obtain ⟨hlt, hx, hb, hml, hown, hts, hN, hA, hK⟩ := id C
  intro x1 x2 y0 s0 H locs ls h hP hD hS hl
  unfold df_X4_branch_59 at h
  refine lv_istore (lv' := [(5, .int y0), (0, .ref (a 0)), (1, .int x1), (2, .int x2)]) hx hb dX4_branch_59 hl (by decide) rfl (fun ls hl => ?_)
  refine lv_goto (tgt := 85) hx hb dX4_branch_61 (by decide) ?_
  exact (db_X4_branch_85 C K) (x1) (x2) (y0) s0 _ _ _ h hP hD hS (lv_sub hl [1, 2, 3, 0] rfl)
set_option maxHeartbeats 40000000 in
set_option maxRecDepth 100000 in
theorem db_X4_branch_78 {p : Program} {l : Launch} {e : Env} {s : State} {m : MethodId} {args : Array Value} {below : List Frame} {meth : Method} {c : Code} {Q : State → Prop} {A : Nat → Prop} {dC : Nat → ClassId} {dI : Nat → Nat → Nat} {a : Nat → Nat} {ac : Nat → ClassId} {n : Nat} {r : Int32 × (St × (St × (St)))} (C : nd_C p l s m args c A (dC, dI) cX4_branch 6 RX4 ow_dm_X4_branch (dk_X4 ac)) (K : nd_Ki p l e (headSpec ow_dm_X4_branch ({ frames := 2, cells := 0, slots := 0, locals := 42 })).room s m args below meth c Q A (dC, dI) cX4_branch .int (St × (St × (St))) (dw_X4 a ac) r) : dj_X4_branch_78 p l e s m args below meth c Q A dC dI a ac (df_X4_branch_78 n) r := by
  obtain ⟨hlt, hx, hb, hml, hown, hts, hN, hA, hK⟩ := id C
  intro x1 x2 y0 s0 H locs ls h hP hD hS hl
  unfold df_X4_branch_78 at h
  refine lv_istore (lv' := [(5, .int y0), (0, .ref (a 0)), (1, .int x1), (2, .int x2)]) hx hb dX4_branch_78 hl (by decide) rfl (fun ls hl => ?_)
  refine lv_goto (tgt := 85) hx hb dX4_branch_80 (by decide) ?_
  exact (db_X4_branch_85 C K) (x1) (x2) (y0) s0 _ _ _ h hP hD hS (lv_sub hl [1, 2, 3, 0] rfl)
set_option maxHeartbeats 40000000 in
set_option maxRecDepth 100000 in
theorem db_X4_branch_0 {p : Program} {l : Launch} {e : Env} {s : State} {m : MethodId} {args : Array Value} {below : List Frame} {meth : Method} {c : Code} {Q : State → Prop} {A : Nat → Prop} {dC : Nat → ClassId} {dI : Nat → Nat → Nat} {a : Nat → Nat} {ac : Nat → ClassId} {n : Nat} {r : Int32 × (St × (St × (St)))} (C : nd_C p l s m args c A (dC, dI) cX4_branch 6 RX4 ow_dm_X4_branch (dk_X4 ac)) (K : nd_Ki p l e (headSpec ow_dm_X4_branch ({ frames := 2, cells := 0, slots := 0, locals := 42 })).room s m args below meth c Q A (dC, dI) cX4_branch .int (St × (St × (St))) (dw_X4 a ac) r) : dj_X4_branch_0 p l e s m args below meth c Q A dC dI a ac (df_X4_branch_0 n) r := by
  obtain ⟨hlt, hx, hb, hml, hown, hts, hN, hA, hK⟩ := id C
  intro v0 v1 v2 v3 s0 H locs ls h hP hD hS hl
  unfold df_X4_branch_0 at h
  refine lv_iload_n hx hb dX4_branch_0 rfl (lv_at hl 2 rfl) ?_
  refine lv_iconst (v := 1) hx hb dX4_branch_1 (by decide) ?_
  refine lv_ishr hx hb dX4_branch_2 ?_
  by_cases c1 : ((v1 : Int32) >>> ((1 : Int32) &&& 31)) = 0
  · have h := nd_pos h c1
    refine lv_tableIn (off := 29) (tgt := 32) hx hb dX4_branch_3 (by rw [c1]; decide) (by rw [c1]; decide) (by rw [c1]; decide) (by decide) ?_
    refine lv_iload_n hx hb dX4_branch_32 rfl (lv_at hl 3 rfl) ?_
    refine lv_iload hx hb dX4_branch_33 (lv_at hl 4 rfl) ?_
    refine lv_icmp_ne (tgt := 42) hx hb dX4_branch_35 (by decide) (fun c2 => ?_) (fun c2 => ?_)
    · have h := nd_neg h c2
      refine lv_iconst (v := 0) hx hb dX4_branch_42 (by decide) ?_
      exact (db_X4_branch_43 C K) (v0) (v1) (0) s0 _ _ _ h hP hD hS (lv_sub hl [0, 1, 2] rfl)
    · have h := nd_pos h c2
      refine lv_iconst (v := 1) hx hb dX4_branch_38 (by decide) ?_
      refine lv_goto (tgt := 43) hx hb dX4_branch_39 (by decide) ?_
      exact (db_X4_branch_43 C K) (v0) (v1) (1) s0 _ _ _ h hP hD hS (lv_sub hl [0, 1, 2] rfl)
  have h := nd_neg h c1
  by_cases c6 : ((v1 : Int32) >>> ((1 : Int32) &&& 31)) = 1
  · have h := nd_pos h c6
    refine lv_tableIn (off := 80) (tgt := 83) hx hb dX4_branch_3 (by rw [c6]; decide) (by rw [c6]; decide) (by rw [c6]; decide) (by decide) ?_
    exact (db_X4_branch_83 C K)  s0 _ _ _ h hP hD hS (lv_sub hl [] rfl)
  have h := nd_neg h c6
  by_cases c7 : ((v1 : Int32) >>> ((1 : Int32) &&& 31)) = 2
  · have h := nd_pos h c7
    refine lv_tableIn (off := 45) (tgt := 48) hx hb dX4_branch_3 (by rw [c7]; decide) (by rw [c7]; decide) (by rw [c7]; decide) (by decide) ?_
    refine lv_iload_n hx hb dX4_branch_48 rfl (lv_at hl 3 rfl) ?_
    refine lv_iload hx hb dX4_branch_49 (lv_at hl 4 rfl) ?_
    refine lv_icmp_ge (tgt := 58) hx hb dX4_branch_51 (by decide) (fun c8 => ?_) (fun c8 => ?_)
    · have h := nd_pos h c8
      refine lv_iconst (v := 0) hx hb dX4_branch_58 (by decide) ?_
      exact (db_X4_branch_59 C K) (v0) (v1) (0) s0 _ _ _ h hP hD hS (lv_sub hl [0, 1, 2] rfl)
    · have h := nd_neg h c8
      refine lv_iconst (v := 1) hx hb dX4_branch_54 (by decide) ?_
      refine lv_goto (tgt := 59) hx hb dX4_branch_55 (by decide) ?_
      exact (db_X4_branch_59 C K) (v0) (v1) (1) s0 _ _ _ h hP hD hS (lv_sub hl [0, 1, 2] rfl)
  have h := nd_neg h c7
  by_cases c9 : ((v1 : Int32) >>> ((1 : Int32) &&& 31)) = 3
  · have h := nd_pos h c9
    refine lv_tableIn (off := 61) (tgt := 64) hx hb dX4_branch_3 (by rw [c9]; decide) (by rw [c9]; decide) (by rw [c9]; decide) (by decide) ?_
    refine lv_iload_n hx hb dX4_branch_64 rfl (lv_at hl 3 rfl) ?_
    refine lv_iload hx hb dX4_branch_65 (lv_at hl 4 rfl) ?_
    obtain ⟨q10, s11, hq, h⟩ := nd_b2_e h
    have hPc : va_P (dC, dI) vwCl (dw_P a ac ()) H := nd_p0
    have hDc : va_D A (dw_P a ac ()) := nd_d0
    have hKc : va_K (dC, dI) vwCl (dk_P ac) s := nd_y0 hK
    have hFc : ∀ q, va_A (dw_P a ac ()) H.size q → A q := nd_r0 hS hA
    refine nd_cSi (As := [.int v2, .int v3]) (rest := []) (q := q10) (w' := dw_P a ac s11) ⟨hx, hb, hml, hown, hts⟩ (fun sz => dm_J6_compareUnsigned_7cf53 l hlt dC dI a ac n (v2) (v3) () hq sz) (va_cwS 2 hts gi_dm_X4_branch_0 rfl rfl rfl (by decide +kernel) ⟨Nat.le_of_ble_eq_true rfl, Nat.le_of_ble_eq_true rfl⟩) hPc hDc hKc hS hA hN rfl hl.1 rfl (Nat.le_of_ble_eq_true rfl) dX4_branch_67 (fun H locs hP1 hD1 hk1 hS => ?_)
    have hP := nd_n0 hP hk1
    refine lv_if_ge (tgt := 77) hx hb dX4_branch_70 (by decide) (fun c13 => ?_) (fun c13 => ?_)
    · have h := nd_pos h c13
      refine lv_iconst (v := 0) hx hb dX4_branch_77 (by decide) ?_
      exact (db_X4_branch_78 C K) (v0) (v1) (0) s0 _ _ _ h hP hD hS (lv_sub hl [0, 1, 2] rfl)
    · have h := nd_neg h c13
      refine lv_iconst (v := 1) hx hb dX4_branch_73 (by decide) ?_
      refine lv_goto (tgt := 78) hx hb dX4_branch_74 (by decide) ?_
      exact (db_X4_branch_78 C K) (v0) (v1) (1) s0 _ _ _ h hP hD hS (lv_sub hl [0, 1, 2] rfl)
  have h := nd_neg h c9
  refine lv_tableOut (tgt := 83) hx hb dX4_branch_3 (by have g0 := nv_nei c1 (k := 0) (by decide); have g1 := nv_nei c6 (k := 1) (by decide); have g2 := nv_nei c7 (k := 2) (by decide); have g3 := nv_nei c9 (k := 3) (by decide); omega) (by decide) ?_
  exact (db_X4_branch_83 C K)  s0 _ _ _ h hP hD hS (lv_sub hl [] rfl)
set_option maxHeartbeats 40000000 in
set_option maxRecDepth 100000 in
theorem dm_X4_branch (l : Launch) (hlt : l.stackTraces = false) (dC : Nat → ClassId) (dI : Nat → Nat → Nat) (a : Nat → Nat) (ac : Nat → ClassId) (n : Nat) (v0 : Int32) (v1 : Int32) (v2 : Int32) (v3 : Int32) (s0 : St × (St × (St))) {r : Int32 × (St × (St × (St)))} (h : df_X4_branch n v0 v1 v2 v3 s0 = some r) (sz : Nat) : Met l yX4_branch ow_dm_X4_branch ({ frames := 2, cells := 0, slots := 0, locals := 42 }) (va_Pc [.ref (a 0), .int v0, .int v1, .int v2, .int v3] (fun U => U.heap.size = sz ∧ va_P (dC, dI) vwCl (dw_X4 a ac s0) U.heap ∧ va_K (dC, dI) vwCl (dk_X4 ac) U ∧ va_D (fun _ => True) (dw_X4 a ac s0) ∧ nv_E (va_A (dw_X4 a ac s0) sz) U)) (va_Qi (fun x _ => x = r.1) (fun (_ : Unit) t => va_P (dC, dI) vwCl (dw_X4 a ac r.2) t.heap ∧ va_K (dC, dI) vwCl (dk_X4 ac) t ∧ va_D (va_A (dw_X4 a ac s0) sz) (dw_X4 a ac r.2)) (va_A (dw_X4 a ac s0) sz)) 0 0 (va_A (dw_X4 a ac s0) sz) := by
  refine Met.ofW (cc := cX4_branch) (maxL := 6) (ret := (some .int)) (by decide) rfl ?_
  intro p e s m args below meth c s₁ B hml hv
  obtain ⟨rfl, hsz, hP, hK, hD0, hN⟩ := hv
  have hx := B.exec
  have hb := B.bytes
  have hr := B.returns
  have hts := atoms_spec (ws := ow_dm_X4_branch) B.pre
  have hown : s.vm.findClass RX4 = some m.cls := findClass_of_methodNamed B.named
  have hlocks := B.notSynchronized
  subst hsz
  have hD := hD0.self (sz := s.heap.size)
  generalize hAe : va_A (dw_X4 a ac s0) s.heap.size = A at hD hN ⊢
  have hA : ∀ q : Nat, s.heap.size ≤ q → A q := fun q h => by rw [← hAe]; exact Or.inr h
  have hl := lv_entry ([.ref (a 0), .int v0, .int v1, .int v2, .int v3]) (n := 6) (Nat.le_of_ble_eq_true rfl)
  rw [lg_entry_eq]
  generalize (lg_sl ([.ref (a 0), .int v0, .int v1, .int v2, .int v3]) ++ List.replicate (6 - (lg_sl ([.ref (a 0), .int v0, .int v1, .int v2, .int v3])).length) Slot.unset).toArray = ls at hl ⊢
  have hl : lv_has ls 6 [(0, .ref (a 0)), (1, .int v0), (2, .int v1), (3, .int v2), (4, .int v3)] := hl
  exact db_X4_branch_0 (dC := dC) (dI := dI) (a := a) (ac := ac) (n := n) (r := r) ⟨hlt, hx, hb, hml, hown, hts, hN, hA, hK⟩ (fun pc v τ H locs ls d z er hP hD hS => by subst er; exact W.zret (v := v) hx hb hr z (fun t ht hW => ⟨⟨v, (), rfl, rfl, by rw [ht]; exact hP, va_K.moved hW.alike hK, hD⟩, hS.F ht⟩) hS.2.2 d) v0 v1 v2 v3 s0 _ _ _ h hP hD va_S.rf (lv_sub hl [0, 1, 2, 3, 4] rfl)
def ow_dm_X4_jump : List Cond := .code yX4_jump cX4_jump 3 (some .int) :: ([.fieldLink RX4 38 "TimeMachine$Hart" "next" "I", .methodLink RX4 52 yX4_set, .instanceMethod yX4_set, .selects RX4 yX4_set yX4_set, .initialized RX4] ++ (u_ws RX4 TX4 6 ++ (ow_dm_X4_set ++ [])))
theorem gd_dm_X4_jump : ∀ w ∈ ow_dm_X4_jump, (w.onTables && w.keeps) = true ∨ ∃ ty, w = Cond.arrayClass ty := List.forall_mem_cons.mpr ⟨good_of_word rfl, List.forall_mem_append.mpr ⟨fun w h => good_of_word (List.all_eq_true.mp (by decide +kernel) w h), List.forall_mem_append.mpr ⟨gu_X4, List.forall_mem_append.mpr ⟨gd_dm_X4_set, fun _ h => nomatch h⟩⟩⟩⟩
theorem hi_dm_X4_jump_X4 : ∀ w ∈ u_ws RX4 TX4 6, w ∈ ow_dm_X4_jump := fun w h => List.mem_cons_of_mem _ (List.mem_append_right _ (List.mem_append_left _ h))
theorem gi_dm_X4_jump_0 : GoodIn ow_dm_X4_jump (wsV RX4 52 RX4 yX4_set ow_dm_X4_set) := goodIn_app (goodIn_of _ (by decide +kernel)) (fun w h => ⟨List.mem_cons_of_mem _ (List.mem_append_right _ (List.mem_append_right _ (List.mem_append_left _ h))), gd_dm_X4_set w h⟩)
def dj_X4_jump_0 (p : Program) (l : Launch) (e : Env) (s : State) (m : MethodId) (args : Array Value) (below : List Frame) (meth : Method) (c : Code) (Q : State → Prop) (A : Nat → Prop) (dC : Nat → ClassId) (dI : Nat → Nat → Nat) (a : Nat → Nat) (ac : Nat → ClassId) (g : Int32 → Int32 → (St × (St × (St))) → Option (Int32 × (St × (St × (St))))) (r : Int32 × (St × (St × (St)))) : Prop := ∀ (v0 : Int32) (v1 : Int32) (s0 : St × (St × (St))) (H : Heap) (locs : List Loc) (ls : Array Slot), g v0 v1 s0 = some r → va_P (dC, dI) vwCl (dw_X4 a ac s0) H → va_D A (dw_X4 a ac s0) → va_S A s.heap H locs → lv_has ls 3 [(0, .ref (a 0)), (1, .int v0), (2, .int v1)] → W p l e (headSpec ow_dm_X4_jump ({ frames := 1, cells := 0, slots := 0, locals := 23 })).room s m args below meth c H locs 0 0 Q (F0 m 0 ls [])
set_option maxHeartbeats 40000000 in
set_option maxRecDepth 100000 in
theorem db_X4_jump_0 {p : Program} {l : Launch} {e : Env} {s : State} {m : MethodId} {args : Array Value} {below : List Frame} {meth : Method} {c : Code} {Q : State → Prop} {A : Nat → Prop} {dC : Nat → ClassId} {dI : Nat → Nat → Nat} {a : Nat → Nat} {ac : Nat → ClassId} {n : Nat} {r : Int32 × (St × (St × (St)))} (C : nd_C p l s m args c A (dC, dI) cX4_jump 3 RX4 ow_dm_X4_jump (dk_X4 ac)) (K : nd_Ki p l e (headSpec ow_dm_X4_jump ({ frames := 1, cells := 0, slots := 0, locals := 23 })).room s m args below meth c Q A (dC, dI) cX4_jump .int (St × (St × (St))) (dw_X4 a ac) r) : dj_X4_jump_0 p l e s m args below meth c Q A dC dI a ac (df_X4_jump_0 n) r := by
  obtain ⟨hlt, hx, hb, hml, hown, hts, hN, hA, hK⟩ := id C
  intro v0 v1 s0 H locs ls h hP hD hS hl
  unfold df_X4_jump_0 at h
  refine lv_aload_n hx hb dX4_jump_0 rfl (lv_at hl 0 rfl) ?_
  refine lv_iload_n hx hb dX4_jump_1 rfl (lv_at hl 1 rfl) ?_
  refine lv_aload_n hx hb dX4_jump_2 rfl (lv_at hl 0 rfl) ?_
  refine va_get (D := (dC, dI)) (ci := 5) (v := .int (sI s0.1 3)) (C := RX4) (T := TX4) (N := 6) hx hb hts hi_dm_X4_jump_X4 hown hK hP 0 rfl rfl 5 (by decide) (hts (.fieldLink RX4 38 "TimeMachine$Hart" "next" "I") (List.mem_of_getElem? (i := 1) rfl)) (fun _ h9 => h9) rfl dX4_jump_3 ?_
  obtain ⟨s2, hq, h⟩ := nd_b1_e h
  have hPc := hP
  have hDc := hD
  have hKc := hK
  have hFc := nd_rs hD hS hA
  refine nd_cVv (As := [.int v0, .int (sI s0.1 3)]) (rest := []) (w' := dw_X4 a ac s2) ⟨hx, hb, hml, hown, hts⟩ (fun sz => dm_X4_set l hlt dC dI a ac n (v0) ((sI s0.1 3)) s0 hq sz) (cwV 2 hts gi_dm_X4_jump_0 rfl rfl rfl (by decide +kernel) ⟨Nat.le_of_ble_eq_true rfl, Nat.le_of_ble_eq_true rfl⟩) hPc hDc hKc hS hA hN (va_recv hKc hPc (ci := 5) (q0 := 0) rfl rfl) rfl hl.1 rfl (Nat.le_of_ble_eq_true rfl) dX4_jump_6 (fun H locs hP1 hD1 hk1 hS => ?_)
  have hP := hP1
  have hD := hD1.weaken (fun k q _ h => hFc q.1 h)
  refine lv_aload_n hx hb dX4_jump_9 rfl (lv_at hl 0 rfl) ?_
  refine lv_iload_n hx hb dX4_jump_10 rfl (lv_at hl 2 rfl) ?_
  refine lv_bipush (v := (-2)) hx hb dX4_jump_11 (by decide) ?_
  refine lv_iand hx hb dX4_jump_13 ?_
  refine va_put (D := (dC, dI)) (ci := 5) (v := .int (v1 &&& (-2))) (ty := .int) (C := RX4) (T := TX4) (N := 6) hx hb hts hi_dm_X4_jump_X4 tyX4 tyX4_ok nmX4 hown hK hP hD hS 0 rfl rfl 5 (by decide) (hts (.fieldLink RX4 38 "TimeMachine$Hart" "next" "I") (List.mem_of_getElem? (i := 1) rfl)) (fun _ h9 => h9) rfl (by decide +kernel) rfl rfl (Nat.le_of_ble_eq_true rfl) dX4_jump_14 (fun H locs hP hD hS => ?_)
  obtain ⟨s4, es4, h⟩ := nd_let_e h
  have hP : va_P (dC, dI) vwCl (dw_X4 a ac s4) H := by rw [es4]; exact hP
  have hD : va_D A (dw_X4 a ac s4) := by rw [es4]; exact hD
  refine lv_iconst (v := 0) hx hb dX4_jump_17 (by decide) ?_
  exact K _ _ _ _ _ _ dX4_jump_18 rfl (Option.some.inj h).symm hP hD hS
set_option maxHeartbeats 40000000 in
set_option maxRecDepth 100000 in
theorem dm_X4_jump (l : Launch) (hlt : l.stackTraces = false) (dC : Nat → ClassId) (dI : Nat → Nat → Nat) (a : Nat → Nat) (ac : Nat → ClassId) (n : Nat) (v0 : Int32) (v1 : Int32) (s0 : St × (St × (St))) {r : Int32 × (St × (St × (St)))} (h : df_X4_jump n v0 v1 s0 = some r) (sz : Nat) : Met l yX4_jump ow_dm_X4_jump ({ frames := 1, cells := 0, slots := 0, locals := 23 }) (va_Pc [.ref (a 0), .int v0, .int v1] (fun U => U.heap.size = sz ∧ va_P (dC, dI) vwCl (dw_X4 a ac s0) U.heap ∧ va_K (dC, dI) vwCl (dk_X4 ac) U ∧ va_D (fun _ => True) (dw_X4 a ac s0) ∧ nv_E (va_A (dw_X4 a ac s0) sz) U)) (va_Qi (fun x _ => x = r.1) (fun (_ : Unit) t => va_P (dC, dI) vwCl (dw_X4 a ac r.2) t.heap ∧ va_K (dC, dI) vwCl (dk_X4 ac) t ∧ va_D (va_A (dw_X4 a ac s0) sz) (dw_X4 a ac r.2)) (va_A (dw_X4 a ac s0) sz)) 0 0 (va_A (dw_X4 a ac s0) sz) := by
  refine Met.ofW (cc := cX4_jump) (maxL := 3) (ret := (some .int)) (by decide) rfl ?_
  intro p e s m args below meth c s₁ B hml hv
  obtain ⟨rfl, hsz, hP, hK, hD0, hN⟩ := hv
  have hx := B.exec
  have hb := B.bytes
  have hr := B.returns
  have hts := atoms_spec (ws := ow_dm_X4_jump) B.pre
  have hown : s.vm.findClass RX4 = some m.cls := findClass_of_methodNamed B.named
  have hlocks := B.notSynchronized
  subst hsz
  have hD := hD0.self (sz := s.heap.size)
  generalize hAe : va_A (dw_X4 a ac s0) s.heap.size = A at hD hN ⊢
  have hA : ∀ q : Nat, s.heap.size ≤ q → A q := fun q h => by rw [← hAe]; exact Or.inr h
  have hl := lv_entry ([.ref (a 0), .int v0, .int v1]) (n := 3) (Nat.le_of_ble_eq_true rfl)
  rw [lg_entry_eq]
  generalize (lg_sl ([.ref (a 0), .int v0, .int v1]) ++ List.replicate (3 - (lg_sl ([.ref (a 0), .int v0, .int v1])).length) Slot.unset).toArray = ls at hl ⊢
  have hl : lv_has ls 3 [(0, .ref (a 0)), (1, .int v0), (2, .int v1)] := hl
  exact db_X4_jump_0 (dC := dC) (dI := dI) (a := a) (ac := ac) (n := n) (r := r) ⟨hlt, hx, hb, hml, hown, hts, hN, hA, hK⟩ (fun pc v τ H locs ls d z er hP hD hS => by subst er; exact W.zret (v := v) hx hb hr z (fun t ht hW => ⟨⟨v, (), rfl, rfl, by rw [ht]; exact hP, va_K.moved hW.alike hK, hD⟩, hS.F ht⟩) hS.2.2 d) v0 v1 s0 _ _ _ h hP hD va_S.rf (lv_sub hl [0, 1, 2] rfl)
def ow_dm_X4_jumpOffset : List Cond := .code yX4_jumpOffset cX4_jumpOffset 1 (some .int) :: ([.constant RX4 88 (1044480)] ++ [])
theorem gd_dm_X4_jumpOffset : ∀ w ∈ ow_dm_X4_jumpOffset, (w.onTables && w.keeps) = true ∨ ∃ ty, w = Cond.arrayClass ty := List.forall_mem_cons.mpr ⟨good_of_word rfl, List.forall_mem_append.mpr ⟨fun w h => good_of_word (List.all_eq_true.mp (by decide +kernel) w h), fun _ h => nomatch h⟩⟩
def dj_X4_jumpOffset_0 (p : Program) (l : Launch) (e : Env) (s : State) (m : MethodId) (args : Array Value) (below : List Frame) (meth : Method) (c : Code) (Q : State → Prop) (A : Nat → Prop) (dC : Nat → ClassId) (dI : Nat → Nat → Nat) (a : Nat → Nat) (ac : Nat → ClassId) (g : Int32 → (Unit) → Option (Int32 × (Unit))) (r : Int32 × (Unit)) : Prop := ∀ (v0 : Int32) (s0 : Unit) (H : Heap) (locs : List Loc) (ls : Array Slot), g v0 s0 = some r → va_P (dC, dI) vwCl (dw_P a ac s0) H → va_D A (dw_P a ac s0) → va_S A s.heap H locs → lv_has ls 1 [(0, .int v0)] → W p l e (headSpec ow_dm_X4_jumpOffset ({ frames := 0, cells := 0, slots := 0, locals := 0 })).room s m args below meth c H locs 0 0 Q (F0 m 0 ls [])
set_option maxHeartbeats 40000000 in
set_option maxRecDepth 100000 in
theorem db_X4_jumpOffset_0 {p : Program} {l : Launch} {e : Env} {s : State} {m : MethodId} {args : Array Value} {below : List Frame} {meth : Method} {c : Code} {Q : State → Prop} {A : Nat → Prop} {dC : Nat → ClassId} {dI : Nat → Nat → Nat} {a : Nat → Nat} {ac : Nat → ClassId} {n : Nat} {r : Int32 × (Unit)} (C : nd_C p l s m args c A (dC, dI) cX4_jumpOffset 1 RX4 ow_dm_X4_jumpOffset (dk_P ac)) (K : nd_Ki p l e (headSpec ow_dm_X4_jumpOffset ({ frames := 0, cells := 0, slots := 0, locals := 0 })).room s m args below meth c Q A (dC, dI) cX4_jumpOffset .int (Unit) (dw_P a ac) r) : dj_X4_jumpOffset_0 p l e s m args below meth c Q A dC dI a ac (df_X4_jumpOffset_0 n) r := by
  obtain ⟨hlt, hx, hb, hml, hown, hts, hN, hA, hK⟩ := id C
  intro v0 s0 H locs ls h hP hD hS hl
  unfold df_X4_jumpOffset_0 at h
  refine lv_iload_n hx hb dX4_jumpOffset_0 rfl (lv_at hl 0 rfl) ?_
  refine lv_bipush (v := 31) hx hb dX4_jumpOffset_1 (by decide) ?_
  refine lv_ishr hx hb dX4_jumpOffset_3 ?_
  refine lv_bipush (v := 20) hx hb dX4_jumpOffset_4 (by decide) ?_
  refine lv_ishl hx hb dX4_jumpOffset_6 ?_
  refine lv_iload_n hx hb dX4_jumpOffset_7 rfl (lv_at hl 0 rfl) ?_
  refine lv_ldc hx hb hown (hts (.constant RX4 88 (1044480)) (List.mem_of_getElem? (i := 1) rfl)) dX4_jumpOffset_8 ?_
  refine lv_iand hx hb dX4_jumpOffset_10 ?_
  refine lv_ior hx hb dX4_jumpOffset_11 ?_
  refine lv_iload_n hx hb dX4_jumpOffset_12 rfl (lv_at hl 0 rfl) ?_
  refine lv_bipush (v := 9) hx hb dX4_jumpOffset_13 (by decide) ?_
  refine lv_ishr hx hb dX4_jumpOffset_15 ?_
  refine lv_sipush (v := 2048) hx hb dX4_jumpOffset_16 (by decide) ?_
  refine lv_iand hx hb dX4_jumpOffset_19 ?_
  refine lv_ior hx hb dX4_jumpOffset_20 ?_
  refine lv_iload_n hx hb dX4_jumpOffset_21 rfl (lv_at hl 0 rfl) ?_
  refine lv_bipush (v := 20) hx hb dX4_jumpOffset_22 (by decide) ?_
  refine lv_ishr hx hb dX4_jumpOffset_24 ?_
  refine lv_sipush (v := 2046) hx hb dX4_jumpOffset_25 (by decide) ?_
  refine lv_iand hx hb dX4_jumpOffset_28 ?_
  refine lv_ior hx hb dX4_jumpOffset_29 ?_
  exact K _ _ _ _ _ _ dX4_jumpOffset_30 rfl (Option.some.inj h).symm hP hD hS
set_option maxHeartbeats 40000000 in
set_option maxRecDepth 100000 in
theorem dm_X4_jumpOffset (l : Launch) (hlt : l.stackTraces = false) (dC : Nat → ClassId) (dI : Nat → Nat → Nat) (a : Nat → Nat) (ac : Nat → ClassId) (n : Nat) (v0 : Int32) (s0 : Unit) {r : Int32 × (Unit)} (h : df_X4_jumpOffset n v0 s0 = some r) (sz : Nat) : Met l yX4_jumpOffset ow_dm_X4_jumpOffset ({ frames := 0, cells := 0, slots := 0, locals := 0 }) (va_Pc [.int v0] (fun U => U.heap.size = sz ∧ va_P (dC, dI) vwCl (dw_P a ac s0) U.heap ∧ va_K (dC, dI) vwCl (dk_P ac) U ∧ va_D (fun _ => True) (dw_P a ac s0) ∧ nv_E (va_A (dw_P a ac s0) sz) U)) (va_Qi (fun x _ => x = r.1) (fun (_ : Unit) t => va_P (dC, dI) vwCl (dw_P a ac r.2) t.heap ∧ va_K (dC, dI) vwCl (dk_P ac) t ∧ va_D (va_A (dw_P a ac s0) sz) (dw_P a ac r.2)) (va_A (dw_P a ac s0) sz)) 0 0 (va_A (dw_P a ac s0) sz) := by
  refine Met.ofW (cc := cX4_jumpOffset) (maxL := 1) (ret := (some .int)) (by decide) rfl ?_
  intro p e s m args below meth c s₁ B hml hv
  obtain ⟨rfl, hsz, hP, hK, hD0, hN⟩ := hv
  have hx := B.exec
  have hb := B.bytes
  have hr := B.returns
  have hts := atoms_spec (ws := ow_dm_X4_jumpOffset) B.pre
  have hown : s.vm.findClass RX4 = some m.cls := findClass_of_methodNamed B.named
  have hlocks := B.notSynchronized
  subst hsz
  have hD := hD0.self (sz := s.heap.size)
  generalize hAe : va_A (dw_P a ac s0) s.heap.size = A at hD hN ⊢
  have hA : ∀ q : Nat, s.heap.size ≤ q → A q := fun q h => by rw [← hAe]; exact Or.inr h
  have hl := lv_entry ([.int v0]) (n := 1) (Nat.le_of_ble_eq_true rfl)
  rw [lg_entry_eq]
  generalize (lg_sl ([.int v0]) ++ List.replicate (1 - (lg_sl ([.int v0])).length) Slot.unset).toArray = ls at hl ⊢
  have hl : lv_has ls 1 [(0, .int v0)] := hl
  exact db_X4_jumpOffset_0 (dC := dC) (dI := dI) (a := a) (ac := ac) (n := n) (r := r) ⟨hlt, hx, hb, hml, hown, hts, hN, hA, hK⟩ (fun pc v τ H locs ls d z er hP hD hS => by subst er; exact W.zret (v := v) hx hb hr z (fun t ht hW => ⟨⟨v, (), rfl, rfl, by rw [ht]; exact hP, va_K.moved hW.alike hK, hD⟩, hS.F ht⟩) hS.2.2 d) v0 s0 _ _ _ h hP hD va_S.rf (lv_sub hl [0] rfl)
def ow_dm_X4_system : List Cond := .code yX4_system cX4_system 3 (some .int) :: ([.constant RX4 136 (1048691), .fieldLink RX4 7 "TimeMachine$Hart" "machine" "LTimeMachine$Machine;", .fieldLink RX4 48 "TimeMachine$Machine" "retired" "J", .methodLink RX4 52 yX4_set, .instanceMethod yX4_set, .selects RX4 yX4_set yX4_set, .initialized RX4, .fieldLink RX4 137 "TimeMachine$Machine" "clock" "J"] ++ (u_ws RX4 TX4 6 ++ (u_ws RX6 TX6 20 ++ (ow_dm_X4_set ++ []))))
theorem gd_dm_X4_system : ∀ w ∈ ow_dm_X4_system, (w.onTables && w.keeps) = true ∨ ∃ ty, w = Cond.arrayClass ty := List.forall_mem_cons.mpr ⟨good_of_word rfl, List.forall_mem_append.mpr ⟨fun w h => good_of_word (List.all_eq_true.mp (by decide +kernel) w h), List.forall_mem_append.mpr ⟨gu_X4, List.forall_mem_append.mpr ⟨gu_X6, List.forall_mem_append.mpr ⟨gd_dm_X4_set, fun _ h => nomatch h⟩⟩⟩⟩⟩
theorem hi_dm_X4_system_X4 : ∀ w ∈ u_ws RX4 TX4 6, w ∈ ow_dm_X4_system := fun w h => List.mem_cons_of_mem _ (List.mem_append_right _ (List.mem_append_left _ h))
theorem hi_dm_X4_system_X6 : ∀ w ∈ u_ws RX6 TX6 20, w ∈ ow_dm_X4_system := fun w h => List.mem_cons_of_mem _ (List.mem_append_right _ (List.mem_append_right _ (List.mem_append_left _ h)))
theorem gi_dm_X4_system_0 : GoodIn ow_dm_X4_system (wsV RX4 52 RX4 yX4_set ow_dm_X4_set) := goodIn_app (goodIn_of _ (by decide +kernel)) (fun w h => ⟨List.mem_cons_of_mem _ (List.mem_append_right _ (List.mem_append_right _ (List.mem_append_right _ (List.mem_append_left _ h)))), gd_dm_X4_set w h⟩)
def dj_X4_system_33 (p : Program) (l : Launch) (e : Env) (s : State) (m : MethodId) (args : Array Value) (below : List Frame) (meth : Method) (c : Code) (Q : State → Prop) (A : Nat → Prop) (dC : Nat → ClassId) (dI : Nat → Nat → Nat) (a : Nat → Nat) (ac : Nat → ClassId) (g : (St × (St × (St))) → Option (Int32 × (St × (St × (St))))) (r : Int32 × (St × (St × (St)))) : Prop := ∀ (s0 : St × (St × (St))) (H : Heap) (locs : List Loc) (ls : Array Slot), g s0 = some r → va_P (dC, dI) vwCl (dw_X4 a ac s0) H → va_D A (dw_X4 a ac s0) → va_S A s.heap H locs → lv_has ls 3 [] → W p l e (headSpec ow_dm_X4_system ({ frames := 1, cells := 0, slots := 0, locals := 23 })).room s m args below meth c H locs 0 0 Q (F0 m 33 ls [])
def dj_X4_system_96 (p : Program) (l : Launch) (e : Env) (s : State) (m : MethodId) (args : Array Value) (below : List Frame) (meth : Method) (c : Code) (Q : State → Prop) (A : Nat → Prop) (dC : Nat → ClassId) (dI : Nat → Nat → Nat) (a : Nat → Nat) (ac : Nat → ClassId) (g : Int32 → (St × (St × (St))) → Option (Int32 × (St × (St × (St))))) (r : Int32 × (St × (St × (St)))) : Prop := ∀ (x1 : Int32) (s0 : St × (St × (St))) (H : Heap) (locs : List Loc) (ls : Array Slot), g x1 s0 = some r → va_P (dC, dI) vwCl (dw_X4 a ac s0) H → va_D A (dw_X4 a ac s0) → va_S A s.heap H locs → lv_has ls 3 [(0, .ref (a 0)), (1, .int x1)] → W p l e (headSpec ow_dm_X4_system ({ frames := 1, cells := 0, slots := 0, locals := 23 })).room s m args below meth c H locs 0 0 Q (F0 m 96 ls [])
def dj_X4_system_111 (p : Program) (l : Launch) (e : Env) (s : State) (m : MethodId) (args : Array Value) (below : List Frame) (meth : Method) (c : Code) (Q : State → Prop) (A : Nat → Prop) (dC : Nat → ClassId) (dI : Nat → Nat → Nat) (a : Nat → Nat) (ac : Nat → ClassId) (g : Int32 → (St × (St × (St))) → Option (Int32 × (St × (St × (St))))) (r : Int32 × (St × (St × (St)))) : Prop := ∀ (x1 : Int32) (s0 : St × (St × (St))) (H : Heap) (locs : List Loc) (ls : Array Slot), g x1 s0 = some r → va_P (dC, dI) vwCl (dw_X4 a ac s0) H → va_D A (dw_X4 a ac s0) → va_S A s.heap H locs → lv_has ls 3 [(0, .ref (a 0)), (1, .int x1)] → W p l e (headSpec ow_dm_X4_system ({ frames := 1, cells := 0, slots := 0, locals := 23 })).room s m args below meth c H locs 0 0 Q (F0 m 111 ls [])
def dj_X4_system_0 (p : Program) (l : Launch) (e : Env) (s : State) (m : MethodId) (args : Array Value) (below : List Frame) (meth : Method) (c : Code) (Q : State → Prop) (A : Nat → Prop) (dC : Nat → ClassId) (dI : Nat → Nat → Nat) (a : Nat → Nat) (ac : Nat → ClassId) (g : Int32 → Int32 → (St × (St × (St))) → Option (Int32 × (St × (St × (St))))) (r : Int32 × (St × (St × (St)))) : Prop := ∀ (v0 : Int32) (v1 : Int32) (s0 : St × (St × (St))) (H : Heap) (locs : List Loc) (ls : Array Slot), g v0 v1 s0 = some r → va_P (dC, dI) vwCl (dw_X4 a ac s0) H → va_D A (dw_X4 a ac s0) → va_S A s.heap H locs → lv_has ls 3 [(0, .ref (a 0)), (1, .int v0), (2, .int v1)] → W p l e (headSpec ow_dm_X4_system ({ frames := 1, cells := 0, slots := 0, locals := 23 })).room s m args below meth c H locs 0 0 Q (F0 m 0 ls [])
set_option maxHeartbeats 40000000 in
set_option maxRecDepth 100000 in
theorem db_X4_system_33 {p : Program} {l : Launch} {e : Env} {s : State} {m : MethodId} {args : Array Value} {below : List Frame} {meth : Method} {c : Code} {Q : State → Prop} {A : Nat → Prop} {dC : Nat → ClassId} {dI : Nat → Nat → Nat} {a : Nat → Nat} {ac : Nat → ClassId} {n : Nat} {r : Int32 × (St × (St × (St)))} (C : nd_C p l s m args c A (dC, dI) cX4_system 3 RX4 ow_dm_X4_system (dk_X4 ac)) (K : nd_Ki p l e (headSpec ow_dm_X4_system ({ frames := 1, cells := 0, slots := 0, locals := 23 })).room s m args below meth c Q A (dC, dI) cX4_system .int (St × (St × (St))) (dw_X4 a ac) r) : dj_X4_system_33 p l e s m args below meth c Q A dC dI a ac (df_X4_system_33 n) r := by
  obtain ⟨hlt, hx, hb, hml, hown, hts, hN, hA, hK⟩ := id C
  intro s0 H locs ls h hP hD hS hl
  unfold df_X4_system_33 at h
  refine lv_iconst (v := 4) hx hb dX4_system_33 (by decide) ?_
  exact K _ _ _ _ _ _ dX4_system_34 rfl (Option.some.inj h).symm hP hD hS
set_option maxHeartbeats 40000000 in
set_option maxRecDepth 100000 in
theorem db_X4_system_96 {p : Program} {l : Launch} {e : Env} {s : State} {m : MethodId} {args : Array Value} {below : List Frame} {meth : Method} {c : Code} {Q : State → Prop} {A : Nat → Prop} {dC : Nat → ClassId} {dI : Nat → Nat → Nat} {a : Nat → Nat} {ac : Nat → ClassId} {n : Nat} {r : Int32 × (St × (St × (St)))} (C : nd_C p l s m args c A (dC, dI) cX4_system 3 RX4 ow_dm_X4_system (dk_X4 ac)) (K : nd_Ki p l e (headSpec ow_dm_X4_system ({ frames := 1, cells := 0, slots := 0, locals := 23 })).room s m args below meth c Q A (dC, dI) cX4_system .int (St × (St × (St))) (dw_X4 a ac) r) : dj_X4_system_96 p l e s m args below meth c Q A dC dI a ac (df_X4_system_96 n) r := by
  obtain ⟨hlt, hx, hb, hml, hown, hts, hN, hA, hK⟩ := id C
  intro x1 s0 H locs ls h hP hD hS hl
  unfold df_X4_system_96 at h
  refine lv_aload_n hx hb dX4_system_96 rfl (lv_at hl 0 rfl) ?_
  refine lv_iload_n hx hb dX4_system_97 rfl (lv_at hl 1 rfl) ?_
  refine lv_aload_n hx hb dX4_system_98 rfl (lv_at hl 0 rfl) ?_
  refine va_get (D := (dC, dI)) (ci := 5) (v := .ref (a 1)) (C := RX4) (T := TX4) (N := 6) hx hb hts hi_dm_X4_system_X4 hown hK hP 0 rfl rfl 0 (by decide) (hts (.fieldLink RX4 7 "TimeMachine$Hart" "machine" "LTimeMachine$Machine;") (List.mem_of_getElem? (i := 2) rfl)) (fun _ h9 => h9) rfl dX4_system_99 ?_
  refine va_get (D := (dC, dI)) (ci := 7) (v := .long (sL s0.2.1 1)) (C := RX6) (T := TX6) (N := 20) hx hb hts hi_dm_X4_system_X6 hown hK hP 1 rfl rfl 18 (by decide) (hts (.fieldLink RX4 48 "TimeMachine$Machine" "retired" "J") (List.mem_of_getElem? (i := 3) rfl)) (fun _ h9 => h9) rfl dX4_system_102 ?_
  refine lv_l2i hx hb dX4_system_105 rfl ?_
  obtain ⟨s7, hq, h⟩ := nd_b1_e h
  have hPc := hP
  have hDc := hD
  have hKc := hK
  have hFc := nd_rs hD hS hA
  refine nd_cVv (As := [.int x1, .int ((sL s0.2.1 1).toInt32)]) (rest := []) (w' := dw_X4 a ac s7) ⟨hx, hb, hml, hown, hts⟩ (fun sz => dm_X4_set l hlt dC dI a ac n (x1) (((sL s0.2.1 1).toInt32)) s0 hq sz) (cwV 2 hts gi_dm_X4_system_0 rfl rfl rfl (by decide +kernel) ⟨Nat.le_of_ble_eq_true rfl, Nat.le_of_ble_eq_true rfl⟩) hPc hDc hKc hS hA hN (va_recv hKc hPc (ci := 5) (q0 := 0) rfl rfl) rfl hl.1 rfl (Nat.le_of_ble_eq_true rfl) dX4_system_106 (fun H locs hP1 hD1 hk1 hS => ?_)
  have hP := hP1
  have hD := hD1.weaken (fun k q _ h => hFc q.1 h)
  refine lv_iconst (v := 0) hx hb dX4_system_109 (by decide) ?_
  exact K _ _ _ _ _ _ dX4_system_110 rfl (Option.some.inj h).symm hP hD hS
set_option maxHeartbeats 40000000 in
set_option maxRecDepth 100000 in
theorem db_X4_system_111 {p : Program} {l : Launch} {e : Env} {s : State} {m : MethodId} {args : Array Value} {below : List Frame} {meth : Method} {c : Code} {Q : State → Prop} {A : Nat → Prop} {dC : Nat → ClassId} {dI : Nat → Nat → Nat} {a : Nat → Nat} {ac : Nat → ClassId} {n : Nat} {r : Int32 × (St × (St × (St)))} (C : nd_C p l s m args c A (dC, dI) cX4_system 3 RX4 ow_dm_X4_system (dk_X4 ac)) (K : nd_Ki p l e (headSpec ow_dm_X4_system ({ frames := 1, cells := 0, slots := 0, locals := 23 })).room s m args below meth c Q A (dC, dI) cX4_system .int (St × (St × (St))) (dw_X4 a ac) r) : dj_X4_system_111 p l e s m args below meth c Q A dC dI a ac (df_X4_system_111 n) r := by
  obtain ⟨hlt, hx, hb, hml, hown, hts, hN, hA, hK⟩ := id C
  intro x1 s0 H locs ls h hP hD hS hl
  unfold df_X4_system_111 at h
  refine lv_aload_n hx hb dX4_system_111 rfl (lv_at hl 0 rfl) ?_
  refine lv_iload_n hx hb dX4_system_112 rfl (lv_at hl 1 rfl) ?_
  refine lv_aload_n hx hb dX4_system_113 rfl (lv_at hl 0 rfl) ?_
  refine va_get (D := (dC, dI)) (ci := 5) (v := .ref (a 1)) (C := RX4) (T := TX4) (N := 6) hx hb hts hi_dm_X4_system_X4 hown hK hP 0 rfl rfl 0 (by decide) (hts (.fieldLink RX4 7 "TimeMachine$Hart" "machine" "LTimeMachine$Machine;") (List.mem_of_getElem? (i := 2) rfl)) (fun _ h9 => h9) rfl dX4_system_114 ?_
  refine va_get (D := (dC, dI)) (ci := 7) (v := .long (sL s0.2.1 1)) (C := RX6) (T := TX6) (N := 20) hx hb hts hi_dm_X4_system_X6 hown hK hP 1 rfl rfl 18 (by decide) (hts (.fieldLink RX4 48 "TimeMachine$Machine" "retired" "J") (List.mem_of_getElem? (i := 3) rfl)) (fun _ h9 => h9) rfl dX4_system_117 ?_
  refine lv_bipush (v := 32) hx hb dX4_system_120 (by decide) ?_
  refine lv_lshr hx hb dX4_system_122 rfl ?_
  refine lv_l2i hx hb dX4_system_123 rfl ?_
  obtain ⟨s16, hq, h⟩ := nd_b1_e h
  have hPc := hP
  have hDc := hD
  have hKc := hK
  have hFc := nd_rs hD hS hA
  refine nd_cVv (As := [.int x1, .int ((((sL s0.2.1 1) : Int64) >>> ((32 : Int32).toInt64 &&& 63)).toInt32)]) (rest := []) (w' := dw_X4 a ac s16) ⟨hx, hb, hml, hown, hts⟩ (fun sz => dm_X4_set l hlt dC dI a ac n (x1) (((((sL s0.2.1 1) : Int64) >>> ((32 : Int32).toInt64 &&& 63)).toInt32)) s0 hq sz) (cwV 2 hts gi_dm_X4_system_0 rfl rfl rfl (by decide +kernel) ⟨Nat.le_of_ble_eq_true rfl, Nat.le_of_ble_eq_true rfl⟩) hPc hDc hKc hS hA hN (va_recv hKc hPc (ci := 5) (q0 := 0) rfl rfl) rfl hl.1 rfl (Nat.le_of_ble_eq_true rfl) dX4_system_124 (fun H locs hP1 hD1 hk1 hS => ?_)
  have hP := hP1
  have hD := hD1.weaken (fun k q _ h => hFc q.1 h)
  refine lv_iconst (v := 0) hx hb dX4_system_127 (by decide) ?_
  exact K _ _ _ _ _ _ dX4_system_128 rfl (Option.some.inj h).symm hP hD hS
