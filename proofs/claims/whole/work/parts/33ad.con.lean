set_option maxHeartbeats 40000000 in
set_option maxRecDepth 100000 in
theorem db_X5_pipe_58 {p : Program} {l : Launch} {e : Env} {s : State} {m : MethodId} {args : Array Value} {below : List Frame} {meth : Method} {c : Code} {Q : State → Prop} {A : Nat → Prop} {dC : Nat → ClassId} {dI : Nat → Nat → Nat} {a : Nat → Nat} {ac : Nat → ClassId} {n : Nat} {r : Int64 × (St × (St × (St × (St))))} (C : nd_C p l s m args c A (dC, dI) cX5_pipe 6 RX5 ow_dm_X5_pipe (dk_X5 ac)) (K : nd_Kl p l e (headSpec ow_dm_X5_pipe ({ frames := 2, cells := 0, slots := 0, locals := 65 })).room s m args below meth c Q A (dC, dI) cX5_pipe (St × (St × (St × (St)))) (dw_X5 a ac) r) : dj_X5_pipe_58 p l e s m args below meth c Q A dC dI a ac (df_X5_pipe_58 n) r := by
  obtain ⟨hlt, hx, hb, hml, hown, hts, hN, hA, hK⟩ := id C
  intro x1 x2 x3 y0 s0 H locs ls h hP hD hS hl
  unfold df_X5_pipe_58 at h
  refine lv_istore (lv' := [(4, .int y0), (0, .ref (a 0)), (1, .int x1), (2, .int x2), (3, .int x3)]) hx hb dX5_pipe_58 hl (by decide) rfl (fun ls hl => ?_)
  refine lv_aload_n hx hb dX5_pipe_60 rfl (lv_at hl 1 rfl) ?_
  refine va_get (D := (dC, dI)) (ci := 6) (v := .ref (a 14)) (C := RX5) (T := TX5) (N := 8) hx hb hts hi_dm_X5_pipe_X5 hown hK hP 0 rfl rfl 1 (by decide) (hts (.fieldLink RX5 28 "TimeMachine$Kernel" "things" "LTimeMachine$Things;") (List.mem_of_getElem? (i := 6) rfl)) (fun _ h9 => h9) rfl dX5_pipe_61 ?_
  obtain ⟨q16, s17, hq, h⟩ := nd_b2_e h
  have hPc := dp_X5_14 hP
  have hDc := dd_X5_14 hD
  have hKc := dy_X5_14 hK
  have hFc := nd_rs hDc hS hA
  have hzA : ∀ q : Nat, H.size ≤ q → A q := fun q h => hA q (Nat.le_trans hS.1 h)
  refine nd_cVi (As := []) (rest := []) (q := q16) (w' := dw_X10 (fun k => a (k + 14)) (fun k => ac (k + 14)) s17) ⟨hx, hb, hml, hown, hts⟩ (fun sz => dm_X10_freePipe l hlt dC dI (fun k => a (k + 14)) (fun k => ac (k + 14)) n  s0.2.2.2 hq sz) (cwV 0 hts gi_dm_X5_pipe_2 rfl rfl rfl (by decide +kernel) ⟨Nat.le_of_ble_eq_true rfl, Nat.le_of_ble_eq_true rfl⟩) hPc hDc hKc hS hA hN (va_recv hKc hPc (ci := 11) (q0 := 0) rfl rfl) rfl hl.1 rfl (Nat.le_of_ble_eq_true rfl) dX5_pipe_64 (fun H locs hP1 hD1 hk1 hS => ?_)
  obtain ⟨hP, hD⟩ := dn_X5_14 hP hD hzA hk1 hP1 hD1
  obtain ⟨s19, es19, h⟩ := nd_let_e h
  have hP : va_P (dC, dI) vwCl (dw_X5 a ac s19) H := by rw [es19]; exact hP
  have hD : va_D A (dw_X5 a ac s19) := by rw [es19]; exact hD
  refine lv_istore (lv' := [(5, .int q16), (4, .int y0), (0, .ref (a 0)), (1, .int x1), (2, .int x2), (3, .int x3)]) hx hb dX5_pipe_67 hl (by decide) rfl (fun ls hl => ?_)
  refine lv_iload hx hb dX5_pipe_69 (lv_at hl 1 rfl) ?_
  refine lv_if_lt (tgt := 90) hx hb dX5_pipe_71 (by decide) (fun c20 => ?_) (fun c20 => ?_)
  · have h := nd_pos h c20
    exact (db_X5_pipe_90 C K)  s19 _ _ _ h hP hD hS (lv_sub hl [] rfl)
  · have h := nd_neg h c20
    refine lv_iload hx hb dX5_pipe_74 (lv_at hl 0 rfl) ?_
    refine lv_if_lt (tgt := 90) hx hb dX5_pipe_76 (by decide) (fun c21 => ?_) (fun c21 => ?_)
    · have h := nd_pos h c21
      exact (db_X5_pipe_90 C K)  s19 _ _ _ h hP hD hS (lv_sub hl [] rfl)
    · have h := nd_neg h c21
      refine lv_aload_n hx hb dX5_pipe_79 rfl (lv_at hl 2 rfl) ?_
      refine va_get (D := (dC, dI)) (ci := 6) (v := .ref (a 14)) (C := RX5) (T := TX5) (N := 8) hx hb hts hi_dm_X5_pipe_X5 hown hK hP 0 rfl rfl 1 (by decide) (hts (.fieldLink RX5 28 "TimeMachine$Kernel" "things" "LTimeMachine$Things;") (List.mem_of_getElem? (i := 6) rfl)) (fun _ h9 => h9) rfl dX5_pipe_80 ?_
      obtain ⟨q22, s23, hq, h⟩ := nd_b2_e h
      have hPc := dp_X5_14 hP
      have hDc := dd_X5_14 hD
      have hKc := dy_X5_14 hK
      have hFc := nd_rs hDc hS hA
      have hzA : ∀ q : Nat, H.size ≤ q → A q := fun q h => hA q (Nat.le_trans hS.1 h)
      refine nd_cVi (As := []) (rest := []) (q := q22) (w' := dw_X10 (fun k => a (k + 14)) (fun k => ac (k + 14)) s23) ⟨hx, hb, hml, hown, hts⟩ (fun sz => dm_X10_openingsFree l hlt dC dI (fun k => a (k + 14)) (fun k => ac (k + 14)) n  s19.2.2.2 hq sz) (cwV 0 hts gi_dm_X5_pipe_3 rfl rfl rfl (by decide +kernel) ⟨Nat.le_of_ble_eq_true rfl, Nat.le_of_ble_eq_true rfl⟩) hPc hDc hKc hS hA hN (va_recv hKc hPc (ci := 11) (q0 := 0) rfl rfl) rfl hl.1 rfl (Nat.le_of_ble_eq_true rfl) dX5_pipe_83 (fun H locs hP1 hD1 hk1 hS => ?_)
      obtain ⟨hP, hD⟩ := dn_X5_14 hP hD hzA hk1 hP1 hD1
      obtain ⟨s25, es25, h⟩ := nd_let_e h
      have hP : va_P (dC, dI) vwCl (dw_X5 a ac s25) H := by rw [es25]; exact hP
      have hD : va_D A (dw_X5 a ac s25) := by rw [es25]; exact hD
      refine lv_iconst (v := 2) hx hb dX5_pipe_86 (by decide) ?_
      refine lv_icmp_ge (tgt := 94) hx hb dX5_pipe_87 (by decide) (fun c26 => ?_) (fun c26 => ?_)
      · have h := nd_pos h c26
        refine lv_aload_n hx hb dX5_pipe_94 rfl (lv_at hl 2 rfl) ?_
        refine va_get (D := (dC, dI)) (ci := 6) (v := .ref (a 4)) (C := RX5) (T := TX5) (N := 8) hx hb hts hi_dm_X5_pipe_X5 hown hK hP 0 rfl rfl 0 (by decide) (hts (.fieldLink RX5 18 "TimeMachine$Kernel" "machine" "LTimeMachine$Machine;") (List.mem_of_getElem? (i := 1) rfl)) (fun _ h9 => h9) rfl dX5_pipe_95 ?_
        refine lv_iload_n hx hb dX5_pipe_98 rfl (lv_at hl 3 rfl) ?_
        refine lv_iload_n hx hb dX5_pipe_99 rfl (lv_at hl 4 rfl) ?_
        refine lv_bipush (v := 8) hx hb dX5_pipe_100 (by decide) ?_
        obtain ⟨q27, s28, hq, h⟩ := nd_b2_e h
        have hPc := dp_X5_4 hP
        have hDc := dd_X5_4 hD
        have hKc := dy_X5_4 hK
        have hFc := nd_rs hDc hS hA
        have hzA : ∀ q : Nat, H.size ≤ q → A q := fun q h => hA q (Nat.le_trans hS.1 h)
        refine nd_cVi (As := [.int x1, .int x2, .int 8]) (rest := []) (q := q27) (w' := dw_X6 (fun k => a (k + 4)) (fun k => ac (k + 4)) s28) ⟨hx, hb, hml, hown, hts⟩ (fun sz => dm_X6_framesFor l hlt dC dI (fun k => a (k + 4)) (fun k => ac (k + 4)) n (x1) (x2) (8) s25.2.2 hq sz) (cwV 3 hts gi_dm_X5_pipe_4 rfl rfl rfl (by decide +kernel) ⟨Nat.le_of_ble_eq_true rfl, Nat.le_of_ble_eq_true rfl⟩) hPc hDc hKc hS hA hN (va_recv hKc hPc (ci := 7) (q0 := 0) rfl rfl) rfl hl.1 rfl (Nat.le_of_ble_eq_true rfl) dX5_pipe_102 (fun H locs hP1 hD1 hk1 hS => ?_)
        obtain ⟨hP, hD⟩ := dn_X5_4 hP hD hzA hk1 hP1 hD1
        obtain ⟨s30, es30, h⟩ := nd_let_e h
        have hP : va_P (dC, dI) vwCl (dw_X5 a ac s30) H := by rw [es30]; exact hP
        have hD : va_D A (dw_X5 a ac s30) := by rw [es30]; exact hD
        refine lv_aload_n hx hb dX5_pipe_105 rfl (lv_at hl 2 rfl) ?_
        refine va_get (D := (dC, dI)) (ci := 6) (v := .ref (a 4)) (C := RX5) (T := TX5) (N := 8) hx hb hts hi_dm_X5_pipe_X5 hown hK hP 0 rfl rfl 0 (by decide) (hts (.fieldLink RX5 18 "TimeMachine$Kernel" "machine" "LTimeMachine$Machine;") (List.mem_of_getElem? (i := 1) rfl)) (fun _ h9 => h9) rfl dX5_pipe_106 ?_
        obtain ⟨q31, s32, hq, h⟩ := nd_b2_e h
        have hPc := dp_X5_4 hP
        have hDc := dd_X5_4 hD
        have hKc := dy_X5_4 hK
        have hFc := nd_rs hDc hS hA
        have hzA : ∀ q : Nat, H.size ≤ q → A q := fun q h => hA q (Nat.le_trans hS.1 h)
        refine nd_cVi (As := []) (rest := [.int q27]) (q := q31) (w' := dw_X6 (fun k => a (k + 4)) (fun k => ac (k + 4)) s32) ⟨hx, hb, hml, hown, hts⟩ (fun sz => dm_X6_framesFree l hlt dC dI (fun k => a (k + 4)) (fun k => ac (k + 4)) n  s30.2.2 hq sz) (cwV 0 hts gi_dm_X5_pipe_5 rfl rfl rfl (by decide +kernel) ⟨Nat.le_of_ble_eq_true rfl, Nat.le_of_ble_eq_true rfl⟩) hPc hDc hKc hS hA hN (va_recv hKc hPc (ci := 7) (q0 := 0) rfl rfl) rfl hl.1 rfl (Nat.le_of_ble_eq_true rfl) dX5_pipe_109 (fun H locs hP1 hD1 hk1 hS => ?_)
        obtain ⟨hP, hD⟩ := dn_X5_4 hP hD hzA hk1 hP1 hD1
        obtain ⟨s34, es34, h⟩ := nd_let_e h
        have hP : va_P (dC, dI) vwCl (dw_X5 a ac s34) H := by rw [es34]; exact hP
        have hD : va_D A (dw_X5 a ac s34) := by rw [es34]; exact hD
        refine lv_icmp_le (tgt := 119) hx hb dX5_pipe_112 (by decide) (fun c35 => ?_) (fun c35 => ?_)
        · have h := nd_pos h c35
          refine lv_aload_n hx hb dX5_pipe_119 rfl (lv_at hl 2 rfl) ?_
          refine va_get (D := (dC, dI)) (ci := 6) (v := .ref (a 4)) (C := RX5) (T := TX5) (N := 8) hx hb hts hi_dm_X5_pipe_X5 hown hK hP 0 rfl rfl 0 (by decide) (hts (.fieldLink RX5 18 "TimeMachine$Kernel" "machine" "LTimeMachine$Machine;") (List.mem_of_getElem? (i := 1) rfl)) (fun _ h9 => h9) rfl dX5_pipe_120 ?_
          refine lv_iload_n hx hb dX5_pipe_123 rfl (lv_at hl 3 rfl) ?_
          refine lv_iload_n hx hb dX5_pipe_124 rfl (lv_at hl 4 rfl) ?_
          obtain ⟨q36, s37, hq, h⟩ := nd_b2_e h
          have hPc := dp_X5_4 hP
          have hDc := dd_X5_4 hD
          have hKc := dy_X5_4 hK
          have hFc := nd_rs hDc hS hA
          have hzA : ∀ q : Nat, H.size ≤ q → A q := fun q h => hA q (Nat.le_trans hS.1 h)
          refine nd_cVi (As := [.int x1, .int x2]) (rest := []) (q := q36) (w' := dw_X6 (fun k => a (k + 4)) (fun k => ac (k + 4)) s37) ⟨hx, hb, hml, hown, hts⟩ (fun sz => dm_X6_own l hlt dC dI (fun k => a (k + 4)) (fun k => ac (k + 4)) n (x1) (x2) s34.2.2 hq sz) (cwV 2 hts gi_dm_X5_pipe_6 rfl rfl rfl (by decide +kernel) ⟨Nat.le_of_ble_eq_true rfl, Nat.le_of_ble_eq_true rfl⟩) hPc hDc hKc hS hA hN (va_recv hKc hPc (ci := 7) (q0 := 0) rfl rfl) rfl hl.1 rfl (Nat.le_of_ble_eq_true rfl) dX5_pipe_125 (fun H locs hP1 hD1 hk1 hS => ?_)
          obtain ⟨hP, hD⟩ := dn_X5_4 hP hD hzA hk1 hP1 hD1
          obtain ⟨s39, es39, h⟩ := nd_let_e h
          have hP : va_P (dC, dI) vwCl (dw_X5 a ac s39) H := by rw [es39]; exact hP
          have hD : va_D A (dw_X5 a ac s39) := by rw [es39]; exact hD
          refine lv_pop hx hb dX5_pipe_128 rfl ?_
          refine lv_aload_n hx hb dX5_pipe_129 rfl (lv_at hl 2 rfl) ?_
          refine va_get (D := (dC, dI)) (ci := 6) (v := .ref (a 4)) (C := RX5) (T := TX5) (N := 8) hx hb hts hi_dm_X5_pipe_X5 hown hK hP 0 rfl rfl 0 (by decide) (hts (.fieldLink RX5 18 "TimeMachine$Kernel" "machine" "LTimeMachine$Machine;") (List.mem_of_getElem? (i := 1) rfl)) (fun _ h9 => h9) rfl dX5_pipe_130 ?_
          refine lv_iload_n hx hb dX5_pipe_133 rfl (lv_at hl 3 rfl) ?_
          refine lv_iload_n hx hb dX5_pipe_134 rfl (lv_at hl 4 rfl) ?_
          refine lv_iconst (v := 4) hx hb dX5_pipe_135 (by decide) ?_
          refine lv_iadd hx hb dX5_pipe_136 ?_
          obtain ⟨q40, s41, hq, h⟩ := nd_b2_e h
          have hPc := dp_X5_4 hP
          have hDc := dd_X5_4 hD
          have hKc := dy_X5_4 hK
          have hFc := nd_rs hDc hS hA
          have hzA : ∀ q : Nat, H.size ≤ q → A q := fun q h => hA q (Nat.le_trans hS.1 h)
          refine nd_cVi (As := [.int x1, .int (x2 + 4)]) (rest := []) (q := q40) (w' := dw_X6 (fun k => a (k + 4)) (fun k => ac (k + 4)) s41) ⟨hx, hb, hml, hown, hts⟩ (fun sz => dm_X6_own l hlt dC dI (fun k => a (k + 4)) (fun k => ac (k + 4)) n (x1) ((x2 + 4)) s39.2.2 hq sz) (cwV 2 hts gi_dm_X5_pipe_6 rfl rfl rfl (by decide +kernel) ⟨Nat.le_of_ble_eq_true rfl, Nat.le_of_ble_eq_true rfl⟩) hPc hDc hKc hS hA hN (va_recv hKc hPc (ci := 7) (q0 := 0) rfl rfl) rfl hl.1 rfl (Nat.le_of_ble_eq_true rfl) dX5_pipe_137 (fun H locs hP1 hD1 hk1 hS => ?_)
          obtain ⟨hP, hD⟩ := dn_X5_4 hP hD hzA hk1 hP1 hD1
          obtain ⟨s43, es43, h⟩ := nd_let_e h
          have hP : va_P (dC, dI) vwCl (dw_X5 a ac s43) H := by rw [es43]; exact hP
          have hD : va_D A (dw_X5 a ac s43) := by rw [es43]; exact hD
          refine lv_pop hx hb dX5_pipe_140 rfl ?_
          refine lv_aload_n hx hb dX5_pipe_141 rfl (lv_at hl 2 rfl) ?_
          refine va_get (D := (dC, dI)) (ci := 6) (v := .ref (a 14)) (C := RX5) (T := TX5) (N := 8) hx hb hts hi_dm_X5_pipe_X5 hown hK hP 0 rfl rfl 1 (by decide) (hts (.fieldLink RX5 28 "TimeMachine$Kernel" "things" "LTimeMachine$Things;") (List.mem_of_getElem? (i := 6) rfl)) (fun _ h9 => h9) rfl dX5_pipe_142 ?_
          refine lv_iload hx hb dX5_pipe_145 (lv_at hl 0 rfl) ?_
          obtain ⟨s45, hq, h⟩ := nd_b1_e h
          have hPc := dp_X5_14 hP
          have hDc := dd_X5_14 hD
          have hKc := dy_X5_14 hK
          have hFc := nd_rs hDc hS hA
          have hzA : ∀ q : Nat, H.size ≤ q → A q := fun q h => hA q (Nat.le_trans hS.1 h)
          refine nd_cVv (As := [.int q16]) (rest := []) (w' := dw_X10 (fun k => a (k + 14)) (fun k => ac (k + 14)) s45) ⟨hx, hb, hml, hown, hts⟩ (fun sz => dm_X10_emptyPipe l hlt dC dI (fun k => a (k + 14)) (fun k => ac (k + 14)) n (q16) s43.2.2.2 hq sz) (cwV 1 hts gi_dm_X5_pipe_7 rfl rfl rfl (by decide +kernel) ⟨Nat.le_of_ble_eq_true rfl, Nat.le_of_ble_eq_true rfl⟩) hPc hDc hKc hS hA hN (va_recv hKc hPc (ci := 11) (q0 := 0) rfl rfl) rfl hl.1 rfl (Nat.le_of_ble_eq_true rfl) dX5_pipe_147 (fun H locs hP1 hD1 hk1 hS => ?_)
          obtain ⟨hP, hD⟩ := dn_X5_14 hP hD hzA hk1 hP1 hD1
          obtain ⟨s47, es47, h⟩ := nd_let_e h
          have hP : va_P (dC, dI) vwCl (dw_X5 a ac s47) H := by rw [es47]; exact hP
          have hD : va_D A (dw_X5 a ac s47) := by rw [es47]; exact hD
          refine lv_aload_n hx hb dX5_pipe_150 rfl (lv_at hl 2 rfl) ?_
          refine va_get (D := (dC, dI)) (ci := 6) (v := .ref (a 14)) (C := RX5) (T := TX5) (N := 8) hx hb hts hi_dm_X5_pipe_X5 hown hK hP 0 rfl rfl 1 (by decide) (hts (.fieldLink RX5 28 "TimeMachine$Kernel" "things" "LTimeMachine$Things;") (List.mem_of_getElem? (i := 6) rfl)) (fun _ h9 => h9) rfl dX5_pipe_151 ?_
          refine lv_iload_n hx hb dX5_pipe_154 rfl (lv_at hl 3 rfl) ?_
          refine lv_iload_n hx hb dX5_pipe_155 rfl (lv_at hl 5 rfl) ?_
          refine lv_aload_n hx hb dX5_pipe_156 rfl (lv_at hl 2 rfl) ?_
          refine va_get (D := (dC, dI)) (ci := 6) (v := .ref (a 14)) (C := RX5) (T := TX5) (N := 8) hx hb hts hi_dm_X5_pipe_X5 hown hK hP 0 rfl rfl 1 (by decide) (hts (.fieldLink RX5 28 "TimeMachine$Kernel" "things" "LTimeMachine$Things;") (List.mem_of_getElem? (i := 6) rfl)) (fun _ h9 => h9) rfl dX5_pipe_157 ?_
          refine lv_iconst (v := 1) hx hb dX5_pipe_160 (by decide) ?_
          refine lv_iload hx hb dX5_pipe_161 (lv_at hl 0 rfl) ?_
          refine lv_iconst (v := 1) hx hb dX5_pipe_163 (by decide) ?_
          obtain ⟨q48, s49, hq, h⟩ := nd_b2_e h
          have hPc := dp_X5_14 hP
          have hDc := dd_X5_14 hD
          have hKc := dy_X5_14 hK
          have hFc := nd_rs hDc hS hA
          have hzA : ∀ q : Nat, H.size ≤ q → A q := fun q h => hA q (Nat.le_trans hS.1 h)
          refine nd_cVi (As := [.int 1, .int q16, .int 1]) (rest := [.int x3, .int x1, .ref (a 14)]) (q := q48) (w' := dw_X10 (fun k => a (k + 14)) (fun k => ac (k + 14)) s49) ⟨hx, hb, hml, hown, hts⟩ (fun sz => dm_X10_open l hlt dC dI (fun k => a (k + 14)) (fun k => ac (k + 14)) n (1) (q16) (1) s47.2.2.2 hq sz) (cwV 3 hts gi_dm_X5_pipe_8 rfl rfl rfl (by decide +kernel) ⟨Nat.le_of_ble_eq_true rfl, Nat.le_of_ble_eq_true rfl⟩) hPc hDc hKc hS hA hN (va_recv hKc hPc (ci := 11) (q0 := 0) rfl rfl) rfl hl.1 rfl (Nat.le_of_ble_eq_true rfl) dX5_pipe_164 (fun H locs hP1 hD1 hk1 hS => ?_)
          obtain ⟨hP, hD⟩ := dn_X5_14 hP hD hzA hk1 hP1 hD1
          obtain ⟨s51, es51, h⟩ := nd_let_e h
          have hP : va_P (dC, dI) vwCl (dw_X5 a ac s51) H := by rw [es51]; exact hP
          have hD : va_D A (dw_X5 a ac s51) := by rw [es51]; exact hD
          obtain ⟨s53, hq, h⟩ := nd_b1_e h
          have hPc := dp_X5_14 hP
          have hDc := dd_X5_14 hD
          have hKc := dy_X5_14 hK
          have hFc := nd_rs hDc hS hA
          have hzA : ∀ q : Nat, H.size ≤ q → A q := fun q h => hA q (Nat.le_trans hS.1 h)
          refine nd_cVv (As := [.int x1, .int x3, .int q48]) (rest := []) (w' := dw_X10 (fun k => a (k + 14)) (fun k => ac (k + 14)) s53) ⟨hx, hb, hml, hown, hts⟩ (fun sz => dm_X10_linkTo l hlt dC dI (fun k => a (k + 14)) (fun k => ac (k + 14)) n (x1) (x3) (q48) s51.2.2.2 hq sz) (cwV 3 hts gi_dm_X5_pipe_9 rfl rfl rfl (by decide +kernel) ⟨Nat.le_of_ble_eq_true rfl, Nat.le_of_ble_eq_true rfl⟩) hPc hDc hKc hS hA hN (va_recv hKc hPc (ci := 11) (q0 := 0) rfl rfl) rfl hl.1 rfl (Nat.le_of_ble_eq_true rfl) dX5_pipe_167 (fun H locs hP1 hD1 hk1 hS => ?_)
          obtain ⟨hP, hD⟩ := dn_X5_14 hP hD hzA hk1 hP1 hD1
          obtain ⟨s55, es55, h⟩ := nd_let_e h
          have hP : va_P (dC, dI) vwCl (dw_X5 a ac s55) H := by rw [es55]; exact hP
          have hD : va_D A (dw_X5 a ac s55) := by rw [es55]; exact hD
          refine lv_aload_n hx hb dX5_pipe_170 rfl (lv_at hl 2 rfl) ?_
          refine va_get (D := (dC, dI)) (ci := 6) (v := .ref (a 14)) (C := RX5) (T := TX5) (N := 8) hx hb hts hi_dm_X5_pipe_X5 hown hK hP 0 rfl rfl 1 (by decide) (hts (.fieldLink RX5 28 "TimeMachine$Kernel" "things" "LTimeMachine$Things;") (List.mem_of_getElem? (i := 6) rfl)) (fun _ h9 => h9) rfl dX5_pipe_171 ?_
          refine lv_iload_n hx hb dX5_pipe_174 rfl (lv_at hl 3 rfl) ?_
          refine lv_iload hx hb dX5_pipe_175 (lv_at hl 1 rfl) ?_
          refine lv_aload_n hx hb dX5_pipe_177 rfl (lv_at hl 2 rfl) ?_
          refine va_get (D := (dC, dI)) (ci := 6) (v := .ref (a 14)) (C := RX5) (T := TX5) (N := 8) hx hb hts hi_dm_X5_pipe_X5 hown hK hP 0 rfl rfl 1 (by decide) (hts (.fieldLink RX5 28 "TimeMachine$Kernel" "things" "LTimeMachine$Things;") (List.mem_of_getElem? (i := 6) rfl)) (fun _ h9 => h9) rfl dX5_pipe_178 ?_
          refine lv_iconst (v := 2) hx hb dX5_pipe_181 (by decide) ?_
          refine lv_iload hx hb dX5_pipe_182 (lv_at hl 0 rfl) ?_
          refine lv_iconst (v := 2) hx hb dX5_pipe_184 (by decide) ?_
          obtain ⟨q56, s57, hq, h⟩ := nd_b2_e h
          have hPc := dp_X5_14 hP
          have hDc := dd_X5_14 hD
          have hKc := dy_X5_14 hK
          have hFc := nd_rs hDc hS hA
          have hzA : ∀ q : Nat, H.size ≤ q → A q := fun q h => hA q (Nat.le_trans hS.1 h)
          refine nd_cVi (As := [.int 2, .int q16, .int 2]) (rest := [.int y0, .int x1, .ref (a 14)]) (q := q56) (w' := dw_X10 (fun k => a (k + 14)) (fun k => ac (k + 14)) s57) ⟨hx, hb, hml, hown, hts⟩ (fun sz => dm_X10_open l hlt dC dI (fun k => a (k + 14)) (fun k => ac (k + 14)) n (2) (q16) (2) s55.2.2.2 hq sz) (cwV 3 hts gi_dm_X5_pipe_8 rfl rfl rfl (by decide +kernel) ⟨Nat.le_of_ble_eq_true rfl, Nat.le_of_ble_eq_true rfl⟩) hPc hDc hKc hS hA hN (va_recv hKc hPc (ci := 11) (q0 := 0) rfl rfl) rfl hl.1 rfl (Nat.le_of_ble_eq_true rfl) dX5_pipe_185 (fun H locs hP1 hD1 hk1 hS => ?_)
          obtain ⟨hP, hD⟩ := dn_X5_14 hP hD hzA hk1 hP1 hD1
          obtain ⟨s59, es59, h⟩ := nd_let_e h
          have hP : va_P (dC, dI) vwCl (dw_X5 a ac s59) H := by rw [es59]; exact hP
          have hD : va_D A (dw_X5 a ac s59) := by rw [es59]; exact hD
          obtain ⟨s61, hq, h⟩ := nd_b1_e h
          have hPc := dp_X5_14 hP
          have hDc := dd_X5_14 hD
          have hKc := dy_X5_14 hK
          have hFc := nd_rs hDc hS hA
          have hzA : ∀ q : Nat, H.size ≤ q → A q := fun q h => hA q (Nat.le_trans hS.1 h)
          refine nd_cVv (As := [.int x1, .int y0, .int q56]) (rest := []) (w' := dw_X10 (fun k => a (k + 14)) (fun k => ac (k + 14)) s61) ⟨hx, hb, hml, hown, hts⟩ (fun sz => dm_X10_linkTo l hlt dC dI (fun k => a (k + 14)) (fun k => ac (k + 14)) n (x1) (y0) (q56) s59.2.2.2 hq sz) (cwV 3 hts gi_dm_X5_pipe_9 rfl rfl rfl (by decide +kernel) ⟨Nat.le_of_ble_eq_true rfl, Nat.le_of_ble_eq_true rfl⟩) hPc hDc hKc hS hA hN (va_recv hKc hPc (ci := 11) (q0 := 0) rfl rfl) rfl hl.1 rfl (Nat.le_of_ble_eq_true rfl) dX5_pipe_188 (fun H locs hP1 hD1 hk1 hS => ?_)
          obtain ⟨hP, hD⟩ := dn_X5_14 hP hD hzA hk1 hP1 hD1
          obtain ⟨s63, es63, h⟩ := nd_let_e h
          have hP : va_P (dC, dI) vwCl (dw_X5 a ac s63) H := by rw [es63]; exact hP
          have hD : va_D A (dw_X5 a ac s63) := by rw [es63]; exact hD
          refine lv_aload_n hx hb dX5_pipe_191 rfl (lv_at hl 2 rfl) ?_
          refine va_get (D := (dC, dI)) (ci := 6) (v := .ref (a 4)) (C := RX5) (T := TX5) (N := 8) hx hb hts hi_dm_X5_pipe_X5 hown hK hP 0 rfl rfl 0 (by decide) (hts (.fieldLink RX5 18 "TimeMachine$Kernel" "machine" "LTimeMachine$Machine;") (List.mem_of_getElem? (i := 1) rfl)) (fun _ h9 => h9) rfl dX5_pipe_192 ?_
          refine lv_iload_n hx hb dX5_pipe_195 rfl (lv_at hl 3 rfl) ?_
          refine lv_iload_n hx hb dX5_pipe_196 rfl (lv_at hl 4 rfl) ?_
          refine lv_iconst (v := (-1)) hx hb dX5_pipe_197 (by decide) ?_
          refine lv_iload_n hx hb dX5_pipe_198 rfl (lv_at hl 5 rfl) ?_
          obtain ⟨s65, hq, h⟩ := nd_b1_e h
          have hPc := dp_X5_4 hP
          have hDc := dd_X5_4 hD
          have hKc := dy_X5_4 hK
          have hFc := nd_rs hDc hS hA
          have hzA : ∀ q : Nat, H.size ≤ q → A q := fun q h => hA q (Nat.le_trans hS.1 h)
          refine nd_cVv (As := [.int x1, .int x2, .int (-1), .int x3]) (rest := []) (w' := dw_X6 (fun k => a (k + 4)) (fun k => ac (k + 4)) s65) ⟨hx, hb, hml, hown, hts⟩ (fun sz => dm_X6_put l hlt dC dI (fun k => a (k + 4)) (fun k => ac (k + 4)) n (x1) (x2) ((-1)) (x3) s63.2.2 hq sz) (cwV 4 hts gi_dm_X5_pipe_10 rfl rfl rfl (by decide +kernel) ⟨Nat.le_of_ble_eq_true rfl, Nat.le_of_ble_eq_true rfl⟩) hPc hDc hKc hS hA hN (va_recv hKc hPc (ci := 7) (q0 := 0) rfl rfl) rfl hl.1 rfl (Nat.le_of_ble_eq_true rfl) dX5_pipe_199 (fun H locs hP1 hD1 hk1 hS => ?_)
          obtain ⟨hP, hD⟩ := dn_X5_4 hP hD hzA hk1 hP1 hD1
          obtain ⟨s67, es67, h⟩ := nd_let_e h
          have hP : va_P (dC, dI) vwCl (dw_X5 a ac s67) H := by rw [es67]; exact hP
          have hD : va_D A (dw_X5 a ac s67) := by rw [es67]; exact hD
          refine lv_aload_n hx hb dX5_pipe_202 rfl (lv_at hl 2 rfl) ?_
          refine va_get (D := (dC, dI)) (ci := 6) (v := .ref (a 4)) (C := RX5) (T := TX5) (N := 8) hx hb hts hi_dm_X5_pipe_X5 hown hK hP 0 rfl rfl 0 (by decide) (hts (.fieldLink RX5 18 "TimeMachine$Kernel" "machine" "LTimeMachine$Machine;") (List.mem_of_getElem? (i := 1) rfl)) (fun _ h9 => h9) rfl dX5_pipe_203 ?_
          refine lv_iload_n hx hb dX5_pipe_206 rfl (lv_at hl 3 rfl) ?_
          refine lv_iload_n hx hb dX5_pipe_207 rfl (lv_at hl 4 rfl) ?_
          refine lv_iconst (v := 4) hx hb dX5_pipe_208 (by decide) ?_
          refine lv_iadd hx hb dX5_pipe_209 ?_
          refine lv_iconst (v := (-1)) hx hb dX5_pipe_210 (by decide) ?_
          refine lv_iload hx hb dX5_pipe_211 (lv_at hl 1 rfl) ?_
          obtain ⟨s69, hq, h⟩ := nd_b1_e h
          have hPc := dp_X5_4 hP
          have hDc := dd_X5_4 hD
          have hKc := dy_X5_4 hK
          have hFc := nd_rs hDc hS hA
          have hzA : ∀ q : Nat, H.size ≤ q → A q := fun q h => hA q (Nat.le_trans hS.1 h)
          refine nd_cVv (As := [.int x1, .int (x2 + 4), .int (-1), .int y0]) (rest := []) (w' := dw_X6 (fun k => a (k + 4)) (fun k => ac (k + 4)) s69) ⟨hx, hb, hml, hown, hts⟩ (fun sz => dm_X6_put l hlt dC dI (fun k => a (k + 4)) (fun k => ac (k + 4)) n (x1) ((x2 + 4)) ((-1)) (y0) s67.2.2 hq sz) (cwV 4 hts gi_dm_X5_pipe_10 rfl rfl rfl (by decide +kernel) ⟨Nat.le_of_ble_eq_true rfl, Nat.le_of_ble_eq_true rfl⟩) hPc hDc hKc hS hA hN (va_recv hKc hPc (ci := 7) (q0 := 0) rfl rfl) rfl hl.1 rfl (Nat.le_of_ble_eq_true rfl) dX5_pipe_213 (fun H locs hP1 hD1 hk1 hS => ?_)
          obtain ⟨hP, hD⟩ := dn_X5_4 hP hD hzA hk1 hP1 hD1
          obtain ⟨s71, es71, h⟩ := nd_let_e h
          have hP : va_P (dC, dI) vwCl (dw_X5 a ac s71) H := by rw [es71]; exact hP
          have hD : va_D A (dw_X5 a ac s71) := by rw [es71]; exact hD
          refine lv_aload_n hx hb dX5_pipe_216 rfl (lv_at hl 2 rfl) ?_
          refine va_get (D := (dC, dI)) (ci := 6) (v := .ref (a 4)) (C := RX5) (T := TX5) (N := 8) hx hb hts hi_dm_X5_pipe_X5 hown hK hP 0 rfl rfl 0 (by decide) (hts (.fieldLink RX5 18 "TimeMachine$Kernel" "machine" "LTimeMachine$Machine;") (List.mem_of_getElem? (i := 1) rfl)) (fun _ h9 => h9) rfl dX5_pipe_217 ?_
          refine lv_iload_n hx hb dX5_pipe_220 rfl (lv_at hl 3 rfl) ?_
          refine lv_iload_n hx hb dX5_pipe_221 rfl (lv_at hl 4 rfl) ?_
          refine lv_bipush (v := 8) hx hb dX5_pipe_222 (by decide) ?_
          obtain ⟨s73, hq, h⟩ := nd_b1_e h
          have hPc := dp_X5_4 hP
          have hDc := dd_X5_4 hD
          have hKc := dy_X5_4 hK
          have hFc := nd_rs hDc hS hA
          have hzA : ∀ q : Nat, H.size ≤ q → A q := fun q h => hA q (Nat.le_trans hS.1 h)
          refine nd_cVv (As := [.int x1, .int x2, .int 8]) (rest := []) (w' := dw_X6 (fun k => a (k + 4)) (fun k => ac (k + 4)) s73) ⟨hx, hb, hml, hown, hts⟩ (fun sz => dm_X6_noteWrite l hlt dC dI (fun k => a (k + 4)) (fun k => ac (k + 4)) n (x1) (x2) (8) s71.2.2 hq sz) (cwV 3 hts gi_dm_X5_pipe_11 rfl rfl rfl (by decide +kernel) ⟨Nat.le_of_ble_eq_true rfl, Nat.le_of_ble_eq_true rfl⟩) hPc hDc hKc hS hA hN (va_recv hKc hPc (ci := 7) (q0 := 0) rfl rfl) rfl hl.1 rfl (Nat.le_of_ble_eq_true rfl) dX5_pipe_224 (fun H locs hP1 hD1 hk1 hS => ?_)
          obtain ⟨hP, hD⟩ := dn_X5_4 hP hD hzA hk1 hP1 hD1
          obtain ⟨s75, es75, h⟩ := nd_let_e h
          have hP : va_P (dC, dI) vwCl (dw_X5 a ac s75) H := by rw [es75]; exact hP
          have hD : va_D A (dw_X5 a ac s75) := by rw [es75]; exact hD
          refine lv_lconst (v := 0) hx hb dX5_pipe_227 (by decide) ?_
          exact K _ _ _ _ _ _ dX5_pipe_228 (Option.some.inj h).symm hP hD hS
        · have h := nd_neg h c35
          refine lv_ldc2 hx hb hown (hts (.constantLong RX5 155 (4398046511104)) (List.mem_of_getElem? (i := 42) rfl)) dX5_pipe_115 ?_
          exact K _ _ _ _ _ _ dX5_pipe_118 (Option.some.inj h).symm hP hD hS
      · have h := nd_neg h c26
        exact (db_X5_pipe_90 C K)  s25 _ _ _ h hP hD hS (lv_sub hl [] rfl)
set_option maxHeartbeats 40000000 in
set_option maxRecDepth 100000 in
theorem db_X5_pipe_0 {p : Program} {l : Launch} {e : Env} {s : State} {m : MethodId} {args : Array Value} {below : List Frame} {meth : Method} {c : Code} {Q : State → Prop} {A : Nat → Prop} {dC : Nat → ClassId} {dI : Nat → Nat → Nat} {a : Nat → Nat} {ac : Nat → ClassId} {n : Nat} {r : Int64 × (St × (St × (St × (St))))} (C : nd_C p l s m args c A (dC, dI) cX5_pipe 6 RX5 ow_dm_X5_pipe (dk_X5 ac)) (K : nd_Kl p l e (headSpec ow_dm_X5_pipe ({ frames := 2, cells := 0, slots := 0, locals := 65 })).room s m args below meth c Q A (dC, dI) cX5_pipe (St × (St × (St × (St)))) (dw_X5 a ac) r) : dj_X5_pipe_0 p l e s m args below meth c Q A dC dI a ac (df_X5_pipe_0 n) r := by
  obtain ⟨hlt, hx, hb, hml, hown, hts, hN, hA, hK⟩ := id C
  intro v0 v1 s0 H locs ls h hP hD hS hl
  unfold df_X5_pipe_0 at h
  refine lv_iload_n hx hb dX5_pipe_0 rfl (lv_at hl 2 rfl) ?_
  refine lv_iconst (v := 3) hx hb dX5_pipe_1 (by decide) ?_
  refine lv_iand hx hb dX5_pipe_2 ?_
  refine lv_if_eq (tgt := 10) hx hb dX5_pipe_3 (by decide) (fun c1 => ?_) (fun c1 => ?_)
  · have h := nd_pos h c1
    refine lv_aload_n hx hb dX5_pipe_10 rfl (lv_at hl 0 rfl) ?_
    refine va_get (D := (dC, dI)) (ci := 6) (v := .ref (a 4)) (C := RX5) (T := TX5) (N := 8) hx hb hts hi_dm_X5_pipe_X5 hown hK hP 0 rfl rfl 0 (by decide) (hts (.fieldLink RX5 18 "TimeMachine$Kernel" "machine" "LTimeMachine$Machine;") (List.mem_of_getElem? (i := 1) rfl)) (fun _ h9 => h9) rfl dX5_pipe_11 ?_
    refine lv_iload_n hx hb dX5_pipe_14 rfl (lv_at hl 1 rfl) ?_
    refine lv_iload_n hx hb dX5_pipe_15 rfl (lv_at hl 2 rfl) ?_
    refine lv_bipush (v := 8) hx hb dX5_pipe_16 (by decide) ?_
    refine lv_iconst (v := 2) hx hb dX5_pipe_18 (by decide) ?_
    obtain ⟨q2, s3, hq, h⟩ := nd_b2_e h
    have hPc := dp_X5_4 hP
    have hDc := dd_X5_4 hD
    have hKc := dy_X5_4 hK
    have hFc := nd_rs hDc hS hA
    have hzA : ∀ q : Nat, H.size ≤ q → A q := fun q h => hA q (Nat.le_trans hS.1 h)
    refine nd_cVi (As := [.int v0, .int v1, .int 8, .int 2]) (rest := []) (q := q2) (w' := dw_X6 (fun k => a (k + 4)) (fun k => ac (k + 4)) s3) ⟨hx, hb, hml, hown, hts⟩ (fun sz => dm_X6_mayAll l hlt dC dI (fun k => a (k + 4)) (fun k => ac (k + 4)) n (v0) (v1) (8) (2) s0.2.2 hq sz) (cwV 4 hts gi_dm_X5_pipe_0 rfl rfl rfl (by decide +kernel) ⟨Nat.le_of_ble_eq_true rfl, Nat.le_of_ble_eq_true rfl⟩) hPc hDc hKc hS hA hN (va_recv hKc hPc (ci := 7) (q0 := 0) rfl rfl) rfl hl.1 rfl (Nat.le_of_ble_eq_true rfl) dX5_pipe_19 (fun H locs hP1 hD1 hk1 hS => ?_)
    obtain ⟨hP, hD⟩ := dn_X5_4 hP hD hzA hk1 hP1 hD1
    obtain ⟨s5, es5, h⟩ := nd_let_e h
    have hP : va_P (dC, dI) vwCl (dw_X5 a ac s5) H := by rw [es5]; exact hP
    have hD : va_D A (dw_X5 a ac s5) := by rw [es5]; exact hD
    refine lv_if_ne (tgt := 29) hx hb dX5_pipe_22 (by decide) (fun c6 => ?_) (fun c6 => ?_)
    · have h := nd_neg h c6
      refine lv_aload_n hx hb dX5_pipe_29 rfl (lv_at hl 0 rfl) ?_
      refine va_get (D := (dC, dI)) (ci := 6) (v := .ref (a 14)) (C := RX5) (T := TX5) (N := 8) hx hb hts hi_dm_X5_pipe_X5 hown hK hP 0 rfl rfl 1 (by decide) (hts (.fieldLink RX5 28 "TimeMachine$Kernel" "things" "LTimeMachine$Things;") (List.mem_of_getElem? (i := 6) rfl)) (fun _ h9 => h9) rfl dX5_pipe_30 ?_
      refine lv_iload_n hx hb dX5_pipe_33 rfl (lv_at hl 1 rfl) ?_
      refine lv_iconst (v := 0) hx hb dX5_pipe_34 (by decide) ?_
      obtain ⟨q7, s8, hq, h⟩ := nd_b2_e h
      have hPc := dp_X5_14 hP
      have hDc := dd_X5_14 hD
      have hKc := dy_X5_14 hK
      have hFc := nd_rs hDc hS hA
      have hzA : ∀ q : Nat, H.size ≤ q → A q := fun q h => hA q (Nat.le_trans hS.1 h)
      refine nd_cVi (As := [.int v0, .int 0]) (rest := []) (q := q7) (w' := dw_X10 (fun k => a (k + 14)) (fun k => ac (k + 14)) s8) ⟨hx, hb, hml, hown, hts⟩ (fun sz => dm_X10_freeLink l hlt dC dI (fun k => a (k + 14)) (fun k => ac (k + 14)) n (v0) (0) s5.2.2.2 hq sz) (cwV 2 hts gi_dm_X5_pipe_1 rfl rfl rfl (by decide +kernel) ⟨Nat.le_of_ble_eq_true rfl, Nat.le_of_ble_eq_true rfl⟩) hPc hDc hKc hS hA hN (va_recv hKc hPc (ci := 11) (q0 := 0) rfl rfl) rfl hl.1 rfl (Nat.le_of_ble_eq_true rfl) dX5_pipe_35 (fun H locs hP1 hD1 hk1 hS => ?_)
      obtain ⟨hP, hD⟩ := dn_X5_14 hP hD hzA hk1 hP1 hD1
      obtain ⟨s10, es10, h⟩ := nd_let_e h
      have hP : va_P (dC, dI) vwCl (dw_X5 a ac s10) H := by rw [es10]; exact hP
      have hD : va_D A (dw_X5 a ac s10) := by rw [es10]; exact hD
      refine lv_istore_n (lv' := [(3, .int q7), (0, .ref (a 0)), (1, .int v0), (2, .int v1)]) hx hb dX5_pipe_38 rfl hl (by decide) rfl (fun ls hl => ?_)
      refine lv_iload_n hx hb dX5_pipe_39 rfl (lv_at hl 0 rfl) ?_
      refine lv_if_ge (tgt := 47) hx hb dX5_pipe_40 (by decide) (fun c11 => ?_) (fun c11 => ?_)
      · have h := nd_pos h c11
        refine lv_aload_n hx hb dX5_pipe_47 rfl (lv_at hl 1 rfl) ?_
        refine va_get (D := (dC, dI)) (ci := 6) (v := .ref (a 14)) (C := RX5) (T := TX5) (N := 8) hx hb hts hi_dm_X5_pipe_X5 hown hK hP 0 rfl rfl 1 (by decide) (hts (.fieldLink RX5 28 "TimeMachine$Kernel" "things" "LTimeMachine$Things;") (List.mem_of_getElem? (i := 6) rfl)) (fun _ h9 => h9) rfl dX5_pipe_48 ?_
        refine lv_iload_n hx hb dX5_pipe_51 rfl (lv_at hl 2 rfl) ?_
        refine lv_iload_n hx hb dX5_pipe_52 rfl (lv_at hl 0 rfl) ?_
        refine lv_iconst (v := 1) hx hb dX5_pipe_53 (by decide) ?_
        refine lv_iadd hx hb dX5_pipe_54 ?_
        obtain ⟨q12, s13, hq, h⟩ := nd_b2_e h
        have hPc := dp_X5_14 hP
        have hDc := dd_X5_14 hD
        have hKc := dy_X5_14 hK
        have hFc := nd_rs hDc hS hA
        have hzA : ∀ q : Nat, H.size ≤ q → A q := fun q h => hA q (Nat.le_trans hS.1 h)
        refine nd_cVi (As := [.int v0, .int (q7 + 1)]) (rest := []) (q := q12) (w' := dw_X10 (fun k => a (k + 14)) (fun k => ac (k + 14)) s13) ⟨hx, hb, hml, hown, hts⟩ (fun sz => dm_X10_freeLink l hlt dC dI (fun k => a (k + 14)) (fun k => ac (k + 14)) n (v0) ((q7 + 1)) s10.2.2.2 hq sz) (cwV 2 hts gi_dm_X5_pipe_1 rfl rfl rfl (by decide +kernel) ⟨Nat.le_of_ble_eq_true rfl, Nat.le_of_ble_eq_true rfl⟩) hPc hDc hKc hS hA hN (va_recv hKc hPc (ci := 11) (q0 := 0) rfl rfl) rfl hl.1 rfl (Nat.le_of_ble_eq_true rfl) dX5_pipe_55 (fun H locs hP1 hD1 hk1 hS => ?_)
        obtain ⟨hP, hD⟩ := dn_X5_14 hP hD hzA hk1 hP1 hD1
        obtain ⟨s15, es15, h⟩ := nd_let_e h
        have hP : va_P (dC, dI) vwCl (dw_X5 a ac s15) H := by rw [es15]; exact hP
        have hD : va_D A (dw_X5 a ac s15) := by rw [es15]; exact hD
        exact (db_X5_pipe_58 C K) (v0) (v1) (q7) (q12) s15 _ _ _ h hP hD hS (lv_sub hl [1, 2, 3, 0] rfl)
      · have h := nd_neg h c11
        refine lv_iconst (v := (-1)) hx hb dX5_pipe_43 (by decide) ?_
        refine lv_goto (tgt := 58) hx hb dX5_pipe_44 (by decide) ?_
        exact (db_X5_pipe_58 C K) (v0) (v1) (q7) ((-1)) s10 _ _ _ h hP hD hS (lv_sub hl [1, 2, 3, 0] rfl)
    · have h := nd_pos h c6
      refine lv_ldc2 hx hb hown (hts (.constantLong RX5 257 (-14)) (List.mem_of_getElem? (i := 43) rfl)) dX5_pipe_25 ?_
      exact K _ _ _ _ _ _ dX5_pipe_28 (Option.some.inj h).symm hP hD hS
  · have h := nd_neg h c1
    refine lv_ldc2 hx hb hown (hts (.constantLong RX5 251 (-22)) (List.mem_of_getElem? (i := 44) rfl)) dX5_pipe_6 ?_
    exact K _ _ _ _ _ _ dX5_pipe_9 (Option.some.inj h).symm hP hD hS
set_option maxHeartbeats 40000000 in
set_option maxRecDepth 100000 in
theorem dm_X5_pipe (l : Launch) (hlt : l.stackTraces = false) (dC : Nat → ClassId) (dI : Nat → Nat → Nat) (a : Nat → Nat) (ac : Nat → ClassId) (n : Nat) (v0 : Int32) (v1 : Int32) (s0 : St × (St × (St × (St)))) {r : Int64 × (St × (St × (St × (St))))} (h : df_X5_pipe n v0 v1 s0 = some r) (sz : Nat) : Met l yX5_pipe ow_dm_X5_pipe ({ frames := 2, cells := 0, slots := 0, locals := 65 }) (va_Pc [.ref (a 0), .int v0, .int v1] (fun U => U.heap.size = sz ∧ va_P (dC, dI) vwCl (dw_X5 a ac s0) U.heap ∧ va_K (dC, dI) vwCl (dk_X5 ac) U ∧ va_D (fun _ => True) (dw_X5 a ac s0) ∧ nv_E (va_A (dw_X5 a ac s0) sz) U)) (va_Ql (fun x _ => x = r.1) (fun (_ : Unit) t => va_P (dC, dI) vwCl (dw_X5 a ac r.2) t.heap ∧ va_K (dC, dI) vwCl (dk_X5 ac) t ∧ va_D (va_A (dw_X5 a ac s0) sz) (dw_X5 a ac r.2)) (va_A (dw_X5 a ac s0) sz)) 0 0 (va_A (dw_X5 a ac s0) sz) := by
  refine Met.ofW (cc := cX5_pipe) (maxL := 6) (ret := (some .long)) (by decide) rfl ?_
  intro p e s m args below meth c s₁ B hml hv
  obtain ⟨rfl, hsz, hP, hK, hD0, hN⟩ := hv
  have hx := B.exec
  have hb := B.bytes
  have hr := B.returns
  have hts := atoms_spec (ws := ow_dm_X5_pipe) B.pre
  have hown : s.vm.findClass RX5 = some m.cls := findClass_of_methodNamed B.named
  have hlocks := B.notSynchronized
  subst hsz
  have hD := hD0.self (sz := s.heap.size)
  generalize hAe : va_A (dw_X5 a ac s0) s.heap.size = A at hD hN ⊢
  have hA : ∀ q : Nat, s.heap.size ≤ q → A q := fun q h => by rw [← hAe]; exact Or.inr h
  have hl := lv_entry ([.ref (a 0), .int v0, .int v1]) (n := 6) (Nat.le_of_ble_eq_true rfl)
  rw [lg_entry_eq]
  generalize (lg_sl ([.ref (a 0), .int v0, .int v1]) ++ List.replicate (6 - (lg_sl ([.ref (a 0), .int v0, .int v1])).length) Slot.unset).toArray = ls at hl ⊢
  have hl : lv_has ls 6 [(0, .ref (a 0)), (1, .int v0), (2, .int v1)] := hl
  exact db_X5_pipe_0 (dC := dC) (dI := dI) (a := a) (ac := ac) (n := n) (r := r) ⟨hlt, hx, hb, hml, hown, hts, hN, hA, hK⟩ (fun pc v τ H locs ls d er hP hD hS => by subst er; exact W.lret (v := v) hx hb hr (fun t ht hW => ⟨⟨v, (), rfl, rfl, by rw [ht]; exact hP, va_K.moved hW.alike hK, hD⟩, hS.F ht⟩) hS.2.2 d) v0 v1 s0 _ _ _ h hP hD va_S.rf (lv_sub hl [0, 1, 2] rfl)
def ow_dm_X5_read : List Cond := .code yX5_read cX5_read 8 (some .long) :: ([.constantLong RX5 251 (-22), .fieldLink RX5 18 "TimeMachine$Kernel" "machine" "LTimeMachine$Machine;", .methodLink RX5 253 yX6_mayAll, .instanceMethod yX6_mayAll, .selects RX6 yX6_mayAll yX6_mayAll, .initialized RX6, .fieldLink RX5 28 "TimeMachine$Kernel" "things" "LTimeMachine$Things;", .methodLink RX5 123 yX10_openingOf, .instanceMethod yX10_openingOf, .selects RX10 yX10_openingOf yX10_openingOf, .initialized RX10, .constantLong RX5 294 (-1), .methodLink RX5 291 yX10_of, .instanceMethod yX10_of, .selects RX10 yX10_of yX10_of, .methodLink RX5 126 yX10_readWaits, .instanceMethod yX10_readWaits, .selects RX10 yX10_readWaits yX10_readWaits, .methodLink RX5 296 yX10_coming, .instanceMethod yX10_coming, .selects RX10 yX10_coming yX10_coming, .methodLink RX5 268 yX6_framesFor, .instanceMethod yX6_framesFor, .selects RX6 yX6_framesFor yX6_framesFor, .methodLink RX5 232 yX6_framesFree, .instanceMethod yX6_framesFree, .selects RX6 yX6_framesFree yX6_framesFree, .methodLink RX5 288 yX6_noteWrite, .instanceMethod yX6_noteWrite, .selects RX6 yX6_noteWrite yX6_noteWrite, .methodLink RX5 302 yX10_taken, .instanceMethod yX10_taken, .selects RX10 yX10_taken yX10_taken, .methodLink RX5 299 yX10_comingByte, .instanceMethod yX10_comingByte, .selects RX10 yX10_comingByte yX10_comingByte, .methodLink RX5 284 yX6_put, .instanceMethod yX6_put, .selects RX6 yX6_put yX6_put, .methodLink RX5 272 yX6_own, .instanceMethod yX6_own, .selects RX6 yX6_own yX6_own, .constantLong RX5 155 (4398046511104), .constantLong RX5 157 (1099511627776), .constantLong RX5 257 (-14)] ++ (u_ws RX5 TX5 8 ++ (ow_dm_X6_mayAll ++ (ow_dm_X10_openingOf ++ (ow_dm_X10_of ++ (ow_dm_X10_readWaits ++ (ow_dm_X10_coming ++ (ow_dm_X6_framesFor ++ (ow_dm_X6_framesFree ++ (ow_dm_X6_noteWrite ++ (ow_dm_X10_taken ++ (ow_dm_X10_comingByte ++ (ow_dm_X6_put ++ (ow_dm_X6_own ++ []))))))))))))))
theorem gd_dm_X5_read : ∀ w ∈ ow_dm_X5_read, (w.onTables && w.keeps) = true ∨ ∃ ty, w = Cond.arrayClass ty := List.forall_mem_cons.mpr ⟨good_of_word rfl, List.forall_mem_append.mpr ⟨fun w h => good_of_word (List.all_eq_true.mp (by decide +kernel) w h), List.forall_mem_append.mpr ⟨gu_X5, List.forall_mem_append.mpr ⟨gd_dm_X6_mayAll, List.forall_mem_append.mpr ⟨gd_dm_X10_openingOf, List.forall_mem_append.mpr ⟨gd_dm_X10_of, List.forall_mem_append.mpr ⟨gd_dm_X10_readWaits, List.forall_mem_append.mpr ⟨gd_dm_X10_coming, List.forall_mem_append.mpr ⟨gd_dm_X6_framesFor, List.forall_mem_append.mpr ⟨gd_dm_X6_framesFree, List.forall_mem_append.mpr ⟨gd_dm_X6_noteWrite, List.forall_mem_append.mpr ⟨gd_dm_X10_taken, List.forall_mem_append.mpr ⟨gd_dm_X10_comingByte, List.forall_mem_append.mpr ⟨gd_dm_X6_put, List.forall_mem_append.mpr ⟨gd_dm_X6_own, fun _ h => nomatch h⟩⟩⟩⟩⟩⟩⟩⟩⟩⟩⟩⟩⟩⟩⟩
theorem hi_dm_X5_read_X5 : ∀ w ∈ u_ws RX5 TX5 8, w ∈ ow_dm_X5_read := fun w h => List.mem_cons_of_mem _ (List.mem_append_right _ (List.mem_append_left _ h))
theorem gi_dm_X5_read_0 : GoodIn ow_dm_X5_read (wsV RX5 253 RX6 yX6_mayAll ow_dm_X6_mayAll) := goodIn_app (goodIn_of _ (by decide +kernel)) (fun w h => ⟨List.mem_cons_of_mem _ (List.mem_append_right _ (List.mem_append_right _ (List.mem_append_left _ h))), gd_dm_X6_mayAll w h⟩)
theorem gi_dm_X5_read_1 : GoodIn ow_dm_X5_read (wsV RX5 123 RX10 yX10_openingOf ow_dm_X10_openingOf) := goodIn_app (goodIn_of _ (by decide +kernel)) (fun w h => ⟨List.mem_cons_of_mem _ (List.mem_append_right _ (List.mem_append_right _ (List.mem_append_right _ (List.mem_append_left _ h)))), gd_dm_X10_openingOf w h⟩)
theorem gi_dm_X5_read_2 : GoodIn ow_dm_X5_read (wsV RX5 291 RX10 yX10_of ow_dm_X10_of) := goodIn_app (goodIn_of _ (by decide +kernel)) (fun w h => ⟨List.mem_cons_of_mem _ (List.mem_append_right _ (List.mem_append_right _ (List.mem_append_right _ (List.mem_append_right _ (List.mem_append_left _ h))))), gd_dm_X10_of w h⟩)
theorem gi_dm_X5_read_3 : GoodIn ow_dm_X5_read (wsV RX5 126 RX10 yX10_readWaits ow_dm_X10_readWaits) := goodIn_app (goodIn_of _ (by decide +kernel)) (fun w h => ⟨List.mem_cons_of_mem _ (List.mem_append_right _ (List.mem_append_right _ (List.mem_append_right _ (List.mem_append_right _ (List.mem_append_right _ (List.mem_append_left _ h)))))), gd_dm_X10_readWaits w h⟩)
theorem gi_dm_X5_read_4 : GoodIn ow_dm_X5_read (wsV RX5 296 RX10 yX10_coming ow_dm_X10_coming) := goodIn_app (goodIn_of _ (by decide +kernel)) (fun w h => ⟨List.mem_cons_of_mem _ (List.mem_append_right _ (List.mem_append_right _ (List.mem_append_right _ (List.mem_append_right _ (List.mem_append_right _ (List.mem_append_right _ (List.mem_append_left _ h))))))), gd_dm_X10_coming w h⟩)
theorem gi_dm_X5_read_5 : GoodIn ow_dm_X5_read (wsV RX5 268 RX6 yX6_framesFor ow_dm_X6_framesFor) := goodIn_app (goodIn_of _ (by decide +kernel)) (fun w h => ⟨List.mem_cons_of_mem _ (List.mem_append_right _ (List.mem_append_right _ (List.mem_append_right _ (List.mem_append_right _ (List.mem_append_right _ (List.mem_append_right _ (List.mem_append_right _ (List.mem_append_left _ h)))))))), gd_dm_X6_framesFor w h⟩)
theorem gi_dm_X5_read_6 : GoodIn ow_dm_X5_read (wsV RX5 232 RX6 yX6_framesFree ow_dm_X6_framesFree) := goodIn_app (goodIn_of _ (by decide +kernel)) (fun w h => ⟨List.mem_cons_of_mem _ (List.mem_append_right _ (List.mem_append_right _ (List.mem_append_right _ (List.mem_append_right _ (List.mem_append_right _ (List.mem_append_right _ (List.mem_append_right _ (List.mem_append_right _ (List.mem_append_left _ h))))))))), gd_dm_X6_framesFree w h⟩)
theorem gi_dm_X5_read_7 : GoodIn ow_dm_X5_read (wsV RX5 288 RX6 yX6_noteWrite ow_dm_X6_noteWrite) := goodIn_app (goodIn_of _ (by decide +kernel)) (fun w h => ⟨List.mem_cons_of_mem _ (List.mem_append_right _ (List.mem_append_right _ (List.mem_append_right _ (List.mem_append_right _ (List.mem_append_right _ (List.mem_append_right _ (List.mem_append_right _ (List.mem_append_right _ (List.mem_append_right _ (List.mem_append_left _ h)))))))))), gd_dm_X6_noteWrite w h⟩)
theorem gi_dm_X5_read_8 : GoodIn ow_dm_X5_read (wsV RX5 302 RX10 yX10_taken ow_dm_X10_taken) := goodIn_app (goodIn_of _ (by decide +kernel)) (fun w h => ⟨List.mem_cons_of_mem _ (List.mem_append_right _ (List.mem_append_right _ (List.mem_append_right _ (List.mem_append_right _ (List.mem_append_right _ (List.mem_append_right _ (List.mem_append_right _ (List.mem_append_right _ (List.mem_append_right _ (List.mem_append_right _ (List.mem_append_left _ h))))))))))), gd_dm_X10_taken w h⟩)
theorem gi_dm_X5_read_9 : GoodIn ow_dm_X5_read (wsV RX5 299 RX10 yX10_comingByte ow_dm_X10_comingByte) := goodIn_app (goodIn_of _ (by decide +kernel)) (fun w h => ⟨List.mem_cons_of_mem _ (List.mem_append_right _ (List.mem_append_right _ (List.mem_append_right _ (List.mem_append_right _ (List.mem_append_right _ (List.mem_append_right _ (List.mem_append_right _ (List.mem_append_right _ (List.mem_append_right _ (List.mem_append_right _ (List.mem_append_right _ (List.mem_append_left _ h)))))))))))), gd_dm_X10_comingByte w h⟩)
theorem gi_dm_X5_read_10 : GoodIn ow_dm_X5_read (wsV RX5 284 RX6 yX6_put ow_dm_X6_put) := goodIn_app (goodIn_of _ (by decide +kernel)) (fun w h => ⟨List.mem_cons_of_mem _ (List.mem_append_right _ (List.mem_append_right _ (List.mem_append_right _ (List.mem_append_right _ (List.mem_append_right _ (List.mem_append_right _ (List.mem_append_right _ (List.mem_append_right _ (List.mem_append_right _ (List.mem_append_right _ (List.mem_append_right _ (List.mem_append_right _ (List.mem_append_left _ h))))))))))))), gd_dm_X6_put w h⟩)
theorem gi_dm_X5_read_11 : GoodIn ow_dm_X5_read (wsV RX5 272 RX6 yX6_own ow_dm_X6_own) := goodIn_app (goodIn_of _ (by decide +kernel)) (fun w h => ⟨List.mem_cons_of_mem _ (List.mem_append_right _ (List.mem_append_right _ (List.mem_append_right _ (List.mem_append_right _ (List.mem_append_right _ (List.mem_append_right _ (List.mem_append_right _ (List.mem_append_right _ (List.mem_append_right _ (List.mem_append_right _ (List.mem_append_right _ (List.mem_append_right _ (List.mem_append_right _ (List.mem_append_left _ h)))))))))))))), gd_dm_X6_own w h⟩)
def dj_X5_read_13 (p : Program) (l : Launch) (e : Env) (s : State) (m : MethodId) (args : Array Value) (below : List Frame) (meth : Method) (c : Code) (Q : State → Prop) (A : Nat → Prop) (dC : Nat → ClassId) (dI : Nat → Nat → Nat) (a : Nat → Nat) (ac : Nat → ClassId) (g : (St × (St × (St × (St)))) → Option (Int64 × (St × (St × (St × (St)))))) (r : Int64 × (St × (St × (St × (St))))) : Prop := ∀ (s0 : St × (St × (St × (St)))) (H : Heap) (locs : List Loc) (ls : Array Slot), g s0 = some r → va_P (dC, dI) vwCl (dw_X5 a ac s0) H → va_D A (dw_X5 a ac s0) → va_S A s.heap H locs → lv_has ls 8 [] → W p l e (headSpec ow_dm_X5_read ({ frames := 2, cells := 0, slots := 0, locals := 65 })).room s m args below meth c H locs 0 0 Q (F0 m 13 ls [])
def dj_X5_read_67 (p : Program) (l : Launch) (e : Env) (s : State) (m : MethodId) (args : Array Value) (below : List Frame) (meth : Method) (c : Code) (Q : State → Prop) (A : Nat → Prop) (dC : Nat → ClassId) (dI : Nat → Nat → Nat) (a : Nat → Nat) (ac : Nat → ClassId) (g : (St × (St × (St × (St)))) → Option (Int64 × (St × (St × (St × (St)))))) (r : Int64 × (St × (St × (St × (St))))) : Prop := ∀ (s0 : St × (St × (St × (St)))) (H : Heap) (locs : List Loc) (ls : Array Slot), g s0 = some r → va_P (dC, dI) vwCl (dw_X5 a ac s0) H → va_D A (dw_X5 a ac s0) → va_S A s.heap H locs → lv_has ls 8 [] → W p l e (headSpec ow_dm_X5_read ({ frames := 2, cells := 0, slots := 0, locals := 65 })).room s m args below meth c H locs 0 0 Q (F0 m 67 ls [])
def dj_X5_read_160 (p : Program) (l : Launch) (e : Env) (s : State) (m : MethodId) (args : Array Value) (below : List Frame) (meth : Method) (c : Code) (Q : State → Prop) (A : Nat → Prop) (dC : Nat → ClassId) (dI : Nat → Nat → Nat) (a : Nat → Nat) (ac : Nat → ClassId) (g : Int32 → Int32 → Int32 → Int32 → Int32 → Int32 → (St × (St × (St × (St)))) → Option (Int64 × (St × (St × (St × (St)))))) (r : Int64 × (St × (St × (St × (St))))) : Prop := ∀ (x1 : Int32) (x3 : Int32) (x4 : Int32) (x5 : Int32) (x6 : Int32) (x7 : Int32) (s0 : St × (St × (St × (St)))) (H : Heap) (locs : List Loc) (ls : Array Slot), g x1 x3 x4 x5 x6 x7 s0 = some r → va_P (dC, dI) vwCl (dw_X5 a ac s0) H → va_D A (dw_X5 a ac s0) → va_S A s.heap H locs → lv_has ls 8 [(0, .ref (a 0)), (1, .int x1), (3, .int x3), (4, .int x4), (5, .int x5), (6, .int x6), (7, .int x7)] → W p l e (headSpec ow_dm_X5_read ({ frames := 2, cells := 0, slots := 0, locals := 65 })).room s m args below meth c H locs 0 0 Q (F0 m 160 ls [])
def dj_X5_read_157 (p : Program) (l : Launch) (e : Env) (s : State) (m : MethodId) (args : Array Value) (below : List Frame) (meth : Method) (c : Code) (Q : State → Prop) (A : Nat → Prop) (dC : Nat → ClassId) (dI : Nat → Nat → Nat) (a : Nat → Nat) (ac : Nat → ClassId) (g : Int32 → Int32 → Int32 → Int32 → Int32 → (St × (St × (St × (St)))) → Option (Int64 × (St × (St × (St × (St)))))) (r : Int64 × (St × (St × (St × (St))))) : Prop := ∀ (x1 : Int32) (x3 : Int32) (x4 : Int32) (x5 : Int32) (x6 : Int32) (s0 : St × (St × (St × (St)))) (H : Heap) (locs : List Loc) (ls : Array Slot), g x1 x3 x4 x5 x6 s0 = some r → va_P (dC, dI) vwCl (dw_X5 a ac s0) H → va_D A (dw_X5 a ac s0) → va_S A s.heap H locs → lv_has ls 8 [(0, .ref (a 0)), (1, .int x1), (3, .int x3), (4, .int x4), (5, .int x5), (6, .int x6)] → W p l e (headSpec ow_dm_X5_read ({ frames := 2, cells := 0, slots := 0, locals := 65 })).room s m args below meth c H locs 0 0 Q (F0 m 157 ls [])
def dj_X5_read_0 (p : Program) (l : Launch) (e : Env) (s : State) (m : MethodId) (args : Array Value) (below : List Frame) (meth : Method) (c : Code) (Q : State → Prop) (A : Nat → Prop) (dC : Nat → ClassId) (dI : Nat → Nat → Nat) (a : Nat → Nat) (ac : Nat → ClassId) (g : Int32 → Int32 → Int32 → Int32 → (St × (St × (St × (St)))) → Option (Int64 × (St × (St × (St × (St)))))) (r : Int64 × (St × (St × (St × (St))))) : Prop := ∀ (v0 : Int32) (v1 : Int32) (v2 : Int32) (v3 : Int32) (s0 : St × (St × (St × (St)))) (H : Heap) (locs : List Loc) (ls : Array Slot), g v0 v1 v2 v3 s0 = some r → va_P (dC, dI) vwCl (dw_X5 a ac s0) H → va_D A (dw_X5 a ac s0) → va_S A s.heap H locs → lv_has ls 8 [(0, .ref (a 0)), (1, .int v0), (2, .int v1), (3, .int v2), (4, .int v3)] → W p l e (headSpec ow_dm_X5_read ({ frames := 2, cells := 0, slots := 0, locals := 65 })).room s m args below meth c H locs 0 0 Q (F0 m 0 ls [])
set_option maxHeartbeats 40000000 in
set_option maxRecDepth 100000 in
theorem db_X5_read_13 {p : Program} {l : Launch} {e : Env} {s : State} {m : MethodId} {args : Array Value} {below : List Frame} {meth : Method} {c : Code} {Q : State → Prop} {A : Nat → Prop} {dC : Nat → ClassId} {dI : Nat → Nat → Nat} {a : Nat → Nat} {ac : Nat → ClassId} {n : Nat} {r : Int64 × (St × (St × (St × (St))))} (C : nd_C p l s m args c A (dC, dI) cX5_read 8 RX5 ow_dm_X5_read (dk_X5 ac)) (K : nd_Kl p l e (headSpec ow_dm_X5_read ({ frames := 2, cells := 0, slots := 0, locals := 65 })).room s m args below meth c Q A (dC, dI) cX5_read (St × (St × (St × (St)))) (dw_X5 a ac) r) : dj_X5_read_13 p l e s m args below meth c Q A dC dI a ac (df_X5_read_13 n) r := by
  obtain ⟨hlt, hx, hb, hml, hown, hts, hN, hA, hK⟩ := id C
  intro s0 H locs ls h hP hD hS hl
  unfold df_X5_read_13 at h
  refine lv_ldc2 hx hb hown (hts (.constantLong RX5 251 (-22)) (List.mem_of_getElem? (i := 1) rfl)) dX5_read_13 ?_
  exact K _ _ _ _ _ _ dX5_read_16 (Option.some.inj h).symm hP hD hS
set_option maxHeartbeats 40000000 in
set_option maxRecDepth 100000 in
theorem db_X5_read_67 {p : Program} {l : Launch} {e : Env} {s : State} {m : MethodId} {args : Array Value} {below : List Frame} {meth : Method} {c : Code} {Q : State → Prop} {A : Nat → Prop} {dC : Nat → ClassId} {dI : Nat → Nat → Nat} {a : Nat → Nat} {ac : Nat → ClassId} {n : Nat} {r : Int64 × (St × (St × (St × (St))))} (C : nd_C p l s m args c A (dC, dI) cX5_read 8 RX5 ow_dm_X5_read (dk_X5 ac)) (K : nd_Kl p l e (headSpec ow_dm_X5_read ({ frames := 2, cells := 0, slots := 0, locals := 65 })).room s m args below meth c Q A (dC, dI) cX5_read (St × (St × (St × (St)))) (dw_X5 a ac) r) : dj_X5_read_67 p l e s m args below meth c Q A dC dI a ac (df_X5_read_67 n) r := by
  obtain ⟨hlt, hx, hb, hml, hown, hts, hN, hA, hK⟩ := id C
  intro s0 H locs ls h hP hD hS hl
  unfold df_X5_read_67 at h
  refine lv_ldc2 hx hb hown (hts (.constantLong RX5 294 (-1)) (List.mem_of_getElem? (i := 12) rfl)) dX5_read_67 ?_
  exact K _ _ _ _ _ _ dX5_read_70 (Option.some.inj h).symm hP hD hS
set_option maxHeartbeats 40000000 in
set_option maxRecDepth 100000 in
theorem dB_X5_read_160 {p : Program} {l : Launch} {e : Env} {s : State} {m : MethodId} {args : Array Value} {below : List Frame} {meth : Method} {c : Code} {Q : State → Prop} {A : Nat → Prop} {dC : Nat → ClassId} {dI : Nat → Nat → Nat} {a : Nat → Nat} {ac : Nat → ClassId} {n : Nat} {r : Int64 × (St × (St × (St × (St))))} (C : nd_C p l s m args c A (dC, dI) cX5_read 8 RX5 ow_dm_X5_read (dk_X5 ac)) (K : nd_Kl p l e (headSpec ow_dm_X5_read ({ frames := 2, cells := 0, slots := 0, locals := 65 })).room s m args below meth c Q A (dC, dI) cX5_read (St × (St × (St × (St)))) (dw_X5 a ac) r) {g160 : Int32 → Int32 → Int32 → Int32 → Int32 → Int32 → (St × (St × (St × (St)))) → Option (Int64 × (St × (St × (St × (St)))))} (J160 : dj_X5_read_160 p l e s m args below meth c Q A dC dI a ac g160 r) : dj_X5_read_160 p l e s m args below meth c Q A dC dI a ac (dF_X5_read_160 n g160) r := by
  obtain ⟨hlt, hx, hb, hml, hown, hts, hN, hA, hK⟩ := id C
  intro x1 x3 x4 x5 x6 x7 s0 H locs ls h hP hD hS hl
  unfold dF_X5_read_160 at h
  refine lv_iload hx hb dX5_read_160 (lv_at hl 6 rfl) ?_
  refine lv_iload hx hb dX5_read_162 (lv_at hl 5 rfl) ?_
  refine lv_icmp_ge (tgt := 199) hx hb dX5_read_164 (by decide) (fun c37 => ?_) (fun c37 => ?_)
  · have h := nd_pos h c37
    refine lv_aload_n hx hb dX5_read_199 rfl (lv_at hl 0 rfl) ?_
    refine va_get (D := (dC, dI)) (ci := 6) (v := .ref (a 4)) (C := RX5) (T := TX5) (N := 8) hx hb hts hi_dm_X5_read_X5 hown hK hP 0 rfl rfl 0 (by decide) (hts (.fieldLink RX5 18 "TimeMachine$Kernel" "machine" "LTimeMachine$Machine;") (List.mem_of_getElem? (i := 2) rfl)) (fun _ h9 => h9) rfl dX5_read_200 ?_
    refine lv_iload_n hx hb dX5_read_203 rfl (lv_at hl 1 rfl) ?_
    refine lv_iload_n hx hb dX5_read_204 rfl (lv_at hl 2 rfl) ?_
    refine lv_iload hx hb dX5_read_205 (lv_at hl 5 rfl) ?_
    obtain ⟨s39, hq, h⟩ := nd_b1_e h
    have hPc := dp_X5_4 hP
    have hDc := dd_X5_4 hD
    have hKc := dy_X5_4 hK
    have hFc := nd_rs hDc hS hA
    have hzA : ∀ q : Nat, H.size ≤ q → A q := fun q h => hA q (Nat.le_trans hS.1 h)
    refine nd_cVv (As := [.int x1, .int x3, .int x6]) (rest := []) (w' := dw_X6 (fun k => a (k + 4)) (fun k => ac (k + 4)) s39) ⟨hx, hb, hml, hown, hts⟩ (fun sz => dm_X6_noteWrite l hlt dC dI (fun k => a (k + 4)) (fun k => ac (k + 4)) n (x1) (x3) (x6) s0.2.2 hq sz) (cwV 3 hts gi_dm_X5_read_7 rfl rfl rfl (by decide +kernel) ⟨Nat.le_of_ble_eq_true rfl, Nat.le_of_ble_eq_true rfl⟩) hPc hDc hKc hS hA hN (va_recv hKc hPc (ci := 7) (q0 := 0) rfl rfl) rfl hl.1 rfl (Nat.le_of_ble_eq_true rfl) dX5_read_207 (fun H locs hP1 hD1 hk1 hS => ?_)
    obtain ⟨hP, hD⟩ := dn_X5_4 hP hD hzA hk1 hP1 hD1
    obtain ⟨s41, es41, h⟩ := nd_let_e h
    have hP : va_P (dC, dI) vwCl (dw_X5 a ac s41) H := by rw [es41]; exact hP
    have hD : va_D A (dw_X5 a ac s41) := by rw [es41]; exact hD
    refine lv_aload_n hx hb dX5_read_210 rfl (lv_at hl 0 rfl) ?_
    refine va_get (D := (dC, dI)) (ci := 6) (v := .ref (a 14)) (C := RX5) (T := TX5) (N := 8) hx hb hts hi_dm_X5_read_X5 hown hK hP 0 rfl rfl 1 (by decide) (hts (.fieldLink RX5 28 "TimeMachine$Kernel" "things" "LTimeMachine$Things;") (List.mem_of_getElem? (i := 7) rfl)) (fun _ h9 => h9) rfl dX5_read_211 ?_
    refine lv_iload hx hb dX5_read_214 (lv_at hl 4 rfl) ?_
    refine lv_iload hx hb dX5_read_216 (lv_at hl 3 rfl) ?_
    refine lv_iload hx hb dX5_read_218 (lv_at hl 5 rfl) ?_
    obtain ⟨s43, hq, h⟩ := nd_b1_e h
    have hPc := dp_X5_14 hP
    have hDc := dd_X5_14 hD
    have hKc := dy_X5_14 hK
    have hFc := nd_rs hDc hS hA
    have hzA : ∀ q : Nat, H.size ≤ q → A q := fun q h => hA q (Nat.le_trans hS.1 h)
    refine nd_cVv (As := [.int x5, .int x4, .int x6]) (rest := []) (w' := dw_X10 (fun k => a (k + 14)) (fun k => ac (k + 14)) s43) ⟨hx, hb, hml, hown, hts⟩ (fun sz => dm_X10_taken l hlt dC dI (fun k => a (k + 14)) (fun k => ac (k + 14)) n (x5) (x4) (x6) s41.2.2.2 hq sz) (cwV 3 hts gi_dm_X5_read_8 rfl rfl rfl (by decide +kernel) ⟨Nat.le_of_ble_eq_true rfl, Nat.le_of_ble_eq_true rfl⟩) hPc hDc hKc hS hA hN (va_recv hKc hPc (ci := 11) (q0 := 0) rfl rfl) rfl hl.1 rfl (Nat.le_of_ble_eq_true rfl) dX5_read_220 (fun H locs hP1 hD1 hk1 hS => ?_)
    obtain ⟨hP, hD⟩ := dn_X5_14 hP hD hzA hk1 hP1 hD1
    obtain ⟨s45, es45, h⟩ := nd_let_e h
    have hP : va_P (dC, dI) vwCl (dw_X5 a ac s45) H := by rw [es45]; exact hP
    have hD : va_D A (dw_X5 a ac s45) := by rw [es45]; exact hD
    refine lv_iload hx hb dX5_read_223 (lv_at hl 5 rfl) ?_
    refine lv_i2l hx hb dX5_read_225 rfl ?_
    exact K _ _ _ _ _ _ dX5_read_226 (Option.some.inj h).symm hP hD hS
  · have h := nd_neg h c37
    refine lv_aload_n hx hb dX5_read_167 rfl (lv_at hl 0 rfl) ?_
    refine va_get (D := (dC, dI)) (ci := 6) (v := .ref (a 4)) (C := RX5) (T := TX5) (N := 8) hx hb hts hi_dm_X5_read_X5 hown hK hP 0 rfl rfl 0 (by decide) (hts (.fieldLink RX5 18 "TimeMachine$Kernel" "machine" "LTimeMachine$Machine;") (List.mem_of_getElem? (i := 2) rfl)) (fun _ h9 => h9) rfl dX5_read_168 ?_
    refine lv_iload_n hx hb dX5_read_171 rfl (lv_at hl 1 rfl) ?_
    refine lv_iload_n hx hb dX5_read_172 rfl (lv_at hl 2 rfl) ?_
    refine lv_iload hx hb dX5_read_173 (lv_at hl 6 rfl) ?_
    refine lv_iadd hx hb dX5_read_175 ?_
    refine lv_sipush (v := 255) hx hb dX5_read_176 (by decide) ?_
    refine lv_aload_n hx hb dX5_read_179 rfl (lv_at hl 0 rfl) ?_
    refine va_get (D := (dC, dI)) (ci := 6) (v := .ref (a 14)) (C := RX5) (T := TX5) (N := 8) hx hb hts hi_dm_X5_read_X5 hown hK hP 0 rfl rfl 1 (by decide) (hts (.fieldLink RX5 28 "TimeMachine$Kernel" "things" "LTimeMachine$Things;") (List.mem_of_getElem? (i := 7) rfl)) (fun _ h9 => h9) rfl dX5_read_180 ?_
    refine lv_iload hx hb dX5_read_183 (lv_at hl 4 rfl) ?_
    refine lv_iload hx hb dX5_read_185 (lv_at hl 6 rfl) ?_
    obtain ⟨q46, s47, hq, h⟩ := nd_b2_e h
    have hPc := dp_X5_14 hP
    have hDc := dd_X5_14 hD
    have hKc := dy_X5_14 hK
    have hFc := nd_rs hDc hS hA
    have hzA : ∀ q : Nat, H.size ≤ q → A q := fun q h => hA q (Nat.le_trans hS.1 h)
    refine nd_cVi (As := [.int x5, .int x7]) (rest := [.int 255, .int (x3 + x7), .int x1, .ref (a 4)]) (q := q46) (w' := dw_X10 (fun k => a (k + 14)) (fun k => ac (k + 14)) s47) ⟨hx, hb, hml, hown, hts⟩ (fun sz => dm_X10_comingByte l hlt dC dI (fun k => a (k + 14)) (fun k => ac (k + 14)) n (x5) (x7) s0.2.2.2 hq sz) (cwV 2 hts gi_dm_X5_read_9 rfl rfl rfl (by decide +kernel) ⟨Nat.le_of_ble_eq_true rfl, Nat.le_of_ble_eq_true rfl⟩) hPc hDc hKc hS hA hN (va_recv hKc hPc (ci := 11) (q0 := 0) rfl rfl) rfl hl.1 rfl (Nat.le_of_ble_eq_true rfl) dX5_read_187 (fun H locs hP1 hD1 hk1 hS => ?_)
    obtain ⟨hP, hD⟩ := dn_X5_14 hP hD hzA hk1 hP1 hD1
    obtain ⟨s49, es49, h⟩ := nd_let_e h
    have hP : va_P (dC, dI) vwCl (dw_X5 a ac s49) H := by rw [es49]; exact hP
    have hD : va_D A (dw_X5 a ac s49) := by rw [es49]; exact hD
    obtain ⟨s51, hq, h⟩ := nd_b1_e h
    have hPc := dp_X5_4 hP
    have hDc := dd_X5_4 hD
    have hKc := dy_X5_4 hK
    have hFc := nd_rs hDc hS hA
    have hzA : ∀ q : Nat, H.size ≤ q → A q := fun q h => hA q (Nat.le_trans hS.1 h)
    refine nd_cVv (As := [.int x1, .int (x3 + x7), .int 255, .int q46]) (rest := []) (w' := dw_X6 (fun k => a (k + 4)) (fun k => ac (k + 4)) s51) ⟨hx, hb, hml, hown, hts⟩ (fun sz => dm_X6_put l hlt dC dI (fun k => a (k + 4)) (fun k => ac (k + 4)) n (x1) ((x3 + x7)) (255) (q46) s49.2.2 hq sz) (cwV 4 hts gi_dm_X5_read_10 rfl rfl rfl (by decide +kernel) ⟨Nat.le_of_ble_eq_true rfl, Nat.le_of_ble_eq_true rfl⟩) hPc hDc hKc hS hA hN (va_recv hKc hPc (ci := 7) (q0 := 0) rfl rfl) rfl hl.1 rfl (Nat.le_of_ble_eq_true rfl) dX5_read_190 (fun H locs hP1 hD1 hk1 hS => ?_)
    obtain ⟨hP, hD⟩ := dn_X5_4 hP hD hzA hk1 hP1 hD1
    obtain ⟨s53, es53, h⟩ := nd_let_e h
    have hP : va_P (dC, dI) vwCl (dw_X5 a ac s53) H := by rw [es53]; exact hP
    have hD : va_D A (dw_X5 a ac s53) := by rw [es53]; exact hD
    obtain ⟨z54, ez54, h⟩ := nd_let_e h
    refine lv_iinc (v := z54) (lv' := [(7, .int z54), (0, .ref (a 0)), (1, .int x1), (3, .int x3), (4, .int x4), (5, .int x5), (6, .int x6)]) hx hb dX5_read_193 hl (k := 6) rfl (by rw [ez54]) (by decide) rfl (fun ls hl => ?_)
    refine lv_goto (tgt := 160) hx hb dX5_read_196 (by decide) ?_
    exact (J160) (x1) (x3) (x4) (x5) (x6) (z54) s53 _ _ _ h hP hD hS (lv_sub hl [1, 2, 3, 4, 5, 6, 0] rfl)
set_option maxHeartbeats 40000000 in
set_option maxRecDepth 100000 in
theorem db_X5_read_160 {p : Program} {l : Launch} {e : Env} {s : State} {m : MethodId} {args : Array Value} {below : List Frame} {meth : Method} {c : Code} {Q : State → Prop} {A : Nat → Prop} {dC : Nat → ClassId} {dI : Nat → Nat → Nat} {a : Nat → Nat} {ac : Nat → ClassId} {n : Nat} {r : Int64 × (St × (St × (St × (St))))} (C : nd_C p l s m args c A (dC, dI) cX5_read 8 RX5 ow_dm_X5_read (dk_X5 ac)) (K : nd_Kl p l e (headSpec ow_dm_X5_read ({ frames := 2, cells := 0, slots := 0, locals := 65 })).room s m args below meth c Q A (dC, dI) cX5_read (St × (St × (St × (St)))) (dw_X5 a ac) r) (k : Nat) : dj_X5_read_160 p l e s m args below meth c Q A dC dI a ac (df_X5_read_160 n k) r := by
  induction k with
  | zero => intro x1 x3 x4 x5 x6 x7 s0 H locs ls h; exact nomatch (show (none : Option (Int64 × (St × (St × (St × (St)))))) = some r from h)
  | succ k ih => exact dB_X5_read_160 C K ih
set_option maxHeartbeats 40000000 in
set_option maxRecDepth 100000 in
theorem db_X5_read_157 {p : Program} {l : Launch} {e : Env} {s : State} {m : MethodId} {args : Array Value} {below : List Frame} {meth : Method} {c : Code} {Q : State → Prop} {A : Nat → Prop} {dC : Nat → ClassId} {dI : Nat → Nat → Nat} {a : Nat → Nat} {ac : Nat → ClassId} {n : Nat} {r : Int64 × (St × (St × (St × (St))))} (C : nd_C p l s m args c A (dC, dI) cX5_read 8 RX5 ow_dm_X5_read (dk_X5 ac)) (K : nd_Kl p l e (headSpec ow_dm_X5_read ({ frames := 2, cells := 0, slots := 0, locals := 65 })).room s m args below meth c Q A (dC, dI) cX5_read (St × (St × (St × (St)))) (dw_X5 a ac) r) : dj_X5_read_157 p l e s m args below meth c Q A dC dI a ac (df_X5_read_157 n) r := by
  obtain ⟨hlt, hx, hb, hml, hown, hts, hN, hA, hK⟩ := id C
  intro x1 x3 x4 x5 x6 s0 H locs ls h hP hD hS hl
  unfold df_X5_read_157 at h
  refine lv_iconst (v := 0) hx hb dX5_read_157 (by decide) ?_
  refine lv_istore (lv' := [(7, .int 0), (0, .ref (a 0)), (1, .int x1), (3, .int x3), (4, .int x4), (5, .int x5), (6, .int x6)]) hx hb dX5_read_158 hl (by decide) rfl (fun ls hl => ?_)
  exact (db_X5_read_160 C K n) (x1) (x3) (x4) (x5) (x6) (0) s0 _ _ _ h hP hD hS (lv_sub hl [1, 2, 3, 4, 5, 6, 0] rfl)
set_option maxHeartbeats 40000000 in
set_option maxRecDepth 100000 in
theorem db_X5_read_0 {p : Program} {l : Launch} {e : Env} {s : State} {m : MethodId} {args : Array Value} {below : List Frame} {meth : Method} {c : Code} {Q : State → Prop} {A : Nat → Prop} {dC : Nat → ClassId} {dI : Nat → Nat → Nat} {a : Nat → Nat} {ac : Nat → ClassId} {n : Nat} {r : Int64 × (St × (St × (St × (St))))} (C : nd_C p l s m args c A (dC, dI) cX5_read 8 RX5 ow_dm_X5_read (dk_X5 ac)) (K : nd_Kl p l e (headSpec ow_dm_X5_read ({ frames := 2, cells := 0, slots := 0, locals := 65 })).room s m args below meth c Q A (dC, dI) cX5_read (St × (St × (St × (St)))) (dw_X5 a ac) r) : dj_X5_read_0 p l e s m args below meth c Q A dC dI a ac (df_X5_read_0 n) r := by
  obtain ⟨hlt, hx, hb, hml, hown, hts, hN, hA, hK⟩ := id C
  intro v0 v1 v2 v3 s0 H locs ls h hP hD hS hl
  unfold df_X5_read_0 at h
  refine lv_iload hx hb dX5_read_0 (lv_at hl 4 rfl) ?_
  refine lv_if_lt (tgt := 13) hx hb dX5_read_2 (by decide) (fun c1 => ?_) (fun c1 => ?_)
  · have h := nd_pos h c1
    exact (db_X5_read_13 C K)  s0 _ _ _ h hP hD hS (lv_sub hl [] rfl)
  · have h := nd_neg h c1
    refine lv_iload hx hb dX5_read_5 (lv_at hl 4 rfl) ?_
    refine lv_sipush (v := 512) hx hb dX5_read_7 (by decide) ?_
    refine lv_icmp_le (tgt := 17) hx hb dX5_read_10 (by decide) (fun c2 => ?_) (fun c2 => ?_)
    · have h := nd_pos h c2
      refine lv_aload_n hx hb dX5_read_17 rfl (lv_at hl 0 rfl) ?_
      refine va_get (D := (dC, dI)) (ci := 6) (v := .ref (a 4)) (C := RX5) (T := TX5) (N := 8) hx hb hts hi_dm_X5_read_X5 hown hK hP 0 rfl rfl 0 (by decide) (hts (.fieldLink RX5 18 "TimeMachine$Kernel" "machine" "LTimeMachine$Machine;") (List.mem_of_getElem? (i := 2) rfl)) (fun _ h9 => h9) rfl dX5_read_18 ?_
      refine lv_iload_n hx hb dX5_read_21 rfl (lv_at hl 1 rfl) ?_
      refine lv_iload_n hx hb dX5_read_22 rfl (lv_at hl 3 rfl) ?_
      refine lv_iload hx hb dX5_read_23 (lv_at hl 4 rfl) ?_
      refine lv_iconst (v := 2) hx hb dX5_read_25 (by decide) ?_
      obtain ⟨q3, s4, hq, h⟩ := nd_b2_e h
      have hPc := dp_X5_4 hP
      have hDc := dd_X5_4 hD
      have hKc := dy_X5_4 hK
      have hFc := nd_rs hDc hS hA
      have hzA : ∀ q : Nat, H.size ≤ q → A q := fun q h => hA q (Nat.le_trans hS.1 h)
      refine nd_cVi (As := [.int v0, .int v2, .int v3, .int 2]) (rest := []) (q := q3) (w' := dw_X6 (fun k => a (k + 4)) (fun k => ac (k + 4)) s4) ⟨hx, hb, hml, hown, hts⟩ (fun sz => dm_X6_mayAll l hlt dC dI (fun k => a (k + 4)) (fun k => ac (k + 4)) n (v0) (v2) (v3) (2) s0.2.2 hq sz) (cwV 4 hts gi_dm_X5_read_0 rfl rfl rfl (by decide +kernel) ⟨Nat.le_of_ble_eq_true rfl, Nat.le_of_ble_eq_true rfl⟩) hPc hDc hKc hS hA hN (va_recv hKc hPc (ci := 7) (q0 := 0) rfl rfl) rfl hl.1 rfl (Nat.le_of_ble_eq_true rfl) dX5_read_26 (fun H locs hP1 hD1 hk1 hS => ?_)
      obtain ⟨hP, hD⟩ := dn_X5_4 hP hD hzA hk1 hP1 hD1
      obtain ⟨s6, es6, h⟩ := nd_let_e h
      have hP : va_P (dC, dI) vwCl (dw_X5 a ac s6) H := by rw [es6]; exact hP
      have hD : va_D A (dw_X5 a ac s6) := by rw [es6]; exact hD
      refine lv_if_ne (tgt := 36) hx hb dX5_read_29 (by decide) (fun c7 => ?_) (fun c7 => ?_)
      · have h := nd_neg h c7
        refine lv_aload_n hx hb dX5_read_36 rfl (lv_at hl 0 rfl) ?_
        refine va_get (D := (dC, dI)) (ci := 6) (v := .ref (a 14)) (C := RX5) (T := TX5) (N := 8) hx hb hts hi_dm_X5_read_X5 hown hK hP 0 rfl rfl 1 (by decide) (hts (.fieldLink RX5 28 "TimeMachine$Kernel" "things" "LTimeMachine$Things;") (List.mem_of_getElem? (i := 7) rfl)) (fun _ h9 => h9) rfl dX5_read_37 ?_
        refine lv_iload_n hx hb dX5_read_40 rfl (lv_at hl 1 rfl) ?_
        refine lv_iload_n hx hb dX5_read_41 rfl (lv_at hl 2 rfl) ?_
        obtain ⟨q8, s9, hq, h⟩ := nd_b2_e h
        have hPc := dp_X5_14 hP
        have hDc := dd_X5_14 hD
        have hKc := dy_X5_14 hK
        have hFc := nd_rs hDc hS hA
        have hzA : ∀ q : Nat, H.size ≤ q → A q := fun q h => hA q (Nat.le_trans hS.1 h)
        refine nd_cVi (As := [.int v0, .int v1]) (rest := []) (q := q8) (w' := dw_X10 (fun k => a (k + 14)) (fun k => ac (k + 14)) s9) ⟨hx, hb, hml, hown, hts⟩ (fun sz => dm_X10_openingOf l hlt dC dI (fun k => a (k + 14)) (fun k => ac (k + 14)) n (v0) (v1) s6.2.2.2 hq sz) (cwV 2 hts gi_dm_X5_read_1 rfl rfl rfl (by decide +kernel) ⟨Nat.le_of_ble_eq_true rfl, Nat.le_of_ble_eq_true rfl⟩) hPc hDc hKc hS hA hN (va_recv hKc hPc (ci := 11) (q0 := 0) rfl rfl) rfl hl.1 rfl (Nat.le_of_ble_eq_true rfl) dX5_read_42 (fun H locs hP1 hD1 hk1 hS => ?_)
        obtain ⟨hP, hD⟩ := dn_X5_14 hP hD hzA hk1 hP1 hD1
        obtain ⟨s11, es11, h⟩ := nd_let_e h
        have hP : va_P (dC, dI) vwCl (dw_X5 a ac s11) H := by rw [es11]; exact hP
        have hD : va_D A (dw_X5 a ac s11) := by rw [es11]; exact hD
        refine lv_istore (lv' := [(5, .int q8), (0, .ref (a 0)), (1, .int v0), (2, .int v1), (3, .int v2), (4, .int v3)]) hx hb dX5_read_45 hl (by decide) rfl (fun ls hl => ?_)
        refine lv_iload hx hb dX5_read_47 (lv_at hl 0 rfl) ?_
        refine lv_if_lt (tgt := 67) hx hb dX5_read_49 (by decide) (fun c12 => ?_) (fun c12 => ?_)
        · have h := nd_pos h c12
          exact (db_X5_read_67 C K)  s11 _ _ _ h hP hD hS (lv_sub hl [] rfl)
        · have h := nd_neg h c12
          refine lv_aload_n hx hb dX5_read_52 rfl (lv_at hl 1 rfl) ?_
          refine va_get (D := (dC, dI)) (ci := 6) (v := .ref (a 14)) (C := RX5) (T := TX5) (N := 8) hx hb hts hi_dm_X5_read_X5 hown hK hP 0 rfl rfl 1 (by decide) (hts (.fieldLink RX5 28 "TimeMachine$Kernel" "things" "LTimeMachine$Things;") (List.mem_of_getElem? (i := 7) rfl)) (fun _ h9 => h9) rfl dX5_read_53 ?_
          refine lv_iload hx hb dX5_read_56 (lv_at hl 0 rfl) ?_
          refine lv_iconst (v := 4) hx hb dX5_read_58 (by decide) ?_
          obtain ⟨q13, s14, hq, h⟩ := nd_b2_e h
          have hPc := dp_X5_14 hP
          have hDc := dd_X5_14 hD
          have hKc := dy_X5_14 hK
          have hFc := nd_rs hDc hS hA
          have hzA : ∀ q : Nat, H.size ≤ q → A q := fun q h => hA q (Nat.le_trans hS.1 h)
          refine nd_cVi (As := [.int q8, .int 4]) (rest := []) (q := q13) (w' := dw_X10 (fun k => a (k + 14)) (fun k => ac (k + 14)) s14) ⟨hx, hb, hml, hown, hts⟩ (fun sz => dm_X10_of l hlt dC dI (fun k => a (k + 14)) (fun k => ac (k + 14)) n (q8) (4) s11.2.2.2 hq sz) (cwV 2 hts gi_dm_X5_read_2 rfl rfl rfl (by decide +kernel) ⟨Nat.le_of_ble_eq_true rfl, Nat.le_of_ble_eq_true rfl⟩) hPc hDc hKc hS hA hN (va_recv hKc hPc (ci := 11) (q0 := 0) rfl rfl) rfl hl.1 rfl (Nat.le_of_ble_eq_true rfl) dX5_read_59 (fun H locs hP1 hD1 hk1 hS => ?_)
          obtain ⟨hP, hD⟩ := dn_X5_14 hP hD hzA hk1 hP1 hD1
          obtain ⟨s16, es16, h⟩ := nd_let_e h
          have hP : va_P (dC, dI) vwCl (dw_X5 a ac s16) H := by rw [es16]; exact hP
          have hD : va_D A (dw_X5 a ac s16) := by rw [es16]; exact hD
          refine lv_iconst (v := 1) hx hb dX5_read_62 (by decide) ?_
          refine lv_iand hx hb dX5_read_63 ?_
          refine lv_if_ne (tgt := 71) hx hb dX5_read_64 (by decide) (fun c17 => ?_) (fun c17 => ?_)
          · have h := nd_neg h c17
            refine lv_aload_n hx hb dX5_read_71 rfl (lv_at hl 1 rfl) ?_
            refine va_get (D := (dC, dI)) (ci := 6) (v := .ref (a 14)) (C := RX5) (T := TX5) (N := 8) hx hb hts hi_dm_X5_read_X5 hown hK hP 0 rfl rfl 1 (by decide) (hts (.fieldLink RX5 28 "TimeMachine$Kernel" "things" "LTimeMachine$Things;") (List.mem_of_getElem? (i := 7) rfl)) (fun _ h9 => h9) rfl dX5_read_72 ?_
            refine lv_iload hx hb dX5_read_75 (lv_at hl 0 rfl) ?_
            refine lv_iload hx hb dX5_read_77 (lv_at hl 5 rfl) ?_
            obtain ⟨q18, s19, hq, h⟩ := nd_b2_e h
            have hPc := dp_X5_14 hP
            have hDc := dd_X5_14 hD
            have hKc := dy_X5_14 hK
            have hFc := nd_rs hDc hS hA
            have hzA : ∀ q : Nat, H.size ≤ q → A q := fun q h => hA q (Nat.le_trans hS.1 h)
            refine nd_cVi (As := [.int q8, .int v3]) (rest := []) (q := q18) (w' := dw_X10 (fun k => a (k + 14)) (fun k => ac (k + 14)) s19) ⟨hx, hb, hml, hown, hts⟩ (fun sz => dm_X10_readWaits l hlt dC dI (fun k => a (k + 14)) (fun k => ac (k + 14)) n (q8) (v3) s16.2.2.2 hq sz) (cwV 2 hts gi_dm_X5_read_3 rfl rfl rfl (by decide +kernel) ⟨Nat.le_of_ble_eq_true rfl, Nat.le_of_ble_eq_true rfl⟩) hPc hDc hKc hS hA hN (va_recv hKc hPc (ci := 11) (q0 := 0) rfl rfl) rfl hl.1 rfl (Nat.le_of_ble_eq_true rfl) dX5_read_79 (fun H locs hP1 hD1 hk1 hS => ?_)
            obtain ⟨hP, hD⟩ := dn_X5_14 hP hD hzA hk1 hP1 hD1
            obtain ⟨s21, es21, h⟩ := nd_let_e h
            have hP : va_P (dC, dI) vwCl (dw_X5 a ac s21) H := by rw [es21]; exact hP
            have hD : va_D A (dw_X5 a ac s21) := by rw [es21]; exact hD
            refine lv_if_eq (tgt := 89) hx hb dX5_read_82 (by decide) (fun c22 => ?_) (fun c22 => ?_)
            · have h := nd_pos h c22
              refine lv_aload_n hx hb dX5_read_89 rfl (lv_at hl 1 rfl) ?_
              refine va_get (D := (dC, dI)) (ci := 6) (v := .ref (a 14)) (C := RX5) (T := TX5) (N := 8) hx hb hts hi_dm_X5_read_X5 hown hK hP 0 rfl rfl 1 (by decide) (hts (.fieldLink RX5 28 "TimeMachine$Kernel" "things" "LTimeMachine$Things;") (List.mem_of_getElem? (i := 7) rfl)) (fun _ h9 => h9) rfl dX5_read_90 ?_
              refine lv_iload hx hb dX5_read_93 (lv_at hl 0 rfl) ?_
              refine lv_iload hx hb dX5_read_95 (lv_at hl 5 rfl) ?_
              obtain ⟨q23, s24, hq, h⟩ := nd_b2_e h
              have hPc := dp_X5_14 hP
              have hDc := dd_X5_14 hD
              have hKc := dy_X5_14 hK
              have hFc := nd_rs hDc hS hA
              have hzA : ∀ q : Nat, H.size ≤ q → A q := fun q h => hA q (Nat.le_trans hS.1 h)
              refine nd_cVi (As := [.int q8, .int v3]) (rest := []) (q := q23) (w' := dw_X10 (fun k => a (k + 14)) (fun k => ac (k + 14)) s24) ⟨hx, hb, hml, hown, hts⟩ (fun sz => dm_X10_coming l hlt dC dI (fun k => a (k + 14)) (fun k => ac (k + 14)) n (q8) (v3) s21.2.2.2 hq sz) (cwV 2 hts gi_dm_X5_read_4 rfl rfl rfl (by decide +kernel) ⟨Nat.le_of_ble_eq_true rfl, Nat.le_of_ble_eq_true rfl⟩) hPc hDc hKc hS hA hN (va_recv hKc hPc (ci := 11) (q0 := 0) rfl rfl) rfl hl.1 rfl (Nat.le_of_ble_eq_true rfl) dX5_read_97 (fun H locs hP1 hD1 hk1 hS => ?_)
              obtain ⟨hP, hD⟩ := dn_X5_14 hP hD hzA hk1 hP1 hD1
              obtain ⟨s26, es26, h⟩ := nd_let_e h
              have hP : va_P (dC, dI) vwCl (dw_X5 a ac s26) H := by rw [es26]; exact hP
              have hD : va_D A (dw_X5 a ac s26) := by rw [es26]; exact hD
              refine lv_istore (lv' := [(6, .int q23), (5, .int q8), (0, .ref (a 0)), (1, .int v0), (2, .int v1), (3, .int v2), (4, .int v3)]) hx hb dX5_read_100 hl (by decide) rfl (fun ls hl => ?_)
              refine lv_aload_n hx hb dX5_read_102 rfl (lv_at hl 2 rfl) ?_
              refine va_get (D := (dC, dI)) (ci := 6) (v := .ref (a 4)) (C := RX5) (T := TX5) (N := 8) hx hb hts hi_dm_X5_read_X5 hown hK hP 0 rfl rfl 0 (by decide) (hts (.fieldLink RX5 18 "TimeMachine$Kernel" "machine" "LTimeMachine$Machine;") (List.mem_of_getElem? (i := 2) rfl)) (fun _ h9 => h9) rfl dX5_read_103 ?_
              refine lv_iload_n hx hb dX5_read_106 rfl (lv_at hl 3 rfl) ?_
              refine lv_iload_n hx hb dX5_read_107 rfl (lv_at hl 5 rfl) ?_
              refine lv_iload hx hb dX5_read_108 (lv_at hl 0 rfl) ?_
              obtain ⟨q27, s28, hq, h⟩ := nd_b2_e h
              have hPc := dp_X5_4 hP
              have hDc := dd_X5_4 hD
              have hKc := dy_X5_4 hK
              have hFc := nd_rs hDc hS hA
              have hzA : ∀ q : Nat, H.size ≤ q → A q := fun q h => hA q (Nat.le_trans hS.1 h)
              refine nd_cVi (As := [.int v0, .int v2, .int q23]) (rest := []) (q := q27) (w' := dw_X6 (fun k => a (k + 4)) (fun k => ac (k + 4)) s28) ⟨hx, hb, hml, hown, hts⟩ (fun sz => dm_X6_framesFor l hlt dC dI (fun k => a (k + 4)) (fun k => ac (k + 4)) n (v0) (v2) (q23) s26.2.2 hq sz) (cwV 3 hts gi_dm_X5_read_5 rfl rfl rfl (by decide +kernel) ⟨Nat.le_of_ble_eq_true rfl, Nat.le_of_ble_eq_true rfl⟩) hPc hDc hKc hS hA hN (va_recv hKc hPc (ci := 7) (q0 := 0) rfl rfl) rfl hl.1 rfl (Nat.le_of_ble_eq_true rfl) dX5_read_110 (fun H locs hP1 hD1 hk1 hS => ?_)
              obtain ⟨hP, hD⟩ := dn_X5_4 hP hD hzA hk1 hP1 hD1
              obtain ⟨s30, es30, h⟩ := nd_let_e h
              have hP : va_P (dC, dI) vwCl (dw_X5 a ac s30) H := by rw [es30]; exact hP
              have hD : va_D A (dw_X5 a ac s30) := by rw [es30]; exact hD
              refine lv_aload_n hx hb dX5_read_113 rfl (lv_at hl 2 rfl) ?_
              refine va_get (D := (dC, dI)) (ci := 6) (v := .ref (a 4)) (C := RX5) (T := TX5) (N := 8) hx hb hts hi_dm_X5_read_X5 hown hK hP 0 rfl rfl 0 (by decide) (hts (.fieldLink RX5 18 "TimeMachine$Kernel" "machine" "LTimeMachine$Machine;") (List.mem_of_getElem? (i := 2) rfl)) (fun _ h9 => h9) rfl dX5_read_114 ?_
              obtain ⟨q31, s32, hq, h⟩ := nd_b2_e h
              have hPc := dp_X5_4 hP
              have hDc := dd_X5_4 hD
              have hKc := dy_X5_4 hK
              have hFc := nd_rs hDc hS hA
              have hzA : ∀ q : Nat, H.size ≤ q → A q := fun q h => hA q (Nat.le_trans hS.1 h)
              refine nd_cVi (As := []) (rest := [.int q27]) (q := q31) (w' := dw_X6 (fun k => a (k + 4)) (fun k => ac (k + 4)) s32) ⟨hx, hb, hml, hown, hts⟩ (fun sz => dm_X6_framesFree l hlt dC dI (fun k => a (k + 4)) (fun k => ac (k + 4)) n  s30.2.2 hq sz) (cwV 0 hts gi_dm_X5_read_6 rfl rfl rfl (by decide +kernel) ⟨Nat.le_of_ble_eq_true rfl, Nat.le_of_ble_eq_true rfl⟩) hPc hDc hKc hS hA hN (va_recv hKc hPc (ci := 7) (q0 := 0) rfl rfl) rfl hl.1 rfl (Nat.le_of_ble_eq_true rfl) dX5_read_117 (fun H locs hP1 hD1 hk1 hS => ?_)
              obtain ⟨hP, hD⟩ := dn_X5_4 hP hD hzA hk1 hP1 hD1
              obtain ⟨s34, es34, h⟩ := nd_let_e h
              have hP : va_P (dC, dI) vwCl (dw_X5 a ac s34) H := by rw [es34]; exact hP
              have hD : va_D A (dw_X5 a ac s34) := by rw [es34]; exact hD
              refine lv_icmp_le (tgt := 127) hx hb dX5_read_120 (by decide) (fun c35 => ?_) (fun c35 => ?_)
              · have h := nd_pos h c35
                refine lv_iload hx hb dX5_read_127 (lv_at hl 0 rfl) ?_
                refine lv_if_le (tgt := 157) hx hb dX5_read_129 (by decide) (fun c36 => ?_) (fun c36 => ?_)
                · have h := nd_pos h c36
                  exact (db_X5_read_157 C K) (v0) (v2) (v3) (q8) (q23) s34 _ _ _ h hP hD hS (lv_sub hl [2, 3, 5, 6, 1, 0] rfl)
                · have h := nd_neg h c36
                  refine lv_aload_n hx hb dX5_read_132 rfl (lv_at hl 2 rfl) ?_
                  refine va_get (D := (dC, dI)) (ci := 6) (v := .ref (a 4)) (C := RX5) (T := TX5) (N := 8) hx hb hts hi_dm_X5_read_X5 hown hK hP 0 rfl rfl 0 (by decide) (hts (.fieldLink RX5 18 "TimeMachine$Kernel" "machine" "LTimeMachine$Machine;") (List.mem_of_getElem? (i := 2) rfl)) (fun _ h9 => h9) rfl dX5_read_133 ?_
                  refine lv_iload_n hx hb dX5_read_136 rfl (lv_at hl 3 rfl) ?_
                  refine lv_iload_n hx hb dX5_read_137 rfl (lv_at hl 5 rfl) ?_
                  obtain ⟨q55, s56, hq, h⟩ := nd_b2_e h
                  have hPc := dp_X5_4 hP
                  have hDc := dd_X5_4 hD
                  have hKc := dy_X5_4 hK
                  have hFc := nd_rs hDc hS hA
                  have hzA : ∀ q : Nat, H.size ≤ q → A q := fun q h => hA q (Nat.le_trans hS.1 h)
                  refine nd_cVi (As := [.int v0, .int v2]) (rest := []) (q := q55) (w' := dw_X6 (fun k => a (k + 4)) (fun k => ac (k + 4)) s56) ⟨hx, hb, hml, hown, hts⟩ (fun sz => dm_X6_own l hlt dC dI (fun k => a (k + 4)) (fun k => ac (k + 4)) n (v0) (v2) s34.2.2 hq sz) (cwV 2 hts gi_dm_X5_read_11 rfl rfl rfl (by decide +kernel) ⟨Nat.le_of_ble_eq_true rfl, Nat.le_of_ble_eq_true rfl⟩) hPc hDc hKc hS hA hN (va_recv hKc hPc (ci := 7) (q0 := 0) rfl rfl) rfl hl.1 rfl (Nat.le_of_ble_eq_true rfl) dX5_read_138 (fun H locs hP1 hD1 hk1 hS => ?_)
                  obtain ⟨hP, hD⟩ := dn_X5_4 hP hD hzA hk1 hP1 hD1
                  obtain ⟨s58, es58, h⟩ := nd_let_e h
                  have hP : va_P (dC, dI) vwCl (dw_X5 a ac s58) H := by rw [es58]; exact hP
                  have hD : va_D A (dw_X5 a ac s58) := by rw [es58]; exact hD
                  refine lv_pop hx hb dX5_read_141 rfl ?_
                  refine lv_aload_n hx hb dX5_read_142 rfl (lv_at hl 2 rfl) ?_
                  refine va_get (D := (dC, dI)) (ci := 6) (v := .ref (a 4)) (C := RX5) (T := TX5) (N := 8) hx hb hts hi_dm_X5_read_X5 hown hK hP 0 rfl rfl 0 (by decide) (hts (.fieldLink RX5 18 "TimeMachine$Kernel" "machine" "LTimeMachine$Machine;") (List.mem_of_getElem? (i := 2) rfl)) (fun _ h9 => h9) rfl dX5_read_143 ?_
                  refine lv_iload_n hx hb dX5_read_146 rfl (lv_at hl 3 rfl) ?_
                  refine lv_iload_n hx hb dX5_read_147 rfl (lv_at hl 5 rfl) ?_
                  refine lv_iload hx hb dX5_read_148 (lv_at hl 0 rfl) ?_
                  refine lv_iadd hx hb dX5_read_150 ?_
                  refine lv_iconst (v := 1) hx hb dX5_read_151 (by decide) ?_
                  refine lv_isub hx hb dX5_read_152 ?_
                  obtain ⟨q59, s60, hq, h⟩ := nd_b2_e h
                  have hPc := dp_X5_4 hP
                  have hDc := dd_X5_4 hD
                  have hKc := dy_X5_4 hK
                  have hFc := nd_rs hDc hS hA
                  have hzA : ∀ q : Nat, H.size ≤ q → A q := fun q h => hA q (Nat.le_trans hS.1 h)
                  refine nd_cVi (As := [.int v0, .int ((v2 + q23) - 1)]) (rest := []) (q := q59) (w' := dw_X6 (fun k => a (k + 4)) (fun k => ac (k + 4)) s60) ⟨hx, hb, hml, hown, hts⟩ (fun sz => dm_X6_own l hlt dC dI (fun k => a (k + 4)) (fun k => ac (k + 4)) n (v0) (((v2 + q23) - 1)) s58.2.2 hq sz) (cwV 2 hts gi_dm_X5_read_11 rfl rfl rfl (by decide +kernel) ⟨Nat.le_of_ble_eq_true rfl, Nat.le_of_ble_eq_true rfl⟩) hPc hDc hKc hS hA hN (va_recv hKc hPc (ci := 7) (q0 := 0) rfl rfl) rfl hl.1 rfl (Nat.le_of_ble_eq_true rfl) dX5_read_153 (fun H locs hP1 hD1 hk1 hS => ?_)
                  obtain ⟨hP, hD⟩ := dn_X5_4 hP hD hzA hk1 hP1 hD1
                  obtain ⟨s62, es62, h⟩ := nd_let_e h
                  have hP : va_P (dC, dI) vwCl (dw_X5 a ac s62) H := by rw [es62]; exact hP
                  have hD : va_D A (dw_X5 a ac s62) := by rw [es62]; exact hD
                  refine lv_pop hx hb dX5_read_156 rfl ?_
                  exact (db_X5_read_157 C K) (v0) (v2) (v3) (q8) (q23) s62 _ _ _ h hP hD hS (lv_sub hl [2, 3, 5, 6, 1, 0] rfl)
              · have h := nd_neg h c35
                refine lv_ldc2 hx hb hown (hts (.constantLong RX5 155 (4398046511104)) (List.mem_of_getElem? (i := 43) rfl)) dX5_read_123 ?_
                exact K _ _ _ _ _ _ dX5_read_126 (Option.some.inj h).symm hP hD hS
            · have h := nd_neg h c22
              refine lv_ldc2 hx hb hown (hts (.constantLong RX5 157 (1099511627776)) (List.mem_of_getElem? (i := 44) rfl)) dX5_read_85 ?_
              exact K _ _ _ _ _ _ dX5_read_88 (Option.some.inj h).symm hP hD hS
          · have h := nd_pos h c17
            exact (db_X5_read_67 C K)  s16 _ _ _ h hP hD hS (lv_sub hl [] rfl)
      · have h := nd_pos h c7
        refine lv_ldc2 hx hb hown (hts (.constantLong RX5 257 (-14)) (List.mem_of_getElem? (i := 45) rfl)) dX5_read_32 ?_
        exact K _ _ _ _ _ _ dX5_read_35 (Option.some.inj h).symm hP hD hS
    · have h := nd_neg h c2
      exact (db_X5_read_13 C K)  s0 _ _ _ h hP hD hS (lv_sub hl [] rfl)
set_option maxHeartbeats 40000000 in
set_option maxRecDepth 100000 in
theorem dm_X5_read (l : Launch) (hlt : l.stackTraces = false) (dC : Nat → ClassId) (dI : Nat → Nat → Nat) (a : Nat → Nat) (ac : Nat → ClassId) (n : Nat) (v0 : Int32) (v1 : Int32) (v2 : Int32) (v3 : Int32) (s0 : St × (St × (St × (St)))) {r : Int64 × (St × (St × (St × (St))))} (h : df_X5_read n v0 v1 v2 v3 s0 = some r) (sz : Nat) : Met l yX5_read ow_dm_X5_read ({ frames := 2, cells := 0, slots := 0, locals := 65 }) (va_Pc [.ref (a 0), .int v0, .int v1, .int v2, .int v3] (fun U => U.heap.size = sz ∧ va_P (dC, dI) vwCl (dw_X5 a ac s0) U.heap ∧ va_K (dC, dI) vwCl (dk_X5 ac) U ∧ va_D (fun _ => True) (dw_X5 a ac s0) ∧ nv_E (va_A (dw_X5 a ac s0) sz) U)) (va_Ql (fun x _ => x = r.1) (fun (_ : Unit) t => va_P (dC, dI) vwCl (dw_X5 a ac r.2) t.heap ∧ va_K (dC, dI) vwCl (dk_X5 ac) t ∧ va_D (va_A (dw_X5 a ac s0) sz) (dw_X5 a ac r.2)) (va_A (dw_X5 a ac s0) sz)) 0 0 (va_A (dw_X5 a ac s0) sz) := by
  refine Met.ofW (cc := cX5_read) (maxL := 8) (ret := (some .long)) (by decide) rfl ?_
  intro p e s m args below meth c s₁ B hml hv
  obtain ⟨rfl, hsz, hP, hK, hD0, hN⟩ := hv
  have hx := B.exec
  have hb := B.bytes
  have hr := B.returns
  have hts := atoms_spec (ws := ow_dm_X5_read) B.pre
  have hown : s.vm.findClass RX5 = some m.cls := findClass_of_methodNamed B.named
  have hlocks := B.notSynchronized
  subst hsz
  have hD := hD0.self (sz := s.heap.size)
  generalize hAe : va_A (dw_X5 a ac s0) s.heap.size = A at hD hN ⊢
  have hA : ∀ q : Nat, s.heap.size ≤ q → A q := fun q h => by rw [← hAe]; exact Or.inr h
  have hl := lv_entry ([.ref (a 0), .int v0, .int v1, .int v2, .int v3]) (n := 8) (Nat.le_of_ble_eq_true rfl)
  rw [lg_entry_eq]
  generalize (lg_sl ([.ref (a 0), .int v0, .int v1, .int v2, .int v3]) ++ List.replicate (8 - (lg_sl ([.ref (a 0), .int v0, .int v1, .int v2, .int v3])).length) Slot.unset).toArray = ls at hl ⊢
  have hl : lv_has ls 8 [(0, .ref (a 0)), (1, .int v0), (2, .int v1), (3, .int v2), (4, .int v3)] := hl
  exact db_X5_read_0 (dC := dC) (dI := dI) (a := a) (ac := ac) (n := n) (r := r) ⟨hlt, hx, hb, hml, hown, hts, hN, hA, hK⟩ (fun pc v τ H locs ls d er hP hD hS => by subst er; exact W.lret (v := v) hx hb hr (fun t ht hW => ⟨⟨v, (), rfl, rfl, by rw [ht]; exact hP, va_K.moved hW.alike hK, hD⟩, hS.F ht⟩) hS.2.2 d) v0 v1 v2 v3 s0 _ _ _ h hP hD va_S.rf (lv_sub hl [0, 1, 2, 3, 4] rfl)
def ow_dm_X5_write : List Cond := .code yX5_write cX5_write 10 (some .long) :: ([.constantLong RX5 251 (-22), .fieldLink RX5 18 "TimeMachine$Kernel" "machine" "LTimeMachine$Machine;", .methodLink RX5 253 yX6_mayAll, .instanceMethod yX6_mayAll, .selects RX6 yX6_mayAll yX6_mayAll, .initialized RX6, .fieldLink RX5 28 "TimeMachine$Kernel" "things" "LTimeMachine$Things;", .methodLink RX5 123 yX10_openingOf, .instanceMethod yX10_openingOf, .selects RX10 yX10_openingOf yX10_openingOf, .initialized RX10, .constantLong RX5 294 (-1), .methodLink RX5 291 yX10_of, .instanceMethod yX10_of, .selects RX10 yX10_of yX10_of, .methodLink RX5 305 yX10_isBroken, .instanceMethod yX10_isBroken, .selects RX10 yX10_isBroken yX10_isBroken, .methodLink RX5 130 yX10_writeWaits, .instanceMethod yX10_writeWaits, .selects RX10 yX10_writeWaits yX10_writeWaits, .methodLink RX5 318 yX6_byteAt, .instanceMethod yX6_byteAt, .selects RX6 yX6_byteAt yX6_byteAt, .methodLink RX5 327 yX10_putPiped, .instanceMethod yX10_putPiped, .selects RX10 yX10_putPiped yX10_putPiped, .methodLink RX5 324 yX10_show, .instanceMethod yX10_show, .selects RX10 yX10_show yX10_show, .methodLink RX5 321 yX10_putFiled, .instanceMethod yX10_putFiled, .selects RX10 yX10_putFiled yX10_putFiled, .methodLink RX5 315 yX10_stretch, .instanceMethod yX10_stretch, .selects RX10 yX10_stretch yX10_stretch, .constantLong RX5 157 (1099511627776), .constantLong RX5 313 (-7), .methodLink RX5 310 yX10_writingPlace, .instanceMethod yX10_writingPlace, .selects RX10 yX10_writingPlace yX10_writingPlace, .constantLong RX5 308 (-5), .constantLong RX5 257 (-14)] ++ (u_ws RX5 TX5 8 ++ (ow_dm_X6_mayAll ++ (ow_dm_X10_openingOf ++ (ow_dm_X10_of ++ (ow_dm_X10_isBroken ++ (ow_dm_X10_writeWaits ++ (ow_dm_X6_byteAt ++ (ow_dm_X10_putPiped ++ (ow_dm_X10_show ++ (ow_dm_X10_putFiled ++ (ow_dm_X10_stretch ++ (ow_dm_X10_writingPlace ++ [])))))))))))))
theorem gd_dm_X5_write : ∀ w ∈ ow_dm_X5_write, (w.onTables && w.keeps) = true ∨ ∃ ty, w = Cond.arrayClass ty := List.forall_mem_cons.mpr ⟨good_of_word rfl, List.forall_mem_append.mpr ⟨fun w h => good_of_word (List.all_eq_true.mp (by decide +kernel) w h), List.forall_mem_append.mpr ⟨gu_X5, List.forall_mem_append.mpr ⟨gd_dm_X6_mayAll, List.forall_mem_append.mpr ⟨gd_dm_X10_openingOf, List.forall_mem_append.mpr ⟨gd_dm_X10_of, List.forall_mem_append.mpr ⟨gd_dm_X10_isBroken, List.forall_mem_append.mpr ⟨gd_dm_X10_writeWaits, List.forall_mem_append.mpr ⟨gd_dm_X6_byteAt, List.forall_mem_append.mpr ⟨gd_dm_X10_putPiped, List.forall_mem_append.mpr ⟨gd_dm_X10_show, List.forall_mem_append.mpr ⟨gd_dm_X10_putFiled, List.forall_mem_append.mpr ⟨gd_dm_X10_stretch, List.forall_mem_append.mpr ⟨gd_dm_X10_writingPlace, fun _ h => nomatch h⟩⟩⟩⟩⟩⟩⟩⟩⟩⟩⟩⟩⟩⟩
theorem hi_dm_X5_write_X5 : ∀ w ∈ u_ws RX5 TX5 8, w ∈ ow_dm_X5_write := fun w h => List.mem_cons_of_mem _ (List.mem_append_right _ (List.mem_append_left _ h))
theorem gi_dm_X5_write_0 : GoodIn ow_dm_X5_write (wsV RX5 253 RX6 yX6_mayAll ow_dm_X6_mayAll) := goodIn_app (goodIn_of _ (by decide +kernel)) (fun w h => ⟨List.mem_cons_of_mem _ (List.mem_append_right _ (List.mem_append_right _ (List.mem_append_left _ h))), gd_dm_X6_mayAll w h⟩)
theorem gi_dm_X5_write_1 : GoodIn ow_dm_X5_write (wsV RX5 123 RX10 yX10_openingOf ow_dm_X10_openingOf) := goodIn_app (goodIn_of _ (by decide +kernel)) (fun w h => ⟨List.mem_cons_of_mem _ (List.mem_append_right _ (List.mem_append_right _ (List.mem_append_right _ (List.mem_append_left _ h)))), gd_dm_X10_openingOf w h⟩)
theorem gi_dm_X5_write_2 : GoodIn ow_dm_X5_write (wsV RX5 291 RX10 yX10_of ow_dm_X10_of) := goodIn_app (goodIn_of _ (by decide +kernel)) (fun w h => ⟨List.mem_cons_of_mem _ (List.mem_append_right _ (List.mem_append_right _ (List.mem_append_right _ (List.mem_append_right _ (List.mem_append_left _ h))))), gd_dm_X10_of w h⟩)
theorem gi_dm_X5_write_3 : GoodIn ow_dm_X5_write (wsV RX5 305 RX10 yX10_isBroken ow_dm_X10_isBroken) := goodIn_app (goodIn_of _ (by decide +kernel)) (fun w h => ⟨List.mem_cons_of_mem _ (List.mem_append_right _ (List.mem_append_right _ (List.mem_append_right _ (List.mem_append_right _ (List.mem_append_right _ (List.mem_append_left _ h)))))), gd_dm_X10_isBroken w h⟩)
theorem gi_dm_X5_write_4 : GoodIn ow_dm_X5_write (wsV RX5 130 RX10 yX10_writeWaits ow_dm_X10_writeWaits) := goodIn_app (goodIn_of _ (by decide +kernel)) (fun w h => ⟨List.mem_cons_of_mem _ (List.mem_append_right _ (List.mem_append_right _ (List.mem_append_right _ (List.mem_append_right _ (List.mem_append_right _ (List.mem_append_right _ (List.mem_append_left _ h))))))), gd_dm_X10_writeWaits w h⟩)
theorem gi_dm_X5_write_5 : GoodIn ow_dm_X5_write (wsV RX5 318 RX6 yX6_byteAt ow_dm_X6_byteAt) := goodIn_app (goodIn_of _ (by decide +kernel)) (fun w h => ⟨List.mem_cons_of_mem _ (List.mem_append_right _ (List.mem_append_right _ (List.mem_append_right _ (List.mem_append_right _ (List.mem_append_right _ (List.mem_append_right _ (List.mem_append_right _ (List.mem_append_left _ h)))))))), gd_dm_X6_byteAt w h⟩)
theorem gi_dm_X5_write_6 : GoodIn ow_dm_X5_write (wsV RX5 327 RX10 yX10_putPiped ow_dm_X10_putPiped) := goodIn_app (goodIn_of _ (by decide +kernel)) (fun w h => ⟨List.mem_cons_of_mem _ (List.mem_append_right _ (List.mem_append_right _ (List.mem_append_right _ (List.mem_append_right _ (List.mem_append_right _ (List.mem_append_right _ (List.mem_append_right _ (List.mem_append_right _ (List.mem_append_left _ h))))))))), gd_dm_X10_putPiped w h⟩)
theorem gi_dm_X5_write_7 : GoodIn ow_dm_X5_write (wsV RX5 324 RX10 yX10_show ow_dm_X10_show) := goodIn_app (goodIn_of _ (by decide +kernel)) (fun w h => ⟨List.mem_cons_of_mem _ (List.mem_append_right _ (List.mem_append_right _ (List.mem_append_right _ (List.mem_append_right _ (List.mem_append_right _ (List.mem_append_right _ (List.mem_append_right _ (List.mem_append_right _ (List.mem_append_right _ (List.mem_append_left _ h)))))))))), gd_dm_X10_show w h⟩)
theorem gi_dm_X5_write_8 : GoodIn ow_dm_X5_write (wsV RX5 321 RX10 yX10_putFiled ow_dm_X10_putFiled) := goodIn_app (goodIn_of _ (by decide +kernel)) (fun w h => ⟨List.mem_cons_of_mem _ (List.mem_append_right _ (List.mem_append_right _ (List.mem_append_right _ (List.mem_append_right _ (List.mem_append_right _ (List.mem_append_right _ (List.mem_append_right _ (List.mem_append_right _ (List.mem_append_right _ (List.mem_append_right _ (List.mem_append_left _ h))))))))))), gd_dm_X10_putFiled w h⟩)
theorem gi_dm_X5_write_9 : GoodIn ow_dm_X5_write (wsV RX5 315 RX10 yX10_stretch ow_dm_X10_stretch) := goodIn_app (goodIn_of _ (by decide +kernel)) (fun w h => ⟨List.mem_cons_of_mem _ (List.mem_append_right _ (List.mem_append_right _ (List.mem_append_right _ (List.mem_append_right _ (List.mem_append_right _ (List.mem_append_right _ (List.mem_append_right _ (List.mem_append_right _ (List.mem_append_right _ (List.mem_append_right _ (List.mem_append_right _ (List.mem_append_left _ h)))))))))))), gd_dm_X10_stretch w h⟩)
theorem gi_dm_X5_write_10 : GoodIn ow_dm_X5_write (wsV RX5 310 RX10 yX10_writingPlace ow_dm_X10_writingPlace) := goodIn_app (goodIn_of _ (by decide +kernel)) (fun w h => ⟨List.mem_cons_of_mem _ (List.mem_append_right _ (List.mem_append_right _ (List.mem_append_right _ (List.mem_append_right _ (List.mem_append_right _ (List.mem_append_right _ (List.mem_append_right _ (List.mem_append_right _ (List.mem_append_right _ (List.mem_append_right _ (List.mem_append_right _ (List.mem_append_right _ (List.mem_append_left _ h))))))))))))), gd_dm_X10_writingPlace w h⟩)
def dj_X5_write_13 (p : Program) (l : Launch) (e : Env) (s : State) (m : MethodId) (args : Array Value) (below : List Frame) (meth : Method) (c : Code) (Q : State → Prop) (A : Nat → Prop) (dC : Nat → ClassId) (dI : Nat → Nat → Nat) (a : Nat → Nat) (ac : Nat → ClassId) (g : (St × (St × (St × (St)))) → Option (Int64 × (St × (St × (St × (St)))))) (r : Int64 × (St × (St × (St × (St))))) : Prop := ∀ (s0 : St × (St × (St × (St)))) (H : Heap) (locs : List Loc) (ls : Array Slot), g s0 = some r → va_P (dC, dI) vwCl (dw_X5 a ac s0) H → va_D A (dw_X5 a ac s0) → va_S A s.heap H locs → lv_has ls 10 [] → W p l e (headSpec ow_dm_X5_write ({ frames := 2, cells := 0, slots := 0, locals := 48 })).room s m args below meth c H locs 0 0 Q (F0 m 13 ls [])
def dj_X5_write_67 (p : Program) (l : Launch) (e : Env) (s : State) (m : MethodId) (args : Array Value) (below : List Frame) (meth : Method) (c : Code) (Q : State → Prop) (A : Nat → Prop) (dC : Nat → ClassId) (dI : Nat → Nat → Nat) (a : Nat → Nat) (ac : Nat → ClassId) (g : (St × (St × (St × (St)))) → Option (Int64 × (St × (St × (St × (St)))))) (r : Int64 × (St × (St × (St × (St))))) : Prop := ∀ (s0 : St × (St × (St × (St)))) (H : Heap) (locs : List Loc) (ls : Array Slot), g s0 = some r → va_P (dC, dI) vwCl (dw_X5 a ac s0) H → va_D A (dw_X5 a ac s0) → va_S A s.heap H locs → lv_has ls 10 [] → W p l e (headSpec ow_dm_X5_write ({ frames := 2, cells := 0, slots := 0, locals := 48 })).room s m args below meth c H locs 0 0 Q (F0 m 67 ls [])
def dj_X5_write_260 (p : Program) (l : Launch) (e : Env) (s : State) (m : MethodId) (args : Array Value) (below : List Frame) (meth : Method) (c : Code) (Q : State → Prop) (A : Nat → Prop) (dC : Nat → ClassId) (dI : Nat → Nat → Nat) (a : Nat → Nat) (ac : Nat → ClassId) (g : Int32 → Int32 → Int32 → Int32 → Int32 → Int32 → Int32 → (St × (St × (St × (St)))) → Option (Int64 × (St × (St × (St × (St)))))) (r : Int64 × (St × (St × (St × (St))))) : Prop := ∀ (x1 : Int32) (x3 : Int32) (x4 : Int32) (x5 : Int32) (x6 : Int32) (x7 : Int32) (x8 : Int32) (s0 : St × (St × (St × (St)))) (H : Heap) (locs : List Loc) (ls : Array Slot), g x1 x3 x4 x5 x6 x7 x8 s0 = some r → va_P (dC, dI) vwCl (dw_X5 a ac s0) H → va_D A (dw_X5 a ac s0) → va_S A s.heap H locs → lv_has ls 10 [(0, .ref (a 0)), (1, .int x1), (3, .int x3), (4, .int x4), (5, .int x5), (6, .int x6), (7, .int x7), (8, .int x8)] → W p l e (headSpec ow_dm_X5_write ({ frames := 2, cells := 0, slots := 0, locals := 48 })).room s m args below meth c H locs 0 0 Q (F0 m 260 ls [])
def dj_X5_write_185 (p : Program) (l : Launch) (e : Env) (s : State) (m : MethodId) (args : Array Value) (below : List Frame) (meth : Method) (c : Code) (Q : State → Prop) (A : Nat → Prop) (dC : Nat → ClassId) (dI : Nat → Nat → Nat) (a : Nat → Nat) (ac : Nat → ClassId) (g : Int32 → Int32 → Int32 → Int32 → Int32 → Int32 → Int32 → (St × (St × (St × (St)))) → Option (Int64 × (St × (St × (St × (St)))))) (r : Int64 × (St × (St × (St × (St))))) : Prop := ∀ (x1 : Int32) (x3 : Int32) (x4 : Int32) (x5 : Int32) (x6 : Int32) (x7 : Int32) (x8 : Int32) (s0 : St × (St × (St × (St)))) (H : Heap) (locs : List Loc) (ls : Array Slot), g x1 x3 x4 x5 x6 x7 x8 s0 = some r → va_P (dC, dI) vwCl (dw_X5 a ac s0) H → va_D A (dw_X5 a ac s0) → va_S A s.heap H locs → lv_has ls 10 [(0, .ref (a 0)), (1, .int x1), (3, .int x3), (4, .int x4), (5, .int x5), (6, .int x6), (7, .int x7), (8, .int x8)] → W p l e (headSpec ow_dm_X5_write ({ frames := 2, cells := 0, slots := 0, locals := 48 })).room s m args below meth c H locs 0 0 Q (F0 m 185 ls [])
def dj_X5_write_182 (p : Program) (l : Launch) (e : Env) (s : State) (m : MethodId) (args : Array Value) (below : List Frame) (meth : Method) (c : Code) (Q : State → Prop) (A : Nat → Prop) (dC : Nat → ClassId) (dI : Nat → Nat → Nat) (a : Nat → Nat) (ac : Nat → ClassId) (g : Int32 → Int32 → Int32 → Int32 → Int32 → Int32 → (St × (St × (St × (St)))) → Option (Int64 × (St × (St × (St × (St)))))) (r : Int64 × (St × (St × (St × (St))))) : Prop := ∀ (x1 : Int32) (x3 : Int32) (x4 : Int32) (x5 : Int32) (x6 : Int32) (x7 : Int32) (s0 : St × (St × (St × (St)))) (H : Heap) (locs : List Loc) (ls : Array Slot), g x1 x3 x4 x5 x6 x7 s0 = some r → va_P (dC, dI) vwCl (dw_X5 a ac s0) H → va_D A (dw_X5 a ac s0) → va_S A s.heap H locs → lv_has ls 10 [(0, .ref (a 0)), (1, .int x1), (3, .int x3), (4, .int x4), (5, .int x5), (6, .int x6), (7, .int x7)] → W p l e (headSpec ow_dm_X5_write ({ frames := 2, cells := 0, slots := 0, locals := 48 })).room s m args below meth c H locs 0 0 Q (F0 m 182 ls [])
def dj_X5_write_140 (p : Program) (l : Launch) (e : Env) (s : State) (m : MethodId) (args : Array Value) (below : List Frame) (meth : Method) (c : Code) (Q : State → Prop) (A : Nat → Prop) (dC : Nat → ClassId) (dI : Nat → Nat → Nat) (a : Nat → Nat) (ac : Nat → ClassId) (g : Int32 → Int32 → Int32 → Int32 → Int32 → Int32 → (St × (St × (St × (St)))) → Option (Int64 × (St × (St × (St × (St)))))) (r : Int64 × (St × (St × (St × (St))))) : Prop := ∀ (x1 : Int32) (x3 : Int32) (x4 : Int32) (x5 : Int32) (x6 : Int32) (x7 : Int32) (s0 : St × (St × (St × (St)))) (H : Heap) (locs : List Loc) (ls : Array Slot), g x1 x3 x4 x5 x6 x7 s0 = some r → va_P (dC, dI) vwCl (dw_X5 a ac s0) H → va_D A (dw_X5 a ac s0) → va_S A s.heap H locs → lv_has ls 10 [(0, .ref (a 0)), (1, .int x1), (3, .int x3), (4, .int x4), (5, .int x5), (6, .int x6), (7, .int x7)] → W p l e (headSpec ow_dm_X5_write ({ frames := 2, cells := 0, slots := 0, locals := 48 })).room s m args below meth c H locs 0 0 Q (F0 m 140 ls [])
def dj_X5_write_118 (p : Program) (l : Launch) (e : Env) (s : State) (m : MethodId) (args : Array Value) (below : List Frame) (meth : Method) (c : Code) (Q : State → Prop) (A : Nat → Prop) (dC : Nat → ClassId) (dI : Nat → Nat → Nat) (a : Nat → Nat) (ac : Nat → ClassId) (g : Int32 → Int32 → Int32 → Int32 → Int32 → Int32 → (St × (St × (St × (St)))) → Option (Int64 × (St × (St × (St × (St)))))) (r : Int64 × (St × (St × (St × (St))))) : Prop := ∀ (x1 : Int32) (x3 : Int32) (x4 : Int32) (x5 : Int32) (x6 : Int32) (y0 : Int32) (s0 : St × (St × (St × (St)))) (H : Heap) (locs : List Loc) (ls : Array Slot), g x1 x3 x4 x5 x6 y0 s0 = some r → va_P (dC, dI) vwCl (dw_X5 a ac s0) H → va_D A (dw_X5 a ac s0) → va_S A s.heap H locs → lv_has ls 10 [(0, .ref (a 0)), (1, .int x1), (3, .int x3), (4, .int x4), (5, .int x5), (6, .int x6)] → W p l e (headSpec ow_dm_X5_write ({ frames := 2, cells := 0, slots := 0, locals := 48 })).room s m args below meth c H locs 0 0 Q (F0 m 118 ls [.int y0])
def dj_X5_write_0 (p : Program) (l : Launch) (e : Env) (s : State) (m : MethodId) (args : Array Value) (below : List Frame) (meth : Method) (c : Code) (Q : State → Prop) (A : Nat → Prop) (dC : Nat → ClassId) (dI : Nat → Nat → Nat) (a : Nat → Nat) (ac : Nat → ClassId) (g : Int32 → Int32 → Int32 → Int32 → (St × (St × (St × (St)))) → Option (Int64 × (St × (St × (St × (St)))))) (r : Int64 × (St × (St × (St × (St))))) : Prop := ∀ (v0 : Int32) (v1 : Int32) (v2 : Int32) (v3 : Int32) (s0 : St × (St × (St × (St)))) (H : Heap) (locs : List Loc) (ls : Array Slot), g v0 v1 v2 v3 s0 = some r → va_P (dC, dI) vwCl (dw_X5 a ac s0) H → va_D A (dw_X5 a ac s0) → va_S A s.heap H locs → lv_has ls 10 [(0, .ref (a 0)), (1, .int v0), (2, .int v1), (3, .int v2), (4, .int v3)] → W p l e (headSpec ow_dm_X5_write ({ frames := 2, cells := 0, slots := 0, locals := 48 })).room s m args below meth c H locs 0 0 Q (F0 m 0 ls [])
set_option maxHeartbeats 40000000 in
set_option maxRecDepth 100000 in
theorem db_X5_write_13 {p : Program} {l : Launch} {e : Env} {s : State} {m : MethodId} {args : Array Value} {below : List Frame} {meth : Method} {c : Code} {Q : State → Prop} {A : Nat → Prop} {dC : Nat → ClassId} {dI : Nat → Nat → Nat} {a : Nat → Nat} {ac : Nat → ClassId} {n : Nat} {r : Int64 × (St × (St × (St × (St))))} (C : nd_C p l s m args c A (dC, dI) cX5_write 10 RX5 ow_dm_X5_write (dk_X5 ac)) (K : nd_Kl p l e (headSpec ow_dm_X5_write ({ frames := 2, cells := 0, slots := 0, locals := 48 })).room s m args below meth c Q A (dC, dI) cX5_write (St × (St × (St × (St)))) (dw_X5 a ac) r) : dj_X5_write_13 p l e s m args below meth c Q A dC dI a ac (df_X5_write_13 n) r := by
  obtain ⟨hlt, hx, hb, hml, hown, hts, hN, hA, hK⟩ := id C
  intro s0 H locs ls h hP hD hS hl
  unfold df_X5_write_13 at h
  refine lv_ldc2 hx hb hown (hts (.constantLong RX5 251 (-22)) (List.mem_of_getElem? (i := 1) rfl)) dX5_write_13 ?_
  exact K _ _ _ _ _ _ dX5_write_16 (Option.some.inj h).symm hP hD hS
set_option maxHeartbeats 40000000 in
set_option maxRecDepth 100000 in
theorem db_X5_write_67 {p : Program} {l : Launch} {e : Env} {s : State} {m : MethodId} {args : Array Value} {below : List Frame} {meth : Method} {c : Code} {Q : State → Prop} {A : Nat → Prop} {dC : Nat → ClassId} {dI : Nat → Nat → Nat} {a : Nat → Nat} {ac : Nat → ClassId} {n : Nat} {r : Int64 × (St × (St × (St × (St))))} (C : nd_C p l s m args c A (dC, dI) cX5_write 10 RX5 ow_dm_X5_write (dk_X5 ac)) (K : nd_Kl p l e (headSpec ow_dm_X5_write ({ frames := 2, cells := 0, slots := 0, locals := 48 })).room s m args below meth c Q A (dC, dI) cX5_write (St × (St × (St × (St)))) (dw_X5 a ac) r) : dj_X5_write_67 p l e s m args below meth c Q A dC dI a ac (df_X5_write_67 n) r := by
  obtain ⟨hlt, hx, hb, hml, hown, hts, hN, hA, hK⟩ := id C
  intro s0 H locs ls h hP hD hS hl
  unfold df_X5_write_67 at h
  refine lv_ldc2 hx hb hown (hts (.constantLong RX5 294 (-1)) (List.mem_of_getElem? (i := 12) rfl)) dX5_write_67 ?_
  exact K _ _ _ _ _ _ dX5_write_70 (Option.some.inj h).symm hP hD hS
set_option maxHeartbeats 40000000 in
set_option maxRecDepth 100000 in
theorem db_X5_write_260 {p : Program} {l : Launch} {e : Env} {s : State} {m : MethodId} {args : Array Value} {below : List Frame} {meth : Method} {c : Code} {Q : State → Prop} {A : Nat → Prop} {dC : Nat → ClassId} {dI : Nat → Nat → Nat} {a : Nat → Nat} {ac : Nat → ClassId} {n : Nat} {r : Int64 × (St × (St × (St × (St))))} (C : nd_C p l s m args c A (dC, dI) cX5_write 10 RX5 ow_dm_X5_write (dk_X5 ac)) (K : nd_Kl p l e (headSpec ow_dm_X5_write ({ frames := 2, cells := 0, slots := 0, locals := 48 })).room s m args below meth c Q A (dC, dI) cX5_write (St × (St × (St × (St)))) (dw_X5 a ac) r) {g185 : Int32 → Int32 → Int32 → Int32 → Int32 → Int32 → Int32 → (St × (St × (St × (St)))) → Option (Int64 × (St × (St × (St × (St)))))} (J185 : dj_X5_write_185 p l e s m args below meth c Q A dC dI a ac g185 r) : dj_X5_write_260 p l e s m args below meth c Q A dC dI a ac (df_X5_write_260 n g185) r := by
  obtain ⟨hlt, hx, hb, hml, hown, hts, hN, hA, hK⟩ := id C
  intro x1 x3 x4 x5 x6 x7 x8 s0 H locs ls h hP hD hS hl
  unfold df_X5_write_260 at h
  obtain ⟨z46, ez46, h⟩ := nd_let_e h
  refine lv_iinc (v := z46) (lv' := [(8, .int z46), (0, .ref (a 0)), (1, .int x1), (3, .int x3), (4, .int x4), (5, .int x5), (6, .int x6), (7, .int x7)]) hx hb dX5_write_260 hl (k := 7) rfl (by rw [ez46]) (by decide) rfl (fun ls hl => ?_)
  refine lv_goto (tgt := 185) hx hb dX5_write_263 (by decide) ?_
  exact (J185) (x1) (x3) (x4) (x5) (x6) (x7) (z46) s0 _ _ _ h hP hD hS (lv_sub hl [1, 2, 3, 4, 5, 6, 7, 0] rfl)
set_option maxHeartbeats 40000000 in
set_option maxRecDepth 100000 in
theorem dB_X5_write_185 {p : Program} {l : Launch} {e : Env} {s : State} {m : MethodId} {args : Array Value} {below : List Frame} {meth : Method} {c : Code} {Q : State → Prop} {A : Nat → Prop} {dC : Nat → ClassId} {dI : Nat → Nat → Nat} {a : Nat → Nat} {ac : Nat → ClassId} {n : Nat} {r : Int64 × (St × (St × (St × (St))))} (C : nd_C p l s m args c A (dC, dI) cX5_write 10 RX5 ow_dm_X5_write (dk_X5 ac)) (K : nd_Kl p l e (headSpec ow_dm_X5_write ({ frames := 2, cells := 0, slots := 0, locals := 48 })).room s m args below meth c Q A (dC, dI) cX5_write (St × (St × (St × (St)))) (dw_X5 a ac) r) {g185 : Int32 → Int32 → Int32 → Int32 → Int32 → Int32 → Int32 → (St × (St × (St × (St)))) → Option (Int64 × (St × (St × (St × (St)))))} (J185 : dj_X5_write_185 p l e s m args below meth c Q A dC dI a ac g185 r) : dj_X5_write_185 p l e s m args below meth c Q A dC dI a ac (dF_X5_write_185 n g185) r := by
  obtain ⟨hlt, hx, hb, hml, hown, hts, hN, hA, hK⟩ := id C
  intro x1 x3 x4 x5 x6 x7 x8 s0 H locs ls h hP hD hS hl
  unfold dF_X5_write_185 at h
  refine lv_iload hx hb dX5_write_185 (lv_at hl 7 rfl) ?_
  refine lv_iload hx hb dX5_write_187 (lv_at hl 3 rfl) ?_
  refine lv_icmp_ge (tgt := 266) hx hb dX5_write_189 (by decide) (fun c35 => ?_) (fun c35 => ?_)
  · have h := nd_pos h c35
    refine lv_iload hx hb dX5_write_266 (lv_at hl 3 rfl) ?_
    refine lv_i2l hx hb dX5_write_268 rfl ?_
    exact K _ _ _ _ _ _ dX5_write_269 (Option.some.inj h).symm hP hD hS
  · have h := nd_neg h c35
    refine lv_aload_n hx hb dX5_write_192 rfl (lv_at hl 0 rfl) ?_
    refine va_get (D := (dC, dI)) (ci := 6) (v := .ref (a 4)) (C := RX5) (T := TX5) (N := 8) hx hb hts hi_dm_X5_write_X5 hown hK hP 0 rfl rfl 0 (by decide) (hts (.fieldLink RX5 18 "TimeMachine$Kernel" "machine" "LTimeMachine$Machine;") (List.mem_of_getElem? (i := 2) rfl)) (fun _ h9 => h9) rfl dX5_write_193 ?_
    refine lv_iload_n hx hb dX5_write_196 rfl (lv_at hl 1 rfl) ?_
    refine lv_iload_n hx hb dX5_write_197 rfl (lv_at hl 2 rfl) ?_
    refine lv_iload hx hb dX5_write_198 (lv_at hl 7 rfl) ?_
    refine lv_iadd hx hb dX5_write_200 ?_
    obtain ⟨q36, s37, hq, h⟩ := nd_b2_e h
    have hPc := dp_X5_4 hP
    have hDc := dd_X5_4 hD
    have hKc := dy_X5_4 hK
    have hFc := nd_rs hDc hS hA
    have hzA : ∀ q : Nat, H.size ≤ q → A q := fun q h => hA q (Nat.le_trans hS.1 h)
    refine nd_cVi (As := [.int x1, .int (x3 + x8)]) (rest := []) (q := q36) (w' := dw_X6 (fun k => a (k + 4)) (fun k => ac (k + 4)) s37) ⟨hx, hb, hml, hown, hts⟩ (fun sz => dm_X6_byteAt l hlt dC dI (fun k => a (k + 4)) (fun k => ac (k + 4)) n (x1) ((x3 + x8)) s0.2.2 hq sz) (cwV 2 hts gi_dm_X5_write_5 rfl rfl rfl (by decide +kernel) ⟨Nat.le_of_ble_eq_true rfl, Nat.le_of_ble_eq_true rfl⟩) hPc hDc hKc hS hA hN (va_recv hKc hPc (ci := 7) (q0 := 0) rfl rfl) rfl hl.1 rfl (Nat.le_of_ble_eq_true rfl) dX5_write_201 (fun H locs hP1 hD1 hk1 hS => ?_)
    obtain ⟨hP, hD⟩ := dn_X5_4 hP hD hzA hk1 hP1 hD1
    obtain ⟨s39, es39, h⟩ := nd_let_e h
    have hP : va_P (dC, dI) vwCl (dw_X5 a ac s39) H := by rw [es39]; exact hP
    have hD : va_D A (dw_X5 a ac s39) := by rw [es39]; exact hD
    refine lv_istore (lv' := [(9, .int q36), (0, .ref (a 0)), (1, .int x1), (3, .int x3), (4, .int x4), (5, .int x5), (6, .int x6), (7, .int x7), (8, .int x8)]) hx hb dX5_write_204 hl (by decide) rfl (fun ls hl => ?_)
    refine lv_iload hx hb dX5_write_206 (lv_at hl 6 rfl) ?_
    refine lv_iconst (v := 3) hx hb dX5_write_208 (by decide) ?_
    refine lv_icmp_ne (tgt := 231) hx hb dX5_write_209 (by decide) (fun c40 => ?_) (fun c40 => ?_)
    · have h := nd_neg h c40
      refine lv_iload hx hb dX5_write_231 (lv_at hl 6 rfl) ?_
      refine lv_iconst (v := 4) hx hb dX5_write_233 (by decide) ?_
      refine lv_icmp_ne (tgt := 249) hx hb dX5_write_234 (by decide) (fun c41 => ?_) (fun c41 => ?_)
      · have h := nd_neg h c41
        refine lv_aload_n hx hb dX5_write_249 rfl (lv_at hl 1 rfl) ?_
        refine va_get (D := (dC, dI)) (ci := 6) (v := .ref (a 14)) (C := RX5) (T := TX5) (N := 8) hx hb hts hi_dm_X5_write_X5 hown hK hP 0 rfl rfl 1 (by decide) (hts (.fieldLink RX5 28 "TimeMachine$Kernel" "things" "LTimeMachine$Things;") (List.mem_of_getElem? (i := 7) rfl)) (fun _ h9 => h9) rfl dX5_write_250 ?_
        refine lv_iload hx hb dX5_write_253 (lv_at hl 5 rfl) ?_
        refine lv_iload hx hb dX5_write_255 (lv_at hl 0 rfl) ?_
        obtain ⟨s43, hq, h⟩ := nd_b1_e h
        have hPc := dp_X5_14 hP
        have hDc := dd_X5_14 hD
        have hKc := dy_X5_14 hK
        have hFc := nd_rs hDc hS hA
        have hzA : ∀ q : Nat, H.size ≤ q → A q := fun q h => hA q (Nat.le_trans hS.1 h)
        refine nd_cVv (As := [.int x5, .int q36]) (rest := []) (w' := dw_X10 (fun k => a (k + 14)) (fun k => ac (k + 14)) s43) ⟨hx, hb, hml, hown, hts⟩ (fun sz => dm_X10_putPiped l hlt dC dI (fun k => a (k + 14)) (fun k => ac (k + 14)) n (x5) (q36) s39.2.2.2 hq sz) (cwV 2 hts gi_dm_X5_write_6 rfl rfl rfl (by decide +kernel) ⟨Nat.le_of_ble_eq_true rfl, Nat.le_of_ble_eq_true rfl⟩) hPc hDc hKc hS hA hN (va_recv hKc hPc (ci := 11) (q0 := 0) rfl rfl) rfl hl.1 rfl (Nat.le_of_ble_eq_true rfl) dX5_write_257 (fun H locs hP1 hD1 hk1 hS => ?_)
        obtain ⟨hP, hD⟩ := dn_X5_14 hP hD hzA hk1 hP1 hD1
        obtain ⟨s45, es45, h⟩ := nd_let_e h
        have hP : va_P (dC, dI) vwCl (dw_X5 a ac s45) H := by rw [es45]; exact hP
        have hD : va_D A (dw_X5 a ac s45) := by rw [es45]; exact hD
        exact (db_X5_write_260 C K J185) (x1) (x3) (x4) (x5) (x6) (x7) (x8) s45 _ _ _ h hP hD hS (lv_sub hl [1, 2, 3, 4, 5, 6, 7, 8] rfl)
      · have h := nd_pos h c41
        refine lv_aload_n hx hb dX5_write_237 rfl (lv_at hl 1 rfl) ?_
        refine va_get (D := (dC, dI)) (ci := 6) (v := .ref (a 14)) (C := RX5) (T := TX5) (N := 8) hx hb hts hi_dm_X5_write_X5 hown hK hP 0 rfl rfl 1 (by decide) (hts (.fieldLink RX5 28 "TimeMachine$Kernel" "things" "LTimeMachine$Things;") (List.mem_of_getElem? (i := 7) rfl)) (fun _ h9 => h9) rfl dX5_write_238 ?_
        refine lv_iload hx hb dX5_write_241 (lv_at hl 0 rfl) ?_
        obtain ⟨s48, hq, h⟩ := nd_b1_e h
        have hPc := dp_X5_14 hP
        have hDc := dd_X5_14 hD
        have hKc := dy_X5_14 hK
        have hFc := nd_rs hDc hS hA
        have hzA : ∀ q : Nat, H.size ≤ q → A q := fun q h => hA q (Nat.le_trans hS.1 h)
        refine nd_cVv (As := [.int q36]) (rest := []) (w' := dw_X10 (fun k => a (k + 14)) (fun k => ac (k + 14)) s48) ⟨hx, hb, hml, hown, hts⟩ (fun sz => dm_X10_show l hlt dC dI (fun k => a (k + 14)) (fun k => ac (k + 14)) n (q36) s39.2.2.2 hq sz) (cwV 1 hts gi_dm_X5_write_7 rfl rfl rfl (by decide +kernel) ⟨Nat.le_of_ble_eq_true rfl, Nat.le_of_ble_eq_true rfl⟩) hPc hDc hKc hS hA hN (va_recv hKc hPc (ci := 11) (q0 := 0) rfl rfl) rfl hl.1 rfl (Nat.le_of_ble_eq_true rfl) dX5_write_243 (fun H locs hP1 hD1 hk1 hS => ?_)
        obtain ⟨hP, hD⟩ := dn_X5_14 hP hD hzA hk1 hP1 hD1
        obtain ⟨s50, es50, h⟩ := nd_let_e h
        have hP : va_P (dC, dI) vwCl (dw_X5 a ac s50) H := by rw [es50]; exact hP
        have hD : va_D A (dw_X5 a ac s50) := by rw [es50]; exact hD
        refine lv_goto (tgt := 260) hx hb dX5_write_246 (by decide) ?_
        exact (db_X5_write_260 C K J185) (x1) (x3) (x4) (x5) (x6) (x7) (x8) s50 _ _ _ h hP hD hS (lv_sub hl [1, 2, 3, 4, 5, 6, 7, 8] rfl)
    · have h := nd_pos h c40
      refine lv_aload_n hx hb dX5_write_212 rfl (lv_at hl 1 rfl) ?_
      refine va_get (D := (dC, dI)) (ci := 6) (v := .ref (a 14)) (C := RX5) (T := TX5) (N := 8) hx hb hts hi_dm_X5_write_X5 hown hK hP 0 rfl rfl 1 (by decide) (hts (.fieldLink RX5 28 "TimeMachine$Kernel" "things" "LTimeMachine$Things;") (List.mem_of_getElem? (i := 7) rfl)) (fun _ h9 => h9) rfl dX5_write_213 ?_
      refine lv_iload hx hb dX5_write_216 (lv_at hl 5 rfl) ?_
      refine lv_iload hx hb dX5_write_218 (lv_at hl 7 rfl) ?_
      refine lv_iload hx hb dX5_write_220 (lv_at hl 8 rfl) ?_
      refine lv_iadd hx hb dX5_write_222 ?_
      refine lv_iload hx hb dX5_write_223 (lv_at hl 0 rfl) ?_
      obtain ⟨s52, hq, h⟩ := nd_b1_e h
      have hPc := dp_X5_14 hP
      have hDc := dd_X5_14 hD
      have hKc := dy_X5_14 hK
      have hFc := nd_rs hDc hS hA
      have hzA : ∀ q : Nat, H.size ≤ q → A q := fun q h => hA q (Nat.le_trans hS.1 h)
      refine nd_cVv (As := [.int x5, .int (x7 + x8), .int q36]) (rest := []) (w' := dw_X10 (fun k => a (k + 14)) (fun k => ac (k + 14)) s52) ⟨hx, hb, hml, hown, hts⟩ (fun sz => dm_X10_putFiled l hlt dC dI (fun k => a (k + 14)) (fun k => ac (k + 14)) n (x5) ((x7 + x8)) (q36) s39.2.2.2 hq sz) (cwV 3 hts gi_dm_X5_write_8 rfl rfl rfl (by decide +kernel) ⟨Nat.le_of_ble_eq_true rfl, Nat.le_of_ble_eq_true rfl⟩) hPc hDc hKc hS hA hN (va_recv hKc hPc (ci := 11) (q0 := 0) rfl rfl) rfl hl.1 rfl (Nat.le_of_ble_eq_true rfl) dX5_write_225 (fun H locs hP1 hD1 hk1 hS => ?_)
      obtain ⟨hP, hD⟩ := dn_X5_14 hP hD hzA hk1 hP1 hD1
      obtain ⟨s54, es54, h⟩ := nd_let_e h
      have hP : va_P (dC, dI) vwCl (dw_X5 a ac s54) H := by rw [es54]; exact hP
      have hD : va_D A (dw_X5 a ac s54) := by rw [es54]; exact hD
      refine lv_goto (tgt := 260) hx hb dX5_write_228 (by decide) ?_
      exact (db_X5_write_260 C K J185) (x1) (x3) (x4) (x5) (x6) (x7) (x8) s54 _ _ _ h hP hD hS (lv_sub hl [1, 2, 3, 4, 5, 6, 7, 8] rfl)
set_option maxHeartbeats 40000000 in
set_option maxRecDepth 100000 in
theorem db_X5_write_185 {p : Program} {l : Launch} {e : Env} {s : State} {m : MethodId} {args : Array Value} {below : List Frame} {meth : Method} {c : Code} {Q : State → Prop} {A : Nat → Prop} {dC : Nat → ClassId} {dI : Nat → Nat → Nat} {a : Nat → Nat} {ac : Nat → ClassId} {n : Nat} {r : Int64 × (St × (St × (St × (St))))} (C : nd_C p l s m args c A (dC, dI) cX5_write 10 RX5 ow_dm_X5_write (dk_X5 ac)) (K : nd_Kl p l e (headSpec ow_dm_X5_write ({ frames := 2, cells := 0, slots := 0, locals := 48 })).room s m args below meth c Q A (dC, dI) cX5_write (St × (St × (St × (St)))) (dw_X5 a ac) r) (k : Nat) : dj_X5_write_185 p l e s m args below meth c Q A dC dI a ac (df_X5_write_185 n k) r := by
  induction k with
  | zero => intro x1 x3 x4 x5 x6 x7 x8 s0 H locs ls h; exact nomatch (show (none : Option (Int64 × (St × (St × (St × (St)))))) = some r from h)
  | succ k ih => exact dB_X5_write_185 C K ih
set_option maxHeartbeats 40000000 in
set_option maxRecDepth 100000 in
theorem db_X5_write_182 {p : Program} {l : Launch} {e : Env} {s : State} {m : MethodId} {args : Array Value} {below : List Frame} {meth : Method} {c : Code} {Q : State → Prop} {A : Nat → Prop} {dC : Nat → ClassId} {dI : Nat → Nat → Nat} {a : Nat → Nat} {ac : Nat → ClassId} {n : Nat} {r : Int64 × (St × (St × (St × (St))))} (C : nd_C p l s m args c A (dC, dI) cX5_write 10 RX5 ow_dm_X5_write (dk_X5 ac)) (K : nd_Kl p l e (headSpec ow_dm_X5_write ({ frames := 2, cells := 0, slots := 0, locals := 48 })).room s m args below meth c Q A (dC, dI) cX5_write (St × (St × (St × (St)))) (dw_X5 a ac) r) : dj_X5_write_182 p l e s m args below meth c Q A dC dI a ac (df_X5_write_182 n) r := by
  obtain ⟨hlt, hx, hb, hml, hown, hts, hN, hA, hK⟩ := id C
  intro x1 x3 x4 x5 x6 x7 s0 H locs ls h hP hD hS hl
  unfold df_X5_write_182 at h
  refine lv_iconst (v := 0) hx hb dX5_write_182 (by decide) ?_
  refine lv_istore (lv' := [(8, .int 0), (0, .ref (a 0)), (1, .int x1), (3, .int x3), (4, .int x4), (5, .int x5), (6, .int x6), (7, .int x7)]) hx hb dX5_write_183 hl (by decide) rfl (fun ls hl => ?_)
  exact (db_X5_write_185 C K n) (x1) (x3) (x4) (x5) (x6) (x7) (0) s0 _ _ _ h hP hD hS (lv_sub hl [1, 2, 3, 4, 5, 6, 7, 0] rfl)
set_option maxHeartbeats 40000000 in
set_option maxRecDepth 100000 in
theorem db_X5_write_140 {p : Program} {l : Launch} {e : Env} {s : State} {m : MethodId} {args : Array Value} {below : List Frame} {meth : Method} {c : Code} {Q : State → Prop} {A : Nat → Prop} {dC : Nat → ClassId} {dI : Nat → Nat → Nat} {a : Nat → Nat} {ac : Nat → ClassId} {n : Nat} {r : Int64 × (St × (St × (St × (St))))} (C : nd_C p l s m args c A (dC, dI) cX5_write 10 RX5 ow_dm_X5_write (dk_X5 ac)) (K : nd_Kl p l e (headSpec ow_dm_X5_write ({ frames := 2, cells := 0, slots := 0, locals := 48 })).room s m args below meth c Q A (dC, dI) cX5_write (St × (St × (St × (St)))) (dw_X5 a ac) r) : dj_X5_write_140 p l e s m args below meth c Q A dC dI a ac (df_X5_write_140 n) r := by
  obtain ⟨hlt, hx, hb, hml, hown, hts, hN, hA, hK⟩ := id C
  intro x1 x3 x4 x5 x6 x7 s0 H locs ls h hP hD hS hl
  unfold df_X5_write_140 at h
  refine lv_aload_n hx hb dX5_write_140 rfl (lv_at hl 0 rfl) ?_
  refine va_get (D := (dC, dI)) (ci := 6) (v := .ref (a 14)) (C := RX5) (T := TX5) (N := 8) hx hb hts hi_dm_X5_write_X5 hown hK hP 0 rfl rfl 1 (by decide) (hts (.fieldLink RX5 28 "TimeMachine$Kernel" "things" "LTimeMachine$Things;") (List.mem_of_getElem? (i := 7) rfl)) (fun _ h9 => h9) rfl dX5_write_141 ?_
  refine lv_iload hx hb dX5_write_144 (lv_at hl 4 rfl) ?_
  refine lv_iload hx hb dX5_write_146 (lv_at hl 3 rfl) ?_
  obtain ⟨q29, s30, hq, h⟩ := nd_b2_e h
  have hPc := dp_X5_14 hP
  have hDc := dd_X5_14 hD
  have hKc := dy_X5_14 hK
  have hFc := nd_rs hDc hS hA
  have hzA : ∀ q : Nat, H.size ≤ q → A q := fun q h => hA q (Nat.le_trans hS.1 h)
  refine nd_cVi (As := [.int x5, .int x4]) (rest := []) (q := q29) (w' := dw_X10 (fun k => a (k + 14)) (fun k => ac (k + 14)) s30) ⟨hx, hb, hml, hown, hts⟩ (fun sz => dm_X10_writeWaits l hlt dC dI (fun k => a (k + 14)) (fun k => ac (k + 14)) n (x5) (x4) s0.2.2.2 hq sz) (cwV 2 hts gi_dm_X5_write_4 rfl rfl rfl (by decide +kernel) ⟨Nat.le_of_ble_eq_true rfl, Nat.le_of_ble_eq_true rfl⟩) hPc hDc hKc hS hA hN (va_recv hKc hPc (ci := 11) (q0 := 0) rfl rfl) rfl hl.1 rfl (Nat.le_of_ble_eq_true rfl) dX5_write_148 (fun H locs hP1 hD1 hk1 hS => ?_)
  obtain ⟨hP, hD⟩ := dn_X5_14 hP hD hzA hk1 hP1 hD1
  obtain ⟨s32, es32, h⟩ := nd_let_e h
  have hP : va_P (dC, dI) vwCl (dw_X5 a ac s32) H := by rw [es32]; exact hP
  have hD : va_D A (dw_X5 a ac s32) := by rw [es32]; exact hD
  refine lv_if_eq (tgt := 158) hx hb dX5_write_151 (by decide) (fun c33 => ?_) (fun c33 => ?_)
  · have h := nd_pos h c33
    refine lv_iload hx hb dX5_write_158 (lv_at hl 5 rfl) ?_
    refine lv_iconst (v := 3) hx hb dX5_write_160 (by decide) ?_
    refine lv_icmp_ne (tgt := 182) hx hb dX5_write_161 (by decide) (fun c34 => ?_) (fun c34 => ?_)
    · have h := nd_neg h c34
      exact (db_X5_write_182 C K) (x1) (x3) (x4) (x5) (x6) (x7) s32 _ _ _ h hP hD hS (lv_sub hl [0, 1, 2, 3, 4, 5, 6] rfl)
    · have h := nd_pos h c34
      refine lv_iload hx hb dX5_write_164 (lv_at hl 3 rfl) ?_
      refine lv_if_le (tgt := 182) hx hb dX5_write_166 (by decide) (fun c55 => ?_) (fun c55 => ?_)
      · have h := nd_pos h c55
        exact (db_X5_write_182 C K) (x1) (x3) (x4) (x5) (x6) (x7) s32 _ _ _ h hP hD hS (lv_sub hl [0, 1, 2, 3, 4, 5, 6] rfl)
      · have h := nd_neg h c55
        refine lv_aload_n hx hb dX5_write_169 rfl (lv_at hl 0 rfl) ?_
        refine va_get (D := (dC, dI)) (ci := 6) (v := .ref (a 14)) (C := RX5) (T := TX5) (N := 8) hx hb hts hi_dm_X5_write_X5 hown hK hP 0 rfl rfl 1 (by decide) (hts (.fieldLink RX5 28 "TimeMachine$Kernel" "things" "LTimeMachine$Things;") (List.mem_of_getElem? (i := 7) rfl)) (fun _ h9 => h9) rfl dX5_write_170 ?_
        refine lv_iload hx hb dX5_write_173 (lv_at hl 4 rfl) ?_
        refine lv_iload hx hb dX5_write_175 (lv_at hl 6 rfl) ?_
        refine lv_iload hx hb dX5_write_177 (lv_at hl 3 rfl) ?_
        obtain ⟨s57, hq, h⟩ := nd_b1_e h
        have hPc := dp_X5_14 hP
        have hDc := dd_X5_14 hD
        have hKc := dy_X5_14 hK
        have hFc := nd_rs hDc hS hA
        have hzA : ∀ q : Nat, H.size ≤ q → A q := fun q h => hA q (Nat.le_trans hS.1 h)
        refine nd_cVv (As := [.int x5, .int x7, .int x4]) (rest := []) (w' := dw_X10 (fun k => a (k + 14)) (fun k => ac (k + 14)) s57) ⟨hx, hb, hml, hown, hts⟩ (fun sz => dm_X10_stretch l hlt dC dI (fun k => a (k + 14)) (fun k => ac (k + 14)) n (x5) (x7) (x4) s32.2.2.2 hq sz) (cwV 3 hts gi_dm_X5_write_9 rfl rfl rfl (by decide +kernel) ⟨Nat.le_of_ble_eq_true rfl, Nat.le_of_ble_eq_true rfl⟩) hPc hDc hKc hS hA hN (va_recv hKc hPc (ci := 11) (q0 := 0) rfl rfl) rfl hl.1 rfl (Nat.le_of_ble_eq_true rfl) dX5_write_179 (fun H locs hP1 hD1 hk1 hS => ?_)
        obtain ⟨hP, hD⟩ := dn_X5_14 hP hD hzA hk1 hP1 hD1
        obtain ⟨s59, es59, h⟩ := nd_let_e h
        have hP : va_P (dC, dI) vwCl (dw_X5 a ac s59) H := by rw [es59]; exact hP
        have hD : va_D A (dw_X5 a ac s59) := by rw [es59]; exact hD
        exact (db_X5_write_182 C K) (x1) (x3) (x4) (x5) (x6) (x7) s59 _ _ _ h hP hD hS (lv_sub hl [0, 1, 2, 3, 4, 5, 6] rfl)
  · have h := nd_neg h c33
    refine lv_ldc2 hx hb hown (hts (.constantLong RX5 157 (1099511627776)) (List.mem_of_getElem? (i := 37) rfl)) dX5_write_154 ?_
    exact K _ _ _ _ _ _ dX5_write_157 (Option.some.inj h).symm hP hD hS
set_option maxHeartbeats 40000000 in
set_option maxRecDepth 100000 in
theorem db_X5_write_118 {p : Program} {l : Launch} {e : Env} {s : State} {m : MethodId} {args : Array Value} {below : List Frame} {meth : Method} {c : Code} {Q : State → Prop} {A : Nat → Prop} {dC : Nat → ClassId} {dI : Nat → Nat → Nat} {a : Nat → Nat} {ac : Nat → ClassId} {n : Nat} {r : Int64 × (St × (St × (St × (St))))} (C : nd_C p l s m args c A (dC, dI) cX5_write 10 RX5 ow_dm_X5_write (dk_X5 ac)) (K : nd_Kl p l e (headSpec ow_dm_X5_write ({ frames := 2, cells := 0, slots := 0, locals := 48 })).room s m args below meth c Q A (dC, dI) cX5_write (St × (St × (St × (St)))) (dw_X5 a ac) r) : dj_X5_write_118 p l e s m args below meth c Q A dC dI a ac (df_X5_write_118 n) r := by
  obtain ⟨hlt, hx, hb, hml, hown, hts, hN, hA, hK⟩ := id C
  intro x1 x3 x4 x5 x6 y0 s0 H locs ls h hP hD hS hl
  unfold df_X5_write_118 at h
  refine lv_istore (lv' := [(7, .int y0), (0, .ref (a 0)), (1, .int x1), (3, .int x3), (4, .int x4), (5, .int x5), (6, .int x6)]) hx hb dX5_write_118 hl (by decide) rfl (fun ls hl => ?_)
  refine lv_iload hx hb dX5_write_120 (lv_at hl 4 rfl) ?_
  refine lv_if_le (tgt := 140) hx hb dX5_write_122 (by decide) (fun c28 => ?_) (fun c28 => ?_)
  · have h := nd_pos h c28
    exact (db_X5_write_140 C K) (x1) (x3) (x4) (x5) (x6) (y0) s0 _ _ _ h hP hD hS (lv_sub hl [1, 2, 3, 4, 5, 6, 0] rfl)
  · have h := nd_neg h c28
    refine lv_iload hx hb dX5_write_125 (lv_at hl 0 rfl) ?_
    refine lv_iload hx hb dX5_write_127 (lv_at hl 4 rfl) ?_
    refine lv_iadd hx hb dX5_write_129 ?_
    refine lv_sipush (v := 512) hx hb dX5_write_130 (by decide) ?_
    refine lv_icmp_le (tgt := 140) hx hb dX5_write_133 (by decide) (fun c60 => ?_) (fun c60 => ?_)
    · have h := nd_pos h c60
      exact (db_X5_write_140 C K) (x1) (x3) (x4) (x5) (x6) (y0) s0 _ _ _ h hP hD hS (lv_sub hl [1, 2, 3, 4, 5, 6, 0] rfl)
    · have h := nd_neg h c60
      refine lv_ldc2 hx hb hown (hts (.constantLong RX5 313 (-7)) (List.mem_of_getElem? (i := 38) rfl)) dX5_write_136 ?_
      exact K _ _ _ _ _ _ dX5_write_139 (Option.some.inj h).symm hP hD hS
set_option maxHeartbeats 40000000 in
set_option maxRecDepth 100000 in
theorem db_X5_write_0 {p : Program} {l : Launch} {e : Env} {s : State} {m : MethodId} {args : Array Value} {below : List Frame} {meth : Method} {c : Code} {Q : State → Prop} {A : Nat → Prop} {dC : Nat → ClassId} {dI : Nat → Nat → Nat} {a : Nat → Nat} {ac : Nat → ClassId} {n : Nat} {r : Int64 × (St × (St × (St × (St))))} (C : nd_C p l s m args c A (dC, dI) cX5_write 10 RX5 ow_dm_X5_write (dk_X5 ac)) (K : nd_Kl p l e (headSpec ow_dm_X5_write ({ frames := 2, cells := 0, slots := 0, locals := 48 })).room s m args below meth c Q A (dC, dI) cX5_write (St × (St × (St × (St)))) (dw_X5 a ac) r) : dj_X5_write_0 p l e s m args below meth c Q A dC dI a ac (df_X5_write_0 n) r := by
  obtain ⟨hlt, hx, hb, hml, hown, hts, hN, hA, hK⟩ := id C
  intro v0 v1 v2 v3 s0 H locs ls h hP hD hS hl
  unfold df_X5_write_0 at h
  refine lv_iload hx hb dX5_write_0 (lv_at hl 4 rfl) ?_
  refine lv_if_lt (tgt := 13) hx hb dX5_write_2 (by decide) (fun c1 => ?_) (fun c1 => ?_)
  · have h := nd_pos h c1
    exact (db_X5_write_13 C K)  s0 _ _ _ h hP hD hS (lv_sub hl [] rfl)
  · have h := nd_neg h c1
    refine lv_iload hx hb dX5_write_5 (lv_at hl 4 rfl) ?_
    refine lv_sipush (v := 512) hx hb dX5_write_7 (by decide) ?_
    refine lv_icmp_le (tgt := 17) hx hb dX5_write_10 (by decide) (fun c2 => ?_) (fun c2 => ?_)
    · have h := nd_pos h c2
      refine lv_aload_n hx hb dX5_write_17 rfl (lv_at hl 0 rfl) ?_
      refine va_get (D := (dC, dI)) (ci := 6) (v := .ref (a 4)) (C := RX5) (T := TX5) (N := 8) hx hb hts hi_dm_X5_write_X5 hown hK hP 0 rfl rfl 0 (by decide) (hts (.fieldLink RX5 18 "TimeMachine$Kernel" "machine" "LTimeMachine$Machine;") (List.mem_of_getElem? (i := 2) rfl)) (fun _ h9 => h9) rfl dX5_write_18 ?_
      refine lv_iload_n hx hb dX5_write_21 rfl (lv_at hl 1 rfl) ?_
      refine lv_iload_n hx hb dX5_write_22 rfl (lv_at hl 3 rfl) ?_
      refine lv_iload hx hb dX5_write_23 (lv_at hl 4 rfl) ?_
      refine lv_iconst (v := 1) hx hb dX5_write_25 (by decide) ?_
      obtain ⟨q3, s4, hq, h⟩ := nd_b2_e h
      have hPc := dp_X5_4 hP
      have hDc := dd_X5_4 hD
      have hKc := dy_X5_4 hK
      have hFc := nd_rs hDc hS hA
      have hzA : ∀ q : Nat, H.size ≤ q → A q := fun q h => hA q (Nat.le_trans hS.1 h)
      refine nd_cVi (As := [.int v0, .int v2, .int v3, .int 1]) (rest := []) (q := q3) (w' := dw_X6 (fun k => a (k + 4)) (fun k => ac (k + 4)) s4) ⟨hx, hb, hml, hown, hts⟩ (fun sz => dm_X6_mayAll l hlt dC dI (fun k => a (k + 4)) (fun k => ac (k + 4)) n (v0) (v2) (v3) (1) s0.2.2 hq sz) (cwV 4 hts gi_dm_X5_write_0 rfl rfl rfl (by decide +kernel) ⟨Nat.le_of_ble_eq_true rfl, Nat.le_of_ble_eq_true rfl⟩) hPc hDc hKc hS hA hN (va_recv hKc hPc (ci := 7) (q0 := 0) rfl rfl) rfl hl.1 rfl (Nat.le_of_ble_eq_true rfl) dX5_write_26 (fun H locs hP1 hD1 hk1 hS => ?_)
      obtain ⟨hP, hD⟩ := dn_X5_4 hP hD hzA hk1 hP1 hD1
      obtain ⟨s6, es6, h⟩ := nd_let_e h
      have hP : va_P (dC, dI) vwCl (dw_X5 a ac s6) H := by rw [es6]; exact hP
      have hD : va_D A (dw_X5 a ac s6) := by rw [es6]; exact hD
      refine lv_if_ne (tgt := 36) hx hb dX5_write_29 (by decide) (fun c7 => ?_) (fun c7 => ?_)
      · have h := nd_neg h c7
        refine lv_aload_n hx hb dX5_write_36 rfl (lv_at hl 0 rfl) ?_
        refine va_get (D := (dC, dI)) (ci := 6) (v := .ref (a 14)) (C := RX5) (T := TX5) (N := 8) hx hb hts hi_dm_X5_write_X5 hown hK hP 0 rfl rfl 1 (by decide) (hts (.fieldLink RX5 28 "TimeMachine$Kernel" "things" "LTimeMachine$Things;") (List.mem_of_getElem? (i := 7) rfl)) (fun _ h9 => h9) rfl dX5_write_37 ?_
        refine lv_iload_n hx hb dX5_write_40 rfl (lv_at hl 1 rfl) ?_
        refine lv_iload_n hx hb dX5_write_41 rfl (lv_at hl 2 rfl) ?_
        obtain ⟨q8, s9, hq, h⟩ := nd_b2_e h
        have hPc := dp_X5_14 hP
        have hDc := dd_X5_14 hD
        have hKc := dy_X5_14 hK
        have hFc := nd_rs hDc hS hA
        have hzA : ∀ q : Nat, H.size ≤ q → A q := fun q h => hA q (Nat.le_trans hS.1 h)
        refine nd_cVi (As := [.int v0, .int v1]) (rest := []) (q := q8) (w' := dw_X10 (fun k => a (k + 14)) (fun k => ac (k + 14)) s9) ⟨hx, hb, hml, hown, hts⟩ (fun sz => dm_X10_openingOf l hlt dC dI (fun k => a (k + 14)) (fun k => ac (k + 14)) n (v0) (v1) s6.2.2.2 hq sz) (cwV 2 hts gi_dm_X5_write_1 rfl rfl rfl (by decide +kernel) ⟨Nat.le_of_ble_eq_true rfl, Nat.le_of_ble_eq_true rfl⟩) hPc hDc hKc hS hA hN (va_recv hKc hPc (ci := 11) (q0 := 0) rfl rfl) rfl hl.1 rfl (Nat.le_of_ble_eq_true rfl) dX5_write_42 (fun H locs hP1 hD1 hk1 hS => ?_)
        obtain ⟨hP, hD⟩ := dn_X5_14 hP hD hzA hk1 hP1 hD1
        obtain ⟨s11, es11, h⟩ := nd_let_e h
        have hP : va_P (dC, dI) vwCl (dw_X5 a ac s11) H := by rw [es11]; exact hP
        have hD : va_D A (dw_X5 a ac s11) := by rw [es11]; exact hD
        refine lv_istore (lv' := [(5, .int q8), (0, .ref (a 0)), (1, .int v0), (2, .int v1), (3, .int v2), (4, .int v3)]) hx hb dX5_write_45 hl (by decide) rfl (fun ls hl => ?_)
        refine lv_iload hx hb dX5_write_47 (lv_at hl 0 rfl) ?_
        refine lv_if_lt (tgt := 67) hx hb dX5_write_49 (by decide) (fun c12 => ?_) (fun c12 => ?_)
        · have h := nd_pos h c12
          exact (db_X5_write_67 C K)  s11 _ _ _ h hP hD hS (lv_sub hl [] rfl)
        · have h := nd_neg h c12
          refine lv_aload_n hx hb dX5_write_52 rfl (lv_at hl 1 rfl) ?_
          refine va_get (D := (dC, dI)) (ci := 6) (v := .ref (a 14)) (C := RX5) (T := TX5) (N := 8) hx hb hts hi_dm_X5_write_X5 hown hK hP 0 rfl rfl 1 (by decide) (hts (.fieldLink RX5 28 "TimeMachine$Kernel" "things" "LTimeMachine$Things;") (List.mem_of_getElem? (i := 7) rfl)) (fun _ h9 => h9) rfl dX5_write_53 ?_
          refine lv_iload hx hb dX5_write_56 (lv_at hl 0 rfl) ?_
          refine lv_iconst (v := 4) hx hb dX5_write_58 (by decide) ?_
          obtain ⟨q13, s14, hq, h⟩ := nd_b2_e h
          have hPc := dp_X5_14 hP
          have hDc := dd_X5_14 hD
          have hKc := dy_X5_14 hK
          have hFc := nd_rs hDc hS hA
          have hzA : ∀ q : Nat, H.size ≤ q → A q := fun q h => hA q (Nat.le_trans hS.1 h)
          refine nd_cVi (As := [.int q8, .int 4]) (rest := []) (q := q13) (w' := dw_X10 (fun k => a (k + 14)) (fun k => ac (k + 14)) s14) ⟨hx, hb, hml, hown, hts⟩ (fun sz => dm_X10_of l hlt dC dI (fun k => a (k + 14)) (fun k => ac (k + 14)) n (q8) (4) s11.2.2.2 hq sz) (cwV 2 hts gi_dm_X5_write_2 rfl rfl rfl (by decide +kernel) ⟨Nat.le_of_ble_eq_true rfl, Nat.le_of_ble_eq_true rfl⟩) hPc hDc hKc hS hA hN (va_recv hKc hPc (ci := 11) (q0 := 0) rfl rfl) rfl hl.1 rfl (Nat.le_of_ble_eq_true rfl) dX5_write_59 (fun H locs hP1 hD1 hk1 hS => ?_)
          obtain ⟨hP, hD⟩ := dn_X5_14 hP hD hzA hk1 hP1 hD1
          obtain ⟨s16, es16, h⟩ := nd_let_e h
          have hP : va_P (dC, dI) vwCl (dw_X5 a ac s16) H := by rw [es16]; exact hP
          have hD : va_D A (dw_X5 a ac s16) := by rw [es16]; exact hD
          refine lv_iconst (v := 2) hx hb dX5_write_62 (by decide) ?_
          refine lv_iand hx hb dX5_write_63 ?_
          refine lv_if_ne (tgt := 71) hx hb dX5_write_64 (by decide) (fun c17 => ?_) (fun c17 => ?_)
          · have h := nd_neg h c17
            refine lv_aload_n hx hb dX5_write_71 rfl (lv_at hl 1 rfl) ?_
            refine va_get (D := (dC, dI)) (ci := 6) (v := .ref (a 14)) (C := RX5) (T := TX5) (N := 8) hx hb hts hi_dm_X5_write_X5 hown hK hP 0 rfl rfl 1 (by decide) (hts (.fieldLink RX5 28 "TimeMachine$Kernel" "things" "LTimeMachine$Things;") (List.mem_of_getElem? (i := 7) rfl)) (fun _ h9 => h9) rfl dX5_write_72 ?_
            refine lv_iload hx hb dX5_write_75 (lv_at hl 0 rfl) ?_
            refine lv_iconst (v := 0) hx hb dX5_write_77 (by decide) ?_
            obtain ⟨q18, s19, hq, h⟩ := nd_b2_e h
            have hPc := dp_X5_14 hP
            have hDc := dd_X5_14 hD
            have hKc := dy_X5_14 hK
            have hFc := nd_rs hDc hS hA
            have hzA : ∀ q : Nat, H.size ≤ q → A q := fun q h => hA q (Nat.le_trans hS.1 h)
            refine nd_cVi (As := [.int q8, .int 0]) (rest := []) (q := q18) (w' := dw_X10 (fun k => a (k + 14)) (fun k => ac (k + 14)) s19) ⟨hx, hb, hml, hown, hts⟩ (fun sz => dm_X10_of l hlt dC dI (fun k => a (k + 14)) (fun k => ac (k + 14)) n (q8) (0) s16.2.2.2 hq sz) (cwV 2 hts gi_dm_X5_write_2 rfl rfl rfl (by decide +kernel) ⟨Nat.le_of_ble_eq_true rfl, Nat.le_of_ble_eq_true rfl⟩) hPc hDc hKc hS hA hN (va_recv hKc hPc (ci := 11) (q0 := 0) rfl rfl) rfl hl.1 rfl (Nat.le_of_ble_eq_true rfl) dX5_write_78 (fun H locs hP1 hD1 hk1 hS => ?_)
            obtain ⟨hP, hD⟩ := dn_X5_14 hP hD hzA hk1 hP1 hD1
            obtain ⟨s21, es21, h⟩ := nd_let_e h
            have hP : va_P (dC, dI) vwCl (dw_X5 a ac s21) H := by rw [es21]; exact hP
            have hD : va_D A (dw_X5 a ac s21) := by rw [es21]; exact hD
            refine lv_istore (lv' := [(6, .int q18), (5, .int q8), (0, .ref (a 0)), (1, .int v0), (2, .int v1), (3, .int v2), (4, .int v3)]) hx hb dX5_write_81 hl (by decide) rfl (fun ls hl => ?_)
            refine lv_aload_n hx hb dX5_write_83 rfl (lv_at hl 2 rfl) ?_
            refine va_get (D := (dC, dI)) (ci := 6) (v := .ref (a 14)) (C := RX5) (T := TX5) (N := 8) hx hb hts hi_dm_X5_write_X5 hown hK hP 0 rfl rfl 1 (by decide) (hts (.fieldLink RX5 28 "TimeMachine$Kernel" "things" "LTimeMachine$Things;") (List.mem_of_getElem? (i := 7) rfl)) (fun _ h9 => h9) rfl dX5_write_84 ?_
            refine lv_iload hx hb dX5_write_87 (lv_at hl 1 rfl) ?_
            obtain ⟨q22, s23, hq, h⟩ := nd_b2_e h
            have hPc := dp_X5_14 hP
            have hDc := dd_X5_14 hD
            have hKc := dy_X5_14 hK
            have hFc := nd_rs hDc hS hA
            have hzA : ∀ q : Nat, H.size ≤ q → A q := fun q h => hA q (Nat.le_trans hS.1 h)
            refine nd_cVi (As := [.int q8]) (rest := []) (q := q22) (w' := dw_X10 (fun k => a (k + 14)) (fun k => ac (k + 14)) s23) ⟨hx, hb, hml, hown, hts⟩ (fun sz => dm_X10_isBroken l hlt dC dI (fun k => a (k + 14)) (fun k => ac (k + 14)) n (q8) s21.2.2.2 hq sz) (cwV 1 hts gi_dm_X5_write_3 rfl rfl rfl (by decide +kernel) ⟨Nat.le_of_ble_eq_true rfl, Nat.le_of_ble_eq_true rfl⟩) hPc hDc hKc hS hA hN (va_recv hKc hPc (ci := 11) (q0 := 0) rfl rfl) rfl hl.1 rfl (Nat.le_of_ble_eq_true rfl) dX5_write_89 (fun H locs hP1 hD1 hk1 hS => ?_)
            obtain ⟨hP, hD⟩ := dn_X5_14 hP hD hzA hk1 hP1 hD1
            obtain ⟨s25, es25, h⟩ := nd_let_e h
            have hP : va_P (dC, dI) vwCl (dw_X5 a ac s25) H := by rw [es25]; exact hP
            have hD : va_D A (dw_X5 a ac s25) := by rw [es25]; exact hD
            refine lv_if_eq (tgt := 99) hx hb dX5_write_92 (by decide) (fun c26 => ?_) (fun c26 => ?_)
            · have h := nd_pos h c26
              refine lv_iload hx hb dX5_write_99 (lv_at hl 0 rfl) ?_
              refine lv_iconst (v := 3) hx hb dX5_write_101 (by decide) ?_
              refine lv_icmp_ne (tgt := 117) hx hb dX5_write_102 (by decide) (fun c27 => ?_) (fun c27 => ?_)
              · have h := nd_neg h c27
                refine lv_iconst (v := 0) hx hb dX5_write_117 (by decide) ?_
                exact (db_X5_write_118 C K) (v0) (v2) (v3) (q8) (q18) (0) s25 _ _ _ h hP hD hS (lv_sub hl [2, 3, 5, 6, 1, 0] rfl)
              · have h := nd_pos h c27
                refine lv_aload_n hx hb dX5_write_105 rfl (lv_at hl 2 rfl) ?_
                refine va_get (D := (dC, dI)) (ci := 6) (v := .ref (a 14)) (C := RX5) (T := TX5) (N := 8) hx hb hts hi_dm_X5_write_X5 hown hK hP 0 rfl rfl 1 (by decide) (hts (.fieldLink RX5 28 "TimeMachine$Kernel" "things" "LTimeMachine$Things;") (List.mem_of_getElem? (i := 7) rfl)) (fun _ h9 => h9) rfl dX5_write_106 ?_
                refine lv_iload hx hb dX5_write_109 (lv_at hl 1 rfl) ?_
                obtain ⟨q61, s62, hq, h⟩ := nd_b2_e h
                have hPc := dp_X5_14 hP
                have hDc := dd_X5_14 hD
                have hKc := dy_X5_14 hK
                have hFc := nd_rs hDc hS hA
                have hzA : ∀ q : Nat, H.size ≤ q → A q := fun q h => hA q (Nat.le_trans hS.1 h)
                refine nd_cVi (As := [.int q8]) (rest := []) (q := q61) (w' := dw_X10 (fun k => a (k + 14)) (fun k => ac (k + 14)) s62) ⟨hx, hb, hml, hown, hts⟩ (fun sz => dm_X10_writingPlace l hlt dC dI (fun k => a (k + 14)) (fun k => ac (k + 14)) n (q8) s25.2.2.2 hq sz) (cwV 1 hts gi_dm_X5_write_10 rfl rfl rfl (by decide +kernel) ⟨Nat.le_of_ble_eq_true rfl, Nat.le_of_ble_eq_true rfl⟩) hPc hDc hKc hS hA hN (va_recv hKc hPc (ci := 11) (q0 := 0) rfl rfl) rfl hl.1 rfl (Nat.le_of_ble_eq_true rfl) dX5_write_111 (fun H locs hP1 hD1 hk1 hS => ?_)
                obtain ⟨hP, hD⟩ := dn_X5_14 hP hD hzA hk1 hP1 hD1
                obtain ⟨s64, es64, h⟩ := nd_let_e h
                have hP : va_P (dC, dI) vwCl (dw_X5 a ac s64) H := by rw [es64]; exact hP
                have hD : va_D A (dw_X5 a ac s64) := by rw [es64]; exact hD
                refine lv_goto (tgt := 118) hx hb dX5_write_114 (by decide) ?_
                exact (db_X5_write_118 C K) (v0) (v2) (v3) (q8) (q18) (q61) s64 _ _ _ h hP hD hS (lv_sub hl [2, 3, 5, 6, 1, 0] rfl)
            · have h := nd_neg h c26
              refine lv_ldc2 hx hb hown (hts (.constantLong RX5 308 (-5)) (List.mem_of_getElem? (i := 42) rfl)) dX5_write_95 ?_
              exact K _ _ _ _ _ _ dX5_write_98 (Option.some.inj h).symm hP hD hS
          · have h := nd_pos h c17
            exact (db_X5_write_67 C K)  s16 _ _ _ h hP hD hS (lv_sub hl [] rfl)
      · have h := nd_pos h c7
        refine lv_ldc2 hx hb hown (hts (.constantLong RX5 257 (-14)) (List.mem_of_getElem? (i := 43) rfl)) dX5_write_32 ?_
        exact K _ _ _ _ _ _ dX5_write_35 (Option.some.inj h).symm hP hD hS
    · have h := nd_neg h c2
      exact (db_X5_write_13 C K)  s0 _ _ _ h hP hD hS (lv_sub hl [] rfl)
set_option maxHeartbeats 40000000 in
set_option maxRecDepth 100000 in
theorem dm_X5_write (l : Launch) (hlt : l.stackTraces = false) (dC : Nat → ClassId) (dI : Nat → Nat → Nat) (a : Nat → Nat) (ac : Nat → ClassId) (n : Nat) (v0 : Int32) (v1 : Int32) (v2 : Int32) (v3 : Int32) (s0 : St × (St × (St × (St)))) {r : Int64 × (St × (St × (St × (St))))} (h : df_X5_write n v0 v1 v2 v3 s0 = some r) (sz : Nat) : Met l yX5_write ow_dm_X5_write ({ frames := 2, cells := 0, slots := 0, locals := 48 }) (va_Pc [.ref (a 0), .int v0, .int v1, .int v2, .int v3] (fun U => U.heap.size = sz ∧ va_P (dC, dI) vwCl (dw_X5 a ac s0) U.heap ∧ va_K (dC, dI) vwCl (dk_X5 ac) U ∧ va_D (fun _ => True) (dw_X5 a ac s0) ∧ nv_E (va_A (dw_X5 a ac s0) sz) U)) (va_Ql (fun x _ => x = r.1) (fun (_ : Unit) t => va_P (dC, dI) vwCl (dw_X5 a ac r.2) t.heap ∧ va_K (dC, dI) vwCl (dk_X5 ac) t ∧ va_D (va_A (dw_X5 a ac s0) sz) (dw_X5 a ac r.2)) (va_A (dw_X5 a ac s0) sz)) 0 0 (va_A (dw_X5 a ac s0) sz) := by
  refine Met.ofW (cc := cX5_write) (maxL := 10) (ret := (some .long)) (by decide) rfl ?_
  intro p e s m args below meth c s₁ B hml hv
  obtain ⟨rfl, hsz, hP, hK, hD0, hN⟩ := hv
  have hx := B.exec
  have hb := B.bytes
  have hr := B.returns
  have hts := atoms_spec (ws := ow_dm_X5_write) B.pre
  have hown : s.vm.findClass RX5 = some m.cls := findClass_of_methodNamed B.named
  have hlocks := B.notSynchronized
  subst hsz
  have hD := hD0.self (sz := s.heap.size)
  generalize hAe : va_A (dw_X5 a ac s0) s.heap.size = A at hD hN ⊢
  have hA : ∀ q : Nat, s.heap.size ≤ q → A q := fun q h => by rw [← hAe]; exact Or.inr h
  have hl := lv_entry ([.ref (a 0), .int v0, .int v1, .int v2, .int v3]) (n := 10) (Nat.le_of_ble_eq_true rfl)
  rw [lg_entry_eq]
  generalize (lg_sl ([.ref (a 0), .int v0, .int v1, .int v2, .int v3]) ++ List.replicate (10 - (lg_sl ([.ref (a 0), .int v0, .int v1, .int v2, .int v3])).length) Slot.unset).toArray = ls at hl ⊢
  have hl : lv_has ls 10 [(0, .ref (a 0)), (1, .int v0), (2, .int v1), (3, .int v2), (4, .int v3)] := hl
  exact db_X5_write_0 (dC := dC) (dI := dI) (a := a) (ac := ac) (n := n) (r := r) ⟨hlt, hx, hb, hml, hown, hts, hN, hA, hK⟩ (fun pc v τ H locs ls d er hP hD hS => by subst er; exact W.lret (v := v) hx hb hr (fun t ht hW => ⟨⟨v, (), rfl, rfl, by rw [ht]; exact hP, va_K.moved hW.alike hK, hD⟩, hS.F ht⟩) hS.2.2 d) v0 v1 v2 v3 s0 _ _ _ h hP hD va_S.rf (lv_sub hl [0, 1, 2, 3, 4] rfl)
def ow_dm_X5_close : List Cond := .code yX5_close cX5_close 3 (some .long) :: ([.fieldLink RX5 28 "TimeMachine$Kernel" "things" "LTimeMachine$Things;", .methodLink RX5 123 yX10_openingOf, .instanceMethod yX10_openingOf, .selects RX10 yX10_openingOf yX10_openingOf, .initialized RX10, .methodLink RX5 330 yX10_close, .instanceMethod yX10_close, .selects RX10 yX10_close yX10_close, .constantLong RX5 294 (-1)] ++ (u_ws RX5 TX5 8 ++ (ow_dm_X10_openingOf ++ (ow_dm_X10_close ++ []))))
theorem gd_dm_X5_close : ∀ w ∈ ow_dm_X5_close, (w.onTables && w.keeps) = true ∨ ∃ ty, w = Cond.arrayClass ty := List.forall_mem_cons.mpr ⟨good_of_word rfl, List.forall_mem_append.mpr ⟨fun w h => good_of_word (List.all_eq_true.mp (by decide +kernel) w h), List.forall_mem_append.mpr ⟨gu_X5, List.forall_mem_append.mpr ⟨gd_dm_X10_openingOf, List.forall_mem_append.mpr ⟨gd_dm_X10_close, fun _ h => nomatch h⟩⟩⟩⟩⟩
theorem hi_dm_X5_close_X5 : ∀ w ∈ u_ws RX5 TX5 8, w ∈ ow_dm_X5_close := fun w h => List.mem_cons_of_mem _ (List.mem_append_right _ (List.mem_append_left _ h))
theorem gi_dm_X5_close_0 : GoodIn ow_dm_X5_close (wsV RX5 123 RX10 yX10_openingOf ow_dm_X10_openingOf) := goodIn_app (goodIn_of _ (by decide +kernel)) (fun w h => ⟨List.mem_cons_of_mem _ (List.mem_append_right _ (List.mem_append_right _ (List.mem_append_left _ h))), gd_dm_X10_openingOf w h⟩)
theorem gi_dm_X5_close_1 : GoodIn ow_dm_X5_close (wsV RX5 330 RX10 yX10_close ow_dm_X10_close) := goodIn_app (goodIn_of _ (by decide +kernel)) (fun w h => ⟨List.mem_cons_of_mem _ (List.mem_append_right _ (List.mem_append_right _ (List.mem_append_right _ (List.mem_append_left _ h)))), gd_dm_X10_close w h⟩)
def dj_X5_close_0 (p : Program) (l : Launch) (e : Env) (s : State) (m : MethodId) (args : Array Value) (below : List Frame) (meth : Method) (c : Code) (Q : State → Prop) (A : Nat → Prop) (dC : Nat → ClassId) (dI : Nat → Nat → Nat) (a : Nat → Nat) (ac : Nat → ClassId) (g : Int32 → Int32 → (St × (St × (St × (St)))) → Option (Int64 × (St × (St × (St × (St)))))) (r : Int64 × (St × (St × (St × (St))))) : Prop := ∀ (v0 : Int32) (v1 : Int32) (s0 : St × (St × (St × (St)))) (H : Heap) (locs : List Loc) (ls : Array Slot), g v0 v1 s0 = some r → va_P (dC, dI) vwCl (dw_X5 a ac s0) H → va_D A (dw_X5 a ac s0) → va_S A s.heap H locs → lv_has ls 3 [(0, .ref (a 0)), (1, .int v0), (2, .int v1)] → W p l e (headSpec ow_dm_X5_close ({ frames := 2, cells := 0, slots := 0, locals := 46 })).room s m args below meth c H locs 0 0 Q (F0 m 0 ls [])
set_option maxHeartbeats 40000000 in
set_option maxRecDepth 100000 in
theorem db_X5_close_0 {p : Program} {l : Launch} {e : Env} {s : State} {m : MethodId} {args : Array Value} {below : List Frame} {meth : Method} {c : Code} {Q : State → Prop} {A : Nat → Prop} {dC : Nat → ClassId} {dI : Nat → Nat → Nat} {a : Nat → Nat} {ac : Nat → ClassId} {n : Nat} {r : Int64 × (St × (St × (St × (St))))} (C : nd_C p l s m args c A (dC, dI) cX5_close 3 RX5 ow_dm_X5_close (dk_X5 ac)) (K : nd_Kl p l e (headSpec ow_dm_X5_close ({ frames := 2, cells := 0, slots := 0, locals := 46 })).room s m args below meth c Q A (dC, dI) cX5_close (St × (St × (St × (St)))) (dw_X5 a ac) r) : dj_X5_close_0 p l e s m args below meth c Q A dC dI a ac (df_X5_close_0 n) r := by
  obtain ⟨hlt, hx, hb, hml, hown, hts, hN, hA, hK⟩ := id C
  intro v0 v1 s0 H locs ls h hP hD hS hl
  unfold df_X5_close_0 at h
  refine lv_aload_n hx hb dX5_close_0 rfl (lv_at hl 0 rfl) ?_
  refine va_get (D := (dC, dI)) (ci := 6) (v := .ref (a 14)) (C := RX5) (T := TX5) (N := 8) hx hb hts hi_dm_X5_close_X5 hown hK hP 0 rfl rfl 1 (by decide) (hts (.fieldLink RX5 28 "TimeMachine$Kernel" "things" "LTimeMachine$Things;") (List.mem_of_getElem? (i := 1) rfl)) (fun _ h9 => h9) rfl dX5_close_1 ?_
  refine lv_iload_n hx hb dX5_close_4 rfl (lv_at hl 1 rfl) ?_
  refine lv_iload_n hx hb dX5_close_5 rfl (lv_at hl 2 rfl) ?_
  obtain ⟨q1, s2, hq, h⟩ := nd_b2_e h
  have hPc := dp_X5_14 hP
  have hDc := dd_X5_14 hD
  have hKc := dy_X5_14 hK
  have hFc := nd_rs hDc hS hA
  have hzA : ∀ q : Nat, H.size ≤ q → A q := fun q h => hA q (Nat.le_trans hS.1 h)
  refine nd_cVi (As := [.int v0, .int v1]) (rest := []) (q := q1) (w' := dw_X10 (fun k => a (k + 14)) (fun k => ac (k + 14)) s2) ⟨hx, hb, hml, hown, hts⟩ (fun sz => dm_X10_openingOf l hlt dC dI (fun k => a (k + 14)) (fun k => ac (k + 14)) n (v0) (v1) s0.2.2.2 hq sz) (cwV 2 hts gi_dm_X5_close_0 rfl rfl rfl (by decide +kernel) ⟨Nat.le_of_ble_eq_true rfl, Nat.le_of_ble_eq_true rfl⟩) hPc hDc hKc hS hA hN (va_recv hKc hPc (ci := 11) (q0 := 0) rfl rfl) rfl hl.1 rfl (Nat.le_of_ble_eq_true rfl) dX5_close_6 (fun H locs hP1 hD1 hk1 hS => ?_)
  obtain ⟨hP, hD⟩ := dn_X5_14 hP hD hzA hk1 hP1 hD1
  obtain ⟨s4, es4, h⟩ := nd_let_e h
  have hP : va_P (dC, dI) vwCl (dw_X5 a ac s4) H := by rw [es4]; exact hP
  have hD : va_D A (dw_X5 a ac s4) := by rw [es4]; exact hD
  refine lv_if_ge (tgt := 16) hx hb dX5_close_9 (by decide) (fun c5 => ?_) (fun c5 => ?_)
  · have h := nd_pos h c5
    refine lv_aload_n hx hb dX5_close_16 rfl (lv_at hl 0 rfl) ?_
    refine va_get (D := (dC, dI)) (ci := 6) (v := .ref (a 14)) (C := RX5) (T := TX5) (N := 8) hx hb hts hi_dm_X5_close_X5 hown hK hP 0 rfl rfl 1 (by decide) (hts (.fieldLink RX5 28 "TimeMachine$Kernel" "things" "LTimeMachine$Things;") (List.mem_of_getElem? (i := 1) rfl)) (fun _ h9 => h9) rfl dX5_close_17 ?_
    refine lv_iload_n hx hb dX5_close_20 rfl (lv_at hl 1 rfl) ?_
    refine lv_iload_n hx hb dX5_close_21 rfl (lv_at hl 2 rfl) ?_
    obtain ⟨s7, hq, h⟩ := nd_b1_e h
    have hPc := dp_X5_14 hP
    have hDc := dd_X5_14 hD
    have hKc := dy_X5_14 hK
    have hFc := nd_rs hDc hS hA
    have hzA : ∀ q : Nat, H.size ≤ q → A q := fun q h => hA q (Nat.le_trans hS.1 h)
    refine nd_cVv (As := [.int v0, .int v1]) (rest := []) (w' := dw_X10 (fun k => a (k + 14)) (fun k => ac (k + 14)) s7) ⟨hx, hb, hml, hown, hts⟩ (fun sz => dm_X10_close l hlt dC dI (fun k => a (k + 14)) (fun k => ac (k + 14)) n (v0) (v1) s4.2.2.2 hq sz) (cwV 2 hts gi_dm_X5_close_1 rfl rfl rfl (by decide +kernel) ⟨Nat.le_of_ble_eq_true rfl, Nat.le_of_ble_eq_true rfl⟩) hPc hDc hKc hS hA hN (va_recv hKc hPc (ci := 11) (q0 := 0) rfl rfl) rfl hl.1 rfl (Nat.le_of_ble_eq_true rfl) dX5_close_22 (fun H locs hP1 hD1 hk1 hS => ?_)
    obtain ⟨hP, hD⟩ := dn_X5_14 hP hD hzA hk1 hP1 hD1
    obtain ⟨s9, es9, h⟩ := nd_let_e h
    have hP : va_P (dC, dI) vwCl (dw_X5 a ac s9) H := by rw [es9]; exact hP
    have hD : va_D A (dw_X5 a ac s9) := by rw [es9]; exact hD
    refine lv_lconst (v := 0) hx hb dX5_close_25 (by decide) ?_
    exact K _ _ _ _ _ _ dX5_close_26 (Option.some.inj h).symm hP hD hS
  · have h := nd_neg h c5
    refine lv_ldc2 hx hb hown (hts (.constantLong RX5 294 (-1)) (List.mem_of_getElem? (i := 9) rfl)) dX5_close_12 ?_
    exact K _ _ _ _ _ _ dX5_close_15 (Option.some.inj h).symm hP hD hS
set_option maxHeartbeats 40000000 in
set_option maxRecDepth 100000 in
theorem dm_X5_close (l : Launch) (hlt : l.stackTraces = false) (dC : Nat → ClassId) (dI : Nat → Nat → Nat) (a : Nat → Nat) (ac : Nat → ClassId) (n : Nat) (v0 : Int32) (v1 : Int32) (s0 : St × (St × (St × (St)))) {r : Int64 × (St × (St × (St × (St))))} (h : df_X5_close n v0 v1 s0 = some r) (sz : Nat) : Met l yX5_close ow_dm_X5_close ({ frames := 2, cells := 0, slots := 0, locals := 46 }) (va_Pc [.ref (a 0), .int v0, .int v1] (fun U => U.heap.size = sz ∧ va_P (dC, dI) vwCl (dw_X5 a ac s0) U.heap ∧ va_K (dC, dI) vwCl (dk_X5 ac) U ∧ va_D (fun _ => True) (dw_X5 a ac s0) ∧ nv_E (va_A (dw_X5 a ac s0) sz) U)) (va_Ql (fun x _ => x = r.1) (fun (_ : Unit) t => va_P (dC, dI) vwCl (dw_X5 a ac r.2) t.heap ∧ va_K (dC, dI) vwCl (dk_X5 ac) t ∧ va_D (va_A (dw_X5 a ac s0) sz) (dw_X5 a ac r.2)) (va_A (dw_X5 a ac s0) sz)) 0 0 (va_A (dw_X5 a ac s0) sz) := by
  refine Met.ofW (cc := cX5_close) (maxL := 3) (ret := (some .long)) (by decide) rfl ?_
  intro p e s m args below meth c s₁ B hml hv
  obtain ⟨rfl, hsz, hP, hK, hD0, hN⟩ := hv
  have hx := B.exec
  have hb := B.bytes
  have hr := B.returns
  have hts := atoms_spec (ws := ow_dm_X5_close) B.pre
  have hown : s.vm.findClass RX5 = some m.cls := findClass_of_methodNamed B.named
  have hlocks := B.notSynchronized
  subst hsz
  have hD := hD0.self (sz := s.heap.size)
  generalize hAe : va_A (dw_X5 a ac s0) s.heap.size = A at hD hN ⊢
  have hA : ∀ q : Nat, s.heap.size ≤ q → A q := fun q h => by rw [← hAe]; exact Or.inr h
  have hl := lv_entry ([.ref (a 0), .int v0, .int v1]) (n := 3) (Nat.le_of_ble_eq_true rfl)
  rw [lg_entry_eq]
  generalize (lg_sl ([.ref (a 0), .int v0, .int v1]) ++ List.replicate (3 - (lg_sl ([.ref (a 0), .int v0, .int v1])).length) Slot.unset).toArray = ls at hl ⊢
  have hl : lv_has ls 3 [(0, .ref (a 0)), (1, .int v0), (2, .int v1)] := hl
  exact db_X5_close_0 (dC := dC) (dI := dI) (a := a) (ac := ac) (n := n) (r := r) ⟨hlt, hx, hb, hml, hown, hts, hN, hA, hK⟩ (fun pc v τ H locs ls d er hP hD hS => by subst er; exact W.lret (v := v) hx hb hr (fun t ht hW => ⟨⟨v, (), rfl, rfl, by rw [ht]; exact hP, va_K.moved hW.alike hK, hD⟩, hS.F ht⟩) hS.2.2 d) v0 v1 s0 _ _ _ h hP hD va_S.rf (lv_sub hl [0, 1, 2] rfl)
def ow_dm_X5_duplicate : List Cond := .code yX5_duplicate cX5_duplicate 6 (some .long) :: ([.constantLong RX5 251 (-22), .fieldLink RX5 28 "TimeMachine$Kernel" "things" "LTimeMachine$Things;", .methodLink RX5 123 yX10_openingOf, .instanceMethod yX10_openingOf, .selects RX10 yX10_openingOf yX10_openingOf, .initialized RX10, .methodLink RX5 330 yX10_close, .instanceMethod yX10_close, .selects RX10 yX10_close yX10_close, .methodLink RX5 280 yX10_linkTo, .instanceMethod yX10_linkTo, .selects RX10 yX10_linkTo yX10_linkTo, .constantLong RX5 228 (-4), .methodLink RX5 259 yX10_freeLink, .instanceMethod yX10_freeLink, .selects RX10 yX10_freeLink yX10_freeLink, .constantLong RX5 294 (-1)] ++ (u_ws RX5 TX5 8 ++ (ow_dm_X10_openingOf ++ (ow_dm_X10_close ++ (ow_dm_X10_linkTo ++ (ow_dm_X10_freeLink ++ []))))))
theorem gd_dm_X5_duplicate : ∀ w ∈ ow_dm_X5_duplicate, (w.onTables && w.keeps) = true ∨ ∃ ty, w = Cond.arrayClass ty := List.forall_mem_cons.mpr ⟨good_of_word rfl, List.forall_mem_append.mpr ⟨fun w h => good_of_word (List.all_eq_true.mp (by decide +kernel) w h), List.forall_mem_append.mpr ⟨gu_X5, List.forall_mem_append.mpr ⟨gd_dm_X10_openingOf, List.forall_mem_append.mpr ⟨gd_dm_X10_close, List.forall_mem_append.mpr ⟨gd_dm_X10_linkTo, List.forall_mem_append.mpr ⟨gd_dm_X10_freeLink, fun _ h => nomatch h⟩⟩⟩⟩⟩⟩⟩
theorem hi_dm_X5_duplicate_X5 : ∀ w ∈ u_ws RX5 TX5 8, w ∈ ow_dm_X5_duplicate := fun w h => List.mem_cons_of_mem _ (List.mem_append_right _ (List.mem_append_left _ h))
theorem gi_dm_X5_duplicate_0 : GoodIn ow_dm_X5_duplicate (wsV RX5 123 RX10 yX10_openingOf ow_dm_X10_openingOf) := goodIn_app (goodIn_of _ (by decide +kernel)) (fun w h => ⟨List.mem_cons_of_mem _ (List.mem_append_right _ (List.mem_append_right _ (List.mem_append_left _ h))), gd_dm_X10_openingOf w h⟩)
theorem gi_dm_X5_duplicate_1 : GoodIn ow_dm_X5_duplicate (wsV RX5 330 RX10 yX10_close ow_dm_X10_close) := goodIn_app (goodIn_of _ (by decide +kernel)) (fun w h => ⟨List.mem_cons_of_mem _ (List.mem_append_right _ (List.mem_append_right _ (List.mem_append_right _ (List.mem_append_left _ h)))), gd_dm_X10_close w h⟩)
theorem gi_dm_X5_duplicate_2 : GoodIn ow_dm_X5_duplicate (wsV RX5 280 RX10 yX10_linkTo ow_dm_X10_linkTo) := goodIn_app (goodIn_of _ (by decide +kernel)) (fun w h => ⟨List.mem_cons_of_mem _ (List.mem_append_right _ (List.mem_append_right _ (List.mem_append_right _ (List.mem_append_right _ (List.mem_append_left _ h))))), gd_dm_X10_linkTo w h⟩)
theorem gi_dm_X5_duplicate_3 : GoodIn ow_dm_X5_duplicate (wsV RX5 259 RX10 yX10_freeLink ow_dm_X10_freeLink) := goodIn_app (goodIn_of _ (by decide +kernel)) (fun w h => ⟨List.mem_cons_of_mem _ (List.mem_append_right _ (List.mem_append_right _ (List.mem_append_right _ (List.mem_append_right _ (List.mem_append_right _ (List.mem_append_left _ h)))))), gd_dm_X10_freeLink w h⟩)
def dj_X5_duplicate_11 (p : Program) (l : Launch) (e : Env) (s : State) (m : MethodId) (args : Array Value) (below : List Frame) (meth : Method) (c : Code) (Q : State → Prop) (A : Nat → Prop) (dC : Nat → ClassId) (dI : Nat → Nat → Nat) (a : Nat → Nat) (ac : Nat → ClassId) (g : (St × (St × (St × (St)))) → Option (Int64 × (St × (St × (St × (St)))))) (r : Int64 × (St × (St × (St × (St))))) : Prop := ∀ (s0 : St × (St × (St × (St)))) (H : Heap) (locs : List Loc) (ls : Array Slot), g s0 = some r → va_P (dC, dI) vwCl (dw_X5 a ac s0) H → va_D A (dw_X5 a ac s0) → va_S A s.heap H locs → lv_has ls 6 [] → W p l e (headSpec ow_dm_X5_duplicate ({ frames := 2, cells := 0, slots := 0, locals := 46 })).room s m args below meth c H locs 0 0 Q (F0 m 11 ls [])
def dj_X5_duplicate_91 (p : Program) (l : Launch) (e : Env) (s : State) (m : MethodId) (args : Array Value) (below : List Frame) (meth : Method) (c : Code) (Q : State → Prop) (A : Nat → Prop) (dC : Nat → ClassId) (dI : Nat → Nat → Nat) (a : Nat → Nat) (ac : Nat → ClassId) (g : Int32 → (St × (St × (St × (St)))) → Option (Int64 × (St × (St × (St × (St)))))) (r : Int64 × (St × (St × (St × (St))))) : Prop := ∀ (x5 : Int32) (s0 : St × (St × (St × (St)))) (H : Heap) (locs : List Loc) (ls : Array Slot), g x5 s0 = some r → va_P (dC, dI) vwCl (dw_X5 a ac s0) H → va_D A (dw_X5 a ac s0) → va_S A s.heap H locs → lv_has ls 6 [(5, .int x5)] → W p l e (headSpec ow_dm_X5_duplicate ({ frames := 2, cells := 0, slots := 0, locals := 46 })).room s m args below meth c H locs 0 0 Q (F0 m 91 ls [])
def dj_X5_duplicate_52 (p : Program) (l : Launch) (e : Env) (s : State) (m : MethodId) (args : Array Value) (below : List Frame) (meth : Method) (c : Code) (Q : State → Prop) (A : Nat → Prop) (dC : Nat → ClassId) (dI : Nat → Nat → Nat) (a : Nat → Nat) (ac : Nat → ClassId) (g : Int32 → Int32 → Int32 → Int32 → (St × (St × (St × (St)))) → Option (Int64 × (St × (St × (St × (St)))))) (r : Int64 × (St × (St × (St × (St))))) : Prop := ∀ (x1 : Int32) (x2 : Int32) (x4 : Int32) (y0 : Int32) (s0 : St × (St × (St × (St)))) (H : Heap) (locs : List Loc) (ls : Array Slot), g x1 x2 x4 y0 s0 = some r → va_P (dC, dI) vwCl (dw_X5 a ac s0) H → va_D A (dw_X5 a ac s0) → va_S A s.heap H locs → lv_has ls 6 [(0, .ref (a 0)), (1, .int x1), (2, .int x2), (4, .int x4)] → W p l e (headSpec ow_dm_X5_duplicate ({ frames := 2, cells := 0, slots := 0, locals := 46 })).room s m args below meth c H locs 0 0 Q (F0 m 52 ls [.int y0])
def dj_X5_duplicate_0 (p : Program) (l : Launch) (e : Env) (s : State) (m : MethodId) (args : Array Value) (below : List Frame) (meth : Method) (c : Code) (Q : State → Prop) (A : Nat → Prop) (dC : Nat → ClassId) (dI : Nat → Nat → Nat) (a : Nat → Nat) (ac : Nat → ClassId) (g : Int32 → Int32 → Int32 → (St × (St × (St × (St)))) → Option (Int64 × (St × (St × (St × (St)))))) (r : Int64 × (St × (St × (St × (St))))) : Prop := ∀ (v0 : Int32) (v1 : Int32) (v2 : Int32) (s0 : St × (St × (St × (St)))) (H : Heap) (locs : List Loc) (ls : Array Slot), g v0 v1 v2 s0 = some r → va_P (dC, dI) vwCl (dw_X5 a ac s0) H → va_D A (dw_X5 a ac s0) → va_S A s.heap H locs → lv_has ls 6 [(0, .ref (a 0)), (1, .int v0), (2, .int v1), (3, .int v2)] → W p l e (headSpec ow_dm_X5_duplicate ({ frames := 2, cells := 0, slots := 0, locals := 46 })).room s m args below meth c H locs 0 0 Q (F0 m 0 ls [])
set_option maxHeartbeats 40000000 in
set_option maxRecDepth 100000 in
theorem db_X5_duplicate_11 {p : Program} {l : Launch} {e : Env} {s : State} {m : MethodId} {args : Array Value} {below : List Frame} {meth : Method} {c : Code} {Q : State → Prop} {A : Nat → Prop} {dC : Nat → ClassId} {dI : Nat → Nat → Nat} {a : Nat → Nat} {ac : Nat → ClassId} {n : Nat} {r : Int64 × (St × (St × (St × (St))))} (C : nd_C p l s m args c A (dC, dI) cX5_duplicate 6 RX5 ow_dm_X5_duplicate (dk_X5 ac)) (K : nd_Kl p l e (headSpec ow_dm_X5_duplicate ({ frames := 2, cells := 0, slots := 0, locals := 46 })).room s m args below meth c Q A (dC, dI) cX5_duplicate (St × (St × (St × (St)))) (dw_X5 a ac) r) : dj_X5_duplicate_11 p l e s m args below meth c Q A dC dI a ac (df_X5_duplicate_11 n) r := by
  obtain ⟨hlt, hx, hb, hml, hown, hts, hN, hA, hK⟩ := id C
  intro s0 H locs ls h hP hD hS hl
  unfold df_X5_duplicate_11 at h
  refine lv_ldc2 hx hb hown (hts (.constantLong RX5 251 (-22)) (List.mem_of_getElem? (i := 1) rfl)) dX5_duplicate_11 ?_
  exact K _ _ _ _ _ _ dX5_duplicate_14 (Option.some.inj h).symm hP hD hS
set_option maxHeartbeats 40000000 in
set_option maxRecDepth 100000 in
theorem db_X5_duplicate_91 {p : Program} {l : Launch} {e : Env} {s : State} {m : MethodId} {args : Array Value} {below : List Frame} {meth : Method} {c : Code} {Q : State → Prop} {A : Nat → Prop} {dC : Nat → ClassId} {dI : Nat → Nat → Nat} {a : Nat → Nat} {ac : Nat → ClassId} {n : Nat} {r : Int64 × (St × (St × (St × (St))))} (C : nd_C p l s m args c A (dC, dI) cX5_duplicate 6 RX5 ow_dm_X5_duplicate (dk_X5 ac)) (K : nd_Kl p l e (headSpec ow_dm_X5_duplicate ({ frames := 2, cells := 0, slots := 0, locals := 46 })).room s m args below meth c Q A (dC, dI) cX5_duplicate (St × (St × (St × (St)))) (dw_X5 a ac) r) : dj_X5_duplicate_91 p l e s m args below meth c Q A dC dI a ac (df_X5_duplicate_91 n) r := by
  obtain ⟨hlt, hx, hb, hml, hown, hts, hN, hA, hK⟩ := id C
  intro x5 s0 H locs ls h hP hD hS hl
  unfold df_X5_duplicate_91 at h
  refine lv_iload hx hb dX5_duplicate_91 (lv_at hl 0 rfl) ?_
  refine lv_i2l hx hb dX5_duplicate_93 rfl ?_
  exact K _ _ _ _ _ _ dX5_duplicate_94 (Option.some.inj h).symm hP hD hS
set_option maxHeartbeats 40000000 in
set_option maxRecDepth 100000 in
theorem db_X5_duplicate_52 {p : Program} {l : Launch} {e : Env} {s : State} {m : MethodId} {args : Array Value} {below : List Frame} {meth : Method} {c : Code} {Q : State → Prop} {A : Nat → Prop} {dC : Nat → ClassId} {dI : Nat → Nat → Nat} {a : Nat → Nat} {ac : Nat → ClassId} {n : Nat} {r : Int64 × (St × (St × (St × (St))))} (C : nd_C p l s m args c A (dC, dI) cX5_duplicate 6 RX5 ow_dm_X5_duplicate (dk_X5 ac)) (K : nd_Kl p l e (headSpec ow_dm_X5_duplicate ({ frames := 2, cells := 0, slots := 0, locals := 46 })).room s m args below meth c Q A (dC, dI) cX5_duplicate (St × (St × (St × (St)))) (dw_X5 a ac) r) : dj_X5_duplicate_52 p l e s m args below meth c Q A dC dI a ac (df_X5_duplicate_52 n) r := by
  obtain ⟨hlt, hx, hb, hml, hown, hts, hN, hA, hK⟩ := id C
  intro x1 x2 x4 y0 s0 H locs ls h hP hD hS hl
  unfold df_X5_duplicate_52 at h
  refine lv_istore (lv' := [(5, .int y0), (0, .ref (a 0)), (1, .int x1), (2, .int x2), (4, .int x4)]) hx hb dX5_duplicate_52 hl (by decide) rfl (fun ls hl => ?_)
  refine lv_iload hx hb dX5_duplicate_54 (lv_at hl 0 rfl) ?_
  refine lv_if_ge (tgt := 63) hx hb dX5_duplicate_56 (by decide) (fun c9 => ?_) (fun c9 => ?_)
  · have h := nd_pos h c9
    refine lv_iload hx hb dX5_duplicate_63 (lv_at hl 0 rfl) ?_
    refine lv_iload_n hx hb dX5_duplicate_65 rfl (lv_at hl 3 rfl) ?_
    refine lv_icmp_eq (tgt := 91) hx hb dX5_duplicate_66 (by decide) (fun c10 => ?_) (fun c10 => ?_)
    · have h := nd_pos h c10
      exact (db_X5_duplicate_91 C K) (y0) s0 _ _ _ h hP hD hS (lv_sub hl [0] rfl)
    · have h := nd_neg h c10
      refine lv_aload_n hx hb dX5_duplicate_69 rfl (lv_at hl 1 rfl) ?_
      refine va_get (D := (dC, dI)) (ci := 6) (v := .ref (a 14)) (C := RX5) (T := TX5) (N := 8) hx hb hts hi_dm_X5_duplicate_X5 hown hK hP 0 rfl rfl 1 (by decide) (hts (.fieldLink RX5 28 "TimeMachine$Kernel" "things" "LTimeMachine$Things;") (List.mem_of_getElem? (i := 2) rfl)) (fun _ h9 => h9) rfl dX5_duplicate_70 ?_
      refine lv_iload_n hx hb dX5_duplicate_73 rfl (lv_at hl 2 rfl) ?_
      refine lv_iload hx hb dX5_duplicate_74 (lv_at hl 0 rfl) ?_
      obtain ⟨s12, hq, h⟩ := nd_b1_e h
      have hPc := dp_X5_14 hP
      have hDc := dd_X5_14 hD
      have hKc := dy_X5_14 hK
      have hFc := nd_rs hDc hS hA
      have hzA : ∀ q : Nat, H.size ≤ q → A q := fun q h => hA q (Nat.le_trans hS.1 h)
      refine nd_cVv (As := [.int x1, .int y0]) (rest := []) (w' := dw_X10 (fun k => a (k + 14)) (fun k => ac (k + 14)) s12) ⟨hx, hb, hml, hown, hts⟩ (fun sz => dm_X10_close l hlt dC dI (fun k => a (k + 14)) (fun k => ac (k + 14)) n (x1) (y0) s0.2.2.2 hq sz) (cwV 2 hts gi_dm_X5_duplicate_1 rfl rfl rfl (by decide +kernel) ⟨Nat.le_of_ble_eq_true rfl, Nat.le_of_ble_eq_true rfl⟩) hPc hDc hKc hS hA hN (va_recv hKc hPc (ci := 11) (q0 := 0) rfl rfl) rfl hl.1 rfl (Nat.le_of_ble_eq_true rfl) dX5_duplicate_76 (fun H locs hP1 hD1 hk1 hS => ?_)
      obtain ⟨hP, hD⟩ := dn_X5_14 hP hD hzA hk1 hP1 hD1
      obtain ⟨s14, es14, h⟩ := nd_let_e h
      have hP : va_P (dC, dI) vwCl (dw_X5 a ac s14) H := by rw [es14]; exact hP
      have hD : va_D A (dw_X5 a ac s14) := by rw [es14]; exact hD
      refine lv_aload_n hx hb dX5_duplicate_79 rfl (lv_at hl 1 rfl) ?_
      refine va_get (D := (dC, dI)) (ci := 6) (v := .ref (a 14)) (C := RX5) (T := TX5) (N := 8) hx hb hts hi_dm_X5_duplicate_X5 hown hK hP 0 rfl rfl 1 (by decide) (hts (.fieldLink RX5 28 "TimeMachine$Kernel" "things" "LTimeMachine$Things;") (List.mem_of_getElem? (i := 2) rfl)) (fun _ h9 => h9) rfl dX5_duplicate_80 ?_
      refine lv_iload_n hx hb dX5_duplicate_83 rfl (lv_at hl 2 rfl) ?_
      refine lv_iload hx hb dX5_duplicate_84 (lv_at hl 0 rfl) ?_
      refine lv_iload hx hb dX5_duplicate_86 (lv_at hl 4 rfl) ?_
      obtain ⟨s16, hq, h⟩ := nd_b1_e h
      have hPc := dp_X5_14 hP
      have hDc := dd_X5_14 hD
      have hKc := dy_X5_14 hK
      have hFc := nd_rs hDc hS hA
      have hzA : ∀ q : Nat, H.size ≤ q → A q := fun q h => hA q (Nat.le_trans hS.1 h)
      refine nd_cVv (As := [.int x1, .int y0, .int x4]) (rest := []) (w' := dw_X10 (fun k => a (k + 14)) (fun k => ac (k + 14)) s16) ⟨hx, hb, hml, hown, hts⟩ (fun sz => dm_X10_linkTo l hlt dC dI (fun k => a (k + 14)) (fun k => ac (k + 14)) n (x1) (y0) (x4) s14.2.2.2 hq sz) (cwV 3 hts gi_dm_X5_duplicate_2 rfl rfl rfl (by decide +kernel) ⟨Nat.le_of_ble_eq_true rfl, Nat.le_of_ble_eq_true rfl⟩) hPc hDc hKc hS hA hN (va_recv hKc hPc (ci := 11) (q0 := 0) rfl rfl) rfl hl.1 rfl (Nat.le_of_ble_eq_true rfl) dX5_duplicate_88 (fun H locs hP1 hD1 hk1 hS => ?_)
      obtain ⟨hP, hD⟩ := dn_X5_14 hP hD hzA hk1 hP1 hD1
      obtain ⟨s18, es18, h⟩ := nd_let_e h
      have hP : va_P (dC, dI) vwCl (dw_X5 a ac s18) H := by rw [es18]; exact hP
      have hD : va_D A (dw_X5 a ac s18) := by rw [es18]; exact hD
      exact (db_X5_duplicate_91 C K) (y0) s18 _ _ _ h hP hD hS (lv_sub hl [0] rfl)
  · have h := nd_neg h c9
    refine lv_ldc2 hx hb hown (hts (.constantLong RX5 228 (-4)) (List.mem_of_getElem? (i := 13) rfl)) dX5_duplicate_59 ?_
    exact K _ _ _ _ _ _ dX5_duplicate_62 (Option.some.inj h).symm hP hD hS
set_option maxHeartbeats 40000000 in
set_option maxRecDepth 100000 in
theorem db_X5_duplicate_0 {p : Program} {l : Launch} {e : Env} {s : State} {m : MethodId} {args : Array Value} {below : List Frame} {meth : Method} {c : Code} {Q : State → Prop} {A : Nat → Prop} {dC : Nat → ClassId} {dI : Nat → Nat → Nat} {a : Nat → Nat} {ac : Nat → ClassId} {n : Nat} {r : Int64 × (St × (St × (St × (St))))} (C : nd_C p l s m args c A (dC, dI) cX5_duplicate 6 RX5 ow_dm_X5_duplicate (dk_X5 ac)) (K : nd_Kl p l e (headSpec ow_dm_X5_duplicate ({ frames := 2, cells := 0, slots := 0, locals := 46 })).room s m args below meth c Q A (dC, dI) cX5_duplicate (St × (St × (St × (St)))) (dw_X5 a ac) r) : dj_X5_duplicate_0 p l e s m args below meth c Q A dC dI a ac (df_X5_duplicate_0 n) r := by
  obtain ⟨hlt, hx, hb, hml, hown, hts, hN, hA, hK⟩ := id C
  intro v0 v1 v2 s0 H locs ls h hP hD hS hl
  unfold df_X5_duplicate_0 at h
  refine lv_iload_n hx hb dX5_duplicate_0 rfl (lv_at hl 3 rfl) ?_
  refine lv_iconst (v := (-1)) hx hb dX5_duplicate_1 (by decide) ?_
  refine lv_icmp_lt (tgt := 11) hx hb dX5_duplicate_2 (by decide) (fun c1 => ?_) (fun c1 => ?_)
  · have h := nd_pos h c1
    exact (db_X5_duplicate_11 C K)  s0 _ _ _ h hP hD hS (lv_sub hl [] rfl)
  · have h := nd_neg h c1
    refine lv_iload_n hx hb dX5_duplicate_5 rfl (lv_at hl 3 rfl) ?_
    refine lv_bipush (v := 16) hx hb dX5_duplicate_6 (by decide) ?_
    refine lv_icmp_lt (tgt := 15) hx hb dX5_duplicate_8 (by decide) (fun c2 => ?_) (fun c2 => ?_)
    · have h := nd_pos h c2
      refine lv_aload_n hx hb dX5_duplicate_15 rfl (lv_at hl 0 rfl) ?_
      refine va_get (D := (dC, dI)) (ci := 6) (v := .ref (a 14)) (C := RX5) (T := TX5) (N := 8) hx hb hts hi_dm_X5_duplicate_X5 hown hK hP 0 rfl rfl 1 (by decide) (hts (.fieldLink RX5 28 "TimeMachine$Kernel" "things" "LTimeMachine$Things;") (List.mem_of_getElem? (i := 2) rfl)) (fun _ h9 => h9) rfl dX5_duplicate_16 ?_
      refine lv_iload_n hx hb dX5_duplicate_19 rfl (lv_at hl 1 rfl) ?_
      refine lv_iload_n hx hb dX5_duplicate_20 rfl (lv_at hl 2 rfl) ?_
      obtain ⟨q3, s4, hq, h⟩ := nd_b2_e h
      have hPc := dp_X5_14 hP
      have hDc := dd_X5_14 hD
      have hKc := dy_X5_14 hK
      have hFc := nd_rs hDc hS hA
      have hzA : ∀ q : Nat, H.size ≤ q → A q := fun q h => hA q (Nat.le_trans hS.1 h)
      refine nd_cVi (As := [.int v0, .int v1]) (rest := []) (q := q3) (w' := dw_X10 (fun k => a (k + 14)) (fun k => ac (k + 14)) s4) ⟨hx, hb, hml, hown, hts⟩ (fun sz => dm_X10_openingOf l hlt dC dI (fun k => a (k + 14)) (fun k => ac (k + 14)) n (v0) (v1) s0.2.2.2 hq sz) (cwV 2 hts gi_dm_X5_duplicate_0 rfl rfl rfl (by decide +kernel) ⟨Nat.le_of_ble_eq_true rfl, Nat.le_of_ble_eq_true rfl⟩) hPc hDc hKc hS hA hN (va_recv hKc hPc (ci := 11) (q0 := 0) rfl rfl) rfl hl.1 rfl (Nat.le_of_ble_eq_true rfl) dX5_duplicate_21 (fun H locs hP1 hD1 hk1 hS => ?_)
      obtain ⟨hP, hD⟩ := dn_X5_14 hP hD hzA hk1 hP1 hD1
      obtain ⟨s6, es6, h⟩ := nd_let_e h
      have hP : va_P (dC, dI) vwCl (dw_X5 a ac s6) H := by rw [es6]; exact hP
      have hD : va_D A (dw_X5 a ac s6) := by rw [es6]; exact hD
      refine lv_istore (lv' := [(4, .int q3), (0, .ref (a 0)), (1, .int v0), (2, .int v1), (3, .int v2)]) hx hb dX5_duplicate_24 hl (by decide) rfl (fun ls hl => ?_)
      refine lv_iload hx hb dX5_duplicate_26 (lv_at hl 0 rfl) ?_
      refine lv_if_ge (tgt := 35) hx hb dX5_duplicate_28 (by decide) (fun c7 => ?_) (fun c7 => ?_)
      · have h := nd_pos h c7
        refine lv_iload_n hx hb dX5_duplicate_35 rfl (lv_at hl 4 rfl) ?_
        refine lv_if_ge (tgt := 51) hx hb dX5_duplicate_36 (by decide) (fun c8 => ?_) (fun c8 => ?_)
        · have h := nd_pos h c8
          refine lv_iload_n hx hb dX5_duplicate_51 rfl (lv_at hl 4 rfl) ?_
          exact (db_X5_duplicate_52 C K) (v0) (v1) (q3) (v2) s6 _ _ _ h hP hD hS (lv_sub hl [1, 2, 3, 0] rfl)
        · have h := nd_neg h c8
          refine lv_aload_n hx hb dX5_duplicate_39 rfl (lv_at hl 1 rfl) ?_
          refine va_get (D := (dC, dI)) (ci := 6) (v := .ref (a 14)) (C := RX5) (T := TX5) (N := 8) hx hb hts hi_dm_X5_duplicate_X5 hown hK hP 0 rfl rfl 1 (by decide) (hts (.fieldLink RX5 28 "TimeMachine$Kernel" "things" "LTimeMachine$Things;") (List.mem_of_getElem? (i := 2) rfl)) (fun _ h9 => h9) rfl dX5_duplicate_40 ?_
          refine lv_iload_n hx hb dX5_duplicate_43 rfl (lv_at hl 2 rfl) ?_
          refine lv_iconst (v := 0) hx hb dX5_duplicate_44 (by decide) ?_
          obtain ⟨q19, s20, hq, h⟩ := nd_b2_e h
          have hPc := dp_X5_14 hP
          have hDc := dd_X5_14 hD
          have hKc := dy_X5_14 hK
          have hFc := nd_rs hDc hS hA
          have hzA : ∀ q : Nat, H.size ≤ q → A q := fun q h => hA q (Nat.le_trans hS.1 h)
          refine nd_cVi (As := [.int v0, .int 0]) (rest := []) (q := q19) (w' := dw_X10 (fun k => a (k + 14)) (fun k => ac (k + 14)) s20) ⟨hx, hb, hml, hown, hts⟩ (fun sz => dm_X10_freeLink l hlt dC dI (fun k => a (k + 14)) (fun k => ac (k + 14)) n (v0) (0) s6.2.2.2 hq sz) (cwV 2 hts gi_dm_X5_duplicate_3 rfl rfl rfl (by decide +kernel) ⟨Nat.le_of_ble_eq_true rfl, Nat.le_of_ble_eq_true rfl⟩) hPc hDc hKc hS hA hN (va_recv hKc hPc (ci := 11) (q0 := 0) rfl rfl) rfl hl.1 rfl (Nat.le_of_ble_eq_true rfl) dX5_duplicate_45 (fun H locs hP1 hD1 hk1 hS => ?_)
          obtain ⟨hP, hD⟩ := dn_X5_14 hP hD hzA hk1 hP1 hD1
          obtain ⟨s22, es22, h⟩ := nd_let_e h
          have hP : va_P (dC, dI) vwCl (dw_X5 a ac s22) H := by rw [es22]; exact hP
          have hD : va_D A (dw_X5 a ac s22) := by rw [es22]; exact hD
          refine lv_goto (tgt := 52) hx hb dX5_duplicate_48 (by decide) ?_
          exact (db_X5_duplicate_52 C K) (v0) (v1) (q3) (q19) s22 _ _ _ h hP hD hS (lv_sub hl [1, 2, 3, 0] rfl)
      · have h := nd_neg h c7
        refine lv_ldc2 hx hb hown (hts (.constantLong RX5 294 (-1)) (List.mem_of_getElem? (i := 17) rfl)) dX5_duplicate_31 ?_
        exact K _ _ _ _ _ _ dX5_duplicate_34 (Option.some.inj h).symm hP hD hS
    · have h := nd_neg h c2
      exact (db_X5_duplicate_11 C K)  s0 _ _ _ h hP hD hS (lv_sub hl [] rfl)
set_option maxHeartbeats 40000000 in
set_option maxRecDepth 100000 in
theorem dm_X5_duplicate (l : Launch) (hlt : l.stackTraces = false) (dC : Nat → ClassId) (dI : Nat → Nat → Nat) (a : Nat → Nat) (ac : Nat → ClassId) (n : Nat) (v0 : Int32) (v1 : Int32) (v2 : Int32) (s0 : St × (St × (St × (St)))) {r : Int64 × (St × (St × (St × (St))))} (h : df_X5_duplicate n v0 v1 v2 s0 = some r) (sz : Nat) : Met l yX5_duplicate ow_dm_X5_duplicate ({ frames := 2, cells := 0, slots := 0, locals := 46 }) (va_Pc [.ref (a 0), .int v0, .int v1, .int v2] (fun U => U.heap.size = sz ∧ va_P (dC, dI) vwCl (dw_X5 a ac s0) U.heap ∧ va_K (dC, dI) vwCl (dk_X5 ac) U ∧ va_D (fun _ => True) (dw_X5 a ac s0) ∧ nv_E (va_A (dw_X5 a ac s0) sz) U)) (va_Ql (fun x _ => x = r.1) (fun (_ : Unit) t => va_P (dC, dI) vwCl (dw_X5 a ac r.2) t.heap ∧ va_K (dC, dI) vwCl (dk_X5 ac) t ∧ va_D (va_A (dw_X5 a ac s0) sz) (dw_X5 a ac r.2)) (va_A (dw_X5 a ac s0) sz)) 0 0 (va_A (dw_X5 a ac s0) sz) := by
  refine Met.ofW (cc := cX5_duplicate) (maxL := 6) (ret := (some .long)) (by decide) rfl ?_
  intro p e s m args below meth c s₁ B hml hv
  obtain ⟨rfl, hsz, hP, hK, hD0, hN⟩ := hv
  have hx := B.exec
  have hb := B.bytes
  have hr := B.returns
  have hts := atoms_spec (ws := ow_dm_X5_duplicate) B.pre
  have hown : s.vm.findClass RX5 = some m.cls := findClass_of_methodNamed B.named
  have hlocks := B.notSynchronized
  subst hsz
  have hD := hD0.self (sz := s.heap.size)
  generalize hAe : va_A (dw_X5 a ac s0) s.heap.size = A at hD hN ⊢
  have hA : ∀ q : Nat, s.heap.size ≤ q → A q := fun q h => by rw [← hAe]; exact Or.inr h
  have hl := lv_entry ([.ref (a 0), .int v0, .int v1, .int v2]) (n := 6) (Nat.le_of_ble_eq_true rfl)
  rw [lg_entry_eq]
  generalize (lg_sl ([.ref (a 0), .int v0, .int v1, .int v2]) ++ List.replicate (6 - (lg_sl ([.ref (a 0), .int v0, .int v1, .int v2])).length) Slot.unset).toArray = ls at hl ⊢
  have hl : lv_has ls 6 [(0, .ref (a 0)), (1, .int v0), (2, .int v1), (3, .int v2)] := hl
  exact db_X5_duplicate_0 (dC := dC) (dI := dI) (a := a) (ac := ac) (n := n) (r := r) ⟨hlt, hx, hb, hml, hown, hts, hN, hA, hK⟩ (fun pc v τ H locs ls d er hP hD hS => by subst er; exact W.lret (v := v) hx hb hr (fun t ht hW => ⟨⟨v, (), rfl, rfl, by rw [ht]; exact hP, va_K.moved hW.alike hK, hD⟩, hS.F ht⟩) hS.2.2 d) v0 v1 v2 s0 _ _ _ h hP hD va_S.rf (lv_sub hl [0, 1, 2, 3] rfl)
