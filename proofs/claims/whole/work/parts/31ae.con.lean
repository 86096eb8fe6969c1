set_option maxHeartbeats 40000000 in
set_option maxRecDepth 100000 in
theorem dB_X16_write7_137 {p : Program} {l : Launch} {e : Env} {s : State} {m : MethodId} {args : Array Value} {below : List Frame} {meth : Method} {c : Code} {Q : State → Prop} {A : Nat → Prop} {dC : Nat → ClassId} {dI : Nat → Nat → Nat} {a : Nat → Nat} {ac : Nat → ClassId} {n : Nat} {r : Int32 × (St × (St))} (C : nd_C p l s m args c A (dC, dI) cX16_write7 7 RX16 ow_dm_X16_write7 (dk_X16 ac)) (K : nd_Ki p l e (headSpec ow_dm_X16_write7 ({ frames := 3, cells := 0, slots := 0, locals := 71 })).room s m args below meth c Q A (dC, dI) cX16_write7 .int (St × (St)) (dw_X16 a ac) r) {g137 : Int32 → Int32 → Int32 → Int32 → Int32 → (St × (St)) → Option (Int32 × (St × (St)))} (J137 : dj_X16_write7_137 p l e s m args below meth c Q A dC dI a ac g137 r) : dj_X16_write7_137 p l e s m args below meth c Q A dC dI a ac (dF_X16_write7_137 n g137) r := by
  obtain ⟨hlt, hx, hb, hml, hown, hts, hN, hA, hK⟩ := id C
  intro x2 x3 x4 x5 x6 s0 H locs ls h hP hD hS hl
  unfold dF_X16_write7_137 at h
  refine lv_iload hx hb dX16_write7_137 (lv_at hl 5 rfl) ?_
  refine lv_iload_n hx hb dX16_write7_139 rfl (lv_at hl 2 rfl) ?_
  refine lv_icmp_ge (tgt := 213) hx hb dX16_write7_140 (by decide) (fun c23 => ?_) (fun c23 => ?_)
  · have h := nd_pos h c23
    refine lv_iload_n hx hb dX16_write7_213 rfl (lv_at hl 2 rfl) ?_
    exact K _ _ _ _ _ _ dX16_write7_214 rfl (Option.some.inj h).symm hP hD hS
  · have h := nd_neg h c23
    refine lv_aload_n hx hb dX16_write7_143 rfl (lv_at hl 0 rfl) ?_
    refine va_get (D := (dC, dI)) (ci := 17) (v := .ref (a 21)) (C := RX16) (T := TX16) (N := 56) hx hb hts hi_dm_X16_write7_X16 hown hK hP 0 rfl rfl 30 (by decide) (hts (.fieldLink RX16 73 "TimeMachineModel$Machine" "kind" "[I") (List.mem_of_getElem? (i := 11) rfl)) (fun _ h9 => h9) rfl dX16_write7_144 ?_
    refine lv_iload hx hb dX16_write7_147 (lv_at hl 3 rfl) ?_
    obtain ⟨i24, h⟩ := nd_ck_e h
    refine va_iald (i := x4) hx hb hK hP 21 20 rfl rfl i24 dX16_write7_149 ?_
    refine lv_iconst (v := 4) hx hb dX16_write7_150 (by decide) ?_
    refine lv_icmp_ne (tgt := 169) hx hb dX16_write7_151 (by decide) (fun c25 => ?_) (fun c25 => ?_)
    · have h := nd_neg h c25
      refine lv_aload_n hx hb dX16_write7_169 rfl (lv_at hl 0 rfl) ?_
      refine va_get (D := (dC, dI)) (ci := 17) (v := .ref (a 29)) (C := RX16) (T := TX16) (N := 56) hx hb hts hi_dm_X16_write7_X16 hown hK hP 0 rfl rfl 38 (by decide) (hts (.fieldLink RX16 97 "TimeMachineModel$Machine" "pipeBytes" "[I") (List.mem_of_getElem? (i := 15) rfl)) (fun _ h9 => h9) rfl dX16_write7_170 ?_
      refine lv_sipush (v := 512) hx hb dX16_write7_173 (by decide) ?_
      refine lv_iload hx hb dX16_write7_176 (lv_at hl 4 rfl) ?_
      refine lv_imul hx hb dX16_write7_178 ?_
      refine lv_aload_n hx hb dX16_write7_179 rfl (lv_at hl 0 rfl) ?_
      refine va_get (D := (dC, dI)) (ci := 17) (v := .ref (a 28)) (C := RX16) (T := TX16) (N := 56) hx hb hts hi_dm_X16_write7_X16 hown hK hP 0 rfl rfl 37 (by decide) (hts (.fieldLink RX16 94 "TimeMachineModel$Machine" "piped" "[I") (List.mem_of_getElem? (i := 16) rfl)) (fun _ h9 => h9) rfl dX16_write7_180 ?_
      refine lv_iload hx hb dX16_write7_183 (lv_at hl 4 rfl) ?_
      obtain ⟨i26, h⟩ := nd_ck_e h
      refine va_iald (i := x5) hx hb hK hP 28 27 rfl rfl i26 dX16_write7_185 ?_
      refine lv_iadd hx hb dX16_write7_186 ?_
      refine lv_aload_n hx hb dX16_write7_187 rfl (lv_at hl 0 rfl) ?_
      refine lv_iload_n hx hb dX16_write7_188 rfl (lv_at hl 1 rfl) ?_
      refine lv_iload hx hb dX16_write7_189 (lv_at hl 5 rfl) ?_
      refine lv_iadd hx hb dX16_write7_191 ?_
      obtain ⟨q27, s28, hq, h⟩ := nd_b2_e h
      have hPc := hP
      have hDc := hD
      have hKc := hK
      have hFc := nd_rs hD hS hA
      refine nd_cVi (As := [.int (x2 + x6)]) (rest := [.int ((512 * x5) + (sR s0.1 26 (Int32.toNatClampNeg x5))), .ref (a 29)]) (q := q27) (w' := dw_X16 a ac s28) ⟨hx, hb, hml, hown, hts⟩ (fun sz => dm_X16_byteAt l hlt dC dI a ac n ((x2 + x6)) s0 hq sz) (cwV 1 hts gi_dm_X16_write7_3 rfl rfl rfl (by decide +kernel) ⟨Nat.le_of_ble_eq_true rfl, Nat.le_of_ble_eq_true rfl⟩) hPc hDc hKc hS hA hN (va_recv hKc hPc (ci := 17) (q0 := 0) rfl rfl) rfl hl.1 rfl (Nat.le_of_ble_eq_true rfl) dX16_write7_192 (fun H locs hP1 hD1 hk1 hS => ?_)
      have hP := hP1
      have hD := hD1.weaken (fun k q _ h => hFc q.1 h)
      obtain ⟨i30, h⟩ := nd_ck_e h
      refine va_iast (i := ((512 * x5) + (sR s0.1 26 (Int32.toNatClampNeg x5)))) (x := q27) hx hb hK hP hD hS 29 28 rfl rfl i30 dX16_write7_195 (fun H locs hP hD hS => ?_)
      obtain ⟨s31, es31, h⟩ := nd_let_e h
      have hP : va_P (dC, dI) vwCl (dw_X16 a ac s31) H := by rw [es31]; exact hP
      have hD : va_D A (dw_X16 a ac s31) := by rw [es31]; exact hD
      refine lv_aload_n hx hb dX16_write7_196 rfl (lv_at hl 0 rfl) ?_
      refine va_get (D := (dC, dI)) (ci := 17) (v := .ref (a 28)) (C := RX16) (T := TX16) (N := 56) hx hb hts hi_dm_X16_write7_X16 hown hK hP 0 rfl rfl 37 (by decide) (hts (.fieldLink RX16 94 "TimeMachineModel$Machine" "piped" "[I") (List.mem_of_getElem? (i := 16) rfl)) (fun _ h9 => h9) rfl dX16_write7_197 ?_
      refine lv_iload hx hb dX16_write7_200 (lv_at hl 4 rfl) ?_
      refine lv_dup2_11 hx hb dX16_write7_202 rfl rfl ?_
      obtain ⟨i32, h⟩ := nd_ck_e h
      refine va_iald (i := x5) hx hb hK hP 28 27 rfl rfl i32 dX16_write7_203 ?_
      refine lv_iconst (v := 1) hx hb dX16_write7_204 (by decide) ?_
      refine lv_iadd hx hb dX16_write7_205 ?_
      obtain ⟨i33, h⟩ := nd_ck_e h
      refine va_iast (i := x5) (x := ((sR s31.1 26 (Int32.toNatClampNeg x5)) + 1)) hx hb hK hP hD hS 28 27 rfl rfl i33 dX16_write7_206 (fun H locs hP hD hS => ?_)
      obtain ⟨s34, es34, h⟩ := nd_let_e h
      have hP : va_P (dC, dI) vwCl (dw_X16 a ac s34) H := by rw [es34]; exact hP
      have hD : va_D A (dw_X16 a ac s34) := by rw [es34]; exact hD
      exact (db_X16_write7_207 C K J137) (x2) (x3) (x4) (x5) (x6) s34 _ _ _ h hP hD hS (lv_sub hl [0, 1, 2, 3, 4, 5] rfl)
    · have h := nd_pos h c25
      refine lv_aload_n hx hb dX16_write7_154 rfl (lv_at hl 0 rfl) ?_
      refine lv_aload_n hx hb dX16_write7_155 rfl (lv_at hl 0 rfl) ?_
      refine lv_iload_n hx hb dX16_write7_156 rfl (lv_at hl 1 rfl) ?_
      refine lv_iload hx hb dX16_write7_157 (lv_at hl 5 rfl) ?_
      refine lv_iadd hx hb dX16_write7_159 ?_
      obtain ⟨q36, s37, hq, h⟩ := nd_b2_e h
      have hPc := hP
      have hDc := hD
      have hKc := hK
      have hFc := nd_rs hD hS hA
      refine nd_cVi (As := [.int (x2 + x6)]) (rest := [.ref (a 0)]) (q := q36) (w' := dw_X16 a ac s37) ⟨hx, hb, hml, hown, hts⟩ (fun sz => dm_X16_byteAt l hlt dC dI a ac n ((x2 + x6)) s0 hq sz) (cwV 1 hts gi_dm_X16_write7_3 rfl rfl rfl (by decide +kernel) ⟨Nat.le_of_ble_eq_true rfl, Nat.le_of_ble_eq_true rfl⟩) hPc hDc hKc hS hA hN (va_recv hKc hPc (ci := 17) (q0 := 0) rfl rfl) rfl hl.1 rfl (Nat.le_of_ble_eq_true rfl) dX16_write7_160 (fun H locs hP1 hD1 hk1 hS => ?_)
      have hP := hP1
      have hD := hD1.weaken (fun k q _ h => hFc q.1 h)
      obtain ⟨s40, hq, h⟩ := nd_b1_e h
      have hPc := hP
      have hDc := hD
      have hKc := hK
      have hFc := nd_rs hD hS hA
      refine nd_cVv (As := [.int q36]) (rest := []) (w' := dw_X16 a ac s40) ⟨hx, hb, hml, hown, hts⟩ (fun sz => dm_X16_show l hlt dC dI a ac n (q36) s37 hq sz) (cwV 1 hts gi_dm_X16_write7_4 rfl rfl rfl (by decide +kernel) ⟨Nat.le_of_ble_eq_true rfl, Nat.le_of_ble_eq_true rfl⟩) hPc hDc hKc hS hA hN (va_recv hKc hPc (ci := 17) (q0 := 0) rfl rfl) rfl hl.1 rfl (Nat.le_of_ble_eq_true rfl) dX16_write7_163 (fun H locs hP1 hD1 hk1 hS => ?_)
      have hP := hP1
      have hD := hD1.weaken (fun k q _ h => hFc q.1 h)
      refine lv_goto (tgt := 207) hx hb dX16_write7_166 (by decide) ?_
      exact (db_X16_write7_207 C K J137) (x2) (x3) (x4) (x5) (x6) s40 _ _ _ h hP hD hS (lv_sub hl [0, 1, 2, 3, 4, 5] rfl)
set_option maxHeartbeats 40000000 in
set_option maxRecDepth 100000 in
theorem db_X16_write7_137 {p : Program} {l : Launch} {e : Env} {s : State} {m : MethodId} {args : Array Value} {below : List Frame} {meth : Method} {c : Code} {Q : State → Prop} {A : Nat → Prop} {dC : Nat → ClassId} {dI : Nat → Nat → Nat} {a : Nat → Nat} {ac : Nat → ClassId} {n : Nat} {r : Int32 × (St × (St))} (C : nd_C p l s m args c A (dC, dI) cX16_write7 7 RX16 ow_dm_X16_write7 (dk_X16 ac)) (K : nd_Ki p l e (headSpec ow_dm_X16_write7 ({ frames := 3, cells := 0, slots := 0, locals := 71 })).room s m args below meth c Q A (dC, dI) cX16_write7 .int (St × (St)) (dw_X16 a ac) r) (k : Nat) : dj_X16_write7_137 p l e s m args below meth c Q A dC dI a ac (df_X16_write7_137 n k) r := by
  induction k with
  | zero => intro x2 x3 x4 x5 x6 s0 H locs ls h; exact nomatch (show (none : Option (Int32 × (St × (St)))) = some r from h)
  | succ k ih => exact dB_X16_write7_137 C K ih
set_option maxHeartbeats 40000000 in
set_option maxRecDepth 100000 in
theorem db_X16_write7_95 {p : Program} {l : Launch} {e : Env} {s : State} {m : MethodId} {args : Array Value} {below : List Frame} {meth : Method} {c : Code} {Q : State → Prop} {A : Nat → Prop} {dC : Nat → ClassId} {dI : Nat → Nat → Nat} {a : Nat → Nat} {ac : Nat → ClassId} {n : Nat} {r : Int32 × (St × (St))} (C : nd_C p l s m args c A (dC, dI) cX16_write7 7 RX16 ow_dm_X16_write7 (dk_X16 ac)) (K : nd_Ki p l e (headSpec ow_dm_X16_write7 ({ frames := 3, cells := 0, slots := 0, locals := 71 })).room s m args below meth c Q A (dC, dI) cX16_write7 .int (St × (St)) (dw_X16 a ac) r) : dj_X16_write7_95 p l e s m args below meth c Q A dC dI a ac (df_X16_write7_95 n) r := by
  obtain ⟨hlt, hx, hb, hml, hown, hts, hN, hA, hK⟩ := id C
  intro x2 x3 x4 x5 s0 H locs ls h hP hD hS hl
  unfold df_X16_write7_95 at h
  refine lv_aload_n hx hb dX16_write7_95 rfl (lv_at hl 0 rfl) ?_
  refine va_get (D := (dC, dI)) (ci := 17) (v := .ref (a 21)) (C := RX16) (T := TX16) (N := 56) hx hb hts hi_dm_X16_write7_X16 hown hK hP 0 rfl rfl 30 (by decide) (hts (.fieldLink RX16 73 "TimeMachineModel$Machine" "kind" "[I") (List.mem_of_getElem? (i := 11) rfl)) (fun _ h9 => h9) rfl dX16_write7_96 ?_
  refine lv_iload hx hb dX16_write7_99 (lv_at hl 3 rfl) ?_
  obtain ⟨i17, h⟩ := nd_ck_e h
  refine va_iald (i := x4) hx hb hK hP 21 20 rfl rfl i17 dX16_write7_101 ?_
  refine lv_iconst (v := 3) hx hb dX16_write7_102 (by decide) ?_
  refine lv_icmp_ne (tgt := 117) hx hb dX16_write7_103 (by decide) (fun c18 => ?_) (fun c18 => ?_)
  · have h := nd_neg h c18
    refine lv_aload_n hx hb dX16_write7_117 rfl (lv_at hl 0 rfl) ?_
    refine lv_iload hx hb dX16_write7_118 (lv_at hl 3 rfl) ?_
    refine lv_iconst (v := 0) hx hb dX16_write7_120 (by decide) ?_
    refine lv_iload_n hx hb dX16_write7_121 rfl (lv_at hl 2 rfl) ?_
    obtain ⟨q19, s20, hq, h⟩ := nd_b2_e h
    have hPc := hP
    have hDc := hD
    have hKc := hK
    have hFc := nd_rs hD hS hA
    refine nd_cVi (As := [.int x4, .int 0, .int x3]) (rest := []) (q := q19) (w' := dw_X16 a ac s20) ⟨hx, hb, hml, hown, hts⟩ (fun sz => dm_X16_waits l hlt dC dI a ac n (x4) (0) (x3) s0 hq sz) (cwV 3 hts gi_dm_X16_write7_2 rfl rfl rfl (by decide +kernel) ⟨Nat.le_of_ble_eq_true rfl, Nat.le_of_ble_eq_true rfl⟩) hPc hDc hKc hS hA hN (va_recv hKc hPc (ci := 17) (q0 := 0) rfl rfl) rfl hl.1 rfl (Nat.le_of_ble_eq_true rfl) dX16_write7_122 (fun H locs hP1 hD1 hk1 hS => ?_)
    have hP := hP1
    have hD := hD1.weaken (fun k q _ h => hFc q.1 h)
    refine lv_if_eq (tgt := 134) hx hb dX16_write7_125 (by decide) (fun c22 => ?_) (fun c22 => ?_)
    · have h := nd_pos h c22
      refine lv_iconst (v := 0) hx hb dX16_write7_134 (by decide) ?_
      refine lv_istore (lv' := [(6, .int 0), (0, .ref (a 0)), (2, .int x2), (3, .int x3), (4, .int x4), (5, .int x5)]) hx hb dX16_write7_135 hl (by decide) rfl (fun ls hl => ?_)
      exact (db_X16_write7_137 C K n) (x2) (x3) (x4) (x5) (0) s20 _ _ _ h hP hD hS (lv_sub hl [1, 2, 3, 4, 5, 0] rfl)
    · have h := nd_neg h c22
      refine lv_aload_n hx hb dX16_write7_128 rfl (lv_at hl 0 rfl) ?_
      refine lv_iconst (v := 1) hx hb dX16_write7_129 (by decide) ?_
      obtain ⟨q42, s43, hq, h⟩ := nd_b2_e h
      have hPc := hP
      have hDc := hD
      have hKc := hK
      have hFc := nd_rs hD hS hA
      refine nd_cVi (As := [.int 1]) (rest := []) (q := q42) (w' := dw_X16 a ac s43) ⟨hx, hb, hml, hown, hts⟩ (fun sz => dm_X16_tell l hlt dC dI a ac n (1) s20 hq sz) (cwV 1 hts gi_dm_X16_write7_5 rfl rfl rfl (by decide +kernel) ⟨Nat.le_of_ble_eq_true rfl, Nat.le_of_ble_eq_true rfl⟩) hPc hDc hKc hS hA hN (va_recv hKc hPc (ci := 17) (q0 := 0) rfl rfl) rfl hl.1 rfl (Nat.le_of_ble_eq_true rfl) dX16_write7_130 (fun H locs hP1 hD1 hk1 hS => ?_)
      have hP := hP1
      have hD := hD1.weaken (fun k q _ h => hFc q.1 h)
      exact K _ _ _ _ _ _ dX16_write7_133 rfl (Option.some.inj h).symm hP hD hS
  · have h := nd_pos h c18
    refine lv_aload_n hx hb dX16_write7_106 rfl (lv_at hl 0 rfl) ?_
    refine lv_iload hx hb dX16_write7_107 (lv_at hl 3 rfl) ?_
    refine lv_iload hx hb dX16_write7_109 (lv_at hl 4 rfl) ?_
    refine lv_iload_n hx hb dX16_write7_111 rfl (lv_at hl 1 rfl) ?_
    refine lv_iload_n hx hb dX16_write7_112 rfl (lv_at hl 2 rfl) ?_
    obtain ⟨q45, s46, hq, h⟩ := nd_b2_e h
    have hPc := hP
    have hDc := hD
    have hKc := hK
    have hFc := nd_rs hD hS hA
    refine nd_cVi (As := [.int x4, .int x5, .int x2, .int x3]) (rest := []) (q := q45) (w' := dw_X16 a ac s46) ⟨hx, hb, hml, hown, hts⟩ (fun sz => dm_X16_writeFile l hlt dC dI a ac n (x4) (x5) (x2) (x3) s0 hq sz) (cwV 4 hts gi_dm_X16_write7_6 rfl rfl rfl (by decide +kernel) ⟨Nat.le_of_ble_eq_true rfl, Nat.le_of_ble_eq_true rfl⟩) hPc hDc hKc hS hA hN (va_recv hKc hPc (ci := 17) (q0 := 0) rfl rfl) rfl hl.1 rfl (Nat.le_of_ble_eq_true rfl) dX16_write7_113 (fun H locs hP1 hD1 hk1 hS => ?_)
    have hP := hP1
    have hD := hD1.weaken (fun k q _ h => hFc q.1 h)
    exact K _ _ _ _ _ _ dX16_write7_116 rfl (Option.some.inj h).symm hP hD hS
set_option maxHeartbeats 40000000 in
set_option maxRecDepth 100000 in
theorem db_X16_write7_0 {p : Program} {l : Launch} {e : Env} {s : State} {m : MethodId} {args : Array Value} {below : List Frame} {meth : Method} {c : Code} {Q : State → Prop} {A : Nat → Prop} {dC : Nat → ClassId} {dI : Nat → Nat → Nat} {a : Nat → Nat} {ac : Nat → ClassId} {n : Nat} {r : Int32 × (St × (St))} (C : nd_C p l s m args c A (dC, dI) cX16_write7 7 RX16 ow_dm_X16_write7 (dk_X16 ac)) (K : nd_Ki p l e (headSpec ow_dm_X16_write7 ({ frames := 3, cells := 0, slots := 0, locals := 71 })).room s m args below meth c Q A (dC, dI) cX16_write7 .int (St × (St)) (dw_X16 a ac) r) : dj_X16_write7_0 p l e s m args below meth c Q A dC dI a ac (df_X16_write7_0 n) r := by
  obtain ⟨hlt, hx, hb, hml, hown, hts, hN, hA, hK⟩ := id C
  intro v0 v1 v2 s0 H locs ls h hP hD hS hl
  unfold df_X16_write7_0 at h
  refine lv_iload_n hx hb dX16_write7_0 rfl (lv_at hl 3 rfl) ?_
  refine lv_if_lt (tgt := 11) hx hb dX16_write7_1 (by decide) (fun c1 => ?_) (fun c1 => ?_)
  · have h := nd_pos h c1
    exact (db_X16_write7_11 C K)  s0 _ _ _ h hP hD hS (lv_sub hl [] rfl)
  · have h := nd_neg h c1
    refine lv_iload_n hx hb dX16_write7_4 rfl (lv_at hl 3 rfl) ?_
    refine lv_sipush (v := 512) hx hb dX16_write7_5 (by decide) ?_
    refine lv_icmp_le (tgt := 14) hx hb dX16_write7_8 (by decide) (fun c2 => ?_) (fun c2 => ?_)
    · have h := nd_pos h c2
      refine lv_aload_n hx hb dX16_write7_14 rfl (lv_at hl 0 rfl) ?_
      refine lv_aload_n hx hb dX16_write7_15 rfl (lv_at hl 0 rfl) ?_
      refine va_get (D := (dC, dI)) (ci := 17) (v := .int (sI s0.1 12)) (C := RX16) (T := TX16) (N := 56) hx hb hts hi_dm_X16_write7_X16 hown hK hP 0 rfl rfl 51 (by decide) (hts (.fieldLink RX16 232 "TimeMachineModel$Machine" "p" "I") (List.mem_of_getElem? (i := 1) rfl)) (fun _ h9 => h9) rfl dX16_write7_16 ?_
      refine lv_iload_n hx hb dX16_write7_19 rfl (lv_at hl 2 rfl) ?_
      refine lv_iload_n hx hb dX16_write7_20 rfl (lv_at hl 3 rfl) ?_
      refine lv_iconst (v := 1) hx hb dX16_write7_21 (by decide) ?_
      obtain ⟨q3, s4, hq, h⟩ := nd_b2_e h
      have hPc := hP
      have hDc := hD
      have hKc := hK
      have hFc := nd_rs hD hS hA
      refine nd_cVi (As := [.int (sI s0.1 12), .int v1, .int v2, .int 1]) (rest := []) (q := q3) (w' := dw_X16 a ac s4) ⟨hx, hb, hml, hown, hts⟩ (fun sz => dm_X16_mayAll l hlt dC dI a ac n ((sI s0.1 12)) (v1) (v2) (1) s0 hq sz) (cwV 4 hts gi_dm_X16_write7_0 rfl rfl rfl (by decide +kernel) ⟨Nat.le_of_ble_eq_true rfl, Nat.le_of_ble_eq_true rfl⟩) hPc hDc hKc hS hA hN (va_recv hKc hPc (ci := 17) (q0 := 0) rfl rfl) rfl hl.1 rfl (Nat.le_of_ble_eq_true rfl) dX16_write7_22 (fun H locs hP1 hD1 hk1 hS => ?_)
      have hP := hP1
      have hD := hD1.weaken (fun k q _ h => hFc q.1 h)
      refine lv_if_ne (tgt := 31) hx hb dX16_write7_25 (by decide) (fun c6 => ?_) (fun c6 => ?_)
      · have h := nd_neg h c6
        refine lv_aload_n hx hb dX16_write7_31 rfl (lv_at hl 0 rfl) ?_
        refine lv_aload_n hx hb dX16_write7_32 rfl (lv_at hl 0 rfl) ?_
        refine va_get (D := (dC, dI)) (ci := 17) (v := .int (sI s4.1 12)) (C := RX16) (T := TX16) (N := 56) hx hb hts hi_dm_X16_write7_X16 hown hK hP 0 rfl rfl 51 (by decide) (hts (.fieldLink RX16 232 "TimeMachineModel$Machine" "p" "I") (List.mem_of_getElem? (i := 1) rfl)) (fun _ h9 => h9) rfl dX16_write7_33 ?_
        refine lv_iload_n hx hb dX16_write7_36 rfl (lv_at hl 1 rfl) ?_
        obtain ⟨q7, s8, hq, h⟩ := nd_b2_e h
        have hPc := hP
        have hDc := hD
        have hKc := hK
        have hFc := nd_rs hD hS hA
        refine nd_cVi (As := [.int (sI s4.1 12), .int v0]) (rest := []) (q := q7) (w' := dw_X16 a ac s8) ⟨hx, hb, hml, hown, hts⟩ (fun sz => dm_X16_openingOf l hlt dC dI a ac n ((sI s4.1 12)) (v0) s4 hq sz) (cwV 2 hts gi_dm_X16_write7_1 rfl rfl rfl (by decide +kernel) ⟨Nat.le_of_ble_eq_true rfl, Nat.le_of_ble_eq_true rfl⟩) hPc hDc hKc hS hA hN (va_recv hKc hPc (ci := 17) (q0 := 0) rfl rfl) rfl hl.1 rfl (Nat.le_of_ble_eq_true rfl) dX16_write7_37 (fun H locs hP1 hD1 hk1 hS => ?_)
        have hP := hP1
        have hD := hD1.weaken (fun k q _ h => hFc q.1 h)
        refine lv_istore (lv' := [(4, .int q7), (0, .ref (a 0)), (1, .int v0), (2, .int v1), (3, .int v2)]) hx hb dX16_write7_40 hl (by decide) rfl (fun ls hl => ?_)
        refine lv_iload hx hb dX16_write7_42 (lv_at hl 0 rfl) ?_
        refine lv_iconst (v := (-1)) hx hb dX16_write7_44 (by decide) ?_
        refine lv_icmp_eq (tgt := 60) hx hb dX16_write7_45 (by decide) (fun c10 => ?_) (fun c10 => ?_)
        · have h := nd_pos h c10
          exact (db_X16_write7_60 C K)  s8 _ _ _ h hP hD hS (lv_sub hl [] rfl)
        · have h := nd_neg h c10
          refine lv_aload_n hx hb dX16_write7_48 rfl (lv_at hl 1 rfl) ?_
          refine va_get (D := (dC, dI)) (ci := 17) (v := .ref (a 24)) (C := RX16) (T := TX16) (N := 56) hx hb hts hi_dm_X16_write7_X16 hown hK hP 0 rfl rfl 33 (by decide) (hts (.fieldLink RX16 82 "TimeMachineModel$Machine" "right" "[I") (List.mem_of_getElem? (i := 9) rfl)) (fun _ h9 => h9) rfl dX16_write7_49 ?_
          refine lv_iload hx hb dX16_write7_52 (lv_at hl 0 rfl) ?_
          obtain ⟨i11, h⟩ := nd_ck_e h
          refine va_iald (i := q7) hx hb hK hP 24 23 rfl rfl i11 dX16_write7_54 ?_
          refine lv_iconst (v := 2) hx hb dX16_write7_55 (by decide) ?_
          refine lv_iand hx hb dX16_write7_56 ?_
          refine lv_if_ne (tgt := 62) hx hb dX16_write7_57 (by decide) (fun c12 => ?_) (fun c12 => ?_)
          · have h := nd_neg h c12
            refine lv_aload_n hx hb dX16_write7_62 rfl (lv_at hl 1 rfl) ?_
            refine va_get (D := (dC, dI)) (ci := 17) (v := .ref (a 22)) (C := RX16) (T := TX16) (N := 56) hx hb hts hi_dm_X16_write7_X16 hown hK hP 0 rfl rfl 31 (by decide) (hts (.fieldLink RX16 76 "TimeMachineModel$Machine" "thing" "[I") (List.mem_of_getElem? (i := 10) rfl)) (fun _ h9 => h9) rfl dX16_write7_63 ?_
            refine lv_iload hx hb dX16_write7_66 (lv_at hl 0 rfl) ?_
            obtain ⟨i13, h⟩ := nd_ck_e h
            refine va_iald (i := q7) hx hb hK hP 22 21 rfl rfl i13 dX16_write7_68 ?_
            refine lv_topi (fun z14 ez14 => ?_)
            have h := nd_at h ez14
            refine lv_istore (lv' := [(5, .int z14), (4, .int q7), (0, .ref (a 0)), (1, .int v0), (2, .int v1), (3, .int v2)]) hx hb dX16_write7_69 hl (by decide) rfl (fun ls hl => ?_)
            refine lv_aload_n hx hb dX16_write7_71 rfl (lv_at hl 2 rfl) ?_
            refine va_get (D := (dC, dI)) (ci := 17) (v := .ref (a 21)) (C := RX16) (T := TX16) (N := 56) hx hb hts hi_dm_X16_write7_X16 hown hK hP 0 rfl rfl 30 (by decide) (hts (.fieldLink RX16 73 "TimeMachineModel$Machine" "kind" "[I") (List.mem_of_getElem? (i := 11) rfl)) (fun _ h9 => h9) rfl dX16_write7_72 ?_
            refine lv_iload hx hb dX16_write7_75 (lv_at hl 1 rfl) ?_
            obtain ⟨i15, h⟩ := nd_ck_e h
            refine va_iald (i := q7) hx hb hK hP 21 20 rfl rfl i15 dX16_write7_77 ?_
            refine lv_iconst (v := 2) hx hb dX16_write7_78 (by decide) ?_
            refine lv_icmp_ne (tgt := 95) hx hb dX16_write7_79 (by decide) (fun c16 => ?_) (fun c16 => ?_)
            · have h := nd_neg h c16
              exact (db_X16_write7_95 C K) (v1) (v2) (q7) (z14) s8 _ _ _ h hP hD hS (lv_sub hl [2, 4, 5, 1, 0] rfl)
            · have h := nd_pos h c16
              refine lv_aload_n hx hb dX16_write7_82 rfl (lv_at hl 2 rfl) ?_
              refine lv_iconst (v := 1) hx hb dX16_write7_83 (by decide) ?_
              refine lv_iload hx hb dX16_write7_84 (lv_at hl 0 rfl) ?_
              obtain ⟨q48, s49, hq, h⟩ := nd_b2_e h
              have hPc := hP
              have hDc := hD
              have hKc := hK
              have hFc := nd_rs hD hS hA
              refine nd_cVi (As := [.int 1, .int z14]) (rest := []) (q := q48) (w' := dw_X16 a ac s49) ⟨hx, hb, hml, hown, hts⟩ (fun sz => dm_X16_ends l hlt dC dI a ac n (1) (z14) s8 hq sz) (cwV 2 hts gi_dm_X16_write7_7 rfl rfl rfl (by decide +kernel) ⟨Nat.le_of_ble_eq_true rfl, Nat.le_of_ble_eq_true rfl⟩) hPc hDc hKc hS hA hN (va_recv hKc hPc (ci := 17) (q0 := 0) rfl rfl) rfl hl.1 rfl (Nat.le_of_ble_eq_true rfl) dX16_write7_86 (fun H locs hP1 hD1 hk1 hS => ?_)
              have hP := hP1
              have hD := hD1.weaken (fun k q _ h => hFc q.1 h)
              refine lv_if_ne (tgt := 95) hx hb dX16_write7_89 (by decide) (fun c51 => ?_) (fun c51 => ?_)
              · have h := nd_neg h c51
                exact (db_X16_write7_95 C K) (v1) (v2) (q7) (z14) s49 _ _ _ h hP hD hS (lv_sub hl [2, 4, 5, 1, 0] rfl)
              · have h := nd_pos h c51
                refine lv_bipush (v := (-5)) hx hb dX16_write7_92 (by decide) ?_
                exact K _ _ _ _ _ _ dX16_write7_94 rfl (Option.some.inj h).symm hP hD hS
          · have h := nd_pos h c12
            exact (db_X16_write7_60 C K)  s8 _ _ _ h hP hD hS (lv_sub hl [] rfl)
      · have h := nd_pos h c6
        refine lv_bipush (v := (-14)) hx hb dX16_write7_28 (by decide) ?_
        exact K _ _ _ _ _ _ dX16_write7_30 rfl (Option.some.inj h).symm hP hD hS
    · have h := nd_neg h c2
      exact (db_X16_write7_11 C K)  s0 _ _ _ h hP hD hS (lv_sub hl [] rfl)
set_option maxHeartbeats 40000000 in
set_option maxRecDepth 100000 in
theorem dm_X16_write7 (l : Launch) (hlt : l.stackTraces = false) (dC : Nat → ClassId) (dI : Nat → Nat → Nat) (a : Nat → Nat) (ac : Nat → ClassId) (n : Nat) (v0 : Int32) (v1 : Int32) (v2 : Int32) (s0 : St × (St)) {r : Int32 × (St × (St))} (h : df_X16_write7 n v0 v1 v2 s0 = some r) (sz : Nat) : Met l yX16_write7 ow_dm_X16_write7 ({ frames := 3, cells := 0, slots := 0, locals := 71 }) (va_Pc [.ref (a 0), .int v0, .int v1, .int v2] (fun U => U.heap.size = sz ∧ va_P (dC, dI) vwCl (dw_X16 a ac s0) U.heap ∧ va_K (dC, dI) vwCl (dk_X16 ac) U ∧ va_D (fun _ => True) (dw_X16 a ac s0) ∧ nv_E dI (va_A (dw_X16 a ac s0) sz) U)) (va_Qi (fun x _ => x = r.1) (fun (_ : Unit) t => va_P (dC, dI) vwCl (dw_X16 a ac r.2) t.heap ∧ va_K (dC, dI) vwCl (dk_X16 ac) t ∧ va_D (va_A (dw_X16 a ac s0) sz) (dw_X16 a ac r.2)) (va_A (dw_X16 a ac s0) sz)) 0 0 (va_A (dw_X16 a ac s0) sz) := by
  refine Met.ofW (cc := cX16_write7) (maxL := 7) (ret := (some .int)) (by decide) rfl ?_
  intro p e s m args below meth c s₁ B hml hv
  obtain ⟨rfl, hsz, hP, hK, hD0, hN⟩ := hv
  have hx := B.exec
  have hb := B.bytes
  have hr := B.returns
  have hts := atoms_spec (ws := ow_dm_X16_write7) B.pre
  have hown : s.vm.findClass RX16 = some m.cls := findClass_of_methodNamed B.named
  have hlocks := B.notSynchronized
  subst hsz
  have hD := hD0.self (sz := s.heap.size)
  generalize hAe : va_A (dw_X16 a ac s0) s.heap.size = A at hD hN ⊢
  have hA : ∀ q : Nat, s.heap.size ≤ q → A q := fun q h => by rw [← hAe]; exact Or.inr h
  have hl := lv_entry ([.ref (a 0), .int v0, .int v1, .int v2]) (n := 7) (Nat.le_of_ble_eq_true rfl)
  rw [lg_entry_eq]
  generalize (lg_sl ([.ref (a 0), .int v0, .int v1, .int v2]) ++ List.replicate (7 - (lg_sl ([.ref (a 0), .int v0, .int v1, .int v2])).length) Slot.unset).toArray = ls at hl ⊢
  have hl : lv_has ls 7 [(0, .ref (a 0)), (1, .int v0), (2, .int v1), (3, .int v2)] := hl
  exact db_X16_write7_0 (dC := dC) (dI := dI) (a := a) (ac := ac) (n := n) (r := r) ⟨hlt, hx, hb, hml, hown, hts, hN, hA, hK⟩ (fun pc v τ H locs ls d z er hP hD hS => by subst er; exact W.zret (v := v) hx hb hr z (fun t ht hW => ⟨⟨v, (), rfl, rfl, by rw [ht]; exact hP, va_K.moved hW.alike hK, hD⟩, hS.F ht⟩) hS.2.2 d) v0 v1 v2 s0 _ _ _ h hP hD va_S.rf (lv_sub hl [0, 1, 2, 3] rfl)
def ow_dm_X16_close : List Cond := Cond.code yX16_close cX16_close 2 (some .int) :: ([Cond.fieldLink RX16 232 "TimeMachineModel$Machine" "p" "I", Cond.methodLink RX16 491 yX16_openingOf, Cond.instanceMethod yX16_openingOf, Cond.selects RX16 yX16_openingOf yX16_openingOf, Cond.initialized RX16, Cond.fieldLink RX16 57 "TimeMachineModel$Machine" "descriptor" "[I", Cond.methodLink RX16 252 yX16_sweep, Cond.instanceMethod yX16_sweep, Cond.selects RX16 yX16_sweep yX16_sweep] ++ (u_ws RX16 TX16 56 ++ (ow_dm_X16_openingOf ++ (ow_dm_X16_sweep ++ []))))
theorem gd_dm_X16_close : ∀ w ∈ ow_dm_X16_close, (w.onTables && w.keeps) = true ∨ ∃ ty, w = Cond.arrayClass ty := List.forall_mem_cons.mpr ⟨good_of_word rfl, List.forall_mem_append.mpr ⟨fun w h => good_of_word (List.all_eq_true.mp (by decide +kernel) w h), List.forall_mem_append.mpr ⟨gu_X16, List.forall_mem_append.mpr ⟨gd_dm_X16_openingOf, List.forall_mem_append.mpr ⟨gd_dm_X16_sweep, fun _ h => nomatch h⟩⟩⟩⟩⟩
theorem hi_dm_X16_close_X16 : ∀ w ∈ u_ws RX16 TX16 56, w ∈ ow_dm_X16_close := fun w h => List.mem_cons_of_mem _ (List.mem_append_right _ (List.mem_append_left _ h))
theorem gi_dm_X16_close_0 : GoodIn ow_dm_X16_close (wsV RX16 491 RX16 yX16_openingOf ow_dm_X16_openingOf) := goodIn_app (goodIn_of _ (by decide +kernel)) (fun w h => ⟨List.mem_cons_of_mem _ (List.mem_append_right _ (List.mem_append_right _ (List.mem_append_left _ h))), gd_dm_X16_openingOf w h⟩)
theorem gi_dm_X16_close_1 : GoodIn ow_dm_X16_close (wsV RX16 252 RX16 yX16_sweep ow_dm_X16_sweep) := goodIn_app (goodIn_of _ (by decide +kernel)) (fun w h => ⟨List.mem_cons_of_mem _ (List.mem_append_right _ (List.mem_append_right _ (List.mem_append_right _ (List.mem_append_left _ h)))), gd_dm_X16_sweep w h⟩)
def dj_X16_close_0 (p : Program) (l : Launch) (e : Env) (s : State) (m : MethodId) (args : Array Value) (below : List Frame) (meth : Method) (c : Code) (Q : State → Prop) (A : Nat → Prop) (dC : Nat → ClassId) (dI : Nat → Nat → Nat) (a : Nat → Nat) (ac : Nat → ClassId) (g : Int32 → (St × (St)) → Option (Int32 × (St × (St)))) (r : Int32 × (St × (St))) : Prop := ∀ (v0 : Int32) (s0 : St × (St)) (H : Heap) (locs : List Loc) (ls : Array Slot), g v0 s0 = some r → va_P (dC, dI) vwCl (dw_X16 a ac s0) H → va_D A (dw_X16 a ac s0) → va_S A s.heap H locs → lv_has ls 2 [(0, .ref (a 0)), (1, .int v0)] → W p l e (headSpec ow_dm_X16_close ({ frames := 2, cells := 0, slots := 0, locals := 45 })).room s m args below meth c H locs 0 0 Q (F0 m 0 ls [])
set_option maxHeartbeats 40000000 in
set_option maxRecDepth 100000 in
theorem db_X16_close_0 {p : Program} {l : Launch} {e : Env} {s : State} {m : MethodId} {args : Array Value} {below : List Frame} {meth : Method} {c : Code} {Q : State → Prop} {A : Nat → Prop} {dC : Nat → ClassId} {dI : Nat → Nat → Nat} {a : Nat → Nat} {ac : Nat → ClassId} {n : Nat} {r : Int32 × (St × (St))} (C : nd_C p l s m args c A (dC, dI) cX16_close 2 RX16 ow_dm_X16_close (dk_X16 ac)) (K : nd_Ki p l e (headSpec ow_dm_X16_close ({ frames := 2, cells := 0, slots := 0, locals := 45 })).room s m args below meth c Q A (dC, dI) cX16_close .int (St × (St)) (dw_X16 a ac) r) : dj_X16_close_0 p l e s m args below meth c Q A dC dI a ac (df_X16_close_0 n) r := by
  obtain ⟨hlt, hx, hb, hml, hown, hts, hN, hA, hK⟩ := id C
  intro v0 s0 H locs ls h hP hD hS hl
  unfold df_X16_close_0 at h
  refine lv_aload_n hx hb dX16_close_0 rfl (lv_at hl 0 rfl) ?_
  refine lv_aload_n hx hb dX16_close_1 rfl (lv_at hl 0 rfl) ?_
  refine va_get (D := (dC, dI)) (ci := 17) (v := .int (sI s0.1 12)) (C := RX16) (T := TX16) (N := 56) hx hb hts hi_dm_X16_close_X16 hown hK hP 0 rfl rfl 51 (by decide) (hts (.fieldLink RX16 232 "TimeMachineModel$Machine" "p" "I") (List.mem_of_getElem? (i := 1) rfl)) (fun _ h9 => h9) rfl dX16_close_2 ?_
  refine lv_iload_n hx hb dX16_close_5 rfl (lv_at hl 1 rfl) ?_
  obtain ⟨q1, s2, hq, h⟩ := nd_b2_e h
  have hPc := hP
  have hDc := hD
  have hKc := hK
  have hFc := nd_rs hD hS hA
  refine nd_cVi (As := [.int (sI s0.1 12), .int v0]) (rest := []) (q := q1) (w' := dw_X16 a ac s2) ⟨hx, hb, hml, hown, hts⟩ (fun sz => dm_X16_openingOf l hlt dC dI a ac n ((sI s0.1 12)) (v0) s0 hq sz) (cwV 2 hts gi_dm_X16_close_0 rfl rfl rfl (by decide +kernel) ⟨Nat.le_of_ble_eq_true rfl, Nat.le_of_ble_eq_true rfl⟩) hPc hDc hKc hS hA hN (va_recv hKc hPc (ci := 17) (q0 := 0) rfl rfl) rfl hl.1 rfl (Nat.le_of_ble_eq_true rfl) dX16_close_6 (fun H locs hP1 hD1 hk1 hS => ?_)
  have hP := hP1
  have hD := hD1.weaken (fun k q _ h => hFc q.1 h)
  refine lv_iconst (v := (-1)) hx hb dX16_close_9 (by decide) ?_
  refine lv_icmp_ne (tgt := 15) hx hb dX16_close_10 (by decide) (fun c4 => ?_) (fun c4 => ?_)
  · have h := nd_neg h c4
    refine lv_aload_n hx hb dX16_close_15 rfl (lv_at hl 0 rfl) ?_
    refine va_get (D := (dC, dI)) (ci := 17) (v := .ref (a 16)) (C := RX16) (T := TX16) (N := 56) hx hb hts hi_dm_X16_close_X16 hown hK hP 0 rfl rfl 24 (by decide) (hts (.fieldLink RX16 57 "TimeMachineModel$Machine" "descriptor" "[I") (List.mem_of_getElem? (i := 6) rfl)) (fun _ h9 => h9) rfl dX16_close_16 ?_
    refine lv_bipush (v := 16) hx hb dX16_close_19 (by decide) ?_
    refine lv_aload_n hx hb dX16_close_21 rfl (lv_at hl 0 rfl) ?_
    refine va_get (D := (dC, dI)) (ci := 17) (v := .int (sI s2.1 12)) (C := RX16) (T := TX16) (N := 56) hx hb hts hi_dm_X16_close_X16 hown hK hP 0 rfl rfl 51 (by decide) (hts (.fieldLink RX16 232 "TimeMachineModel$Machine" "p" "I") (List.mem_of_getElem? (i := 1) rfl)) (fun _ h9 => h9) rfl dX16_close_22 ?_
    refine lv_imul hx hb dX16_close_25 ?_
    refine lv_iload_n hx hb dX16_close_26 rfl (lv_at hl 1 rfl) ?_
    refine lv_iadd hx hb dX16_close_27 ?_
    refine lv_iconst (v := (-1)) hx hb dX16_close_28 (by decide) ?_
    obtain ⟨i5, h⟩ := nd_ck_e h
    refine va_iast (i := ((16 * (sI s2.1 12)) + v0)) (x := (-1)) hx hb hK hP hD hS 16 15 rfl rfl i5 dX16_close_29 (fun H locs hP hD hS => ?_)
    obtain ⟨s6, es6, h⟩ := nd_let_e h
    have hP : va_P (dC, dI) vwCl (dw_X16 a ac s6) H := by rw [es6]; exact hP
    have hD : va_D A (dw_X16 a ac s6) := by rw [es6]; exact hD
    refine lv_aload_n hx hb dX16_close_30 rfl (lv_at hl 0 rfl) ?_
    obtain ⟨s8, hq, h⟩ := nd_b1_e h
    have hPc := hP
    have hDc := hD
    have hKc := hK
    have hFc := nd_rs hD hS hA
    refine nd_cVv (As := []) (rest := []) (w' := dw_X16 a ac s8) ⟨hx, hb, hml, hown, hts⟩ (fun sz => dm_X16_sweep l hlt dC dI a ac n  s6 hq sz) (cwV 0 hts gi_dm_X16_close_1 rfl rfl rfl (by decide +kernel) ⟨Nat.le_of_ble_eq_true rfl, Nat.le_of_ble_eq_true rfl⟩) hPc hDc hKc hS hA hN (va_recv hKc hPc (ci := 17) (q0 := 0) rfl rfl) rfl hl.1 rfl (Nat.le_of_ble_eq_true rfl) dX16_close_31 (fun H locs hP1 hD1 hk1 hS => ?_)
    have hP := hP1
    have hD := hD1.weaken (fun k q _ h => hFc q.1 h)
    refine lv_iconst (v := 0) hx hb dX16_close_34 (by decide) ?_
    exact K _ _ _ _ _ _ dX16_close_35 rfl (Option.some.inj h).symm hP hD hS
  · have h := nd_pos h c4
    refine lv_iconst (v := (-1)) hx hb dX16_close_13 (by decide) ?_
    exact K _ _ _ _ _ _ dX16_close_14 rfl (Option.some.inj h).symm hP hD hS
set_option maxHeartbeats 40000000 in
set_option maxRecDepth 100000 in
theorem dm_X16_close (l : Launch) (hlt : l.stackTraces = false) (dC : Nat → ClassId) (dI : Nat → Nat → Nat) (a : Nat → Nat) (ac : Nat → ClassId) (n : Nat) (v0 : Int32) (s0 : St × (St)) {r : Int32 × (St × (St))} (h : df_X16_close n v0 s0 = some r) (sz : Nat) : Met l yX16_close ow_dm_X16_close ({ frames := 2, cells := 0, slots := 0, locals := 45 }) (va_Pc [.ref (a 0), .int v0] (fun U => U.heap.size = sz ∧ va_P (dC, dI) vwCl (dw_X16 a ac s0) U.heap ∧ va_K (dC, dI) vwCl (dk_X16 ac) U ∧ va_D (fun _ => True) (dw_X16 a ac s0) ∧ nv_E dI (va_A (dw_X16 a ac s0) sz) U)) (va_Qi (fun x _ => x = r.1) (fun (_ : Unit) t => va_P (dC, dI) vwCl (dw_X16 a ac r.2) t.heap ∧ va_K (dC, dI) vwCl (dk_X16 ac) t ∧ va_D (va_A (dw_X16 a ac s0) sz) (dw_X16 a ac r.2)) (va_A (dw_X16 a ac s0) sz)) 0 0 (va_A (dw_X16 a ac s0) sz) := by
  refine Met.ofW (cc := cX16_close) (maxL := 2) (ret := (some .int)) (by decide) rfl ?_
  intro p e s m args below meth c s₁ B hml hv
  obtain ⟨rfl, hsz, hP, hK, hD0, hN⟩ := hv
  have hx := B.exec
  have hb := B.bytes
  have hr := B.returns
  have hts := atoms_spec (ws := ow_dm_X16_close) B.pre
  have hown : s.vm.findClass RX16 = some m.cls := findClass_of_methodNamed B.named
  have hlocks := B.notSynchronized
  subst hsz
  have hD := hD0.self (sz := s.heap.size)
  generalize hAe : va_A (dw_X16 a ac s0) s.heap.size = A at hD hN ⊢
  have hA : ∀ q : Nat, s.heap.size ≤ q → A q := fun q h => by rw [← hAe]; exact Or.inr h
  have hl := lv_entry ([.ref (a 0), .int v0]) (n := 2) (Nat.le_of_ble_eq_true rfl)
  rw [lg_entry_eq]
  generalize (lg_sl ([.ref (a 0), .int v0]) ++ List.replicate (2 - (lg_sl ([.ref (a 0), .int v0])).length) Slot.unset).toArray = ls at hl ⊢
  have hl : lv_has ls 2 [(0, .ref (a 0)), (1, .int v0)] := hl
  exact db_X16_close_0 (dC := dC) (dI := dI) (a := a) (ac := ac) (n := n) (r := r) ⟨hlt, hx, hb, hml, hown, hts, hN, hA, hK⟩ (fun pc v τ H locs ls d z er hP hD hS => by subst er; exact W.zret (v := v) hx hb hr z (fun t ht hW => ⟨⟨v, (), rfl, rfl, by rw [ht]; exact hP, va_K.moved hW.alike hK, hD⟩, hS.F ht⟩) hS.2.2 d) v0 s0 _ _ _ h hP hD va_S.rf (lv_sub hl [0, 1] rfl)
def ow_dm_X16_dup : List Cond := Cond.code yX16_dup cX16_dup 4 (some .int) :: ([Cond.fieldLink RX16 232 "TimeMachineModel$Machine" "p" "I", Cond.methodLink RX16 491 yX16_openingOf, Cond.instanceMethod yX16_openingOf, Cond.selects RX16 yX16_openingOf yX16_openingOf, Cond.initialized RX16, Cond.fieldLink RX16 57 "TimeMachineModel$Machine" "descriptor" "[I", Cond.methodLink RX16 252 yX16_sweep, Cond.instanceMethod yX16_sweep, Cond.selects RX16 yX16_sweep yX16_sweep, Cond.methodLink RX16 249 yX16_freeDescriptor, Cond.instanceMethod yX16_freeDescriptor, Cond.selects RX16 yX16_freeDescriptor yX16_freeDescriptor, Cond.methodLink RX16 488 yX16_give, Cond.instanceMethod yX16_give, Cond.selects RX16 yX16_give yX16_give] ++ (u_ws RX16 TX16 56 ++ (ow_dm_X16_openingOf ++ (ow_dm_X16_sweep ++ (ow_dm_X16_freeDescriptor ++ (ow_dm_X16_give ++ []))))))
theorem gd_dm_X16_dup : ∀ w ∈ ow_dm_X16_dup, (w.onTables && w.keeps) = true ∨ ∃ ty, w = Cond.arrayClass ty := List.forall_mem_cons.mpr ⟨good_of_word rfl, List.forall_mem_append.mpr ⟨fun w h => good_of_word (List.all_eq_true.mp (by decide +kernel) w h), List.forall_mem_append.mpr ⟨gu_X16, List.forall_mem_append.mpr ⟨gd_dm_X16_openingOf, List.forall_mem_append.mpr ⟨gd_dm_X16_sweep, List.forall_mem_append.mpr ⟨gd_dm_X16_freeDescriptor, List.forall_mem_append.mpr ⟨gd_dm_X16_give, fun _ h => nomatch h⟩⟩⟩⟩⟩⟩⟩
theorem hi_dm_X16_dup_X16 : ∀ w ∈ u_ws RX16 TX16 56, w ∈ ow_dm_X16_dup := fun w h => List.mem_cons_of_mem _ (List.mem_append_right _ (List.mem_append_left _ h))
theorem gi_dm_X16_dup_0 : GoodIn ow_dm_X16_dup (wsV RX16 491 RX16 yX16_openingOf ow_dm_X16_openingOf) := goodIn_app (goodIn_of _ (by decide +kernel)) (fun w h => ⟨List.mem_cons_of_mem _ (List.mem_append_right _ (List.mem_append_right _ (List.mem_append_left _ h))), gd_dm_X16_openingOf w h⟩)
theorem gi_dm_X16_dup_1 : GoodIn ow_dm_X16_dup (wsV RX16 252 RX16 yX16_sweep ow_dm_X16_sweep) := goodIn_app (goodIn_of _ (by decide +kernel)) (fun w h => ⟨List.mem_cons_of_mem _ (List.mem_append_right _ (List.mem_append_right _ (List.mem_append_right _ (List.mem_append_left _ h)))), gd_dm_X16_sweep w h⟩)
theorem gi_dm_X16_dup_2 : GoodIn ow_dm_X16_dup (wsV RX16 249 RX16 yX16_freeDescriptor ow_dm_X16_freeDescriptor) := goodIn_app (goodIn_of _ (by decide +kernel)) (fun w h => ⟨List.mem_cons_of_mem _ (List.mem_append_right _ (List.mem_append_right _ (List.mem_append_right _ (List.mem_append_right _ (List.mem_append_left _ h))))), gd_dm_X16_freeDescriptor w h⟩)
theorem gi_dm_X16_dup_3 : GoodIn ow_dm_X16_dup (wsV RX16 488 RX16 yX16_give ow_dm_X16_give) := goodIn_app (goodIn_of _ (by decide +kernel)) (fun w h => ⟨List.mem_cons_of_mem _ (List.mem_append_right _ (List.mem_append_right _ (List.mem_append_right _ (List.mem_append_right _ (List.mem_append_right _ (List.mem_append_left _ h)))))), gd_dm_X16_give w h⟩)
def dj_X16_dup_11 (p : Program) (l : Launch) (e : Env) (s : State) (m : MethodId) (args : Array Value) (below : List Frame) (meth : Method) (c : Code) (Q : State → Prop) (A : Nat → Prop) (dC : Nat → ClassId) (dI : Nat → Nat → Nat) (a : Nat → Nat) (ac : Nat → ClassId) (g : (St × (St)) → Option (Int32 × (St × (St)))) (r : Int32 × (St × (St))) : Prop := ∀ (s0 : St × (St)) (H : Heap) (locs : List Loc) (ls : Array Slot), g s0 = some r → va_P (dC, dI) vwCl (dw_X16 a ac s0) H → va_D A (dw_X16 a ac s0) → va_S A s.heap H locs → lv_has ls 4 [] → W p l e (headSpec ow_dm_X16_dup ({ frames := 2, cells := 0, slots := 0, locals := 45 })).room s m args below meth c H locs 0 0 Q (F0 m 11 ls [])
def dj_X16_dup_53 (p : Program) (l : Launch) (e : Env) (s : State) (m : MethodId) (args : Array Value) (below : List Frame) (meth : Method) (c : Code) (Q : State → Prop) (A : Nat → Prop) (dC : Nat → ClassId) (dI : Nat → Nat → Nat) (a : Nat → Nat) (ac : Nat → ClassId) (g : Int32 → (St × (St)) → Option (Int32 × (St × (St)))) (r : Int32 × (St × (St))) : Prop := ∀ (y0 : Int32) (s0 : St × (St)) (H : Heap) (locs : List Loc) (ls : Array Slot), g y0 s0 = some r → va_P (dC, dI) vwCl (dw_X16 a ac s0) H → va_D A (dw_X16 a ac s0) → va_S A s.heap H locs → lv_has ls 4 [] → W p l e (headSpec ow_dm_X16_dup ({ frames := 2, cells := 0, slots := 0, locals := 45 })).room s m args below meth c H locs 0 0 Q (F0 m 53 ls [.int y0])
def dj_X16_dup_0 (p : Program) (l : Launch) (e : Env) (s : State) (m : MethodId) (args : Array Value) (below : List Frame) (meth : Method) (c : Code) (Q : State → Prop) (A : Nat → Prop) (dC : Nat → ClassId) (dI : Nat → Nat → Nat) (a : Nat → Nat) (ac : Nat → ClassId) (g : Int32 → Int32 → (St × (St)) → Option (Int32 × (St × (St)))) (r : Int32 × (St × (St))) : Prop := ∀ (v0 : Int32) (v1 : Int32) (s0 : St × (St)) (H : Heap) (locs : List Loc) (ls : Array Slot), g v0 v1 s0 = some r → va_P (dC, dI) vwCl (dw_X16 a ac s0) H → va_D A (dw_X16 a ac s0) → va_S A s.heap H locs → lv_has ls 4 [(0, .ref (a 0)), (1, .int v0), (2, .int v1)] → W p l e (headSpec ow_dm_X16_dup ({ frames := 2, cells := 0, slots := 0, locals := 45 })).room s m args below meth c H locs 0 0 Q (F0 m 0 ls [])
set_option maxHeartbeats 40000000 in
set_option maxRecDepth 100000 in
theorem db_X16_dup_11 {p : Program} {l : Launch} {e : Env} {s : State} {m : MethodId} {args : Array Value} {below : List Frame} {meth : Method} {c : Code} {Q : State → Prop} {A : Nat → Prop} {dC : Nat → ClassId} {dI : Nat → Nat → Nat} {a : Nat → Nat} {ac : Nat → ClassId} {n : Nat} {r : Int32 × (St × (St))} (C : nd_C p l s m args c A (dC, dI) cX16_dup 4 RX16 ow_dm_X16_dup (dk_X16 ac)) (K : nd_Ki p l e (headSpec ow_dm_X16_dup ({ frames := 2, cells := 0, slots := 0, locals := 45 })).room s m args below meth c Q A (dC, dI) cX16_dup .int (St × (St)) (dw_X16 a ac) r) : dj_X16_dup_11 p l e s m args below meth c Q A dC dI a ac (df_X16_dup_11 n) r := by
  obtain ⟨hlt, hx, hb, hml, hown, hts, hN, hA, hK⟩ := id C
  intro s0 H locs ls h hP hD hS hl
  unfold df_X16_dup_11 at h
  refine lv_bipush (v := (-22)) hx hb dX16_dup_11 (by decide) ?_
  exact K _ _ _ _ _ _ dX16_dup_13 rfl (Option.some.inj h).symm hP hD hS
set_option maxHeartbeats 40000000 in
set_option maxRecDepth 100000 in
theorem db_X16_dup_53 {p : Program} {l : Launch} {e : Env} {s : State} {m : MethodId} {args : Array Value} {below : List Frame} {meth : Method} {c : Code} {Q : State → Prop} {A : Nat → Prop} {dC : Nat → ClassId} {dI : Nat → Nat → Nat} {a : Nat → Nat} {ac : Nat → ClassId} {n : Nat} {r : Int32 × (St × (St))} (C : nd_C p l s m args c A (dC, dI) cX16_dup 4 RX16 ow_dm_X16_dup (dk_X16 ac)) (K : nd_Ki p l e (headSpec ow_dm_X16_dup ({ frames := 2, cells := 0, slots := 0, locals := 45 })).room s m args below meth c Q A (dC, dI) cX16_dup .int (St × (St)) (dw_X16 a ac) r) : dj_X16_dup_53 p l e s m args below meth c Q A dC dI a ac (df_X16_dup_53 n) r := by
  obtain ⟨hlt, hx, hb, hml, hown, hts, hN, hA, hK⟩ := id C
  intro y0 s0 H locs ls h hP hD hS hl
  unfold df_X16_dup_53 at h
  exact K _ _ _ _ _ _ dX16_dup_53 rfl (Option.some.inj h).symm hP hD hS
set_option maxHeartbeats 40000000 in
set_option maxRecDepth 100000 in
theorem db_X16_dup_0 {p : Program} {l : Launch} {e : Env} {s : State} {m : MethodId} {args : Array Value} {below : List Frame} {meth : Method} {c : Code} {Q : State → Prop} {A : Nat → Prop} {dC : Nat → ClassId} {dI : Nat → Nat → Nat} {a : Nat → Nat} {ac : Nat → ClassId} {n : Nat} {r : Int32 × (St × (St))} (C : nd_C p l s m args c A (dC, dI) cX16_dup 4 RX16 ow_dm_X16_dup (dk_X16 ac)) (K : nd_Ki p l e (headSpec ow_dm_X16_dup ({ frames := 2, cells := 0, slots := 0, locals := 45 })).room s m args below meth c Q A (dC, dI) cX16_dup .int (St × (St)) (dw_X16 a ac) r) : dj_X16_dup_0 p l e s m args below meth c Q A dC dI a ac (df_X16_dup_0 n) r := by
  obtain ⟨hlt, hx, hb, hml, hown, hts, hN, hA, hK⟩ := id C
  intro v0 v1 s0 H locs ls h hP hD hS hl
  unfold df_X16_dup_0 at h
  refine lv_iload_n hx hb dX16_dup_0 rfl (lv_at hl 2 rfl) ?_
  refine lv_iconst (v := (-1)) hx hb dX16_dup_1 (by decide) ?_
  refine lv_icmp_lt (tgt := 11) hx hb dX16_dup_2 (by decide) (fun c1 => ?_) (fun c1 => ?_)
  · have h := nd_pos h c1
    exact (db_X16_dup_11 C K)  s0 _ _ _ h hP hD hS (lv_sub hl [] rfl)
  · have h := nd_neg h c1
    refine lv_iload_n hx hb dX16_dup_5 rfl (lv_at hl 2 rfl) ?_
    refine lv_bipush (v := 15) hx hb dX16_dup_6 (by decide) ?_
    refine lv_icmp_le (tgt := 14) hx hb dX16_dup_8 (by decide) (fun c2 => ?_) (fun c2 => ?_)
    · have h := nd_pos h c2
      refine lv_aload_n hx hb dX16_dup_14 rfl (lv_at hl 0 rfl) ?_
      refine lv_aload_n hx hb dX16_dup_15 rfl (lv_at hl 0 rfl) ?_
      refine va_get (D := (dC, dI)) (ci := 17) (v := .int (sI s0.1 12)) (C := RX16) (T := TX16) (N := 56) hx hb hts hi_dm_X16_dup_X16 hown hK hP 0 rfl rfl 51 (by decide) (hts (.fieldLink RX16 232 "TimeMachineModel$Machine" "p" "I") (List.mem_of_getElem? (i := 1) rfl)) (fun _ h9 => h9) rfl dX16_dup_16 ?_
      refine lv_iload_n hx hb dX16_dup_19 rfl (lv_at hl 1 rfl) ?_
      obtain ⟨q3, s4, hq, h⟩ := nd_b2_e h
      have hPc := hP
      have hDc := hD
      have hKc := hK
      have hFc := nd_rs hD hS hA
      refine nd_cVi (As := [.int (sI s0.1 12), .int v0]) (rest := []) (q := q3) (w' := dw_X16 a ac s4) ⟨hx, hb, hml, hown, hts⟩ (fun sz => dm_X16_openingOf l hlt dC dI a ac n ((sI s0.1 12)) (v0) s0 hq sz) (cwV 2 hts gi_dm_X16_dup_0 rfl rfl rfl (by decide +kernel) ⟨Nat.le_of_ble_eq_true rfl, Nat.le_of_ble_eq_true rfl⟩) hPc hDc hKc hS hA hN (va_recv hKc hPc (ci := 17) (q0 := 0) rfl rfl) rfl hl.1 rfl (Nat.le_of_ble_eq_true rfl) dX16_dup_20 (fun H locs hP1 hD1 hk1 hS => ?_)
      have hP := hP1
      have hD := hD1.weaken (fun k q _ h => hFc q.1 h)
      refine lv_istore_n (lv' := [(3, .int q3), (0, .ref (a 0)), (1, .int v0), (2, .int v1)]) hx hb dX16_dup_23 rfl hl (by decide) rfl (fun ls hl => ?_)
      refine lv_iload_n hx hb dX16_dup_24 rfl (lv_at hl 0 rfl) ?_
      refine lv_iconst (v := (-1)) hx hb dX16_dup_25 (by decide) ?_
      refine lv_icmp_ne (tgt := 31) hx hb dX16_dup_26 (by decide) (fun c6 => ?_) (fun c6 => ?_)
      · have h := nd_neg h c6
        refine lv_iload_n hx hb dX16_dup_31 rfl (lv_at hl 3 rfl) ?_
        refine lv_if_ge (tgt := 54) hx hb dX16_dup_32 (by decide) (fun c7 => ?_) (fun c7 => ?_)
        · have h := nd_pos h c7
          refine lv_aload_n hx hb dX16_dup_54 rfl (lv_at hl 1 rfl) ?_
          refine va_get (D := (dC, dI)) (ci := 17) (v := .ref (a 16)) (C := RX16) (T := TX16) (N := 56) hx hb hts hi_dm_X16_dup_X16 hown hK hP 0 rfl rfl 24 (by decide) (hts (.fieldLink RX16 57 "TimeMachineModel$Machine" "descriptor" "[I") (List.mem_of_getElem? (i := 6) rfl)) (fun _ h9 => h9) rfl dX16_dup_55 ?_
          refine lv_bipush (v := 16) hx hb dX16_dup_58 (by decide) ?_
          refine lv_aload_n hx hb dX16_dup_60 rfl (lv_at hl 1 rfl) ?_
          refine va_get (D := (dC, dI)) (ci := 17) (v := .int (sI s4.1 12)) (C := RX16) (T := TX16) (N := 56) hx hb hts hi_dm_X16_dup_X16 hown hK hP 0 rfl rfl 51 (by decide) (hts (.fieldLink RX16 232 "TimeMachineModel$Machine" "p" "I") (List.mem_of_getElem? (i := 1) rfl)) (fun _ h9 => h9) rfl dX16_dup_61 ?_
          refine lv_imul hx hb dX16_dup_64 ?_
          refine lv_iload_n hx hb dX16_dup_65 rfl (lv_at hl 3 rfl) ?_
          refine lv_iadd hx hb dX16_dup_66 ?_
          refine lv_iload_n hx hb dX16_dup_67 rfl (lv_at hl 0 rfl) ?_
          obtain ⟨i8, h⟩ := nd_ck_e h
          refine va_iast (i := ((16 * (sI s4.1 12)) + v1)) (x := q3) hx hb hK hP hD hS 16 15 rfl rfl i8 dX16_dup_68 (fun H locs hP hD hS => ?_)
          obtain ⟨s9, es9, h⟩ := nd_let_e h
          have hP : va_P (dC, dI) vwCl (dw_X16 a ac s9) H := by rw [es9]; exact hP
          have hD : va_D A (dw_X16 a ac s9) := by rw [es9]; exact hD
          refine lv_aload_n hx hb dX16_dup_69 rfl (lv_at hl 1 rfl) ?_
          obtain ⟨s11, hq, h⟩ := nd_b1_e h
          have hPc := hP
          have hDc := hD
          have hKc := hK
          have hFc := nd_rs hD hS hA
          refine nd_cVv (As := []) (rest := []) (w' := dw_X16 a ac s11) ⟨hx, hb, hml, hown, hts⟩ (fun sz => dm_X16_sweep l hlt dC dI a ac n  s9 hq sz) (cwV 0 hts gi_dm_X16_dup_1 rfl rfl rfl (by decide +kernel) ⟨Nat.le_of_ble_eq_true rfl, Nat.le_of_ble_eq_true rfl⟩) hPc hDc hKc hS hA hN (va_recv hKc hPc (ci := 17) (q0 := 0) rfl rfl) rfl hl.1 rfl (Nat.le_of_ble_eq_true rfl) dX16_dup_70 (fun H locs hP1 hD1 hk1 hS => ?_)
          have hP := hP1
          have hD := hD1.weaken (fun k q _ h => hFc q.1 h)
          refine lv_iload_n hx hb dX16_dup_73 rfl (lv_at hl 3 rfl) ?_
          exact K _ _ _ _ _ _ dX16_dup_74 rfl (Option.some.inj h).symm hP hD hS
        · have h := nd_neg h c7
          refine lv_aload_n hx hb dX16_dup_35 rfl (lv_at hl 1 rfl) ?_
          obtain ⟨q13, s14, hq, h⟩ := nd_b2_e h
          have hPc := hP
          have hDc := hD
          have hKc := hK
          have hFc := nd_rs hD hS hA
          refine nd_cVi (As := []) (rest := []) (q := q13) (w' := dw_X16 a ac s14) ⟨hx, hb, hml, hown, hts⟩ (fun sz => dm_X16_freeDescriptor l hlt dC dI a ac n  s4 hq sz) (cwV 0 hts gi_dm_X16_dup_2 rfl rfl rfl (by decide +kernel) ⟨Nat.le_of_ble_eq_true rfl, Nat.le_of_ble_eq_true rfl⟩) hPc hDc hKc hS hA hN (va_recv hKc hPc (ci := 17) (q0 := 0) rfl rfl) rfl hl.1 rfl (Nat.le_of_ble_eq_true rfl) dX16_dup_36 (fun H locs hP1 hD1 hk1 hS => ?_)
          have hP := hP1
          have hD := hD1.weaken (fun k q _ h => hFc q.1 h)
          refine lv_iconst (v := (-1)) hx hb dX16_dup_39 (by decide) ?_
          refine lv_icmp_ne (tgt := 48) hx hb dX16_dup_40 (by decide) (fun c16 => ?_) (fun c16 => ?_)
          · have h := nd_neg h c16
            refine lv_aload_n hx hb dX16_dup_48 rfl (lv_at hl 1 rfl) ?_
            refine lv_iload_n hx hb dX16_dup_49 rfl (lv_at hl 0 rfl) ?_
            obtain ⟨q17, s18, hq, h⟩ := nd_b2_e h
            have hPc := hP
            have hDc := hD
            have hKc := hK
            have hFc := nd_rs hD hS hA
            refine nd_cVi (As := [.int q3]) (rest := []) (q := q17) (w' := dw_X16 a ac s18) ⟨hx, hb, hml, hown, hts⟩ (fun sz => dm_X16_give l hlt dC dI a ac n (q3) s14 hq sz) (cwV 1 hts gi_dm_X16_dup_3 rfl rfl rfl (by decide +kernel) ⟨Nat.le_of_ble_eq_true rfl, Nat.le_of_ble_eq_true rfl⟩) hPc hDc hKc hS hA hN (va_recv hKc hPc (ci := 17) (q0 := 0) rfl rfl) rfl hl.1 rfl (Nat.le_of_ble_eq_true rfl) dX16_dup_50 (fun H locs hP1 hD1 hk1 hS => ?_)
            have hP := hP1
            have hD := hD1.weaken (fun k q _ h => hFc q.1 h)
            exact (db_X16_dup_53 C K) (q17) s18 _ _ _ h hP hD hS (lv_sub hl [] rfl)
          · have h := nd_pos h c16
            refine lv_bipush (v := (-4)) hx hb dX16_dup_43 (by decide) ?_
            refine lv_goto (tgt := 53) hx hb dX16_dup_45 (by decide) ?_
            exact (db_X16_dup_53 C K) ((-4)) s14 _ _ _ h hP hD hS (lv_sub hl [] rfl)
      · have h := nd_pos h c6
        refine lv_iconst (v := (-1)) hx hb dX16_dup_29 (by decide) ?_
        exact K _ _ _ _ _ _ dX16_dup_30 rfl (Option.some.inj h).symm hP hD hS
    · have h := nd_neg h c2
      exact (db_X16_dup_11 C K)  s0 _ _ _ h hP hD hS (lv_sub hl [] rfl)
set_option maxHeartbeats 40000000 in
set_option maxRecDepth 100000 in
theorem dm_X16_dup (l : Launch) (hlt : l.stackTraces = false) (dC : Nat → ClassId) (dI : Nat → Nat → Nat) (a : Nat → Nat) (ac : Nat → ClassId) (n : Nat) (v0 : Int32) (v1 : Int32) (s0 : St × (St)) {r : Int32 × (St × (St))} (h : df_X16_dup n v0 v1 s0 = some r) (sz : Nat) : Met l yX16_dup ow_dm_X16_dup ({ frames := 2, cells := 0, slots := 0, locals := 45 }) (va_Pc [.ref (a 0), .int v0, .int v1] (fun U => U.heap.size = sz ∧ va_P (dC, dI) vwCl (dw_X16 a ac s0) U.heap ∧ va_K (dC, dI) vwCl (dk_X16 ac) U ∧ va_D (fun _ => True) (dw_X16 a ac s0) ∧ nv_E dI (va_A (dw_X16 a ac s0) sz) U)) (va_Qi (fun x _ => x = r.1) (fun (_ : Unit) t => va_P (dC, dI) vwCl (dw_X16 a ac r.2) t.heap ∧ va_K (dC, dI) vwCl (dk_X16 ac) t ∧ va_D (va_A (dw_X16 a ac s0) sz) (dw_X16 a ac r.2)) (va_A (dw_X16 a ac s0) sz)) 0 0 (va_A (dw_X16 a ac s0) sz) := by
  refine Met.ofW (cc := cX16_dup) (maxL := 4) (ret := (some .int)) (by decide) rfl ?_
  intro p e s m args below meth c s₁ B hml hv
  obtain ⟨rfl, hsz, hP, hK, hD0, hN⟩ := hv
  have hx := B.exec
  have hb := B.bytes
  have hr := B.returns
  have hts := atoms_spec (ws := ow_dm_X16_dup) B.pre
  have hown : s.vm.findClass RX16 = some m.cls := findClass_of_methodNamed B.named
  have hlocks := B.notSynchronized
  subst hsz
  have hD := hD0.self (sz := s.heap.size)
  generalize hAe : va_A (dw_X16 a ac s0) s.heap.size = A at hD hN ⊢
  have hA : ∀ q : Nat, s.heap.size ≤ q → A q := fun q h => by rw [← hAe]; exact Or.inr h
  have hl := lv_entry ([.ref (a 0), .int v0, .int v1]) (n := 4) (Nat.le_of_ble_eq_true rfl)
  rw [lg_entry_eq]
  generalize (lg_sl ([.ref (a 0), .int v0, .int v1]) ++ List.replicate (4 - (lg_sl ([.ref (a 0), .int v0, .int v1])).length) Slot.unset).toArray = ls at hl ⊢
  have hl : lv_has ls 4 [(0, .ref (a 0)), (1, .int v0), (2, .int v1)] := hl
  exact db_X16_dup_0 (dC := dC) (dI := dI) (a := a) (ac := ac) (n := n) (r := r) ⟨hlt, hx, hb, hml, hown, hts, hN, hA, hK⟩ (fun pc v τ H locs ls d z er hP hD hS => by subst er; exact W.zret (v := v) hx hb hr z (fun t ht hW => ⟨⟨v, (), rfl, rfl, by rw [ht]; exact hP, va_K.moved hW.alike hK, hD⟩, hS.F ht⟩) hS.2.2 d) v0 v1 s0 _ _ _ h hP hD va_S.rf (lv_sub hl [0, 1, 2] rfl)
def ow_dm_X16_nameAt : List Cond := Cond.code yX16_nameAt cX16_nameAt 6 (some .int) :: ([Cond.fieldLink RX16 232 "TimeMachineModel$Machine" "p" "I", Cond.methodLink RX16 218 yX16_may, Cond.instanceMethod yX16_may, Cond.selects RX16 yX16_may yX16_may, Cond.initialized RX16, Cond.methodLink RX16 235 yX16_byteAt, Cond.instanceMethod yX16_byteAt, Cond.selects RX16 yX16_byteAt yX16_byteAt, Cond.fieldLink RX16 115 "TimeMachineModel$Machine" "name" "[I"] ++ (u_ws RX16 TX16 56 ++ (ow_dm_X16_may ++ (ow_dm_X16_byteAt ++ []))))
theorem gd_dm_X16_nameAt : ∀ w ∈ ow_dm_X16_nameAt, (w.onTables && w.keeps) = true ∨ ∃ ty, w = Cond.arrayClass ty := List.forall_mem_cons.mpr ⟨good_of_word rfl, List.forall_mem_append.mpr ⟨fun w h => good_of_word (List.all_eq_true.mp (by decide +kernel) w h), List.forall_mem_append.mpr ⟨gu_X16, List.forall_mem_append.mpr ⟨gd_dm_X16_may, List.forall_mem_append.mpr ⟨gd_dm_X16_byteAt, fun _ h => nomatch h⟩⟩⟩⟩⟩
theorem hi_dm_X16_nameAt_X16 : ∀ w ∈ u_ws RX16 TX16 56, w ∈ ow_dm_X16_nameAt := fun w h => List.mem_cons_of_mem _ (List.mem_append_right _ (List.mem_append_left _ h))
theorem gi_dm_X16_nameAt_0 : GoodIn ow_dm_X16_nameAt (wsV RX16 218 RX16 yX16_may ow_dm_X16_may) := goodIn_app (goodIn_of _ (by decide +kernel)) (fun w h => ⟨List.mem_cons_of_mem _ (List.mem_append_right _ (List.mem_append_right _ (List.mem_append_left _ h))), gd_dm_X16_may w h⟩)
theorem gi_dm_X16_nameAt_1 : GoodIn ow_dm_X16_nameAt (wsV RX16 235 RX16 yX16_byteAt ow_dm_X16_byteAt) := goodIn_app (goodIn_of _ (by decide +kernel)) (fun w h => ⟨List.mem_cons_of_mem _ (List.mem_append_right _ (List.mem_append_right _ (List.mem_append_right _ (List.mem_append_left _ h)))), gd_dm_X16_byteAt w h⟩)
def dj_X16_nameAt_107 (p : Program) (l : Launch) (e : Env) (s : State) (m : MethodId) (args : Array Value) (below : List Frame) (meth : Method) (c : Code) (Q : State → Prop) (A : Nat → Prop) (dC : Nat → ClassId) (dI : Nat → Nat → Nat) (a : Nat → Nat) (ac : Nat → ClassId) (g : Int32 → Int32 → Int32 → Int32 → Int32 → (St × (St)) → Option (Int32 × (St × (St)))) (r : Int32 × (St × (St))) : Prop := ∀ (x1 : Int32) (x2 : Int32) (x4 : Int32) (x5 : Int32) (y0 : Int32) (s0 : St × (St)) (H : Heap) (locs : List Loc) (ls : Array Slot), g x1 x2 x4 x5 y0 s0 = some r → va_P (dC, dI) vwCl (dw_X16 a ac s0) H → va_D A (dw_X16 a ac s0) → va_S A s.heap H locs → lv_has ls 6 [(0, .ref (a 0)), (1, .int x1), (2, .int x2), (4, .int x4), (5, .int x5)] → W p l e (headSpec ow_dm_X16_nameAt ({ frames := 2, cells := 0, slots := 0, locals := 45 })).room s m args below meth c H locs 0 0 Q (F0 m 107 ls [.int y0])
def dj_X16_nameAt_106 (p : Program) (l : Launch) (e : Env) (s : State) (m : MethodId) (args : Array Value) (below : List Frame) (meth : Method) (c : Code) (Q : State → Prop) (A : Nat → Prop) (dC : Nat → ClassId) (dI : Nat → Nat → Nat) (a : Nat → Nat) (ac : Nat → ClassId) (g : Int32 → Int32 → Int32 → Int32 → (St × (St)) → Option (Int32 × (St × (St)))) (r : Int32 × (St × (St))) : Prop := ∀ (x1 : Int32) (x2 : Int32) (x4 : Int32) (x5 : Int32) (s0 : St × (St)) (H : Heap) (locs : List Loc) (ls : Array Slot), g x1 x2 x4 x5 s0 = some r → va_P (dC, dI) vwCl (dw_X16 a ac s0) H → va_D A (dw_X16 a ac s0) → va_S A s.heap H locs → lv_has ls 6 [(0, .ref (a 0)), (1, .int x1), (2, .int x2), (4, .int x4), (5, .int x5)] → W p l e (headSpec ow_dm_X16_nameAt ({ frames := 2, cells := 0, slots := 0, locals := 45 })).room s m args below meth c H locs 0 0 Q (F0 m 106 ls [])
def dj_X16_nameAt_83 (p : Program) (l : Launch) (e : Env) (s : State) (m : MethodId) (args : Array Value) (below : List Frame) (meth : Method) (c : Code) (Q : State → Prop) (A : Nat → Prop) (dC : Nat → ClassId) (dI : Nat → Nat → Nat) (a : Nat → Nat) (ac : Nat → ClassId) (g : Int32 → (St × (St)) → Option (Int32 × (St × (St)))) (r : Int32 × (St × (St))) : Prop := ∀ (y0 : Int32) (s0 : St × (St)) (H : Heap) (locs : List Loc) (ls : Array Slot), g y0 s0 = some r → va_P (dC, dI) vwCl (dw_X16 a ac s0) H → va_D A (dw_X16 a ac s0) → va_S A s.heap H locs → lv_has ls 6 [] → W p l e (headSpec ow_dm_X16_nameAt ({ frames := 2, cells := 0, slots := 0, locals := 45 })).room s m args below meth c H locs 0 0 Q (F0 m 83 ls [.int y0])
def dj_X16_nameAt_81 (p : Program) (l : Launch) (e : Env) (s : State) (m : MethodId) (args : Array Value) (below : List Frame) (meth : Method) (c : Code) (Q : State → Prop) (A : Nat → Prop) (dC : Nat → ClassId) (dI : Nat → Nat → Nat) (a : Nat → Nat) (ac : Nat → ClassId) (g : (St × (St)) → Option (Int32 × (St × (St)))) (r : Int32 × (St × (St))) : Prop := ∀ (s0 : St × (St)) (H : Heap) (locs : List Loc) (ls : Array Slot), g s0 = some r → va_P (dC, dI) vwCl (dw_X16 a ac s0) H → va_D A (dw_X16 a ac s0) → va_S A s.heap H locs → lv_has ls 6 [] → W p l e (headSpec ow_dm_X16_nameAt ({ frames := 2, cells := 0, slots := 0, locals := 45 })).room s m args below meth c H locs 0 0 Q (F0 m 81 ls [])
def dj_X16_nameAt_28 (p : Program) (l : Launch) (e : Env) (s : State) (m : MethodId) (args : Array Value) (below : List Frame) (meth : Method) (c : Code) (Q : State → Prop) (A : Nat → Prop) (dC : Nat → ClassId) (dI : Nat → Nat → Nat) (a : Nat → Nat) (ac : Nat → ClassId) (g : Int32 → Int32 → Int32 → Int32 → (St × (St)) → Option (Int32 × (St × (St)))) (r : Int32 × (St × (St))) : Prop := ∀ (x1 : Int32) (x2 : Int32) (x3 : Int32) (x4 : Int32) (s0 : St × (St)) (H : Heap) (locs : List Loc) (ls : Array Slot), g x1 x2 x3 x4 s0 = some r → va_P (dC, dI) vwCl (dw_X16 a ac s0) H → va_D A (dw_X16 a ac s0) → va_S A s.heap H locs → lv_has ls 6 [(0, .ref (a 0)), (1, .int x1), (2, .int x2), (3, .int x3), (4, .int x4)] → W p l e (headSpec ow_dm_X16_nameAt ({ frames := 2, cells := 0, slots := 0, locals := 45 })).room s m args below meth c H locs 0 0 Q (F0 m 28 ls [])
def dj_X16_nameAt_2 (p : Program) (l : Launch) (e : Env) (s : State) (m : MethodId) (args : Array Value) (below : List Frame) (meth : Method) (c : Code) (Q : State → Prop) (A : Nat → Prop) (dC : Nat → ClassId) (dI : Nat → Nat → Nat) (a : Nat → Nat) (ac : Nat → ClassId) (g : Int32 → Int32 → (St × (St)) → Option (Int32 × (St × (St)))) (r : Int32 × (St × (St))) : Prop := ∀ (x1 : Int32) (x2 : Int32) (s0 : St × (St)) (H : Heap) (locs : List Loc) (ls : Array Slot), g x1 x2 s0 = some r → va_P (dC, dI) vwCl (dw_X16 a ac s0) H → va_D A (dw_X16 a ac s0) → va_S A s.heap H locs → lv_has ls 6 [(0, .ref (a 0)), (1, .int x1), (2, .int x2)] → W p l e (headSpec ow_dm_X16_nameAt ({ frames := 2, cells := 0, slots := 0, locals := 45 })).room s m args below meth c H locs 0 0 Q (F0 m 2 ls [])
def dj_X16_nameAt_0 (p : Program) (l : Launch) (e : Env) (s : State) (m : MethodId) (args : Array Value) (below : List Frame) (meth : Method) (c : Code) (Q : State → Prop) (A : Nat → Prop) (dC : Nat → ClassId) (dI : Nat → Nat → Nat) (a : Nat → Nat) (ac : Nat → ClassId) (g : Int32 → (St × (St)) → Option (Int32 × (St × (St)))) (r : Int32 × (St × (St))) : Prop := ∀ (v0 : Int32) (s0 : St × (St)) (H : Heap) (locs : List Loc) (ls : Array Slot), g v0 s0 = some r → va_P (dC, dI) vwCl (dw_X16 a ac s0) H → va_D A (dw_X16 a ac s0) → va_S A s.heap H locs → lv_has ls 6 [(0, .ref (a 0)), (1, .int v0)] → W p l e (headSpec ow_dm_X16_nameAt ({ frames := 2, cells := 0, slots := 0, locals := 45 })).room s m args below meth c H locs 0 0 Q (F0 m 0 ls [])
set_option maxHeartbeats 40000000 in
set_option maxRecDepth 100000 in
theorem db_X16_nameAt_107 {p : Program} {l : Launch} {e : Env} {s : State} {m : MethodId} {args : Array Value} {below : List Frame} {meth : Method} {c : Code} {Q : State → Prop} {A : Nat → Prop} {dC : Nat → ClassId} {dI : Nat → Nat → Nat} {a : Nat → Nat} {ac : Nat → ClassId} {n : Nat} {r : Int32 × (St × (St))} (C : nd_C p l s m args c A (dC, dI) cX16_nameAt 6 RX16 ow_dm_X16_nameAt (dk_X16 ac)) (K : nd_Ki p l e (headSpec ow_dm_X16_nameAt ({ frames := 2, cells := 0, slots := 0, locals := 45 })).room s m args below meth c Q A (dC, dI) cX16_nameAt .int (St × (St)) (dw_X16 a ac) r) {g28 : Int32 → Int32 → Int32 → Int32 → (St × (St)) → Option (Int32 × (St × (St)))} (J28 : dj_X16_nameAt_28 p l e s m args below meth c Q A dC dI a ac g28 r) : dj_X16_nameAt_107 p l e s m args below meth c Q A dC dI a ac (df_X16_nameAt_107 n g28) r := by
  obtain ⟨hlt, hx, hb, hml, hown, hts, hN, hA, hK⟩ := id C
  intro x1 x2 x4 x5 y0 s0 H locs ls h hP hD hS hl
  unfold df_X16_nameAt_107 at h
  refine lv_istore_n (lv' := [(3, .int y0), (0, .ref (a 0)), (1, .int x1), (2, .int x2), (4, .int x4), (5, .int x5)]) hx hb dX16_nameAt_107 rfl hl (by decide) rfl (fun ls hl => ?_)
  refine lv_aload_n hx hb dX16_nameAt_108 rfl (lv_at hl 1 rfl) ?_
  refine va_get (D := (dC, dI)) (ci := 17) (v := .ref (a 35)) (C := RX16) (T := TX16) (N := 56) hx hb hts hi_dm_X16_nameAt_X16 hown hK hP 0 rfl rfl 46 (by decide) (hts (.fieldLink RX16 115 "TimeMachineModel$Machine" "name" "[I") (List.mem_of_getElem? (i := 9) rfl)) (fun _ h9 => h9) rfl dX16_nameAt_109 ?_
  refine lv_iload hx hb dX16_nameAt_112 (lv_at hl 4 rfl) ?_
  refine lv_iload hx hb dX16_nameAt_114 (lv_at hl 5 rfl) ?_
  obtain ⟨i12, h⟩ := nd_ck_e h
  refine va_iast (i := x4) (x := x5) hx hb hK hP hD hS 35 34 rfl rfl i12 dX16_nameAt_116 (fun H locs hP hD hS => ?_)
  obtain ⟨s13, es13, h⟩ := nd_let_e h
  have hP : va_P (dC, dI) vwCl (dw_X16 a ac s13) H := by rw [es13]; exact hP
  have hD : va_D A (dw_X16 a ac s13) := by rw [es13]; exact hD
  obtain ⟨z14, ez14, h⟩ := nd_let_e h
  refine lv_iinc (v := z14) (lv' := [(2, .int z14), (3, .int y0), (0, .ref (a 0)), (1, .int x1), (4, .int x4), (5, .int x5)]) hx hb dX16_nameAt_117 hl (k := 3) rfl (by rw [ez14]) (by decide) rfl (fun ls hl => ?_)
  obtain ⟨z15, ez15, h⟩ := nd_let_e h
  refine lv_iinc (v := z15) (lv' := [(4, .int z15), (2, .int z14), (3, .int y0), (0, .ref (a 0)), (1, .int x1), (5, .int x5)]) hx hb dX16_nameAt_120 hl (k := 4) rfl (by rw [ez15]) (by decide) rfl (fun ls hl => ?_)
  refine lv_goto (tgt := 28) hx hb dX16_nameAt_123 (by decide) ?_
  exact (J28) (x1) (z14) (y0) (z15) s13 _ _ _ h hP hD hS (lv_sub hl [3, 4, 1, 2, 0] rfl)
set_option maxHeartbeats 40000000 in
set_option maxRecDepth 100000 in
theorem db_X16_nameAt_106 {p : Program} {l : Launch} {e : Env} {s : State} {m : MethodId} {args : Array Value} {below : List Frame} {meth : Method} {c : Code} {Q : State → Prop} {A : Nat → Prop} {dC : Nat → ClassId} {dI : Nat → Nat → Nat} {a : Nat → Nat} {ac : Nat → ClassId} {n : Nat} {r : Int32 × (St × (St))} (C : nd_C p l s m args c A (dC, dI) cX16_nameAt 6 RX16 ow_dm_X16_nameAt (dk_X16 ac)) (K : nd_Ki p l e (headSpec ow_dm_X16_nameAt ({ frames := 2, cells := 0, slots := 0, locals := 45 })).room s m args below meth c Q A (dC, dI) cX16_nameAt .int (St × (St)) (dw_X16 a ac) r) {g28 : Int32 → Int32 → Int32 → Int32 → (St × (St)) → Option (Int32 × (St × (St)))} (J28 : dj_X16_nameAt_28 p l e s m args below meth c Q A dC dI a ac g28 r) : dj_X16_nameAt_106 p l e s m args below meth c Q A dC dI a ac (df_X16_nameAt_106 n g28) r := by
  obtain ⟨hlt, hx, hb, hml, hown, hts, hN, hA, hK⟩ := id C
  intro x1 x2 x4 x5 s0 H locs ls h hP hD hS hl
  unfold df_X16_nameAt_106 at h
  refine lv_iconst (v := 0) hx hb dX16_nameAt_106 (by decide) ?_
  exact (db_X16_nameAt_107 C K J28) (x1) (x2) (x4) (x5) (0) s0 _ _ _ h hP hD hS (lv_sub hl [0, 1, 2, 3, 4] rfl)
set_option maxHeartbeats 40000000 in
set_option maxRecDepth 100000 in
theorem db_X16_nameAt_83 {p : Program} {l : Launch} {e : Env} {s : State} {m : MethodId} {args : Array Value} {below : List Frame} {meth : Method} {c : Code} {Q : State → Prop} {A : Nat → Prop} {dC : Nat → ClassId} {dI : Nat → Nat → Nat} {a : Nat → Nat} {ac : Nat → ClassId} {n : Nat} {r : Int32 × (St × (St))} (C : nd_C p l s m args c A (dC, dI) cX16_nameAt 6 RX16 ow_dm_X16_nameAt (dk_X16 ac)) (K : nd_Ki p l e (headSpec ow_dm_X16_nameAt ({ frames := 2, cells := 0, slots := 0, locals := 45 })).room s m args below meth c Q A (dC, dI) cX16_nameAt .int (St × (St)) (dw_X16 a ac) r) : dj_X16_nameAt_83 p l e s m args below meth c Q A dC dI a ac (df_X16_nameAt_83 n) r := by
  obtain ⟨hlt, hx, hb, hml, hown, hts, hN, hA, hK⟩ := id C
  intro y0 s0 H locs ls h hP hD hS hl
  unfold df_X16_nameAt_83 at h
  exact K _ _ _ _ _ _ dX16_nameAt_83 rfl (Option.some.inj h).symm hP hD hS
set_option maxHeartbeats 40000000 in
set_option maxRecDepth 100000 in
theorem db_X16_nameAt_81 {p : Program} {l : Launch} {e : Env} {s : State} {m : MethodId} {args : Array Value} {below : List Frame} {meth : Method} {c : Code} {Q : State → Prop} {A : Nat → Prop} {dC : Nat → ClassId} {dI : Nat → Nat → Nat} {a : Nat → Nat} {ac : Nat → ClassId} {n : Nat} {r : Int32 × (St × (St))} (C : nd_C p l s m args c A (dC, dI) cX16_nameAt 6 RX16 ow_dm_X16_nameAt (dk_X16 ac)) (K : nd_Ki p l e (headSpec ow_dm_X16_nameAt ({ frames := 2, cells := 0, slots := 0, locals := 45 })).room s m args below meth c Q A (dC, dI) cX16_nameAt .int (St × (St)) (dw_X16 a ac) r) : dj_X16_nameAt_81 p l e s m args below meth c Q A dC dI a ac (df_X16_nameAt_81 n) r := by
  obtain ⟨hlt, hx, hb, hml, hown, hts, hN, hA, hK⟩ := id C
  intro s0 H locs ls h hP hD hS hl
  unfold df_X16_nameAt_81 at h
  refine lv_bipush (v := (-22)) hx hb dX16_nameAt_81 (by decide) ?_
  exact (db_X16_nameAt_83 C K) ((-22)) s0 _ _ _ h hP hD hS (lv_sub hl [] rfl)
set_option maxHeartbeats 40000000 in
set_option maxRecDepth 100000 in
theorem dB_X16_nameAt_28 {p : Program} {l : Launch} {e : Env} {s : State} {m : MethodId} {args : Array Value} {below : List Frame} {meth : Method} {c : Code} {Q : State → Prop} {A : Nat → Prop} {dC : Nat → ClassId} {dI : Nat → Nat → Nat} {a : Nat → Nat} {ac : Nat → ClassId} {n : Nat} {r : Int32 × (St × (St))} (C : nd_C p l s m args c A (dC, dI) cX16_nameAt 6 RX16 ow_dm_X16_nameAt (dk_X16 ac)) (K : nd_Ki p l e (headSpec ow_dm_X16_nameAt ({ frames := 2, cells := 0, slots := 0, locals := 45 })).room s m args below meth c Q A (dC, dI) cX16_nameAt .int (St × (St)) (dw_X16 a ac) r) {g28 : Int32 → Int32 → Int32 → Int32 → (St × (St)) → Option (Int32 × (St × (St)))} (J28 : dj_X16_nameAt_28 p l e s m args below meth c Q A dC dI a ac g28 r) : dj_X16_nameAt_28 p l e s m args below meth c Q A dC dI a ac (dF_X16_nameAt_28 n g28) r := by
  obtain ⟨hlt, hx, hb, hml, hown, hts, hN, hA, hK⟩ := id C
  intro x1 x2 x3 x4 s0 H locs ls h hP hD hS hl
  unfold dF_X16_nameAt_28 at h
  refine lv_iload hx hb dX16_nameAt_28 (lv_at hl 4 rfl) ?_
  refine lv_bipush (v := 16) hx hb dX16_nameAt_30 (by decide) ?_
  refine lv_icmp_ge (tgt := 126) hx hb dX16_nameAt_32 (by decide) (fun c2 => ?_) (fun c2 => ?_)
  · have h := nd_pos h c2
    refine lv_bipush (v := (-22)) hx hb dX16_nameAt_126 (by decide) ?_
    exact K _ _ _ _ _ _ dX16_nameAt_128 rfl (Option.some.inj h).symm hP hD hS
  · have h := nd_neg h c2
    refine lv_aload_n hx hb dX16_nameAt_35 rfl (lv_at hl 0 rfl) ?_
    refine lv_aload_n hx hb dX16_nameAt_36 rfl (lv_at hl 0 rfl) ?_
    refine va_get (D := (dC, dI)) (ci := 17) (v := .int (sI s0.1 12)) (C := RX16) (T := TX16) (N := 56) hx hb hts hi_dm_X16_nameAt_X16 hown hK hP 0 rfl rfl 51 (by decide) (hts (.fieldLink RX16 232 "TimeMachineModel$Machine" "p" "I") (List.mem_of_getElem? (i := 1) rfl)) (fun _ h9 => h9) rfl dX16_nameAt_37 ?_
    refine lv_iload_n hx hb dX16_nameAt_40 rfl (lv_at hl 1 rfl) ?_
    refine lv_iload hx hb dX16_nameAt_41 (lv_at hl 4 rfl) ?_
    refine lv_iadd hx hb dX16_nameAt_43 ?_
    refine lv_iconst (v := 1) hx hb dX16_nameAt_44 (by decide) ?_
    obtain ⟨q3, s4, hq, h⟩ := nd_b2_e h
    have hPc := hP
    have hDc := hD
    have hKc := hK
    have hFc := nd_rs hD hS hA
    refine nd_cVi (As := [.int (sI s0.1 12), .int (x1 + x4), .int 1]) (rest := []) (q := q3) (w' := dw_X16 a ac s4) ⟨hx, hb, hml, hown, hts⟩ (fun sz => dm_X16_may l hlt dC dI a ac n ((sI s0.1 12)) ((x1 + x4)) (1) s0 hq sz) (cwV 3 hts gi_dm_X16_nameAt_0 rfl rfl rfl (by decide +kernel) ⟨Nat.le_of_ble_eq_true rfl, Nat.le_of_ble_eq_true rfl⟩) hPc hDc hKc hS hA hN (va_recv hKc hPc (ci := 17) (q0 := 0) rfl rfl) rfl hl.1 rfl (Nat.le_of_ble_eq_true rfl) dX16_nameAt_45 (fun H locs hP1 hD1 hk1 hS => ?_)
    have hP := hP1
    have hD := hD1.weaken (fun k q _ h => hFc q.1 h)
    refine lv_if_ne (tgt := 54) hx hb dX16_nameAt_48 (by decide) (fun c6 => ?_) (fun c6 => ?_)
    · have h := nd_neg h c6
      refine lv_aload_n hx hb dX16_nameAt_54 rfl (lv_at hl 0 rfl) ?_
      refine lv_iload_n hx hb dX16_nameAt_55 rfl (lv_at hl 1 rfl) ?_
      refine lv_iload hx hb dX16_nameAt_56 (lv_at hl 4 rfl) ?_
      refine lv_iadd hx hb dX16_nameAt_58 ?_
      obtain ⟨q7, s8, hq, h⟩ := nd_b2_e h
      have hPc := hP
      have hDc := hD
      have hKc := hK
      have hFc := nd_rs hD hS hA
      refine nd_cVi (As := [.int (x1 + x4)]) (rest := []) (q := q7) (w' := dw_X16 a ac s8) ⟨hx, hb, hml, hown, hts⟩ (fun sz => dm_X16_byteAt l hlt dC dI a ac n ((x1 + x4)) s4 hq sz) (cwV 1 hts gi_dm_X16_nameAt_1 rfl rfl rfl (by decide +kernel) ⟨Nat.le_of_ble_eq_true rfl, Nat.le_of_ble_eq_true rfl⟩) hPc hDc hKc hS hA hN (va_recv hKc hPc (ci := 17) (q0 := 0) rfl rfl) rfl hl.1 rfl (Nat.le_of_ble_eq_true rfl) dX16_nameAt_59 (fun H locs hP1 hD1 hk1 hS => ?_)
      have hP := hP1
      have hD := hD1.weaken (fun k q _ h => hFc q.1 h)
      refine lv_istore (lv' := [(5, .int q7), (0, .ref (a 0)), (1, .int x1), (2, .int x2), (3, .int x3), (4, .int x4)]) hx hb dX16_nameAt_62 hl (by decide) rfl (fun ls hl => ?_)
      refine lv_iload hx hb dX16_nameAt_64 (lv_at hl 0 rfl) ?_
      refine lv_if_ne (tgt := 84) hx hb dX16_nameAt_66 (by decide) (fun c10 => ?_) (fun c10 => ?_)
      · have h := nd_neg h c10
        refine lv_iload_n hx hb dX16_nameAt_84 rfl (lv_at hl 4 rfl) ?_
        refine lv_if_eq (tgt := 106) hx hb dX16_nameAt_85 (by decide) (fun c11 => ?_) (fun c11 => ?_)
        · have h := nd_pos h c11
          exact (db_X16_nameAt_106 C K J28) (x1) (x2) (x4) (q7) s8 _ _ _ h hP hD hS (lv_sub hl [1, 2, 3, 5, 0] rfl)
        · have h := nd_neg h c11
          refine lv_iload hx hb dX16_nameAt_88 (lv_at hl 0 rfl) ?_
          refine lv_bipush (v := 32) hx hb dX16_nameAt_90 (by decide) ?_
          refine lv_icmp_le (tgt := 106) hx hb dX16_nameAt_92 (by decide) (fun c16 => ?_) (fun c16 => ?_)
          · have h := nd_pos h c16
            exact (db_X16_nameAt_106 C K J28) (x1) (x2) (x4) (q7) s8 _ _ _ h hP hD hS (lv_sub hl [1, 2, 3, 5, 0] rfl)
          · have h := nd_neg h c16
            refine lv_iload hx hb dX16_nameAt_95 (lv_at hl 0 rfl) ?_
            refine lv_bipush (v := 127) hx hb dX16_nameAt_97 (by decide) ?_
            refine lv_icmp_ge (tgt := 106) hx hb dX16_nameAt_99 (by decide) (fun c17 => ?_) (fun c17 => ?_)
            · have h := nd_pos h c17
              exact (db_X16_nameAt_106 C K J28) (x1) (x2) (x4) (q7) s8 _ _ _ h hP hD hS (lv_sub hl [1, 2, 3, 5, 0] rfl)
            · have h := nd_neg h c17
              refine lv_iconst (v := 1) hx hb dX16_nameAt_102 (by decide) ?_
              refine lv_goto (tgt := 107) hx hb dX16_nameAt_103 (by decide) ?_
              exact (db_X16_nameAt_107 C K J28) (x1) (x2) (x4) (q7) (1) s8 _ _ _ h hP hD hS (lv_sub hl [1, 2, 3, 5, 0] rfl)
      · have h := nd_pos h c10
        refine lv_iload_n hx hb dX16_nameAt_69 rfl (lv_at hl 3 rfl) ?_
        refine lv_if_le (tgt := 81) hx hb dX16_nameAt_70 (by decide) (fun c18 => ?_) (fun c18 => ?_)
        · have h := nd_pos h c18
          exact (db_X16_nameAt_81 C K)  s8 _ _ _ h hP hD hS (lv_sub hl [] rfl)
        · have h := nd_neg h c18
          refine lv_iload_n hx hb dX16_nameAt_73 rfl (lv_at hl 4 rfl) ?_
          refine lv_if_eq (tgt := 81) hx hb dX16_nameAt_74 (by decide) (fun c19 => ?_) (fun c19 => ?_)
          · have h := nd_pos h c19
            exact (db_X16_nameAt_81 C K)  s8 _ _ _ h hP hD hS (lv_sub hl [] rfl)
          · have h := nd_neg h c19
            refine lv_iconst (v := 0) hx hb dX16_nameAt_77 (by decide) ?_
            refine lv_goto (tgt := 83) hx hb dX16_nameAt_78 (by decide) ?_
            exact (db_X16_nameAt_83 C K) (0) s8 _ _ _ h hP hD hS (lv_sub hl [] rfl)
    · have h := nd_pos h c6
      refine lv_bipush (v := (-14)) hx hb dX16_nameAt_51 (by decide) ?_
      exact K _ _ _ _ _ _ dX16_nameAt_53 rfl (Option.some.inj h).symm hP hD hS
set_option maxHeartbeats 40000000 in
set_option maxRecDepth 100000 in
theorem db_X16_nameAt_28 {p : Program} {l : Launch} {e : Env} {s : State} {m : MethodId} {args : Array Value} {below : List Frame} {meth : Method} {c : Code} {Q : State → Prop} {A : Nat → Prop} {dC : Nat → ClassId} {dI : Nat → Nat → Nat} {a : Nat → Nat} {ac : Nat → ClassId} {n : Nat} {r : Int32 × (St × (St))} (C : nd_C p l s m args c A (dC, dI) cX16_nameAt 6 RX16 ow_dm_X16_nameAt (dk_X16 ac)) (K : nd_Ki p l e (headSpec ow_dm_X16_nameAt ({ frames := 2, cells := 0, slots := 0, locals := 45 })).room s m args below meth c Q A (dC, dI) cX16_nameAt .int (St × (St)) (dw_X16 a ac) r) (k : Nat) : dj_X16_nameAt_28 p l e s m args below meth c Q A dC dI a ac (df_X16_nameAt_28 n k) r := by
  induction k with
  | zero => intro x1 x2 x3 x4 s0 H locs ls h; exact nomatch (show (none : Option (Int32 × (St × (St)))) = some r from h)
  | succ k ih => exact dB_X16_nameAt_28 C K ih
set_option maxHeartbeats 40000000 in
set_option maxRecDepth 100000 in
theorem dB_X16_nameAt_2 {p : Program} {l : Launch} {e : Env} {s : State} {m : MethodId} {args : Array Value} {below : List Frame} {meth : Method} {c : Code} {Q : State → Prop} {A : Nat → Prop} {dC : Nat → ClassId} {dI : Nat → Nat → Nat} {a : Nat → Nat} {ac : Nat → ClassId} {n : Nat} {r : Int32 × (St × (St))} (C : nd_C p l s m args c A (dC, dI) cX16_nameAt 6 RX16 ow_dm_X16_nameAt (dk_X16 ac)) (K : nd_Ki p l e (headSpec ow_dm_X16_nameAt ({ frames := 2, cells := 0, slots := 0, locals := 45 })).room s m args below meth c Q A (dC, dI) cX16_nameAt .int (St × (St)) (dw_X16 a ac) r) {g2 : Int32 → Int32 → (St × (St)) → Option (Int32 × (St × (St)))} (J2 : dj_X16_nameAt_2 p l e s m args below meth c Q A dC dI a ac g2 r) : dj_X16_nameAt_2 p l e s m args below meth c Q A dC dI a ac (dF_X16_nameAt_2 n g2) r := by
  obtain ⟨hlt, hx, hb, hml, hown, hts, hN, hA, hK⟩ := id C
  intro x1 x2 s0 H locs ls h hP hD hS hl
  unfold dF_X16_nameAt_2 at h
  refine lv_iload_n hx hb dX16_nameAt_2 rfl (lv_at hl 2 rfl) ?_
  refine lv_bipush (v := 16) hx hb dX16_nameAt_3 (by decide) ?_
  refine lv_icmp_ge (tgt := 21) hx hb dX16_nameAt_5 (by decide) (fun c1 => ?_) (fun c1 => ?_)
  · have h := nd_pos h c1
    refine lv_iconst (v := 0) hx hb dX16_nameAt_21 (by decide) ?_
    refine lv_istore_n (lv' := [(2, .int 0), (0, .ref (a 0)), (1, .int x1)]) hx hb dX16_nameAt_22 rfl hl (by decide) rfl (fun ls hl => ?_)
    refine lv_iconst (v := 1) hx hb dX16_nameAt_23 (by decide) ?_
    refine lv_istore_n (lv' := [(3, .int 1), (2, .int 0), (0, .ref (a 0)), (1, .int x1)]) hx hb dX16_nameAt_24 rfl hl (by decide) rfl (fun ls hl => ?_)
    refine lv_iconst (v := 0) hx hb dX16_nameAt_25 (by decide) ?_
    refine lv_istore (lv' := [(4, .int 0), (3, .int 1), (2, .int 0), (0, .ref (a 0)), (1, .int x1)]) hx hb dX16_nameAt_26 hl (by decide) rfl (fun ls hl => ?_)
    exact (db_X16_nameAt_28 C K n) (x1) (0) (1) (0) s0 _ _ _ h hP hD hS (lv_sub hl [3, 4, 2, 1, 0] rfl)
  · have h := nd_neg h c1
    refine lv_aload_n hx hb dX16_nameAt_8 rfl (lv_at hl 0 rfl) ?_
    refine va_get (D := (dC, dI)) (ci := 17) (v := .ref (a 35)) (C := RX16) (T := TX16) (N := 56) hx hb hts hi_dm_X16_nameAt_X16 hown hK hP 0 rfl rfl 46 (by decide) (hts (.fieldLink RX16 115 "TimeMachineModel$Machine" "name" "[I") (List.mem_of_getElem? (i := 9) rfl)) (fun _ h9 => h9) rfl dX16_nameAt_9 ?_
    refine lv_iload_n hx hb dX16_nameAt_12 rfl (lv_at hl 2 rfl) ?_
    refine lv_iconst (v := 0) hx hb dX16_nameAt_13 (by decide) ?_
    obtain ⟨i20, h⟩ := nd_ck_e h
    refine va_iast (i := x2) (x := 0) hx hb hK hP hD hS 35 34 rfl rfl i20 dX16_nameAt_14 (fun H locs hP hD hS => ?_)
    obtain ⟨s21, es21, h⟩ := nd_let_e h
    have hP : va_P (dC, dI) vwCl (dw_X16 a ac s21) H := by rw [es21]; exact hP
    have hD : va_D A (dw_X16 a ac s21) := by rw [es21]; exact hD
    obtain ⟨z22, ez22, h⟩ := nd_let_e h
    refine lv_iinc (v := z22) (lv' := [(2, .int z22), (0, .ref (a 0)), (1, .int x1)]) hx hb dX16_nameAt_15 hl (k := 2) rfl (by rw [ez22]) (by decide) rfl (fun ls hl => ?_)
    refine lv_goto (tgt := 2) hx hb dX16_nameAt_18 (by decide) ?_
    exact (J2) (x1) (z22) s21 _ _ _ h hP hD hS (lv_sub hl [1, 2, 0] rfl)
set_option maxHeartbeats 40000000 in
set_option maxRecDepth 100000 in
theorem db_X16_nameAt_2 {p : Program} {l : Launch} {e : Env} {s : State} {m : MethodId} {args : Array Value} {below : List Frame} {meth : Method} {c : Code} {Q : State → Prop} {A : Nat → Prop} {dC : Nat → ClassId} {dI : Nat → Nat → Nat} {a : Nat → Nat} {ac : Nat → ClassId} {n : Nat} {r : Int32 × (St × (St))} (C : nd_C p l s m args c A (dC, dI) cX16_nameAt 6 RX16 ow_dm_X16_nameAt (dk_X16 ac)) (K : nd_Ki p l e (headSpec ow_dm_X16_nameAt ({ frames := 2, cells := 0, slots := 0, locals := 45 })).room s m args below meth c Q A (dC, dI) cX16_nameAt .int (St × (St)) (dw_X16 a ac) r) (k : Nat) : dj_X16_nameAt_2 p l e s m args below meth c Q A dC dI a ac (df_X16_nameAt_2 n k) r := by
  induction k with
  | zero => intro x1 x2 s0 H locs ls h; exact nomatch (show (none : Option (Int32 × (St × (St)))) = some r from h)
  | succ k ih => exact dB_X16_nameAt_2 C K ih
set_option maxHeartbeats 40000000 in
set_option maxRecDepth 100000 in
theorem db_X16_nameAt_0 {p : Program} {l : Launch} {e : Env} {s : State} {m : MethodId} {args : Array Value} {below : List Frame} {meth : Method} {c : Code} {Q : State → Prop} {A : Nat → Prop} {dC : Nat → ClassId} {dI : Nat → Nat → Nat} {a : Nat → Nat} {ac : Nat → ClassId} {n : Nat} {r : Int32 × (St × (St))} (C : nd_C p l s m args c A (dC, dI) cX16_nameAt 6 RX16 ow_dm_X16_nameAt (dk_X16 ac)) (K : nd_Ki p l e (headSpec ow_dm_X16_nameAt ({ frames := 2, cells := 0, slots := 0, locals := 45 })).room s m args below meth c Q A (dC, dI) cX16_nameAt .int (St × (St)) (dw_X16 a ac) r) : dj_X16_nameAt_0 p l e s m args below meth c Q A dC dI a ac (df_X16_nameAt_0 n) r := by
  obtain ⟨hlt, hx, hb, hml, hown, hts, hN, hA, hK⟩ := id C
  intro v0 s0 H locs ls h hP hD hS hl
  unfold df_X16_nameAt_0 at h
  refine lv_iconst (v := 0) hx hb dX16_nameAt_0 (by decide) ?_
  refine lv_istore_n (lv' := [(2, .int 0), (0, .ref (a 0)), (1, .int v0)]) hx hb dX16_nameAt_1 rfl hl (by decide) rfl (fun ls hl => ?_)
  exact (db_X16_nameAt_2 C K n) (v0) (0) s0 _ _ _ h hP hD hS (lv_sub hl [1, 2, 0] rfl)
set_option maxHeartbeats 40000000 in
set_option maxRecDepth 100000 in
theorem dm_X16_nameAt (l : Launch) (hlt : l.stackTraces = false) (dC : Nat → ClassId) (dI : Nat → Nat → Nat) (a : Nat → Nat) (ac : Nat → ClassId) (n : Nat) (v0 : Int32) (s0 : St × (St)) {r : Int32 × (St × (St))} (h : df_X16_nameAt n v0 s0 = some r) (sz : Nat) : Met l yX16_nameAt ow_dm_X16_nameAt ({ frames := 2, cells := 0, slots := 0, locals := 45 }) (va_Pc [.ref (a 0), .int v0] (fun U => U.heap.size = sz ∧ va_P (dC, dI) vwCl (dw_X16 a ac s0) U.heap ∧ va_K (dC, dI) vwCl (dk_X16 ac) U ∧ va_D (fun _ => True) (dw_X16 a ac s0) ∧ nv_E dI (va_A (dw_X16 a ac s0) sz) U)) (va_Qi (fun x _ => x = r.1) (fun (_ : Unit) t => va_P (dC, dI) vwCl (dw_X16 a ac r.2) t.heap ∧ va_K (dC, dI) vwCl (dk_X16 ac) t ∧ va_D (va_A (dw_X16 a ac s0) sz) (dw_X16 a ac r.2)) (va_A (dw_X16 a ac s0) sz)) 0 0 (va_A (dw_X16 a ac s0) sz) := by
  refine Met.ofW (cc := cX16_nameAt) (maxL := 6) (ret := (some .int)) (by decide) rfl ?_
  intro p e s m args below meth c s₁ B hml hv
  obtain ⟨rfl, hsz, hP, hK, hD0, hN⟩ := hv
  have hx := B.exec
  have hb := B.bytes
  have hr := B.returns
  have hts := atoms_spec (ws := ow_dm_X16_nameAt) B.pre
  have hown : s.vm.findClass RX16 = some m.cls := findClass_of_methodNamed B.named
  have hlocks := B.notSynchronized
  subst hsz
  have hD := hD0.self (sz := s.heap.size)
  generalize hAe : va_A (dw_X16 a ac s0) s.heap.size = A at hD hN ⊢
  have hA : ∀ q : Nat, s.heap.size ≤ q → A q := fun q h => by rw [← hAe]; exact Or.inr h
  have hl := lv_entry ([.ref (a 0), .int v0]) (n := 6) (Nat.le_of_ble_eq_true rfl)
  rw [lg_entry_eq]
  generalize (lg_sl ([.ref (a 0), .int v0]) ++ List.replicate (6 - (lg_sl ([.ref (a 0), .int v0])).length) Slot.unset).toArray = ls at hl ⊢
  have hl : lv_has ls 6 [(0, .ref (a 0)), (1, .int v0)] := hl
  exact db_X16_nameAt_0 (dC := dC) (dI := dI) (a := a) (ac := ac) (n := n) (r := r) ⟨hlt, hx, hb, hml, hown, hts, hN, hA, hK⟩ (fun pc v τ H locs ls d z er hP hD hS => by subst er; exact W.zret (v := v) hx hb hr z (fun t ht hW => ⟨⟨v, (), rfl, rfl, by rw [ht]; exact hP, va_K.moved hW.alike hK, hD⟩, hS.F ht⟩) hS.2.2 d) v0 s0 _ _ _ h hP hD va_S.rf (lv_sub hl [0, 1] rfl)
def ow_dm_X16_named : List Cond := Cond.code yX16_named cX16_named 4 (some .int) :: ([Cond.fieldLink RX16 88 "TimeMachineModel$Machine" "isFile" "[Z", Cond.fieldLink RX16 106 "TimeMachineModel$Machine" "names" "[I", Cond.fieldLink RX16 115 "TimeMachineModel$Machine" "name" "[I", Cond.fieldLink RX16 91 "TimeMachineModel$Machine" "isNamed" "[Z"] ++ (u_ws RX16 TX16 56 ++ []))
theorem gd_dm_X16_named : ∀ w ∈ ow_dm_X16_named, (w.onTables && w.keeps) = true ∨ ∃ ty, w = Cond.arrayClass ty := List.forall_mem_cons.mpr ⟨good_of_word rfl, List.forall_mem_append.mpr ⟨fun w h => good_of_word (List.all_eq_true.mp (by decide +kernel) w h), List.forall_mem_append.mpr ⟨gu_X16, fun _ h => nomatch h⟩⟩⟩
theorem hi_dm_X16_named_X16 : ∀ w ∈ u_ws RX16 TX16 56, w ∈ ow_dm_X16_named := fun w h => List.mem_cons_of_mem _ (List.mem_append_right _ (List.mem_append_left _ h))
def dj_X16_named_76 (p : Program) (l : Launch) (e : Env) (s : State) (m : MethodId) (args : Array Value) (below : List Frame) (meth : Method) (c : Code) (Q : State → Prop) (A : Nat → Prop) (dC : Nat → ClassId) (dI : Nat → Nat → Nat) (a : Nat → Nat) (ac : Nat → ClassId) (g : Int32 → Int32 → (St × (St)) → Option (Int32 × (St × (St)))) (r : Int32 × (St × (St))) : Prop := ∀ (x1 : Int32) (x2 : Int32) (s0 : St × (St)) (H : Heap) (locs : List Loc) (ls : Array Slot), g x1 x2 s0 = some r → va_P (dC, dI) vwCl (dw_X16 a ac s0) H → va_D A (dw_X16 a ac s0) → va_S A s.heap H locs → lv_has ls 4 [(0, .ref (a 0)), (1, .int x1), (2, .int x2)] → W p l e (headSpec ow_dm_X16_named ({ frames := 0, cells := 0, slots := 0, locals := 0 })).room s m args below meth c H locs 0 0 Q (F0 m 76 ls [])
def dj_X16_named_69 (p : Program) (l : Launch) (e : Env) (s : State) (m : MethodId) (args : Array Value) (below : List Frame) (meth : Method) (c : Code) (Q : State → Prop) (A : Nat → Prop) (dC : Nat → ClassId) (dI : Nat → Nat → Nat) (a : Nat → Nat) (ac : Nat → ClassId) (g : Int32 → Int32 → Int32 → (St × (St)) → Option (Int32 × (St × (St)))) (r : Int32 × (St × (St))) : Prop := ∀ (x1 : Int32) (x3 : Int32) (y0 : Int32) (s0 : St × (St)) (H : Heap) (locs : List Loc) (ls : Array Slot), g x1 x3 y0 s0 = some r → va_P (dC, dI) vwCl (dw_X16 a ac s0) H → va_D A (dw_X16 a ac s0) → va_S A s.heap H locs → lv_has ls 4 [(0, .ref (a 0)), (1, .int x1), (3, .int x3)] → W p l e (headSpec ow_dm_X16_named ({ frames := 0, cells := 0, slots := 0, locals := 0 })).room s m args below meth c H locs 0 0 Q (F0 m 69 ls [.int y0])
def dj_X16_named_34 (p : Program) (l : Launch) (e : Env) (s : State) (m : MethodId) (args : Array Value) (below : List Frame) (meth : Method) (c : Code) (Q : State → Prop) (A : Nat → Prop) (dC : Nat → ClassId) (dI : Nat → Nat → Nat) (a : Nat → Nat) (ac : Nat → ClassId) (g : Int32 → Int32 → Int32 → (St × (St)) → Option (Int32 × (St × (St)))) (r : Int32 × (St × (St))) : Prop := ∀ (x1 : Int32) (x2 : Int32) (x3 : Int32) (s0 : St × (St)) (H : Heap) (locs : List Loc) (ls : Array Slot), g x1 x2 x3 s0 = some r → va_P (dC, dI) vwCl (dw_X16 a ac s0) H → va_D A (dw_X16 a ac s0) → va_S A s.heap H locs → lv_has ls 4 [(0, .ref (a 0)), (1, .int x1), (2, .int x2), (3, .int x3)] → W p l e (headSpec ow_dm_X16_named ({ frames := 0, cells := 0, slots := 0, locals := 0 })).room s m args below meth c H locs 0 0 Q (F0 m 34 ls [])
def dj_X16_named_31 (p : Program) (l : Launch) (e : Env) (s : State) (m : MethodId) (args : Array Value) (below : List Frame) (meth : Method) (c : Code) (Q : State → Prop) (A : Nat → Prop) (dC : Nat → ClassId) (dI : Nat → Nat → Nat) (a : Nat → Nat) (ac : Nat → ClassId) (g : Int32 → Int32 → (St × (St)) → Option (Int32 × (St × (St)))) (r : Int32 × (St × (St))) : Prop := ∀ (x1 : Int32) (y0 : Int32) (s0 : St × (St)) (H : Heap) (locs : List Loc) (ls : Array Slot), g x1 y0 s0 = some r → va_P (dC, dI) vwCl (dw_X16 a ac s0) H → va_D A (dw_X16 a ac s0) → va_S A s.heap H locs → lv_has ls 4 [(0, .ref (a 0)), (1, .int x1)] → W p l e (headSpec ow_dm_X16_named ({ frames := 0, cells := 0, slots := 0, locals := 0 })).room s m args below meth c H locs 0 0 Q (F0 m 31 ls [.int y0])
def dj_X16_named_30 (p : Program) (l : Launch) (e : Env) (s : State) (m : MethodId) (args : Array Value) (below : List Frame) (meth : Method) (c : Code) (Q : State → Prop) (A : Nat → Prop) (dC : Nat → ClassId) (dI : Nat → Nat → Nat) (a : Nat → Nat) (ac : Nat → ClassId) (g : Int32 → (St × (St)) → Option (Int32 × (St × (St)))) (r : Int32 × (St × (St))) : Prop := ∀ (x1 : Int32) (s0 : St × (St)) (H : Heap) (locs : List Loc) (ls : Array Slot), g x1 s0 = some r → va_P (dC, dI) vwCl (dw_X16 a ac s0) H → va_D A (dw_X16 a ac s0) → va_S A s.heap H locs → lv_has ls 4 [(0, .ref (a 0)), (1, .int x1)] → W p l e (headSpec ow_dm_X16_named ({ frames := 0, cells := 0, slots := 0, locals := 0 })).room s m args below meth c H locs 0 0 Q (F0 m 30 ls [])
def dj_X16_named_2 (p : Program) (l : Launch) (e : Env) (s : State) (m : MethodId) (args : Array Value) (below : List Frame) (meth : Method) (c : Code) (Q : State → Prop) (A : Nat → Prop) (dC : Nat → ClassId) (dI : Nat → Nat → Nat) (a : Nat → Nat) (ac : Nat → ClassId) (g : Int32 → (St × (St)) → Option (Int32 × (St × (St)))) (r : Int32 × (St × (St))) : Prop := ∀ (x1 : Int32) (s0 : St × (St)) (H : Heap) (locs : List Loc) (ls : Array Slot), g x1 s0 = some r → va_P (dC, dI) vwCl (dw_X16 a ac s0) H → va_D A (dw_X16 a ac s0) → va_S A s.heap H locs → lv_has ls 4 [(0, .ref (a 0)), (1, .int x1)] → W p l e (headSpec ow_dm_X16_named ({ frames := 0, cells := 0, slots := 0, locals := 0 })).room s m args below meth c H locs 0 0 Q (F0 m 2 ls [])
def dj_X16_named_0 (p : Program) (l : Launch) (e : Env) (s : State) (m : MethodId) (args : Array Value) (below : List Frame) (meth : Method) (c : Code) (Q : State → Prop) (A : Nat → Prop) (dC : Nat → ClassId) (dI : Nat → Nat → Nat) (a : Nat → Nat) (ac : Nat → ClassId) (g : (St × (St)) → Option (Int32 × (St × (St)))) (r : Int32 × (St × (St))) : Prop := ∀ (s0 : St × (St)) (H : Heap) (locs : List Loc) (ls : Array Slot), g s0 = some r → va_P (dC, dI) vwCl (dw_X16 a ac s0) H → va_D A (dw_X16 a ac s0) → va_S A s.heap H locs → lv_has ls 4 [(0, .ref (a 0))] → W p l e (headSpec ow_dm_X16_named ({ frames := 0, cells := 0, slots := 0, locals := 0 })).room s m args below meth c H locs 0 0 Q (F0 m 0 ls [])
set_option maxHeartbeats 40000000 in
set_option maxRecDepth 100000 in
theorem db_X16_named_76 {p : Program} {l : Launch} {e : Env} {s : State} {m : MethodId} {args : Array Value} {below : List Frame} {meth : Method} {c : Code} {Q : State → Prop} {A : Nat → Prop} {dC : Nat → ClassId} {dI : Nat → Nat → Nat} {a : Nat → Nat} {ac : Nat → ClassId} {n : Nat} {r : Int32 × (St × (St))} (C : nd_C p l s m args c A (dC, dI) cX16_named 4 RX16 ow_dm_X16_named (dk_X16 ac)) (K : nd_Ki p l e (headSpec ow_dm_X16_named ({ frames := 0, cells := 0, slots := 0, locals := 0 })).room s m args below meth c Q A (dC, dI) cX16_named .int (St × (St)) (dw_X16 a ac) r) {g2 : Int32 → (St × (St)) → Option (Int32 × (St × (St)))} (J2 : dj_X16_named_2 p l e s m args below meth c Q A dC dI a ac g2 r) : dj_X16_named_76 p l e s m args below meth c Q A dC dI a ac (df_X16_named_76 n g2) r := by
  obtain ⟨hlt, hx, hb, hml, hown, hts, hN, hA, hK⟩ := id C
  intro x1 x2 s0 H locs ls h hP hD hS hl
  unfold df_X16_named_76 at h
  refine lv_iload_n hx hb dX16_named_76 rfl (lv_at hl 2 rfl) ?_
  refine lv_if_eq (tgt := 82) hx hb dX16_named_77 (by decide) (fun c5 => ?_) (fun c5 => ?_)
  · have h := nd_pos h c5
    obtain ⟨z6, ez6, h⟩ := nd_let_e h
    refine lv_iinc (v := z6) (lv' := [(1, .int z6), (0, .ref (a 0)), (2, .int x2)]) hx hb dX16_named_82 hl (k := 1) rfl (by rw [ez6]) (by decide) rfl (fun ls hl => ?_)
    refine lv_goto (tgt := 2) hx hb dX16_named_85 (by decide) ?_
    exact (J2) (z6) s0 _ _ _ h hP hD hS (lv_sub hl [1, 0] rfl)
  · have h := nd_neg h c5
    refine lv_iload_n hx hb dX16_named_80 rfl (lv_at hl 1 rfl) ?_
    exact K _ _ _ _ _ _ dX16_named_81 rfl (Option.some.inj h).symm hP hD hS
set_option maxHeartbeats 40000000 in
set_option maxRecDepth 100000 in
theorem db_X16_named_69 {p : Program} {l : Launch} {e : Env} {s : State} {m : MethodId} {args : Array Value} {below : List Frame} {meth : Method} {c : Code} {Q : State → Prop} {A : Nat → Prop} {dC : Nat → ClassId} {dI : Nat → Nat → Nat} {a : Nat → Nat} {ac : Nat → ClassId} {n : Nat} {r : Int32 × (St × (St))} (C : nd_C p l s m args c A (dC, dI) cX16_named 4 RX16 ow_dm_X16_named (dk_X16 ac)) (K : nd_Ki p l e (headSpec ow_dm_X16_named ({ frames := 0, cells := 0, slots := 0, locals := 0 })).room s m args below meth c Q A (dC, dI) cX16_named .int (St × (St)) (dw_X16 a ac) r) {g2 : Int32 → (St × (St)) → Option (Int32 × (St × (St)))} {g34 : Int32 → Int32 → Int32 → (St × (St)) → Option (Int32 × (St × (St)))} (J2 : dj_X16_named_2 p l e s m args below meth c Q A dC dI a ac g2 r) (J34 : dj_X16_named_34 p l e s m args below meth c Q A dC dI a ac g34 r) : dj_X16_named_69 p l e s m args below meth c Q A dC dI a ac (df_X16_named_69 n g2 g34) r := by
  obtain ⟨hlt, hx, hb, hml, hown, hts, hN, hA, hK⟩ := id C
  intro x1 x3 y0 s0 H locs ls h hP hD hS hl
  unfold df_X16_named_69 at h
  refine lv_istore_n (lv' := [(2, .int y0), (0, .ref (a 0)), (1, .int x1), (3, .int x3)]) hx hb dX16_named_69 rfl hl (by decide) rfl (fun ls hl => ?_)
  obtain ⟨z11, ez11, h⟩ := nd_let_e h
  refine lv_iinc (v := z11) (lv' := [(3, .int z11), (2, .int y0), (0, .ref (a 0)), (1, .int x1)]) hx hb dX16_named_70 hl (k := 3) rfl (by rw [ez11]) (by decide) rfl (fun ls hl => ?_)
  refine lv_goto (tgt := 34) hx hb dX16_named_73 (by decide) ?_
  exact (J34) (x1) (y0) (z11) s0 _ _ _ h hP hD hS (lv_sub hl [2, 3, 1, 0] rfl)
set_option maxHeartbeats 40000000 in
set_option maxRecDepth 100000 in
theorem dB_X16_named_34 {p : Program} {l : Launch} {e : Env} {s : State} {m : MethodId} {args : Array Value} {below : List Frame} {meth : Method} {c : Code} {Q : State → Prop} {A : Nat → Prop} {dC : Nat → ClassId} {dI : Nat → Nat → Nat} {a : Nat → Nat} {ac : Nat → ClassId} {n : Nat} {r : Int32 × (St × (St))} (C : nd_C p l s m args c A (dC, dI) cX16_named 4 RX16 ow_dm_X16_named (dk_X16 ac)) (K : nd_Ki p l e (headSpec ow_dm_X16_named ({ frames := 0, cells := 0, slots := 0, locals := 0 })).room s m args below meth c Q A (dC, dI) cX16_named .int (St × (St)) (dw_X16 a ac) r) {g2 : Int32 → (St × (St)) → Option (Int32 × (St × (St)))} (J2 : dj_X16_named_2 p l e s m args below meth c Q A dC dI a ac g2 r) {g34 : Int32 → Int32 → Int32 → (St × (St)) → Option (Int32 × (St × (St)))} (J34 : dj_X16_named_34 p l e s m args below meth c Q A dC dI a ac g34 r) : dj_X16_named_34 p l e s m args below meth c Q A dC dI a ac (dF_X16_named_34 n g2 g34) r := by
  obtain ⟨hlt, hx, hb, hml, hown, hts, hN, hA, hK⟩ := id C
  intro x1 x2 x3 s0 H locs ls h hP hD hS hl
  unfold dF_X16_named_34 at h
  refine lv_iload_n hx hb dX16_named_34 rfl (lv_at hl 3 rfl) ?_
  refine lv_bipush (v := 16) hx hb dX16_named_35 (by decide) ?_
  refine lv_icmp_ge (tgt := 76) hx hb dX16_named_37 (by decide) (fun c4 => ?_) (fun c4 => ?_)
  · have h := nd_pos h c4
    exact (db_X16_named_76 C K J2) (x1) (x2) s0 _ _ _ h hP hD hS (lv_sub hl [0, 1, 2] rfl)
  · have h := nd_neg h c4
    refine lv_iload_n hx hb dX16_named_40 rfl (lv_at hl 2 rfl) ?_
    refine lv_if_eq (tgt := 76) hx hb dX16_named_41 (by decide) (fun c7 => ?_) (fun c7 => ?_)
    · have h := nd_pos h c7
      exact (db_X16_named_76 C K J2) (x1) (x2) s0 _ _ _ h hP hD hS (lv_sub hl [0, 1, 2] rfl)
    · have h := nd_neg h c7
      refine lv_aload_n hx hb dX16_named_44 rfl (lv_at hl 0 rfl) ?_
      refine va_get (D := (dC, dI)) (ci := 17) (v := .ref (a 32)) (C := RX16) (T := TX16) (N := 56) hx hb hts hi_dm_X16_named_X16 hown hK hP 0 rfl rfl 41 (by decide) (hts (.fieldLink RX16 106 "TimeMachineModel$Machine" "names" "[I") (List.mem_of_getElem? (i := 2) rfl)) (fun _ h9 => h9) rfl dX16_named_45 ?_
      refine lv_bipush (v := 16) hx hb dX16_named_48 (by decide) ?_
      refine lv_iload_n hx hb dX16_named_50 rfl (lv_at hl 1 rfl) ?_
      refine lv_imul hx hb dX16_named_51 ?_
      refine lv_iload_n hx hb dX16_named_52 rfl (lv_at hl 3 rfl) ?_
      refine lv_iadd hx hb dX16_named_53 ?_
      obtain ⟨i8, h⟩ := nd_ck_e h
      refine va_iald (i := ((16 * x1) + x3)) hx hb hK hP 32 31 rfl rfl i8 dX16_named_54 ?_
      refine lv_aload_n hx hb dX16_named_55 rfl (lv_at hl 0 rfl) ?_
      refine va_get (D := (dC, dI)) (ci := 17) (v := .ref (a 35)) (C := RX16) (T := TX16) (N := 56) hx hb hts hi_dm_X16_named_X16 hown hK hP 0 rfl rfl 46 (by decide) (hts (.fieldLink RX16 115 "TimeMachineModel$Machine" "name" "[I") (List.mem_of_getElem? (i := 3) rfl)) (fun _ h9 => h9) rfl dX16_named_56 ?_
      refine lv_iload_n hx hb dX16_named_59 rfl (lv_at hl 3 rfl) ?_
      obtain ⟨i9, h⟩ := nd_ck_e h
      refine va_iald (i := x3) hx hb hK hP 35 34 rfl rfl i9 dX16_named_60 ?_
      refine lv_icmp_ne (tgt := 68) hx hb dX16_named_61 (by decide) (fun c10 => ?_) (fun c10 => ?_)
      · have h := nd_neg h c10
        refine lv_iconst (v := 0) hx hb dX16_named_68 (by decide) ?_
        exact (db_X16_named_69 C K J2 J34) (x1) (x3) (0) s0 _ _ _ h hP hD hS (lv_sub hl [0, 1, 3] rfl)
      · have h := nd_pos h c10
        refine lv_iconst (v := 1) hx hb dX16_named_64 (by decide) ?_
        refine lv_goto (tgt := 69) hx hb dX16_named_65 (by decide) ?_
        exact (db_X16_named_69 C K J2 J34) (x1) (x3) (1) s0 _ _ _ h hP hD hS (lv_sub hl [0, 1, 3] rfl)
set_option maxHeartbeats 40000000 in
set_option maxRecDepth 100000 in
theorem db_X16_named_34 {p : Program} {l : Launch} {e : Env} {s : State} {m : MethodId} {args : Array Value} {below : List Frame} {meth : Method} {c : Code} {Q : State → Prop} {A : Nat → Prop} {dC : Nat → ClassId} {dI : Nat → Nat → Nat} {a : Nat → Nat} {ac : Nat → ClassId} {n : Nat} {r : Int32 × (St × (St))} (C : nd_C p l s m args c A (dC, dI) cX16_named 4 RX16 ow_dm_X16_named (dk_X16 ac)) (K : nd_Ki p l e (headSpec ow_dm_X16_named ({ frames := 0, cells := 0, slots := 0, locals := 0 })).room s m args below meth c Q A (dC, dI) cX16_named .int (St × (St)) (dw_X16 a ac) r) {g2 : Int32 → (St × (St)) → Option (Int32 × (St × (St)))} (J2 : dj_X16_named_2 p l e s m args below meth c Q A dC dI a ac g2 r) (k : Nat) : dj_X16_named_34 p l e s m args below meth c Q A dC dI a ac (df_X16_named_34 n g2 k) r := by
  induction k with
  | zero => intro x1 x2 x3 s0 H locs ls h; exact nomatch (show (none : Option (Int32 × (St × (St)))) = some r from h)
  | succ k ih => exact dB_X16_named_34 C K J2 ih
set_option maxHeartbeats 40000000 in
set_option maxRecDepth 100000 in
theorem db_X16_named_31 {p : Program} {l : Launch} {e : Env} {s : State} {m : MethodId} {args : Array Value} {below : List Frame} {meth : Method} {c : Code} {Q : State → Prop} {A : Nat → Prop} {dC : Nat → ClassId} {dI : Nat → Nat → Nat} {a : Nat → Nat} {ac : Nat → ClassId} {n : Nat} {r : Int32 × (St × (St))} (C : nd_C p l s m args c A (dC, dI) cX16_named 4 RX16 ow_dm_X16_named (dk_X16 ac)) (K : nd_Ki p l e (headSpec ow_dm_X16_named ({ frames := 0, cells := 0, slots := 0, locals := 0 })).room s m args below meth c Q A (dC, dI) cX16_named .int (St × (St)) (dw_X16 a ac) r) {g2 : Int32 → (St × (St)) → Option (Int32 × (St × (St)))} (J2 : dj_X16_named_2 p l e s m args below meth c Q A dC dI a ac g2 r) : dj_X16_named_31 p l e s m args below meth c Q A dC dI a ac (df_X16_named_31 n g2) r := by
  obtain ⟨hlt, hx, hb, hml, hown, hts, hN, hA, hK⟩ := id C
  intro x1 y0 s0 H locs ls h hP hD hS hl
  unfold df_X16_named_31 at h
  refine lv_istore_n (lv' := [(2, .int y0), (0, .ref (a 0)), (1, .int x1)]) hx hb dX16_named_31 rfl hl (by decide) rfl (fun ls hl => ?_)
  refine lv_iconst (v := 0) hx hb dX16_named_32 (by decide) ?_
  refine lv_istore_n (lv' := [(3, .int 0), (2, .int y0), (0, .ref (a 0)), (1, .int x1)]) hx hb dX16_named_33 rfl hl (by decide) rfl (fun ls hl => ?_)
  exact (db_X16_named_34 C K J2 n) (x1) (y0) (0) s0 _ _ _ h hP hD hS (lv_sub hl [2, 3, 1, 0] rfl)
set_option maxHeartbeats 40000000 in
set_option maxRecDepth 100000 in
theorem db_X16_named_30 {p : Program} {l : Launch} {e : Env} {s : State} {m : MethodId} {args : Array Value} {below : List Frame} {meth : Method} {c : Code} {Q : State → Prop} {A : Nat → Prop} {dC : Nat → ClassId} {dI : Nat → Nat → Nat} {a : Nat → Nat} {ac : Nat → ClassId} {n : Nat} {r : Int32 × (St × (St))} (C : nd_C p l s m args c A (dC, dI) cX16_named 4 RX16 ow_dm_X16_named (dk_X16 ac)) (K : nd_Ki p l e (headSpec ow_dm_X16_named ({ frames := 0, cells := 0, slots := 0, locals := 0 })).room s m args below meth c Q A (dC, dI) cX16_named .int (St × (St)) (dw_X16 a ac) r) {g2 : Int32 → (St × (St)) → Option (Int32 × (St × (St)))} (J2 : dj_X16_named_2 p l e s m args below meth c Q A dC dI a ac g2 r) : dj_X16_named_30 p l e s m args below meth c Q A dC dI a ac (df_X16_named_30 n g2) r := by
  obtain ⟨hlt, hx, hb, hml, hown, hts, hN, hA, hK⟩ := id C
  intro x1 s0 H locs ls h hP hD hS hl
  unfold df_X16_named_30 at h
  refine lv_iconst (v := 0) hx hb dX16_named_30 (by decide) ?_
  exact (db_X16_named_31 C K J2) (x1) (0) s0 _ _ _ h hP hD hS (lv_sub hl [0, 1] rfl)
set_option maxHeartbeats 40000000 in
set_option maxRecDepth 100000 in
theorem dB_X16_named_2 {p : Program} {l : Launch} {e : Env} {s : State} {m : MethodId} {args : Array Value} {below : List Frame} {meth : Method} {c : Code} {Q : State → Prop} {A : Nat → Prop} {dC : Nat → ClassId} {dI : Nat → Nat → Nat} {a : Nat → Nat} {ac : Nat → ClassId} {n : Nat} {r : Int32 × (St × (St))} (C : nd_C p l s m args c A (dC, dI) cX16_named 4 RX16 ow_dm_X16_named (dk_X16 ac)) (K : nd_Ki p l e (headSpec ow_dm_X16_named ({ frames := 0, cells := 0, slots := 0, locals := 0 })).room s m args below meth c Q A (dC, dI) cX16_named .int (St × (St)) (dw_X16 a ac) r) {g2 : Int32 → (St × (St)) → Option (Int32 × (St × (St)))} (J2 : dj_X16_named_2 p l e s m args below meth c Q A dC dI a ac g2 r) : dj_X16_named_2 p l e s m args below meth c Q A dC dI a ac (dF_X16_named_2 n g2) r := by
  obtain ⟨hlt, hx, hb, hml, hown, hts, hN, hA, hK⟩ := id C
  intro x1 s0 H locs ls h hP hD hS hl
  unfold dF_X16_named_2 at h
  refine lv_iload_n hx hb dX16_named_2 rfl (lv_at hl 1 rfl) ?_
  refine lv_bipush (v := 16) hx hb dX16_named_3 (by decide) ?_
  refine lv_icmp_ge (tgt := 88) hx hb dX16_named_5 (by decide) (fun c1 => ?_) (fun c1 => ?_)
  · have h := nd_pos h c1
    refine lv_iconst (v := (-1)) hx hb dX16_named_88 (by decide) ?_
    exact K _ _ _ _ _ _ dX16_named_89 rfl (Option.some.inj h).symm hP hD hS
  · have h := nd_neg h c1
    refine lv_aload_n hx hb dX16_named_8 rfl (lv_at hl 0 rfl) ?_
    refine va_get (D := (dC, dI)) (ci := 17) (v := .ref (a 26)) (C := RX16) (T := TX16) (N := 56) hx hb hts hi_dm_X16_named_X16 hown hK hP 0 rfl rfl 35 (by decide) (hts (.fieldLink RX16 88 "TimeMachineModel$Machine" "isFile" "[Z") (List.mem_of_getElem? (i := 1) rfl)) (fun _ h9 => h9) rfl dX16_named_9 ?_
    refine lv_iload_n hx hb dX16_named_12 rfl (lv_at hl 1 rfl) ?_
    obtain ⟨i2, h⟩ := nd_ck_e h
    refine va_zald (i := x1) hx hb hK hP 26 25 rfl rfl i2 dX16_named_13 ?_
    refine lv_if_eq (tgt := 30) hx hb dX16_named_14 (by decide) (fun c3 => ?_) (fun c3 => ?_)
    · have h := nd_pos h c3
      exact (db_X16_named_30 C K J2) (x1) s0 _ _ _ h hP hD hS (lv_sub hl [0, 1] rfl)
    · have h := nd_neg h c3
      refine lv_aload_n hx hb dX16_named_17 rfl (lv_at hl 0 rfl) ?_
      refine va_get (D := (dC, dI)) (ci := 17) (v := .ref (a 27)) (C := RX16) (T := TX16) (N := 56) hx hb hts hi_dm_X16_named_X16 hown hK hP 0 rfl rfl 36 (by decide) (hts (.fieldLink RX16 91 "TimeMachineModel$Machine" "isNamed" "[Z") (List.mem_of_getElem? (i := 4) rfl)) (fun _ h9 => h9) rfl dX16_named_18 ?_
      refine lv_iload_n hx hb dX16_named_21 rfl (lv_at hl 1 rfl) ?_
      obtain ⟨i12, h⟩ := nd_ck_e h
      refine va_zald (i := x1) hx hb hK hP 27 26 rfl rfl i12 dX16_named_22 ?_
      refine lv_if_eq (tgt := 30) hx hb dX16_named_23 (by decide) (fun c13 => ?_) (fun c13 => ?_)
      · have h := nd_pos h c13
        exact (db_X16_named_30 C K J2) (x1) s0 _ _ _ h hP hD hS (lv_sub hl [0, 1] rfl)
      · have h := nd_neg h c13
        refine lv_iconst (v := 1) hx hb dX16_named_26 (by decide) ?_
        refine lv_goto (tgt := 31) hx hb dX16_named_27 (by decide) ?_
        exact (db_X16_named_31 C K J2) (x1) (1) s0 _ _ _ h hP hD hS (lv_sub hl [0, 1] rfl)
set_option maxHeartbeats 40000000 in
set_option maxRecDepth 100000 in
theorem db_X16_named_2 {p : Program} {l : Launch} {e : Env} {s : State} {m : MethodId} {args : Array Value} {below : List Frame} {meth : Method} {c : Code} {Q : State → Prop} {A : Nat → Prop} {dC : Nat → ClassId} {dI : Nat → Nat → Nat} {a : Nat → Nat} {ac : Nat → ClassId} {n : Nat} {r : Int32 × (St × (St))} (C : nd_C p l s m args c A (dC, dI) cX16_named 4 RX16 ow_dm_X16_named (dk_X16 ac)) (K : nd_Ki p l e (headSpec ow_dm_X16_named ({ frames := 0, cells := 0, slots := 0, locals := 0 })).room s m args below meth c Q A (dC, dI) cX16_named .int (St × (St)) (dw_X16 a ac) r) (k : Nat) : dj_X16_named_2 p l e s m args below meth c Q A dC dI a ac (df_X16_named_2 n k) r := by
  induction k with
  | zero => intro x1 s0 H locs ls h; exact nomatch (show (none : Option (Int32 × (St × (St)))) = some r from h)
  | succ k ih => exact dB_X16_named_2 C K ih
set_option maxHeartbeats 40000000 in
set_option maxRecDepth 100000 in
theorem db_X16_named_0 {p : Program} {l : Launch} {e : Env} {s : State} {m : MethodId} {args : Array Value} {below : List Frame} {meth : Method} {c : Code} {Q : State → Prop} {A : Nat → Prop} {dC : Nat → ClassId} {dI : Nat → Nat → Nat} {a : Nat → Nat} {ac : Nat → ClassId} {n : Nat} {r : Int32 × (St × (St))} (C : nd_C p l s m args c A (dC, dI) cX16_named 4 RX16 ow_dm_X16_named (dk_X16 ac)) (K : nd_Ki p l e (headSpec ow_dm_X16_named ({ frames := 0, cells := 0, slots := 0, locals := 0 })).room s m args below meth c Q A (dC, dI) cX16_named .int (St × (St)) (dw_X16 a ac) r) : dj_X16_named_0 p l e s m args below meth c Q A dC dI a ac (df_X16_named_0 n) r := by
  obtain ⟨hlt, hx, hb, hml, hown, hts, hN, hA, hK⟩ := id C
  intro s0 H locs ls h hP hD hS hl
  unfold df_X16_named_0 at h
  refine lv_iconst (v := 0) hx hb dX16_named_0 (by decide) ?_
  refine lv_istore_n (lv' := [(1, .int 0), (0, .ref (a 0))]) hx hb dX16_named_1 rfl hl (by decide) rfl (fun ls hl => ?_)
  exact (db_X16_named_2 C K n) (0) s0 _ _ _ h hP hD hS (lv_sub hl [1, 0] rfl)
set_option maxHeartbeats 40000000 in
set_option maxRecDepth 100000 in
theorem dm_X16_named (l : Launch) (hlt : l.stackTraces = false) (dC : Nat → ClassId) (dI : Nat → Nat → Nat) (a : Nat → Nat) (ac : Nat → ClassId) (n : Nat) (s0 : St × (St)) {r : Int32 × (St × (St))} (h : df_X16_named n s0 = some r) (sz : Nat) : Met l yX16_named ow_dm_X16_named ({ frames := 0, cells := 0, slots := 0, locals := 0 }) (va_Pc [.ref (a 0)] (fun U => U.heap.size = sz ∧ va_P (dC, dI) vwCl (dw_X16 a ac s0) U.heap ∧ va_K (dC, dI) vwCl (dk_X16 ac) U ∧ va_D (fun _ => True) (dw_X16 a ac s0) ∧ nv_E dI (va_A (dw_X16 a ac s0) sz) U)) (va_Qi (fun x _ => x = r.1) (fun (_ : Unit) t => va_P (dC, dI) vwCl (dw_X16 a ac r.2) t.heap ∧ va_K (dC, dI) vwCl (dk_X16 ac) t ∧ va_D (va_A (dw_X16 a ac s0) sz) (dw_X16 a ac r.2)) (va_A (dw_X16 a ac s0) sz)) 0 0 (va_A (dw_X16 a ac s0) sz) := by
  refine Met.ofW (cc := cX16_named) (maxL := 4) (ret := (some .int)) (by decide) rfl ?_
  intro p e s m args below meth c s₁ B hml hv
  obtain ⟨rfl, hsz, hP, hK, hD0, hN⟩ := hv
  have hx := B.exec
  have hb := B.bytes
  have hr := B.returns
  have hts := atoms_spec (ws := ow_dm_X16_named) B.pre
  have hown : s.vm.findClass RX16 = some m.cls := findClass_of_methodNamed B.named
  have hlocks := B.notSynchronized
  subst hsz
  have hD := hD0.self (sz := s.heap.size)
  generalize hAe : va_A (dw_X16 a ac s0) s.heap.size = A at hD hN ⊢
  have hA : ∀ q : Nat, s.heap.size ≤ q → A q := fun q h => by rw [← hAe]; exact Or.inr h
  have hl := lv_entry ([.ref (a 0)]) (n := 4) (Nat.le_of_ble_eq_true rfl)
  rw [lg_entry_eq]
  generalize (lg_sl ([.ref (a 0)]) ++ List.replicate (4 - (lg_sl ([.ref (a 0)])).length) Slot.unset).toArray = ls at hl ⊢
  have hl : lv_has ls 4 [(0, .ref (a 0))] := hl
  exact db_X16_named_0 (dC := dC) (dI := dI) (a := a) (ac := ac) (n := n) (r := r) ⟨hlt, hx, hb, hml, hown, hts, hN, hA, hK⟩ (fun pc v τ H locs ls d z er hP hD hS => by subst er; exact W.zret (v := v) hx hb hr z (fun t ht hW => ⟨⟨v, (), rfl, rfl, by rw [ht]; exact hP, va_K.moved hW.alike hK, hD⟩, hS.F ht⟩) hS.2.2 d) s0 _ _ _ h hP hD va_S.rf (lv_sub hl [0] rfl)
def ow_dm_X16_entitle : List Cond := Cond.code yX16_entitle cX16_entitle 3 none :: ([Cond.fieldLink RX16 91 "TimeMachineModel$Machine" "isNamed" "[Z", Cond.fieldLink RX16 106 "TimeMachineModel$Machine" "names" "[I", Cond.fieldLink RX16 115 "TimeMachineModel$Machine" "name" "[I"] ++ (u_ws RX16 TX16 56 ++ []))
theorem gd_dm_X16_entitle : ∀ w ∈ ow_dm_X16_entitle, (w.onTables && w.keeps) = true ∨ ∃ ty, w = Cond.arrayClass ty := List.forall_mem_cons.mpr ⟨good_of_word rfl, List.forall_mem_append.mpr ⟨fun w h => good_of_word (List.all_eq_true.mp (by decide +kernel) w h), List.forall_mem_append.mpr ⟨gu_X16, fun _ h => nomatch h⟩⟩⟩
theorem hi_dm_X16_entitle_X16 : ∀ w ∈ u_ws RX16 TX16 56, w ∈ ow_dm_X16_entitle := fun w h => List.mem_cons_of_mem _ (List.mem_append_right _ (List.mem_append_left _ h))
def dj_X16_entitle_9 (p : Program) (l : Launch) (e : Env) (s : State) (m : MethodId) (args : Array Value) (below : List Frame) (meth : Method) (c : Code) (Q : State → Prop) (A : Nat → Prop) (dC : Nat → ClassId) (dI : Nat → Nat → Nat) (a : Nat → Nat) (ac : Nat → ClassId) (g : Int32 → Int32 → (St × (St)) → Option (St × (St))) (r : St × (St)) : Prop := ∀ (x1 : Int32) (x2 : Int32) (s0 : St × (St)) (H : Heap) (locs : List Loc) (ls : Array Slot), g x1 x2 s0 = some r → va_P (dC, dI) vwCl (dw_X16 a ac s0) H → va_D A (dw_X16 a ac s0) → va_S A s.heap H locs → lv_has ls 3 [(0, .ref (a 0)), (1, .int x1), (2, .int x2)] → W p l e (headSpec ow_dm_X16_entitle ({ frames := 0, cells := 0, slots := 0, locals := 0 })).room s m args below meth c H locs 0 0 Q (F0 m 9 ls [])
def dj_X16_entitle_0 (p : Program) (l : Launch) (e : Env) (s : State) (m : MethodId) (args : Array Value) (below : List Frame) (meth : Method) (c : Code) (Q : State → Prop) (A : Nat → Prop) (dC : Nat → ClassId) (dI : Nat → Nat → Nat) (a : Nat → Nat) (ac : Nat → ClassId) (g : Int32 → (St × (St)) → Option (St × (St))) (r : St × (St)) : Prop := ∀ (v0 : Int32) (s0 : St × (St)) (H : Heap) (locs : List Loc) (ls : Array Slot), g v0 s0 = some r → va_P (dC, dI) vwCl (dw_X16 a ac s0) H → va_D A (dw_X16 a ac s0) → va_S A s.heap H locs → lv_has ls 3 [(0, .ref (a 0)), (1, .int v0)] → W p l e (headSpec ow_dm_X16_entitle ({ frames := 0, cells := 0, slots := 0, locals := 0 })).room s m args below meth c H locs 0 0 Q (F0 m 0 ls [])
set_option maxHeartbeats 40000000 in
set_option maxRecDepth 100000 in
theorem dB_X16_entitle_9 {p : Program} {l : Launch} {e : Env} {s : State} {m : MethodId} {args : Array Value} {below : List Frame} {meth : Method} {c : Code} {Q : State → Prop} {A : Nat → Prop} {dC : Nat → ClassId} {dI : Nat → Nat → Nat} {a : Nat → Nat} {ac : Nat → ClassId} {n : Nat} {r : St × (St)} (C : nd_C p l s m args c A (dC, dI) cX16_entitle 3 RX16 ow_dm_X16_entitle (dk_X16 ac)) (K : nd_Kv p l e (headSpec ow_dm_X16_entitle ({ frames := 0, cells := 0, slots := 0, locals := 0 })).room s m args below meth c Q A (dC, dI) cX16_entitle (St × (St)) (dw_X16 a ac) r) {g9 : Int32 → Int32 → (St × (St)) → Option (St × (St))} (J9 : dj_X16_entitle_9 p l e s m args below meth c Q A dC dI a ac g9 r) : dj_X16_entitle_9 p l e s m args below meth c Q A dC dI a ac (dF_X16_entitle_9 n g9) r := by
  obtain ⟨hlt, hx, hb, hml, hown, hts, hN, hA, hK⟩ := id C
  intro x1 x2 s0 H locs ls h hP hD hS hl
  unfold dF_X16_entitle_9 at h
  refine lv_iload_n hx hb dX16_entitle_9 rfl (lv_at hl 2 rfl) ?_
  refine lv_bipush (v := 16) hx hb dX16_entitle_10 (by decide) ?_
  refine lv_icmp_ge (tgt := 38) hx hb dX16_entitle_12 (by decide) (fun c3 => ?_) (fun c3 => ?_)
  · have h := nd_pos h c3
    exact K _ _ _ _ _ dX16_entitle_38 (Option.some.inj h).symm hP hD hS
  · have h := nd_neg h c3
    refine lv_aload_n hx hb dX16_entitle_15 rfl (lv_at hl 0 rfl) ?_
    refine va_get (D := (dC, dI)) (ci := 17) (v := .ref (a 32)) (C := RX16) (T := TX16) (N := 56) hx hb hts hi_dm_X16_entitle_X16 hown hK hP 0 rfl rfl 41 (by decide) (hts (.fieldLink RX16 106 "TimeMachineModel$Machine" "names" "[I") (List.mem_of_getElem? (i := 2) rfl)) (fun _ h9 => h9) rfl dX16_entitle_16 ?_
    refine lv_bipush (v := 16) hx hb dX16_entitle_19 (by decide) ?_
    refine lv_iload_n hx hb dX16_entitle_21 rfl (lv_at hl 1 rfl) ?_
    refine lv_imul hx hb dX16_entitle_22 ?_
    refine lv_iload_n hx hb dX16_entitle_23 rfl (lv_at hl 2 rfl) ?_
    refine lv_iadd hx hb dX16_entitle_24 ?_
    refine lv_aload_n hx hb dX16_entitle_25 rfl (lv_at hl 0 rfl) ?_
    refine va_get (D := (dC, dI)) (ci := 17) (v := .ref (a 35)) (C := RX16) (T := TX16) (N := 56) hx hb hts hi_dm_X16_entitle_X16 hown hK hP 0 rfl rfl 46 (by decide) (hts (.fieldLink RX16 115 "TimeMachineModel$Machine" "name" "[I") (List.mem_of_getElem? (i := 3) rfl)) (fun _ h9 => h9) rfl dX16_entitle_26 ?_
    refine lv_iload_n hx hb dX16_entitle_29 rfl (lv_at hl 2 rfl) ?_
    obtain ⟨i4, h⟩ := nd_ck_e h
    refine va_iald (i := x2) hx hb hK hP 35 34 rfl rfl i4 dX16_entitle_30 ?_
    obtain ⟨i5, h⟩ := nd_ck_e h
    refine va_iast (i := ((16 * x1) + x2)) (x := (sR s0.1 33 (Int32.toNatClampNeg x2))) hx hb hK hP hD hS 32 31 rfl rfl i5 dX16_entitle_31 (fun H locs hP hD hS => ?_)
    obtain ⟨s6, es6, h⟩ := nd_let_e h
    have hP : va_P (dC, dI) vwCl (dw_X16 a ac s6) H := by rw [es6]; exact hP
    have hD : va_D A (dw_X16 a ac s6) := by rw [es6]; exact hD
    obtain ⟨z7, ez7, h⟩ := nd_let_e h
    refine lv_iinc (v := z7) (lv' := [(2, .int z7), (0, .ref (a 0)), (1, .int x1)]) hx hb dX16_entitle_32 hl (k := 2) rfl (by rw [ez7]) (by decide) rfl (fun ls hl => ?_)
    refine lv_goto (tgt := 9) hx hb dX16_entitle_35 (by decide) ?_
    exact (J9) (x1) (z7) s6 _ _ _ h hP hD hS (lv_sub hl [1, 2, 0] rfl)
set_option maxHeartbeats 40000000 in
set_option maxRecDepth 100000 in
theorem db_X16_entitle_9 {p : Program} {l : Launch} {e : Env} {s : State} {m : MethodId} {args : Array Value} {below : List Frame} {meth : Method} {c : Code} {Q : State → Prop} {A : Nat → Prop} {dC : Nat → ClassId} {dI : Nat → Nat → Nat} {a : Nat → Nat} {ac : Nat → ClassId} {n : Nat} {r : St × (St)} (C : nd_C p l s m args c A (dC, dI) cX16_entitle 3 RX16 ow_dm_X16_entitle (dk_X16 ac)) (K : nd_Kv p l e (headSpec ow_dm_X16_entitle ({ frames := 0, cells := 0, slots := 0, locals := 0 })).room s m args below meth c Q A (dC, dI) cX16_entitle (St × (St)) (dw_X16 a ac) r) (k : Nat) : dj_X16_entitle_9 p l e s m args below meth c Q A dC dI a ac (df_X16_entitle_9 n k) r := by
  induction k with
  | zero => intro x1 x2 s0 H locs ls h; exact nomatch (show (none : Option (St × (St))) = some r from h)
  | succ k ih => exact dB_X16_entitle_9 C K ih
set_option maxHeartbeats 40000000 in
set_option maxRecDepth 100000 in
theorem db_X16_entitle_0 {p : Program} {l : Launch} {e : Env} {s : State} {m : MethodId} {args : Array Value} {below : List Frame} {meth : Method} {c : Code} {Q : State → Prop} {A : Nat → Prop} {dC : Nat → ClassId} {dI : Nat → Nat → Nat} {a : Nat → Nat} {ac : Nat → ClassId} {n : Nat} {r : St × (St)} (C : nd_C p l s m args c A (dC, dI) cX16_entitle 3 RX16 ow_dm_X16_entitle (dk_X16 ac)) (K : nd_Kv p l e (headSpec ow_dm_X16_entitle ({ frames := 0, cells := 0, slots := 0, locals := 0 })).room s m args below meth c Q A (dC, dI) cX16_entitle (St × (St)) (dw_X16 a ac) r) : dj_X16_entitle_0 p l e s m args below meth c Q A dC dI a ac (df_X16_entitle_0 n) r := by
  obtain ⟨hlt, hx, hb, hml, hown, hts, hN, hA, hK⟩ := id C
  intro v0 s0 H locs ls h hP hD hS hl
  unfold df_X16_entitle_0 at h
  refine lv_aload_n hx hb dX16_entitle_0 rfl (lv_at hl 0 rfl) ?_
  refine va_get (D := (dC, dI)) (ci := 17) (v := .ref (a 27)) (C := RX16) (T := TX16) (N := 56) hx hb hts hi_dm_X16_entitle_X16 hown hK hP 0 rfl rfl 36 (by decide) (hts (.fieldLink RX16 91 "TimeMachineModel$Machine" "isNamed" "[Z") (List.mem_of_getElem? (i := 1) rfl)) (fun _ h9 => h9) rfl dX16_entitle_1 ?_
  refine lv_iload_n hx hb dX16_entitle_4 rfl (lv_at hl 1 rfl) ?_
  refine lv_iconst (v := 1) hx hb dX16_entitle_5 (by decide) ?_
  obtain ⟨i1, h⟩ := nd_ck_e h
  refine va_zast (i := v0) (x := 1) hx hb hK hP hD hS 27 26 rfl rfl i1 dX16_entitle_6 (fun H locs hP hD hS => ?_)
  obtain ⟨s2, es2, h⟩ := nd_let_e h
  have hP : va_P (dC, dI) vwCl (dw_X16 a ac s2) H := by rw [es2]; exact hP
  have hD : va_D A (dw_X16 a ac s2) := by rw [es2]; exact hD
  refine lv_iconst (v := 0) hx hb dX16_entitle_7 (by decide) ?_
  refine lv_istore_n (lv' := [(2, .int 0), (0, .ref (a 0)), (1, .int v0)]) hx hb dX16_entitle_8 rfl hl (by decide) rfl (fun ls hl => ?_)
  exact (db_X16_entitle_9 C K n) (v0) (0) s2 _ _ _ h hP hD hS (lv_sub hl [1, 2, 0] rfl)
set_option maxHeartbeats 40000000 in
set_option maxRecDepth 100000 in
theorem dm_X16_entitle (l : Launch) (hlt : l.stackTraces = false) (dC : Nat → ClassId) (dI : Nat → Nat → Nat) (a : Nat → Nat) (ac : Nat → ClassId) (n : Nat) (v0 : Int32) (s0 : St × (St)) {r : St × (St)} (h : df_X16_entitle n v0 s0 = some r) (sz : Nat) : Met l yX16_entitle ow_dm_X16_entitle ({ frames := 0, cells := 0, slots := 0, locals := 0 }) (va_Pc [.ref (a 0), .int v0] (fun U => U.heap.size = sz ∧ va_P (dC, dI) vwCl (dw_X16 a ac s0) U.heap ∧ va_K (dC, dI) vwCl (dk_X16 ac) U ∧ va_D (fun _ => True) (dw_X16 a ac s0) ∧ nv_E dI (va_A (dw_X16 a ac s0) sz) U)) (va_Qv (fun _ => True) (fun (_ : Unit) t => va_P (dC, dI) vwCl (dw_X16 a ac r) t.heap ∧ va_K (dC, dI) vwCl (dk_X16 ac) t ∧ va_D (va_A (dw_X16 a ac s0) sz) (dw_X16 a ac r)) (va_A (dw_X16 a ac s0) sz)) 0 0 (va_A (dw_X16 a ac s0) sz) := by
  refine Met.ofW (cc := cX16_entitle) (maxL := 3) (ret := none) (by decide) rfl ?_
  intro p e s m args below meth c s₁ B hml hv
  obtain ⟨rfl, hsz, hP, hK, hD0, hN⟩ := hv
  have hx := B.exec
  have hb := B.bytes
  have hr := B.returns
  have hts := atoms_spec (ws := ow_dm_X16_entitle) B.pre
  have hown : s.vm.findClass RX16 = some m.cls := findClass_of_methodNamed B.named
  have hlocks := B.notSynchronized
  subst hsz
  have hD := hD0.self (sz := s.heap.size)
  generalize hAe : va_A (dw_X16 a ac s0) s.heap.size = A at hD hN ⊢
  have hA : ∀ q : Nat, s.heap.size ≤ q → A q := fun q h => by rw [← hAe]; exact Or.inr h
  have hl := lv_entry ([.ref (a 0), .int v0]) (n := 3) (Nat.le_of_ble_eq_true rfl)
  rw [lg_entry_eq]
  generalize (lg_sl ([.ref (a 0), .int v0]) ++ List.replicate (3 - (lg_sl ([.ref (a 0), .int v0])).length) Slot.unset).toArray = ls at hl ⊢
  have hl : lv_has ls 3 [(0, .ref (a 0)), (1, .int v0)] := hl
  exact db_X16_entitle_0 (dC := dC) (dI := dI) (a := a) (ac := ac) (n := n) (r := r) ⟨hlt, hx, hb, hml, hown, hts, hN, hA, hK⟩ (fun pc τ H locs ls d er hP hD hS => by subst er; exact W.vret hx hb hr (fun t ht hW => ⟨⟨(), rfl, trivial, by rw [ht]; exact hP, va_K.moved hW.alike hK, hD⟩, hS.F ht⟩) hS.2.2 d) v0 s0 _ _ _ h hP hD va_S.rf (lv_sub hl [0, 1] rfl)
def ow_dm_X16_open : List Cond := Cond.code yX16_open cX16_open 7 (some .int) :: ([Cond.methodLink RX16 505 yX16_nameAt, Cond.instanceMethod yX16_nameAt, Cond.selects RX16 yX16_nameAt yX16_nameAt, Cond.initialized RX16, Cond.methodLink RX16 508 yX16_named, Cond.instanceMethod yX16_named, Cond.selects RX16 yX16_named yX16_named, Cond.methodLink RX16 249 yX16_freeDescriptor, Cond.instanceMethod yX16_freeDescriptor, Cond.selects RX16 yX16_freeDescriptor yX16_freeDescriptor, Cond.methodLink RX16 246 yX16_freeOpening, Cond.instanceMethod yX16_freeOpening, Cond.selects RX16 yX16_freeOpening yX16_freeOpening, Cond.methodLink RX16 168 yX16_opening, Cond.instanceMethod yX16_opening, Cond.selects RX16 yX16_opening yX16_opening, Cond.methodLink RX16 488 yX16_give, Cond.instanceMethod yX16_give, Cond.selects RX16 yX16_give yX16_give, Cond.fieldLink RX16 100 "TimeMachineModel$Machine" "length" "[I", Cond.fieldLink RX16 88 "TimeMachineModel$Machine" "isFile" "[Z", Cond.methodLink RX16 511 yX16_entitle, Cond.instanceMethod yX16_entitle, Cond.selects RX16 yX16_entitle yX16_entitle] ++ (u_ws RX16 TX16 56 ++ (ow_dm_X16_nameAt ++ (ow_dm_X16_named ++ (ow_dm_X16_freeDescriptor ++ (ow_dm_X16_freeOpening ++ (ow_dm_X16_opening ++ (ow_dm_X16_give ++ (ow_dm_X16_entitle ++ [])))))))))
theorem gd_dm_X16_open : ∀ w ∈ ow_dm_X16_open, (w.onTables && w.keeps) = true ∨ ∃ ty, w = Cond.arrayClass ty := List.forall_mem_cons.mpr ⟨good_of_word rfl, List.forall_mem_append.mpr ⟨fun w h => good_of_word (List.all_eq_true.mp (by decide +kernel) w h), List.forall_mem_append.mpr ⟨gu_X16, List.forall_mem_append.mpr ⟨gd_dm_X16_nameAt, List.forall_mem_append.mpr ⟨gd_dm_X16_named, List.forall_mem_append.mpr ⟨gd_dm_X16_freeDescriptor, List.forall_mem_append.mpr ⟨gd_dm_X16_freeOpening, List.forall_mem_append.mpr ⟨gd_dm_X16_opening, List.forall_mem_append.mpr ⟨gd_dm_X16_give, List.forall_mem_append.mpr ⟨gd_dm_X16_entitle, fun _ h => nomatch h⟩⟩⟩⟩⟩⟩⟩⟩⟩⟩
theorem hi_dm_X16_open_X16 : ∀ w ∈ u_ws RX16 TX16 56, w ∈ ow_dm_X16_open := fun w h => List.mem_cons_of_mem _ (List.mem_append_right _ (List.mem_append_left _ h))
theorem gi_dm_X16_open_0 : GoodIn ow_dm_X16_open (wsV RX16 505 RX16 yX16_nameAt ow_dm_X16_nameAt) := goodIn_app (goodIn_of _ (by decide +kernel)) (fun w h => ⟨List.mem_cons_of_mem _ (List.mem_append_right _ (List.mem_append_right _ (List.mem_append_left _ h))), gd_dm_X16_nameAt w h⟩)
theorem gi_dm_X16_open_1 : GoodIn ow_dm_X16_open (wsV RX16 508 RX16 yX16_named ow_dm_X16_named) := goodIn_app (goodIn_of _ (by decide +kernel)) (fun w h => ⟨List.mem_cons_of_mem _ (List.mem_append_right _ (List.mem_append_right _ (List.mem_append_right _ (List.mem_append_left _ h)))), gd_dm_X16_named w h⟩)
theorem gi_dm_X16_open_2 : GoodIn ow_dm_X16_open (wsV RX16 249 RX16 yX16_freeDescriptor ow_dm_X16_freeDescriptor) := goodIn_app (goodIn_of _ (by decide +kernel)) (fun w h => ⟨List.mem_cons_of_mem _ (List.mem_append_right _ (List.mem_append_right _ (List.mem_append_right _ (List.mem_append_right _ (List.mem_append_left _ h))))), gd_dm_X16_freeDescriptor w h⟩)
theorem gi_dm_X16_open_3 : GoodIn ow_dm_X16_open (wsV RX16 246 RX16 yX16_freeOpening ow_dm_X16_freeOpening) := goodIn_app (goodIn_of _ (by decide +kernel)) (fun w h => ⟨List.mem_cons_of_mem _ (List.mem_append_right _ (List.mem_append_right _ (List.mem_append_right _ (List.mem_append_right _ (List.mem_append_right _ (List.mem_append_left _ h)))))), gd_dm_X16_freeOpening w h⟩)
theorem gi_dm_X16_open_4 : GoodIn ow_dm_X16_open (wsV RX16 168 RX16 yX16_opening ow_dm_X16_opening) := goodIn_app (goodIn_of _ (by decide +kernel)) (fun w h => ⟨List.mem_cons_of_mem _ (List.mem_append_right _ (List.mem_append_right _ (List.mem_append_right _ (List.mem_append_right _ (List.mem_append_right _ (List.mem_append_right _ (List.mem_append_left _ h))))))), gd_dm_X16_opening w h⟩)
theorem gi_dm_X16_open_5 : GoodIn ow_dm_X16_open (wsV RX16 488 RX16 yX16_give ow_dm_X16_give) := goodIn_app (goodIn_of _ (by decide +kernel)) (fun w h => ⟨List.mem_cons_of_mem _ (List.mem_append_right _ (List.mem_append_right _ (List.mem_append_right _ (List.mem_append_right _ (List.mem_append_right _ (List.mem_append_right _ (List.mem_append_right _ (List.mem_append_left _ h)))))))), gd_dm_X16_give w h⟩)
theorem gi_dm_X16_open_6 : GoodIn ow_dm_X16_open (wsV RX16 511 RX16 yX16_entitle ow_dm_X16_entitle) := goodIn_app (goodIn_of _ (by decide +kernel)) (fun w h => ⟨List.mem_cons_of_mem _ (List.mem_append_right _ (List.mem_append_right _ (List.mem_append_right _ (List.mem_append_right _ (List.mem_append_right _ (List.mem_append_right _ (List.mem_append_right _ (List.mem_append_right _ (List.mem_append_left _ h))))))))), gd_dm_X16_entitle w h⟩)
def dj_X16_open_176 (p : Program) (l : Launch) (e : Env) (s : State) (m : MethodId) (args : Array Value) (below : List Frame) (meth : Method) (c : Code) (Q : State → Prop) (A : Nat → Prop) (dC : Nat → ClassId) (dI : Nat → Nat → Nat) (a : Nat → Nat) (ac : Nat → ClassId) (g : (St × (St)) → Option (Int32 × (St × (St)))) (r : Int32 × (St × (St))) : Prop := ∀ (s0 : St × (St)) (H : Heap) (locs : List Loc) (ls : Array Slot), g s0 = some r → va_P (dC, dI) vwCl (dw_X16 a ac s0) H → va_D A (dw_X16 a ac s0) → va_S A s.heap H locs → lv_has ls 7 [] → W p l e (headSpec ow_dm_X16_open ({ frames := 3, cells := 0, slots := 0, locals := 70 })).room s m args below meth c H locs 0 0 Q (F0 m 176 ls [])
def dj_X16_open_226 (p : Program) (l : Launch) (e : Env) (s : State) (m : MethodId) (args : Array Value) (below : List Frame) (meth : Method) (c : Code) (Q : State → Prop) (A : Nat → Prop) (dC : Nat → ClassId) (dI : Nat → Nat → Nat) (a : Nat → Nat) (ac : Nat → ClassId) (g : Int32 → Int32 → (St × (St)) → Option (Int32 × (St × (St)))) (r : Int32 × (St × (St))) : Prop := ∀ (x2 : Int32) (x5 : Int32) (s0 : St × (St)) (H : Heap) (locs : List Loc) (ls : Array Slot), g x2 x5 s0 = some r → va_P (dC, dI) vwCl (dw_X16 a ac s0) H → va_D A (dw_X16 a ac s0) → va_S A s.heap H locs → lv_has ls 7 [(0, .ref (a 0)), (2, .int x2), (5, .int x5)] → W p l e (headSpec ow_dm_X16_open ({ frames := 3, cells := 0, slots := 0, locals := 70 })).room s m args below meth c H locs 0 0 Q (F0 m 226 ls [])
def dj_X16_open_211 (p : Program) (l : Launch) (e : Env) (s : State) (m : MethodId) (args : Array Value) (below : List Frame) (meth : Method) (c : Code) (Q : State → Prop) (A : Nat → Prop) (dC : Nat → ClassId) (dI : Nat → Nat → Nat) (a : Nat → Nat) (ac : Nat → ClassId) (g : Int32 → Int32 → (St × (St)) → Option (Int32 × (St × (St)))) (r : Int32 × (St × (St))) : Prop := ∀ (x2 : Int32) (x5 : Int32) (s0 : St × (St)) (H : Heap) (locs : List Loc) (ls : Array Slot), g x2 x5 s0 = some r → va_P (dC, dI) vwCl (dw_X16 a ac s0) H → va_D A (dw_X16 a ac s0) → va_S A s.heap H locs → lv_has ls 7 [(0, .ref (a 0)), (2, .int x2), (5, .int x5)] → W p l e (headSpec ow_dm_X16_open ({ frames := 3, cells := 0, slots := 0, locals := 70 })).room s m args below meth c H locs 0 0 Q (F0 m 211 ls [])
def dj_X16_open_179 (p : Program) (l : Launch) (e : Env) (s : State) (m : MethodId) (args : Array Value) (below : List Frame) (meth : Method) (c : Code) (Q : State → Prop) (A : Nat → Prop) (dC : Nat → ClassId) (dI : Nat → Nat → Nat) (a : Nat → Nat) (ac : Nat → ClassId) (g : Int32 → Int32 → Int32 → (St × (St)) → Option (Int32 × (St × (St)))) (r : Int32 × (St × (St))) : Prop := ∀ (x2 : Int32) (x5 : Int32) (x6 : Int32) (s0 : St × (St)) (H : Heap) (locs : List Loc) (ls : Array Slot), g x2 x5 x6 s0 = some r → va_P (dC, dI) vwCl (dw_X16 a ac s0) H → va_D A (dw_X16 a ac s0) → va_S A s.heap H locs → lv_has ls 7 [(0, .ref (a 0)), (2, .int x2), (5, .int x5), (6, .int x6)] → W p l e (headSpec ow_dm_X16_open ({ frames := 3, cells := 0, slots := 0, locals := 70 })).room s m args below meth c H locs 0 0 Q (F0 m 179 ls [])
def dj_X16_open_147 (p : Program) (l : Launch) (e : Env) (s : State) (m : MethodId) (args : Array Value) (below : List Frame) (meth : Method) (c : Code) (Q : State → Prop) (A : Nat → Prop) (dC : Nat → ClassId) (dI : Nat → Nat → Nat) (a : Nat → Nat) (ac : Nat → ClassId) (g : Int32 → Int32 → Int32 → (St × (St)) → Option (Int32 × (St × (St)))) (r : Int32 × (St × (St))) : Prop := ∀ (x2 : Int32) (x5 : Int32) (x6 : Int32) (s0 : St × (St)) (H : Heap) (locs : List Loc) (ls : Array Slot), g x2 x5 x6 s0 = some r → va_P (dC, dI) vwCl (dw_X16 a ac s0) H → va_D A (dw_X16 a ac s0) → va_S A s.heap H locs → lv_has ls 7 [(0, .ref (a 0)), (2, .int x2), (5, .int x5), (6, .int x6)] → W p l e (headSpec ow_dm_X16_open ({ frames := 3, cells := 0, slots := 0, locals := 70 })).room s m args below meth c H locs 0 0 Q (F0 m 147 ls [])
def dj_X16_open_124 (p : Program) (l : Launch) (e : Env) (s : State) (m : MethodId) (args : Array Value) (below : List Frame) (meth : Method) (c : Code) (Q : State → Prop) (A : Nat → Prop) (dC : Nat → ClassId) (dI : Nat → Nat → Nat) (a : Nat → Nat) (ac : Nat → ClassId) (g : Int32 → Int32 → Int32 → (St × (St)) → Option (Int32 × (St × (St)))) (r : Int32 × (St × (St))) : Prop := ∀ (x2 : Int32) (x5 : Int32) (x6 : Int32) (s0 : St × (St)) (H : Heap) (locs : List Loc) (ls : Array Slot), g x2 x5 x6 s0 = some r → va_P (dC, dI) vwCl (dw_X16 a ac s0) H → va_D A (dw_X16 a ac s0) → va_S A s.heap H locs → lv_has ls 7 [(0, .ref (a 0)), (2, .int x2), (5, .int x5), (6, .int x6)] → W p l e (headSpec ow_dm_X16_open ({ frames := 3, cells := 0, slots := 0, locals := 70 })).room s m args below meth c H locs 0 0 Q (F0 m 124 ls [])
def dj_X16_open_121 (p : Program) (l : Launch) (e : Env) (s : State) (m : MethodId) (args : Array Value) (below : List Frame) (meth : Method) (c : Code) (Q : State → Prop) (A : Nat → Prop) (dC : Nat → ClassId) (dI : Nat → Nat → Nat) (a : Nat → Nat) (ac : Nat → ClassId) (g : Int32 → Int32 → (St × (St)) → Option (Int32 × (St × (St)))) (r : Int32 × (St × (St))) : Prop := ∀ (x2 : Int32) (x5 : Int32) (s0 : St × (St)) (H : Heap) (locs : List Loc) (ls : Array Slot), g x2 x5 s0 = some r → va_P (dC, dI) vwCl (dw_X16 a ac s0) H → va_D A (dw_X16 a ac s0) → va_S A s.heap H locs → lv_has ls 7 [(0, .ref (a 0)), (2, .int x2), (5, .int x5)] → W p l e (headSpec ow_dm_X16_open ({ frames := 3, cells := 0, slots := 0, locals := 70 })).room s m args below meth c H locs 0 0 Q (F0 m 121 ls [])
def dj_X16_open_105 (p : Program) (l : Launch) (e : Env) (s : State) (m : MethodId) (args : Array Value) (below : List Frame) (meth : Method) (c : Code) (Q : State → Prop) (A : Nat → Prop) (dC : Nat → ClassId) (dI : Nat → Nat → Nat) (a : Nat → Nat) (ac : Nat → ClassId) (g : Int32 → Int32 → (St × (St)) → Option (Int32 × (St × (St)))) (r : Int32 × (St × (St))) : Prop := ∀ (x2 : Int32) (x5 : Int32) (s0 : St × (St)) (H : Heap) (locs : List Loc) (ls : Array Slot), g x2 x5 s0 = some r → va_P (dC, dI) vwCl (dw_X16 a ac s0) H → va_D A (dw_X16 a ac s0) → va_S A s.heap H locs → lv_has ls 7 [(0, .ref (a 0)), (2, .int x2), (5, .int x5)] → W p l e (headSpec ow_dm_X16_open ({ frames := 3, cells := 0, slots := 0, locals := 70 })).room s m args below meth c H locs 0 0 Q (F0 m 105 ls [])
def dj_X16_open_60 (p : Program) (l : Launch) (e : Env) (s : State) (m : MethodId) (args : Array Value) (below : List Frame) (meth : Method) (c : Code) (Q : State → Prop) (A : Nat → Prop) (dC : Nat → ClassId) (dI : Nat → Nat → Nat) (a : Nat → Nat) (ac : Nat → ClassId) (g : Int32 → Int32 → Int32 → (St × (St)) → Option (Int32 × (St × (St)))) (r : Int32 × (St × (St))) : Prop := ∀ (x1 : Int32) (x2 : Int32) (y0 : Int32) (s0 : St × (St)) (H : Heap) (locs : List Loc) (ls : Array Slot), g x1 x2 y0 s0 = some r → va_P (dC, dI) vwCl (dw_X16 a ac s0) H → va_D A (dw_X16 a ac s0) → va_S A s.heap H locs → lv_has ls 7 [(0, .ref (a 0)), (1, .int x1), (2, .int x2)] → W p l e (headSpec ow_dm_X16_open ({ frames := 3, cells := 0, slots := 0, locals := 70 })).room s m args below meth c H locs 0 0 Q (F0 m 60 ls [.int y0])
def dj_X16_open_59 (p : Program) (l : Launch) (e : Env) (s : State) (m : MethodId) (args : Array Value) (below : List Frame) (meth : Method) (c : Code) (Q : State → Prop) (A : Nat → Prop) (dC : Nat → ClassId) (dI : Nat → Nat → Nat) (a : Nat → Nat) (ac : Nat → ClassId) (g : Int32 → Int32 → (St × (St)) → Option (Int32 × (St × (St)))) (r : Int32 × (St × (St))) : Prop := ∀ (x1 : Int32) (x2 : Int32) (s0 : St × (St)) (H : Heap) (locs : List Loc) (ls : Array Slot), g x1 x2 s0 = some r → va_P (dC, dI) vwCl (dw_X16 a ac s0) H → va_D A (dw_X16 a ac s0) → va_S A s.heap H locs → lv_has ls 7 [(0, .ref (a 0)), (1, .int x1), (2, .int x2)] → W p l e (headSpec ow_dm_X16_open ({ frames := 3, cells := 0, slots := 0, locals := 70 })).room s m args below meth c H locs 0 0 Q (F0 m 59 ls [])
def dj_X16_open_55 (p : Program) (l : Launch) (e : Env) (s : State) (m : MethodId) (args : Array Value) (below : List Frame) (meth : Method) (c : Code) (Q : State → Prop) (A : Nat → Prop) (dC : Nat → ClassId) (dI : Nat → Nat → Nat) (a : Nat → Nat) (ac : Nat → ClassId) (g : Int32 → Int32 → (St × (St)) → Option (Int32 × (St × (St)))) (r : Int32 × (St × (St))) : Prop := ∀ (x1 : Int32) (x2 : Int32) (s0 : St × (St)) (H : Heap) (locs : List Loc) (ls : Array Slot), g x1 x2 s0 = some r → va_P (dC, dI) vwCl (dw_X16 a ac s0) H → va_D A (dw_X16 a ac s0) → va_S A s.heap H locs → lv_has ls 7 [(0, .ref (a 0)), (1, .int x1), (2, .int x2)] → W p l e (headSpec ow_dm_X16_open ({ frames := 3, cells := 0, slots := 0, locals := 70 })).room s m args below meth c H locs 0 0 Q (F0 m 55 ls [])
def dj_X16_open_42 (p : Program) (l : Launch) (e : Env) (s : State) (m : MethodId) (args : Array Value) (below : List Frame) (meth : Method) (c : Code) (Q : State → Prop) (A : Nat → Prop) (dC : Nat → ClassId) (dI : Nat → Nat → Nat) (a : Nat → Nat) (ac : Nat → ClassId) (g : Int32 → Int32 → (St × (St)) → Option (Int32 × (St × (St)))) (r : Int32 × (St × (St))) : Prop := ∀ (x1 : Int32) (x2 : Int32) (s0 : St × (St)) (H : Heap) (locs : List Loc) (ls : Array Slot), g x1 x2 s0 = some r → va_P (dC, dI) vwCl (dw_X16 a ac s0) H → va_D A (dw_X16 a ac s0) → va_S A s.heap H locs → lv_has ls 7 [(0, .ref (a 0)), (1, .int x1), (2, .int x2)] → W p l e (headSpec ow_dm_X16_open ({ frames := 3, cells := 0, slots := 0, locals := 70 })).room s m args below meth c H locs 0 0 Q (F0 m 42 ls [])
def dj_X16_open_28 (p : Program) (l : Launch) (e : Env) (s : State) (m : MethodId) (args : Array Value) (below : List Frame) (meth : Method) (c : Code) (Q : State → Prop) (A : Nat → Prop) (dC : Nat → ClassId) (dI : Nat → Nat → Nat) (a : Nat → Nat) (ac : Nat → ClassId) (g : Int32 → Int32 → (St × (St)) → Option (Int32 × (St × (St)))) (r : Int32 × (St × (St))) : Prop := ∀ (x1 : Int32) (x2 : Int32) (s0 : St × (St)) (H : Heap) (locs : List Loc) (ls : Array Slot), g x1 x2 s0 = some r → va_P (dC, dI) vwCl (dw_X16 a ac s0) H → va_D A (dw_X16 a ac s0) → va_S A s.heap H locs → lv_has ls 7 [(0, .ref (a 0)), (1, .int x1), (2, .int x2)] → W p l e (headSpec ow_dm_X16_open ({ frames := 3, cells := 0, slots := 0, locals := 70 })).room s m args below meth c H locs 0 0 Q (F0 m 28 ls [])
def dj_X16_open_0 (p : Program) (l : Launch) (e : Env) (s : State) (m : MethodId) (args : Array Value) (below : List Frame) (meth : Method) (c : Code) (Q : State → Prop) (A : Nat → Prop) (dC : Nat → ClassId) (dI : Nat → Nat → Nat) (a : Nat → Nat) (ac : Nat → ClassId) (g : Int32 → Int32 → (St × (St)) → Option (Int32 × (St × (St)))) (r : Int32 × (St × (St))) : Prop := ∀ (v0 : Int32) (v1 : Int32) (s0 : St × (St)) (H : Heap) (locs : List Loc) (ls : Array Slot), g v0 v1 s0 = some r → va_P (dC, dI) vwCl (dw_X16 a ac s0) H → va_D A (dw_X16 a ac s0) → va_S A s.heap H locs → lv_has ls 7 [(0, .ref (a 0)), (1, .int v0), (2, .int v1)] → W p l e (headSpec ow_dm_X16_open ({ frames := 3, cells := 0, slots := 0, locals := 70 })).room s m args below meth c H locs 0 0 Q (F0 m 0 ls [])
set_option maxHeartbeats 40000000 in
set_option maxRecDepth 100000 in
theorem db_X16_open_176 {p : Program} {l : Launch} {e : Env} {s : State} {m : MethodId} {args : Array Value} {below : List Frame} {meth : Method} {c : Code} {Q : State → Prop} {A : Nat → Prop} {dC : Nat → ClassId} {dI : Nat → Nat → Nat} {a : Nat → Nat} {ac : Nat → ClassId} {n : Nat} {r : Int32 × (St × (St))} (C : nd_C p l s m args c A (dC, dI) cX16_open 7 RX16 ow_dm_X16_open (dk_X16 ac)) (K : nd_Ki p l e (headSpec ow_dm_X16_open ({ frames := 3, cells := 0, slots := 0, locals := 70 })).room s m args below meth c Q A (dC, dI) cX16_open .int (St × (St)) (dw_X16 a ac) r) : dj_X16_open_176 p l e s m args below meth c Q A dC dI a ac (df_X16_open_176 n) r := by
  obtain ⟨hlt, hx, hb, hml, hown, hts, hN, hA, hK⟩ := id C
  intro s0 H locs ls h hP hD hS hl
  unfold df_X16_open_176 at h
  refine lv_bipush (v := (-4)) hx hb dX16_open_176 (by decide) ?_
  exact K _ _ _ _ _ _ dX16_open_178 rfl (Option.some.inj h).symm hP hD hS
set_option maxHeartbeats 40000000 in
set_option maxRecDepth 100000 in
theorem db_X16_open_226 {p : Program} {l : Launch} {e : Env} {s : State} {m : MethodId} {args : Array Value} {below : List Frame} {meth : Method} {c : Code} {Q : State → Prop} {A : Nat → Prop} {dC : Nat → ClassId} {dI : Nat → Nat → Nat} {a : Nat → Nat} {ac : Nat → ClassId} {n : Nat} {r : Int32 × (St × (St))} (C : nd_C p l s m args c A (dC, dI) cX16_open 7 RX16 ow_dm_X16_open (dk_X16 ac)) (K : nd_Ki p l e (headSpec ow_dm_X16_open ({ frames := 3, cells := 0, slots := 0, locals := 70 })).room s m args below meth c Q A (dC, dI) cX16_open .int (St × (St)) (dw_X16 a ac) r) : dj_X16_open_226 p l e s m args below meth c Q A dC dI a ac (df_X16_open_226 n) r := by
  obtain ⟨hlt, hx, hb, hml, hown, hts, hN, hA, hK⟩ := id C
  intro x2 x5 s0 H locs ls h hP hD hS hl
  unfold df_X16_open_226 at h
  refine lv_aload_n hx hb dX16_open_226 rfl (lv_at hl 0 rfl) ?_
  refine lv_aload_n hx hb dX16_open_227 rfl (lv_at hl 0 rfl) ?_
  refine lv_iconst (v := 3) hx hb dX16_open_228 (by decide) ?_
  refine lv_iload hx hb dX16_open_229 (lv_at hl 2 rfl) ?_
  refine lv_iload_n hx hb dX16_open_231 rfl (lv_at hl 1 rfl) ?_
  refine lv_bipush (v := 7) hx hb dX16_open_232 (by decide) ?_
  refine lv_iand hx hb dX16_open_234 ?_
  obtain ⟨q24, s25, hq, h⟩ := nd_b2_e h
  have hPc := hP
  have hDc := hD
  have hKc := hK
  have hFc := nd_rs hD hS hA
  refine nd_cVi (As := [.int 3, .int x5, .int (x2 &&& 7)]) (rest := [.ref (a 0)]) (q := q24) (w' := dw_X16 a ac s25) ⟨hx, hb, hml, hown, hts⟩ (fun sz => dm_X16_opening l hlt dC dI a ac n (3) (x5) ((x2 &&& 7)) s0 hq sz) (cwV 3 hts gi_dm_X16_open_4 rfl rfl rfl (by decide +kernel) ⟨Nat.le_of_ble_eq_true rfl, Nat.le_of_ble_eq_true rfl⟩) hPc hDc hKc hS hA hN (va_recv hKc hPc (ci := 17) (q0 := 0) rfl rfl) rfl hl.1 rfl (Nat.le_of_ble_eq_true rfl) dX16_open_235 (fun H locs hP1 hD1 hk1 hS => ?_)
  have hP := hP1
  have hD := hD1.weaken (fun k q _ h => hFc q.1 h)
  obtain ⟨q27, s28, hq, h⟩ := nd_b2_e h
  have hPc := hP
  have hDc := hD
  have hKc := hK
  have hFc := nd_rs hD hS hA
  refine nd_cVi (As := [.int q24]) (rest := []) (q := q27) (w' := dw_X16 a ac s28) ⟨hx, hb, hml, hown, hts⟩ (fun sz => dm_X16_give l hlt dC dI a ac n (q24) s25 hq sz) (cwV 1 hts gi_dm_X16_open_5 rfl rfl rfl (by decide +kernel) ⟨Nat.le_of_ble_eq_true rfl, Nat.le_of_ble_eq_true rfl⟩) hPc hDc hKc hS hA hN (va_recv hKc hPc (ci := 17) (q0 := 0) rfl rfl) rfl hl.1 rfl (Nat.le_of_ble_eq_true rfl) dX16_open_238 (fun H locs hP1 hD1 hk1 hS => ?_)
  have hP := hP1
  have hD := hD1.weaken (fun k q _ h => hFc q.1 h)
  exact K _ _ _ _ _ _ dX16_open_241 rfl (Option.some.inj h).symm hP hD hS
set_option maxHeartbeats 40000000 in
set_option maxRecDepth 100000 in
theorem db_X16_open_211 {p : Program} {l : Launch} {e : Env} {s : State} {m : MethodId} {args : Array Value} {below : List Frame} {meth : Method} {c : Code} {Q : State → Prop} {A : Nat → Prop} {dC : Nat → ClassId} {dI : Nat → Nat → Nat} {a : Nat → Nat} {ac : Nat → ClassId} {n : Nat} {r : Int32 × (St × (St))} (C : nd_C p l s m args c A (dC, dI) cX16_open 7 RX16 ow_dm_X16_open (dk_X16 ac)) (K : nd_Ki p l e (headSpec ow_dm_X16_open ({ frames := 3, cells := 0, slots := 0, locals := 70 })).room s m args below meth c Q A (dC, dI) cX16_open .int (St × (St)) (dw_X16 a ac) r) : dj_X16_open_211 p l e s m args below meth c Q A dC dI a ac (df_X16_open_211 n) r := by
  obtain ⟨hlt, hx, hb, hml, hown, hts, hN, hA, hK⟩ := id C
  intro x2 x5 s0 H locs ls h hP hD hS hl
  unfold df_X16_open_211 at h
  refine lv_iload_n hx hb dX16_open_211 rfl (lv_at hl 1 rfl) ?_
  refine lv_bipush (v := 32) hx hb dX16_open_212 (by decide) ?_
  refine lv_iand hx hb dX16_open_214 ?_
  refine lv_if_le (tgt := 226) hx hb dX16_open_215 (by decide) (fun c23 => ?_) (fun c23 => ?_)
  · have h := nd_pos h c23
    exact (db_X16_open_226 C K) (x2) (x5) s0 _ _ _ h hP hD hS (lv_sub hl [0, 1, 2] rfl)
  · have h := nd_neg h c23
    refine lv_aload_n hx hb dX16_open_218 rfl (lv_at hl 0 rfl) ?_
    refine va_get (D := (dC, dI)) (ci := 17) (v := .ref (a 30)) (C := RX16) (T := TX16) (N := 56) hx hb hts hi_dm_X16_open_X16 hown hK hP 0 rfl rfl 39 (by decide) (hts (.fieldLink RX16 100 "TimeMachineModel$Machine" "length" "[I") (List.mem_of_getElem? (i := 20) rfl)) (fun _ h9 => h9) rfl dX16_open_219 ?_
    refine lv_iload hx hb dX16_open_222 (lv_at hl 2 rfl) ?_
    refine lv_iconst (v := 0) hx hb dX16_open_224 (by decide) ?_
    obtain ⟨i30, h⟩ := nd_ck_e h
    refine va_iast (i := x5) (x := 0) hx hb hK hP hD hS 30 29 rfl rfl i30 dX16_open_225 (fun H locs hP hD hS => ?_)
    obtain ⟨s31, es31, h⟩ := nd_let_e h
    have hP : va_P (dC, dI) vwCl (dw_X16 a ac s31) H := by rw [es31]; exact hP
    have hD : va_D A (dw_X16 a ac s31) := by rw [es31]; exact hD
    exact (db_X16_open_226 C K) (x2) (x5) s31 _ _ _ h hP hD hS (lv_sub hl [0, 1, 2] rfl)
set_option maxHeartbeats 40000000 in
set_option maxRecDepth 100000 in
theorem db_X16_open_179 {p : Program} {l : Launch} {e : Env} {s : State} {m : MethodId} {args : Array Value} {below : List Frame} {meth : Method} {c : Code} {Q : State → Prop} {A : Nat → Prop} {dC : Nat → ClassId} {dI : Nat → Nat → Nat} {a : Nat → Nat} {ac : Nat → ClassId} {n : Nat} {r : Int32 × (St × (St))} (C : nd_C p l s m args c A (dC, dI) cX16_open 7 RX16 ow_dm_X16_open (dk_X16 ac)) (K : nd_Ki p l e (headSpec ow_dm_X16_open ({ frames := 3, cells := 0, slots := 0, locals := 70 })).room s m args below meth c Q A (dC, dI) cX16_open .int (St × (St)) (dw_X16 a ac) r) : dj_X16_open_179 p l e s m args below meth c Q A dC dI a ac (df_X16_open_179 n) r := by
  obtain ⟨hlt, hx, hb, hml, hown, hts, hN, hA, hK⟩ := id C
  intro x2 x5 x6 s0 H locs ls h hP hD hS hl
  unfold df_X16_open_179 at h
  refine lv_iload hx hb dX16_open_179 (lv_at hl 2 rfl) ?_
  refine lv_iconst (v := (-1)) hx hb dX16_open_181 (by decide) ?_
  refine lv_icmp_ne (tgt := 211) hx hb dX16_open_182 (by decide) (fun c22 => ?_) (fun c22 => ?_)
  · have h := nd_neg h c22
    exact (db_X16_open_211 C K) (x2) (x5) s0 _ _ _ h hP hD hS (lv_sub hl [0, 1, 2] rfl)
  · have h := nd_pos h c22
    refine lv_iload hx hb dX16_open_185 (lv_at hl 3 rfl) ?_
    refine lv_istore (lv' := [(5, .int x6), (0, .ref (a 0)), (2, .int x2), (6, .int x6)]) hx hb dX16_open_187 hl (by decide) rfl (fun ls hl => ?_)
    refine lv_aload_n hx hb dX16_open_189 rfl (lv_at hl 1 rfl) ?_
    refine va_get (D := (dC, dI)) (ci := 17) (v := .ref (a 26)) (C := RX16) (T := TX16) (N := 56) hx hb hts hi_dm_X16_open_X16 hown hK hP 0 rfl rfl 35 (by decide) (hts (.fieldLink RX16 88 "TimeMachineModel$Machine" "isFile" "[Z") (List.mem_of_getElem? (i := 21) rfl)) (fun _ h9 => h9) rfl dX16_open_190 ?_
    refine lv_iload hx hb dX16_open_193 (lv_at hl 0 rfl) ?_
    refine lv_iconst (v := 1) hx hb dX16_open_195 (by decide) ?_
    obtain ⟨i32, h⟩ := nd_ck_e h
    refine va_zast (i := x6) (x := 1) hx hb hK hP hD hS 26 25 rfl rfl i32 dX16_open_196 (fun H locs hP hD hS => ?_)
    obtain ⟨s33, es33, h⟩ := nd_let_e h
    have hP : va_P (dC, dI) vwCl (dw_X16 a ac s33) H := by rw [es33]; exact hP
    have hD : va_D A (dw_X16 a ac s33) := by rw [es33]; exact hD
    refine lv_aload_n hx hb dX16_open_197 rfl (lv_at hl 1 rfl) ?_
    refine va_get (D := (dC, dI)) (ci := 17) (v := .ref (a 30)) (C := RX16) (T := TX16) (N := 56) hx hb hts hi_dm_X16_open_X16 hown hK hP 0 rfl rfl 39 (by decide) (hts (.fieldLink RX16 100 "TimeMachineModel$Machine" "length" "[I") (List.mem_of_getElem? (i := 20) rfl)) (fun _ h9 => h9) rfl dX16_open_198 ?_
    refine lv_iload hx hb dX16_open_201 (lv_at hl 0 rfl) ?_
    refine lv_iconst (v := 0) hx hb dX16_open_203 (by decide) ?_
    obtain ⟨i34, h⟩ := nd_ck_e h
    refine va_iast (i := x6) (x := 0) hx hb hK hP hD hS 30 29 rfl rfl i34 dX16_open_204 (fun H locs hP hD hS => ?_)
    obtain ⟨s35, es35, h⟩ := nd_let_e h
    have hP : va_P (dC, dI) vwCl (dw_X16 a ac s35) H := by rw [es35]; exact hP
    have hD : va_D A (dw_X16 a ac s35) := by rw [es35]; exact hD
    refine lv_aload_n hx hb dX16_open_205 rfl (lv_at hl 1 rfl) ?_
    refine lv_iload hx hb dX16_open_206 (lv_at hl 0 rfl) ?_
    obtain ⟨s37, hq, h⟩ := nd_b1_e h
    have hPc := hP
    have hDc := hD
    have hKc := hK
    have hFc := nd_rs hD hS hA
    refine nd_cVv (As := [.int x6]) (rest := []) (w' := dw_X16 a ac s37) ⟨hx, hb, hml, hown, hts⟩ (fun sz => dm_X16_entitle l hlt dC dI a ac n (x6) s35 hq sz) (cwV 1 hts gi_dm_X16_open_6 rfl rfl rfl (by decide +kernel) ⟨Nat.le_of_ble_eq_true rfl, Nat.le_of_ble_eq_true rfl⟩) hPc hDc hKc hS hA hN (va_recv hKc hPc (ci := 17) (q0 := 0) rfl rfl) rfl hl.1 rfl (Nat.le_of_ble_eq_true rfl) dX16_open_208 (fun H locs hP1 hD1 hk1 hS => ?_)
    have hP := hP1
    have hD := hD1.weaken (fun k q _ h => hFc q.1 h)
    exact (db_X16_open_211 C K) (x2) (x6) s37 _ _ _ h hP hD hS (lv_sub hl [1, 2, 0] rfl)
set_option maxHeartbeats 40000000 in
set_option maxRecDepth 100000 in
theorem db_X16_open_147 {p : Program} {l : Launch} {e : Env} {s : State} {m : MethodId} {args : Array Value} {below : List Frame} {meth : Method} {c : Code} {Q : State → Prop} {A : Nat → Prop} {dC : Nat → ClassId} {dI : Nat → Nat → Nat} {a : Nat → Nat} {ac : Nat → ClassId} {n : Nat} {r : Int32 × (St × (St))} (C : nd_C p l s m args c A (dC, dI) cX16_open 7 RX16 ow_dm_X16_open (dk_X16 ac)) (K : nd_Ki p l e (headSpec ow_dm_X16_open ({ frames := 3, cells := 0, slots := 0, locals := 70 })).room s m args below meth c Q A (dC, dI) cX16_open .int (St × (St)) (dw_X16 a ac) r) : dj_X16_open_147 p l e s m args below meth c Q A dC dI a ac (df_X16_open_147 n) r := by
  obtain ⟨hlt, hx, hb, hml, hown, hts, hN, hA, hK⟩ := id C
  intro x2 x5 x6 s0 H locs ls h hP hD hS hl
  unfold df_X16_open_147 at h
  refine lv_aload_n hx hb dX16_open_147 rfl (lv_at hl 0 rfl) ?_
  obtain ⟨q13, s14, hq, h⟩ := nd_b2_e h
  have hPc := hP
  have hDc := hD
  have hKc := hK
  have hFc := nd_rs hD hS hA
  refine nd_cVi (As := []) (rest := []) (q := q13) (w' := dw_X16 a ac s14) ⟨hx, hb, hml, hown, hts⟩ (fun sz => dm_X16_freeDescriptor l hlt dC dI a ac n  s0 hq sz) (cwV 0 hts gi_dm_X16_open_2 rfl rfl rfl (by decide +kernel) ⟨Nat.le_of_ble_eq_true rfl, Nat.le_of_ble_eq_true rfl⟩) hPc hDc hKc hS hA hN (va_recv hKc hPc (ci := 17) (q0 := 0) rfl rfl) rfl hl.1 rfl (Nat.le_of_ble_eq_true rfl) dX16_open_148 (fun H locs hP1 hD1 hk1 hS => ?_)
  have hP := hP1
  have hD := hD1.weaken (fun k q _ h => hFc q.1 h)
  refine lv_iconst (v := (-1)) hx hb dX16_open_151 (by decide) ?_
  refine lv_icmp_eq (tgt := 176) hx hb dX16_open_152 (by decide) (fun c16 => ?_) (fun c16 => ?_)
  · have h := nd_pos h c16
    exact (db_X16_open_176 C K)  s14 _ _ _ h hP hD hS (lv_sub hl [] rfl)
  · have h := nd_neg h c16
    refine lv_aload_n hx hb dX16_open_155 rfl (lv_at hl 0 rfl) ?_
    obtain ⟨q17, s18, hq, h⟩ := nd_b2_e h
    have hPc := hP
    have hDc := hD
    have hKc := hK
    have hFc := nd_rs hD hS hA
    refine nd_cVi (As := []) (rest := []) (q := q17) (w' := dw_X16 a ac s18) ⟨hx, hb, hml, hown, hts⟩ (fun sz => dm_X16_freeOpening l hlt dC dI a ac n  s14 hq sz) (cwV 0 hts gi_dm_X16_open_3 rfl rfl rfl (by decide +kernel) ⟨Nat.le_of_ble_eq_true rfl, Nat.le_of_ble_eq_true rfl⟩) hPc hDc hKc hS hA hN (va_recv hKc hPc (ci := 17) (q0 := 0) rfl rfl) rfl hl.1 rfl (Nat.le_of_ble_eq_true rfl) dX16_open_156 (fun H locs hP1 hD1 hk1 hS => ?_)
    have hP := hP1
    have hD := hD1.weaken (fun k q _ h => hFc q.1 h)
    refine lv_iconst (v := (-1)) hx hb dX16_open_159 (by decide) ?_
    refine lv_icmp_eq (tgt := 176) hx hb dX16_open_160 (by decide) (fun c20 => ?_) (fun c20 => ?_)
    · have h := nd_pos h c20
      exact (db_X16_open_176 C K)  s18 _ _ _ h hP hD hS (lv_sub hl [] rfl)
    · have h := nd_neg h c20
      refine lv_iload hx hb dX16_open_163 (lv_at hl 2 rfl) ?_
      refine lv_iconst (v := (-1)) hx hb dX16_open_165 (by decide) ?_
      refine lv_icmp_ne (tgt := 179) hx hb dX16_open_166 (by decide) (fun c21 => ?_) (fun c21 => ?_)
      · have h := nd_neg h c21
        exact (db_X16_open_179 C K) (x2) (x5) (x6) s18 _ _ _ h hP hD hS (lv_sub hl [0, 1, 2, 3] rfl)
      · have h := nd_pos h c21
        refine lv_iload hx hb dX16_open_169 (lv_at hl 3 rfl) ?_
        refine lv_bipush (v := 16) hx hb dX16_open_171 (by decide) ?_
        refine lv_icmp_ne (tgt := 179) hx hb dX16_open_173 (by decide) (fun c39 => ?_) (fun c39 => ?_)
        · have h := nd_neg h c39
          exact (db_X16_open_179 C K) (x2) (x5) (x6) s18 _ _ _ h hP hD hS (lv_sub hl [0, 1, 2, 3] rfl)
        · have h := nd_pos h c39
          exact (db_X16_open_176 C K)  s18 _ _ _ h hP hD hS (lv_sub hl [] rfl)
set_option maxHeartbeats 40000000 in
set_option maxRecDepth 100000 in
theorem dB_X16_open_124 {p : Program} {l : Launch} {e : Env} {s : State} {m : MethodId} {args : Array Value} {below : List Frame} {meth : Method} {c : Code} {Q : State → Prop} {A : Nat → Prop} {dC : Nat → ClassId} {dI : Nat → Nat → Nat} {a : Nat → Nat} {ac : Nat → ClassId} {n : Nat} {r : Int32 × (St × (St))} (C : nd_C p l s m args c A (dC, dI) cX16_open 7 RX16 ow_dm_X16_open (dk_X16 ac)) (K : nd_Ki p l e (headSpec ow_dm_X16_open ({ frames := 3, cells := 0, slots := 0, locals := 70 })).room s m args below meth c Q A (dC, dI) cX16_open .int (St × (St)) (dw_X16 a ac) r) {g124 : Int32 → Int32 → Int32 → (St × (St)) → Option (Int32 × (St × (St)))} (J124 : dj_X16_open_124 p l e s m args below meth c Q A dC dI a ac g124 r) : dj_X16_open_124 p l e s m args below meth c Q A dC dI a ac (dF_X16_open_124 n g124) r := by
  obtain ⟨hlt, hx, hb, hml, hown, hts, hN, hA, hK⟩ := id C
  intro x2 x5 x6 s0 H locs ls h hP hD hS hl
  unfold dF_X16_open_124 at h
  refine lv_iload hx hb dX16_open_124 (lv_at hl 3 rfl) ?_
  refine lv_bipush (v := 16) hx hb dX16_open_126 (by decide) ?_
  refine lv_icmp_ge (tgt := 147) hx hb dX16_open_128 (by decide) (fun c12 => ?_) (fun c12 => ?_)
  · have h := nd_pos h c12
    exact (db_X16_open_147 C K) (x2) (x5) (x6) s0 _ _ _ h hP hD hS (lv_sub hl [0, 1, 2, 3] rfl)
  · have h := nd_neg h c12
    refine lv_aload_n hx hb dX16_open_131 rfl (lv_at hl 0 rfl) ?_
    refine va_get (D := (dC, dI)) (ci := 17) (v := .ref (a 26)) (C := RX16) (T := TX16) (N := 56) hx hb hts hi_dm_X16_open_X16 hown hK hP 0 rfl rfl 35 (by decide) (hts (.fieldLink RX16 88 "TimeMachineModel$Machine" "isFile" "[Z") (List.mem_of_getElem? (i := 21) rfl)) (fun _ h9 => h9) rfl dX16_open_132 ?_
    refine lv_iload hx hb dX16_open_135 (lv_at hl 3 rfl) ?_
    obtain ⟨i40, h⟩ := nd_ck_e h
    refine va_zald (i := x6) hx hb hK hP 26 25 rfl rfl i40 dX16_open_137 ?_
    refine lv_if_eq (tgt := 147) hx hb dX16_open_138 (by decide) (fun c41 => ?_) (fun c41 => ?_)
    · have h := nd_pos h c41
      exact (db_X16_open_147 C K) (x2) (x5) (x6) s0 _ _ _ h hP hD hS (lv_sub hl [0, 1, 2, 3] rfl)
    · have h := nd_neg h c41
      obtain ⟨z42, ez42, h⟩ := nd_let_e h
      refine lv_iinc (v := z42) (lv' := [(6, .int z42), (0, .ref (a 0)), (2, .int x2), (5, .int x5)]) hx hb dX16_open_141 hl (k := 3) rfl (by rw [ez42]) (by decide) rfl (fun ls hl => ?_)
      refine lv_goto (tgt := 124) hx hb dX16_open_144 (by decide) ?_
      exact (J124) (x2) (x5) (z42) s0 _ _ _ h hP hD hS (lv_sub hl [1, 2, 3, 0] rfl)
set_option maxHeartbeats 40000000 in
set_option maxRecDepth 100000 in
theorem db_X16_open_124 {p : Program} {l : Launch} {e : Env} {s : State} {m : MethodId} {args : Array Value} {below : List Frame} {meth : Method} {c : Code} {Q : State → Prop} {A : Nat → Prop} {dC : Nat → ClassId} {dI : Nat → Nat → Nat} {a : Nat → Nat} {ac : Nat → ClassId} {n : Nat} {r : Int32 × (St × (St))} (C : nd_C p l s m args c A (dC, dI) cX16_open 7 RX16 ow_dm_X16_open (dk_X16 ac)) (K : nd_Ki p l e (headSpec ow_dm_X16_open ({ frames := 3, cells := 0, slots := 0, locals := 70 })).room s m args below meth c Q A (dC, dI) cX16_open .int (St × (St)) (dw_X16 a ac) r) (k : Nat) : dj_X16_open_124 p l e s m args below meth c Q A dC dI a ac (df_X16_open_124 n k) r := by
  induction k with
  | zero => intro x2 x5 x6 s0 H locs ls h; exact nomatch (show (none : Option (Int32 × (St × (St)))) = some r from h)
  | succ k ih => exact dB_X16_open_124 C K ih
set_option maxHeartbeats 40000000 in
set_option maxRecDepth 100000 in
theorem db_X16_open_121 {p : Program} {l : Launch} {e : Env} {s : State} {m : MethodId} {args : Array Value} {below : List Frame} {meth : Method} {c : Code} {Q : State → Prop} {A : Nat → Prop} {dC : Nat → ClassId} {dI : Nat → Nat → Nat} {a : Nat → Nat} {ac : Nat → ClassId} {n : Nat} {r : Int32 × (St × (St))} (C : nd_C p l s m args c A (dC, dI) cX16_open 7 RX16 ow_dm_X16_open (dk_X16 ac)) (K : nd_Ki p l e (headSpec ow_dm_X16_open ({ frames := 3, cells := 0, slots := 0, locals := 70 })).room s m args below meth c Q A (dC, dI) cX16_open .int (St × (St)) (dw_X16 a ac) r) : dj_X16_open_121 p l e s m args below meth c Q A dC dI a ac (df_X16_open_121 n) r := by
  obtain ⟨hlt, hx, hb, hml, hown, hts, hN, hA, hK⟩ := id C
  intro x2 x5 s0 H locs ls h hP hD hS hl
  unfold df_X16_open_121 at h
  refine lv_iconst (v := 0) hx hb dX16_open_121 (by decide) ?_
  refine lv_istore (lv' := [(6, .int 0), (0, .ref (a 0)), (2, .int x2), (5, .int x5)]) hx hb dX16_open_122 hl (by decide) rfl (fun ls hl => ?_)
  exact (db_X16_open_124 C K n) (x2) (x5) (0) s0 _ _ _ h hP hD hS (lv_sub hl [1, 2, 3, 0] rfl)
set_option maxHeartbeats 40000000 in
set_option maxRecDepth 100000 in
theorem db_X16_open_105 {p : Program} {l : Launch} {e : Env} {s : State} {m : MethodId} {args : Array Value} {below : List Frame} {meth : Method} {c : Code} {Q : State → Prop} {A : Nat → Prop} {dC : Nat → ClassId} {dI : Nat → Nat → Nat} {a : Nat → Nat} {ac : Nat → ClassId} {n : Nat} {r : Int32 × (St × (St))} (C : nd_C p l s m args c A (dC, dI) cX16_open 7 RX16 ow_dm_X16_open (dk_X16 ac)) (K : nd_Ki p l e (headSpec ow_dm_X16_open ({ frames := 3, cells := 0, slots := 0, locals := 70 })).room s m args below meth c Q A (dC, dI) cX16_open .int (St × (St)) (dw_X16 a ac) r) : dj_X16_open_105 p l e s m args below meth c Q A dC dI a ac (df_X16_open_105 n) r := by
  obtain ⟨hlt, hx, hb, hml, hown, hts, hN, hA, hK⟩ := id C
  intro x2 x5 s0 H locs ls h hP hD hS hl
  unfold df_X16_open_105 at h
  refine lv_iload hx hb dX16_open_105 (lv_at hl 2 rfl) ?_
  refine lv_iconst (v := (-1)) hx hb dX16_open_107 (by decide) ?_
  refine lv_icmp_eq (tgt := 121) hx hb dX16_open_108 (by decide) (fun c11 => ?_) (fun c11 => ?_)
  · have h := nd_pos h c11
    exact (db_X16_open_121 C K) (x2) (x5) s0 _ _ _ h hP hD hS (lv_sub hl [0, 1, 2] rfl)
  · have h := nd_neg h c11
    refine lv_iload_n hx hb dX16_open_111 rfl (lv_at hl 1 rfl) ?_
    refine lv_bipush (v := 16) hx hb dX16_open_112 (by decide) ?_
    refine lv_iand hx hb dX16_open_114 ?_
    refine lv_if_le (tgt := 121) hx hb dX16_open_115 (by decide) (fun c43 => ?_) (fun c43 => ?_)
    · have h := nd_pos h c43
      exact (db_X16_open_121 C K) (x2) (x5) s0 _ _ _ h hP hD hS (lv_sub hl [0, 1, 2] rfl)
    · have h := nd_neg h c43
      refine lv_bipush (v := (-3)) hx hb dX16_open_118 (by decide) ?_
      exact K _ _ _ _ _ _ dX16_open_120 rfl (Option.some.inj h).symm hP hD hS
set_option maxHeartbeats 40000000 in
set_option maxRecDepth 100000 in
theorem db_X16_open_60 {p : Program} {l : Launch} {e : Env} {s : State} {m : MethodId} {args : Array Value} {below : List Frame} {meth : Method} {c : Code} {Q : State → Prop} {A : Nat → Prop} {dC : Nat → ClassId} {dI : Nat → Nat → Nat} {a : Nat → Nat} {ac : Nat → ClassId} {n : Nat} {r : Int32 × (St × (St))} (C : nd_C p l s m args c A (dC, dI) cX16_open 7 RX16 ow_dm_X16_open (dk_X16 ac)) (K : nd_Ki p l e (headSpec ow_dm_X16_open ({ frames := 3, cells := 0, slots := 0, locals := 70 })).room s m args below meth c Q A (dC, dI) cX16_open .int (St × (St)) (dw_X16 a ac) r) : dj_X16_open_60 p l e s m args below meth c Q A dC dI a ac (df_X16_open_60 n) r := by
  obtain ⟨hlt, hx, hb, hml, hown, hts, hN, hA, hK⟩ := id C
  intro x1 x2 y0 s0 H locs ls h hP hD hS hl
  unfold df_X16_open_60 at h
  refine lv_istore_n (lv' := [(3, .int y0), (0, .ref (a 0)), (1, .int x1), (2, .int x2)]) hx hb dX16_open_60 rfl hl (by decide) rfl (fun ls hl => ?_)
  refine lv_iload_n hx hb dX16_open_61 rfl (lv_at hl 0 rfl) ?_
  refine lv_if_ne (tgt := 68) hx hb dX16_open_62 (by decide) (fun c2 => ?_) (fun c2 => ?_)
  · have h := nd_neg h c2
    refine lv_aload_n hx hb dX16_open_68 rfl (lv_at hl 1 rfl) ?_
    refine lv_iload_n hx hb dX16_open_69 rfl (lv_at hl 2 rfl) ?_
    obtain ⟨q3, s4, hq, h⟩ := nd_b2_e h
    have hPc := hP
    have hDc := hD
    have hKc := hK
    have hFc := nd_rs hD hS hA
    refine nd_cVi (As := [.int x1]) (rest := []) (q := q3) (w' := dw_X16 a ac s4) ⟨hx, hb, hml, hown, hts⟩ (fun sz => dm_X16_nameAt l hlt dC dI a ac n (x1) s0 hq sz) (cwV 1 hts gi_dm_X16_open_0 rfl rfl rfl (by decide +kernel) ⟨Nat.le_of_ble_eq_true rfl, Nat.le_of_ble_eq_true rfl⟩) hPc hDc hKc hS hA hN (va_recv hKc hPc (ci := 17) (q0 := 0) rfl rfl) rfl hl.1 rfl (Nat.le_of_ble_eq_true rfl) dX16_open_70 (fun H locs hP1 hD1 hk1 hS => ?_)
    have hP := hP1
    have hD := hD1.weaken (fun k q _ h => hFc q.1 h)
    refine lv_istore (lv' := [(4, .int q3), (3, .int y0), (0, .ref (a 0)), (1, .int x1), (2, .int x2)]) hx hb dX16_open_73 hl (by decide) rfl (fun ls hl => ?_)
    refine lv_iload hx hb dX16_open_75 (lv_at hl 0 rfl) ?_
    refine lv_if_ge (tgt := 83) hx hb dX16_open_77 (by decide) (fun c6 => ?_) (fun c6 => ?_)
    · have h := nd_pos h c6
      refine lv_aload_n hx hb dX16_open_83 rfl (lv_at hl 2 rfl) ?_
      obtain ⟨q7, s8, hq, h⟩ := nd_b2_e h
      have hPc := hP
      have hDc := hD
      have hKc := hK
      have hFc := nd_rs hD hS hA
      refine nd_cVi (As := []) (rest := []) (q := q7) (w' := dw_X16 a ac s8) ⟨hx, hb, hml, hown, hts⟩ (fun sz => dm_X16_named l hlt dC dI a ac n  s4 hq sz) (cwV 0 hts gi_dm_X16_open_1 rfl rfl rfl (by decide +kernel) ⟨Nat.le_of_ble_eq_true rfl, Nat.le_of_ble_eq_true rfl⟩) hPc hDc hKc hS hA hN (va_recv hKc hPc (ci := 17) (q0 := 0) rfl rfl) rfl hl.1 rfl (Nat.le_of_ble_eq_true rfl) dX16_open_84 (fun H locs hP1 hD1 hk1 hS => ?_)
      have hP := hP1
      have hD := hD1.weaken (fun k q _ h => hFc q.1 h)
      refine lv_istore (lv' := [(5, .int q7), (4, .int q3), (3, .int y0), (0, .ref (a 0)), (1, .int x1), (2, .int x2)]) hx hb dX16_open_87 hl (by decide) rfl (fun ls hl => ?_)
      refine lv_iload hx hb dX16_open_89 (lv_at hl 0 rfl) ?_
      refine lv_iconst (v := (-1)) hx hb dX16_open_91 (by decide) ?_
      refine lv_icmp_ne (tgt := 105) hx hb dX16_open_92 (by decide) (fun c10 => ?_) (fun c10 => ?_)
      · have h := nd_neg h c10
        exact (db_X16_open_105 C K) (x2) (q7) s8 _ _ _ h hP hD hS (lv_sub hl [3, 5, 0] rfl)
      · have h := nd_pos h c10
        refine lv_iload_n hx hb dX16_open_95 rfl (lv_at hl 5 rfl) ?_
        refine lv_bipush (v := 8) hx hb dX16_open_96 (by decide) ?_
        refine lv_iand hx hb dX16_open_98 ?_
        refine lv_if_ne (tgt := 105) hx hb dX16_open_99 (by decide) (fun c44 => ?_) (fun c44 => ?_)
        · have h := nd_neg h c44
          exact (db_X16_open_105 C K) (x2) (q7) s8 _ _ _ h hP hD hS (lv_sub hl [3, 5, 0] rfl)
        · have h := nd_pos h c44
          refine lv_bipush (v := (-2)) hx hb dX16_open_102 (by decide) ?_
          exact K _ _ _ _ _ _ dX16_open_104 rfl (Option.some.inj h).symm hP hD hS
    · have h := nd_neg h c6
      refine lv_iload hx hb dX16_open_80 (lv_at hl 0 rfl) ?_
      exact K _ _ _ _ _ _ dX16_open_82 rfl (Option.some.inj h).symm hP hD hS
  · have h := nd_pos h c2
    refine lv_bipush (v := (-22)) hx hb dX16_open_65 (by decide) ?_
    exact K _ _ _ _ _ _ dX16_open_67 rfl (Option.some.inj h).symm hP hD hS
set_option maxHeartbeats 40000000 in
set_option maxRecDepth 100000 in
theorem db_X16_open_59 {p : Program} {l : Launch} {e : Env} {s : State} {m : MethodId} {args : Array Value} {below : List Frame} {meth : Method} {c : Code} {Q : State → Prop} {A : Nat → Prop} {dC : Nat → ClassId} {dI : Nat → Nat → Nat} {a : Nat → Nat} {ac : Nat → ClassId} {n : Nat} {r : Int32 × (St × (St))} (C : nd_C p l s m args c A (dC, dI) cX16_open 7 RX16 ow_dm_X16_open (dk_X16 ac)) (K : nd_Ki p l e (headSpec ow_dm_X16_open ({ frames := 3, cells := 0, slots := 0, locals := 70 })).room s m args below meth c Q A (dC, dI) cX16_open .int (St × (St)) (dw_X16 a ac) r) : dj_X16_open_59 p l e s m args below meth c Q A dC dI a ac (df_X16_open_59 n) r := by
  obtain ⟨hlt, hx, hb, hml, hown, hts, hN, hA, hK⟩ := id C
  intro x1 x2 s0 H locs ls h hP hD hS hl
  unfold df_X16_open_59 at h
  refine lv_iconst (v := 0) hx hb dX16_open_59 (by decide) ?_
  exact (db_X16_open_60 C K) (x1) (x2) (0) s0 _ _ _ h hP hD hS (lv_sub hl [0, 1, 2] rfl)
set_option maxHeartbeats 40000000 in
set_option maxRecDepth 100000 in
theorem db_X16_open_55 {p : Program} {l : Launch} {e : Env} {s : State} {m : MethodId} {args : Array Value} {below : List Frame} {meth : Method} {c : Code} {Q : State → Prop} {A : Nat → Prop} {dC : Nat → ClassId} {dI : Nat → Nat → Nat} {a : Nat → Nat} {ac : Nat → ClassId} {n : Nat} {r : Int32 × (St × (St))} (C : nd_C p l s m args c A (dC, dI) cX16_open 7 RX16 ow_dm_X16_open (dk_X16 ac)) (K : nd_Ki p l e (headSpec ow_dm_X16_open ({ frames := 3, cells := 0, slots := 0, locals := 70 })).room s m args below meth c Q A (dC, dI) cX16_open .int (St × (St)) (dw_X16 a ac) r) : dj_X16_open_55 p l e s m args below meth c Q A dC dI a ac (df_X16_open_55 n) r := by
  obtain ⟨hlt, hx, hb, hml, hown, hts, hN, hA, hK⟩ := id C
  intro x1 x2 s0 H locs ls h hP hD hS hl
  unfold df_X16_open_55 at h
  refine lv_iconst (v := 1) hx hb dX16_open_55 (by decide) ?_
  refine lv_goto (tgt := 60) hx hb dX16_open_56 (by decide) ?_
  exact (db_X16_open_60 C K) (x1) (x2) (1) s0 _ _ _ h hP hD hS (lv_sub hl [0, 1, 2] rfl)
set_option maxHeartbeats 40000000 in
set_option maxRecDepth 100000 in
theorem db_X16_open_42 {p : Program} {l : Launch} {e : Env} {s : State} {m : MethodId} {args : Array Value} {below : List Frame} {meth : Method} {c : Code} {Q : State → Prop} {A : Nat → Prop} {dC : Nat → ClassId} {dI : Nat → Nat → Nat} {a : Nat → Nat} {ac : Nat → ClassId} {n : Nat} {r : Int32 × (St × (St))} (C : nd_C p l s m args c A (dC, dI) cX16_open 7 RX16 ow_dm_X16_open (dk_X16 ac)) (K : nd_Ki p l e (headSpec ow_dm_X16_open ({ frames := 3, cells := 0, slots := 0, locals := 70 })).room s m args below meth c Q A (dC, dI) cX16_open .int (St × (St)) (dw_X16 a ac) r) : dj_X16_open_42 p l e s m args below meth c Q A dC dI a ac (df_X16_open_42 n) r := by
  obtain ⟨hlt, hx, hb, hml, hown, hts, hN, hA, hK⟩ := id C
  intro x1 x2 s0 H locs ls h hP hD hS hl
  unfold df_X16_open_42 at h
  refine lv_iload_n hx hb dX16_open_42 rfl (lv_at hl 2 rfl) ?_
  refine lv_bipush (v := 32) hx hb dX16_open_43 (by decide) ?_
  refine lv_iand hx hb dX16_open_45 ?_
  refine lv_if_eq (tgt := 55) hx hb dX16_open_46 (by decide) (fun c49 => ?_) (fun c49 => ?_)
  · have h := nd_pos h c49
    exact (db_X16_open_55 C K) (x1) (x2) s0 _ _ _ h hP hD hS (lv_sub hl [0, 1, 2] rfl)
  · have h := nd_neg h c49
    refine lv_iload_n hx hb dX16_open_49 rfl (lv_at hl 2 rfl) ?_
    refine lv_iconst (v := 2) hx hb dX16_open_50 (by decide) ?_
    refine lv_iand hx hb dX16_open_51 ?_
    refine lv_if_le (tgt := 59) hx hb dX16_open_52 (by decide) (fun c50 => ?_) (fun c50 => ?_)
    · have h := nd_pos h c50
      exact (db_X16_open_59 C K) (x1) (x2) s0 _ _ _ h hP hD hS (lv_sub hl [0, 1, 2] rfl)
    · have h := nd_neg h c50
      exact (db_X16_open_55 C K) (x1) (x2) s0 _ _ _ h hP hD hS (lv_sub hl [0, 1, 2] rfl)
set_option maxHeartbeats 40000000 in
set_option maxRecDepth 100000 in
theorem db_X16_open_28 {p : Program} {l : Launch} {e : Env} {s : State} {m : MethodId} {args : Array Value} {below : List Frame} {meth : Method} {c : Code} {Q : State → Prop} {A : Nat → Prop} {dC : Nat → ClassId} {dI : Nat → Nat → Nat} {a : Nat → Nat} {ac : Nat → ClassId} {n : Nat} {r : Int32 × (St × (St))} (C : nd_C p l s m args c A (dC, dI) cX16_open 7 RX16 ow_dm_X16_open (dk_X16 ac)) (K : nd_Ki p l e (headSpec ow_dm_X16_open ({ frames := 3, cells := 0, slots := 0, locals := 70 })).room s m args below meth c Q A (dC, dI) cX16_open .int (St × (St)) (dw_X16 a ac) r) : dj_X16_open_28 p l e s m args below meth c Q A dC dI a ac (df_X16_open_28 n) r := by
  obtain ⟨hlt, hx, hb, hml, hown, hts, hN, hA, hK⟩ := id C
  intro x1 x2 s0 H locs ls h hP hD hS hl
  unfold df_X16_open_28 at h
  refine lv_iload_n hx hb dX16_open_28 rfl (lv_at hl 2 rfl) ?_
  refine lv_bipush (v := 16) hx hb dX16_open_29 (by decide) ?_
  refine lv_iand hx hb dX16_open_31 ?_
  refine lv_if_eq (tgt := 42) hx hb dX16_open_32 (by decide) (fun c48 => ?_) (fun c48 => ?_)
  · have h := nd_pos h c48
    exact (db_X16_open_42 C K) (x1) (x2) s0 _ _ _ h hP hD hS (lv_sub hl [0, 1, 2] rfl)
  · have h := nd_neg h c48
    refine lv_iload_n hx hb dX16_open_35 rfl (lv_at hl 2 rfl) ?_
    refine lv_bipush (v := 8) hx hb dX16_open_36 (by decide) ?_
    refine lv_iand hx hb dX16_open_38 ?_
    refine lv_if_le (tgt := 59) hx hb dX16_open_39 (by decide) (fun c51 => ?_) (fun c51 => ?_)
    · have h := nd_pos h c51
      exact (db_X16_open_59 C K) (x1) (x2) s0 _ _ _ h hP hD hS (lv_sub hl [0, 1, 2] rfl)
    · have h := nd_neg h c51
      exact (db_X16_open_42 C K) (x1) (x2) s0 _ _ _ h hP hD hS (lv_sub hl [0, 1, 2] rfl)
set_option maxHeartbeats 40000000 in
set_option maxRecDepth 100000 in
theorem db_X16_open_0 {p : Program} {l : Launch} {e : Env} {s : State} {m : MethodId} {args : Array Value} {below : List Frame} {meth : Method} {c : Code} {Q : State → Prop} {A : Nat → Prop} {dC : Nat → ClassId} {dI : Nat → Nat → Nat} {a : Nat → Nat} {ac : Nat → ClassId} {n : Nat} {r : Int32 × (St × (St))} (C : nd_C p l s m args c A (dC, dI) cX16_open 7 RX16 ow_dm_X16_open (dk_X16 ac)) (K : nd_Ki p l e (headSpec ow_dm_X16_open ({ frames := 3, cells := 0, slots := 0, locals := 70 })).room s m args below meth c Q A (dC, dI) cX16_open .int (St × (St)) (dw_X16 a ac) r) : dj_X16_open_0 p l e s m args below meth c Q A dC dI a ac (df_X16_open_0 n) r := by
  obtain ⟨hlt, hx, hb, hml, hown, hts, hN, hA, hK⟩ := id C
  intro v0 v1 s0 H locs ls h hP hD hS hl
  unfold df_X16_open_0 at h
  refine lv_iload_n hx hb dX16_open_0 rfl (lv_at hl 2 rfl) ?_
  refine lv_if_le (tgt := 59) hx hb dX16_open_1 (by decide) (fun c1 => ?_) (fun c1 => ?_)
  · have h := nd_pos h c1
    exact (db_X16_open_59 C K) (v0) (v1) s0 _ _ _ h hP hD hS (lv_sub hl [0, 1, 2] rfl)
  · have h := nd_neg h c1
    refine lv_iload_n hx hb dX16_open_4 rfl (lv_at hl 2 rfl) ?_
    refine lv_bipush (v := 64) hx hb dX16_open_5 (by decide) ?_
    refine lv_icmp_ge (tgt := 59) hx hb dX16_open_7 (by decide) (fun c45 => ?_) (fun c45 => ?_)
    · have h := nd_pos h c45
      exact (db_X16_open_59 C K) (v0) (v1) s0 _ _ _ h hP hD hS (lv_sub hl [0, 1, 2] rfl)
    · have h := nd_neg h c45
      refine lv_iload_n hx hb dX16_open_10 rfl (lv_at hl 2 rfl) ?_
      refine lv_iconst (v := 3) hx hb dX16_open_11 (by decide) ?_
      refine lv_iand hx hb dX16_open_12 ?_
      refine lv_if_le (tgt := 59) hx hb dX16_open_13 (by decide) (fun c46 => ?_) (fun c46 => ?_)
      · have h := nd_pos h c46
        exact (db_X16_open_59 C K) (v0) (v1) s0 _ _ _ h hP hD hS (lv_sub hl [0, 1, 2] rfl)
      · have h := nd_neg h c46
        refine lv_iload_n hx hb dX16_open_16 rfl (lv_at hl 2 rfl) ?_
        refine lv_iconst (v := 4) hx hb dX16_open_17 (by decide) ?_
        refine lv_iand hx hb dX16_open_18 ?_
        refine lv_if_eq (tgt := 28) hx hb dX16_open_19 (by decide) (fun c47 => ?_) (fun c47 => ?_)
        · have h := nd_pos h c47
          exact (db_X16_open_28 C K) (v0) (v1) s0 _ _ _ h hP hD hS (lv_sub hl [0, 1, 2] rfl)
        · have h := nd_neg h c47
          refine lv_iload_n hx hb dX16_open_22 rfl (lv_at hl 2 rfl) ?_
          refine lv_iconst (v := 2) hx hb dX16_open_23 (by decide) ?_
          refine lv_iand hx hb dX16_open_24 ?_
          refine lv_if_le (tgt := 59) hx hb dX16_open_25 (by decide) (fun c52 => ?_) (fun c52 => ?_)
          · have h := nd_pos h c52
            exact (db_X16_open_59 C K) (v0) (v1) s0 _ _ _ h hP hD hS (lv_sub hl [0, 1, 2] rfl)
          · have h := nd_neg h c52
            exact (db_X16_open_28 C K) (v0) (v1) s0 _ _ _ h hP hD hS (lv_sub hl [0, 1, 2] rfl)
set_option maxHeartbeats 40000000 in
set_option maxRecDepth 100000 in
theorem dm_X16_open (l : Launch) (hlt : l.stackTraces = false) (dC : Nat → ClassId) (dI : Nat → Nat → Nat) (a : Nat → Nat) (ac : Nat → ClassId) (n : Nat) (v0 : Int32) (v1 : Int32) (s0 : St × (St)) {r : Int32 × (St × (St))} (h : df_X16_open n v0 v1 s0 = some r) (sz : Nat) : Met l yX16_open ow_dm_X16_open ({ frames := 3, cells := 0, slots := 0, locals := 70 }) (va_Pc [.ref (a 0), .int v0, .int v1] (fun U => U.heap.size = sz ∧ va_P (dC, dI) vwCl (dw_X16 a ac s0) U.heap ∧ va_K (dC, dI) vwCl (dk_X16 ac) U ∧ va_D (fun _ => True) (dw_X16 a ac s0) ∧ nv_E dI (va_A (dw_X16 a ac s0) sz) U)) (va_Qi (fun x _ => x = r.1) (fun (_ : Unit) t => va_P (dC, dI) vwCl (dw_X16 a ac r.2) t.heap ∧ va_K (dC, dI) vwCl (dk_X16 ac) t ∧ va_D (va_A (dw_X16 a ac s0) sz) (dw_X16 a ac r.2)) (va_A (dw_X16 a ac s0) sz)) 0 0 (va_A (dw_X16 a ac s0) sz) := by
  refine Met.ofW (cc := cX16_open) (maxL := 7) (ret := (some .int)) (by decide) rfl ?_
  intro p e s m args below meth c s₁ B hml hv
  obtain ⟨rfl, hsz, hP, hK, hD0, hN⟩ := hv
  have hx := B.exec
  have hb := B.bytes
  have hr := B.returns
  have hts := atoms_spec (ws := ow_dm_X16_open) B.pre
  have hown : s.vm.findClass RX16 = some m.cls := findClass_of_methodNamed B.named
  have hlocks := B.notSynchronized
  subst hsz
  have hD := hD0.self (sz := s.heap.size)
  generalize hAe : va_A (dw_X16 a ac s0) s.heap.size = A at hD hN ⊢
  have hA : ∀ q : Nat, s.heap.size ≤ q → A q := fun q h => by rw [← hAe]; exact Or.inr h
  have hl := lv_entry ([.ref (a 0), .int v0, .int v1]) (n := 7) (Nat.le_of_ble_eq_true rfl)
  rw [lg_entry_eq]
  generalize (lg_sl ([.ref (a 0), .int v0, .int v1]) ++ List.replicate (7 - (lg_sl ([.ref (a 0), .int v0, .int v1])).length) Slot.unset).toArray = ls at hl ⊢
  have hl : lv_has ls 7 [(0, .ref (a 0)), (1, .int v0), (2, .int v1)] := hl
  exact db_X16_open_0 (dC := dC) (dI := dI) (a := a) (ac := ac) (n := n) (r := r) ⟨hlt, hx, hb, hml, hown, hts, hN, hA, hK⟩ (fun pc v τ H locs ls d z er hP hD hS => by subst er; exact W.zret (v := v) hx hb hr z (fun t ht hW => ⟨⟨v, (), rfl, rfl, by rw [ht]; exact hP, va_K.moved hW.alike hK, hD⟩, hS.F ht⟩) hS.2.2 d) v0 v1 s0 _ _ _ h hP hD va_S.rf (lv_sub hl [0, 1, 2] rfl)
def ow_dm_X16_unlink : List Cond := Cond.code yX16_unlink cX16_unlink 4 (some .int) :: ([Cond.methodLink RX16 505 yX16_nameAt, Cond.instanceMethod yX16_nameAt, Cond.selects RX16 yX16_nameAt yX16_nameAt, Cond.initialized RX16, Cond.methodLink RX16 508 yX16_named, Cond.instanceMethod yX16_named, Cond.selects RX16 yX16_named yX16_named, Cond.fieldLink RX16 91 "TimeMachineModel$Machine" "isNamed" "[Z", Cond.methodLink RX16 252 yX16_sweep, Cond.instanceMethod yX16_sweep, Cond.selects RX16 yX16_sweep yX16_sweep] ++ (u_ws RX16 TX16 56 ++ (ow_dm_X16_nameAt ++ (ow_dm_X16_named ++ (ow_dm_X16_sweep ++ [])))))
theorem gd_dm_X16_unlink : ∀ w ∈ ow_dm_X16_unlink, (w.onTables && w.keeps) = true ∨ ∃ ty, w = Cond.arrayClass ty := List.forall_mem_cons.mpr ⟨good_of_word rfl, List.forall_mem_append.mpr ⟨fun w h => good_of_word (List.all_eq_true.mp (by decide +kernel) w h), List.forall_mem_append.mpr ⟨gu_X16, List.forall_mem_append.mpr ⟨gd_dm_X16_nameAt, List.forall_mem_append.mpr ⟨gd_dm_X16_named, List.forall_mem_append.mpr ⟨gd_dm_X16_sweep, fun _ h => nomatch h⟩⟩⟩⟩⟩⟩
theorem hi_dm_X16_unlink_X16 : ∀ w ∈ u_ws RX16 TX16 56, w ∈ ow_dm_X16_unlink := fun w h => List.mem_cons_of_mem _ (List.mem_append_right _ (List.mem_append_left _ h))
theorem gi_dm_X16_unlink_0 : GoodIn ow_dm_X16_unlink (wsV RX16 505 RX16 yX16_nameAt ow_dm_X16_nameAt) := goodIn_app (goodIn_of _ (by decide +kernel)) (fun w h => ⟨List.mem_cons_of_mem _ (List.mem_append_right _ (List.mem_append_right _ (List.mem_append_left _ h))), gd_dm_X16_nameAt w h⟩)
theorem gi_dm_X16_unlink_1 : GoodIn ow_dm_X16_unlink (wsV RX16 508 RX16 yX16_named ow_dm_X16_named) := goodIn_app (goodIn_of _ (by decide +kernel)) (fun w h => ⟨List.mem_cons_of_mem _ (List.mem_append_right _ (List.mem_append_right _ (List.mem_append_right _ (List.mem_append_left _ h)))), gd_dm_X16_named w h⟩)
theorem gi_dm_X16_unlink_2 : GoodIn ow_dm_X16_unlink (wsV RX16 252 RX16 yX16_sweep ow_dm_X16_sweep) := goodIn_app (goodIn_of _ (by decide +kernel)) (fun w h => ⟨List.mem_cons_of_mem _ (List.mem_append_right _ (List.mem_append_right _ (List.mem_append_right _ (List.mem_append_right _ (List.mem_append_left _ h))))), gd_dm_X16_sweep w h⟩)
def dj_X16_unlink_0 (p : Program) (l : Launch) (e : Env) (s : State) (m : MethodId) (args : Array Value) (below : List Frame) (meth : Method) (c : Code) (Q : State → Prop) (A : Nat → Prop) (dC : Nat → ClassId) (dI : Nat → Nat → Nat) (a : Nat → Nat) (ac : Nat → ClassId) (g : Int32 → (St × (St)) → Option (Int32 × (St × (St)))) (r : Int32 × (St × (St))) : Prop := ∀ (v0 : Int32) (s0 : St × (St)) (H : Heap) (locs : List Loc) (ls : Array Slot), g v0 s0 = some r → va_P (dC, dI) vwCl (dw_X16 a ac s0) H → va_D A (dw_X16 a ac s0) → va_S A s.heap H locs → lv_has ls 4 [(0, .ref (a 0)), (1, .int v0)] → W p l e (headSpec ow_dm_X16_unlink ({ frames := 3, cells := 0, slots := 0, locals := 70 })).room s m args below meth c H locs 0 0 Q (F0 m 0 ls [])
set_option maxHeartbeats 40000000 in
set_option maxRecDepth 100000 in
theorem db_X16_unlink_0 {p : Program} {l : Launch} {e : Env} {s : State} {m : MethodId} {args : Array Value} {below : List Frame} {meth : Method} {c : Code} {Q : State → Prop} {A : Nat → Prop} {dC : Nat → ClassId} {dI : Nat → Nat → Nat} {a : Nat → Nat} {ac : Nat → ClassId} {n : Nat} {r : Int32 × (St × (St))} (C : nd_C p l s m args c A (dC, dI) cX16_unlink 4 RX16 ow_dm_X16_unlink (dk_X16 ac)) (K : nd_Ki p l e (headSpec ow_dm_X16_unlink ({ frames := 3, cells := 0, slots := 0, locals := 70 })).room s m args below meth c Q A (dC, dI) cX16_unlink .int (St × (St)) (dw_X16 a ac) r) : dj_X16_unlink_0 p l e s m args below meth c Q A dC dI a ac (df_X16_unlink_0 n) r := by
  obtain ⟨hlt, hx, hb, hml, hown, hts, hN, hA, hK⟩ := id C
  intro v0 s0 H locs ls h hP hD hS hl
  unfold df_X16_unlink_0 at h
  refine lv_aload_n hx hb dX16_unlink_0 rfl (lv_at hl 0 rfl) ?_
  refine lv_iload_n hx hb dX16_unlink_1 rfl (lv_at hl 1 rfl) ?_
  obtain ⟨q1, s2, hq, h⟩ := nd_b2_e h
  have hPc := hP
  have hDc := hD
  have hKc := hK
  have hFc := nd_rs hD hS hA
  refine nd_cVi (As := [.int v0]) (rest := []) (q := q1) (w' := dw_X16 a ac s2) ⟨hx, hb, hml, hown, hts⟩ (fun sz => dm_X16_nameAt l hlt dC dI a ac n (v0) s0 hq sz) (cwV 1 hts gi_dm_X16_unlink_0 rfl rfl rfl (by decide +kernel) ⟨Nat.le_of_ble_eq_true rfl, Nat.le_of_ble_eq_true rfl⟩) hPc hDc hKc hS hA hN (va_recv hKc hPc (ci := 17) (q0 := 0) rfl rfl) rfl hl.1 rfl (Nat.le_of_ble_eq_true rfl) dX16_unlink_2 (fun H locs hP1 hD1 hk1 hS => ?_)
  have hP := hP1
  have hD := hD1.weaken (fun k q _ h => hFc q.1 h)
  refine lv_istore_n (lv' := [(2, .int q1), (0, .ref (a 0)), (1, .int v0)]) hx hb dX16_unlink_5 rfl hl (by decide) rfl (fun ls hl => ?_)
  refine lv_iload_n hx hb dX16_unlink_6 rfl (lv_at hl 0 rfl) ?_
  refine lv_if_ge (tgt := 12) hx hb dX16_unlink_7 (by decide) (fun c4 => ?_) (fun c4 => ?_)
  · have h := nd_pos h c4
    refine lv_aload_n hx hb dX16_unlink_12 rfl (lv_at hl 1 rfl) ?_
    obtain ⟨q5, s6, hq, h⟩ := nd_b2_e h
    have hPc := hP
    have hDc := hD
    have hKc := hK
    have hFc := nd_rs hD hS hA
    refine nd_cVi (As := []) (rest := []) (q := q5) (w' := dw_X16 a ac s6) ⟨hx, hb, hml, hown, hts⟩ (fun sz => dm_X16_named l hlt dC dI a ac n  s2 hq sz) (cwV 0 hts gi_dm_X16_unlink_1 rfl rfl rfl (by decide +kernel) ⟨Nat.le_of_ble_eq_true rfl, Nat.le_of_ble_eq_true rfl⟩) hPc hDc hKc hS hA hN (va_recv hKc hPc (ci := 17) (q0 := 0) rfl rfl) rfl hl.1 rfl (Nat.le_of_ble_eq_true rfl) dX16_unlink_13 (fun H locs hP1 hD1 hk1 hS => ?_)
    have hP := hP1
    have hD := hD1.weaken (fun k q _ h => hFc q.1 h)
    refine lv_istore_n (lv' := [(3, .int q5), (2, .int q1), (0, .ref (a 0)), (1, .int v0)]) hx hb dX16_unlink_16 rfl hl (by decide) rfl (fun ls hl => ?_)
    refine lv_iload_n hx hb dX16_unlink_17 rfl (lv_at hl 0 rfl) ?_
    refine lv_iconst (v := (-1)) hx hb dX16_unlink_18 (by decide) ?_
    refine lv_icmp_ne (tgt := 25) hx hb dX16_unlink_19 (by decide) (fun c8 => ?_) (fun c8 => ?_)
    · have h := nd_neg h c8
      refine lv_aload_n hx hb dX16_unlink_25 rfl (lv_at hl 2 rfl) ?_
      refine va_get (D := (dC, dI)) (ci := 17) (v := .ref (a 27)) (C := RX16) (T := TX16) (N := 56) hx hb hts hi_dm_X16_unlink_X16 hown hK hP 0 rfl rfl 36 (by decide) (hts (.fieldLink RX16 91 "TimeMachineModel$Machine" "isNamed" "[Z") (List.mem_of_getElem? (i := 8) rfl)) (fun _ h9 => h9) rfl dX16_unlink_26 ?_
      refine lv_iload_n hx hb dX16_unlink_29 rfl (lv_at hl 0 rfl) ?_
      refine lv_iconst (v := 0) hx hb dX16_unlink_30 (by decide) ?_
      obtain ⟨i9, h⟩ := nd_ck_e h
      refine va_zast (i := q5) (x := 0) hx hb hK hP hD hS 27 26 rfl rfl i9 dX16_unlink_31 (fun H locs hP hD hS => ?_)
      obtain ⟨s10, es10, h⟩ := nd_let_e h
      have hP : va_P (dC, dI) vwCl (dw_X16 a ac s10) H := by rw [es10]; exact hP
      have hD : va_D A (dw_X16 a ac s10) := by rw [es10]; exact hD
      refine lv_aload_n hx hb dX16_unlink_32 rfl (lv_at hl 2 rfl) ?_
      obtain ⟨s12, hq, h⟩ := nd_b1_e h
      have hPc := hP
      have hDc := hD
      have hKc := hK
      have hFc := nd_rs hD hS hA
      refine nd_cVv (As := []) (rest := []) (w' := dw_X16 a ac s12) ⟨hx, hb, hml, hown, hts⟩ (fun sz => dm_X16_sweep l hlt dC dI a ac n  s10 hq sz) (cwV 0 hts gi_dm_X16_unlink_2 rfl rfl rfl (by decide +kernel) ⟨Nat.le_of_ble_eq_true rfl, Nat.le_of_ble_eq_true rfl⟩) hPc hDc hKc hS hA hN (va_recv hKc hPc (ci := 17) (q0 := 0) rfl rfl) rfl hl.1 rfl (Nat.le_of_ble_eq_true rfl) dX16_unlink_33 (fun H locs hP1 hD1 hk1 hS => ?_)
      have hP := hP1
      have hD := hD1.weaken (fun k q _ h => hFc q.1 h)
      refine lv_iconst (v := 0) hx hb dX16_unlink_36 (by decide) ?_
      exact K _ _ _ _ _ _ dX16_unlink_37 rfl (Option.some.inj h).symm hP hD hS
    · have h := nd_pos h c8
      refine lv_bipush (v := (-2)) hx hb dX16_unlink_22 (by decide) ?_
      exact K _ _ _ _ _ _ dX16_unlink_24 rfl (Option.some.inj h).symm hP hD hS
  · have h := nd_neg h c4
    refine lv_iload_n hx hb dX16_unlink_10 rfl (lv_at hl 0 rfl) ?_
    exact K _ _ _ _ _ _ dX16_unlink_11 rfl (Option.some.inj h).symm hP hD hS
set_option maxHeartbeats 40000000 in
set_option maxRecDepth 100000 in
theorem dm_X16_unlink (l : Launch) (hlt : l.stackTraces = false) (dC : Nat → ClassId) (dI : Nat → Nat → Nat) (a : Nat → Nat) (ac : Nat → ClassId) (n : Nat) (v0 : Int32) (s0 : St × (St)) {r : Int32 × (St × (St))} (h : df_X16_unlink n v0 s0 = some r) (sz : Nat) : Met l yX16_unlink ow_dm_X16_unlink ({ frames := 3, cells := 0, slots := 0, locals := 70 }) (va_Pc [.ref (a 0), .int v0] (fun U => U.heap.size = sz ∧ va_P (dC, dI) vwCl (dw_X16 a ac s0) U.heap ∧ va_K (dC, dI) vwCl (dk_X16 ac) U ∧ va_D (fun _ => True) (dw_X16 a ac s0) ∧ nv_E dI (va_A (dw_X16 a ac s0) sz) U)) (va_Qi (fun x _ => x = r.1) (fun (_ : Unit) t => va_P (dC, dI) vwCl (dw_X16 a ac r.2) t.heap ∧ va_K (dC, dI) vwCl (dk_X16 ac) t ∧ va_D (va_A (dw_X16 a ac s0) sz) (dw_X16 a ac r.2)) (va_A (dw_X16 a ac s0) sz)) 0 0 (va_A (dw_X16 a ac s0) sz) := by
  refine Met.ofW (cc := cX16_unlink) (maxL := 4) (ret := (some .int)) (by decide) rfl ?_
  intro p e s m args below meth c s₁ B hml hv
  obtain ⟨rfl, hsz, hP, hK, hD0, hN⟩ := hv
  have hx := B.exec
  have hb := B.bytes
  have hr := B.returns
  have hts := atoms_spec (ws := ow_dm_X16_unlink) B.pre
  have hown : s.vm.findClass RX16 = some m.cls := findClass_of_methodNamed B.named
  have hlocks := B.notSynchronized
  subst hsz
  have hD := hD0.self (sz := s.heap.size)
  generalize hAe : va_A (dw_X16 a ac s0) s.heap.size = A at hD hN ⊢
  have hA : ∀ q : Nat, s.heap.size ≤ q → A q := fun q h => by rw [← hAe]; exact Or.inr h
  have hl := lv_entry ([.ref (a 0), .int v0]) (n := 4) (Nat.le_of_ble_eq_true rfl)
  rw [lg_entry_eq]
  generalize (lg_sl ([.ref (a 0), .int v0]) ++ List.replicate (4 - (lg_sl ([.ref (a 0), .int v0])).length) Slot.unset).toArray = ls at hl ⊢
  have hl : lv_has ls 4 [(0, .ref (a 0)), (1, .int v0)] := hl
  exact db_X16_unlink_0 (dC := dC) (dI := dI) (a := a) (ac := ac) (n := n) (r := r) ⟨hlt, hx, hb, hml, hown, hts, hN, hA, hK⟩ (fun pc v τ H locs ls d z er hP hD hS => by subst er; exact W.zret (v := v) hx hb hr z (fun t ht hW => ⟨⟨v, (), rfl, rfl, by rw [ht]; exact hP, va_K.moved hW.alike hK, hD⟩, hS.F ht⟩) hS.2.2 d) v0 s0 _ _ _ h hP hD va_S.rf (lv_sub hl [0, 1] rfl)
def ow_dm_X16_seek : List Cond := Cond.code yX16_seek cX16_seek 7 (some .int) :: ([Cond.fieldLink RX16 232 "TimeMachineModel$Machine" "p" "I", Cond.methodLink RX16 491 yX16_openingOf, Cond.instanceMethod yX16_openingOf, Cond.selects RX16 yX16_openingOf yX16_openingOf, Cond.initialized RX16, Cond.fieldLink RX16 73 "TimeMachineModel$Machine" "kind" "[I", Cond.fieldLink RX16 100 "TimeMachineModel$Machine" "length" "[I", Cond.fieldLink RX16 76 "TimeMachineModel$Machine" "thing" "[I", Cond.constantLong RX16 514 (512), Cond.fieldLink RX16 79 "TimeMachineModel$Machine" "position" "[I"] ++ (u_ws RX16 TX16 56 ++ (ow_dm_X16_openingOf ++ [])))
theorem gd_dm_X16_seek : ∀ w ∈ ow_dm_X16_seek, (w.onTables && w.keeps) = true ∨ ∃ ty, w = Cond.arrayClass ty := List.forall_mem_cons.mpr ⟨good_of_word rfl, List.forall_mem_append.mpr ⟨fun w h => good_of_word (List.all_eq_true.mp (by decide +kernel) w h), List.forall_mem_append.mpr ⟨gu_X16, List.forall_mem_append.mpr ⟨gd_dm_X16_openingOf, fun _ h => nomatch h⟩⟩⟩⟩
theorem hi_dm_X16_seek_X16 : ∀ w ∈ u_ws RX16 TX16 56, w ∈ ow_dm_X16_seek := fun w h => List.mem_cons_of_mem _ (List.mem_append_right _ (List.mem_append_left _ h))
theorem gi_dm_X16_seek_0 : GoodIn ow_dm_X16_seek (wsV RX16 491 RX16 yX16_openingOf ow_dm_X16_openingOf) := goodIn_app (goodIn_of _ (by decide +kernel)) (fun w h => ⟨List.mem_cons_of_mem _ (List.mem_append_right _ (List.mem_append_right _ (List.mem_append_left _ h))), gd_dm_X16_openingOf w h⟩)
def dj_X16_seek_9 (p : Program) (l : Launch) (e : Env) (s : State) (m : MethodId) (args : Array Value) (below : List Frame) (meth : Method) (c : Code) (Q : State → Prop) (A : Nat → Prop) (dC : Nat → ClassId) (dI : Nat → Nat → Nat) (a : Nat → Nat) (ac : Nat → ClassId) (g : (St × (St)) → Option (Int32 × (St × (St)))) (r : Int32 × (St × (St))) : Prop := ∀ (s0 : St × (St)) (H : Heap) (locs : List Loc) (ls : Array Slot), g s0 = some r → va_P (dC, dI) vwCl (dw_X16 a ac s0) H → va_D A (dw_X16 a ac s0) → va_S A s.heap H locs → lv_has ls 7 [] → W p l e (headSpec ow_dm_X16_seek ({ frames := 1, cells := 0, slots := 0, locals := 22 })).room s m args below meth c H locs 0 0 Q (F0 m 9 ls [])
def dj_X16_seek_40 (p : Program) (l : Launch) (e : Env) (s : State) (m : MethodId) (args : Array Value) (below : List Frame) (meth : Method) (c : Code) (Q : State → Prop) (A : Nat → Prop) (dC : Nat → ClassId) (dI : Nat → Nat → Nat) (a : Nat → Nat) (ac : Nat → ClassId) (g : (St × (St)) → Option (Int32 × (St × (St)))) (r : Int32 × (St × (St))) : Prop := ∀ (s0 : St × (St)) (H : Heap) (locs : List Loc) (ls : Array Slot), g s0 = some r → va_P (dC, dI) vwCl (dw_X16 a ac s0) H → va_D A (dw_X16 a ac s0) → va_S A s.heap H locs → lv_has ls 7 [] → W p l e (headSpec ow_dm_X16_seek ({ frames := 1, cells := 0, slots := 0, locals := 22 })).room s m args below meth c H locs 0 0 Q (F0 m 40 ls [])
def dj_X16_seek_100 (p : Program) (l : Launch) (e : Env) (s : State) (m : MethodId) (args : Array Value) (below : List Frame) (meth : Method) (c : Code) (Q : State → Prop) (A : Nat → Prop) (dC : Nat → ClassId) (dI : Nat → Nat → Nat) (a : Nat → Nat) (ac : Nat → ClassId) (g : (St × (St)) → Option (Int32 × (St × (St)))) (r : Int32 × (St × (St))) : Prop := ∀ (s0 : St × (St)) (H : Heap) (locs : List Loc) (ls : Array Slot), g s0 = some r → va_P (dC, dI) vwCl (dw_X16 a ac s0) H → va_D A (dw_X16 a ac s0) → va_S A s.heap H locs → lv_has ls 7 [] → W p l e (headSpec ow_dm_X16_seek ({ frames := 1, cells := 0, slots := 0, locals := 22 })).room s m args below meth c H locs 0 0 Q (F0 m 100 ls [])
def dj_X16_seek_79 (p : Program) (l : Launch) (e : Env) (s : State) (m : MethodId) (args : Array Value) (below : List Frame) (meth : Method) (c : Code) (Q : State → Prop) (A : Nat → Prop) (dC : Nat → ClassId) (dI : Nat → Nat → Nat) (a : Nat → Nat) (ac : Nat → ClassId) (g : Int32 → Int32 → Int64 → (St × (St)) → Option (Int32 × (St × (St)))) (r : Int32 × (St × (St))) : Prop := ∀ (x2 : Int32) (x4 : Int32) (y0 : Int64) (s0 : St × (St)) (H : Heap) (locs : List Loc) (ls : Array Slot), g x2 x4 y0 s0 = some r → va_P (dC, dI) vwCl (dw_X16 a ac s0) H → va_D A (dw_X16 a ac s0) → va_S A s.heap H locs → lv_has ls 7 [(0, .ref (a 0)), (2, .int x2), (4, .int x4)] → W p l e (headSpec ow_dm_X16_seek ({ frames := 1, cells := 0, slots := 0, locals := 22 })).room s m args below meth c H locs 0 0 Q (F0 m 79 ls [.long y0])
def dj_X16_seek_0 (p : Program) (l : Launch) (e : Env) (s : State) (m : MethodId) (args : Array Value) (below : List Frame) (meth : Method) (c : Code) (Q : State → Prop) (A : Nat → Prop) (dC : Nat → ClassId) (dI : Nat → Nat → Nat) (a : Nat → Nat) (ac : Nat → ClassId) (g : Int32 → Int32 → Int32 → (St × (St)) → Option (Int32 × (St × (St)))) (r : Int32 × (St × (St))) : Prop := ∀ (v0 : Int32) (v1 : Int32) (v2 : Int32) (s0 : St × (St)) (H : Heap) (locs : List Loc) (ls : Array Slot), g v0 v1 v2 s0 = some r → va_P (dC, dI) vwCl (dw_X16 a ac s0) H → va_D A (dw_X16 a ac s0) → va_S A s.heap H locs → lv_has ls 7 [(0, .ref (a 0)), (1, .int v0), (2, .int v1), (3, .int v2)] → W p l e (headSpec ow_dm_X16_seek ({ frames := 1, cells := 0, slots := 0, locals := 22 })).room s m args below meth c H locs 0 0 Q (F0 m 0 ls [])
set_option maxHeartbeats 40000000 in
set_option maxRecDepth 100000 in
theorem db_X16_seek_9 {p : Program} {l : Launch} {e : Env} {s : State} {m : MethodId} {args : Array Value} {below : List Frame} {meth : Method} {c : Code} {Q : State → Prop} {A : Nat → Prop} {dC : Nat → ClassId} {dI : Nat → Nat → Nat} {a : Nat → Nat} {ac : Nat → ClassId} {n : Nat} {r : Int32 × (St × (St))} (C : nd_C p l s m args c A (dC, dI) cX16_seek 7 RX16 ow_dm_X16_seek (dk_X16 ac)) (K : nd_Ki p l e (headSpec ow_dm_X16_seek ({ frames := 1, cells := 0, slots := 0, locals := 22 })).room s m args below meth c Q A (dC, dI) cX16_seek .int (St × (St)) (dw_X16 a ac) r) : dj_X16_seek_9 p l e s m args below meth c Q A dC dI a ac (df_X16_seek_9 n) r := by
  obtain ⟨hlt, hx, hb, hml, hown, hts, hN, hA, hK⟩ := id C
  intro s0 H locs ls h hP hD hS hl
  unfold df_X16_seek_9 at h
  refine lv_bipush (v := (-22)) hx hb dX16_seek_9 (by decide) ?_
  exact K _ _ _ _ _ _ dX16_seek_11 rfl (Option.some.inj h).symm hP hD hS
set_option maxHeartbeats 40000000 in
set_option maxRecDepth 100000 in
theorem db_X16_seek_40 {p : Program} {l : Launch} {e : Env} {s : State} {m : MethodId} {args : Array Value} {below : List Frame} {meth : Method} {c : Code} {Q : State → Prop} {A : Nat → Prop} {dC : Nat → ClassId} {dI : Nat → Nat → Nat} {a : Nat → Nat} {ac : Nat → ClassId} {n : Nat} {r : Int32 × (St × (St))} (C : nd_C p l s m args c A (dC, dI) cX16_seek 7 RX16 ow_dm_X16_seek (dk_X16 ac)) (K : nd_Ki p l e (headSpec ow_dm_X16_seek ({ frames := 1, cells := 0, slots := 0, locals := 22 })).room s m args below meth c Q A (dC, dI) cX16_seek .int (St × (St)) (dw_X16 a ac) r) : dj_X16_seek_40 p l e s m args below meth c Q A dC dI a ac (df_X16_seek_40 n) r := by
  obtain ⟨hlt, hx, hb, hml, hown, hts, hN, hA, hK⟩ := id C
  intro s0 H locs ls h hP hD hS hl
  unfold df_X16_seek_40 at h
  refine lv_iconst (v := (-1)) hx hb dX16_seek_40 (by decide) ?_
  exact K _ _ _ _ _ _ dX16_seek_41 rfl (Option.some.inj h).symm hP hD hS
set_option maxHeartbeats 40000000 in
set_option maxRecDepth 100000 in
theorem db_X16_seek_100 {p : Program} {l : Launch} {e : Env} {s : State} {m : MethodId} {args : Array Value} {below : List Frame} {meth : Method} {c : Code} {Q : State → Prop} {A : Nat → Prop} {dC : Nat → ClassId} {dI : Nat → Nat → Nat} {a : Nat → Nat} {ac : Nat → ClassId} {n : Nat} {r : Int32 × (St × (St))} (C : nd_C p l s m args c A (dC, dI) cX16_seek 7 RX16 ow_dm_X16_seek (dk_X16 ac)) (K : nd_Ki p l e (headSpec ow_dm_X16_seek ({ frames := 1, cells := 0, slots := 0, locals := 22 })).room s m args below meth c Q A (dC, dI) cX16_seek .int (St × (St)) (dw_X16 a ac) r) : dj_X16_seek_100 p l e s m args below meth c Q A dC dI a ac (df_X16_seek_100 n) r := by
  obtain ⟨hlt, hx, hb, hml, hown, hts, hN, hA, hK⟩ := id C
  intro s0 H locs ls h hP hD hS hl
  unfold df_X16_seek_100 at h
  refine lv_iconst (v := (-1)) hx hb dX16_seek_100 (by decide) ?_
  exact K _ _ _ _ _ _ dX16_seek_101 rfl (Option.some.inj h).symm hP hD hS
set_option maxHeartbeats 40000000 in
set_option maxRecDepth 100000 in
theorem db_X16_seek_79 {p : Program} {l : Launch} {e : Env} {s : State} {m : MethodId} {args : Array Value} {below : List Frame} {meth : Method} {c : Code} {Q : State → Prop} {A : Nat → Prop} {dC : Nat → ClassId} {dI : Nat → Nat → Nat} {a : Nat → Nat} {ac : Nat → ClassId} {n : Nat} {r : Int32 × (St × (St))} (C : nd_C p l s m args c A (dC, dI) cX16_seek 7 RX16 ow_dm_X16_seek (dk_X16 ac)) (K : nd_Ki p l e (headSpec ow_dm_X16_seek ({ frames := 1, cells := 0, slots := 0, locals := 22 })).room s m args below meth c Q A (dC, dI) cX16_seek .int (St × (St)) (dw_X16 a ac) r) : dj_X16_seek_79 p l e s m args below meth c Q A dC dI a ac (df_X16_seek_79 n) r := by
  obtain ⟨hlt, hx, hb, hml, hown, hts, hN, hA, hK⟩ := id C
  intro x2 x4 y0 s0 H locs ls h hP hD hS hl
  unfold df_X16_seek_79 at h
  refine lv_iload_n hx hb dX16_seek_79 rfl (lv_at hl 1 rfl) ?_
  refine lv_i2l hx hb dX16_seek_80 rfl ?_
  refine lv_ladd hx hb dX16_seek_81 ?_
  refine lv_topl (fun z13 ez13 => ?_)
  have h := nd_at h ez13
  refine lv_lstore (lv' := [(5, .long z13), (0, .ref (a 0)), (2, .int x2), (4, .int x4)]) hx hb dX16_seek_82 hl (by decide) rfl (fun ls hl => ?_)
  refine lv_lload hx hb dX16_seek_84 (lv_at hl 0 rfl) ?_
  refine lv_lconst (v := 0) hx hb dX16_seek_86 (by decide) ?_
  refine W.lcmp hx hb dX16_seek_87 ?_
  refine lv_if_lt (tgt := 100) hx hb dX16_seek_88 (by decide) (fun c14 => ?_) (fun c14 => ?_)
  · have h := nd_pos h c14
    exact (db_X16_seek_100 C K)  s0 _ _ _ h hP hD hS (lv_sub hl [] rfl)
  · have h := nd_neg h c14
    refine lv_lload hx hb dX16_seek_91 (lv_at hl 0 rfl) ?_
    refine lv_ldc2 hx hb hown (hts (.constantLong RX16 514 (512)) (List.mem_of_getElem? (i := 9) rfl)) dX16_seek_93 ?_
    refine W.lcmp hx hb dX16_seek_96 ?_
    refine lv_if_le (tgt := 102) hx hb dX16_seek_97 (by decide) (fun c15 => ?_) (fun c15 => ?_)
    · have h := nd_pos h c15
      refine lv_aload_n hx hb dX16_seek_102 rfl (lv_at hl 1 rfl) ?_
      refine va_get (D := (dC, dI)) (ci := 17) (v := .ref (a 23)) (C := RX16) (T := TX16) (N := 56) hx hb hts hi_dm_X16_seek_X16 hown hK hP 0 rfl rfl 32 (by decide) (hts (.fieldLink RX16 79 "TimeMachineModel$Machine" "position" "[I") (List.mem_of_getElem? (i := 10) rfl)) (fun _ h9 => h9) rfl dX16_seek_103 ?_
      refine lv_iload hx hb dX16_seek_106 (lv_at hl 3 rfl) ?_
      refine lv_lload hx hb dX16_seek_108 (lv_at hl 0 rfl) ?_
      refine lv_l2i hx hb dX16_seek_110 rfl ?_
      obtain ⟨i16, h⟩ := nd_ck_e h
      refine va_iast (i := x4) (x := (z13.toInt32)) hx hb hK hP hD hS 23 22 rfl rfl i16 dX16_seek_111 (fun H locs hP hD hS => ?_)
      obtain ⟨s17, es17, h⟩ := nd_let_e h
      have hP : va_P (dC, dI) vwCl (dw_X16 a ac s17) H := by rw [es17]; exact hP
      have hD : va_D A (dw_X16 a ac s17) := by rw [es17]; exact hD
      refine lv_aload_n hx hb dX16_seek_112 rfl (lv_at hl 1 rfl) ?_
      refine va_get (D := (dC, dI)) (ci := 17) (v := .ref (a 23)) (C := RX16) (T := TX16) (N := 56) hx hb hts hi_dm_X16_seek_X16 hown hK hP 0 rfl rfl 32 (by decide) (hts (.fieldLink RX16 79 "TimeMachineModel$Machine" "position" "[I") (List.mem_of_getElem? (i := 10) rfl)) (fun _ h9 => h9) rfl dX16_seek_113 ?_
      refine lv_iload hx hb dX16_seek_116 (lv_at hl 3 rfl) ?_
      obtain ⟨i18, h⟩ := nd_ck_e h
      refine va_iald (i := x4) hx hb hK hP 23 22 rfl rfl i18 dX16_seek_118 ?_
      exact K _ _ _ _ _ _ dX16_seek_119 rfl (Option.some.inj h).symm hP hD hS
    · have h := nd_neg h c15
      exact (db_X16_seek_100 C K)  s0 _ _ _ h hP hD hS (lv_sub hl [] rfl)
set_option maxHeartbeats 40000000 in
set_option maxRecDepth 100000 in
theorem db_X16_seek_0 {p : Program} {l : Launch} {e : Env} {s : State} {m : MethodId} {args : Array Value} {below : List Frame} {meth : Method} {c : Code} {Q : State → Prop} {A : Nat → Prop} {dC : Nat → ClassId} {dI : Nat → Nat → Nat} {a : Nat → Nat} {ac : Nat → ClassId} {n : Nat} {r : Int32 × (St × (St))} (C : nd_C p l s m args c A (dC, dI) cX16_seek 7 RX16 ow_dm_X16_seek (dk_X16 ac)) (K : nd_Ki p l e (headSpec ow_dm_X16_seek ({ frames := 1, cells := 0, slots := 0, locals := 22 })).room s m args below meth c Q A (dC, dI) cX16_seek .int (St × (St)) (dw_X16 a ac) r) : dj_X16_seek_0 p l e s m args below meth c Q A dC dI a ac (df_X16_seek_0 n) r := by
  obtain ⟨hlt, hx, hb, hml, hown, hts, hN, hA, hK⟩ := id C
  intro v0 v1 v2 s0 H locs ls h hP hD hS hl
  unfold df_X16_seek_0 at h
  refine lv_iload_n hx hb dX16_seek_0 rfl (lv_at hl 3 rfl) ?_
  refine lv_if_lt (tgt := 9) hx hb dX16_seek_1 (by decide) (fun c1 => ?_) (fun c1 => ?_)
  · have h := nd_pos h c1
    exact (db_X16_seek_9 C K)  s0 _ _ _ h hP hD hS (lv_sub hl [] rfl)
  · have h := nd_neg h c1
    refine lv_iload_n hx hb dX16_seek_4 rfl (lv_at hl 3 rfl) ?_
    refine lv_iconst (v := 2) hx hb dX16_seek_5 (by decide) ?_
    refine lv_icmp_le (tgt := 12) hx hb dX16_seek_6 (by decide) (fun c2 => ?_) (fun c2 => ?_)
    · have h := nd_pos h c2
      refine lv_aload_n hx hb dX16_seek_12 rfl (lv_at hl 0 rfl) ?_
      refine lv_aload_n hx hb dX16_seek_13 rfl (lv_at hl 0 rfl) ?_
      refine va_get (D := (dC, dI)) (ci := 17) (v := .int (sI s0.1 12)) (C := RX16) (T := TX16) (N := 56) hx hb hts hi_dm_X16_seek_X16 hown hK hP 0 rfl rfl 51 (by decide) (hts (.fieldLink RX16 232 "TimeMachineModel$Machine" "p" "I") (List.mem_of_getElem? (i := 1) rfl)) (fun _ h9 => h9) rfl dX16_seek_14 ?_
      refine lv_iload_n hx hb dX16_seek_17 rfl (lv_at hl 1 rfl) ?_
      obtain ⟨q3, s4, hq, h⟩ := nd_b2_e h
      have hPc := hP
      have hDc := hD
      have hKc := hK
      have hFc := nd_rs hD hS hA
      refine nd_cVi (As := [.int (sI s0.1 12), .int v0]) (rest := []) (q := q3) (w' := dw_X16 a ac s4) ⟨hx, hb, hml, hown, hts⟩ (fun sz => dm_X16_openingOf l hlt dC dI a ac n ((sI s0.1 12)) (v0) s0 hq sz) (cwV 2 hts gi_dm_X16_seek_0 rfl rfl rfl (by decide +kernel) ⟨Nat.le_of_ble_eq_true rfl, Nat.le_of_ble_eq_true rfl⟩) hPc hDc hKc hS hA hN (va_recv hKc hPc (ci := 17) (q0 := 0) rfl rfl) rfl hl.1 rfl (Nat.le_of_ble_eq_true rfl) dX16_seek_18 (fun H locs hP1 hD1 hk1 hS => ?_)
      have hP := hP1
      have hD := hD1.weaken (fun k q _ h => hFc q.1 h)
      refine lv_istore (lv' := [(4, .int q3), (0, .ref (a 0)), (1, .int v0), (2, .int v1), (3, .int v2)]) hx hb dX16_seek_21 hl (by decide) rfl (fun ls hl => ?_)
      refine lv_iload hx hb dX16_seek_23 (lv_at hl 0 rfl) ?_
      refine lv_iconst (v := (-1)) hx hb dX16_seek_25 (by decide) ?_
      refine lv_icmp_eq (tgt := 40) hx hb dX16_seek_26 (by decide) (fun c6 => ?_) (fun c6 => ?_)
      · have h := nd_pos h c6
        exact (db_X16_seek_40 C K)  s4 _ _ _ h hP hD hS (lv_sub hl [] rfl)
      · have h := nd_neg h c6
        refine lv_aload_n hx hb dX16_seek_29 rfl (lv_at hl 1 rfl) ?_
        refine va_get (D := (dC, dI)) (ci := 17) (v := .ref (a 21)) (C := RX16) (T := TX16) (N := 56) hx hb hts hi_dm_X16_seek_X16 hown hK hP 0 rfl rfl 30 (by decide) (hts (.fieldLink RX16 73 "TimeMachineModel$Machine" "kind" "[I") (List.mem_of_getElem? (i := 6) rfl)) (fun _ h9 => h9) rfl dX16_seek_30 ?_
        refine lv_iload hx hb dX16_seek_33 (lv_at hl 0 rfl) ?_
        obtain ⟨i7, h⟩ := nd_ck_e h
        refine va_iald (i := q3) hx hb hK hP 21 20 rfl rfl i7 dX16_seek_35 ?_
        refine lv_iconst (v := 3) hx hb dX16_seek_36 (by decide) ?_
        refine lv_icmp_eq (tgt := 42) hx hb dX16_seek_37 (by decide) (fun c8 => ?_) (fun c8 => ?_)
        · have h := nd_pos h c8
          refine lv_iload_n hx hb dX16_seek_42 rfl (lv_at hl 4 rfl) ?_
          refine lv_if_ne (tgt := 50) hx hb dX16_seek_43 (by decide) (fun c9 => ?_) (fun c9 => ?_)
          · have h := nd_neg h c9
            refine lv_iload_n hx hb dX16_seek_50 rfl (lv_at hl 4 rfl) ?_
            refine lv_iconst (v := 1) hx hb dX16_seek_51 (by decide) ?_
            refine lv_icmp_ne (tgt := 66) hx hb dX16_seek_52 (by decide) (fun c10 => ?_) (fun c10 => ?_)
            · have h := nd_neg h c10
              refine lv_aload_n hx hb dX16_seek_66 rfl (lv_at hl 1 rfl) ?_
              refine va_get (D := (dC, dI)) (ci := 17) (v := .ref (a 30)) (C := RX16) (T := TX16) (N := 56) hx hb hts hi_dm_X16_seek_X16 hown hK hP 0 rfl rfl 39 (by decide) (hts (.fieldLink RX16 100 "TimeMachineModel$Machine" "length" "[I") (List.mem_of_getElem? (i := 7) rfl)) (fun _ h9 => h9) rfl dX16_seek_67 ?_
              refine lv_aload_n hx hb dX16_seek_70 rfl (lv_at hl 1 rfl) ?_
              refine va_get (D := (dC, dI)) (ci := 17) (v := .ref (a 22)) (C := RX16) (T := TX16) (N := 56) hx hb hts hi_dm_X16_seek_X16 hown hK hP 0 rfl rfl 31 (by decide) (hts (.fieldLink RX16 76 "TimeMachineModel$Machine" "thing" "[I") (List.mem_of_getElem? (i := 8) rfl)) (fun _ h9 => h9) rfl dX16_seek_71 ?_
              refine lv_iload hx hb dX16_seek_74 (lv_at hl 0 rfl) ?_
              obtain ⟨i11, h⟩ := nd_ck_e h
              refine va_iald (i := q3) hx hb hK hP 22 21 rfl rfl i11 dX16_seek_76 ?_
              obtain ⟨i12, h⟩ := nd_ck_e h
              refine va_iald (i := (sR s4.1 20 (Int32.toNatClampNeg q3))) hx hb hK hP 30 29 rfl rfl i12 dX16_seek_77 ?_
              refine lv_i2l hx hb dX16_seek_78 rfl ?_
              exact (db_X16_seek_79 C K) (v1) (q3) ((((sR s4.1 28 (Int32.toNatClampNeg (sR s4.1 20 (Int32.toNatClampNeg q3)))) : Int32).toInt64)) s4 _ _ _ h hP hD hS (lv_sub hl [1, 3, 0] rfl)
            · have h := nd_pos h c10
              refine lv_aload_n hx hb dX16_seek_55 rfl (lv_at hl 1 rfl) ?_
              refine va_get (D := (dC, dI)) (ci := 17) (v := .ref (a 23)) (C := RX16) (T := TX16) (N := 56) hx hb hts hi_dm_X16_seek_X16 hown hK hP 0 rfl rfl 32 (by decide) (hts (.fieldLink RX16 79 "TimeMachineModel$Machine" "position" "[I") (List.mem_of_getElem? (i := 10) rfl)) (fun _ h9 => h9) rfl dX16_seek_56 ?_
              refine lv_iload hx hb dX16_seek_59 (lv_at hl 0 rfl) ?_
              obtain ⟨i19, h⟩ := nd_ck_e h
              refine va_iald (i := q3) hx hb hK hP 23 22 rfl rfl i19 dX16_seek_61 ?_
              refine lv_i2l hx hb dX16_seek_62 rfl ?_
              refine lv_goto (tgt := 79) hx hb dX16_seek_63 (by decide) ?_
              exact (db_X16_seek_79 C K) (v1) (q3) ((((sR s4.1 21 (Int32.toNatClampNeg q3)) : Int32).toInt64)) s4 _ _ _ h hP hD hS (lv_sub hl [1, 3, 0] rfl)
          · have h := nd_pos h c9
            refine lv_lconst (v := 0) hx hb dX16_seek_46 (by decide) ?_
            refine lv_goto (tgt := 79) hx hb dX16_seek_47 (by decide) ?_
            exact (db_X16_seek_79 C K) (v1) (q3) (0) s4 _ _ _ h hP hD hS (lv_sub hl [1, 3, 0] rfl)
        · have h := nd_neg h c8
          exact (db_X16_seek_40 C K)  s4 _ _ _ h hP hD hS (lv_sub hl [] rfl)
    · have h := nd_neg h c2
      exact (db_X16_seek_9 C K)  s0 _ _ _ h hP hD hS (lv_sub hl [] rfl)
set_option maxHeartbeats 40000000 in
set_option maxRecDepth 100000 in
theorem dm_X16_seek (l : Launch) (hlt : l.stackTraces = false) (dC : Nat → ClassId) (dI : Nat → Nat → Nat) (a : Nat → Nat) (ac : Nat → ClassId) (n : Nat) (v0 : Int32) (v1 : Int32) (v2 : Int32) (s0 : St × (St)) {r : Int32 × (St × (St))} (h : df_X16_seek n v0 v1 v2 s0 = some r) (sz : Nat) : Met l yX16_seek ow_dm_X16_seek ({ frames := 1, cells := 0, slots := 0, locals := 22 }) (va_Pc [.ref (a 0), .int v0, .int v1, .int v2] (fun U => U.heap.size = sz ∧ va_P (dC, dI) vwCl (dw_X16 a ac s0) U.heap ∧ va_K (dC, dI) vwCl (dk_X16 ac) U ∧ va_D (fun _ => True) (dw_X16 a ac s0) ∧ nv_E dI (va_A (dw_X16 a ac s0) sz) U)) (va_Qi (fun x _ => x = r.1) (fun (_ : Unit) t => va_P (dC, dI) vwCl (dw_X16 a ac r.2) t.heap ∧ va_K (dC, dI) vwCl (dk_X16 ac) t ∧ va_D (va_A (dw_X16 a ac s0) sz) (dw_X16 a ac r.2)) (va_A (dw_X16 a ac s0) sz)) 0 0 (va_A (dw_X16 a ac s0) sz) := by
  refine Met.ofW (cc := cX16_seek) (maxL := 7) (ret := (some .int)) (by decide) rfl ?_
  intro p e s m args below meth c s₁ B hml hv
  obtain ⟨rfl, hsz, hP, hK, hD0, hN⟩ := hv
  have hx := B.exec
  have hb := B.bytes
  have hr := B.returns
  have hts := atoms_spec (ws := ow_dm_X16_seek) B.pre
  have hown : s.vm.findClass RX16 = some m.cls := findClass_of_methodNamed B.named
  have hlocks := B.notSynchronized
  subst hsz
  have hD := hD0.self (sz := s.heap.size)
  generalize hAe : va_A (dw_X16 a ac s0) s.heap.size = A at hD hN ⊢
  have hA : ∀ q : Nat, s.heap.size ≤ q → A q := fun q h => by rw [← hAe]; exact Or.inr h
  have hl := lv_entry ([.ref (a 0), .int v0, .int v1, .int v2]) (n := 7) (Nat.le_of_ble_eq_true rfl)
  rw [lg_entry_eq]
  generalize (lg_sl ([.ref (a 0), .int v0, .int v1, .int v2]) ++ List.replicate (7 - (lg_sl ([.ref (a 0), .int v0, .int v1, .int v2])).length) Slot.unset).toArray = ls at hl ⊢
  have hl : lv_has ls 7 [(0, .ref (a 0)), (1, .int v0), (2, .int v1), (3, .int v2)] := hl
  exact db_X16_seek_0 (dC := dC) (dI := dI) (a := a) (ac := ac) (n := n) (r := r) ⟨hlt, hx, hb, hml, hown, hts, hN, hA, hK⟩ (fun pc v τ H locs ls d z er hP hD hS => by subst er; exact W.zret (v := v) hx hb hr z (fun t ht hW => ⟨⟨v, (), rfl, rfl, by rw [ht]; exact hP, va_K.moved hW.alike hK, hD⟩, hS.F ht⟩) hS.2.2 d) v0 v1 v2 s0 _ _ _ h hP hD va_S.rf (lv_sub hl [0, 1, 2, 3] rfl)
def ow_dm_X16_rename : List Cond := Cond.code yX16_rename cX16_rename 6 (some .int) :: ([Cond.methodLink RX16 505 yX16_nameAt, Cond.instanceMethod yX16_nameAt, Cond.selects RX16 yX16_nameAt yX16_nameAt, Cond.initialized RX16, Cond.methodLink RX16 508 yX16_named, Cond.instanceMethod yX16_named, Cond.selects RX16 yX16_named yX16_named, Cond.methodLink RX16 511 yX16_entitle, Cond.instanceMethod yX16_entitle, Cond.selects RX16 yX16_entitle yX16_entitle, Cond.methodLink RX16 252 yX16_sweep, Cond.instanceMethod yX16_sweep, Cond.selects RX16 yX16_sweep yX16_sweep, Cond.fieldLink RX16 91 "TimeMachineModel$Machine" "isNamed" "[Z"] ++ (u_ws RX16 TX16 56 ++ (ow_dm_X16_nameAt ++ (ow_dm_X16_named ++ (ow_dm_X16_entitle ++ (ow_dm_X16_sweep ++ []))))))
theorem gd_dm_X16_rename : ∀ w ∈ ow_dm_X16_rename, (w.onTables && w.keeps) = true ∨ ∃ ty, w = Cond.arrayClass ty := List.forall_mem_cons.mpr ⟨good_of_word rfl, List.forall_mem_append.mpr ⟨fun w h => good_of_word (List.all_eq_true.mp (by decide +kernel) w h), List.forall_mem_append.mpr ⟨gu_X16, List.forall_mem_append.mpr ⟨gd_dm_X16_nameAt, List.forall_mem_append.mpr ⟨gd_dm_X16_named, List.forall_mem_append.mpr ⟨gd_dm_X16_entitle, List.forall_mem_append.mpr ⟨gd_dm_X16_sweep, fun _ h => nomatch h⟩⟩⟩⟩⟩⟩⟩
theorem hi_dm_X16_rename_X16 : ∀ w ∈ u_ws RX16 TX16 56, w ∈ ow_dm_X16_rename := fun w h => List.mem_cons_of_mem _ (List.mem_append_right _ (List.mem_append_left _ h))
theorem gi_dm_X16_rename_0 : GoodIn ow_dm_X16_rename (wsV RX16 505 RX16 yX16_nameAt ow_dm_X16_nameAt) := goodIn_app (goodIn_of _ (by decide +kernel)) (fun w h => ⟨List.mem_cons_of_mem _ (List.mem_append_right _ (List.mem_append_right _ (List.mem_append_left _ h))), gd_dm_X16_nameAt w h⟩)
theorem gi_dm_X16_rename_1 : GoodIn ow_dm_X16_rename (wsV RX16 508 RX16 yX16_named ow_dm_X16_named) := goodIn_app (goodIn_of _ (by decide +kernel)) (fun w h => ⟨List.mem_cons_of_mem _ (List.mem_append_right _ (List.mem_append_right _ (List.mem_append_right _ (List.mem_append_left _ h)))), gd_dm_X16_named w h⟩)
theorem gi_dm_X16_rename_2 : GoodIn ow_dm_X16_rename (wsV RX16 511 RX16 yX16_entitle ow_dm_X16_entitle) := goodIn_app (goodIn_of _ (by decide +kernel)) (fun w h => ⟨List.mem_cons_of_mem _ (List.mem_append_right _ (List.mem_append_right _ (List.mem_append_right _ (List.mem_append_right _ (List.mem_append_left _ h))))), gd_dm_X16_entitle w h⟩)
theorem gi_dm_X16_rename_3 : GoodIn ow_dm_X16_rename (wsV RX16 252 RX16 yX16_sweep ow_dm_X16_sweep) := goodIn_app (goodIn_of _ (by decide +kernel)) (fun w h => ⟨List.mem_cons_of_mem _ (List.mem_append_right _ (List.mem_append_right _ (List.mem_append_right _ (List.mem_append_right _ (List.mem_append_right _ (List.mem_append_left _ h)))))), gd_dm_X16_sweep w h⟩)
def dj_X16_rename_66 (p : Program) (l : Launch) (e : Env) (s : State) (m : MethodId) (args : Array Value) (below : List Frame) (meth : Method) (c : Code) (Q : State → Prop) (A : Nat → Prop) (dC : Nat → ClassId) (dI : Nat → Nat → Nat) (a : Nat → Nat) (ac : Nat → ClassId) (g : Int32 → (St × (St)) → Option (Int32 × (St × (St)))) (r : Int32 × (St × (St))) : Prop := ∀ (x4 : Int32) (s0 : St × (St)) (H : Heap) (locs : List Loc) (ls : Array Slot), g x4 s0 = some r → va_P (dC, dI) vwCl (dw_X16 a ac s0) H → va_D A (dw_X16 a ac s0) → va_S A s.heap H locs → lv_has ls 6 [(0, .ref (a 0)), (4, .int x4)] → W p l e (headSpec ow_dm_X16_rename ({ frames := 3, cells := 0, slots := 0, locals := 70 })).room s m args below meth c H locs 0 0 Q (F0 m 66 ls [])
def dj_X16_rename_0 (p : Program) (l : Launch) (e : Env) (s : State) (m : MethodId) (args : Array Value) (below : List Frame) (meth : Method) (c : Code) (Q : State → Prop) (A : Nat → Prop) (dC : Nat → ClassId) (dI : Nat → Nat → Nat) (a : Nat → Nat) (ac : Nat → ClassId) (g : Int32 → Int32 → (St × (St)) → Option (Int32 × (St × (St)))) (r : Int32 × (St × (St))) : Prop := ∀ (v0 : Int32) (v1 : Int32) (s0 : St × (St)) (H : Heap) (locs : List Loc) (ls : Array Slot), g v0 v1 s0 = some r → va_P (dC, dI) vwCl (dw_X16 a ac s0) H → va_D A (dw_X16 a ac s0) → va_S A s.heap H locs → lv_has ls 6 [(0, .ref (a 0)), (1, .int v0), (2, .int v1)] → W p l e (headSpec ow_dm_X16_rename ({ frames := 3, cells := 0, slots := 0, locals := 70 })).room s m args below meth c H locs 0 0 Q (F0 m 0 ls [])
set_option maxHeartbeats 40000000 in
set_option maxRecDepth 100000 in
theorem db_X16_rename_66 {p : Program} {l : Launch} {e : Env} {s : State} {m : MethodId} {args : Array Value} {below : List Frame} {meth : Method} {c : Code} {Q : State → Prop} {A : Nat → Prop} {dC : Nat → ClassId} {dI : Nat → Nat → Nat} {a : Nat → Nat} {ac : Nat → ClassId} {n : Nat} {r : Int32 × (St × (St))} (C : nd_C p l s m args c A (dC, dI) cX16_rename 6 RX16 ow_dm_X16_rename (dk_X16 ac)) (K : nd_Ki p l e (headSpec ow_dm_X16_rename ({ frames := 3, cells := 0, slots := 0, locals := 70 })).room s m args below meth c Q A (dC, dI) cX16_rename .int (St × (St)) (dw_X16 a ac) r) : dj_X16_rename_66 p l e s m args below meth c Q A dC dI a ac (df_X16_rename_66 n) r := by
  obtain ⟨hlt, hx, hb, hml, hown, hts, hN, hA, hK⟩ := id C
  intro x4 s0 H locs ls h hP hD hS hl
  unfold df_X16_rename_66 at h
  refine lv_aload_n hx hb dX16_rename_66 rfl (lv_at hl 0 rfl) ?_
  refine lv_iload hx hb dX16_rename_67 (lv_at hl 1 rfl) ?_
  obtain ⟨s18, hq, h⟩ := nd_b1_e h
  have hPc := hP
  have hDc := hD
  have hKc := hK
  have hFc := nd_rs hD hS hA
  refine nd_cVv (As := [.int x4]) (rest := []) (w' := dw_X16 a ac s18) ⟨hx, hb, hml, hown, hts⟩ (fun sz => dm_X16_entitle l hlt dC dI a ac n (x4) s0 hq sz) (cwV 1 hts gi_dm_X16_rename_2 rfl rfl rfl (by decide +kernel) ⟨Nat.le_of_ble_eq_true rfl, Nat.le_of_ble_eq_true rfl⟩) hPc hDc hKc hS hA hN (va_recv hKc hPc (ci := 17) (q0 := 0) rfl rfl) rfl hl.1 rfl (Nat.le_of_ble_eq_true rfl) dX16_rename_69 (fun H locs hP1 hD1 hk1 hS => ?_)
  have hP := hP1
  have hD := hD1.weaken (fun k q _ h => hFc q.1 h)
  refine lv_aload_n hx hb dX16_rename_72 rfl (lv_at hl 0 rfl) ?_
  obtain ⟨s21, hq, h⟩ := nd_b1_e h
  have hPc := hP
  have hDc := hD
  have hKc := hK
  have hFc := nd_rs hD hS hA
  refine nd_cVv (As := []) (rest := []) (w' := dw_X16 a ac s21) ⟨hx, hb, hml, hown, hts⟩ (fun sz => dm_X16_sweep l hlt dC dI a ac n  s18 hq sz) (cwV 0 hts gi_dm_X16_rename_3 rfl rfl rfl (by decide +kernel) ⟨Nat.le_of_ble_eq_true rfl, Nat.le_of_ble_eq_true rfl⟩) hPc hDc hKc hS hA hN (va_recv hKc hPc (ci := 17) (q0 := 0) rfl rfl) rfl hl.1 rfl (Nat.le_of_ble_eq_true rfl) dX16_rename_73 (fun H locs hP1 hD1 hk1 hS => ?_)
  have hP := hP1
  have hD := hD1.weaken (fun k q _ h => hFc q.1 h)
  refine lv_iconst (v := 0) hx hb dX16_rename_76 (by decide) ?_
  exact K _ _ _ _ _ _ dX16_rename_77 rfl (Option.some.inj h).symm hP hD hS
set_option maxHeartbeats 40000000 in
set_option maxRecDepth 100000 in
theorem db_X16_rename_0 {p : Program} {l : Launch} {e : Env} {s : State} {m : MethodId} {args : Array Value} {below : List Frame} {meth : Method} {c : Code} {Q : State → Prop} {A : Nat → Prop} {dC : Nat → ClassId} {dI : Nat → Nat → Nat} {a : Nat → Nat} {ac : Nat → ClassId} {n : Nat} {r : Int32 × (St × (St))} (C : nd_C p l s m args c A (dC, dI) cX16_rename 6 RX16 ow_dm_X16_rename (dk_X16 ac)) (K : nd_Ki p l e (headSpec ow_dm_X16_rename ({ frames := 3, cells := 0, slots := 0, locals := 70 })).room s m args below meth c Q A (dC, dI) cX16_rename .int (St × (St)) (dw_X16 a ac) r) : dj_X16_rename_0 p l e s m args below meth c Q A dC dI a ac (df_X16_rename_0 n) r := by
  obtain ⟨hlt, hx, hb, hml, hown, hts, hN, hA, hK⟩ := id C
  intro v0 v1 s0 H locs ls h hP hD hS hl
  unfold df_X16_rename_0 at h
  refine lv_aload_n hx hb dX16_rename_0 rfl (lv_at hl 0 rfl) ?_
  refine lv_iload_n hx hb dX16_rename_1 rfl (lv_at hl 1 rfl) ?_
  obtain ⟨q1, s2, hq, h⟩ := nd_b2_e h
  have hPc := hP
  have hDc := hD
  have hKc := hK
  have hFc := nd_rs hD hS hA
  refine nd_cVi (As := [.int v0]) (rest := []) (q := q1) (w' := dw_X16 a ac s2) ⟨hx, hb, hml, hown, hts⟩ (fun sz => dm_X16_nameAt l hlt dC dI a ac n (v0) s0 hq sz) (cwV 1 hts gi_dm_X16_rename_0 rfl rfl rfl (by decide +kernel) ⟨Nat.le_of_ble_eq_true rfl, Nat.le_of_ble_eq_true rfl⟩) hPc hDc hKc hS hA hN (va_recv hKc hPc (ci := 17) (q0 := 0) rfl rfl) rfl hl.1 rfl (Nat.le_of_ble_eq_true rfl) dX16_rename_2 (fun H locs hP1 hD1 hk1 hS => ?_)
  have hP := hP1
  have hD := hD1.weaken (fun k q _ h => hFc q.1 h)
  refine lv_istore_n (lv' := [(3, .int q1), (0, .ref (a 0)), (1, .int v0), (2, .int v1)]) hx hb dX16_rename_5 rfl hl (by decide) rfl (fun ls hl => ?_)
  refine lv_iload_n hx hb dX16_rename_6 rfl (lv_at hl 0 rfl) ?_
  refine lv_if_ge (tgt := 12) hx hb dX16_rename_7 (by decide) (fun c4 => ?_) (fun c4 => ?_)
  · have h := nd_pos h c4
    refine lv_aload_n hx hb dX16_rename_12 rfl (lv_at hl 1 rfl) ?_
    obtain ⟨q5, s6, hq, h⟩ := nd_b2_e h
    have hPc := hP
    have hDc := hD
    have hKc := hK
    have hFc := nd_rs hD hS hA
    refine nd_cVi (As := []) (rest := []) (q := q5) (w' := dw_X16 a ac s6) ⟨hx, hb, hml, hown, hts⟩ (fun sz => dm_X16_named l hlt dC dI a ac n  s2 hq sz) (cwV 0 hts gi_dm_X16_rename_1 rfl rfl rfl (by decide +kernel) ⟨Nat.le_of_ble_eq_true rfl, Nat.le_of_ble_eq_true rfl⟩) hPc hDc hKc hS hA hN (va_recv hKc hPc (ci := 17) (q0 := 0) rfl rfl) rfl hl.1 rfl (Nat.le_of_ble_eq_true rfl) dX16_rename_13 (fun H locs hP1 hD1 hk1 hS => ?_)
    have hP := hP1
    have hD := hD1.weaken (fun k q _ h => hFc q.1 h)
    refine lv_istore (lv' := [(4, .int q5), (3, .int q1), (0, .ref (a 0)), (1, .int v0), (2, .int v1)]) hx hb dX16_rename_16 hl (by decide) rfl (fun ls hl => ?_)
    refine lv_aload_n hx hb dX16_rename_18 rfl (lv_at hl 2 rfl) ?_
    refine lv_iload_n hx hb dX16_rename_19 rfl (lv_at hl 4 rfl) ?_
    obtain ⟨q8, s9, hq, h⟩ := nd_b2_e h
    have hPc := hP
    have hDc := hD
    have hKc := hK
    have hFc := nd_rs hD hS hA
    refine nd_cVi (As := [.int v1]) (rest := []) (q := q8) (w' := dw_X16 a ac s9) ⟨hx, hb, hml, hown, hts⟩ (fun sz => dm_X16_nameAt l hlt dC dI a ac n (v1) s6 hq sz) (cwV 1 hts gi_dm_X16_rename_0 rfl rfl rfl (by decide +kernel) ⟨Nat.le_of_ble_eq_true rfl, Nat.le_of_ble_eq_true rfl⟩) hPc hDc hKc hS hA hN (va_recv hKc hPc (ci := 17) (q0 := 0) rfl rfl) rfl hl.1 rfl (Nat.le_of_ble_eq_true rfl) dX16_rename_20 (fun H locs hP1 hD1 hk1 hS => ?_)
    have hP := hP1
    have hD := hD1.weaken (fun k q _ h => hFc q.1 h)
    refine lv_istore_n (lv' := [(3, .int q8), (4, .int q5), (0, .ref (a 0)), (1, .int v0), (2, .int v1)]) hx hb dX16_rename_23 rfl hl (by decide) rfl (fun ls hl => ?_)
    refine lv_iload_n hx hb dX16_rename_24 rfl (lv_at hl 0 rfl) ?_
    refine lv_if_ge (tgt := 30) hx hb dX16_rename_25 (by decide) (fun c11 => ?_) (fun c11 => ?_)
    · have h := nd_pos h c11
      refine lv_iload hx hb dX16_rename_30 (lv_at hl 1 rfl) ?_
      refine lv_iconst (v := (-1)) hx hb dX16_rename_32 (by decide) ?_
      refine lv_icmp_ne (tgt := 39) hx hb dX16_rename_33 (by decide) (fun c12 => ?_) (fun c12 => ?_)
      · have h := nd_neg h c12
        refine lv_aload_n hx hb dX16_rename_39 rfl (lv_at hl 2 rfl) ?_
        obtain ⟨q13, s14, hq, h⟩ := nd_b2_e h
        have hPc := hP
        have hDc := hD
        have hKc := hK
        have hFc := nd_rs hD hS hA
        refine nd_cVi (As := []) (rest := []) (q := q13) (w' := dw_X16 a ac s14) ⟨hx, hb, hml, hown, hts⟩ (fun sz => dm_X16_named l hlt dC dI a ac n  s9 hq sz) (cwV 0 hts gi_dm_X16_rename_1 rfl rfl rfl (by decide +kernel) ⟨Nat.le_of_ble_eq_true rfl, Nat.le_of_ble_eq_true rfl⟩) hPc hDc hKc hS hA hN (va_recv hKc hPc (ci := 17) (q0 := 0) rfl rfl) rfl hl.1 rfl (Nat.le_of_ble_eq_true rfl) dX16_rename_40 (fun H locs hP1 hD1 hk1 hS => ?_)
        have hP := hP1
        have hD := hD1.weaken (fun k q _ h => hFc q.1 h)
        refine lv_istore (lv' := [(5, .int q13), (3, .int q8), (4, .int q5), (0, .ref (a 0)), (1, .int v0), (2, .int v1)]) hx hb dX16_rename_43 hl (by decide) rfl (fun ls hl => ?_)
        refine lv_iload hx hb dX16_rename_45 (lv_at hl 0 rfl) ?_
        refine lv_iconst (v := (-1)) hx hb dX16_rename_47 (by decide) ?_
        refine lv_icmp_eq (tgt := 66) hx hb dX16_rename_48 (by decide) (fun c16 => ?_) (fun c16 => ?_)
        · have h := nd_pos h c16
          exact (db_X16_rename_66 C K) (q5) s14 _ _ _ h hP hD hS (lv_sub hl [3, 2] rfl)
        · have h := nd_neg h c16
          refine lv_iload hx hb dX16_rename_51 (lv_at hl 0 rfl) ?_
          refine lv_iload hx hb dX16_rename_53 (lv_at hl 2 rfl) ?_
          refine lv_icmp_eq (tgt := 66) hx hb dX16_rename_55 (by decide) (fun c23 => ?_) (fun c23 => ?_)
          · have h := nd_pos h c23
            exact (db_X16_rename_66 C K) (q5) s14 _ _ _ h hP hD hS (lv_sub hl [3, 2] rfl)
          · have h := nd_neg h c23
            refine lv_aload_n hx hb dX16_rename_58 rfl (lv_at hl 3 rfl) ?_
            refine va_get (D := (dC, dI)) (ci := 17) (v := .ref (a 27)) (C := RX16) (T := TX16) (N := 56) hx hb hts hi_dm_X16_rename_X16 hown hK hP 0 rfl rfl 36 (by decide) (hts (.fieldLink RX16 91 "TimeMachineModel$Machine" "isNamed" "[Z") (List.mem_of_getElem? (i := 14) rfl)) (fun _ h9 => h9) rfl dX16_rename_59 ?_
            refine lv_iload hx hb dX16_rename_62 (lv_at hl 0 rfl) ?_
            refine lv_iconst (v := 0) hx hb dX16_rename_64 (by decide) ?_
            obtain ⟨i24, h⟩ := nd_ck_e h
            refine va_zast (i := q13) (x := 0) hx hb hK hP hD hS 27 26 rfl rfl i24 dX16_rename_65 (fun H locs hP hD hS => ?_)
            obtain ⟨s25, es25, h⟩ := nd_let_e h
            have hP : va_P (dC, dI) vwCl (dw_X16 a ac s25) H := by rw [es25]; exact hP
            have hD : va_D A (dw_X16 a ac s25) := by rw [es25]; exact hD
            exact (db_X16_rename_66 C K) (q5) s25 _ _ _ h hP hD hS (lv_sub hl [3, 2] rfl)
      · have h := nd_pos h c12
        refine lv_bipush (v := (-2)) hx hb dX16_rename_36 (by decide) ?_
        exact K _ _ _ _ _ _ dX16_rename_38 rfl (Option.some.inj h).symm hP hD hS
    · have h := nd_neg h c11
      refine lv_iload_n hx hb dX16_rename_28 rfl (lv_at hl 0 rfl) ?_
      exact K _ _ _ _ _ _ dX16_rename_29 rfl (Option.some.inj h).symm hP hD hS
  · have h := nd_neg h c4
    refine lv_iload_n hx hb dX16_rename_10 rfl (lv_at hl 0 rfl) ?_
    exact K _ _ _ _ _ _ dX16_rename_11 rfl (Option.some.inj h).symm hP hD hS
set_option maxHeartbeats 40000000 in
set_option maxRecDepth 100000 in
theorem dm_X16_rename (l : Launch) (hlt : l.stackTraces = false) (dC : Nat → ClassId) (dI : Nat → Nat → Nat) (a : Nat → Nat) (ac : Nat → ClassId) (n : Nat) (v0 : Int32) (v1 : Int32) (s0 : St × (St)) {r : Int32 × (St × (St))} (h : df_X16_rename n v0 v1 s0 = some r) (sz : Nat) : Met l yX16_rename ow_dm_X16_rename ({ frames := 3, cells := 0, slots := 0, locals := 70 }) (va_Pc [.ref (a 0), .int v0, .int v1] (fun U => U.heap.size = sz ∧ va_P (dC, dI) vwCl (dw_X16 a ac s0) U.heap ∧ va_K (dC, dI) vwCl (dk_X16 ac) U ∧ va_D (fun _ => True) (dw_X16 a ac s0) ∧ nv_E dI (va_A (dw_X16 a ac s0) sz) U)) (va_Qi (fun x _ => x = r.1) (fun (_ : Unit) t => va_P (dC, dI) vwCl (dw_X16 a ac r.2) t.heap ∧ va_K (dC, dI) vwCl (dk_X16 ac) t ∧ va_D (va_A (dw_X16 a ac s0) sz) (dw_X16 a ac r.2)) (va_A (dw_X16 a ac s0) sz)) 0 0 (va_A (dw_X16 a ac s0) sz) := by
  refine Met.ofW (cc := cX16_rename) (maxL := 6) (ret := (some .int)) (by decide) rfl ?_
  intro p e s m args below meth c s₁ B hml hv
  obtain ⟨rfl, hsz, hP, hK, hD0, hN⟩ := hv
  have hx := B.exec
  have hb := B.bytes
  have hr := B.returns
  have hts := atoms_spec (ws := ow_dm_X16_rename) B.pre
  have hown : s.vm.findClass RX16 = some m.cls := findClass_of_methodNamed B.named
  have hlocks := B.notSynchronized
  subst hsz
  have hD := hD0.self (sz := s.heap.size)
  generalize hAe : va_A (dw_X16 a ac s0) s.heap.size = A at hD hN ⊢
  have hA : ∀ q : Nat, s.heap.size ≤ q → A q := fun q h => by rw [← hAe]; exact Or.inr h
  have hl := lv_entry ([.ref (a 0), .int v0, .int v1]) (n := 6) (Nat.le_of_ble_eq_true rfl)
  rw [lg_entry_eq]
  generalize (lg_sl ([.ref (a 0), .int v0, .int v1]) ++ List.replicate (6 - (lg_sl ([.ref (a 0), .int v0, .int v1])).length) Slot.unset).toArray = ls at hl ⊢
  have hl : lv_has ls 6 [(0, .ref (a 0)), (1, .int v0), (2, .int v1)] := hl
  exact db_X16_rename_0 (dC := dC) (dI := dI) (a := a) (ac := ac) (n := n) (r := r) ⟨hlt, hx, hb, hml, hown, hts, hN, hA, hK⟩ (fun pc v τ H locs ls d z er hP hD hS => by subst er; exact W.zret (v := v) hx hb hr z (fun t ht hW => ⟨⟨v, (), rfl, rfl, by rw [ht]; exact hP, va_K.moved hW.alike hK, hD⟩, hS.F ht⟩) hS.2.2 d) v0 v1 s0 _ _ _ h hP hD va_S.rf (lv_sub hl [0, 1, 2] rfl)
def ow_dm_X16_grow : List Cond := Cond.code yX16_grow cX16_grow 5 (some .int) :: ([Cond.fieldLink RX16 25 "TimeMachineModel$Machine" "heapBegin" "[I", Cond.fieldLink RX16 232 "TimeMachineModel$Machine" "p" "I", Cond.constant RX16 516 (60416), Cond.fieldLink RX16 28 "TimeMachineModel$Machine" "heapEnd" "[I", Cond.methodLink RX16 211 yX16_leave, Cond.instanceMethod yX16_leave, Cond.selects RX16 yX16_leave yX16_leave, Cond.initialized RX16, Cond.methodLink RX16 187 yX16_newPage, Cond.instanceMethod yX16_newPage, Cond.selects RX16 yX16_newPage yX16_newPage, Cond.methodLink RX16 397 yX16_hasFrames, Cond.instanceMethod yX16_hasFrames, Cond.selects RX16 yX16_hasFrames yX16_hasFrames] ++ (u_ws RX16 TX16 56 ++ (ow_dm_X16_leave ++ (ow_dm_X16_newPage ++ (ow_dm_X16_hasFrames ++ [])))))
theorem gd_dm_X16_grow : ∀ w ∈ ow_dm_X16_grow, (w.onTables && w.keeps) = true ∨ ∃ ty, w = Cond.arrayClass ty := List.forall_mem_cons.mpr ⟨good_of_word rfl, List.forall_mem_append.mpr ⟨fun w h => good_of_word (List.all_eq_true.mp (by decide +kernel) w h), List.forall_mem_append.mpr ⟨gu_X16, List.forall_mem_append.mpr ⟨gd_dm_X16_leave, List.forall_mem_append.mpr ⟨gd_dm_X16_newPage, List.forall_mem_append.mpr ⟨gd_dm_X16_hasFrames, fun _ h => nomatch h⟩⟩⟩⟩⟩⟩
theorem hi_dm_X16_grow_X16 : ∀ w ∈ u_ws RX16 TX16 56, w ∈ ow_dm_X16_grow := fun w h => List.mem_cons_of_mem _ (List.mem_append_right _ (List.mem_append_left _ h))
theorem gi_dm_X16_grow_0 : GoodIn ow_dm_X16_grow (wsV RX16 211 RX16 yX16_leave ow_dm_X16_leave) := goodIn_app (goodIn_of _ (by decide +kernel)) (fun w h => ⟨List.mem_cons_of_mem _ (List.mem_append_right _ (List.mem_append_right _ (List.mem_append_left _ h))), gd_dm_X16_leave w h⟩)
theorem gi_dm_X16_grow_1 : GoodIn ow_dm_X16_grow (wsV RX16 187 RX16 yX16_newPage ow_dm_X16_newPage) := goodIn_app (goodIn_of _ (by decide +kernel)) (fun w h => ⟨List.mem_cons_of_mem _ (List.mem_append_right _ (List.mem_append_right _ (List.mem_append_right _ (List.mem_append_left _ h)))), gd_dm_X16_newPage w h⟩)
theorem gi_dm_X16_grow_2 : GoodIn ow_dm_X16_grow (wsV RX16 397 RX16 yX16_hasFrames ow_dm_X16_hasFrames) := goodIn_app (goodIn_of _ (by decide +kernel)) (fun w h => ⟨List.mem_cons_of_mem _ (List.mem_append_right _ (List.mem_append_right _ (List.mem_append_right _ (List.mem_append_right _ (List.mem_append_left _ h))))), gd_dm_X16_hasFrames w h⟩)
def dj_X16_grow_20 (p : Program) (l : Launch) (e : Env) (s : State) (m : MethodId) (args : Array Value) (below : List Frame) (meth : Method) (c : Code) (Q : State → Prop) (A : Nat → Prop) (dC : Nat → ClassId) (dI : Nat → Nat → Nat) (a : Nat → Nat) (ac : Nat → ClassId) (g : (St × (St)) → Option (Int32 × (St × (St)))) (r : Int32 × (St × (St))) : Prop := ∀ (s0 : St × (St)) (H : Heap) (locs : List Loc) (ls : Array Slot), g s0 = some r → va_P (dC, dI) vwCl (dw_X16 a ac s0) H → va_D A (dw_X16 a ac s0) → va_S A s.heap H locs → lv_has ls 5 [] → W p l e (headSpec ow_dm_X16_grow ({ frames := 2, cells := 0, slots := 0, locals := 46 })).room s m args below meth c H locs 0 0 Q (F0 m 20 ls [])
def dj_X16_grow_98 (p : Program) (l : Launch) (e : Env) (s : State) (m : MethodId) (args : Array Value) (below : List Frame) (meth : Method) (c : Code) (Q : State → Prop) (A : Nat → Prop) (dC : Nat → ClassId) (dI : Nat → Nat → Nat) (a : Nat → Nat) (ac : Nat → ClassId) (g : Int32 → Int32 → Int32 → (St × (St)) → Option (Int32 × (St × (St)))) (r : Int32 × (St × (St))) : Prop := ∀ (x1 : Int32) (x2 : Int32) (x4 : Int32) (s0 : St × (St)) (H : Heap) (locs : List Loc) (ls : Array Slot), g x1 x2 x4 s0 = some r → va_P (dC, dI) vwCl (dw_X16 a ac s0) H → va_D A (dw_X16 a ac s0) → va_S A s.heap H locs → lv_has ls 5 [(0, .ref (a 0)), (1, .int x1), (2, .int x2), (4, .int x4)] → W p l e (headSpec ow_dm_X16_grow ({ frames := 2, cells := 0, slots := 0, locals := 46 })).room s m args below meth c H locs 0 0 Q (F0 m 98 ls [])
def dj_X16_grow_72 (p : Program) (l : Launch) (e : Env) (s : State) (m : MethodId) (args : Array Value) (below : List Frame) (meth : Method) (c : Code) (Q : State → Prop) (A : Nat → Prop) (dC : Nat → ClassId) (dI : Nat → Nat → Nat) (a : Nat → Nat) (ac : Nat → ClassId) (g : Int32 → Int32 → Int32 → Int32 → (St × (St)) → Option (Int32 × (St × (St)))) (r : Int32 × (St × (St))) : Prop := ∀ (x1 : Int32) (x2 : Int32) (x3 : Int32) (x4 : Int32) (s0 : St × (St)) (H : Heap) (locs : List Loc) (ls : Array Slot), g x1 x2 x3 x4 s0 = some r → va_P (dC, dI) vwCl (dw_X16 a ac s0) H → va_D A (dw_X16 a ac s0) → va_S A s.heap H locs → lv_has ls 5 [(0, .ref (a 0)), (1, .int x1), (2, .int x2), (3, .int x3), (4, .int x4)] → W p l e (headSpec ow_dm_X16_grow ({ frames := 2, cells := 0, slots := 0, locals := 46 })).room s m args below meth c H locs 0 0 Q (F0 m 72 ls [])
def dj_X16_grow_69 (p : Program) (l : Launch) (e : Env) (s : State) (m : MethodId) (args : Array Value) (below : List Frame) (meth : Method) (c : Code) (Q : State → Prop) (A : Nat → Prop) (dC : Nat → ClassId) (dI : Nat → Nat → Nat) (a : Nat → Nat) (ac : Nat → ClassId) (g : Int32 → Int32 → Int32 → (St × (St)) → Option (Int32 × (St × (St)))) (r : Int32 × (St × (St))) : Prop := ∀ (x1 : Int32) (x2 : Int32) (x3 : Int32) (s0 : St × (St)) (H : Heap) (locs : List Loc) (ls : Array Slot), g x1 x2 x3 s0 = some r → va_P (dC, dI) vwCl (dw_X16 a ac s0) H → va_D A (dw_X16 a ac s0) → va_S A s.heap H locs → lv_has ls 5 [(0, .ref (a 0)), (1, .int x1), (2, .int x2), (3, .int x3)] → W p l e (headSpec ow_dm_X16_grow ({ frames := 2, cells := 0, slots := 0, locals := 46 })).room s m args below meth c H locs 0 0 Q (F0 m 69 ls [])
def dj_X16_grow_0 (p : Program) (l : Launch) (e : Env) (s : State) (m : MethodId) (args : Array Value) (below : List Frame) (meth : Method) (c : Code) (Q : State → Prop) (A : Nat → Prop) (dC : Nat → ClassId) (dI : Nat → Nat → Nat) (a : Nat → Nat) (ac : Nat → ClassId) (g : Int32 → (St × (St)) → Option (Int32 × (St × (St)))) (r : Int32 × (St × (St))) : Prop := ∀ (v0 : Int32) (s0 : St × (St)) (H : Heap) (locs : List Loc) (ls : Array Slot), g v0 s0 = some r → va_P (dC, dI) vwCl (dw_X16 a ac s0) H → va_D A (dw_X16 a ac s0) → va_S A s.heap H locs → lv_has ls 5 [(0, .ref (a 0)), (1, .int v0)] → W p l e (headSpec ow_dm_X16_grow ({ frames := 2, cells := 0, slots := 0, locals := 46 })).room s m args below meth c H locs 0 0 Q (F0 m 0 ls [])
set_option maxHeartbeats 40000000 in
set_option maxRecDepth 100000 in
theorem db_X16_grow_20 {p : Program} {l : Launch} {e : Env} {s : State} {m : MethodId} {args : Array Value} {below : List Frame} {meth : Method} {c : Code} {Q : State → Prop} {A : Nat → Prop} {dC : Nat → ClassId} {dI : Nat → Nat → Nat} {a : Nat → Nat} {ac : Nat → ClassId} {n : Nat} {r : Int32 × (St × (St))} (C : nd_C p l s m args c A (dC, dI) cX16_grow 5 RX16 ow_dm_X16_grow (dk_X16 ac)) (K : nd_Ki p l e (headSpec ow_dm_X16_grow ({ frames := 2, cells := 0, slots := 0, locals := 46 })).room s m args below meth c Q A (dC, dI) cX16_grow .int (St × (St)) (dw_X16 a ac) r) : dj_X16_grow_20 p l e s m args below meth c Q A dC dI a ac (df_X16_grow_20 n) r := by
  obtain ⟨hlt, hx, hb, hml, hown, hts, hN, hA, hK⟩ := id C
  intro s0 H locs ls h hP hD hS hl
  unfold df_X16_grow_20 at h
  refine lv_bipush (v := (-22)) hx hb dX16_grow_20 (by decide) ?_
  exact K _ _ _ _ _ _ dX16_grow_22 rfl (Option.some.inj h).symm hP hD hS
set_option maxHeartbeats 40000000 in
set_option maxRecDepth 100000 in
theorem dB_X16_grow_98 {p : Program} {l : Launch} {e : Env} {s : State} {m : MethodId} {args : Array Value} {below : List Frame} {meth : Method} {c : Code} {Q : State → Prop} {A : Nat → Prop} {dC : Nat → ClassId} {dI : Nat → Nat → Nat} {a : Nat → Nat} {ac : Nat → ClassId} {n : Nat} {r : Int32 × (St × (St))} (C : nd_C p l s m args c A (dC, dI) cX16_grow 5 RX16 ow_dm_X16_grow (dk_X16 ac)) (K : nd_Ki p l e (headSpec ow_dm_X16_grow ({ frames := 2, cells := 0, slots := 0, locals := 46 })).room s m args below meth c Q A (dC, dI) cX16_grow .int (St × (St)) (dw_X16 a ac) r) {g98 : Int32 → Int32 → Int32 → (St × (St)) → Option (Int32 × (St × (St)))} (J98 : dj_X16_grow_98 p l e s m args below meth c Q A dC dI a ac g98 r) : dj_X16_grow_98 p l e s m args below meth c Q A dC dI a ac (dF_X16_grow_98 n g98) r := by
  obtain ⟨hlt, hx, hb, hml, hown, hts, hN, hA, hK⟩ := id C
  intro x1 x2 x4 s0 H locs ls h hP hD hS hl
  unfold dF_X16_grow_98 at h
  refine lv_iload hx hb dX16_grow_98 (lv_at hl 3 rfl) ?_
  refine lv_iload_n hx hb dX16_grow_100 rfl (lv_at hl 2 rfl) ?_
  refine lv_icmp_ge (tgt := 124) hx hb dX16_grow_101 (by decide) (fun c9 => ?_) (fun c9 => ?_)
  · have h := nd_pos h c9
    refine lv_aload_n hx hb dX16_grow_124 rfl (lv_at hl 0 rfl) ?_
    refine va_get (D := (dC, dI)) (ci := 17) (v := .ref (a 7)) (C := RX16) (T := TX16) (N := 56) hx hb hts hi_dm_X16_grow_X16 hown hK hP 0 rfl rfl 15 (by decide) (hts (.fieldLink RX16 28 "TimeMachineModel$Machine" "heapEnd" "[I") (List.mem_of_getElem? (i := 4) rfl)) (fun _ h9 => h9) rfl dX16_grow_125 ?_
    refine lv_aload_n hx hb dX16_grow_128 rfl (lv_at hl 0 rfl) ?_
    refine va_get (D := (dC, dI)) (ci := 17) (v := .int (sI s0.1 12)) (C := RX16) (T := TX16) (N := 56) hx hb hts hi_dm_X16_grow_X16 hown hK hP 0 rfl rfl 51 (by decide) (hts (.fieldLink RX16 232 "TimeMachineModel$Machine" "p" "I") (List.mem_of_getElem? (i := 2) rfl)) (fun _ h9 => h9) rfl dX16_grow_129 ?_
    obtain ⟨i10, h⟩ := nd_ck_e h
    refine va_iald (i := (sI s0.1 12)) hx hb hK hP 7 6 rfl rfl i10 dX16_grow_132 ?_
    refine lv_topi (fun z11 ez11 => ?_)
    have h := nd_at h ez11
    refine lv_istore (lv' := [(4, .int z11), (0, .ref (a 0)), (1, .int x1), (2, .int x2)]) hx hb dX16_grow_133 hl (by decide) rfl (fun ls hl => ?_)
    refine lv_aload_n hx hb dX16_grow_135 rfl (lv_at hl 1 rfl) ?_
    refine va_get (D := (dC, dI)) (ci := 17) (v := .ref (a 7)) (C := RX16) (T := TX16) (N := 56) hx hb hts hi_dm_X16_grow_X16 hown hK hP 0 rfl rfl 15 (by decide) (hts (.fieldLink RX16 28 "TimeMachineModel$Machine" "heapEnd" "[I") (List.mem_of_getElem? (i := 4) rfl)) (fun _ h9 => h9) rfl dX16_grow_136 ?_
    refine lv_aload_n hx hb dX16_grow_139 rfl (lv_at hl 1 rfl) ?_
    refine va_get (D := (dC, dI)) (ci := 17) (v := .int (sI s0.1 12)) (C := RX16) (T := TX16) (N := 56) hx hb hts hi_dm_X16_grow_X16 hown hK hP 0 rfl rfl 51 (by decide) (hts (.fieldLink RX16 232 "TimeMachineModel$Machine" "p" "I") (List.mem_of_getElem? (i := 2) rfl)) (fun _ h9 => h9) rfl dX16_grow_140 ?_
    refine lv_iload_n hx hb dX16_grow_143 rfl (lv_at hl 2 rfl) ?_
    obtain ⟨i12, h⟩ := nd_ck_e h
    refine va_iast (i := (sI s0.1 12)) (x := x1) hx hb hK hP hD hS 7 6 rfl rfl i12 dX16_grow_144 (fun H locs hP hD hS => ?_)
    obtain ⟨s13, es13, h⟩ := nd_let_e h
    have hP : va_P (dC, dI) vwCl (dw_X16 a ac s13) H := by rw [es13]; exact hP
    have hD : va_D A (dw_X16 a ac s13) := by rw [es13]; exact hD
    refine lv_iload hx hb dX16_grow_145 (lv_at hl 0 rfl) ?_
    exact K _ _ _ _ _ _ dX16_grow_147 rfl (Option.some.inj h).symm hP hD hS
  · have h := nd_neg h c9
    refine lv_aload_n hx hb dX16_grow_104 rfl (lv_at hl 0 rfl) ?_
    refine lv_bipush (v := 64) hx hb dX16_grow_105 (by decide) ?_
    refine lv_aload_n hx hb dX16_grow_107 rfl (lv_at hl 0 rfl) ?_
    refine va_get (D := (dC, dI)) (ci := 17) (v := .int (sI s0.1 12)) (C := RX16) (T := TX16) (N := 56) hx hb hts hi_dm_X16_grow_X16 hown hK hP 0 rfl rfl 51 (by decide) (hts (.fieldLink RX16 232 "TimeMachineModel$Machine" "p" "I") (List.mem_of_getElem? (i := 2) rfl)) (fun _ h9 => h9) rfl dX16_grow_108 ?_
    refine lv_imul hx hb dX16_grow_111 ?_
    refine lv_iload hx hb dX16_grow_112 (lv_at hl 3 rfl) ?_
    refine lv_iadd hx hb dX16_grow_114 ?_
    obtain ⟨s15, hq, h⟩ := nd_b1_e h
    have hPc := hP
    have hDc := hD
    have hKc := hK
    have hFc := nd_rs hD hS hA
    refine nd_cVv (As := [.int ((64 * (sI s0.1 12)) + x4)]) (rest := []) (w' := dw_X16 a ac s15) ⟨hx, hb, hml, hown, hts⟩ (fun sz => dm_X16_leave l hlt dC dI a ac n (((64 * (sI s0.1 12)) + x4)) s0 hq sz) (cwV 1 hts gi_dm_X16_grow_0 rfl rfl rfl (by decide +kernel) ⟨Nat.le_of_ble_eq_true rfl, Nat.le_of_ble_eq_true rfl⟩) hPc hDc hKc hS hA hN (va_recv hKc hPc (ci := 17) (q0 := 0) rfl rfl) rfl hl.1 rfl (Nat.le_of_ble_eq_true rfl) dX16_grow_115 (fun H locs hP1 hD1 hk1 hS => ?_)
    have hP := hP1
    have hD := hD1.weaken (fun k q _ h => hFc q.1 h)
    obtain ⟨z17, ez17, h⟩ := nd_let_e h
    refine lv_iinc (v := z17) (lv' := [(4, .int z17), (0, .ref (a 0)), (1, .int x1), (2, .int x2)]) hx hb dX16_grow_118 hl (k := 3) rfl (by rw [ez17]) (by decide) rfl (fun ls hl => ?_)
    refine lv_goto (tgt := 98) hx hb dX16_grow_121 (by decide) ?_
    exact (J98) (x1) (x2) (z17) s15 _ _ _ h hP hD hS (lv_sub hl [1, 2, 3, 0] rfl)
set_option maxHeartbeats 40000000 in
set_option maxRecDepth 100000 in
theorem db_X16_grow_98 {p : Program} {l : Launch} {e : Env} {s : State} {m : MethodId} {args : Array Value} {below : List Frame} {meth : Method} {c : Code} {Q : State → Prop} {A : Nat → Prop} {dC : Nat → ClassId} {dI : Nat → Nat → Nat} {a : Nat → Nat} {ac : Nat → ClassId} {n : Nat} {r : Int32 × (St × (St))} (C : nd_C p l s m args c A (dC, dI) cX16_grow 5 RX16 ow_dm_X16_grow (dk_X16 ac)) (K : nd_Ki p l e (headSpec ow_dm_X16_grow ({ frames := 2, cells := 0, slots := 0, locals := 46 })).room s m args below meth c Q A (dC, dI) cX16_grow .int (St × (St)) (dw_X16 a ac) r) (k : Nat) : dj_X16_grow_98 p l e s m args below meth c Q A dC dI a ac (df_X16_grow_98 n k) r := by
  induction k with
  | zero => intro x1 x2 x4 s0 H locs ls h; exact nomatch (show (none : Option (Int32 × (St × (St)))) = some r from h)
  | succ k ih => exact dB_X16_grow_98 C K ih
set_option maxHeartbeats 40000000 in
set_option maxRecDepth 100000 in
theorem dB_X16_grow_72 {p : Program} {l : Launch} {e : Env} {s : State} {m : MethodId} {args : Array Value} {below : List Frame} {meth : Method} {c : Code} {Q : State → Prop} {A : Nat → Prop} {dC : Nat → ClassId} {dI : Nat → Nat → Nat} {a : Nat → Nat} {ac : Nat → ClassId} {n : Nat} {r : Int32 × (St × (St))} (C : nd_C p l s m args c A (dC, dI) cX16_grow 5 RX16 ow_dm_X16_grow (dk_X16 ac)) (K : nd_Ki p l e (headSpec ow_dm_X16_grow ({ frames := 2, cells := 0, slots := 0, locals := 46 })).room s m args below meth c Q A (dC, dI) cX16_grow .int (St × (St)) (dw_X16 a ac) r) {g72 : Int32 → Int32 → Int32 → Int32 → (St × (St)) → Option (Int32 × (St × (St)))} (J72 : dj_X16_grow_72 p l e s m args below meth c Q A dC dI a ac g72 r) : dj_X16_grow_72 p l e s m args below meth c Q A dC dI a ac (dF_X16_grow_72 n g72) r := by
  obtain ⟨hlt, hx, hb, hml, hown, hts, hN, hA, hK⟩ := id C
  intro x1 x2 x3 x4 s0 H locs ls h hP hD hS hl
  unfold dF_X16_grow_72 at h
  refine lv_iload hx hb dX16_grow_72 (lv_at hl 4 rfl) ?_
  refine lv_iload_n hx hb dX16_grow_74 rfl (lv_at hl 3 rfl) ?_
  refine lv_icmp_ge (tgt := 95) hx hb dX16_grow_75 (by decide) (fun c8 => ?_) (fun c8 => ?_)
  · have h := nd_pos h c8
    refine lv_iload_n hx hb dX16_grow_95 rfl (lv_at hl 3 rfl) ?_
    refine lv_istore (lv' := [(4, .int x3), (0, .ref (a 0)), (1, .int x1), (2, .int x2), (3, .int x3)]) hx hb dX16_grow_96 hl (by decide) rfl (fun ls hl => ?_)
    exact (db_X16_grow_98 C K n) (x1) (x2) (x3) s0 _ _ _ h hP hD hS (lv_sub hl [1, 2, 3, 0] rfl)
  · have h := nd_neg h c8
    refine lv_aload_n hx hb dX16_grow_78 rfl (lv_at hl 0 rfl) ?_
    refine lv_aload_n hx hb dX16_grow_79 rfl (lv_at hl 0 rfl) ?_
    refine va_get (D := (dC, dI)) (ci := 17) (v := .int (sI s0.1 12)) (C := RX16) (T := TX16) (N := 56) hx hb hts hi_dm_X16_grow_X16 hown hK hP 0 rfl rfl 51 (by decide) (hts (.fieldLink RX16 232 "TimeMachineModel$Machine" "p" "I") (List.mem_of_getElem? (i := 2) rfl)) (fun _ h9 => h9) rfl dX16_grow_80 ?_
    refine lv_iload hx hb dX16_grow_83 (lv_at hl 4 rfl) ?_
    refine lv_iconst (v := 3) hx hb dX16_grow_85 (by decide) ?_
    obtain ⟨s19, hq, h⟩ := nd_b1_e h
    have hPc := hP
    have hDc := hD
    have hKc := hK
    have hFc := nd_rs hD hS hA
    refine nd_cVv (As := [.int (sI s0.1 12), .int x4, .int 3]) (rest := []) (w' := dw_X16 a ac s19) ⟨hx, hb, hml, hown, hts⟩ (fun sz => dm_X16_newPage l hlt dC dI a ac n ((sI s0.1 12)) (x4) (3) s0 hq sz) (cwV 3 hts gi_dm_X16_grow_1 rfl rfl rfl (by decide +kernel) ⟨Nat.le_of_ble_eq_true rfl, Nat.le_of_ble_eq_true rfl⟩) hPc hDc hKc hS hA hN (va_recv hKc hPc (ci := 17) (q0 := 0) rfl rfl) rfl hl.1 rfl (Nat.le_of_ble_eq_true rfl) dX16_grow_86 (fun H locs hP1 hD1 hk1 hS => ?_)
    have hP := hP1
    have hD := hD1.weaken (fun k q _ h => hFc q.1 h)
    obtain ⟨z21, ez21, h⟩ := nd_let_e h
    refine lv_iinc (v := z21) (lv' := [(4, .int z21), (0, .ref (a 0)), (1, .int x1), (2, .int x2), (3, .int x3)]) hx hb dX16_grow_89 hl (k := 4) rfl (by rw [ez21]) (by decide) rfl (fun ls hl => ?_)
    refine lv_goto (tgt := 72) hx hb dX16_grow_92 (by decide) ?_
    exact (J72) (x1) (x2) (x3) (z21) s19 _ _ _ h hP hD hS (lv_sub hl [1, 2, 3, 4, 0] rfl)
set_option maxHeartbeats 40000000 in
set_option maxRecDepth 100000 in
theorem db_X16_grow_72 {p : Program} {l : Launch} {e : Env} {s : State} {m : MethodId} {args : Array Value} {below : List Frame} {meth : Method} {c : Code} {Q : State → Prop} {A : Nat → Prop} {dC : Nat → ClassId} {dI : Nat → Nat → Nat} {a : Nat → Nat} {ac : Nat → ClassId} {n : Nat} {r : Int32 × (St × (St))} (C : nd_C p l s m args c A (dC, dI) cX16_grow 5 RX16 ow_dm_X16_grow (dk_X16 ac)) (K : nd_Ki p l e (headSpec ow_dm_X16_grow ({ frames := 2, cells := 0, slots := 0, locals := 46 })).room s m args below meth c Q A (dC, dI) cX16_grow .int (St × (St)) (dw_X16 a ac) r) (k : Nat) : dj_X16_grow_72 p l e s m args below meth c Q A dC dI a ac (df_X16_grow_72 n k) r := by
  induction k with
  | zero => intro x1 x2 x3 x4 s0 H locs ls h; exact nomatch (show (none : Option (Int32 × (St × (St)))) = some r from h)
  | succ k ih => exact dB_X16_grow_72 C K ih
set_option maxHeartbeats 40000000 in
set_option maxRecDepth 100000 in
theorem db_X16_grow_69 {p : Program} {l : Launch} {e : Env} {s : State} {m : MethodId} {args : Array Value} {below : List Frame} {meth : Method} {c : Code} {Q : State → Prop} {A : Nat → Prop} {dC : Nat → ClassId} {dI : Nat → Nat → Nat} {a : Nat → Nat} {ac : Nat → ClassId} {n : Nat} {r : Int32 × (St × (St))} (C : nd_C p l s m args c A (dC, dI) cX16_grow 5 RX16 ow_dm_X16_grow (dk_X16 ac)) (K : nd_Ki p l e (headSpec ow_dm_X16_grow ({ frames := 2, cells := 0, slots := 0, locals := 46 })).room s m args below meth c Q A (dC, dI) cX16_grow .int (St × (St)) (dw_X16 a ac) r) : dj_X16_grow_69 p l e s m args below meth c Q A dC dI a ac (df_X16_grow_69 n) r := by
  obtain ⟨hlt, hx, hb, hml, hown, hts, hN, hA, hK⟩ := id C
  intro x1 x2 x3 s0 H locs ls h hP hD hS hl
  unfold df_X16_grow_69 at h
  refine lv_iload_n hx hb dX16_grow_69 rfl (lv_at hl 2 rfl) ?_
  refine lv_istore (lv' := [(4, .int x2), (0, .ref (a 0)), (1, .int x1), (2, .int x2), (3, .int x3)]) hx hb dX16_grow_70 hl (by decide) rfl (fun ls hl => ?_)
  exact (db_X16_grow_72 C K n) (x1) (x2) (x3) (x2) s0 _ _ _ h hP hD hS (lv_sub hl [1, 2, 3, 4, 0] rfl)
set_option maxHeartbeats 40000000 in
set_option maxRecDepth 100000 in
theorem db_X16_grow_0 {p : Program} {l : Launch} {e : Env} {s : State} {m : MethodId} {args : Array Value} {below : List Frame} {meth : Method} {c : Code} {Q : State → Prop} {A : Nat → Prop} {dC : Nat → ClassId} {dI : Nat → Nat → Nat} {a : Nat → Nat} {ac : Nat → ClassId} {n : Nat} {r : Int32 × (St × (St))} (C : nd_C p l s m args c A (dC, dI) cX16_grow 5 RX16 ow_dm_X16_grow (dk_X16 ac)) (K : nd_Ki p l e (headSpec ow_dm_X16_grow ({ frames := 2, cells := 0, slots := 0, locals := 46 })).room s m args below meth c Q A (dC, dI) cX16_grow .int (St × (St)) (dw_X16 a ac) r) : dj_X16_grow_0 p l e s m args below meth c Q A dC dI a ac (df_X16_grow_0 n) r := by
  obtain ⟨hlt, hx, hb, hml, hown, hts, hN, hA, hK⟩ := id C
  intro v0 s0 H locs ls h hP hD hS hl
  unfold df_X16_grow_0 at h
  refine lv_iload_n hx hb dX16_grow_0 rfl (lv_at hl 1 rfl) ?_
  refine lv_aload_n hx hb dX16_grow_1 rfl (lv_at hl 0 rfl) ?_
  refine va_get (D := (dC, dI)) (ci := 17) (v := .ref (a 6)) (C := RX16) (T := TX16) (N := 56) hx hb hts hi_dm_X16_grow_X16 hown hK hP 0 rfl rfl 14 (by decide) (hts (.fieldLink RX16 25 "TimeMachineModel$Machine" "heapBegin" "[I") (List.mem_of_getElem? (i := 1) rfl)) (fun _ h9 => h9) rfl dX16_grow_2 ?_
  refine lv_aload_n hx hb dX16_grow_5 rfl (lv_at hl 0 rfl) ?_
  refine va_get (D := (dC, dI)) (ci := 17) (v := .int (sI s0.1 12)) (C := RX16) (T := TX16) (N := 56) hx hb hts hi_dm_X16_grow_X16 hown hK hP 0 rfl rfl 51 (by decide) (hts (.fieldLink RX16 232 "TimeMachineModel$Machine" "p" "I") (List.mem_of_getElem? (i := 2) rfl)) (fun _ h9 => h9) rfl dX16_grow_6 ?_
  obtain ⟨i1, h⟩ := nd_ck_e h
  refine va_iald (i := (sI s0.1 12)) hx hb hK hP 6 5 rfl rfl i1 dX16_grow_9 ?_
  refine lv_icmp_lt (tgt := 20) hx hb dX16_grow_10 (by decide) (fun c2 => ?_) (fun c2 => ?_)
  · have h := nd_pos h c2
    exact (db_X16_grow_20 C K)  s0 _ _ _ h hP hD hS (lv_sub hl [] rfl)
  · have h := nd_neg h c2
    refine lv_iload_n hx hb dX16_grow_13 rfl (lv_at hl 1 rfl) ?_
    refine lv_ldcw hx hb hown (hts (.constant RX16 516 (60416)) (List.mem_of_getElem? (i := 3) rfl)) dX16_grow_14 ?_
    refine lv_icmp_le (tgt := 23) hx hb dX16_grow_17 (by decide) (fun c3 => ?_) (fun c3 => ?_)
    · have h := nd_pos h c3
      refine lv_aload_n hx hb dX16_grow_23 rfl (lv_at hl 0 rfl) ?_
      refine va_get (D := (dC, dI)) (ci := 17) (v := .ref (a 7)) (C := RX16) (T := TX16) (N := 56) hx hb hts hi_dm_X16_grow_X16 hown hK hP 0 rfl rfl 15 (by decide) (hts (.fieldLink RX16 28 "TimeMachineModel$Machine" "heapEnd" "[I") (List.mem_of_getElem? (i := 4) rfl)) (fun _ h9 => h9) rfl dX16_grow_24 ?_
      refine lv_aload_n hx hb dX16_grow_27 rfl (lv_at hl 0 rfl) ?_
      refine va_get (D := (dC, dI)) (ci := 17) (v := .int (sI s0.1 12)) (C := RX16) (T := TX16) (N := 56) hx hb hts hi_dm_X16_grow_X16 hown hK hP 0 rfl rfl 51 (by decide) (hts (.fieldLink RX16 232 "TimeMachineModel$Machine" "p" "I") (List.mem_of_getElem? (i := 2) rfl)) (fun _ h9 => h9) rfl dX16_grow_28 ?_
      obtain ⟨i4, h⟩ := nd_ck_e h
      refine va_iald (i := (sI s0.1 12)) hx hb hK hP 7 6 rfl rfl i4 dX16_grow_31 ?_
      refine lv_sipush (v := 1023) hx hb dX16_grow_32 (by decide) ?_
      refine lv_iadd hx hb dX16_grow_35 ?_
      refine lv_sipush (v := 1024) hx hb dX16_grow_36 (by decide) ?_
      refine lv_idiv hx hb dX16_grow_39 (by decide) ?_
      refine lv_topi (fun z5 ez5 => ?_)
      have h := nd_at h ez5
      refine lv_istore_n (lv' := [(2, .int z5), (0, .ref (a 0)), (1, .int v0)]) hx hb dX16_grow_40 rfl hl (by decide) rfl (fun ls hl => ?_)
      refine lv_iload_n hx hb dX16_grow_41 rfl (lv_at hl 2 rfl) ?_
      refine lv_sipush (v := 1023) hx hb dX16_grow_42 (by decide) ?_
      refine lv_iadd hx hb dX16_grow_45 ?_
      refine lv_sipush (v := 1024) hx hb dX16_grow_46 (by decide) ?_
      refine lv_idiv hx hb dX16_grow_49 (by decide) ?_
      refine lv_topi (fun z6 ez6 => ?_)
      have h := nd_at h ez6
      refine lv_istore_n (lv' := [(3, .int z6), (2, .int z5), (0, .ref (a 0)), (1, .int v0)]) hx hb dX16_grow_50 rfl hl (by decide) rfl (fun ls hl => ?_)
      refine lv_iload_n hx hb dX16_grow_51 rfl (lv_at hl 0 rfl) ?_
      refine lv_iload_n hx hb dX16_grow_52 rfl (lv_at hl 1 rfl) ?_
      refine lv_icmp_le (tgt := 69) hx hb dX16_grow_53 (by decide) (fun c7 => ?_) (fun c7 => ?_)
      · have h := nd_pos h c7
        exact (db_X16_grow_69 C K) (v0) (z5) (z6) s0 _ _ _ h hP hD hS (lv_sub hl [2, 3, 1, 0] rfl)
      · have h := nd_neg h c7
        refine lv_aload_n hx hb dX16_grow_56 rfl (lv_at hl 2 rfl) ?_
        refine lv_iload_n hx hb dX16_grow_57 rfl (lv_at hl 0 rfl) ?_
        refine lv_iload_n hx hb dX16_grow_58 rfl (lv_at hl 1 rfl) ?_
        refine lv_isub hx hb dX16_grow_59 ?_
        obtain ⟨q22, s23, hq, h⟩ := nd_b2_e h
        have hPc := hP
        have hDc := hD
        have hKc := hK
        have hFc := nd_rs hD hS hA
        refine nd_cVi (As := [.int (z6 - z5)]) (rest := []) (q := q22) (w' := dw_X16 a ac s23) ⟨hx, hb, hml, hown, hts⟩ (fun sz => dm_X16_hasFrames l hlt dC dI a ac n ((z6 - z5)) s0 hq sz) (cwV 1 hts gi_dm_X16_grow_2 rfl rfl rfl (by decide +kernel) ⟨Nat.le_of_ble_eq_true rfl, Nat.le_of_ble_eq_true rfl⟩) hPc hDc hKc hS hA hN (va_recv hKc hPc (ci := 17) (q0 := 0) rfl rfl) rfl hl.1 rfl (Nat.le_of_ble_eq_true rfl) dX16_grow_60 (fun H locs hP1 hD1 hk1 hS => ?_)
        have hP := hP1
        have hD := hD1.weaken (fun k q _ h => hFc q.1 h)
        refine lv_if_ne (tgt := 69) hx hb dX16_grow_63 (by decide) (fun c25 => ?_) (fun c25 => ?_)
        · have h := nd_neg h c25
          exact (db_X16_grow_69 C K) (v0) (z5) (z6) s23 _ _ _ h hP hD hS (lv_sub hl [2, 3, 1, 0] rfl)
        · have h := nd_pos h c25
          refine lv_bipush (v := (-4)) hx hb dX16_grow_66 (by decide) ?_
          exact K _ _ _ _ _ _ dX16_grow_68 rfl (Option.some.inj h).symm hP hD hS
    · have h := nd_neg h c3
      exact (db_X16_grow_20 C K)  s0 _ _ _ h hP hD hS (lv_sub hl [] rfl)
set_option maxHeartbeats 40000000 in
set_option maxRecDepth 100000 in
theorem dm_X16_grow (l : Launch) (hlt : l.stackTraces = false) (dC : Nat → ClassId) (dI : Nat → Nat → Nat) (a : Nat → Nat) (ac : Nat → ClassId) (n : Nat) (v0 : Int32) (s0 : St × (St)) {r : Int32 × (St × (St))} (h : df_X16_grow n v0 s0 = some r) (sz : Nat) : Met l yX16_grow ow_dm_X16_grow ({ frames := 2, cells := 0, slots := 0, locals := 46 }) (va_Pc [.ref (a 0), .int v0] (fun U => U.heap.size = sz ∧ va_P (dC, dI) vwCl (dw_X16 a ac s0) U.heap ∧ va_K (dC, dI) vwCl (dk_X16 ac) U ∧ va_D (fun _ => True) (dw_X16 a ac s0) ∧ nv_E dI (va_A (dw_X16 a ac s0) sz) U)) (va_Qi (fun x _ => x = r.1) (fun (_ : Unit) t => va_P (dC, dI) vwCl (dw_X16 a ac r.2) t.heap ∧ va_K (dC, dI) vwCl (dk_X16 ac) t ∧ va_D (va_A (dw_X16 a ac s0) sz) (dw_X16 a ac r.2)) (va_A (dw_X16 a ac s0) sz)) 0 0 (va_A (dw_X16 a ac s0) sz) := by
  refine Met.ofW (cc := cX16_grow) (maxL := 5) (ret := (some .int)) (by decide) rfl ?_
  intro p e s m args below meth c s₁ B hml hv
  obtain ⟨rfl, hsz, hP, hK, hD0, hN⟩ := hv
  have hx := B.exec
  have hb := B.bytes
  have hr := B.returns
  have hts := atoms_spec (ws := ow_dm_X16_grow) B.pre
  have hown : s.vm.findClass RX16 = some m.cls := findClass_of_methodNamed B.named
  have hlocks := B.notSynchronized
  subst hsz
  have hD := hD0.self (sz := s.heap.size)
  generalize hAe : va_A (dw_X16 a ac s0) s.heap.size = A at hD hN ⊢
  have hA : ∀ q : Nat, s.heap.size ≤ q → A q := fun q h => by rw [← hAe]; exact Or.inr h
  have hl := lv_entry ([.ref (a 0), .int v0]) (n := 5) (Nat.le_of_ble_eq_true rfl)
  rw [lg_entry_eq]
  generalize (lg_sl ([.ref (a 0), .int v0]) ++ List.replicate (5 - (lg_sl ([.ref (a 0), .int v0])).length) Slot.unset).toArray = ls at hl ⊢
  have hl : lv_has ls 5 [(0, .ref (a 0)), (1, .int v0)] := hl
  exact db_X16_grow_0 (dC := dC) (dI := dI) (a := a) (ac := ac) (n := n) (r := r) ⟨hlt, hx, hb, hml, hown, hts, hN, hA, hK⟩ (fun pc v τ H locs ls d z er hP hD hS => by subst er; exact W.zret (v := v) hx hb hr z (fun t ht hW => ⟨⟨v, (), rfl, rfl, by rw [ht]; exact hP, va_K.moved hW.alike hK, hD⟩, hS.F ht⟩) hS.2.2 d) v0 s0 _ _ _ h hP hD va_S.rf (lv_sub hl [0, 1] rfl)
def ow_dm_X16_signal : List Cond := Cond.code yX16_signal cX16_signal 3 (some .int) :: ([Cond.fieldLink RX16 13 "TimeMachineModel$Machine" "state" "[I", Cond.fieldLink RX16 22 "TimeMachineModel$Machine" "pending" "[I"] ++ (u_ws RX16 TX16 56 ++ []))
theorem gd_dm_X16_signal : ∀ w ∈ ow_dm_X16_signal, (w.onTables && w.keeps) = true ∨ ∃ ty, w = Cond.arrayClass ty := List.forall_mem_cons.mpr ⟨good_of_word rfl, List.forall_mem_append.mpr ⟨fun w h => good_of_word (List.all_eq_true.mp (by decide +kernel) w h), List.forall_mem_append.mpr ⟨gu_X16, fun _ h => nomatch h⟩⟩⟩
theorem hi_dm_X16_signal_X16 : ∀ w ∈ u_ws RX16 TX16 56, w ∈ ow_dm_X16_signal := fun w h => List.mem_cons_of_mem _ (List.mem_append_right _ (List.mem_append_left _ h))
def dj_X16_signal_21 (p : Program) (l : Launch) (e : Env) (s : State) (m : MethodId) (args : Array Value) (below : List Frame) (meth : Method) (c : Code) (Q : State → Prop) (A : Nat → Prop) (dC : Nat → ClassId) (dI : Nat → Nat → Nat) (a : Nat → Nat) (ac : Nat → ClassId) (g : (St × (St)) → Option (Int32 × (St × (St)))) (r : Int32 × (St × (St))) : Prop := ∀ (s0 : St × (St)) (H : Heap) (locs : List Loc) (ls : Array Slot), g s0 = some r → va_P (dC, dI) vwCl (dw_X16 a ac s0) H → va_D A (dw_X16 a ac s0) → va_S A s.heap H locs → lv_has ls 3 [] → W p l e (headSpec ow_dm_X16_signal ({ frames := 0, cells := 0, slots := 0, locals := 0 })).room s m args below meth c H locs 0 0 Q (F0 m 21 ls [])
def dj_X16_signal_43 (p : Program) (l : Launch) (e : Env) (s : State) (m : MethodId) (args : Array Value) (below : List Frame) (meth : Method) (c : Code) (Q : State → Prop) (A : Nat → Prop) (dC : Nat → ClassId) (dI : Nat → Nat → Nat) (a : Nat → Nat) (ac : Nat → ClassId) (g : (St × (St)) → Option (Int32 × (St × (St)))) (r : Int32 × (St × (St))) : Prop := ∀ (s0 : St × (St)) (H : Heap) (locs : List Loc) (ls : Array Slot), g s0 = some r → va_P (dC, dI) vwCl (dw_X16 a ac s0) H → va_D A (dw_X16 a ac s0) → va_S A s.heap H locs → lv_has ls 3 [] → W p l e (headSpec ow_dm_X16_signal ({ frames := 0, cells := 0, slots := 0, locals := 0 })).room s m args below meth c H locs 0 0 Q (F0 m 43 ls [])
def dj_X16_signal_0 (p : Program) (l : Launch) (e : Env) (s : State) (m : MethodId) (args : Array Value) (below : List Frame) (meth : Method) (c : Code) (Q : State → Prop) (A : Nat → Prop) (dC : Nat → ClassId) (dI : Nat → Nat → Nat) (a : Nat → Nat) (ac : Nat → ClassId) (g : Int32 → Int32 → (St × (St)) → Option (Int32 × (St × (St)))) (r : Int32 × (St × (St))) : Prop := ∀ (v0 : Int32) (v1 : Int32) (s0 : St × (St)) (H : Heap) (locs : List Loc) (ls : Array Slot), g v0 v1 s0 = some r → va_P (dC, dI) vwCl (dw_X16 a ac s0) H → va_D A (dw_X16 a ac s0) → va_S A s.heap H locs → lv_has ls 3 [(0, .ref (a 0)), (1, .int v0), (2, .int v1)] → W p l e (headSpec ow_dm_X16_signal ({ frames := 0, cells := 0, slots := 0, locals := 0 })).room s m args below meth c H locs 0 0 Q (F0 m 0 ls [])
set_option maxHeartbeats 40000000 in
set_option maxRecDepth 100000 in
theorem db_X16_signal_21 {p : Program} {l : Launch} {e : Env} {s : State} {m : MethodId} {args : Array Value} {below : List Frame} {meth : Method} {c : Code} {Q : State → Prop} {A : Nat → Prop} {dC : Nat → ClassId} {dI : Nat → Nat → Nat} {a : Nat → Nat} {ac : Nat → ClassId} {n : Nat} {r : Int32 × (St × (St))} (C : nd_C p l s m args c A (dC, dI) cX16_signal 3 RX16 ow_dm_X16_signal (dk_X16 ac)) (K : nd_Ki p l e (headSpec ow_dm_X16_signal ({ frames := 0, cells := 0, slots := 0, locals := 0 })).room s m args below meth c Q A (dC, dI) cX16_signal .int (St × (St)) (dw_X16 a ac) r) : dj_X16_signal_21 p l e s m args below meth c Q A dC dI a ac (df_X16_signal_21 n) r := by
  obtain ⟨hlt, hx, hb, hml, hown, hts, hN, hA, hK⟩ := id C
  intro s0 H locs ls h hP hD hS hl
  unfold df_X16_signal_21 at h
  refine lv_bipush (v := (-22)) hx hb dX16_signal_21 (by decide) ?_
  exact K _ _ _ _ _ _ dX16_signal_23 rfl (Option.some.inj h).symm hP hD hS
set_option maxHeartbeats 40000000 in
set_option maxRecDepth 100000 in
theorem db_X16_signal_43 {p : Program} {l : Launch} {e : Env} {s : State} {m : MethodId} {args : Array Value} {below : List Frame} {meth : Method} {c : Code} {Q : State → Prop} {A : Nat → Prop} {dC : Nat → ClassId} {dI : Nat → Nat → Nat} {a : Nat → Nat} {ac : Nat → ClassId} {n : Nat} {r : Int32 × (St × (St))} (C : nd_C p l s m args c A (dC, dI) cX16_signal 3 RX16 ow_dm_X16_signal (dk_X16 ac)) (K : nd_Ki p l e (headSpec ow_dm_X16_signal ({ frames := 0, cells := 0, slots := 0, locals := 0 })).room s m args below meth c Q A (dC, dI) cX16_signal .int (St × (St)) (dw_X16 a ac) r) : dj_X16_signal_43 p l e s m args below meth c Q A dC dI a ac (df_X16_signal_43 n) r := by
  obtain ⟨hlt, hx, hb, hml, hown, hts, hN, hA, hK⟩ := id C
  intro s0 H locs ls h hP hD hS hl
  unfold df_X16_signal_43 at h
  refine lv_bipush (v := (-10)) hx hb dX16_signal_43 (by decide) ?_
  exact K _ _ _ _ _ _ dX16_signal_45 rfl (Option.some.inj h).symm hP hD hS
set_option maxHeartbeats 40000000 in
set_option maxRecDepth 100000 in
theorem db_X16_signal_0 {p : Program} {l : Launch} {e : Env} {s : State} {m : MethodId} {args : Array Value} {below : List Frame} {meth : Method} {c : Code} {Q : State → Prop} {A : Nat → Prop} {dC : Nat → ClassId} {dI : Nat → Nat → Nat} {a : Nat → Nat} {ac : Nat → ClassId} {n : Nat} {r : Int32 × (St × (St))} (C : nd_C p l s m args c A (dC, dI) cX16_signal 3 RX16 ow_dm_X16_signal (dk_X16 ac)) (K : nd_Ki p l e (headSpec ow_dm_X16_signal ({ frames := 0, cells := 0, slots := 0, locals := 0 })).room s m args below meth c Q A (dC, dI) cX16_signal .int (St × (St)) (dw_X16 a ac) r) : dj_X16_signal_0 p l e s m args below meth c Q A dC dI a ac (df_X16_signal_0 n) r := by
  obtain ⟨hlt, hx, hb, hml, hown, hts, hN, hA, hK⟩ := id C
  intro v0 v1 s0 H locs ls h hP hD hS hl
  unfold df_X16_signal_0 at h
  refine lv_iload_n hx hb dX16_signal_0 rfl (lv_at hl 1 rfl) ?_
  refine lv_if_lt (tgt := 21) hx hb dX16_signal_1 (by decide) (fun c1 => ?_) (fun c1 => ?_)
  · have h := nd_pos h c1
    exact (db_X16_signal_21 C K)  s0 _ _ _ h hP hD hS (lv_sub hl [] rfl)
  · have h := nd_neg h c1
    refine lv_iload_n hx hb dX16_signal_4 rfl (lv_at hl 1 rfl) ?_
    refine lv_bipush (v := 15) hx hb dX16_signal_5 (by decide) ?_
    refine lv_icmp_gt (tgt := 21) hx hb dX16_signal_7 (by decide) (fun c2 => ?_) (fun c2 => ?_)
    · have h := nd_pos h c2
      exact (db_X16_signal_21 C K)  s0 _ _ _ h hP hD hS (lv_sub hl [] rfl)
    · have h := nd_neg h c2
      refine lv_iload_n hx hb dX16_signal_10 rfl (lv_at hl 2 rfl) ?_
      refine lv_iconst (v := 1) hx hb dX16_signal_11 (by decide) ?_
      refine lv_icmp_lt (tgt := 21) hx hb dX16_signal_12 (by decide) (fun c3 => ?_) (fun c3 => ?_)
      · have h := nd_pos h c3
        exact (db_X16_signal_21 C K)  s0 _ _ _ h hP hD hS (lv_sub hl [] rfl)
      · have h := nd_neg h c3
        refine lv_iload_n hx hb dX16_signal_15 rfl (lv_at hl 2 rfl) ?_
        refine lv_bipush (v := 15) hx hb dX16_signal_16 (by decide) ?_
        refine lv_icmp_le (tgt := 24) hx hb dX16_signal_18 (by decide) (fun c4 => ?_) (fun c4 => ?_)
        · have h := nd_pos h c4
          refine lv_aload_n hx hb dX16_signal_24 rfl (lv_at hl 0 rfl) ?_
          refine va_get (D := (dC, dI)) (ci := 17) (v := .ref (a 2)) (C := RX16) (T := TX16) (N := 56) hx hb hts hi_dm_X16_signal_X16 hown hK hP 0 rfl rfl 10 (by decide) (hts (.fieldLink RX16 13 "TimeMachineModel$Machine" "state" "[I") (List.mem_of_getElem? (i := 1) rfl)) (fun _ h9 => h9) rfl dX16_signal_25 ?_
          refine lv_iload_n hx hb dX16_signal_28 rfl (lv_at hl 1 rfl) ?_
          obtain ⟨i5, h⟩ := nd_ck_e h
          refine va_iald (i := v0) hx hb hK hP 2 1 rfl rfl i5 dX16_signal_29 ?_
          refine lv_if_eq (tgt := 43) hx hb dX16_signal_30 (by decide) (fun c6 => ?_) (fun c6 => ?_)
          · have h := nd_pos h c6
            exact (db_X16_signal_43 C K)  s0 _ _ _ h hP hD hS (lv_sub hl [] rfl)
          · have h := nd_neg h c6
            refine lv_aload_n hx hb dX16_signal_33 rfl (lv_at hl 0 rfl) ?_
            refine va_get (D := (dC, dI)) (ci := 17) (v := .ref (a 2)) (C := RX16) (T := TX16) (N := 56) hx hb hts hi_dm_X16_signal_X16 hown hK hP 0 rfl rfl 10 (by decide) (hts (.fieldLink RX16 13 "TimeMachineModel$Machine" "state" "[I") (List.mem_of_getElem? (i := 1) rfl)) (fun _ h9 => h9) rfl dX16_signal_34 ?_
            refine lv_iload_n hx hb dX16_signal_37 rfl (lv_at hl 1 rfl) ?_
            obtain ⟨i7, h⟩ := nd_ck_e h
            refine va_iald (i := v0) hx hb hK hP 2 1 rfl rfl i7 dX16_signal_38 ?_
            refine lv_iconst (v := 3) hx hb dX16_signal_39 (by decide) ?_
            refine lv_icmp_ne (tgt := 46) hx hb dX16_signal_40 (by decide) (fun c8 => ?_) (fun c8 => ?_)
            · have h := nd_neg h c8
              refine lv_aload_n hx hb dX16_signal_46 rfl (lv_at hl 0 rfl) ?_
              refine va_get (D := (dC, dI)) (ci := 17) (v := .ref (a 5)) (C := RX16) (T := TX16) (N := 56) hx hb hts hi_dm_X16_signal_X16 hown hK hP 0 rfl rfl 13 (by decide) (hts (.fieldLink RX16 22 "TimeMachineModel$Machine" "pending" "[I") (List.mem_of_getElem? (i := 2) rfl)) (fun _ h9 => h9) rfl dX16_signal_47 ?_
              refine lv_iload_n hx hb dX16_signal_50 rfl (lv_at hl 1 rfl) ?_
              refine lv_dup2_11 hx hb dX16_signal_51 rfl rfl ?_
              obtain ⟨i9, h⟩ := nd_ck_e h
              refine va_iald (i := v0) hx hb hK hP 5 4 rfl rfl i9 dX16_signal_52 ?_
              refine lv_iconst (v := 1) hx hb dX16_signal_53 (by decide) ?_
              refine lv_iload_n hx hb dX16_signal_54 rfl (lv_at hl 2 rfl) ?_
              refine lv_ishl hx hb dX16_signal_55 ?_
              refine lv_ior hx hb dX16_signal_56 ?_
              obtain ⟨i10, h⟩ := nd_ck_e h
              refine va_iast (i := v0) (x := ((sR s0.1 4 (Int32.toNatClampNeg v0)) ||| ((1 : Int32) <<< ((v1 : Int32) &&& 31)))) hx hb hK hP hD hS 5 4 rfl rfl i10 dX16_signal_57 (fun H locs hP hD hS => ?_)
              obtain ⟨s11, es11, h⟩ := nd_let_e h
              have hP : va_P (dC, dI) vwCl (dw_X16 a ac s11) H := by rw [es11]; exact hP
              have hD : va_D A (dw_X16 a ac s11) := by rw [es11]; exact hD
              refine lv_iconst (v := 0) hx hb dX16_signal_58 (by decide) ?_
              exact K _ _ _ _ _ _ dX16_signal_59 rfl (Option.some.inj h).symm hP hD hS
            · have h := nd_pos h c8
              exact (db_X16_signal_43 C K)  s0 _ _ _ h hP hD hS (lv_sub hl [] rfl)
        · have h := nd_neg h c4
          exact (db_X16_signal_21 C K)  s0 _ _ _ h hP hD hS (lv_sub hl [] rfl)
set_option maxHeartbeats 40000000 in
set_option maxRecDepth 100000 in
theorem dm_X16_signal (l : Launch) (hlt : l.stackTraces = false) (dC : Nat → ClassId) (dI : Nat → Nat → Nat) (a : Nat → Nat) (ac : Nat → ClassId) (n : Nat) (v0 : Int32) (v1 : Int32) (s0 : St × (St)) {r : Int32 × (St × (St))} (h : df_X16_signal n v0 v1 s0 = some r) (sz : Nat) : Met l yX16_signal ow_dm_X16_signal ({ frames := 0, cells := 0, slots := 0, locals := 0 }) (va_Pc [.ref (a 0), .int v0, .int v1] (fun U => U.heap.size = sz ∧ va_P (dC, dI) vwCl (dw_X16 a ac s0) U.heap ∧ va_K (dC, dI) vwCl (dk_X16 ac) U ∧ va_D (fun _ => True) (dw_X16 a ac s0) ∧ nv_E dI (va_A (dw_X16 a ac s0) sz) U)) (va_Qi (fun x _ => x = r.1) (fun (_ : Unit) t => va_P (dC, dI) vwCl (dw_X16 a ac r.2) t.heap ∧ va_K (dC, dI) vwCl (dk_X16 ac) t ∧ va_D (va_A (dw_X16 a ac s0) sz) (dw_X16 a ac r.2)) (va_A (dw_X16 a ac s0) sz)) 0 0 (va_A (dw_X16 a ac s0) sz) := by
  refine Met.ofW (cc := cX16_signal) (maxL := 3) (ret := (some .int)) (by decide) rfl ?_
  intro p e s m args below meth c s₁ B hml hv
  obtain ⟨rfl, hsz, hP, hK, hD0, hN⟩ := hv
  have hx := B.exec
  have hb := B.bytes
  have hr := B.returns
  have hts := atoms_spec (ws := ow_dm_X16_signal) B.pre
  have hown : s.vm.findClass RX16 = some m.cls := findClass_of_methodNamed B.named
  have hlocks := B.notSynchronized
  subst hsz
  have hD := hD0.self (sz := s.heap.size)
  generalize hAe : va_A (dw_X16 a ac s0) s.heap.size = A at hD hN ⊢
  have hA : ∀ q : Nat, s.heap.size ≤ q → A q := fun q h => by rw [← hAe]; exact Or.inr h
  have hl := lv_entry ([.ref (a 0), .int v0, .int v1]) (n := 3) (Nat.le_of_ble_eq_true rfl)
  rw [lg_entry_eq]
  generalize (lg_sl ([.ref (a 0), .int v0, .int v1]) ++ List.replicate (3 - (lg_sl ([.ref (a 0), .int v0, .int v1])).length) Slot.unset).toArray = ls at hl ⊢
  have hl : lv_has ls 3 [(0, .ref (a 0)), (1, .int v0), (2, .int v1)] := hl
  exact db_X16_signal_0 (dC := dC) (dI := dI) (a := a) (ac := ac) (n := n) (r := r) ⟨hlt, hx, hb, hml, hown, hts, hN, hA, hK⟩ (fun pc v τ H locs ls d z er hP hD hS => by subst er; exact W.zret (v := v) hx hb hr z (fun t ht hW => ⟨⟨v, (), rfl, rfl, by rw [ht]; exact hP, va_K.moved hW.alike hK, hD⟩, hS.F ht⟩) hS.2.2 d) v0 v1 s0 _ _ _ h hP hD va_S.rf (lv_sub hl [0, 1, 2] rfl)
def ow_dm_X16_handle : List Cond := Cond.code yX16_handle cX16_handle 4 (some .int) :: ([Cond.fieldLink RX16 54 "TimeMachineModel$Machine" "handler" "[I", Cond.fieldLink RX16 232 "TimeMachineModel$Machine" "p" "I"] ++ (u_ws RX16 TX16 56 ++ []))
theorem gd_dm_X16_handle : ∀ w ∈ ow_dm_X16_handle, (w.onTables && w.keeps) = true ∨ ∃ ty, w = Cond.arrayClass ty := List.forall_mem_cons.mpr ⟨good_of_word rfl, List.forall_mem_append.mpr ⟨fun w h => good_of_word (List.all_eq_true.mp (by decide +kernel) w h), List.forall_mem_append.mpr ⟨gu_X16, fun _ h => nomatch h⟩⟩⟩
theorem hi_dm_X16_handle_X16 : ∀ w ∈ u_ws RX16 TX16 56, w ∈ ow_dm_X16_handle := fun w h => List.mem_cons_of_mem _ (List.mem_append_right _ (List.mem_append_left _ h))
def dj_X16_handle_17 (p : Program) (l : Launch) (e : Env) (s : State) (m : MethodId) (args : Array Value) (below : List Frame) (meth : Method) (c : Code) (Q : State → Prop) (A : Nat → Prop) (dC : Nat → ClassId) (dI : Nat → Nat → Nat) (a : Nat → Nat) (ac : Nat → ClassId) (g : (St × (St)) → Option (Int32 × (St × (St)))) (r : Int32 × (St × (St))) : Prop := ∀ (s0 : St × (St)) (H : Heap) (locs : List Loc) (ls : Array Slot), g s0 = some r → va_P (dC, dI) vwCl (dw_X16 a ac s0) H → va_D A (dw_X16 a ac s0) → va_S A s.heap H locs → lv_has ls 4 [] → W p l e (headSpec ow_dm_X16_handle ({ frames := 0, cells := 0, slots := 0, locals := 0 })).room s m args below meth c H locs 0 0 Q (F0 m 17 ls [])
def dj_X16_handle_0 (p : Program) (l : Launch) (e : Env) (s : State) (m : MethodId) (args : Array Value) (below : List Frame) (meth : Method) (c : Code) (Q : State → Prop) (A : Nat → Prop) (dC : Nat → ClassId) (dI : Nat → Nat → Nat) (a : Nat → Nat) (ac : Nat → ClassId) (g : Int32 → Int32 → (St × (St)) → Option (Int32 × (St × (St)))) (r : Int32 × (St × (St))) : Prop := ∀ (v0 : Int32) (v1 : Int32) (s0 : St × (St)) (H : Heap) (locs : List Loc) (ls : Array Slot), g v0 v1 s0 = some r → va_P (dC, dI) vwCl (dw_X16 a ac s0) H → va_D A (dw_X16 a ac s0) → va_S A s.heap H locs → lv_has ls 4 [(0, .ref (a 0)), (1, .int v0), (2, .int v1)] → W p l e (headSpec ow_dm_X16_handle ({ frames := 0, cells := 0, slots := 0, locals := 0 })).room s m args below meth c H locs 0 0 Q (F0 m 0 ls [])
set_option maxHeartbeats 40000000 in
set_option maxRecDepth 100000 in
theorem db_X16_handle_17 {p : Program} {l : Launch} {e : Env} {s : State} {m : MethodId} {args : Array Value} {below : List Frame} {meth : Method} {c : Code} {Q : State → Prop} {A : Nat → Prop} {dC : Nat → ClassId} {dI : Nat → Nat → Nat} {a : Nat → Nat} {ac : Nat → ClassId} {n : Nat} {r : Int32 × (St × (St))} (C : nd_C p l s m args c A (dC, dI) cX16_handle 4 RX16 ow_dm_X16_handle (dk_X16 ac)) (K : nd_Ki p l e (headSpec ow_dm_X16_handle ({ frames := 0, cells := 0, slots := 0, locals := 0 })).room s m args below meth c Q A (dC, dI) cX16_handle .int (St × (St)) (dw_X16 a ac) r) : dj_X16_handle_17 p l e s m args below meth c Q A dC dI a ac (df_X16_handle_17 n) r := by
  obtain ⟨hlt, hx, hb, hml, hown, hts, hN, hA, hK⟩ := id C
  intro s0 H locs ls h hP hD hS hl
  unfold df_X16_handle_17 at h
  refine lv_bipush (v := (-22)) hx hb dX16_handle_17 (by decide) ?_
  exact K _ _ _ _ _ _ dX16_handle_19 rfl (Option.some.inj h).symm hP hD hS
set_option maxHeartbeats 40000000 in
set_option maxRecDepth 100000 in
theorem db_X16_handle_0 {p : Program} {l : Launch} {e : Env} {s : State} {m : MethodId} {args : Array Value} {below : List Frame} {meth : Method} {c : Code} {Q : State → Prop} {A : Nat → Prop} {dC : Nat → ClassId} {dI : Nat → Nat → Nat} {a : Nat → Nat} {ac : Nat → ClassId} {n : Nat} {r : Int32 × (St × (St))} (C : nd_C p l s m args c A (dC, dI) cX16_handle 4 RX16 ow_dm_X16_handle (dk_X16 ac)) (K : nd_Ki p l e (headSpec ow_dm_X16_handle ({ frames := 0, cells := 0, slots := 0, locals := 0 })).room s m args below meth c Q A (dC, dI) cX16_handle .int (St × (St)) (dw_X16 a ac) r) : dj_X16_handle_0 p l e s m args below meth c Q A dC dI a ac (df_X16_handle_0 n) r := by
  obtain ⟨hlt, hx, hb, hml, hown, hts, hN, hA, hK⟩ := id C
  intro v0 v1 s0 H locs ls h hP hD hS hl
  unfold df_X16_handle_0 at h
  refine lv_iload_n hx hb dX16_handle_0 rfl (lv_at hl 1 rfl) ?_
  refine lv_iconst (v := 1) hx hb dX16_handle_1 (by decide) ?_
  refine lv_icmp_lt (tgt := 17) hx hb dX16_handle_2 (by decide) (fun c1 => ?_) (fun c1 => ?_)
  · have h := nd_pos h c1
    exact (db_X16_handle_17 C K)  s0 _ _ _ h hP hD hS (lv_sub hl [] rfl)
  · have h := nd_neg h c1
    refine lv_iload_n hx hb dX16_handle_5 rfl (lv_at hl 1 rfl) ?_
    refine lv_bipush (v := 15) hx hb dX16_handle_6 (by decide) ?_
    refine lv_icmp_gt (tgt := 17) hx hb dX16_handle_8 (by decide) (fun c2 => ?_) (fun c2 => ?_)
    · have h := nd_pos h c2
      exact (db_X16_handle_17 C K)  s0 _ _ _ h hP hD hS (lv_sub hl [] rfl)
    · have h := nd_neg h c2
      refine lv_iload_n hx hb dX16_handle_11 rfl (lv_at hl 1 rfl) ?_
      refine lv_bipush (v := 9) hx hb dX16_handle_12 (by decide) ?_
      refine lv_icmp_ne (tgt := 20) hx hb dX16_handle_14 (by decide) (fun c3 => ?_) (fun c3 => ?_)
      · have h := nd_neg h c3
        refine lv_aload_n hx hb dX16_handle_20 rfl (lv_at hl 0 rfl) ?_
        refine va_get (D := (dC, dI)) (ci := 17) (v := .ref (a 15)) (C := RX16) (T := TX16) (N := 56) hx hb hts hi_dm_X16_handle_X16 hown hK hP 0 rfl rfl 23 (by decide) (hts (.fieldLink RX16 54 "TimeMachineModel$Machine" "handler" "[I") (List.mem_of_getElem? (i := 1) rfl)) (fun _ h9 => h9) rfl dX16_handle_21 ?_
        refine lv_bipush (v := 16) hx hb dX16_handle_24 (by decide) ?_
        refine lv_aload_n hx hb dX16_handle_26 rfl (lv_at hl 0 rfl) ?_
        refine va_get (D := (dC, dI)) (ci := 17) (v := .int (sI s0.1 12)) (C := RX16) (T := TX16) (N := 56) hx hb hts hi_dm_X16_handle_X16 hown hK hP 0 rfl rfl 51 (by decide) (hts (.fieldLink RX16 232 "TimeMachineModel$Machine" "p" "I") (List.mem_of_getElem? (i := 2) rfl)) (fun _ h9 => h9) rfl dX16_handle_27 ?_
        refine lv_imul hx hb dX16_handle_30 ?_
        refine lv_iload_n hx hb dX16_handle_31 rfl (lv_at hl 1 rfl) ?_
        refine lv_iadd hx hb dX16_handle_32 ?_
        obtain ⟨i4, h⟩ := nd_ck_e h
        refine va_iald (i := ((16 * (sI s0.1 12)) + v0)) hx hb hK hP 15 14 rfl rfl i4 dX16_handle_33 ?_
        refine lv_topi (fun z5 ez5 => ?_)
        have h := nd_at h ez5
        refine lv_istore_n (lv' := [(3, .int z5), (0, .ref (a 0)), (1, .int v0), (2, .int v1)]) hx hb dX16_handle_34 rfl hl (by decide) rfl (fun ls hl => ?_)
        refine lv_aload_n hx hb dX16_handle_35 rfl (lv_at hl 1 rfl) ?_
        refine va_get (D := (dC, dI)) (ci := 17) (v := .ref (a 15)) (C := RX16) (T := TX16) (N := 56) hx hb hts hi_dm_X16_handle_X16 hown hK hP 0 rfl rfl 23 (by decide) (hts (.fieldLink RX16 54 "TimeMachineModel$Machine" "handler" "[I") (List.mem_of_getElem? (i := 1) rfl)) (fun _ h9 => h9) rfl dX16_handle_36 ?_
        refine lv_bipush (v := 16) hx hb dX16_handle_39 (by decide) ?_
        refine lv_aload_n hx hb dX16_handle_41 rfl (lv_at hl 1 rfl) ?_
        refine va_get (D := (dC, dI)) (ci := 17) (v := .int (sI s0.1 12)) (C := RX16) (T := TX16) (N := 56) hx hb hts hi_dm_X16_handle_X16 hown hK hP 0 rfl rfl 51 (by decide) (hts (.fieldLink RX16 232 "TimeMachineModel$Machine" "p" "I") (List.mem_of_getElem? (i := 2) rfl)) (fun _ h9 => h9) rfl dX16_handle_42 ?_
        refine lv_imul hx hb dX16_handle_45 ?_
        refine lv_iload_n hx hb dX16_handle_46 rfl (lv_at hl 2 rfl) ?_
        refine lv_iadd hx hb dX16_handle_47 ?_
        refine lv_iload_n hx hb dX16_handle_48 rfl (lv_at hl 3 rfl) ?_
        obtain ⟨i6, h⟩ := nd_ck_e h
        refine va_iast (i := ((16 * (sI s0.1 12)) + v0)) (x := v1) hx hb hK hP hD hS 15 14 rfl rfl i6 dX16_handle_49 (fun H locs hP hD hS => ?_)
        obtain ⟨s7, es7, h⟩ := nd_let_e h
        have hP : va_P (dC, dI) vwCl (dw_X16 a ac s7) H := by rw [es7]; exact hP
        have hD : va_D A (dw_X16 a ac s7) := by rw [es7]; exact hD
        refine lv_iload_n hx hb dX16_handle_50 rfl (lv_at hl 0 rfl) ?_
        exact K _ _ _ _ _ _ dX16_handle_51 rfl (Option.some.inj h).symm hP hD hS
      · have h := nd_pos h c3
        exact (db_X16_handle_17 C K)  s0 _ _ _ h hP hD hS (lv_sub hl [] rfl)
set_option maxHeartbeats 40000000 in
set_option maxRecDepth 100000 in
theorem dm_X16_handle (l : Launch) (hlt : l.stackTraces = false) (dC : Nat → ClassId) (dI : Nat → Nat → Nat) (a : Nat → Nat) (ac : Nat → ClassId) (n : Nat) (v0 : Int32) (v1 : Int32) (s0 : St × (St)) {r : Int32 × (St × (St))} (h : df_X16_handle n v0 v1 s0 = some r) (sz : Nat) : Met l yX16_handle ow_dm_X16_handle ({ frames := 0, cells := 0, slots := 0, locals := 0 }) (va_Pc [.ref (a 0), .int v0, .int v1] (fun U => U.heap.size = sz ∧ va_P (dC, dI) vwCl (dw_X16 a ac s0) U.heap ∧ va_K (dC, dI) vwCl (dk_X16 ac) U ∧ va_D (fun _ => True) (dw_X16 a ac s0) ∧ nv_E dI (va_A (dw_X16 a ac s0) sz) U)) (va_Qi (fun x _ => x = r.1) (fun (_ : Unit) t => va_P (dC, dI) vwCl (dw_X16 a ac r.2) t.heap ∧ va_K (dC, dI) vwCl (dk_X16 ac) t ∧ va_D (va_A (dw_X16 a ac s0) sz) (dw_X16 a ac r.2)) (va_A (dw_X16 a ac s0) sz)) 0 0 (va_A (dw_X16 a ac s0) sz) := by
  refine Met.ofW (cc := cX16_handle) (maxL := 4) (ret := (some .int)) (by decide) rfl ?_
  intro p e s m args below meth c s₁ B hml hv
  obtain ⟨rfl, hsz, hP, hK, hD0, hN⟩ := hv
  have hx := B.exec
  have hb := B.bytes
  have hr := B.returns
  have hts := atoms_spec (ws := ow_dm_X16_handle) B.pre
  have hown : s.vm.findClass RX16 = some m.cls := findClass_of_methodNamed B.named
  have hlocks := B.notSynchronized
  subst hsz
  have hD := hD0.self (sz := s.heap.size)
  generalize hAe : va_A (dw_X16 a ac s0) s.heap.size = A at hD hN ⊢
  have hA : ∀ q : Nat, s.heap.size ≤ q → A q := fun q h => by rw [← hAe]; exact Or.inr h
  have hl := lv_entry ([.ref (a 0), .int v0, .int v1]) (n := 4) (Nat.le_of_ble_eq_true rfl)
  rw [lg_entry_eq]
  generalize (lg_sl ([.ref (a 0), .int v0, .int v1]) ++ List.replicate (4 - (lg_sl ([.ref (a 0), .int v0, .int v1])).length) Slot.unset).toArray = ls at hl ⊢
  have hl : lv_has ls 4 [(0, .ref (a 0)), (1, .int v0), (2, .int v1)] := hl
  exact db_X16_handle_0 (dC := dC) (dI := dI) (a := a) (ac := ac) (n := n) (r := r) ⟨hlt, hx, hb, hml, hown, hts, hN, hA, hK⟩ (fun pc v τ H locs ls d z er hP hD hS => by subst er; exact W.zret (v := v) hx hb hr z (fun t ht hW => ⟨⟨v, (), rfl, rfl, by rw [ht]; exact hP, va_K.moved hW.alike hK, hD⟩, hS.F ht⟩) hS.2.2 d) v0 v1 s0 _ _ _ h hP hD va_S.rf (lv_sub hl [0, 1, 2] rfl)
def ow_dm_X16_back : List Cond := Cond.code yX16_back cX16_back 2 (some .int) :: ([Cond.fieldLink RX16 34 "TimeMachineModel$Machine" "within" "[Z", Cond.fieldLink RX16 232 "TimeMachineModel$Machine" "p" "I", Cond.fieldLink RX16 45 "TimeMachineModel$Machine" "place" "[I", Cond.fieldLink RX16 51 "TimeMachineModel$Machine" "savedPlace" "[I", Cond.methodLink RX16 415 yX16_tell, Cond.instanceMethod yX16_tell, Cond.selects RX16 yX16_tell yX16_tell, Cond.initialized RX16, Cond.fieldLink RX16 42 "TimeMachineModel$Machine" "x" "[I", Cond.fieldLink RX16 48 "TimeMachineModel$Machine" "saved" "[I"] ++ (u_ws RX16 TX16 56 ++ (ow_dm_X16_tell ++ [])))
theorem gd_dm_X16_back : ∀ w ∈ ow_dm_X16_back, (w.onTables && w.keeps) = true ∨ ∃ ty, w = Cond.arrayClass ty := List.forall_mem_cons.mpr ⟨good_of_word rfl, List.forall_mem_append.mpr ⟨fun w h => good_of_word (List.all_eq_true.mp (by decide +kernel) w h), List.forall_mem_append.mpr ⟨gu_X16, List.forall_mem_append.mpr ⟨gd_dm_X16_tell, fun _ h => nomatch h⟩⟩⟩⟩
theorem hi_dm_X16_back_X16 : ∀ w ∈ u_ws RX16 TX16 56, w ∈ ow_dm_X16_back := fun w h => List.mem_cons_of_mem _ (List.mem_append_right _ (List.mem_append_left _ h))
theorem gi_dm_X16_back_0 : GoodIn ow_dm_X16_back (wsV RX16 415 RX16 yX16_tell ow_dm_X16_tell) := goodIn_app (goodIn_of _ (by decide +kernel)) (fun w h => ⟨List.mem_cons_of_mem _ (List.mem_append_right _ (List.mem_append_right _ (List.mem_append_left _ h))), gd_dm_X16_tell w h⟩)
def dj_X16_back_17 (p : Program) (l : Launch) (e : Env) (s : State) (m : MethodId) (args : Array Value) (below : List Frame) (meth : Method) (c : Code) (Q : State → Prop) (A : Nat → Prop) (dC : Nat → ClassId) (dI : Nat → Nat → Nat) (a : Nat → Nat) (ac : Nat → ClassId) (g : Int32 → (St × (St)) → Option (Int32 × (St × (St)))) (r : Int32 × (St × (St))) : Prop := ∀ (x1 : Int32) (s0 : St × (St)) (H : Heap) (locs : List Loc) (ls : Array Slot), g x1 s0 = some r → va_P (dC, dI) vwCl (dw_X16 a ac s0) H → va_D A (dw_X16 a ac s0) → va_S A s.heap H locs → lv_has ls 2 [(0, .ref (a 0)), (1, .int x1)] → W p l e (headSpec ow_dm_X16_back ({ frames := 1, cells := 0, slots := 0, locals := 21 })).room s m args below meth c H locs 0 0 Q (F0 m 17 ls [])
def dj_X16_back_0 (p : Program) (l : Launch) (e : Env) (s : State) (m : MethodId) (args : Array Value) (below : List Frame) (meth : Method) (c : Code) (Q : State → Prop) (A : Nat → Prop) (dC : Nat → ClassId) (dI : Nat → Nat → Nat) (a : Nat → Nat) (ac : Nat → ClassId) (g : (St × (St)) → Option (Int32 × (St × (St)))) (r : Int32 × (St × (St))) : Prop := ∀ (s0 : St × (St)) (H : Heap) (locs : List Loc) (ls : Array Slot), g s0 = some r → va_P (dC, dI) vwCl (dw_X16 a ac s0) H → va_D A (dw_X16 a ac s0) → va_S A s.heap H locs → lv_has ls 2 [(0, .ref (a 0))] → W p l e (headSpec ow_dm_X16_back ({ frames := 1, cells := 0, slots := 0, locals := 21 })).room s m args below meth c H locs 0 0 Q (F0 m 0 ls [])
set_option maxHeartbeats 40000000 in
set_option maxRecDepth 100000 in
theorem dB_X16_back_17 {p : Program} {l : Launch} {e : Env} {s : State} {m : MethodId} {args : Array Value} {below : List Frame} {meth : Method} {c : Code} {Q : State → Prop} {A : Nat → Prop} {dC : Nat → ClassId} {dI : Nat → Nat → Nat} {a : Nat → Nat} {ac : Nat → ClassId} {n : Nat} {r : Int32 × (St × (St))} (C : nd_C p l s m args c A (dC, dI) cX16_back 2 RX16 ow_dm_X16_back (dk_X16 ac)) (K : nd_Ki p l e (headSpec ow_dm_X16_back ({ frames := 1, cells := 0, slots := 0, locals := 21 })).room s m args below meth c Q A (dC, dI) cX16_back .int (St × (St)) (dw_X16 a ac) r) {g17 : Int32 → (St × (St)) → Option (Int32 × (St × (St)))} (J17 : dj_X16_back_17 p l e s m args below meth c Q A dC dI a ac g17 r) : dj_X16_back_17 p l e s m args below meth c Q A dC dI a ac (dF_X16_back_17 n g17) r := by
  obtain ⟨hlt, hx, hb, hml, hown, hts, hN, hA, hK⟩ := id C
  intro x1 s0 H locs ls h hP hD hS hl
  unfold dF_X16_back_17 at h
  refine lv_iload_n hx hb dX16_back_17 rfl (lv_at hl 1 rfl) ?_
  refine lv_bipush (v := 32) hx hb dX16_back_18 (by decide) ?_
  refine lv_icmp_ge (tgt := 57) hx hb dX16_back_20 (by decide) (fun c3 => ?_) (fun c3 => ?_)
  · have h := nd_pos h c3
    refine lv_aload_n hx hb dX16_back_57 rfl (lv_at hl 0 rfl) ?_
    refine va_get (D := (dC, dI)) (ci := 17) (v := .ref (a 12)) (C := RX16) (T := TX16) (N := 56) hx hb hts hi_dm_X16_back_X16 hown hK hP 0 rfl rfl 20 (by decide) (hts (.fieldLink RX16 45 "TimeMachineModel$Machine" "place" "[I") (List.mem_of_getElem? (i := 3) rfl)) (fun _ h9 => h9) rfl dX16_back_58 ?_
    refine lv_aload_n hx hb dX16_back_61 rfl (lv_at hl 0 rfl) ?_
    refine va_get (D := (dC, dI)) (ci := 17) (v := .int (sI s0.1 12)) (C := RX16) (T := TX16) (N := 56) hx hb hts hi_dm_X16_back_X16 hown hK hP 0 rfl rfl 51 (by decide) (hts (.fieldLink RX16 232 "TimeMachineModel$Machine" "p" "I") (List.mem_of_getElem? (i := 2) rfl)) (fun _ h9 => h9) rfl dX16_back_62 ?_
    refine lv_aload_n hx hb dX16_back_65 rfl (lv_at hl 0 rfl) ?_
    refine va_get (D := (dC, dI)) (ci := 17) (v := .ref (a 14)) (C := RX16) (T := TX16) (N := 56) hx hb hts hi_dm_X16_back_X16 hown hK hP 0 rfl rfl 22 (by decide) (hts (.fieldLink RX16 51 "TimeMachineModel$Machine" "savedPlace" "[I") (List.mem_of_getElem? (i := 4) rfl)) (fun _ h9 => h9) rfl dX16_back_66 ?_
    refine lv_aload_n hx hb dX16_back_69 rfl (lv_at hl 0 rfl) ?_
    refine va_get (D := (dC, dI)) (ci := 17) (v := .int (sI s0.1 12)) (C := RX16) (T := TX16) (N := 56) hx hb hts hi_dm_X16_back_X16 hown hK hP 0 rfl rfl 51 (by decide) (hts (.fieldLink RX16 232 "TimeMachineModel$Machine" "p" "I") (List.mem_of_getElem? (i := 2) rfl)) (fun _ h9 => h9) rfl dX16_back_70 ?_
    obtain ⟨i4, h⟩ := nd_ck_e h
    refine va_iald (i := (sI s0.1 12)) hx hb hK hP 14 13 rfl rfl i4 dX16_back_73 ?_
    obtain ⟨i5, h⟩ := nd_ck_e h
    refine va_iast (i := (sI s0.1 12)) (x := (sR s0.1 12 (Int32.toNatClampNeg (sI s0.1 12)))) hx hb hK hP hD hS 12 11 rfl rfl i5 dX16_back_74 (fun H locs hP hD hS => ?_)
    obtain ⟨s6, es6, h⟩ := nd_let_e h
    have hP : va_P (dC, dI) vwCl (dw_X16 a ac s6) H := by rw [es6]; exact hP
    have hD : va_D A (dw_X16 a ac s6) := by rw [es6]; exact hD
    refine lv_aload_n hx hb dX16_back_75 rfl (lv_at hl 0 rfl) ?_
    refine va_get (D := (dC, dI)) (ci := 17) (v := .ref (a 9)) (C := RX16) (T := TX16) (N := 56) hx hb hts hi_dm_X16_back_X16 hown hK hP 0 rfl rfl 17 (by decide) (hts (.fieldLink RX16 34 "TimeMachineModel$Machine" "within" "[Z") (List.mem_of_getElem? (i := 1) rfl)) (fun _ h9 => h9) rfl dX16_back_76 ?_
    refine lv_aload_n hx hb dX16_back_79 rfl (lv_at hl 0 rfl) ?_
    refine va_get (D := (dC, dI)) (ci := 17) (v := .int (sI s6.1 12)) (C := RX16) (T := TX16) (N := 56) hx hb hts hi_dm_X16_back_X16 hown hK hP 0 rfl rfl 51 (by decide) (hts (.fieldLink RX16 232 "TimeMachineModel$Machine" "p" "I") (List.mem_of_getElem? (i := 2) rfl)) (fun _ h9 => h9) rfl dX16_back_80 ?_
    refine lv_iconst (v := 0) hx hb dX16_back_83 (by decide) ?_
    obtain ⟨i7, h⟩ := nd_ck_e h
    refine va_zast (i := (sI s6.1 12)) (x := 0) hx hb hK hP hD hS 9 8 rfl rfl i7 dX16_back_84 (fun H locs hP hD hS => ?_)
    obtain ⟨s8, es8, h⟩ := nd_let_e h
    have hP : va_P (dC, dI) vwCl (dw_X16 a ac s8) H := by rw [es8]; exact hP
    have hD : va_D A (dw_X16 a ac s8) := by rw [es8]; exact hD
    refine lv_aload_n hx hb dX16_back_85 rfl (lv_at hl 0 rfl) ?_
    refine lv_iconst (v := 2) hx hb dX16_back_86 (by decide) ?_
    obtain ⟨q9, s10, hq, h⟩ := nd_b2_e h
    have hPc := hP
    have hDc := hD
    have hKc := hK
    have hFc := nd_rs hD hS hA
    refine nd_cVi (As := [.int 2]) (rest := []) (q := q9) (w' := dw_X16 a ac s10) ⟨hx, hb, hml, hown, hts⟩ (fun sz => dm_X16_tell l hlt dC dI a ac n (2) s8 hq sz) (cwV 1 hts gi_dm_X16_back_0 rfl rfl rfl (by decide +kernel) ⟨Nat.le_of_ble_eq_true rfl, Nat.le_of_ble_eq_true rfl⟩) hPc hDc hKc hS hA hN (va_recv hKc hPc (ci := 17) (q0 := 0) rfl rfl) rfl hl.1 rfl (Nat.le_of_ble_eq_true rfl) dX16_back_87 (fun H locs hP1 hD1 hk1 hS => ?_)
    have hP := hP1
    have hD := hD1.weaken (fun k q _ h => hFc q.1 h)
    exact K _ _ _ _ _ _ dX16_back_90 rfl (Option.some.inj h).symm hP hD hS
  · have h := nd_neg h c3
    refine lv_aload_n hx hb dX16_back_23 rfl (lv_at hl 0 rfl) ?_
    refine va_get (D := (dC, dI)) (ci := 17) (v := .ref (a 11)) (C := RX16) (T := TX16) (N := 56) hx hb hts hi_dm_X16_back_X16 hown hK hP 0 rfl rfl 19 (by decide) (hts (.fieldLink RX16 42 "TimeMachineModel$Machine" "x" "[I") (List.mem_of_getElem? (i := 9) rfl)) (fun _ h9 => h9) rfl dX16_back_24 ?_
    refine lv_bipush (v := 32) hx hb dX16_back_27 (by decide) ?_
    refine lv_aload_n hx hb dX16_back_29 rfl (lv_at hl 0 rfl) ?_
    refine va_get (D := (dC, dI)) (ci := 17) (v := .int (sI s0.1 12)) (C := RX16) (T := TX16) (N := 56) hx hb hts hi_dm_X16_back_X16 hown hK hP 0 rfl rfl 51 (by decide) (hts (.fieldLink RX16 232 "TimeMachineModel$Machine" "p" "I") (List.mem_of_getElem? (i := 2) rfl)) (fun _ h9 => h9) rfl dX16_back_30 ?_
    refine lv_imul hx hb dX16_back_33 ?_
    refine lv_iload_n hx hb dX16_back_34 rfl (lv_at hl 1 rfl) ?_
    refine lv_iadd hx hb dX16_back_35 ?_
    refine lv_aload_n hx hb dX16_back_36 rfl (lv_at hl 0 rfl) ?_
    refine va_get (D := (dC, dI)) (ci := 17) (v := .ref (a 13)) (C := RX16) (T := TX16) (N := 56) hx hb hts hi_dm_X16_back_X16 hown hK hP 0 rfl rfl 21 (by decide) (hts (.fieldLink RX16 48 "TimeMachineModel$Machine" "saved" "[I") (List.mem_of_getElem? (i := 10) rfl)) (fun _ h9 => h9) rfl dX16_back_37 ?_
    refine lv_bipush (v := 32) hx hb dX16_back_40 (by decide) ?_
    refine lv_aload_n hx hb dX16_back_42 rfl (lv_at hl 0 rfl) ?_
    refine va_get (D := (dC, dI)) (ci := 17) (v := .int (sI s0.1 12)) (C := RX16) (T := TX16) (N := 56) hx hb hts hi_dm_X16_back_X16 hown hK hP 0 rfl rfl 51 (by decide) (hts (.fieldLink RX16 232 "TimeMachineModel$Machine" "p" "I") (List.mem_of_getElem? (i := 2) rfl)) (fun _ h9 => h9) rfl dX16_back_43 ?_
    refine lv_imul hx hb dX16_back_46 ?_
    refine lv_iload_n hx hb dX16_back_47 rfl (lv_at hl 1 rfl) ?_
    refine lv_iadd hx hb dX16_back_48 ?_
    obtain ⟨i12, h⟩ := nd_ck_e h
    refine va_iald (i := ((32 * (sI s0.1 12)) + x1)) hx hb hK hP 13 12 rfl rfl i12 dX16_back_49 ?_
    obtain ⟨i13, h⟩ := nd_ck_e h
    refine va_iast (i := ((32 * (sI s0.1 12)) + x1)) (x := (sR s0.1 11 (Int32.toNatClampNeg ((32 * (sI s0.1 12)) + x1)))) hx hb hK hP hD hS 11 10 rfl rfl i13 dX16_back_50 (fun H locs hP hD hS => ?_)
    obtain ⟨s14, es14, h⟩ := nd_let_e h
    have hP : va_P (dC, dI) vwCl (dw_X16 a ac s14) H := by rw [es14]; exact hP
    have hD : va_D A (dw_X16 a ac s14) := by rw [es14]; exact hD
    obtain ⟨z15, ez15, h⟩ := nd_let_e h
    refine lv_iinc (v := z15) (lv' := [(1, .int z15), (0, .ref (a 0))]) hx hb dX16_back_51 hl (k := 1) rfl (by rw [ez15]) (by decide) rfl (fun ls hl => ?_)
    refine lv_goto (tgt := 17) hx hb dX16_back_54 (by decide) ?_
    exact (J17) (z15) s14 _ _ _ h hP hD hS (lv_sub hl [1, 0] rfl)
set_option maxHeartbeats 40000000 in
set_option maxRecDepth 100000 in
theorem db_X16_back_17 {p : Program} {l : Launch} {e : Env} {s : State} {m : MethodId} {args : Array Value} {below : List Frame} {meth : Method} {c : Code} {Q : State → Prop} {A : Nat → Prop} {dC : Nat → ClassId} {dI : Nat → Nat → Nat} {a : Nat → Nat} {ac : Nat → ClassId} {n : Nat} {r : Int32 × (St × (St))} (C : nd_C p l s m args c A (dC, dI) cX16_back 2 RX16 ow_dm_X16_back (dk_X16 ac)) (K : nd_Ki p l e (headSpec ow_dm_X16_back ({ frames := 1, cells := 0, slots := 0, locals := 21 })).room s m args below meth c Q A (dC, dI) cX16_back .int (St × (St)) (dw_X16 a ac) r) (k : Nat) : dj_X16_back_17 p l e s m args below meth c Q A dC dI a ac (df_X16_back_17 n k) r := by
  induction k with
  | zero => intro x1 s0 H locs ls h; exact nomatch (show (none : Option (Int32 × (St × (St)))) = some r from h)
  | succ k ih => exact dB_X16_back_17 C K ih
set_option maxHeartbeats 40000000 in
set_option maxRecDepth 100000 in
theorem db_X16_back_0 {p : Program} {l : Launch} {e : Env} {s : State} {m : MethodId} {args : Array Value} {below : List Frame} {meth : Method} {c : Code} {Q : State → Prop} {A : Nat → Prop} {dC : Nat → ClassId} {dI : Nat → Nat → Nat} {a : Nat → Nat} {ac : Nat → ClassId} {n : Nat} {r : Int32 × (St × (St))} (C : nd_C p l s m args c A (dC, dI) cX16_back 2 RX16 ow_dm_X16_back (dk_X16 ac)) (K : nd_Ki p l e (headSpec ow_dm_X16_back ({ frames := 1, cells := 0, slots := 0, locals := 21 })).room s m args below meth c Q A (dC, dI) cX16_back .int (St × (St)) (dw_X16 a ac) r) : dj_X16_back_0 p l e s m args below meth c Q A dC dI a ac (df_X16_back_0 n) r := by
  obtain ⟨hlt, hx, hb, hml, hown, hts, hN, hA, hK⟩ := id C
  intro s0 H locs ls h hP hD hS hl
  unfold df_X16_back_0 at h
  refine lv_aload_n hx hb dX16_back_0 rfl (lv_at hl 0 rfl) ?_
  refine va_get (D := (dC, dI)) (ci := 17) (v := .ref (a 9)) (C := RX16) (T := TX16) (N := 56) hx hb hts hi_dm_X16_back_X16 hown hK hP 0 rfl rfl 17 (by decide) (hts (.fieldLink RX16 34 "TimeMachineModel$Machine" "within" "[Z") (List.mem_of_getElem? (i := 1) rfl)) (fun _ h9 => h9) rfl dX16_back_1 ?_
  refine lv_aload_n hx hb dX16_back_4 rfl (lv_at hl 0 rfl) ?_
  refine va_get (D := (dC, dI)) (ci := 17) (v := .int (sI s0.1 12)) (C := RX16) (T := TX16) (N := 56) hx hb hts hi_dm_X16_back_X16 hown hK hP 0 rfl rfl 51 (by decide) (hts (.fieldLink RX16 232 "TimeMachineModel$Machine" "p" "I") (List.mem_of_getElem? (i := 2) rfl)) (fun _ h9 => h9) rfl dX16_back_5 ?_
  obtain ⟨i1, h⟩ := nd_ck_e h
  refine va_zald (i := (sI s0.1 12)) hx hb hK hP 9 8 rfl rfl i1 dX16_back_8 ?_
  refine lv_if_ne (tgt := 15) hx hb dX16_back_9 (by decide) (fun c2 => ?_) (fun c2 => ?_)
  · have h := nd_neg h c2
    refine lv_iconst (v := 0) hx hb dX16_back_15 (by decide) ?_
    refine lv_istore_n (lv' := [(1, .int 0), (0, .ref (a 0))]) hx hb dX16_back_16 rfl hl (by decide) rfl (fun ls hl => ?_)
    exact (db_X16_back_17 C K n) (0) s0 _ _ _ h hP hD hS (lv_sub hl [1, 0] rfl)
  · have h := nd_pos h c2
    refine lv_bipush (v := (-22)) hx hb dX16_back_12 (by decide) ?_
    exact K _ _ _ _ _ _ dX16_back_14 rfl (Option.some.inj h).symm hP hD hS
set_option maxHeartbeats 40000000 in
set_option maxRecDepth 100000 in
theorem dm_X16_back (l : Launch) (hlt : l.stackTraces = false) (dC : Nat → ClassId) (dI : Nat → Nat → Nat) (a : Nat → Nat) (ac : Nat → ClassId) (n : Nat) (s0 : St × (St)) {r : Int32 × (St × (St))} (h : df_X16_back n s0 = some r) (sz : Nat) : Met l yX16_back ow_dm_X16_back ({ frames := 1, cells := 0, slots := 0, locals := 21 }) (va_Pc [.ref (a 0)] (fun U => U.heap.size = sz ∧ va_P (dC, dI) vwCl (dw_X16 a ac s0) U.heap ∧ va_K (dC, dI) vwCl (dk_X16 ac) U ∧ va_D (fun _ => True) (dw_X16 a ac s0) ∧ nv_E dI (va_A (dw_X16 a ac s0) sz) U)) (va_Qi (fun x _ => x = r.1) (fun (_ : Unit) t => va_P (dC, dI) vwCl (dw_X16 a ac r.2) t.heap ∧ va_K (dC, dI) vwCl (dk_X16 ac) t ∧ va_D (va_A (dw_X16 a ac s0) sz) (dw_X16 a ac r.2)) (va_A (dw_X16 a ac s0) sz)) 0 0 (va_A (dw_X16 a ac s0) sz) := by
  refine Met.ofW (cc := cX16_back) (maxL := 2) (ret := (some .int)) (by decide) rfl ?_
  intro p e s m args below meth c s₁ B hml hv
  obtain ⟨rfl, hsz, hP, hK, hD0, hN⟩ := hv
  have hx := B.exec
  have hb := B.bytes
  have hr := B.returns
  have hts := atoms_spec (ws := ow_dm_X16_back) B.pre
  have hown : s.vm.findClass RX16 = some m.cls := findClass_of_methodNamed B.named
  have hlocks := B.notSynchronized
  subst hsz
  have hD := hD0.self (sz := s.heap.size)
  generalize hAe : va_A (dw_X16 a ac s0) s.heap.size = A at hD hN ⊢
  have hA : ∀ q : Nat, s.heap.size ≤ q → A q := fun q h => by rw [← hAe]; exact Or.inr h
  have hl := lv_entry ([.ref (a 0)]) (n := 2) (Nat.le_of_ble_eq_true rfl)
  rw [lg_entry_eq]
  generalize (lg_sl ([.ref (a 0)]) ++ List.replicate (2 - (lg_sl ([.ref (a 0)])).length) Slot.unset).toArray = ls at hl ⊢
  have hl : lv_has ls 2 [(0, .ref (a 0))] := hl
  exact db_X16_back_0 (dC := dC) (dI := dI) (a := a) (ac := ac) (n := n) (r := r) ⟨hlt, hx, hb, hml, hown, hts, hN, hA, hK⟩ (fun pc v τ H locs ls d z er hP hD hS => by subst er; exact W.zret (v := v) hx hb hr z (fun t ht hW => ⟨⟨v, (), rfl, rfl, by rw [ht]; exact hP, va_K.moved hW.alike hK, hD⟩, hS.F ht⟩) hS.2.2 d) s0 _ _ _ h hP hD va_S.rf (lv_sub hl [0] rfl)
def ow_dm_X16_sleep : List Cond := Cond.code yX16_sleep cX16_sleep 2 (some .int) :: ([Cond.fieldLink RX16 38 "TimeMachineModel$Machine" "since" "[J", Cond.fieldLink RX16 232 "TimeMachineModel$Machine" "p" "I", Cond.fieldLink RX16 151 "TimeMachineModel$Machine" "clock" "J", Cond.constantLong RX16 175 (-1), Cond.methodLink RX16 415 yX16_tell, Cond.instanceMethod yX16_tell, Cond.selects RX16 yX16_tell yX16_tell, Cond.initialized RX16, Cond.methodLink RX16 390 yX16_plain, Cond.static yX16_plain] ++ (u_ws RX16 TX16 56 ++ (ow_dm_X16_tell ++ (ow_dm_X16_plain ++ []))))
theorem gd_dm_X16_sleep : ∀ w ∈ ow_dm_X16_sleep, (w.onTables && w.keeps) = true ∨ ∃ ty, w = Cond.arrayClass ty := List.forall_mem_cons.mpr ⟨good_of_word rfl, List.forall_mem_append.mpr ⟨fun w h => good_of_word (List.all_eq_true.mp (by decide +kernel) w h), List.forall_mem_append.mpr ⟨gu_X16, List.forall_mem_append.mpr ⟨gd_dm_X16_tell, List.forall_mem_append.mpr ⟨gd_dm_X16_plain, fun _ h => nomatch h⟩⟩⟩⟩⟩
theorem hi_dm_X16_sleep_X16 : ∀ w ∈ u_ws RX16 TX16 56, w ∈ ow_dm_X16_sleep := fun w h => List.mem_cons_of_mem _ (List.mem_append_right _ (List.mem_append_left _ h))
theorem gi_dm_X16_sleep_0 : GoodIn ow_dm_X16_sleep (wsV RX16 415 RX16 yX16_tell ow_dm_X16_tell) := goodIn_app (goodIn_of _ (by decide +kernel)) (fun w h => ⟨List.mem_cons_of_mem _ (List.mem_append_right _ (List.mem_append_right _ (List.mem_append_left _ h))), gd_dm_X16_tell w h⟩)
theorem gi_dm_X16_sleep_1 : GoodIn ow_dm_X16_sleep (wsS RX16 390 yX16_plain ow_dm_X16_plain) := goodIn_app (goodIn_of _ (by decide +kernel)) (fun w h => ⟨List.mem_cons_of_mem _ (List.mem_append_right _ (List.mem_append_right _ (List.mem_append_right _ (List.mem_append_left _ h)))), gd_dm_X16_plain w h⟩)
def dj_X16_sleep_32 (p : Program) (l : Launch) (e : Env) (s : State) (m : MethodId) (args : Array Value) (below : List Frame) (meth : Method) (c : Code) (Q : State → Prop) (A : Nat → Prop) (dC : Nat → ClassId) (dI : Nat → Nat → Nat) (a : Nat → Nat) (ac : Nat → ClassId) (g : (St × (St)) → Option (Int32 × (St × (St)))) (r : Int32 × (St × (St))) : Prop := ∀ (s0 : St × (St)) (H : Heap) (locs : List Loc) (ls : Array Slot), g s0 = some r → va_P (dC, dI) vwCl (dw_X16 a ac s0) H → va_D A (dw_X16 a ac s0) → va_S A s.heap H locs → lv_has ls 2 [(0, .ref (a 0))] → W p l e (headSpec ow_dm_X16_sleep ({ frames := 1, cells := 0, slots := 0, locals := 21 })).room s m args below meth c H locs 0 0 Q (F0 m 32 ls [])
def dj_X16_sleep_0 (p : Program) (l : Launch) (e : Env) (s : State) (m : MethodId) (args : Array Value) (below : List Frame) (meth : Method) (c : Code) (Q : State → Prop) (A : Nat → Prop) (dC : Nat → ClassId) (dI : Nat → Nat → Nat) (a : Nat → Nat) (ac : Nat → ClassId) (g : Int32 → (St × (St)) → Option (Int32 × (St × (St)))) (r : Int32 × (St × (St))) : Prop := ∀ (v0 : Int32) (s0 : St × (St)) (H : Heap) (locs : List Loc) (ls : Array Slot), g v0 s0 = some r → va_P (dC, dI) vwCl (dw_X16 a ac s0) H → va_D A (dw_X16 a ac s0) → va_S A s.heap H locs → lv_has ls 2 [(0, .ref (a 0)), (1, .int v0)] → W p l e (headSpec ow_dm_X16_sleep ({ frames := 1, cells := 0, slots := 0, locals := 21 })).room s m args below meth c H locs 0 0 Q (F0 m 0 ls [])
set_option maxHeartbeats 40000000 in
set_option maxRecDepth 100000 in
theorem db_X16_sleep_32 {p : Program} {l : Launch} {e : Env} {s : State} {m : MethodId} {args : Array Value} {below : List Frame} {meth : Method} {c : Code} {Q : State → Prop} {A : Nat → Prop} {dC : Nat → ClassId} {dI : Nat → Nat → Nat} {a : Nat → Nat} {ac : Nat → ClassId} {n : Nat} {r : Int32 × (St × (St))} (C : nd_C p l s m args c A (dC, dI) cX16_sleep 2 RX16 ow_dm_X16_sleep (dk_X16 ac)) (K : nd_Ki p l e (headSpec ow_dm_X16_sleep ({ frames := 1, cells := 0, slots := 0, locals := 21 })).room s m args below meth c Q A (dC, dI) cX16_sleep .int (St × (St)) (dw_X16 a ac) r) : dj_X16_sleep_32 p l e s m args below meth c Q A dC dI a ac (df_X16_sleep_32 n) r := by
  obtain ⟨hlt, hx, hb, hml, hown, hts, hN, hA, hK⟩ := id C
  intro s0 H locs ls h hP hD hS hl
  unfold df_X16_sleep_32 at h
  refine lv_aload_n hx hb dX16_sleep_32 rfl (lv_at hl 0 rfl) ?_
  refine va_get (D := (dC, dI)) (ci := 17) (v := .long (sL s0.1 1)) (C := RX16) (T := TX16) (N := 56) hx hb hts hi_dm_X16_sleep_X16 hown hK hP 0 rfl rfl 7 (by decide) (hts (.fieldLink RX16 151 "TimeMachineModel$Machine" "clock" "J") (List.mem_of_getElem? (i := 3) rfl)) (fun _ h9 => h9) rfl dX16_sleep_33 ?_
  refine lv_aload_n hx hb dX16_sleep_36 rfl (lv_at hl 0 rfl) ?_
  refine va_get (D := (dC, dI)) (ci := 17) (v := .ref (a 10)) (C := RX16) (T := TX16) (N := 56) hx hb hts hi_dm_X16_sleep_X16 hown hK hP 0 rfl rfl 18 (by decide) (hts (.fieldLink RX16 38 "TimeMachineModel$Machine" "since" "[J") (List.mem_of_getElem? (i := 1) rfl)) (fun _ h9 => h9) rfl dX16_sleep_37 ?_
  refine lv_aload_n hx hb dX16_sleep_40 rfl (lv_at hl 0 rfl) ?_
  refine va_get (D := (dC, dI)) (ci := 17) (v := .int (sI s0.1 12)) (C := RX16) (T := TX16) (N := 56) hx hb hts hi_dm_X16_sleep_X16 hown hK hP 0 rfl rfl 51 (by decide) (hts (.fieldLink RX16 232 "TimeMachineModel$Machine" "p" "I") (List.mem_of_getElem? (i := 2) rfl)) (fun _ h9 => h9) rfl dX16_sleep_41 ?_
  obtain ⟨i3, h⟩ := nd_ck_e h
  refine va_lald (i := (sI s0.1 12)) hx hb hK hP 10 9 rfl rfl i3 dX16_sleep_44 ?_
  refine W.lcmp hx hb dX16_sleep_45 ?_
  refine lv_if_ge (tgt := 55) hx hb dX16_sleep_46 (by decide) (fun c4 => ?_) (fun c4 => ?_)
  · have h := nd_pos h c4
    refine lv_aload_n hx hb dX16_sleep_55 rfl (lv_at hl 0 rfl) ?_
    refine va_get (D := (dC, dI)) (ci := 17) (v := .ref (a 10)) (C := RX16) (T := TX16) (N := 56) hx hb hts hi_dm_X16_sleep_X16 hown hK hP 0 rfl rfl 18 (by decide) (hts (.fieldLink RX16 38 "TimeMachineModel$Machine" "since" "[J") (List.mem_of_getElem? (i := 1) rfl)) (fun _ h9 => h9) rfl dX16_sleep_56 ?_
    refine lv_aload_n hx hb dX16_sleep_59 rfl (lv_at hl 0 rfl) ?_
    refine va_get (D := (dC, dI)) (ci := 17) (v := .int (sI s0.1 12)) (C := RX16) (T := TX16) (N := 56) hx hb hts hi_dm_X16_sleep_X16 hown hK hP 0 rfl rfl 51 (by decide) (hts (.fieldLink RX16 232 "TimeMachineModel$Machine" "p" "I") (List.mem_of_getElem? (i := 2) rfl)) (fun _ h9 => h9) rfl dX16_sleep_60 ?_
    refine lv_ldc2 hx hb hown (hts (.constantLong RX16 175 (-1)) (List.mem_of_getElem? (i := 4) rfl)) dX16_sleep_63 ?_
    obtain ⟨i5, h⟩ := nd_ck_e h
    refine va_last (i := (sI s0.1 12)) (x := (-1)) hx hb hK hP hD hS 10 9 rfl rfl i5 dX16_sleep_66 (fun H locs hP hD hS => ?_)
    obtain ⟨s6, es6, h⟩ := nd_let_e h
    have hP : va_P (dC, dI) vwCl (dw_X16 a ac s6) H := by rw [es6]; exact hP
    have hD : va_D A (dw_X16 a ac s6) := by rw [es6]; exact hD
    refine lv_iconst (v := 0) hx hb dX16_sleep_67 (by decide) ?_
    exact K _ _ _ _ _ _ dX16_sleep_68 rfl (Option.some.inj h).symm hP hD hS
  · have h := nd_neg h c4
    refine lv_aload_n hx hb dX16_sleep_49 rfl (lv_at hl 0 rfl) ?_
    refine lv_iconst (v := 1) hx hb dX16_sleep_50 (by decide) ?_
    obtain ⟨q7, s8, hq, h⟩ := nd_b2_e h
    have hPc := hP
    have hDc := hD
    have hKc := hK
    have hFc := nd_rs hD hS hA
    refine nd_cVi (As := [.int 1]) (rest := []) (q := q7) (w' := dw_X16 a ac s8) ⟨hx, hb, hml, hown, hts⟩ (fun sz => dm_X16_tell l hlt dC dI a ac n (1) s0 hq sz) (cwV 1 hts gi_dm_X16_sleep_0 rfl rfl rfl (by decide +kernel) ⟨Nat.le_of_ble_eq_true rfl, Nat.le_of_ble_eq_true rfl⟩) hPc hDc hKc hS hA hN (va_recv hKc hPc (ci := 17) (q0 := 0) rfl rfl) rfl hl.1 rfl (Nat.le_of_ble_eq_true rfl) dX16_sleep_51 (fun H locs hP1 hD1 hk1 hS => ?_)
    have hP := hP1
    have hD := hD1.weaken (fun k q _ h => hFc q.1 h)
    exact K _ _ _ _ _ _ dX16_sleep_54 rfl (Option.some.inj h).symm hP hD hS
set_option maxHeartbeats 40000000 in
set_option maxRecDepth 100000 in
theorem db_X16_sleep_0 {p : Program} {l : Launch} {e : Env} {s : State} {m : MethodId} {args : Array Value} {below : List Frame} {meth : Method} {c : Code} {Q : State → Prop} {A : Nat → Prop} {dC : Nat → ClassId} {dI : Nat → Nat → Nat} {a : Nat → Nat} {ac : Nat → ClassId} {n : Nat} {r : Int32 × (St × (St))} (C : nd_C p l s m args c A (dC, dI) cX16_sleep 2 RX16 ow_dm_X16_sleep (dk_X16 ac)) (K : nd_Ki p l e (headSpec ow_dm_X16_sleep ({ frames := 1, cells := 0, slots := 0, locals := 21 })).room s m args below meth c Q A (dC, dI) cX16_sleep .int (St × (St)) (dw_X16 a ac) r) : dj_X16_sleep_0 p l e s m args below meth c Q A dC dI a ac (df_X16_sleep_0 n) r := by
  obtain ⟨hlt, hx, hb, hml, hown, hts, hN, hA, hK⟩ := id C
  intro v0 s0 H locs ls h hP hD hS hl
  unfold df_X16_sleep_0 at h
  refine lv_aload_n hx hb dX16_sleep_0 rfl (lv_at hl 0 rfl) ?_
  refine va_get (D := (dC, dI)) (ci := 17) (v := .ref (a 10)) (C := RX16) (T := TX16) (N := 56) hx hb hts hi_dm_X16_sleep_X16 hown hK hP 0 rfl rfl 18 (by decide) (hts (.fieldLink RX16 38 "TimeMachineModel$Machine" "since" "[J") (List.mem_of_getElem? (i := 1) rfl)) (fun _ h9 => h9) rfl dX16_sleep_1 ?_
  refine lv_aload_n hx hb dX16_sleep_4 rfl (lv_at hl 0 rfl) ?_
  refine va_get (D := (dC, dI)) (ci := 17) (v := .int (sI s0.1 12)) (C := RX16) (T := TX16) (N := 56) hx hb hts hi_dm_X16_sleep_X16 hown hK hP 0 rfl rfl 51 (by decide) (hts (.fieldLink RX16 232 "TimeMachineModel$Machine" "p" "I") (List.mem_of_getElem? (i := 2) rfl)) (fun _ h9 => h9) rfl dX16_sleep_5 ?_
  obtain ⟨i1, h⟩ := nd_ck_e h
  refine va_lald (i := (sI s0.1 12)) hx hb hK hP 10 9 rfl rfl i1 dX16_sleep_8 ?_
  refine lv_lconst (v := 0) hx hb dX16_sleep_9 (by decide) ?_
  refine W.lcmp hx hb dX16_sleep_10 ?_
  refine lv_if_ge (tgt := 32) hx hb dX16_sleep_11 (by decide) (fun c2 => ?_) (fun c2 => ?_)
  · have h := nd_pos h c2
    exact (db_X16_sleep_32 C K)  s0 _ _ _ h hP hD hS (lv_sub hl [0] rfl)
  · have h := nd_neg h c2
    refine lv_aload_n hx hb dX16_sleep_14 rfl (lv_at hl 0 rfl) ?_
    refine va_get (D := (dC, dI)) (ci := 17) (v := .ref (a 10)) (C := RX16) (T := TX16) (N := 56) hx hb hts hi_dm_X16_sleep_X16 hown hK hP 0 rfl rfl 18 (by decide) (hts (.fieldLink RX16 38 "TimeMachineModel$Machine" "since" "[J") (List.mem_of_getElem? (i := 1) rfl)) (fun _ h9 => h9) rfl dX16_sleep_15 ?_
    refine lv_aload_n hx hb dX16_sleep_18 rfl (lv_at hl 0 rfl) ?_
    refine va_get (D := (dC, dI)) (ci := 17) (v := .int (sI s0.1 12)) (C := RX16) (T := TX16) (N := 56) hx hb hts hi_dm_X16_sleep_X16 hown hK hP 0 rfl rfl 51 (by decide) (hts (.fieldLink RX16 232 "TimeMachineModel$Machine" "p" "I") (List.mem_of_getElem? (i := 2) rfl)) (fun _ h9 => h9) rfl dX16_sleep_19 ?_
    refine lv_aload_n hx hb dX16_sleep_22 rfl (lv_at hl 0 rfl) ?_
    refine va_get (D := (dC, dI)) (ci := 17) (v := .long (sL s0.1 1)) (C := RX16) (T := TX16) (N := 56) hx hb hts hi_dm_X16_sleep_X16 hown hK hP 0 rfl rfl 7 (by decide) (hts (.fieldLink RX16 151 "TimeMachineModel$Machine" "clock" "J") (List.mem_of_getElem? (i := 3) rfl)) (fun _ h9 => h9) rfl dX16_sleep_23 ?_
    refine lv_iload_n hx hb dX16_sleep_26 rfl (lv_at hl 1 rfl) ?_
    obtain ⟨q10, s11, hq, h⟩ := nd_b2_e h
    have hPc : va_P (dC, dI) vwCl (dw_P a ac ()) H := nd_p0
    have hDc : va_D A (dw_P a ac ()) := nd_d0
    have hKc : va_K (dC, dI) vwCl (dk_P ac) s := nd_y0 hK
    have hFc : ∀ q, va_A (dw_P a ac ()) H.size q → A q := nd_r0 hS hA
    refine nd_cSl (As := [.int v0]) (rest := [.long (sL s0.1 1), .int (sI s0.1 12), .ref (a 10)]) (q := q10) (w' := dw_P a ac s11) ⟨hx, hb, hml, hown, hts⟩ (fun sz => dm_X16_plain l hlt dC dI a ac n (v0) () hq sz) (cwS 1 hts gi_dm_X16_sleep_1 rfl rfl rfl (by decide +kernel) ⟨Nat.le_of_ble_eq_true rfl, Nat.le_of_ble_eq_true rfl⟩) hPc hDc hKc hS hA hN rfl hl.1 rfl (Nat.le_of_ble_eq_true rfl) dX16_sleep_27 (fun H locs hP1 hD1 hk1 hS => ?_)
    have hP := nd_n0 hP hk1
    refine lv_ladd hx hb dX16_sleep_30 ?_
    obtain ⟨i13, h⟩ := nd_ck_e h
    refine va_last (i := (sI s0.1 12)) (x := (((sL s0.1 1) : Int64) + q10)) hx hb hK hP hD hS 10 9 rfl rfl i13 dX16_sleep_31 (fun H locs hP hD hS => ?_)
    obtain ⟨s14, es14, h⟩ := nd_let_e h
    have hP : va_P (dC, dI) vwCl (dw_X16 a ac s14) H := by rw [es14]; exact hP
    have hD : va_D A (dw_X16 a ac s14) := by rw [es14]; exact hD
    exact (db_X16_sleep_32 C K)  s14 _ _ _ h hP hD hS (lv_sub hl [0] rfl)
set_option maxHeartbeats 40000000 in
set_option maxRecDepth 100000 in
theorem dm_X16_sleep (l : Launch) (hlt : l.stackTraces = false) (dC : Nat → ClassId) (dI : Nat → Nat → Nat) (a : Nat → Nat) (ac : Nat → ClassId) (n : Nat) (v0 : Int32) (s0 : St × (St)) {r : Int32 × (St × (St))} (h : df_X16_sleep n v0 s0 = some r) (sz : Nat) : Met l yX16_sleep ow_dm_X16_sleep ({ frames := 1, cells := 0, slots := 0, locals := 21 }) (va_Pc [.ref (a 0), .int v0] (fun U => U.heap.size = sz ∧ va_P (dC, dI) vwCl (dw_X16 a ac s0) U.heap ∧ va_K (dC, dI) vwCl (dk_X16 ac) U ∧ va_D (fun _ => True) (dw_X16 a ac s0) ∧ nv_E dI (va_A (dw_X16 a ac s0) sz) U)) (va_Qi (fun x _ => x = r.1) (fun (_ : Unit) t => va_P (dC, dI) vwCl (dw_X16 a ac r.2) t.heap ∧ va_K (dC, dI) vwCl (dk_X16 ac) t ∧ va_D (va_A (dw_X16 a ac s0) sz) (dw_X16 a ac r.2)) (va_A (dw_X16 a ac s0) sz)) 0 0 (va_A (dw_X16 a ac s0) sz) := by
  refine Met.ofW (cc := cX16_sleep) (maxL := 2) (ret := (some .int)) (by decide) rfl ?_
  intro p e s m args below meth c s₁ B hml hv
  obtain ⟨rfl, hsz, hP, hK, hD0, hN⟩ := hv
  have hx := B.exec
  have hb := B.bytes
  have hr := B.returns
  have hts := atoms_spec (ws := ow_dm_X16_sleep) B.pre
  have hown : s.vm.findClass RX16 = some m.cls := findClass_of_methodNamed B.named
  have hlocks := B.notSynchronized
  subst hsz
  have hD := hD0.self (sz := s.heap.size)
  generalize hAe : va_A (dw_X16 a ac s0) s.heap.size = A at hD hN ⊢
  have hA : ∀ q : Nat, s.heap.size ≤ q → A q := fun q h => by rw [← hAe]; exact Or.inr h
  have hl := lv_entry ([.ref (a 0), .int v0]) (n := 2) (Nat.le_of_ble_eq_true rfl)
  rw [lg_entry_eq]
  generalize (lg_sl ([.ref (a 0), .int v0]) ++ List.replicate (2 - (lg_sl ([.ref (a 0), .int v0])).length) Slot.unset).toArray = ls at hl ⊢
  have hl : lv_has ls 2 [(0, .ref (a 0)), (1, .int v0)] := hl
  exact db_X16_sleep_0 (dC := dC) (dI := dI) (a := a) (ac := ac) (n := n) (r := r) ⟨hlt, hx, hb, hml, hown, hts, hN, hA, hK⟩ (fun pc v τ H locs ls d z er hP hD hS => by subst er; exact W.zret (v := v) hx hb hr z (fun t ht hW => ⟨⟨v, (), rfl, rfl, by rw [ht]; exact hP, va_K.moved hW.alike hK, hD⟩, hS.F ht⟩) hS.2.2 d) v0 s0 _ _ _ h hP hD va_S.rf (lv_sub hl [0, 1] rfl)
def ow_dm_X16_random : List Cond := Cond.code yX16_random cX16_random 3 (some .int) :: ([Cond.fieldLink RX16 126 "TimeMachineModel$Machine" "waitingWords" "I", Cond.fieldLink RX16 9 "TimeMachineModel$Machine" "words" "[I", Cond.methodLink RX16 415 yX16_tell, Cond.instanceMethod yX16_tell, Cond.selects RX16 yX16_tell yX16_tell, Cond.initialized RX16] ++ (u_ws RX16 TX16 56 ++ (ow_dm_X16_tell ++ [])))
theorem gd_dm_X16_random : ∀ w ∈ ow_dm_X16_random, (w.onTables && w.keeps) = true ∨ ∃ ty, w = Cond.arrayClass ty := List.forall_mem_cons.mpr ⟨good_of_word rfl, List.forall_mem_append.mpr ⟨fun w h => good_of_word (List.all_eq_true.mp (by decide +kernel) w h), List.forall_mem_append.mpr ⟨gu_X16, List.forall_mem_append.mpr ⟨gd_dm_X16_tell, fun _ h => nomatch h⟩⟩⟩⟩
theorem hi_dm_X16_random_X16 : ∀ w ∈ u_ws RX16 TX16 56, w ∈ ow_dm_X16_random := fun w h => List.mem_cons_of_mem _ (List.mem_append_right _ (List.mem_append_left _ h))
theorem gi_dm_X16_random_0 : GoodIn ow_dm_X16_random (wsV RX16 415 RX16 yX16_tell ow_dm_X16_tell) := goodIn_app (goodIn_of _ (by decide +kernel)) (fun w h => ⟨List.mem_cons_of_mem _ (List.mem_append_right _ (List.mem_append_right _ (List.mem_append_left _ h))), gd_dm_X16_tell w h⟩)
def dj_X16_random_32 (p : Program) (l : Launch) (e : Env) (s : State) (m : MethodId) (args : Array Value) (below : List Frame) (meth : Method) (c : Code) (Q : State → Prop) (A : Nat → Prop) (dC : Nat → ClassId) (dI : Nat → Nat → Nat) (a : Nat → Nat) (ac : Nat → ClassId) (g : Int32 → Int32 → (St × (St)) → Option (Int32 × (St × (St)))) (r : Int32 × (St × (St))) : Prop := ∀ (x1 : Int32) (x2 : Int32) (s0 : St × (St)) (H : Heap) (locs : List Loc) (ls : Array Slot), g x1 x2 s0 = some r → va_P (dC, dI) vwCl (dw_X16 a ac s0) H → va_D A (dw_X16 a ac s0) → va_S A s.heap H locs → lv_has ls 3 [(0, .ref (a 0)), (1, .int x1), (2, .int x2)] → W p l e (headSpec ow_dm_X16_random ({ frames := 1, cells := 0, slots := 0, locals := 21 })).room s m args below meth c H locs 0 0 Q (F0 m 32 ls [])
def dj_X16_random_0 (p : Program) (l : Launch) (e : Env) (s : State) (m : MethodId) (args : Array Value) (below : List Frame) (meth : Method) (c : Code) (Q : State → Prop) (A : Nat → Prop) (dC : Nat → ClassId) (dI : Nat → Nat → Nat) (a : Nat → Nat) (ac : Nat → ClassId) (g : (St × (St)) → Option (Int32 × (St × (St)))) (r : Int32 × (St × (St))) : Prop := ∀ (s0 : St × (St)) (H : Heap) (locs : List Loc) (ls : Array Slot), g s0 = some r → va_P (dC, dI) vwCl (dw_X16 a ac s0) H → va_D A (dw_X16 a ac s0) → va_S A s.heap H locs → lv_has ls 3 [(0, .ref (a 0))] → W p l e (headSpec ow_dm_X16_random ({ frames := 1, cells := 0, slots := 0, locals := 21 })).room s m args below meth c H locs 0 0 Q (F0 m 0 ls [])
set_option maxHeartbeats 40000000 in
set_option maxRecDepth 100000 in
theorem dB_X16_random_32 {p : Program} {l : Launch} {e : Env} {s : State} {m : MethodId} {args : Array Value} {below : List Frame} {meth : Method} {c : Code} {Q : State → Prop} {A : Nat → Prop} {dC : Nat → ClassId} {dI : Nat → Nat → Nat} {a : Nat → Nat} {ac : Nat → ClassId} {n : Nat} {r : Int32 × (St × (St))} (C : nd_C p l s m args c A (dC, dI) cX16_random 3 RX16 ow_dm_X16_random (dk_X16 ac)) (K : nd_Ki p l e (headSpec ow_dm_X16_random ({ frames := 1, cells := 0, slots := 0, locals := 21 })).room s m args below meth c Q A (dC, dI) cX16_random .int (St × (St)) (dw_X16 a ac) r) {g32 : Int32 → Int32 → (St × (St)) → Option (Int32 × (St × (St)))} (J32 : dj_X16_random_32 p l e s m args below meth c Q A dC dI a ac g32 r) : dj_X16_random_32 p l e s m args below meth c Q A dC dI a ac (dF_X16_random_32 n g32) r := by
  obtain ⟨hlt, hx, hb, hml, hown, hts, hN, hA, hK⟩ := id C
  intro x1 x2 s0 H locs ls h hP hD hS hl
  unfold dF_X16_random_32 at h
  refine lv_iload_n hx hb dX16_random_32 rfl (lv_at hl 2 rfl) ?_
  refine lv_aload_n hx hb dX16_random_33 rfl (lv_at hl 0 rfl) ?_
  refine va_get (D := (dC, dI)) (ci := 17) (v := .int (sI s0.1 5)) (C := RX16) (T := TX16) (N := 56) hx hb hts hi_dm_X16_random_X16 hown hK hP 0 rfl rfl 9 (by decide) (hts (.fieldLink RX16 126 "TimeMachineModel$Machine" "waitingWords" "I") (List.mem_of_getElem? (i := 1) rfl)) (fun _ h9 => h9) rfl dX16_random_34 ?_
  refine lv_icmp_ge (tgt := 60) hx hb dX16_random_37 (by decide) (fun c4 => ?_) (fun c4 => ?_)
  · have h := nd_pos h c4
    refine lv_iload_n hx hb dX16_random_60 rfl (lv_at hl 1 rfl) ?_
    exact K _ _ _ _ _ _ dX16_random_61 rfl (Option.some.inj h).symm hP hD hS
  · have h := nd_neg h c4
    refine lv_aload_n hx hb dX16_random_40 rfl (lv_at hl 0 rfl) ?_
    refine va_get (D := (dC, dI)) (ci := 17) (v := .ref (a 1)) (C := RX16) (T := TX16) (N := 56) hx hb hts hi_dm_X16_random_X16 hown hK hP 0 rfl rfl 8 (by decide) (hts (.fieldLink RX16 9 "TimeMachineModel$Machine" "words" "[I") (List.mem_of_getElem? (i := 2) rfl)) (fun _ h9 => h9) rfl dX16_random_41 ?_
    refine lv_iload_n hx hb dX16_random_44 rfl (lv_at hl 2 rfl) ?_
    refine lv_aload_n hx hb dX16_random_45 rfl (lv_at hl 0 rfl) ?_
    refine va_get (D := (dC, dI)) (ci := 17) (v := .ref (a 1)) (C := RX16) (T := TX16) (N := 56) hx hb hts hi_dm_X16_random_X16 hown hK hP 0 rfl rfl 8 (by decide) (hts (.fieldLink RX16 9 "TimeMachineModel$Machine" "words" "[I") (List.mem_of_getElem? (i := 2) rfl)) (fun _ h9 => h9) rfl dX16_random_46 ?_
    refine lv_iload_n hx hb dX16_random_49 rfl (lv_at hl 2 rfl) ?_
    refine lv_iconst (v := 1) hx hb dX16_random_50 (by decide) ?_
    refine lv_iadd hx hb dX16_random_51 ?_
    obtain ⟨i5, h⟩ := nd_ck_e h
    refine va_iald (i := (x2 + 1)) hx hb hK hP 1 0 rfl rfl i5 dX16_random_52 ?_
    obtain ⟨i6, h⟩ := nd_ck_e h
    refine va_iast (i := x2) (x := (sR s0.1 0 (Int32.toNatClampNeg (x2 + 1)))) hx hb hK hP hD hS 1 0 rfl rfl i6 dX16_random_53 (fun H locs hP hD hS => ?_)
    obtain ⟨s7, es7, h⟩ := nd_let_e h
    have hP : va_P (dC, dI) vwCl (dw_X16 a ac s7) H := by rw [es7]; exact hP
    have hD : va_D A (dw_X16 a ac s7) := by rw [es7]; exact hD
    obtain ⟨z8, ez8, h⟩ := nd_let_e h
    refine lv_iinc (v := z8) (lv' := [(2, .int z8), (0, .ref (a 0)), (1, .int x1)]) hx hb dX16_random_54 hl (k := 2) rfl (by rw [ez8]) (by decide) rfl (fun ls hl => ?_)
    refine lv_goto (tgt := 32) hx hb dX16_random_57 (by decide) ?_
    exact (J32) (x1) (z8) s7 _ _ _ h hP hD hS (lv_sub hl [1, 2, 0] rfl)
set_option maxHeartbeats 40000000 in
set_option maxRecDepth 100000 in
theorem db_X16_random_32 {p : Program} {l : Launch} {e : Env} {s : State} {m : MethodId} {args : Array Value} {below : List Frame} {meth : Method} {c : Code} {Q : State → Prop} {A : Nat → Prop} {dC : Nat → ClassId} {dI : Nat → Nat → Nat} {a : Nat → Nat} {ac : Nat → ClassId} {n : Nat} {r : Int32 × (St × (St))} (C : nd_C p l s m args c A (dC, dI) cX16_random 3 RX16 ow_dm_X16_random (dk_X16 ac)) (K : nd_Ki p l e (headSpec ow_dm_X16_random ({ frames := 1, cells := 0, slots := 0, locals := 21 })).room s m args below meth c Q A (dC, dI) cX16_random .int (St × (St)) (dw_X16 a ac) r) (k : Nat) : dj_X16_random_32 p l e s m args below meth c Q A dC dI a ac (df_X16_random_32 n k) r := by
  induction k with
  | zero => intro x1 x2 s0 H locs ls h; exact nomatch (show (none : Option (Int32 × (St × (St)))) = some r from h)
  | succ k ih => exact dB_X16_random_32 C K ih
set_option maxHeartbeats 40000000 in
set_option maxRecDepth 100000 in
theorem db_X16_random_0 {p : Program} {l : Launch} {e : Env} {s : State} {m : MethodId} {args : Array Value} {below : List Frame} {meth : Method} {c : Code} {Q : State → Prop} {A : Nat → Prop} {dC : Nat → ClassId} {dI : Nat → Nat → Nat} {a : Nat → Nat} {ac : Nat → ClassId} {n : Nat} {r : Int32 × (St × (St))} (C : nd_C p l s m args c A (dC, dI) cX16_random 3 RX16 ow_dm_X16_random (dk_X16 ac)) (K : nd_Ki p l e (headSpec ow_dm_X16_random ({ frames := 1, cells := 0, slots := 0, locals := 21 })).room s m args below meth c Q A (dC, dI) cX16_random .int (St × (St)) (dw_X16 a ac) r) : dj_X16_random_0 p l e s m args below meth c Q A dC dI a ac (df_X16_random_0 n) r := by
  obtain ⟨hlt, hx, hb, hml, hown, hts, hN, hA, hK⟩ := id C
  intro s0 H locs ls h hP hD hS hl
  unfold df_X16_random_0 at h
  refine lv_aload_n hx hb dX16_random_0 rfl (lv_at hl 0 rfl) ?_
  refine va_get (D := (dC, dI)) (ci := 17) (v := .int (sI s0.1 5)) (C := RX16) (T := TX16) (N := 56) hx hb hts hi_dm_X16_random_X16 hown hK hP 0 rfl rfl 9 (by decide) (hts (.fieldLink RX16 126 "TimeMachineModel$Machine" "waitingWords" "I") (List.mem_of_getElem? (i := 1) rfl)) (fun _ h9 => h9) rfl dX16_random_1 ?_
  refine lv_if_ne (tgt := 13) hx hb dX16_random_4 (by decide) (fun c1 => ?_) (fun c1 => ?_)
  · have h := nd_neg h c1
    refine lv_aload_n hx hb dX16_random_13 rfl (lv_at hl 0 rfl) ?_
    refine va_get (D := (dC, dI)) (ci := 17) (v := .ref (a 1)) (C := RX16) (T := TX16) (N := 56) hx hb hts hi_dm_X16_random_X16 hown hK hP 0 rfl rfl 8 (by decide) (hts (.fieldLink RX16 9 "TimeMachineModel$Machine" "words" "[I") (List.mem_of_getElem? (i := 2) rfl)) (fun _ h9 => h9) rfl dX16_random_14 ?_
    refine lv_iconst (v := 0) hx hb dX16_random_17 (by decide) ?_
    refine va_iald (i := 0) hx hb hK hP 1 0 rfl rfl (vp_in_iff.mpr ⟨by decide, by decide⟩) dX16_random_18 ?_
    refine lv_topi (fun z2 ez2 => ?_)
    have h := nd_at h ez2
    refine lv_istore_n (lv' := [(1, .int z2), (0, .ref (a 0))]) hx hb dX16_random_19 rfl hl (by decide) rfl (fun ls hl => ?_)
    refine lv_aload_n hx hb dX16_random_20 rfl (lv_at hl 1 rfl) ?_
    refine lv_dup hx hb dX16_random_21 rfl ?_
    refine va_get (D := (dC, dI)) (ci := 17) (v := .int (sI s0.1 5)) (C := RX16) (T := TX16) (N := 56) hx hb hts hi_dm_X16_random_X16 hown hK hP 0 rfl rfl 9 (by decide) (hts (.fieldLink RX16 126 "TimeMachineModel$Machine" "waitingWords" "I") (List.mem_of_getElem? (i := 1) rfl)) (fun _ h9 => h9) rfl dX16_random_22 ?_
    refine lv_iconst (v := 1) hx hb dX16_random_25 (by decide) ?_
    refine lv_isub hx hb dX16_random_26 ?_
    refine va_put (D := (dC, dI)) (ci := 17) (v := .int ((sI s0.1 5) - 1)) (ty := .int) (C := RX16) (T := TX16) (N := 56) hx hb hts hi_dm_X16_random_X16 tyX16 tyX16_ok nmX16 hown hK hP hD hS 0 rfl rfl 9 (by decide) (hts (.fieldLink RX16 126 "TimeMachineModel$Machine" "waitingWords" "I") (List.mem_of_getElem? (i := 1) rfl)) (fun _ h9 => h9) rfl (by decide +kernel) rfl rfl (Nat.le_of_ble_eq_true rfl) dX16_random_27 (fun H locs hP hD hS => ?_)
    obtain ⟨s3, es3, h⟩ := nd_let_e h
    have hP : va_P (dC, dI) vwCl (dw_X16 a ac s3) H := by rw [es3]; exact hP
    have hD : va_D A (dw_X16 a ac s3) := by rw [es3]; exact hD
    refine lv_iconst (v := 0) hx hb dX16_random_30 (by decide) ?_
    refine lv_istore_n (lv' := [(2, .int 0), (1, .int z2), (0, .ref (a 0))]) hx hb dX16_random_31 rfl hl (by decide) rfl (fun ls hl => ?_)
    exact (db_X16_random_32 C K n) (z2) (0) s3 _ _ _ h hP hD hS (lv_sub hl [2, 1, 0] rfl)
  · have h := nd_pos h c1
    refine lv_aload_n hx hb dX16_random_7 rfl (lv_at hl 0 rfl) ?_
    refine lv_iconst (v := 1) hx hb dX16_random_8 (by decide) ?_
    obtain ⟨q9, s10, hq, h⟩ := nd_b2_e h
    have hPc := hP
    have hDc := hD
    have hKc := hK
    have hFc := nd_rs hD hS hA
    refine nd_cVi (As := [.int 1]) (rest := []) (q := q9) (w' := dw_X16 a ac s10) ⟨hx, hb, hml, hown, hts⟩ (fun sz => dm_X16_tell l hlt dC dI a ac n (1) s0 hq sz) (cwV 1 hts gi_dm_X16_random_0 rfl rfl rfl (by decide +kernel) ⟨Nat.le_of_ble_eq_true rfl, Nat.le_of_ble_eq_true rfl⟩) hPc hDc hKc hS hA hN (va_recv hKc hPc (ci := 17) (q0 := 0) rfl rfl) rfl hl.1 rfl (Nat.le_of_ble_eq_true rfl) dX16_random_9 (fun H locs hP1 hD1 hk1 hS => ?_)
    have hP := hP1
    have hD := hD1.weaken (fun k q _ h => hFc q.1 h)
    exact K _ _ _ _ _ _ dX16_random_12 rfl (Option.some.inj h).symm hP hD hS
set_option maxHeartbeats 40000000 in
set_option maxRecDepth 100000 in
theorem dm_X16_random (l : Launch) (hlt : l.stackTraces = false) (dC : Nat → ClassId) (dI : Nat → Nat → Nat) (a : Nat → Nat) (ac : Nat → ClassId) (n : Nat) (s0 : St × (St)) {r : Int32 × (St × (St))} (h : df_X16_random n s0 = some r) (sz : Nat) : Met l yX16_random ow_dm_X16_random ({ frames := 1, cells := 0, slots := 0, locals := 21 }) (va_Pc [.ref (a 0)] (fun U => U.heap.size = sz ∧ va_P (dC, dI) vwCl (dw_X16 a ac s0) U.heap ∧ va_K (dC, dI) vwCl (dk_X16 ac) U ∧ va_D (fun _ => True) (dw_X16 a ac s0) ∧ nv_E dI (va_A (dw_X16 a ac s0) sz) U)) (va_Qi (fun x _ => x = r.1) (fun (_ : Unit) t => va_P (dC, dI) vwCl (dw_X16 a ac r.2) t.heap ∧ va_K (dC, dI) vwCl (dk_X16 ac) t ∧ va_D (va_A (dw_X16 a ac s0) sz) (dw_X16 a ac r.2)) (va_A (dw_X16 a ac s0) sz)) 0 0 (va_A (dw_X16 a ac s0) sz) := by
  refine Met.ofW (cc := cX16_random) (maxL := 3) (ret := (some .int)) (by decide) rfl ?_
  intro p e s m args below meth c s₁ B hml hv
  obtain ⟨rfl, hsz, hP, hK, hD0, hN⟩ := hv
  have hx := B.exec
  have hb := B.bytes
  have hr := B.returns
  have hts := atoms_spec (ws := ow_dm_X16_random) B.pre
  have hown : s.vm.findClass RX16 = some m.cls := findClass_of_methodNamed B.named
  have hlocks := B.notSynchronized
  subst hsz
  have hD := hD0.self (sz := s.heap.size)
  generalize hAe : va_A (dw_X16 a ac s0) s.heap.size = A at hD hN ⊢
  have hA : ∀ q : Nat, s.heap.size ≤ q → A q := fun q h => by rw [← hAe]; exact Or.inr h
  have hl := lv_entry ([.ref (a 0)]) (n := 3) (Nat.le_of_ble_eq_true rfl)
  rw [lg_entry_eq]
  generalize (lg_sl ([.ref (a 0)]) ++ List.replicate (3 - (lg_sl ([.ref (a 0)])).length) Slot.unset).toArray = ls at hl ⊢
  have hl : lv_has ls 3 [(0, .ref (a 0))] := hl
  exact db_X16_random_0 (dC := dC) (dI := dI) (a := a) (ac := ac) (n := n) (r := r) ⟨hlt, hx, hb, hml, hown, hts, hN, hA, hK⟩ (fun pc v τ H locs ls d z er hP hD hS => by subst er; exact W.zret (v := v) hx hb hr z (fun t ht hW => ⟨⟨v, (), rfl, rfl, by rw [ht]; exact hP, va_K.moved hW.alike hK, hD⟩, hS.F ht⟩) hS.2.2 d) s0 _ _ _ h hP hD va_S.rf (lv_sub hl [0] rfl)
def ow_dm_X16_answer : List Cond := Cond.code yX16_answer cX16_answer 5 (some .int) :: ([Cond.fieldLink RX16 232 "TimeMachineModel$Machine" "p" "I", Cond.methodLink RX16 282 yX16_end, Cond.instanceMethod yX16_end, Cond.selects RX16 yX16_end yX16_end, Cond.initialized RX16, Cond.methodLink RX16 415 yX16_tell, Cond.instanceMethod yX16_tell, Cond.selects RX16 yX16_tell yX16_tell, Cond.methodLink RX16 418 yX16_fork, Cond.instanceMethod yX16_fork, Cond.selects RX16 yX16_fork yX16_fork, Cond.methodLink RX16 421 yX16_exec, Cond.instanceMethod yX16_exec, Cond.selects RX16 yX16_exec yX16_exec, Cond.methodLink RX16 424 yX16_waitFor, Cond.instanceMethod yX16_waitFor, Cond.selects RX16 yX16_waitFor yX16_waitFor, Cond.methodLink RX16 427 yX16_pipe, Cond.instanceMethod yX16_pipe, Cond.selects RX16 yX16_pipe yX16_pipe, Cond.methodLink RX16 430 yX16_read, Cond.instanceMethod yX16_read, Cond.selects RX16 yX16_read yX16_read, Cond.methodLink RX16 433 yX16_write7, Cond.instanceMethod yX16_write7, Cond.selects RX16 yX16_write7 yX16_write7, Cond.methodLink RX16 436 yX16_close, Cond.instanceMethod yX16_close, Cond.selects RX16 yX16_close yX16_close, Cond.methodLink RX16 439 yX16_dup, Cond.instanceMethod yX16_dup, Cond.selects RX16 yX16_dup yX16_dup, Cond.methodLink RX16 442 yX16_open, Cond.instanceMethod yX16_open, Cond.selects RX16 yX16_open yX16_open, Cond.methodLink RX16 445 yX16_unlink, Cond.instanceMethod yX16_unlink, Cond.selects RX16 yX16_unlink yX16_unlink, Cond.methodLink RX16 448 yX16_seek, Cond.instanceMethod yX16_seek, Cond.selects RX16 yX16_seek yX16_seek, Cond.methodLink RX16 451 yX16_rename, Cond.instanceMethod yX16_rename, Cond.selects RX16 yX16_rename yX16_rename, Cond.methodLink RX16 454 yX16_grow, Cond.instanceMethod yX16_grow, Cond.selects RX16 yX16_grow yX16_grow, Cond.methodLink RX16 457 yX16_signal, Cond.instanceMethod yX16_signal, Cond.selects RX16 yX16_signal yX16_signal, Cond.methodLink RX16 460 yX16_handle, Cond.instanceMethod yX16_handle, Cond.selects RX16 yX16_handle yX16_handle, Cond.methodLink RX16 463 yX16_back, Cond.instanceMethod yX16_back, Cond.selects RX16 yX16_back yX16_back, Cond.methodLink RX16 466 yX16_sleep, Cond.instanceMethod yX16_sleep, Cond.selects RX16 yX16_sleep yX16_sleep, Cond.fieldLink RX16 42 "TimeMachineModel$Machine" "x" "[I", Cond.fieldLink RX16 151 "TimeMachineModel$Machine" "clock" "J", Cond.methodLink RX16 469 yX16_random, Cond.instanceMethod yX16_random, Cond.selects RX16 yX16_random yX16_random] ++ (u_ws RX16 TX16 56 ++ (ow_dm_X16_end ++ (ow_dm_X16_tell ++ (ow_dm_X16_fork ++ (ow_dm_X16_exec ++ (ow_dm_X16_waitFor ++ (ow_dm_X16_pipe ++ (ow_dm_X16_read ++ (ow_dm_X16_write7 ++ (ow_dm_X16_close ++ (ow_dm_X16_dup ++ (ow_dm_X16_open ++ (ow_dm_X16_unlink ++ (ow_dm_X16_seek ++ (ow_dm_X16_rename ++ (ow_dm_X16_grow ++ (ow_dm_X16_signal ++ (ow_dm_X16_handle ++ (ow_dm_X16_back ++ (ow_dm_X16_sleep ++ (ow_dm_X16_random ++ []))))))))))))))))))))))
theorem gd_dm_X16_answer : ∀ w ∈ ow_dm_X16_answer, (w.onTables && w.keeps) = true ∨ ∃ ty, w = Cond.arrayClass ty := List.forall_mem_cons.mpr ⟨good_of_word rfl, List.forall_mem_append.mpr ⟨fun w h => good_of_word (List.all_eq_true.mp (by decide +kernel) w h), List.forall_mem_append.mpr ⟨gu_X16, List.forall_mem_append.mpr ⟨gd_dm_X16_end, List.forall_mem_append.mpr ⟨gd_dm_X16_tell, List.forall_mem_append.mpr ⟨gd_dm_X16_fork, List.forall_mem_append.mpr ⟨gd_dm_X16_exec, List.forall_mem_append.mpr ⟨gd_dm_X16_waitFor, List.forall_mem_append.mpr ⟨gd_dm_X16_pipe, List.forall_mem_append.mpr ⟨gd_dm_X16_read, List.forall_mem_append.mpr ⟨gd_dm_X16_write7, List.forall_mem_append.mpr ⟨gd_dm_X16_close, List.forall_mem_append.mpr ⟨gd_dm_X16_dup, List.forall_mem_append.mpr ⟨gd_dm_X16_open, List.forall_mem_append.mpr ⟨gd_dm_X16_unlink, List.forall_mem_append.mpr ⟨gd_dm_X16_seek, List.forall_mem_append.mpr ⟨gd_dm_X16_rename, List.forall_mem_append.mpr ⟨gd_dm_X16_grow, List.forall_mem_append.mpr ⟨gd_dm_X16_signal, List.forall_mem_append.mpr ⟨gd_dm_X16_handle, List.forall_mem_append.mpr ⟨gd_dm_X16_back, List.forall_mem_append.mpr ⟨gd_dm_X16_sleep, List.forall_mem_append.mpr ⟨gd_dm_X16_random, fun _ h => nomatch h⟩⟩⟩⟩⟩⟩⟩⟩⟩⟩⟩⟩⟩⟩⟩⟩⟩⟩⟩⟩⟩⟩⟩
theorem hi_dm_X16_answer_X16 : ∀ w ∈ u_ws RX16 TX16 56, w ∈ ow_dm_X16_answer := fun w h => List.mem_cons_of_mem _ (List.mem_append_right _ (List.mem_append_left _ h))
theorem gi_dm_X16_answer_0 : GoodIn ow_dm_X16_answer (wsV RX16 282 RX16 yX16_end ow_dm_X16_end) := goodIn_app (goodIn_of _ (by decide +kernel)) (fun w h => ⟨List.mem_cons_of_mem _ (List.mem_append_right _ (List.mem_append_right _ (List.mem_append_left _ h))), gd_dm_X16_end w h⟩)
theorem gi_dm_X16_answer_1 : GoodIn ow_dm_X16_answer (wsV RX16 415 RX16 yX16_tell ow_dm_X16_tell) := goodIn_app (goodIn_of _ (by decide +kernel)) (fun w h => ⟨List.mem_cons_of_mem _ (List.mem_append_right _ (List.mem_append_right _ (List.mem_append_right _ (List.mem_append_left _ h)))), gd_dm_X16_tell w h⟩)
theorem gi_dm_X16_answer_2 : GoodIn ow_dm_X16_answer (wsV RX16 418 RX16 yX16_fork ow_dm_X16_fork) := goodIn_app (goodIn_of _ (by decide +kernel)) (fun w h => ⟨List.mem_cons_of_mem _ (List.mem_append_right _ (List.mem_append_right _ (List.mem_append_right _ (List.mem_append_right _ (List.mem_append_left _ h))))), gd_dm_X16_fork w h⟩)
theorem gi_dm_X16_answer_3 : GoodIn ow_dm_X16_answer (wsV RX16 421 RX16 yX16_exec ow_dm_X16_exec) := goodIn_app (goodIn_of _ (by decide +kernel)) (fun w h => ⟨List.mem_cons_of_mem _ (List.mem_append_right _ (List.mem_append_right _ (List.mem_append_right _ (List.mem_append_right _ (List.mem_append_right _ (List.mem_append_left _ h)))))), gd_dm_X16_exec w h⟩)
theorem gi_dm_X16_answer_4 : GoodIn ow_dm_X16_answer (wsV RX16 424 RX16 yX16_waitFor ow_dm_X16_waitFor) := goodIn_app (goodIn_of _ (by decide +kernel)) (fun w h => ⟨List.mem_cons_of_mem _ (List.mem_append_right _ (List.mem_append_right _ (List.mem_append_right _ (List.mem_append_right _ (List.mem_append_right _ (List.mem_append_right _ (List.mem_append_left _ h))))))), gd_dm_X16_waitFor w h⟩)
theorem gi_dm_X16_answer_5 : GoodIn ow_dm_X16_answer (wsV RX16 427 RX16 yX16_pipe ow_dm_X16_pipe) := goodIn_app (goodIn_of _ (by decide +kernel)) (fun w h => ⟨List.mem_cons_of_mem _ (List.mem_append_right _ (List.mem_append_right _ (List.mem_append_right _ (List.mem_append_right _ (List.mem_append_right _ (List.mem_append_right _ (List.mem_append_right _ (List.mem_append_left _ h)))))))), gd_dm_X16_pipe w h⟩)
theorem gi_dm_X16_answer_6 : GoodIn ow_dm_X16_answer (wsV RX16 430 RX16 yX16_read ow_dm_X16_read) := goodIn_app (goodIn_of _ (by decide +kernel)) (fun w h => ⟨List.mem_cons_of_mem _ (List.mem_append_right _ (List.mem_append_right _ (List.mem_append_right _ (List.mem_append_right _ (List.mem_append_right _ (List.mem_append_right _ (List.mem_append_right _ (List.mem_append_right _ (List.mem_append_left _ h))))))))), gd_dm_X16_read w h⟩)
theorem gi_dm_X16_answer_7 : GoodIn ow_dm_X16_answer (wsV RX16 433 RX16 yX16_write7 ow_dm_X16_write7) := goodIn_app (goodIn_of _ (by decide +kernel)) (fun w h => ⟨List.mem_cons_of_mem _ (List.mem_append_right _ (List.mem_append_right _ (List.mem_append_right _ (List.mem_append_right _ (List.mem_append_right _ (List.mem_append_right _ (List.mem_append_right _ (List.mem_append_right _ (List.mem_append_right _ (List.mem_append_left _ h)))))))))), gd_dm_X16_write7 w h⟩)
theorem gi_dm_X16_answer_8 : GoodIn ow_dm_X16_answer (wsV RX16 436 RX16 yX16_close ow_dm_X16_close) := goodIn_app (goodIn_of _ (by decide +kernel)) (fun w h => ⟨List.mem_cons_of_mem _ (List.mem_append_right _ (List.mem_append_right _ (List.mem_append_right _ (List.mem_append_right _ (List.mem_append_right _ (List.mem_append_right _ (List.mem_append_right _ (List.mem_append_right _ (List.mem_append_right _ (List.mem_append_right _ (List.mem_append_left _ h))))))))))), gd_dm_X16_close w h⟩)
theorem gi_dm_X16_answer_9 : GoodIn ow_dm_X16_answer (wsV RX16 439 RX16 yX16_dup ow_dm_X16_dup) := goodIn_app (goodIn_of _ (by decide +kernel)) (fun w h => ⟨List.mem_cons_of_mem _ (List.mem_append_right _ (List.mem_append_right _ (List.mem_append_right _ (List.mem_append_right _ (List.mem_append_right _ (List.mem_append_right _ (List.mem_append_right _ (List.mem_append_right _ (List.mem_append_right _ (List.mem_append_right _ (List.mem_append_right _ (List.mem_append_left _ h)))))))))))), gd_dm_X16_dup w h⟩)
theorem gi_dm_X16_answer_10 : GoodIn ow_dm_X16_answer (wsV RX16 442 RX16 yX16_open ow_dm_X16_open) := goodIn_app (goodIn_of _ (by decide +kernel)) (fun w h => ⟨List.mem_cons_of_mem _ (List.mem_append_right _ (List.mem_append_right _ (List.mem_append_right _ (List.mem_append_right _ (List.mem_append_right _ (List.mem_append_right _ (List.mem_append_right _ (List.mem_append_right _ (List.mem_append_right _ (List.mem_append_right _ (List.mem_append_right _ (List.mem_append_right _ (List.mem_append_left _ h))))))))))))), gd_dm_X16_open w h⟩)
theorem gi_dm_X16_answer_11 : GoodIn ow_dm_X16_answer (wsV RX16 445 RX16 yX16_unlink ow_dm_X16_unlink) := goodIn_app (goodIn_of _ (by decide +kernel)) (fun w h => ⟨List.mem_cons_of_mem _ (List.mem_append_right _ (List.mem_append_right _ (List.mem_append_right _ (List.mem_append_right _ (List.mem_append_right _ (List.mem_append_right _ (List.mem_append_right _ (List.mem_append_right _ (List.mem_append_right _ (List.mem_append_right _ (List.mem_append_right _ (List.mem_append_right _ (List.mem_append_right _ (List.mem_append_left _ h)))))))))))))), gd_dm_X16_unlink w h⟩)
theorem gi_dm_X16_answer_12 : GoodIn ow_dm_X16_answer (wsV RX16 448 RX16 yX16_seek ow_dm_X16_seek) := goodIn_app (goodIn_of _ (by decide +kernel)) (fun w h => ⟨List.mem_cons_of_mem _ (List.mem_append_right _ (List.mem_append_right _ (List.mem_append_right _ (List.mem_append_right _ (List.mem_append_right _ (List.mem_append_right _ (List.mem_append_right _ (List.mem_append_right _ (List.mem_append_right _ (List.mem_append_right _ (List.mem_append_right _ (List.mem_append_right _ (List.mem_append_right _ (List.mem_append_right _ (List.mem_append_left _ h))))))))))))))), gd_dm_X16_seek w h⟩)
theorem gi_dm_X16_answer_13 : GoodIn ow_dm_X16_answer (wsV RX16 451 RX16 yX16_rename ow_dm_X16_rename) := goodIn_app (goodIn_of _ (by decide +kernel)) (fun w h => ⟨List.mem_cons_of_mem _ (List.mem_append_right _ (List.mem_append_right _ (List.mem_append_right _ (List.mem_append_right _ (List.mem_append_right _ (List.mem_append_right _ (List.mem_append_right _ (List.mem_append_right _ (List.mem_append_right _ (List.mem_append_right _ (List.mem_append_right _ (List.mem_append_right _ (List.mem_append_right _ (List.mem_append_right _ (List.mem_append_right _ (List.mem_append_left _ h)))))))))))))))), gd_dm_X16_rename w h⟩)
theorem gi_dm_X16_answer_14 : GoodIn ow_dm_X16_answer (wsV RX16 454 RX16 yX16_grow ow_dm_X16_grow) := goodIn_app (goodIn_of _ (by decide +kernel)) (fun w h => ⟨List.mem_cons_of_mem _ (List.mem_append_right _ (List.mem_append_right _ (List.mem_append_right _ (List.mem_append_right _ (List.mem_append_right _ (List.mem_append_right _ (List.mem_append_right _ (List.mem_append_right _ (List.mem_append_right _ (List.mem_append_right _ (List.mem_append_right _ (List.mem_append_right _ (List.mem_append_right _ (List.mem_append_right _ (List.mem_append_right _ (List.mem_append_right _ (List.mem_append_left _ h))))))))))))))))), gd_dm_X16_grow w h⟩)
theorem gi_dm_X16_answer_15 : GoodIn ow_dm_X16_answer (wsV RX16 457 RX16 yX16_signal ow_dm_X16_signal) := goodIn_app (goodIn_of _ (by decide +kernel)) (fun w h => ⟨List.mem_cons_of_mem _ (List.mem_append_right _ (List.mem_append_right _ (List.mem_append_right _ (List.mem_append_right _ (List.mem_append_right _ (List.mem_append_right _ (List.mem_append_right _ (List.mem_append_right _ (List.mem_append_right _ (List.mem_append_right _ (List.mem_append_right _ (List.mem_append_right _ (List.mem_append_right _ (List.mem_append_right _ (List.mem_append_right _ (List.mem_append_right _ (List.mem_append_right _ (List.mem_append_left _ h)))))))))))))))))), gd_dm_X16_signal w h⟩)
theorem gi_dm_X16_answer_16 : GoodIn ow_dm_X16_answer (wsV RX16 460 RX16 yX16_handle ow_dm_X16_handle) := goodIn_app (goodIn_of _ (by decide +kernel)) (fun w h => ⟨List.mem_cons_of_mem _ (List.mem_append_right _ (List.mem_append_right _ (List.mem_append_right _ (List.mem_append_right _ (List.mem_append_right _ (List.mem_append_right _ (List.mem_append_right _ (List.mem_append_right _ (List.mem_append_right _ (List.mem_append_right _ (List.mem_append_right _ (List.mem_append_right _ (List.mem_append_right _ (List.mem_append_right _ (List.mem_append_right _ (List.mem_append_right _ (List.mem_append_right _ (List.mem_append_right _ (List.mem_append_left _ h))))))))))))))))))), gd_dm_X16_handle w h⟩)
theorem gi_dm_X16_answer_17 : GoodIn ow_dm_X16_answer (wsV RX16 463 RX16 yX16_back ow_dm_X16_back) := goodIn_app (goodIn_of _ (by decide +kernel)) (fun w h => ⟨List.mem_cons_of_mem _ (List.mem_append_right _ (List.mem_append_right _ (List.mem_append_right _ (List.mem_append_right _ (List.mem_append_right _ (List.mem_append_right _ (List.mem_append_right _ (List.mem_append_right _ (List.mem_append_right _ (List.mem_append_right _ (List.mem_append_right _ (List.mem_append_right _ (List.mem_append_right _ (List.mem_append_right _ (List.mem_append_right _ (List.mem_append_right _ (List.mem_append_right _ (List.mem_append_right _ (List.mem_append_right _ (List.mem_append_left _ h)))))))))))))))))))), gd_dm_X16_back w h⟩)
theorem gi_dm_X16_answer_18 : GoodIn ow_dm_X16_answer (wsV RX16 466 RX16 yX16_sleep ow_dm_X16_sleep) := goodIn_app (goodIn_of _ (by decide +kernel)) (fun w h => ⟨List.mem_cons_of_mem _ (List.mem_append_right _ (List.mem_append_right _ (List.mem_append_right _ (List.mem_append_right _ (List.mem_append_right _ (List.mem_append_right _ (List.mem_append_right _ (List.mem_append_right _ (List.mem_append_right _ (List.mem_append_right _ (List.mem_append_right _ (List.mem_append_right _ (List.mem_append_right _ (List.mem_append_right _ (List.mem_append_right _ (List.mem_append_right _ (List.mem_append_right _ (List.mem_append_right _ (List.mem_append_right _ (List.mem_append_right _ (List.mem_append_left _ h))))))))))))))))))))), gd_dm_X16_sleep w h⟩)
theorem gi_dm_X16_answer_19 : GoodIn ow_dm_X16_answer (wsV RX16 469 RX16 yX16_random ow_dm_X16_random) := goodIn_app (goodIn_of _ (by decide +kernel)) (fun w h => ⟨List.mem_cons_of_mem _ (List.mem_append_right _ (List.mem_append_right _ (List.mem_append_right _ (List.mem_append_right _ (List.mem_append_right _ (List.mem_append_right _ (List.mem_append_right _ (List.mem_append_right _ (List.mem_append_right _ (List.mem_append_right _ (List.mem_append_right _ (List.mem_append_right _ (List.mem_append_right _ (List.mem_append_right _ (List.mem_append_right _ (List.mem_append_right _ (List.mem_append_right _ (List.mem_append_right _ (List.mem_append_right _ (List.mem_append_right _ (List.mem_append_right _ (List.mem_append_left _ h)))))))))))))))))))))), gd_dm_X16_random w h⟩)
def dj_X16_answer_0 (p : Program) (l : Launch) (e : Env) (s : State) (m : MethodId) (args : Array Value) (below : List Frame) (meth : Method) (c : Code) (Q : State → Prop) (A : Nat → Prop) (dC : Nat → ClassId) (dI : Nat → Nat → Nat) (a : Nat → Nat) (ac : Nat → ClassId) (g : Int32 → Int32 → Int32 → Int32 → (St × (St)) → Option (Int32 × (St × (St)))) (r : Int32 × (St × (St))) : Prop := ∀ (v0 : Int32) (v1 : Int32) (v2 : Int32) (v3 : Int32) (s0 : St × (St)) (H : Heap) (locs : List Loc) (ls : Array Slot), g v0 v1 v2 v3 s0 = some r → va_P (dC, dI) vwCl (dw_X16 a ac s0) H → va_D A (dw_X16 a ac s0) → va_S A s.heap H locs → lv_has ls 5 [(0, .ref (a 0)), (1, .int v0), (2, .int v1), (3, .int v2), (4, .int v3)] → W p l e (headSpec ow_dm_X16_answer ({ frames := 4, cells := 0, slots := 0, locals := 99 })).room s m args below meth c H locs 0 0 Q (F0 m 0 ls [])
set_option maxHeartbeats 40000000 in
set_option maxRecDepth 100000 in
theorem db_X16_answer_0 {p : Program} {l : Launch} {e : Env} {s : State} {m : MethodId} {args : Array Value} {below : List Frame} {meth : Method} {c : Code} {Q : State → Prop} {A : Nat → Prop} {dC : Nat → ClassId} {dI : Nat → Nat → Nat} {a : Nat → Nat} {ac : Nat → ClassId} {n : Nat} {r : Int32 × (St × (St))} (C : nd_C p l s m args c A (dC, dI) cX16_answer 5 RX16 ow_dm_X16_answer (dk_X16 ac)) (K : nd_Ki p l e (headSpec ow_dm_X16_answer ({ frames := 4, cells := 0, slots := 0, locals := 99 })).room s m args below meth c Q A (dC, dI) cX16_answer .int (St × (St)) (dw_X16 a ac) r) : dj_X16_answer_0 p l e s m args below meth c Q A dC dI a ac (df_X16_answer_0 n) r := by
  obtain ⟨hlt, hx, hb, hml, hown, hts, hN, hA, hK⟩ := id C
  intro v0 v1 v2 v3 s0 H locs ls h hP hD hS hl
  unfold df_X16_answer_0 at h
  refine lv_iload_n hx hb dX16_answer_0 rfl (lv_at hl 1 rfl) ?_
  by_cases c1 : v0 = 0
  · have h := nd_pos h c1
    refine lv_tableIn (off := 103) (tgt := 104) hx hb dX16_answer_1 (by rw [c1]; decide) (by rw [c1]; decide) (by rw [c1]; decide) (by decide) ?_
    refine lv_aload_n hx hb dX16_answer_104 rfl (lv_at hl 0 rfl) ?_
    refine lv_aload_n hx hb dX16_answer_105 rfl (lv_at hl 0 rfl) ?_
    refine va_get (D := (dC, dI)) (ci := 17) (v := .int (sI s0.1 12)) (C := RX16) (T := TX16) (N := 56) hx hb hts hi_dm_X16_answer_X16 hown hK hP 0 rfl rfl 51 (by decide) (hts (.fieldLink RX16 232 "TimeMachineModel$Machine" "p" "I") (List.mem_of_getElem? (i := 1) rfl)) (fun _ h9 => h9) rfl dX16_answer_106 ?_
    refine lv_iload_n hx hb dX16_answer_109 rfl (lv_at hl 2 rfl) ?_
    refine lv_sipush (v := 255) hx hb dX16_answer_110 (by decide) ?_
    refine lv_iand hx hb dX16_answer_113 ?_
    obtain ⟨s3, hq, h⟩ := nd_b1_e h
    have hPc := hP
    have hDc := hD
    have hKc := hK
    have hFc := nd_rs hD hS hA
    refine nd_cVv (As := [.int (sI s0.1 12), .int (v1 &&& 255)]) (rest := []) (w' := dw_X16 a ac s3) ⟨hx, hb, hml, hown, hts⟩ (fun sz => dm_X16_end l hlt dC dI a ac n ((sI s0.1 12)) ((v1 &&& 255)) s0 hq sz) (cwV 2 hts gi_dm_X16_answer_0 rfl rfl rfl (by decide +kernel) ⟨Nat.le_of_ble_eq_true rfl, Nat.le_of_ble_eq_true rfl⟩) hPc hDc hKc hS hA hN (va_recv hKc hPc (ci := 17) (q0 := 0) rfl rfl) rfl hl.1 rfl (Nat.le_of_ble_eq_true rfl) dX16_answer_114 (fun H locs hP1 hD1 hk1 hS => ?_)
    have hP := hP1
    have hD := hD1.weaken (fun k q _ h => hFc q.1 h)
    refine lv_aload_n hx hb dX16_answer_117 rfl (lv_at hl 0 rfl) ?_
    refine lv_iconst (v := 2) hx hb dX16_answer_118 (by decide) ?_
    obtain ⟨q5, s6, hq, h⟩ := nd_b2_e h
    have hPc := hP
    have hDc := hD
    have hKc := hK
    have hFc := nd_rs hD hS hA
    refine nd_cVi (As := [.int 2]) (rest := []) (q := q5) (w' := dw_X16 a ac s6) ⟨hx, hb, hml, hown, hts⟩ (fun sz => dm_X16_tell l hlt dC dI a ac n (2) s3 hq sz) (cwV 1 hts gi_dm_X16_answer_1 rfl rfl rfl (by decide +kernel) ⟨Nat.le_of_ble_eq_true rfl, Nat.le_of_ble_eq_true rfl⟩) hPc hDc hKc hS hA hN (va_recv hKc hPc (ci := 17) (q0 := 0) rfl rfl) rfl hl.1 rfl (Nat.le_of_ble_eq_true rfl) dX16_answer_119 (fun H locs hP1 hD1 hk1 hS => ?_)
    have hP := hP1
    have hD := hD1.weaken (fun k q _ h => hFc q.1 h)
    exact K _ _ _ _ _ _ dX16_answer_122 rfl (Option.some.inj h).symm hP hD hS
  have h := nd_neg h c1
  by_cases c8 : v0 = 1
  · have h := nd_pos h c8
    refine lv_tableIn (off := 122) (tgt := 123) hx hb dX16_answer_1 (by rw [c8]; decide) (by rw [c8]; decide) (by rw [c8]; decide) (by decide) ?_
    refine lv_aload_n hx hb dX16_answer_123 rfl (lv_at hl 0 rfl) ?_
    obtain ⟨q9, s10, hq, h⟩ := nd_b2_e h
    have hPc := hP
    have hDc := hD
    have hKc := hK
    have hFc := nd_rs hD hS hA
    refine nd_cVi (As := []) (rest := []) (q := q9) (w' := dw_X16 a ac s10) ⟨hx, hb, hml, hown, hts⟩ (fun sz => dm_X16_fork l hlt dC dI a ac n  s0 hq sz) (cwV 0 hts gi_dm_X16_answer_2 rfl rfl rfl (by decide +kernel) ⟨Nat.le_of_ble_eq_true rfl, Nat.le_of_ble_eq_true rfl⟩) hPc hDc hKc hS hA hN (va_recv hKc hPc (ci := 17) (q0 := 0) rfl rfl) rfl hl.1 rfl (Nat.le_of_ble_eq_true rfl) dX16_answer_124 (fun H locs hP1 hD1 hk1 hS => ?_)
    have hP := hP1
    have hD := hD1.weaken (fun k q _ h => hFc q.1 h)
    exact K _ _ _ _ _ _ dX16_answer_127 rfl (Option.some.inj h).symm hP hD hS
  have h := nd_neg h c8
  by_cases c12 : v0 = 2
  · have h := nd_pos h c12
    refine lv_tableIn (off := 127) (tgt := 128) hx hb dX16_answer_1 (by rw [c12]; decide) (by rw [c12]; decide) (by rw [c12]; decide) (by decide) ?_
    refine lv_aload_n hx hb dX16_answer_128 rfl (lv_at hl 0 rfl) ?_
    refine lv_iload_n hx hb dX16_answer_129 rfl (lv_at hl 2 rfl) ?_
    obtain ⟨q13, s14, hq, h⟩ := nd_b2_e h
    have hPc := hP
    have hDc := hD
    have hKc := hK
    have hFc := nd_rs hD hS hA
    refine nd_cVi (As := [.int v1]) (rest := []) (q := q13) (w' := dw_X16 a ac s14) ⟨hx, hb, hml, hown, hts⟩ (fun sz => dm_X16_exec l hlt dC dI a ac n (v1) s0 hq sz) (cwV 1 hts gi_dm_X16_answer_3 rfl rfl rfl (by decide +kernel) ⟨Nat.le_of_ble_eq_true rfl, Nat.le_of_ble_eq_true rfl⟩) hPc hDc hKc hS hA hN (va_recv hKc hPc (ci := 17) (q0 := 0) rfl rfl) rfl hl.1 rfl (Nat.le_of_ble_eq_true rfl) dX16_answer_130 (fun H locs hP1 hD1 hk1 hS => ?_)
    have hP := hP1
    have hD := hD1.weaken (fun k q _ h => hFc q.1 h)
    exact K _ _ _ _ _ _ dX16_answer_133 rfl (Option.some.inj h).symm hP hD hS
  have h := nd_neg h c12
  by_cases c16 : v0 = 3
  · have h := nd_pos h c16
    refine lv_tableIn (off := 133) (tgt := 134) hx hb dX16_answer_1 (by rw [c16]; decide) (by rw [c16]; decide) (by rw [c16]; decide) (by decide) ?_
    refine lv_aload_n hx hb dX16_answer_134 rfl (lv_at hl 0 rfl) ?_
    obtain ⟨q17, s18, hq, h⟩ := nd_b2_e h
    have hPc := hP
    have hDc := hD
    have hKc := hK
    have hFc := nd_rs hD hS hA
    refine nd_cVi (As := []) (rest := []) (q := q17) (w' := dw_X16 a ac s18) ⟨hx, hb, hml, hown, hts⟩ (fun sz => dm_X16_waitFor l hlt dC dI a ac n  s0 hq sz) (cwV 0 hts gi_dm_X16_answer_4 rfl rfl rfl (by decide +kernel) ⟨Nat.le_of_ble_eq_true rfl, Nat.le_of_ble_eq_true rfl⟩) hPc hDc hKc hS hA hN (va_recv hKc hPc (ci := 17) (q0 := 0) rfl rfl) rfl hl.1 rfl (Nat.le_of_ble_eq_true rfl) dX16_answer_135 (fun H locs hP1 hD1 hk1 hS => ?_)
    have hP := hP1
    have hD := hD1.weaken (fun k q _ h => hFc q.1 h)
    exact K _ _ _ _ _ _ dX16_answer_138 rfl (Option.some.inj h).symm hP hD hS
  have h := nd_neg h c16
  by_cases c20 : v0 = 4
  · have h := nd_pos h c20
    refine lv_tableIn (off := 138) (tgt := 139) hx hb dX16_answer_1 (by rw [c20]; decide) (by rw [c20]; decide) (by rw [c20]; decide) (by decide) ?_
    refine lv_aload_n hx hb dX16_answer_139 rfl (lv_at hl 0 rfl) ?_
    refine va_get (D := (dC, dI)) (ci := 17) (v := .int (sI s0.1 12)) (C := RX16) (T := TX16) (N := 56) hx hb hts hi_dm_X16_answer_X16 hown hK hP 0 rfl rfl 51 (by decide) (hts (.fieldLink RX16 232 "TimeMachineModel$Machine" "p" "I") (List.mem_of_getElem? (i := 1) rfl)) (fun _ h9 => h9) rfl dX16_answer_140 ?_
    exact K _ _ _ _ _ _ dX16_answer_143 rfl (Option.some.inj h).symm hP hD hS
  have h := nd_neg h c20
  by_cases c21 : v0 = 5
  · have h := nd_pos h c21
    refine lv_tableIn (off := 143) (tgt := 144) hx hb dX16_answer_1 (by rw [c21]; decide) (by rw [c21]; decide) (by rw [c21]; decide) (by decide) ?_
    refine lv_aload_n hx hb dX16_answer_144 rfl (lv_at hl 0 rfl) ?_
    refine lv_iload_n hx hb dX16_answer_145 rfl (lv_at hl 2 rfl) ?_
    obtain ⟨q22, s23, hq, h⟩ := nd_b2_e h
    have hPc := hP
    have hDc := hD
    have hKc := hK
    have hFc := nd_rs hD hS hA
    refine nd_cVi (As := [.int v1]) (rest := []) (q := q22) (w' := dw_X16 a ac s23) ⟨hx, hb, hml, hown, hts⟩ (fun sz => dm_X16_pipe l hlt dC dI a ac n (v1) s0 hq sz) (cwV 1 hts gi_dm_X16_answer_5 rfl rfl rfl (by decide +kernel) ⟨Nat.le_of_ble_eq_true rfl, Nat.le_of_ble_eq_true rfl⟩) hPc hDc hKc hS hA hN (va_recv hKc hPc (ci := 17) (q0 := 0) rfl rfl) rfl hl.1 rfl (Nat.le_of_ble_eq_true rfl) dX16_answer_146 (fun H locs hP1 hD1 hk1 hS => ?_)
    have hP := hP1
    have hD := hD1.weaken (fun k q _ h => hFc q.1 h)
    exact K _ _ _ _ _ _ dX16_answer_149 rfl (Option.some.inj h).symm hP hD hS
  have h := nd_neg h c21
  by_cases c25 : v0 = 6
  · have h := nd_pos h c25
    refine lv_tableIn (off := 149) (tgt := 150) hx hb dX16_answer_1 (by rw [c25]; decide) (by rw [c25]; decide) (by rw [c25]; decide) (by decide) ?_
    refine lv_aload_n hx hb dX16_answer_150 rfl (lv_at hl 0 rfl) ?_
    refine lv_iload_n hx hb dX16_answer_151 rfl (lv_at hl 2 rfl) ?_
    refine lv_iload_n hx hb dX16_answer_152 rfl (lv_at hl 3 rfl) ?_
    refine lv_iload hx hb dX16_answer_153 (lv_at hl 4 rfl) ?_
    obtain ⟨q26, s27, hq, h⟩ := nd_b2_e h
    have hPc := hP
    have hDc := hD
    have hKc := hK
    have hFc := nd_rs hD hS hA
    refine nd_cVi (As := [.int v1, .int v2, .int v3]) (rest := []) (q := q26) (w' := dw_X16 a ac s27) ⟨hx, hb, hml, hown, hts⟩ (fun sz => dm_X16_read l hlt dC dI a ac n (v1) (v2) (v3) s0 hq sz) (cwV 3 hts gi_dm_X16_answer_6 rfl rfl rfl (by decide +kernel) ⟨Nat.le_of_ble_eq_true rfl, Nat.le_of_ble_eq_true rfl⟩) hPc hDc hKc hS hA hN (va_recv hKc hPc (ci := 17) (q0 := 0) rfl rfl) rfl hl.1 rfl (Nat.le_of_ble_eq_true rfl) dX16_answer_155 (fun H locs hP1 hD1 hk1 hS => ?_)
    have hP := hP1
    have hD := hD1.weaken (fun k q _ h => hFc q.1 h)
    exact K _ _ _ _ _ _ dX16_answer_158 rfl (Option.some.inj h).symm hP hD hS
  have h := nd_neg h c25
  by_cases c29 : v0 = 7
  · have h := nd_pos h c29
    refine lv_tableIn (off := 158) (tgt := 159) hx hb dX16_answer_1 (by rw [c29]; decide) (by rw [c29]; decide) (by rw [c29]; decide) (by decide) ?_
    refine lv_aload_n hx hb dX16_answer_159 rfl (lv_at hl 0 rfl) ?_
    refine lv_iload_n hx hb dX16_answer_160 rfl (lv_at hl 2 rfl) ?_
    refine lv_iload_n hx hb dX16_answer_161 rfl (lv_at hl 3 rfl) ?_
    refine lv_iload hx hb dX16_answer_162 (lv_at hl 4 rfl) ?_
    obtain ⟨q30, s31, hq, h⟩ := nd_b2_e h
    have hPc := hP
    have hDc := hD
    have hKc := hK
    have hFc := nd_rs hD hS hA
    refine nd_cVi (As := [.int v1, .int v2, .int v3]) (rest := []) (q := q30) (w' := dw_X16 a ac s31) ⟨hx, hb, hml, hown, hts⟩ (fun sz => dm_X16_write7 l hlt dC dI a ac n (v1) (v2) (v3) s0 hq sz) (cwV 3 hts gi_dm_X16_answer_7 rfl rfl rfl (by decide +kernel) ⟨Nat.le_of_ble_eq_true rfl, Nat.le_of_ble_eq_true rfl⟩) hPc hDc hKc hS hA hN (va_recv hKc hPc (ci := 17) (q0 := 0) rfl rfl) rfl hl.1 rfl (Nat.le_of_ble_eq_true rfl) dX16_answer_164 (fun H locs hP1 hD1 hk1 hS => ?_)
    have hP := hP1
    have hD := hD1.weaken (fun k q _ h => hFc q.1 h)
    exact K _ _ _ _ _ _ dX16_answer_167 rfl (Option.some.inj h).symm hP hD hS
  have h := nd_neg h c29
  by_cases c33 : v0 = 8
  · have h := nd_pos h c33
    refine lv_tableIn (off := 167) (tgt := 168) hx hb dX16_answer_1 (by rw [c33]; decide) (by rw [c33]; decide) (by rw [c33]; decide) (by decide) ?_
    refine lv_aload_n hx hb dX16_answer_168 rfl (lv_at hl 0 rfl) ?_
    refine lv_iload_n hx hb dX16_answer_169 rfl (lv_at hl 2 rfl) ?_
    obtain ⟨q34, s35, hq, h⟩ := nd_b2_e h
    have hPc := hP
    have hDc := hD
    have hKc := hK
    have hFc := nd_rs hD hS hA
    refine nd_cVi (As := [.int v1]) (rest := []) (q := q34) (w' := dw_X16 a ac s35) ⟨hx, hb, hml, hown, hts⟩ (fun sz => dm_X16_close l hlt dC dI a ac n (v1) s0 hq sz) (cwV 1 hts gi_dm_X16_answer_8 rfl rfl rfl (by decide +kernel) ⟨Nat.le_of_ble_eq_true rfl, Nat.le_of_ble_eq_true rfl⟩) hPc hDc hKc hS hA hN (va_recv hKc hPc (ci := 17) (q0 := 0) rfl rfl) rfl hl.1 rfl (Nat.le_of_ble_eq_true rfl) dX16_answer_170 (fun H locs hP1 hD1 hk1 hS => ?_)
    have hP := hP1
    have hD := hD1.weaken (fun k q _ h => hFc q.1 h)
    exact K _ _ _ _ _ _ dX16_answer_173 rfl (Option.some.inj h).symm hP hD hS
  have h := nd_neg h c33
  by_cases c37 : v0 = 9
  · have h := nd_pos h c37
    refine lv_tableIn (off := 173) (tgt := 174) hx hb dX16_answer_1 (by rw [c37]; decide) (by rw [c37]; decide) (by rw [c37]; decide) (by decide) ?_
    refine lv_aload_n hx hb dX16_answer_174 rfl (lv_at hl 0 rfl) ?_
    refine lv_iload_n hx hb dX16_answer_175 rfl (lv_at hl 2 rfl) ?_
    refine lv_iload_n hx hb dX16_answer_176 rfl (lv_at hl 3 rfl) ?_
    obtain ⟨q38, s39, hq, h⟩ := nd_b2_e h
    have hPc := hP
    have hDc := hD
    have hKc := hK
    have hFc := nd_rs hD hS hA
    refine nd_cVi (As := [.int v1, .int v2]) (rest := []) (q := q38) (w' := dw_X16 a ac s39) ⟨hx, hb, hml, hown, hts⟩ (fun sz => dm_X16_dup l hlt dC dI a ac n (v1) (v2) s0 hq sz) (cwV 2 hts gi_dm_X16_answer_9 rfl rfl rfl (by decide +kernel) ⟨Nat.le_of_ble_eq_true rfl, Nat.le_of_ble_eq_true rfl⟩) hPc hDc hKc hS hA hN (va_recv hKc hPc (ci := 17) (q0 := 0) rfl rfl) rfl hl.1 rfl (Nat.le_of_ble_eq_true rfl) dX16_answer_177 (fun H locs hP1 hD1 hk1 hS => ?_)
    have hP := hP1
    have hD := hD1.weaken (fun k q _ h => hFc q.1 h)
    exact K _ _ _ _ _ _ dX16_answer_180 rfl (Option.some.inj h).symm hP hD hS
  have h := nd_neg h c37
  by_cases c41 : v0 = 10
  · have h := nd_pos h c41
    refine lv_tableIn (off := 180) (tgt := 181) hx hb dX16_answer_1 (by rw [c41]; decide) (by rw [c41]; decide) (by rw [c41]; decide) (by decide) ?_
    refine lv_aload_n hx hb dX16_answer_181 rfl (lv_at hl 0 rfl) ?_
    refine lv_iload_n hx hb dX16_answer_182 rfl (lv_at hl 2 rfl) ?_
    refine lv_iload_n hx hb dX16_answer_183 rfl (lv_at hl 3 rfl) ?_
    obtain ⟨q42, s43, hq, h⟩ := nd_b2_e h
    have hPc := hP
    have hDc := hD
    have hKc := hK
    have hFc := nd_rs hD hS hA
    refine nd_cVi (As := [.int v1, .int v2]) (rest := []) (q := q42) (w' := dw_X16 a ac s43) ⟨hx, hb, hml, hown, hts⟩ (fun sz => dm_X16_open l hlt dC dI a ac n (v1) (v2) s0 hq sz) (cwV 2 hts gi_dm_X16_answer_10 rfl rfl rfl (by decide +kernel) ⟨Nat.le_of_ble_eq_true rfl, Nat.le_of_ble_eq_true rfl⟩) hPc hDc hKc hS hA hN (va_recv hKc hPc (ci := 17) (q0 := 0) rfl rfl) rfl hl.1 rfl (Nat.le_of_ble_eq_true rfl) dX16_answer_184 (fun H locs hP1 hD1 hk1 hS => ?_)
    have hP := hP1
    have hD := hD1.weaken (fun k q _ h => hFc q.1 h)
    exact K _ _ _ _ _ _ dX16_answer_187 rfl (Option.some.inj h).symm hP hD hS
  have h := nd_neg h c41
  by_cases c45 : v0 = 11
  · have h := nd_pos h c45
    refine lv_tableIn (off := 187) (tgt := 188) hx hb dX16_answer_1 (by rw [c45]; decide) (by rw [c45]; decide) (by rw [c45]; decide) (by decide) ?_
    refine lv_aload_n hx hb dX16_answer_188 rfl (lv_at hl 0 rfl) ?_
    refine lv_iload_n hx hb dX16_answer_189 rfl (lv_at hl 2 rfl) ?_
    obtain ⟨q46, s47, hq, h⟩ := nd_b2_e h
    have hPc := hP
    have hDc := hD
    have hKc := hK
    have hFc := nd_rs hD hS hA
    refine nd_cVi (As := [.int v1]) (rest := []) (q := q46) (w' := dw_X16 a ac s47) ⟨hx, hb, hml, hown, hts⟩ (fun sz => dm_X16_unlink l hlt dC dI a ac n (v1) s0 hq sz) (cwV 1 hts gi_dm_X16_answer_11 rfl rfl rfl (by decide +kernel) ⟨Nat.le_of_ble_eq_true rfl, Nat.le_of_ble_eq_true rfl⟩) hPc hDc hKc hS hA hN (va_recv hKc hPc (ci := 17) (q0 := 0) rfl rfl) rfl hl.1 rfl (Nat.le_of_ble_eq_true rfl) dX16_answer_190 (fun H locs hP1 hD1 hk1 hS => ?_)
    have hP := hP1
    have hD := hD1.weaken (fun k q _ h => hFc q.1 h)
    exact K _ _ _ _ _ _ dX16_answer_193 rfl (Option.some.inj h).symm hP hD hS
  have h := nd_neg h c45
  by_cases c49 : v0 = 12
  · have h := nd_pos h c49
    refine lv_tableIn (off := 193) (tgt := 194) hx hb dX16_answer_1 (by rw [c49]; decide) (by rw [c49]; decide) (by rw [c49]; decide) (by decide) ?_
    refine lv_aload_n hx hb dX16_answer_194 rfl (lv_at hl 0 rfl) ?_
    refine lv_iload_n hx hb dX16_answer_195 rfl (lv_at hl 2 rfl) ?_
    refine lv_iload_n hx hb dX16_answer_196 rfl (lv_at hl 3 rfl) ?_
    refine lv_iload hx hb dX16_answer_197 (lv_at hl 4 rfl) ?_
    obtain ⟨q50, s51, hq, h⟩ := nd_b2_e h
    have hPc := hP
    have hDc := hD
    have hKc := hK
    have hFc := nd_rs hD hS hA
    refine nd_cVi (As := [.int v1, .int v2, .int v3]) (rest := []) (q := q50) (w' := dw_X16 a ac s51) ⟨hx, hb, hml, hown, hts⟩ (fun sz => dm_X16_seek l hlt dC dI a ac n (v1) (v2) (v3) s0 hq sz) (cwV 3 hts gi_dm_X16_answer_12 rfl rfl rfl (by decide +kernel) ⟨Nat.le_of_ble_eq_true rfl, Nat.le_of_ble_eq_true rfl⟩) hPc hDc hKc hS hA hN (va_recv hKc hPc (ci := 17) (q0 := 0) rfl rfl) rfl hl.1 rfl (Nat.le_of_ble_eq_true rfl) dX16_answer_199 (fun H locs hP1 hD1 hk1 hS => ?_)
    have hP := hP1
    have hD := hD1.weaken (fun k q _ h => hFc q.1 h)
    exact K _ _ _ _ _ _ dX16_answer_202 rfl (Option.some.inj h).symm hP hD hS
  have h := nd_neg h c49
  by_cases c53 : v0 = 13
  · have h := nd_pos h c53
    refine lv_tableIn (off := 202) (tgt := 203) hx hb dX16_answer_1 (by rw [c53]; decide) (by rw [c53]; decide) (by rw [c53]; decide) (by decide) ?_
    refine lv_aload_n hx hb dX16_answer_203 rfl (lv_at hl 0 rfl) ?_
    refine lv_iload_n hx hb dX16_answer_204 rfl (lv_at hl 2 rfl) ?_
    refine lv_iload_n hx hb dX16_answer_205 rfl (lv_at hl 3 rfl) ?_
    obtain ⟨q54, s55, hq, h⟩ := nd_b2_e h
    have hPc := hP
    have hDc := hD
    have hKc := hK
    have hFc := nd_rs hD hS hA
    refine nd_cVi (As := [.int v1, .int v2]) (rest := []) (q := q54) (w' := dw_X16 a ac s55) ⟨hx, hb, hml, hown, hts⟩ (fun sz => dm_X16_rename l hlt dC dI a ac n (v1) (v2) s0 hq sz) (cwV 2 hts gi_dm_X16_answer_13 rfl rfl rfl (by decide +kernel) ⟨Nat.le_of_ble_eq_true rfl, Nat.le_of_ble_eq_true rfl⟩) hPc hDc hKc hS hA hN (va_recv hKc hPc (ci := 17) (q0 := 0) rfl rfl) rfl hl.1 rfl (Nat.le_of_ble_eq_true rfl) dX16_answer_206 (fun H locs hP1 hD1 hk1 hS => ?_)
    have hP := hP1
    have hD := hD1.weaken (fun k q _ h => hFc q.1 h)
    exact K _ _ _ _ _ _ dX16_answer_209 rfl (Option.some.inj h).symm hP hD hS
  have h := nd_neg h c53
  by_cases c57 : v0 = 14
  · have h := nd_pos h c57
    refine lv_tableIn (off := 209) (tgt := 210) hx hb dX16_answer_1 (by rw [c57]; decide) (by rw [c57]; decide) (by rw [c57]; decide) (by decide) ?_
    refine lv_aload_n hx hb dX16_answer_210 rfl (lv_at hl 0 rfl) ?_
    refine lv_iload_n hx hb dX16_answer_211 rfl (lv_at hl 2 rfl) ?_
    obtain ⟨q58, s59, hq, h⟩ := nd_b2_e h
    have hPc := hP
    have hDc := hD
    have hKc := hK
    have hFc := nd_rs hD hS hA
    refine nd_cVi (As := [.int v1]) (rest := []) (q := q58) (w' := dw_X16 a ac s59) ⟨hx, hb, hml, hown, hts⟩ (fun sz => dm_X16_grow l hlt dC dI a ac n (v1) s0 hq sz) (cwV 1 hts gi_dm_X16_answer_14 rfl rfl rfl (by decide +kernel) ⟨Nat.le_of_ble_eq_true rfl, Nat.le_of_ble_eq_true rfl⟩) hPc hDc hKc hS hA hN (va_recv hKc hPc (ci := 17) (q0 := 0) rfl rfl) rfl hl.1 rfl (Nat.le_of_ble_eq_true rfl) dX16_answer_212 (fun H locs hP1 hD1 hk1 hS => ?_)
    have hP := hP1
    have hD := hD1.weaken (fun k q _ h => hFc q.1 h)
    exact K _ _ _ _ _ _ dX16_answer_215 rfl (Option.some.inj h).symm hP hD hS
  have h := nd_neg h c57
  by_cases c61 : v0 = 15
  · have h := nd_pos h c61
    refine lv_tableIn (off := 215) (tgt := 216) hx hb dX16_answer_1 (by rw [c61]; decide) (by rw [c61]; decide) (by rw [c61]; decide) (by decide) ?_
    refine lv_iconst (v := 0) hx hb dX16_answer_216 (by decide) ?_
    exact K _ _ _ _ _ _ dX16_answer_217 rfl (Option.some.inj h).symm hP hD hS
  have h := nd_neg h c61
  by_cases c62 : v0 = 16
  · have h := nd_pos h c62
    refine lv_tableIn (off := 217) (tgt := 218) hx hb dX16_answer_1 (by rw [c62]; decide) (by rw [c62]; decide) (by rw [c62]; decide) (by decide) ?_
    refine lv_aload_n hx hb dX16_answer_218 rfl (lv_at hl 0 rfl) ?_
    refine lv_iload_n hx hb dX16_answer_219 rfl (lv_at hl 2 rfl) ?_
    refine lv_iload_n hx hb dX16_answer_220 rfl (lv_at hl 3 rfl) ?_
    obtain ⟨q63, s64, hq, h⟩ := nd_b2_e h
    have hPc := hP
    have hDc := hD
    have hKc := hK
    have hFc := nd_rs hD hS hA
    refine nd_cVi (As := [.int v1, .int v2]) (rest := []) (q := q63) (w' := dw_X16 a ac s64) ⟨hx, hb, hml, hown, hts⟩ (fun sz => dm_X16_signal l hlt dC dI a ac n (v1) (v2) s0 hq sz) (cwV 2 hts gi_dm_X16_answer_15 rfl rfl rfl (by decide +kernel) ⟨Nat.le_of_ble_eq_true rfl, Nat.le_of_ble_eq_true rfl⟩) hPc hDc hKc hS hA hN (va_recv hKc hPc (ci := 17) (q0 := 0) rfl rfl) rfl hl.1 rfl (Nat.le_of_ble_eq_true rfl) dX16_answer_221 (fun H locs hP1 hD1 hk1 hS => ?_)
    have hP := hP1
    have hD := hD1.weaken (fun k q _ h => hFc q.1 h)
    exact K _ _ _ _ _ _ dX16_answer_224 rfl (Option.some.inj h).symm hP hD hS
  have h := nd_neg h c62
  by_cases c66 : v0 = 17
  · have h := nd_pos h c66
    refine lv_tableIn (off := 224) (tgt := 225) hx hb dX16_answer_1 (by rw [c66]; decide) (by rw [c66]; decide) (by rw [c66]; decide) (by decide) ?_
    refine lv_aload_n hx hb dX16_answer_225 rfl (lv_at hl 0 rfl) ?_
    refine lv_iload_n hx hb dX16_answer_226 rfl (lv_at hl 2 rfl) ?_
    refine lv_iload_n hx hb dX16_answer_227 rfl (lv_at hl 3 rfl) ?_
    obtain ⟨q67, s68, hq, h⟩ := nd_b2_e h
    have hPc := hP
    have hDc := hD
    have hKc := hK
    have hFc := nd_rs hD hS hA
    refine nd_cVi (As := [.int v1, .int v2]) (rest := []) (q := q67) (w' := dw_X16 a ac s68) ⟨hx, hb, hml, hown, hts⟩ (fun sz => dm_X16_handle l hlt dC dI a ac n (v1) (v2) s0 hq sz) (cwV 2 hts gi_dm_X16_answer_16 rfl rfl rfl (by decide +kernel) ⟨Nat.le_of_ble_eq_true rfl, Nat.le_of_ble_eq_true rfl⟩) hPc hDc hKc hS hA hN (va_recv hKc hPc (ci := 17) (q0 := 0) rfl rfl) rfl hl.1 rfl (Nat.le_of_ble_eq_true rfl) dX16_answer_228 (fun H locs hP1 hD1 hk1 hS => ?_)
    have hP := hP1
    have hD := hD1.weaken (fun k q _ h => hFc q.1 h)
    exact K _ _ _ _ _ _ dX16_answer_231 rfl (Option.some.inj h).symm hP hD hS
  have h := nd_neg h c66
  by_cases c70 : v0 = 18
  · have h := nd_pos h c70
    refine lv_tableIn (off := 231) (tgt := 232) hx hb dX16_answer_1 (by rw [c70]; decide) (by rw [c70]; decide) (by rw [c70]; decide) (by decide) ?_
    refine lv_aload_n hx hb dX16_answer_232 rfl (lv_at hl 0 rfl) ?_
    obtain ⟨q71, s72, hq, h⟩ := nd_b2_e h
    have hPc := hP
    have hDc := hD
    have hKc := hK
    have hFc := nd_rs hD hS hA
    refine nd_cVi (As := []) (rest := []) (q := q71) (w' := dw_X16 a ac s72) ⟨hx, hb, hml, hown, hts⟩ (fun sz => dm_X16_back l hlt dC dI a ac n  s0 hq sz) (cwV 0 hts gi_dm_X16_answer_17 rfl rfl rfl (by decide +kernel) ⟨Nat.le_of_ble_eq_true rfl, Nat.le_of_ble_eq_true rfl⟩) hPc hDc hKc hS hA hN (va_recv hKc hPc (ci := 17) (q0 := 0) rfl rfl) rfl hl.1 rfl (Nat.le_of_ble_eq_true rfl) dX16_answer_233 (fun H locs hP1 hD1 hk1 hS => ?_)
    have hP := hP1
    have hD := hD1.weaken (fun k q _ h => hFc q.1 h)
    exact K _ _ _ _ _ _ dX16_answer_236 rfl (Option.some.inj h).symm hP hD hS
  have h := nd_neg h c70
  by_cases c74 : v0 = 19
  · have h := nd_pos h c74
    refine lv_tableIn (off := 236) (tgt := 237) hx hb dX16_answer_1 (by rw [c74]; decide) (by rw [c74]; decide) (by rw [c74]; decide) (by decide) ?_
    refine lv_aload_n hx hb dX16_answer_237 rfl (lv_at hl 0 rfl) ?_
    refine lv_iload_n hx hb dX16_answer_238 rfl (lv_at hl 2 rfl) ?_
    obtain ⟨q75, s76, hq, h⟩ := nd_b2_e h
    have hPc := hP
    have hDc := hD
    have hKc := hK
    have hFc := nd_rs hD hS hA
    refine nd_cVi (As := [.int v1]) (rest := []) (q := q75) (w' := dw_X16 a ac s76) ⟨hx, hb, hml, hown, hts⟩ (fun sz => dm_X16_sleep l hlt dC dI a ac n (v1) s0 hq sz) (cwV 1 hts gi_dm_X16_answer_18 rfl rfl rfl (by decide +kernel) ⟨Nat.le_of_ble_eq_true rfl, Nat.le_of_ble_eq_true rfl⟩) hPc hDc hKc hS hA hN (va_recv hKc hPc (ci := 17) (q0 := 0) rfl rfl) rfl hl.1 rfl (Nat.le_of_ble_eq_true rfl) dX16_answer_239 (fun H locs hP1 hD1 hk1 hS => ?_)
    have hP := hP1
    have hD := hD1.weaken (fun k q _ h => hFc q.1 h)
    exact K _ _ _ _ _ _ dX16_answer_242 rfl (Option.some.inj h).symm hP hD hS
  have h := nd_neg h c74
  by_cases c78 : v0 = 20
  · have h := nd_pos h c78
    refine lv_tableIn (off := 242) (tgt := 243) hx hb dX16_answer_1 (by rw [c78]; decide) (by rw [c78]; decide) (by rw [c78]; decide) (by decide) ?_
    refine lv_aload_n hx hb dX16_answer_243 rfl (lv_at hl 0 rfl) ?_
    refine va_get (D := (dC, dI)) (ci := 17) (v := .ref (a 11)) (C := RX16) (T := TX16) (N := 56) hx hb hts hi_dm_X16_answer_X16 hown hK hP 0 rfl rfl 19 (by decide) (hts (.fieldLink RX16 42 "TimeMachineModel$Machine" "x" "[I") (List.mem_of_getElem? (i := 60) rfl)) (fun _ h9 => h9) rfl dX16_answer_244 ?_
    refine lv_bipush (v := 32) hx hb dX16_answer_247 (by decide) ?_
    refine lv_aload_n hx hb dX16_answer_249 rfl (lv_at hl 0 rfl) ?_
    refine va_get (D := (dC, dI)) (ci := 17) (v := .int (sI s0.1 12)) (C := RX16) (T := TX16) (N := 56) hx hb hts hi_dm_X16_answer_X16 hown hK hP 0 rfl rfl 51 (by decide) (hts (.fieldLink RX16 232 "TimeMachineModel$Machine" "p" "I") (List.mem_of_getElem? (i := 1) rfl)) (fun _ h9 => h9) rfl dX16_answer_250 ?_
    refine lv_imul hx hb dX16_answer_253 ?_
    refine lv_bipush (v := 11) hx hb dX16_answer_254 (by decide) ?_
    refine lv_iadd hx hb dX16_answer_256 ?_
    refine lv_aload_n hx hb dX16_answer_257 rfl (lv_at hl 0 rfl) ?_
    refine va_get (D := (dC, dI)) (ci := 17) (v := .long (sL s0.1 1)) (C := RX16) (T := TX16) (N := 56) hx hb hts hi_dm_X16_answer_X16 hown hK hP 0 rfl rfl 7 (by decide) (hts (.fieldLink RX16 151 "TimeMachineModel$Machine" "clock" "J") (List.mem_of_getElem? (i := 61) rfl)) (fun _ h9 => h9) rfl dX16_answer_258 ?_
    refine lv_bipush (v := 32) hx hb dX16_answer_261 (by decide) ?_
    refine lv_lshr hx hb dX16_answer_263 rfl ?_
    refine lv_l2i hx hb dX16_answer_264 rfl ?_
    obtain ⟨i79, h⟩ := nd_ck_e h
    refine va_iast (i := ((32 * (sI s0.1 12)) + 11)) (x := ((((sL s0.1 1) : Int64) >>> ((32 : Int32).toInt64 &&& 63)).toInt32)) hx hb hK hP hD hS 11 10 rfl rfl i79 dX16_answer_265 (fun H locs hP hD hS => ?_)
    obtain ⟨s80, es80, h⟩ := nd_let_e h
    have hP : va_P (dC, dI) vwCl (dw_X16 a ac s80) H := by rw [es80]; exact hP
    have hD : va_D A (dw_X16 a ac s80) := by rw [es80]; exact hD
    refine lv_aload_n hx hb dX16_answer_266 rfl (lv_at hl 0 rfl) ?_
    refine va_get (D := (dC, dI)) (ci := 17) (v := .long (sL s80.1 1)) (C := RX16) (T := TX16) (N := 56) hx hb hts hi_dm_X16_answer_X16 hown hK hP 0 rfl rfl 7 (by decide) (hts (.fieldLink RX16 151 "TimeMachineModel$Machine" "clock" "J") (List.mem_of_getElem? (i := 61) rfl)) (fun _ h9 => h9) rfl dX16_answer_267 ?_
    refine lv_l2i hx hb dX16_answer_270 rfl ?_
    exact K _ _ _ _ _ _ dX16_answer_271 rfl (Option.some.inj h).symm hP hD hS
  have h := nd_neg h c78
  by_cases c81 : v0 = 21
  · have h := nd_pos h c81
    refine lv_tableIn (off := 271) (tgt := 272) hx hb dX16_answer_1 (by rw [c81]; decide) (by rw [c81]; decide) (by rw [c81]; decide) (by decide) ?_
    refine lv_aload_n hx hb dX16_answer_272 rfl (lv_at hl 0 rfl) ?_
    obtain ⟨q82, s83, hq, h⟩ := nd_b2_e h
    have hPc := hP
    have hDc := hD
    have hKc := hK
    have hFc := nd_rs hD hS hA
    refine nd_cVi (As := []) (rest := []) (q := q82) (w' := dw_X16 a ac s83) ⟨hx, hb, hml, hown, hts⟩ (fun sz => dm_X16_random l hlt dC dI a ac n  s0 hq sz) (cwV 0 hts gi_dm_X16_answer_19 rfl rfl rfl (by decide +kernel) ⟨Nat.le_of_ble_eq_true rfl, Nat.le_of_ble_eq_true rfl⟩) hPc hDc hKc hS hA hN (va_recv hKc hPc (ci := 17) (q0 := 0) rfl rfl) rfl hl.1 rfl (Nat.le_of_ble_eq_true rfl) dX16_answer_273 (fun H locs hP1 hD1 hk1 hS => ?_)
    have hP := hP1
    have hD := hD1.weaken (fun k q _ h => hFc q.1 h)
    exact K _ _ _ _ _ _ dX16_answer_276 rfl (Option.some.inj h).symm hP hD hS
  have h := nd_neg h c81
  refine lv_tableOut (tgt := 277) hx hb dX16_answer_1 (by have g0 := nv_nei c1 (k := 0) (by decide); have g1 := nv_nei c8 (k := 1) (by decide); have g2 := nv_nei c12 (k := 2) (by decide); have g3 := nv_nei c16 (k := 3) (by decide); have g4 := nv_nei c20 (k := 4) (by decide); have g5 := nv_nei c21 (k := 5) (by decide); have g6 := nv_nei c25 (k := 6) (by decide); have g7 := nv_nei c29 (k := 7) (by decide); have g8 := nv_nei c33 (k := 8) (by decide); have g9 := nv_nei c37 (k := 9) (by decide); have g10 := nv_nei c41 (k := 10) (by decide); have g11 := nv_nei c45 (k := 11) (by decide); have g12 := nv_nei c49 (k := 12) (by decide); have g13 := nv_nei c53 (k := 13) (by decide); have g14 := nv_nei c57 (k := 14) (by decide); have g15 := nv_nei c61 (k := 15) (by decide); have g16 := nv_nei c62 (k := 16) (by decide); have g17 := nv_nei c66 (k := 17) (by decide); have g18 := nv_nei c70 (k := 18) (by decide); have g19 := nv_nei c74 (k := 19) (by decide); have g20 := nv_nei c78 (k := 20) (by decide); have g21 := nv_nei c81 (k := 21) (by decide); omega) (by decide) ?_
  refine lv_bipush (v := (-38)) hx hb dX16_answer_277 (by decide) ?_
  exact K _ _ _ _ _ _ dX16_answer_279 rfl (Option.some.inj h).symm hP hD hS
set_option maxHeartbeats 40000000 in
set_option maxRecDepth 100000 in
theorem dm_X16_answer (l : Launch) (hlt : l.stackTraces = false) (dC : Nat → ClassId) (dI : Nat → Nat → Nat) (a : Nat → Nat) (ac : Nat → ClassId) (n : Nat) (v0 : Int32) (v1 : Int32) (v2 : Int32) (v3 : Int32) (s0 : St × (St)) {r : Int32 × (St × (St))} (h : df_X16_answer n v0 v1 v2 v3 s0 = some r) (sz : Nat) : Met l yX16_answer ow_dm_X16_answer ({ frames := 4, cells := 0, slots := 0, locals := 99 }) (va_Pc [.ref (a 0), .int v0, .int v1, .int v2, .int v3] (fun U => U.heap.size = sz ∧ va_P (dC, dI) vwCl (dw_X16 a ac s0) U.heap ∧ va_K (dC, dI) vwCl (dk_X16 ac) U ∧ va_D (fun _ => True) (dw_X16 a ac s0) ∧ nv_E dI (va_A (dw_X16 a ac s0) sz) U)) (va_Qi (fun x _ => x = r.1) (fun (_ : Unit) t => va_P (dC, dI) vwCl (dw_X16 a ac r.2) t.heap ∧ va_K (dC, dI) vwCl (dk_X16 ac) t ∧ va_D (va_A (dw_X16 a ac s0) sz) (dw_X16 a ac r.2)) (va_A (dw_X16 a ac s0) sz)) 0 0 (va_A (dw_X16 a ac s0) sz) := by
  refine Met.ofW (cc := cX16_answer) (maxL := 5) (ret := (some .int)) (by decide) rfl ?_
  intro p e s m args below meth c s₁ B hml hv
  obtain ⟨rfl, hsz, hP, hK, hD0, hN⟩ := hv
  have hx := B.exec
  have hb := B.bytes
  have hr := B.returns
  have hts := atoms_spec (ws := ow_dm_X16_answer) B.pre
  have hown : s.vm.findClass RX16 = some m.cls := findClass_of_methodNamed B.named
  have hlocks := B.notSynchronized
  subst hsz
  have hD := hD0.self (sz := s.heap.size)
  generalize hAe : va_A (dw_X16 a ac s0) s.heap.size = A at hD hN ⊢
  have hA : ∀ q : Nat, s.heap.size ≤ q → A q := fun q h => by rw [← hAe]; exact Or.inr h
  have hl := lv_entry ([.ref (a 0), .int v0, .int v1, .int v2, .int v3]) (n := 5) (Nat.le_of_ble_eq_true rfl)
  rw [lg_entry_eq]
  generalize (lg_sl ([.ref (a 0), .int v0, .int v1, .int v2, .int v3]) ++ List.replicate (5 - (lg_sl ([.ref (a 0), .int v0, .int v1, .int v2, .int v3])).length) Slot.unset).toArray = ls at hl ⊢
  have hl : lv_has ls 5 [(0, .ref (a 0)), (1, .int v0), (2, .int v1), (3, .int v2), (4, .int v3)] := hl
  exact db_X16_answer_0 (dC := dC) (dI := dI) (a := a) (ac := ac) (n := n) (r := r) ⟨hlt, hx, hb, hml, hown, hts, hN, hA, hK⟩ (fun pc v τ H locs ls d z er hP hD hS => by subst er; exact W.zret (v := v) hx hb hr z (fun t ht hW => ⟨⟨v, (), rfl, rfl, by rw [ht]; exact hP, va_K.moved hW.alike hK, hD⟩, hS.F ht⟩) hS.2.2 d) v0 v1 v2 v3 s0 _ _ _ h hP hD va_S.rf (lv_sub hl [0, 1, 2, 3, 4] rfl)
def ow_dm_X16_call : List Cond := Cond.code yX16_call cX16_call 3 none :: ([Cond.fieldLink RX16 42 "TimeMachineModel$Machine" "x" "[I", Cond.fieldLink RX16 232 "TimeMachineModel$Machine" "p" "I", Cond.fieldLink RX16 409 "TimeMachineModel$Machine" "outcome" "I", Cond.methodLink RX16 412 yX16_answer, Cond.instanceMethod yX16_answer, Cond.selects RX16 yX16_answer yX16_answer, Cond.initialized RX16, Cond.fieldLink RX16 45 "TimeMachineModel$Machine" "place" "[I", Cond.methodLink RX16 275 yX16_turn, Cond.instanceMethod yX16_turn, Cond.selects RX16 yX16_turn yX16_turn, Cond.fieldLink RX16 13 "TimeMachineModel$Machine" "state" "[I", Cond.fieldLink RX16 31 "TimeMachineModel$Machine" "calling" "[I", Cond.methodLink RX16 294 yX16_trap, Cond.instanceMethod yX16_trap, Cond.selects RX16 yX16_trap yX16_trap] ++ (u_ws RX16 TX16 56 ++ (ow_dm_X16_answer ++ (ow_dm_X16_turn ++ (ow_dm_X16_trap ++ [])))))
theorem gd_dm_X16_call : ∀ w ∈ ow_dm_X16_call, (w.onTables && w.keeps) = true ∨ ∃ ty, w = Cond.arrayClass ty := List.forall_mem_cons.mpr ⟨good_of_word rfl, List.forall_mem_append.mpr ⟨fun w h => good_of_word (List.all_eq_true.mp (by decide +kernel) w h), List.forall_mem_append.mpr ⟨gu_X16, List.forall_mem_append.mpr ⟨gd_dm_X16_answer, List.forall_mem_append.mpr ⟨gd_dm_X16_turn, List.forall_mem_append.mpr ⟨gd_dm_X16_trap, fun _ h => nomatch h⟩⟩⟩⟩⟩⟩
theorem hi_dm_X16_call_X16 : ∀ w ∈ u_ws RX16 TX16 56, w ∈ ow_dm_X16_call := fun w h => List.mem_cons_of_mem _ (List.mem_append_right _ (List.mem_append_left _ h))
theorem gi_dm_X16_call_0 : GoodIn ow_dm_X16_call (wsV RX16 412 RX16 yX16_answer ow_dm_X16_answer) := goodIn_app (goodIn_of _ (by decide +kernel)) (fun w h => ⟨List.mem_cons_of_mem _ (List.mem_append_right _ (List.mem_append_right _ (List.mem_append_left _ h))), gd_dm_X16_answer w h⟩)
theorem gi_dm_X16_call_1 : GoodIn ow_dm_X16_call (wsV RX16 275 RX16 yX16_turn ow_dm_X16_turn) := goodIn_app (goodIn_of _ (by decide +kernel)) (fun w h => ⟨List.mem_cons_of_mem _ (List.mem_append_right _ (List.mem_append_right _ (List.mem_append_right _ (List.mem_append_left _ h)))), gd_dm_X16_turn w h⟩)
theorem gi_dm_X16_call_2 : GoodIn ow_dm_X16_call (wsV RX16 294 RX16 yX16_trap ow_dm_X16_trap) := goodIn_app (goodIn_of _ (by decide +kernel)) (fun w h => ⟨List.mem_cons_of_mem _ (List.mem_append_right _ (List.mem_append_right _ (List.mem_append_right _ (List.mem_append_right _ (List.mem_append_left _ h))))), gd_dm_X16_trap w h⟩)
def dj_X16_call_164 (p : Program) (l : Launch) (e : Env) (s : State) (m : MethodId) (args : Array Value) (below : List Frame) (meth : Method) (c : Code) (Q : State → Prop) (A : Nat → Prop) (dC : Nat → ClassId) (dI : Nat → Nat → Nat) (a : Nat → Nat) (ac : Nat → ClassId) (g : (St × (St)) → Option (St × (St))) (r : St × (St)) : Prop := ∀ (s0 : St × (St)) (H : Heap) (locs : List Loc) (ls : Array Slot), g s0 = some r → va_P (dC, dI) vwCl (dw_X16 a ac s0) H → va_D A (dw_X16 a ac s0) → va_S A s.heap H locs → lv_has ls 3 [] → W p l e (headSpec ow_dm_X16_call ({ frames := 5, cells := 0, slots := 0, locals := 123 })).room s m args below meth c H locs 0 0 Q (F0 m 164 ls [])
def dj_X16_call_0 (p : Program) (l : Launch) (e : Env) (s : State) (m : MethodId) (args : Array Value) (below : List Frame) (meth : Method) (c : Code) (Q : State → Prop) (A : Nat → Prop) (dC : Nat → ClassId) (dI : Nat → Nat → Nat) (a : Nat → Nat) (ac : Nat → ClassId) (g : (St × (St)) → Option (St × (St))) (r : St × (St)) : Prop := ∀ (s0 : St × (St)) (H : Heap) (locs : List Loc) (ls : Array Slot), g s0 = some r → va_P (dC, dI) vwCl (dw_X16 a ac s0) H → va_D A (dw_X16 a ac s0) → va_S A s.heap H locs → lv_has ls 3 [(0, .ref (a 0))] → W p l e (headSpec ow_dm_X16_call ({ frames := 5, cells := 0, slots := 0, locals := 123 })).room s m args below meth c H locs 0 0 Q (F0 m 0 ls [])
set_option maxHeartbeats 40000000 in
set_option maxRecDepth 100000 in
theorem db_X16_call_164 {p : Program} {l : Launch} {e : Env} {s : State} {m : MethodId} {args : Array Value} {below : List Frame} {meth : Method} {c : Code} {Q : State → Prop} {A : Nat → Prop} {dC : Nat → ClassId} {dI : Nat → Nat → Nat} {a : Nat → Nat} {ac : Nat → ClassId} {n : Nat} {r : St × (St)} (C : nd_C p l s m args c A (dC, dI) cX16_call 3 RX16 ow_dm_X16_call (dk_X16 ac)) (K : nd_Kv p l e (headSpec ow_dm_X16_call ({ frames := 5, cells := 0, slots := 0, locals := 123 })).room s m args below meth c Q A (dC, dI) cX16_call (St × (St)) (dw_X16 a ac) r) : dj_X16_call_164 p l e s m args below meth c Q A dC dI a ac (df_X16_call_164 n) r := by
  obtain ⟨hlt, hx, hb, hml, hown, hts, hN, hA, hK⟩ := id C
  intro s0 H locs ls h hP hD hS hl
  unfold df_X16_call_164 at h
  exact K _ _ _ _ _ dX16_call_164 (Option.some.inj h).symm hP hD hS
set_option maxHeartbeats 40000000 in
set_option maxRecDepth 100000 in
theorem db_X16_call_0 {p : Program} {l : Launch} {e : Env} {s : State} {m : MethodId} {args : Array Value} {below : List Frame} {meth : Method} {c : Code} {Q : State → Prop} {A : Nat → Prop} {dC : Nat → ClassId} {dI : Nat → Nat → Nat} {a : Nat → Nat} {ac : Nat → ClassId} {n : Nat} {r : St × (St)} (C : nd_C p l s m args c A (dC, dI) cX16_call 3 RX16 ow_dm_X16_call (dk_X16 ac)) (K : nd_Kv p l e (headSpec ow_dm_X16_call ({ frames := 5, cells := 0, slots := 0, locals := 123 })).room s m args below meth c Q A (dC, dI) cX16_call (St × (St)) (dw_X16 a ac) r) : dj_X16_call_0 p l e s m args below meth c Q A dC dI a ac (df_X16_call_0 n) r := by
  obtain ⟨hlt, hx, hb, hml, hown, hts, hN, hA, hK⟩ := id C
  intro s0 H locs ls h hP hD hS hl
  unfold df_X16_call_0 at h
  refine lv_aload_n hx hb dX16_call_0 rfl (lv_at hl 0 rfl) ?_
  refine va_get (D := (dC, dI)) (ci := 17) (v := .ref (a 11)) (C := RX16) (T := TX16) (N := 56) hx hb hts hi_dm_X16_call_X16 hown hK hP 0 rfl rfl 19 (by decide) (hts (.fieldLink RX16 42 "TimeMachineModel$Machine" "x" "[I") (List.mem_of_getElem? (i := 1) rfl)) (fun _ h9 => h9) rfl dX16_call_1 ?_
  refine lv_bipush (v := 32) hx hb dX16_call_4 (by decide) ?_
  refine lv_aload_n hx hb dX16_call_6 rfl (lv_at hl 0 rfl) ?_
  refine va_get (D := (dC, dI)) (ci := 17) (v := .int (sI s0.1 12)) (C := RX16) (T := TX16) (N := 56) hx hb hts hi_dm_X16_call_X16 hown hK hP 0 rfl rfl 51 (by decide) (hts (.fieldLink RX16 232 "TimeMachineModel$Machine" "p" "I") (List.mem_of_getElem? (i := 2) rfl)) (fun _ h9 => h9) rfl dX16_call_7 ?_
  refine lv_imul hx hb dX16_call_10 ?_
  refine lv_bipush (v := 17) hx hb dX16_call_11 (by decide) ?_
  refine lv_iadd hx hb dX16_call_13 ?_
  obtain ⟨i1, h⟩ := nd_ck_e h
  refine va_iald (i := ((32 * (sI s0.1 12)) + 17)) hx hb hK hP 11 10 rfl rfl i1 dX16_call_14 ?_
  refine lv_topi (fun z2 ez2 => ?_)
  have h := nd_at h ez2
  refine lv_istore_n (lv' := [(1, .int z2), (0, .ref (a 0))]) hx hb dX16_call_15 rfl hl (by decide) rfl (fun ls hl => ?_)
  refine lv_aload_n hx hb dX16_call_16 rfl (lv_at hl 1 rfl) ?_
  refine lv_iconst (v := 0) hx hb dX16_call_17 (by decide) ?_
  refine va_put (D := (dC, dI)) (ci := 17) (v := .int 0) (ty := .int) (C := RX16) (T := TX16) (N := 56) hx hb hts hi_dm_X16_call_X16 tyX16 tyX16_ok nmX16 hown hK hP hD hS 0 rfl rfl 52 (by decide) (hts (.fieldLink RX16 409 "TimeMachineModel$Machine" "outcome" "I") (List.mem_of_getElem? (i := 3) rfl)) (fun _ h9 => h9) rfl (by decide +kernel) rfl rfl (Nat.le_of_ble_eq_true rfl) dX16_call_18 (fun H locs hP hD hS => ?_)
  obtain ⟨s3, es3, h⟩ := nd_let_e h
  have hP : va_P (dC, dI) vwCl (dw_X16 a ac s3) H := by rw [es3]; exact hP
  have hD : va_D A (dw_X16 a ac s3) := by rw [es3]; exact hD
  refine lv_aload_n hx hb dX16_call_21 rfl (lv_at hl 1 rfl) ?_
  refine lv_iload_n hx hb dX16_call_22 rfl (lv_at hl 0 rfl) ?_
  refine lv_aload_n hx hb dX16_call_23 rfl (lv_at hl 1 rfl) ?_
  refine va_get (D := (dC, dI)) (ci := 17) (v := .ref (a 11)) (C := RX16) (T := TX16) (N := 56) hx hb hts hi_dm_X16_call_X16 hown hK hP 0 rfl rfl 19 (by decide) (hts (.fieldLink RX16 42 "TimeMachineModel$Machine" "x" "[I") (List.mem_of_getElem? (i := 1) rfl)) (fun _ h9 => h9) rfl dX16_call_24 ?_
  refine lv_bipush (v := 32) hx hb dX16_call_27 (by decide) ?_
  refine lv_aload_n hx hb dX16_call_29 rfl (lv_at hl 1 rfl) ?_
  refine va_get (D := (dC, dI)) (ci := 17) (v := .int (sI s3.1 12)) (C := RX16) (T := TX16) (N := 56) hx hb hts hi_dm_X16_call_X16 hown hK hP 0 rfl rfl 51 (by decide) (hts (.fieldLink RX16 232 "TimeMachineModel$Machine" "p" "I") (List.mem_of_getElem? (i := 2) rfl)) (fun _ h9 => h9) rfl dX16_call_30 ?_
  refine lv_imul hx hb dX16_call_33 ?_
  refine lv_bipush (v := 10) hx hb dX16_call_34 (by decide) ?_
  refine lv_iadd hx hb dX16_call_36 ?_
  obtain ⟨i4, h⟩ := nd_ck_e h
  refine va_iald (i := ((32 * (sI s3.1 12)) + 10)) hx hb hK hP 11 10 rfl rfl i4 dX16_call_37 ?_
  refine lv_aload_n hx hb dX16_call_38 rfl (lv_at hl 1 rfl) ?_
  refine va_get (D := (dC, dI)) (ci := 17) (v := .ref (a 11)) (C := RX16) (T := TX16) (N := 56) hx hb hts hi_dm_X16_call_X16 hown hK hP 0 rfl rfl 19 (by decide) (hts (.fieldLink RX16 42 "TimeMachineModel$Machine" "x" "[I") (List.mem_of_getElem? (i := 1) rfl)) (fun _ h9 => h9) rfl dX16_call_39 ?_
  refine lv_bipush (v := 32) hx hb dX16_call_42 (by decide) ?_
  refine lv_aload_n hx hb dX16_call_44 rfl (lv_at hl 1 rfl) ?_
  refine va_get (D := (dC, dI)) (ci := 17) (v := .int (sI s3.1 12)) (C := RX16) (T := TX16) (N := 56) hx hb hts hi_dm_X16_call_X16 hown hK hP 0 rfl rfl 51 (by decide) (hts (.fieldLink RX16 232 "TimeMachineModel$Machine" "p" "I") (List.mem_of_getElem? (i := 2) rfl)) (fun _ h9 => h9) rfl dX16_call_45 ?_
  refine lv_imul hx hb dX16_call_48 ?_
  refine lv_bipush (v := 11) hx hb dX16_call_49 (by decide) ?_
  refine lv_iadd hx hb dX16_call_51 ?_
  obtain ⟨i5, h⟩ := nd_ck_e h
  refine va_iald (i := ((32 * (sI s3.1 12)) + 11)) hx hb hK hP 11 10 rfl rfl i5 dX16_call_52 ?_
  refine lv_aload_n hx hb dX16_call_53 rfl (lv_at hl 1 rfl) ?_
  refine va_get (D := (dC, dI)) (ci := 17) (v := .ref (a 11)) (C := RX16) (T := TX16) (N := 56) hx hb hts hi_dm_X16_call_X16 hown hK hP 0 rfl rfl 19 (by decide) (hts (.fieldLink RX16 42 "TimeMachineModel$Machine" "x" "[I") (List.mem_of_getElem? (i := 1) rfl)) (fun _ h9 => h9) rfl dX16_call_54 ?_
  refine lv_bipush (v := 32) hx hb dX16_call_57 (by decide) ?_
  refine lv_aload_n hx hb dX16_call_59 rfl (lv_at hl 1 rfl) ?_
  refine va_get (D := (dC, dI)) (ci := 17) (v := .int (sI s3.1 12)) (C := RX16) (T := TX16) (N := 56) hx hb hts hi_dm_X16_call_X16 hown hK hP 0 rfl rfl 51 (by decide) (hts (.fieldLink RX16 232 "TimeMachineModel$Machine" "p" "I") (List.mem_of_getElem? (i := 2) rfl)) (fun _ h9 => h9) rfl dX16_call_60 ?_
  refine lv_imul hx hb dX16_call_63 ?_
  refine lv_bipush (v := 12) hx hb dX16_call_64 (by decide) ?_
  refine lv_iadd hx hb dX16_call_66 ?_
  obtain ⟨i6, h⟩ := nd_ck_e h
  refine va_iald (i := ((32 * (sI s3.1 12)) + 12)) hx hb hK hP 11 10 rfl rfl i6 dX16_call_67 ?_
  obtain ⟨q7, s8, hq, h⟩ := nd_b2_e h
  have hPc := hP
  have hDc := hD
  have hKc := hK
  have hFc := nd_rs hD hS hA
  refine nd_cVi (As := [.int z2, .int (sR s3.1 9 (Int32.toNatClampNeg ((32 * (sI s3.1 12)) + 10))), .int (sR s3.1 9 (Int32.toNatClampNeg ((32 * (sI s3.1 12)) + 11))), .int (sR s3.1 9 (Int32.toNatClampNeg ((32 * (sI s3.1 12)) + 12)))]) (rest := []) (q := q7) (w' := dw_X16 a ac s8) ⟨hx, hb, hml, hown, hts⟩ (fun sz => dm_X16_answer l hlt dC dI a ac n (z2) ((sR s3.1 9 (Int32.toNatClampNeg ((32 * (sI s3.1 12)) + 10)))) ((sR s3.1 9 (Int32.toNatClampNeg ((32 * (sI s3.1 12)) + 11)))) ((sR s3.1 9 (Int32.toNatClampNeg ((32 * (sI s3.1 12)) + 12)))) s3 hq sz) (cwV 4 hts gi_dm_X16_call_0 rfl rfl rfl (by decide +kernel) ⟨Nat.le_of_ble_eq_true rfl, Nat.le_of_ble_eq_true rfl⟩) hPc hDc hKc hS hA hN (va_recv hKc hPc (ci := 17) (q0 := 0) rfl rfl) rfl hl.1 rfl (Nat.le_of_ble_eq_true rfl) dX16_call_68 (fun H locs hP1 hD1 hk1 hS => ?_)
  have hP := hP1
  have hD := hD1.weaken (fun k q _ h => hFc q.1 h)
  refine lv_istore_n (lv' := [(2, .int q7), (1, .int z2), (0, .ref (a 0))]) hx hb dX16_call_71 rfl hl (by decide) rfl (fun ls hl => ?_)
  refine lv_aload_n hx hb dX16_call_72 rfl (lv_at hl 2 rfl) ?_
  refine va_get (D := (dC, dI)) (ci := 17) (v := .int (sI s8.1 13)) (C := RX16) (T := TX16) (N := 56) hx hb hts hi_dm_X16_call_X16 hown hK hP 0 rfl rfl 52 (by decide) (hts (.fieldLink RX16 409 "TimeMachineModel$Machine" "outcome" "I") (List.mem_of_getElem? (i := 3) rfl)) (fun _ h9 => h9) rfl dX16_call_73 ?_
  refine lv_iconst (v := 2) hx hb dX16_call_76 (by decide) ?_
  refine lv_icmp_ne (tgt := 81) hx hb dX16_call_77 (by decide) (fun c10 => ?_) (fun c10 => ?_)
  · have h := nd_neg h c10
    refine lv_aload_n hx hb dX16_call_81 rfl (lv_at hl 2 rfl) ?_
    refine va_get (D := (dC, dI)) (ci := 17) (v := .int (sI s8.1 13)) (C := RX16) (T := TX16) (N := 56) hx hb hts hi_dm_X16_call_X16 hown hK hP 0 rfl rfl 52 (by decide) (hts (.fieldLink RX16 409 "TimeMachineModel$Machine" "outcome" "I") (List.mem_of_getElem? (i := 3) rfl)) (fun _ h9 => h9) rfl dX16_call_82 ?_
    refine lv_iconst (v := 3) hx hb dX16_call_85 (by decide) ?_
    refine lv_icmp_ne (tgt := 96) hx hb dX16_call_86 (by decide) (fun c11 => ?_) (fun c11 => ?_)
    · have h := nd_neg h c11
      refine lv_aload_n hx hb dX16_call_96 rfl (lv_at hl 2 rfl) ?_
      refine va_get (D := (dC, dI)) (ci := 17) (v := .int (sI s8.1 13)) (C := RX16) (T := TX16) (N := 56) hx hb hts hi_dm_X16_call_X16 hown hK hP 0 rfl rfl 52 (by decide) (hts (.fieldLink RX16 409 "TimeMachineModel$Machine" "outcome" "I") (List.mem_of_getElem? (i := 3) rfl)) (fun _ h9 => h9) rfl dX16_call_97 ?_
      refine lv_iconst (v := 1) hx hb dX16_call_100 (by decide) ?_
      refine lv_icmp_ne (tgt := 125) hx hb dX16_call_101 (by decide) (fun c12 => ?_) (fun c12 => ?_)
      · have h := nd_neg h c12
        refine lv_aload_n hx hb dX16_call_125 rfl (lv_at hl 2 rfl) ?_
        refine va_get (D := (dC, dI)) (ci := 17) (v := .ref (a 11)) (C := RX16) (T := TX16) (N := 56) hx hb hts hi_dm_X16_call_X16 hown hK hP 0 rfl rfl 19 (by decide) (hts (.fieldLink RX16 42 "TimeMachineModel$Machine" "x" "[I") (List.mem_of_getElem? (i := 1) rfl)) (fun _ h9 => h9) rfl dX16_call_126 ?_
        refine lv_bipush (v := 32) hx hb dX16_call_129 (by decide) ?_
        refine lv_aload_n hx hb dX16_call_131 rfl (lv_at hl 2 rfl) ?_
        refine va_get (D := (dC, dI)) (ci := 17) (v := .int (sI s8.1 12)) (C := RX16) (T := TX16) (N := 56) hx hb hts hi_dm_X16_call_X16 hown hK hP 0 rfl rfl 51 (by decide) (hts (.fieldLink RX16 232 "TimeMachineModel$Machine" "p" "I") (List.mem_of_getElem? (i := 2) rfl)) (fun _ h9 => h9) rfl dX16_call_132 ?_
        refine lv_imul hx hb dX16_call_135 ?_
        refine lv_bipush (v := 10) hx hb dX16_call_136 (by decide) ?_
        refine lv_iadd hx hb dX16_call_138 ?_
        refine lv_iload_n hx hb dX16_call_139 rfl (lv_at hl 0 rfl) ?_
        obtain ⟨i13, h⟩ := nd_ck_e h
        refine va_iast (i := ((32 * (sI s8.1 12)) + 10)) (x := q7) hx hb hK hP hD hS 11 10 rfl rfl i13 dX16_call_140 (fun H locs hP hD hS => ?_)
        obtain ⟨s14, es14, h⟩ := nd_let_e h
        have hP : va_P (dC, dI) vwCl (dw_X16 a ac s14) H := by rw [es14]; exact hP
        have hD : va_D A (dw_X16 a ac s14) := by rw [es14]; exact hD
        refine lv_aload_n hx hb dX16_call_141 rfl (lv_at hl 2 rfl) ?_
        refine va_get (D := (dC, dI)) (ci := 17) (v := .ref (a 12)) (C := RX16) (T := TX16) (N := 56) hx hb hts hi_dm_X16_call_X16 hown hK hP 0 rfl rfl 20 (by decide) (hts (.fieldLink RX16 45 "TimeMachineModel$Machine" "place" "[I") (List.mem_of_getElem? (i := 8) rfl)) (fun _ h9 => h9) rfl dX16_call_142 ?_
        refine lv_aload_n hx hb dX16_call_145 rfl (lv_at hl 2 rfl) ?_
        refine va_get (D := (dC, dI)) (ci := 17) (v := .int (sI s14.1 12)) (C := RX16) (T := TX16) (N := 56) hx hb hts hi_dm_X16_call_X16 hown hK hP 0 rfl rfl 51 (by decide) (hts (.fieldLink RX16 232 "TimeMachineModel$Machine" "p" "I") (List.mem_of_getElem? (i := 2) rfl)) (fun _ h9 => h9) rfl dX16_call_146 ?_
        refine lv_dup2_11 hx hb dX16_call_149 rfl rfl ?_
        obtain ⟨i15, h⟩ := nd_ck_e h
        refine va_iald (i := (sI s14.1 12)) hx hb hK hP 12 11 rfl rfl i15 dX16_call_150 ?_
        refine lv_iconst (v := 4) hx hb dX16_call_151 (by decide) ?_
        refine lv_iadd hx hb dX16_call_152 ?_
        obtain ⟨i16, h⟩ := nd_ck_e h
        refine va_iast (i := (sI s14.1 12)) (x := ((sR s14.1 10 (Int32.toNatClampNeg (sI s14.1 12))) + 4)) hx hb hK hP hD hS 12 11 rfl rfl i16 dX16_call_153 (fun H locs hP hD hS => ?_)
        obtain ⟨s17, es17, h⟩ := nd_let_e h
        have hP : va_P (dC, dI) vwCl (dw_X16 a ac s17) H := by rw [es17]; exact hP
        have hD : va_D A (dw_X16 a ac s17) := by rw [es17]; exact hD
        refine lv_iload_n hx hb dX16_call_154 rfl (lv_at hl 1 rfl) ?_
        refine lv_bipush (v := 15) hx hb dX16_call_155 (by decide) ?_
        refine lv_icmp_ne (tgt := 164) hx hb dX16_call_157 (by decide) (fun c18 => ?_) (fun c18 => ?_)
        · have h := nd_neg h c18
          exact (db_X16_call_164 C K)  s17 _ _ _ h hP hD hS (lv_sub hl [] rfl)
        · have h := nd_pos h c18
          refine lv_aload_n hx hb dX16_call_160 rfl (lv_at hl 2 rfl) ?_
          obtain ⟨s20, hq, h⟩ := nd_b1_e h
          have hPc := hP
          have hDc := hD
          have hKc := hK
          have hFc := nd_rs hD hS hA
          refine nd_cVv (As := []) (rest := []) (w' := dw_X16 a ac s20) ⟨hx, hb, hml, hown, hts⟩ (fun sz => dm_X16_turn l hlt dC dI a ac n  s17 hq sz) (cwV 0 hts gi_dm_X16_call_1 rfl rfl rfl (by decide +kernel) ⟨Nat.le_of_ble_eq_true rfl, Nat.le_of_ble_eq_true rfl⟩) hPc hDc hKc hS hA hN (va_recv hKc hPc (ci := 17) (q0 := 0) rfl rfl) rfl hl.1 rfl (Nat.le_of_ble_eq_true rfl) dX16_call_161 (fun H locs hP1 hD1 hk1 hS => ?_)
          have hP := hP1
          have hD := hD1.weaken (fun k q _ h => hFc q.1 h)
          exact (db_X16_call_164 C K)  s20 _ _ _ h hP hD hS (lv_sub hl [] rfl)
      · have h := nd_pos h c12
        refine lv_aload_n hx hb dX16_call_104 rfl (lv_at hl 2 rfl) ?_
        refine va_get (D := (dC, dI)) (ci := 17) (v := .ref (a 2)) (C := RX16) (T := TX16) (N := 56) hx hb hts hi_dm_X16_call_X16 hown hK hP 0 rfl rfl 10 (by decide) (hts (.fieldLink RX16 13 "TimeMachineModel$Machine" "state" "[I") (List.mem_of_getElem? (i := 12) rfl)) (fun _ h9 => h9) rfl dX16_call_105 ?_
        refine lv_aload_n hx hb dX16_call_108 rfl (lv_at hl 2 rfl) ?_
        refine va_get (D := (dC, dI)) (ci := 17) (v := .int (sI s8.1 12)) (C := RX16) (T := TX16) (N := 56) hx hb hts hi_dm_X16_call_X16 hown hK hP 0 rfl rfl 51 (by decide) (hts (.fieldLink RX16 232 "TimeMachineModel$Machine" "p" "I") (List.mem_of_getElem? (i := 2) rfl)) (fun _ h9 => h9) rfl dX16_call_109 ?_
        refine lv_iconst (v := 2) hx hb dX16_call_112 (by decide) ?_
        obtain ⟨i22, h⟩ := nd_ck_e h
        refine va_iast (i := (sI s8.1 12)) (x := 2) hx hb hK hP hD hS 2 1 rfl rfl i22 dX16_call_113 (fun H locs hP hD hS => ?_)
        obtain ⟨s23, es23, h⟩ := nd_let_e h
        have hP : va_P (dC, dI) vwCl (dw_X16 a ac s23) H := by rw [es23]; exact hP
        have hD : va_D A (dw_X16 a ac s23) := by rw [es23]; exact hD
        refine lv_aload_n hx hb dX16_call_114 rfl (lv_at hl 2 rfl) ?_
        refine va_get (D := (dC, dI)) (ci := 17) (v := .ref (a 8)) (C := RX16) (T := TX16) (N := 56) hx hb hts hi_dm_X16_call_X16 hown hK hP 0 rfl rfl 16 (by decide) (hts (.fieldLink RX16 31 "TimeMachineModel$Machine" "calling" "[I") (List.mem_of_getElem? (i := 13) rfl)) (fun _ h9 => h9) rfl dX16_call_115 ?_
        refine lv_aload_n hx hb dX16_call_118 rfl (lv_at hl 2 rfl) ?_
        refine va_get (D := (dC, dI)) (ci := 17) (v := .int (sI s23.1 12)) (C := RX16) (T := TX16) (N := 56) hx hb hts hi_dm_X16_call_X16 hown hK hP 0 rfl rfl 51 (by decide) (hts (.fieldLink RX16 232 "TimeMachineModel$Machine" "p" "I") (List.mem_of_getElem? (i := 2) rfl)) (fun _ h9 => h9) rfl dX16_call_119 ?_
        refine lv_iload_n hx hb dX16_call_122 rfl (lv_at hl 1 rfl) ?_
        obtain ⟨i24, h⟩ := nd_ck_e h
        refine va_iast (i := (sI s23.1 12)) (x := z2) hx hb hK hP hD hS 8 7 rfl rfl i24 dX16_call_123 (fun H locs hP hD hS => ?_)
        obtain ⟨s25, es25, h⟩ := nd_let_e h
        have hP : va_P (dC, dI) vwCl (dw_X16 a ac s25) H := by rw [es25]; exact hP
        have hD : va_D A (dw_X16 a ac s25) := by rw [es25]; exact hD
        exact K _ _ _ _ _ dX16_call_124 (Option.some.inj h).symm hP hD hS
    · have h := nd_pos h c11
      refine lv_aload_n hx hb dX16_call_89 rfl (lv_at hl 2 rfl) ?_
      refine lv_bipush (v := 7) hx hb dX16_call_90 (by decide) ?_
      obtain ⟨s27, hq, h⟩ := nd_b1_e h
      have hPc := hP
      have hDc := hD
      have hKc := hK
      have hFc := nd_rs hD hS hA
      refine nd_cVv (As := [.int 7]) (rest := []) (w' := dw_X16 a ac s27) ⟨hx, hb, hml, hown, hts⟩ (fun sz => dm_X16_trap l hlt dC dI a ac n (7) s8 hq sz) (cwV 1 hts gi_dm_X16_call_2 rfl rfl rfl (by decide +kernel) ⟨Nat.le_of_ble_eq_true rfl, Nat.le_of_ble_eq_true rfl⟩) hPc hDc hKc hS hA hN (va_recv hKc hPc (ci := 17) (q0 := 0) rfl rfl) rfl hl.1 rfl (Nat.le_of_ble_eq_true rfl) dX16_call_92 (fun H locs hP1 hD1 hk1 hS => ?_)
      have hP := hP1
      have hD := hD1.weaken (fun k q _ h => hFc q.1 h)
      exact K _ _ _ _ _ dX16_call_95 (Option.some.inj h).symm hP hD hS
  · have h := nd_pos h c10
    exact K _ _ _ _ _ dX16_call_80 (Option.some.inj h).symm hP hD hS
set_option maxHeartbeats 40000000 in
set_option maxRecDepth 100000 in
theorem dm_X16_call (l : Launch) (hlt : l.stackTraces = false) (dC : Nat → ClassId) (dI : Nat → Nat → Nat) (a : Nat → Nat) (ac : Nat → ClassId) (n : Nat) (s0 : St × (St)) {r : St × (St)} (h : df_X16_call n s0 = some r) (sz : Nat) : Met l yX16_call ow_dm_X16_call ({ frames := 5, cells := 0, slots := 0, locals := 123 }) (va_Pc [.ref (a 0)] (fun U => U.heap.size = sz ∧ va_P (dC, dI) vwCl (dw_X16 a ac s0) U.heap ∧ va_K (dC, dI) vwCl (dk_X16 ac) U ∧ va_D (fun _ => True) (dw_X16 a ac s0) ∧ nv_E dI (va_A (dw_X16 a ac s0) sz) U)) (va_Qv (fun _ => True) (fun (_ : Unit) t => va_P (dC, dI) vwCl (dw_X16 a ac r) t.heap ∧ va_K (dC, dI) vwCl (dk_X16 ac) t ∧ va_D (va_A (dw_X16 a ac s0) sz) (dw_X16 a ac r)) (va_A (dw_X16 a ac s0) sz)) 0 0 (va_A (dw_X16 a ac s0) sz) := by
  refine Met.ofW (cc := cX16_call) (maxL := 3) (ret := none) (by decide) rfl ?_
  intro p e s m args below meth c s₁ B hml hv
  obtain ⟨rfl, hsz, hP, hK, hD0, hN⟩ := hv
  have hx := B.exec
  have hb := B.bytes
  have hr := B.returns
  have hts := atoms_spec (ws := ow_dm_X16_call) B.pre
  have hown : s.vm.findClass RX16 = some m.cls := findClass_of_methodNamed B.named
  have hlocks := B.notSynchronized
  subst hsz
  have hD := hD0.self (sz := s.heap.size)
  generalize hAe : va_A (dw_X16 a ac s0) s.heap.size = A at hD hN ⊢
  have hA : ∀ q : Nat, s.heap.size ≤ q → A q := fun q h => by rw [← hAe]; exact Or.inr h
  have hl := lv_entry ([.ref (a 0)]) (n := 3) (Nat.le_of_ble_eq_true rfl)
  rw [lg_entry_eq]
  generalize (lg_sl ([.ref (a 0)]) ++ List.replicate (3 - (lg_sl ([.ref (a 0)])).length) Slot.unset).toArray = ls at hl ⊢
  have hl : lv_has ls 3 [(0, .ref (a 0))] := hl
  exact db_X16_call_0 (dC := dC) (dI := dI) (a := a) (ac := ac) (n := n) (r := r) ⟨hlt, hx, hb, hml, hown, hts, hN, hA, hK⟩ (fun pc τ H locs ls d er hP hD hS => by subst er; exact W.vret hx hb hr (fun t ht hW => ⟨⟨(), rfl, trivial, by rw [ht]; exact hP, va_K.moved hW.alike hK, hD⟩, hS.F ht⟩) hS.2.2 d) s0 _ _ _ h hP hD va_S.rf (lv_sub hl [0] rfl)
def ow_dm_X16_tick : List Cond := Cond.code yX16_tick cX16_tick 3 (some .boolean) :: ([Cond.fieldLink RX16 141 "TimeMachineModel$Machine" "current" "I", Cond.fieldLink RX16 232 "TimeMachineModel$Machine" "p" "I", Cond.fieldLink RX16 222 "TimeMachineModel$Machine" "wrote" "Z", Cond.fieldLink RX16 138 "TimeMachineModel$Machine" "ticked" "I", Cond.fieldLink RX16 135 "TimeMachineModel$Machine" "reserved" "I", Cond.fieldLink RX16 132 "TimeMachineModel$Machine" "count" "I", Cond.methodLink RX16 272 yX16_takeable, Cond.instanceMethod yX16_takeable, Cond.selects RX16 yX16_takeable yX16_takeable, Cond.initialized RX16, Cond.methodLink RX16 288 yX16_step, Cond.instanceMethod yX16_step, Cond.selects RX16 yX16_step yX16_step, Cond.methodLink RX16 172 yX16_settle, Cond.instanceMethod yX16_settle, Cond.selects RX16 yX16_settle yX16_settle, Cond.methodLink RX16 294 yX16_trap, Cond.instanceMethod yX16_trap, Cond.selects RX16 yX16_trap yX16_trap, Cond.methodLink RX16 291 yX16_call, Cond.instanceMethod yX16_call, Cond.selects RX16 yX16_call yX16_call, Cond.fieldLink RX16 22 "TimeMachineModel$Machine" "pending" "[I", Cond.fieldLink RX16 54 "TimeMachineModel$Machine" "handler" "[I", Cond.methodLink RX16 285 yX16_enter, Cond.instanceMethod yX16_enter, Cond.selects RX16 yX16_enter yX16_enter, Cond.methodLink RX16 282 yX16_end, Cond.instanceMethod yX16_end, Cond.selects RX16 yX16_end yX16_end] ++ (u_ws RX16 TX16 56 ++ (ow_dm_X16_takeable ++ (ow_dm_X16_step ++ (ow_dm_X16_settle ++ (ow_dm_X16_trap ++ (ow_dm_X16_call ++ (ow_dm_X16_enter ++ (ow_dm_X16_end ++ [])))))))))
theorem gd_dm_X16_tick : ∀ w ∈ ow_dm_X16_tick, (w.onTables && w.keeps) = true ∨ ∃ ty, w = Cond.arrayClass ty := List.forall_mem_cons.mpr ⟨good_of_word rfl, List.forall_mem_append.mpr ⟨fun w h => good_of_word (List.all_eq_true.mp (by decide +kernel) w h), List.forall_mem_append.mpr ⟨gu_X16, List.forall_mem_append.mpr ⟨gd_dm_X16_takeable, List.forall_mem_append.mpr ⟨gd_dm_X16_step, List.forall_mem_append.mpr ⟨gd_dm_X16_settle, List.forall_mem_append.mpr ⟨gd_dm_X16_trap, List.forall_mem_append.mpr ⟨gd_dm_X16_call, List.forall_mem_append.mpr ⟨gd_dm_X16_enter, List.forall_mem_append.mpr ⟨gd_dm_X16_end, fun _ h => nomatch h⟩⟩⟩⟩⟩⟩⟩⟩⟩⟩
theorem hi_dm_X16_tick_X16 : ∀ w ∈ u_ws RX16 TX16 56, w ∈ ow_dm_X16_tick := fun w h => List.mem_cons_of_mem _ (List.mem_append_right _ (List.mem_append_left _ h))
theorem gi_dm_X16_tick_0 : GoodIn ow_dm_X16_tick (wsV RX16 272 RX16 yX16_takeable ow_dm_X16_takeable) := goodIn_app (goodIn_of _ (by decide +kernel)) (fun w h => ⟨List.mem_cons_of_mem _ (List.mem_append_right _ (List.mem_append_right _ (List.mem_append_left _ h))), gd_dm_X16_takeable w h⟩)
theorem gi_dm_X16_tick_1 : GoodIn ow_dm_X16_tick (wsV RX16 288 RX16 yX16_step ow_dm_X16_step) := goodIn_app (goodIn_of _ (by decide +kernel)) (fun w h => ⟨List.mem_cons_of_mem _ (List.mem_append_right _ (List.mem_append_right _ (List.mem_append_right _ (List.mem_append_left _ h)))), gd_dm_X16_step w h⟩)
theorem gi_dm_X16_tick_2 : GoodIn ow_dm_X16_tick (wsV RX16 172 RX16 yX16_settle ow_dm_X16_settle) := goodIn_app (goodIn_of _ (by decide +kernel)) (fun w h => ⟨List.mem_cons_of_mem _ (List.mem_append_right _ (List.mem_append_right _ (List.mem_append_right _ (List.mem_append_right _ (List.mem_append_left _ h))))), gd_dm_X16_settle w h⟩)
theorem gi_dm_X16_tick_3 : GoodIn ow_dm_X16_tick (wsV RX16 294 RX16 yX16_trap ow_dm_X16_trap) := goodIn_app (goodIn_of _ (by decide +kernel)) (fun w h => ⟨List.mem_cons_of_mem _ (List.mem_append_right _ (List.mem_append_right _ (List.mem_append_right _ (List.mem_append_right _ (List.mem_append_right _ (List.mem_append_left _ h)))))), gd_dm_X16_trap w h⟩)
theorem gi_dm_X16_tick_4 : GoodIn ow_dm_X16_tick (wsV RX16 291 RX16 yX16_call ow_dm_X16_call) := goodIn_app (goodIn_of _ (by decide +kernel)) (fun w h => ⟨List.mem_cons_of_mem _ (List.mem_append_right _ (List.mem_append_right _ (List.mem_append_right _ (List.mem_append_right _ (List.mem_append_right _ (List.mem_append_right _ (List.mem_append_left _ h))))))), gd_dm_X16_call w h⟩)
theorem gi_dm_X16_tick_5 : GoodIn ow_dm_X16_tick (wsV RX16 285 RX16 yX16_enter ow_dm_X16_enter) := goodIn_app (goodIn_of _ (by decide +kernel)) (fun w h => ⟨List.mem_cons_of_mem _ (List.mem_append_right _ (List.mem_append_right _ (List.mem_append_right _ (List.mem_append_right _ (List.mem_append_right _ (List.mem_append_right _ (List.mem_append_right _ (List.mem_append_left _ h)))))))), gd_dm_X16_enter w h⟩)
theorem gi_dm_X16_tick_6 : GoodIn ow_dm_X16_tick (wsV RX16 282 RX16 yX16_end ow_dm_X16_end) := goodIn_app (goodIn_of _ (by decide +kernel)) (fun w h => ⟨List.mem_cons_of_mem _ (List.mem_append_right _ (List.mem_append_right _ (List.mem_append_right _ (List.mem_append_right _ (List.mem_append_right _ (List.mem_append_right _ (List.mem_append_right _ (List.mem_append_right _ (List.mem_append_left _ h))))))))), gd_dm_X16_end w h⟩)
def dj_X16_tick_186 (p : Program) (l : Launch) (e : Env) (s : State) (m : MethodId) (args : Array Value) (below : List Frame) (meth : Method) (c : Code) (Q : State → Prop) (A : Nat → Prop) (dC : Nat → ClassId) (dI : Nat → Nat → Nat) (a : Nat → Nat) (ac : Nat → ClassId) (g : (St × (St)) → Option (Int32 × (St × (St)))) (r : Int32 × (St × (St))) : Prop := ∀ (s0 : St × (St)) (H : Heap) (locs : List Loc) (ls : Array Slot), g s0 = some r → va_P (dC, dI) vwCl (dw_X16 a ac s0) H → va_D A (dw_X16 a ac s0) → va_S A s.heap H locs → lv_has ls 3 [(0, .ref (a 0))] → W p l e (headSpec ow_dm_X16_tick ({ frames := 7, cells := 0, slots := 0, locals := 161 })).room s m args below meth c H locs 0 0 Q (F0 m 186 ls [])
def dj_X16_tick_183 (p : Program) (l : Launch) (e : Env) (s : State) (m : MethodId) (args : Array Value) (below : List Frame) (meth : Method) (c : Code) (Q : State → Prop) (A : Nat → Prop) (dC : Nat → ClassId) (dI : Nat → Nat → Nat) (a : Nat → Nat) (ac : Nat → ClassId) (g : Int32 → (St × (St)) → Option (Int32 × (St × (St)))) (r : Int32 × (St × (St))) : Prop := ∀ (y1 : Int32) (s0 : St × (St)) (H : Heap) (locs : List Loc) (ls : Array Slot), g y1 s0 = some r → va_P (dC, dI) vwCl (dw_X16 a ac s0) H → va_D A (dw_X16 a ac s0) → va_S A s.heap H locs → lv_has ls 3 [(0, .ref (a 0))] → W p l e (headSpec ow_dm_X16_tick ({ frames := 7, cells := 0, slots := 0, locals := 161 })).room s m args below meth c H locs 0 0 Q (F0 m 183 ls [.int y1, .ref (a 0)])
def dj_X16_tick_176 (p : Program) (l : Launch) (e : Env) (s : State) (m : MethodId) (args : Array Value) (below : List Frame) (meth : Method) (c : Code) (Q : State → Prop) (A : Nat → Prop) (dC : Nat → ClassId) (dI : Nat → Nat → Nat) (a : Nat → Nat) (ac : Nat → ClassId) (g : (St × (St)) → Option (Int32 × (St × (St)))) (r : Int32 × (St × (St))) : Prop := ∀ (s0 : St × (St)) (H : Heap) (locs : List Loc) (ls : Array Slot), g s0 = some r → va_P (dC, dI) vwCl (dw_X16 a ac s0) H → va_D A (dw_X16 a ac s0) → va_S A s.heap H locs → lv_has ls 3 [(0, .ref (a 0))] → W p l e (headSpec ow_dm_X16_tick ({ frames := 7, cells := 0, slots := 0, locals := 161 })).room s m args below meth c H locs 0 0 Q (F0 m 176 ls [.ref (a 0)])
def dj_X16_tick_33 (p : Program) (l : Launch) (e : Env) (s : State) (m : MethodId) (args : Array Value) (below : List Frame) (meth : Method) (c : Code) (Q : State → Prop) (A : Nat → Prop) (dC : Nat → ClassId) (dI : Nat → Nat → Nat) (a : Nat → Nat) (ac : Nat → ClassId) (g : Int32 → (St × (St)) → Option (Int32 × (St × (St)))) (r : Int32 × (St × (St))) : Prop := ∀ (y1 : Int32) (s0 : St × (St)) (H : Heap) (locs : List Loc) (ls : Array Slot), g y1 s0 = some r → va_P (dC, dI) vwCl (dw_X16 a ac s0) H → va_D A (dw_X16 a ac s0) → va_S A s.heap H locs → lv_has ls 3 [(0, .ref (a 0))] → W p l e (headSpec ow_dm_X16_tick ({ frames := 7, cells := 0, slots := 0, locals := 161 })).room s m args below meth c H locs 0 0 Q (F0 m 33 ls [.int y1, .ref (a 0)])
def dj_X16_tick_0 (p : Program) (l : Launch) (e : Env) (s : State) (m : MethodId) (args : Array Value) (below : List Frame) (meth : Method) (c : Code) (Q : State → Prop) (A : Nat → Prop) (dC : Nat → ClassId) (dI : Nat → Nat → Nat) (a : Nat → Nat) (ac : Nat → ClassId) (g : (St × (St)) → Option (Int32 × (St × (St)))) (r : Int32 × (St × (St))) : Prop := ∀ (s0 : St × (St)) (H : Heap) (locs : List Loc) (ls : Array Slot), g s0 = some r → va_P (dC, dI) vwCl (dw_X16 a ac s0) H → va_D A (dw_X16 a ac s0) → va_S A s.heap H locs → lv_has ls 3 [(0, .ref (a 0))] → W p l e (headSpec ow_dm_X16_tick ({ frames := 7, cells := 0, slots := 0, locals := 161 })).room s m args below meth c H locs 0 0 Q (F0 m 0 ls [])
set_option maxHeartbeats 40000000 in
set_option maxRecDepth 100000 in
theorem db_X16_tick_186 {p : Program} {l : Launch} {e : Env} {s : State} {m : MethodId} {args : Array Value} {below : List Frame} {meth : Method} {c : Code} {Q : State → Prop} {A : Nat → Prop} {dC : Nat → ClassId} {dI : Nat → Nat → Nat} {a : Nat → Nat} {ac : Nat → ClassId} {n : Nat} {r : Int32 × (St × (St))} (C : nd_C p l s m args c A (dC, dI) cX16_tick 3 RX16 ow_dm_X16_tick (dk_X16 ac)) (K : nd_Ki p l e (headSpec ow_dm_X16_tick ({ frames := 7, cells := 0, slots := 0, locals := 161 })).room s m args below meth c Q A (dC, dI) cX16_tick .boolean (St × (St)) (dw_X16 a ac) r) : dj_X16_tick_186 p l e s m args below meth c Q A dC dI a ac (df_X16_tick_186 n) r := by
  obtain ⟨hlt, hx, hb, hml, hown, hts, hN, hA, hK⟩ := id C
  intro s0 H locs ls h hP hD hS hl
  unfold df_X16_tick_186 at h
  refine lv_aload_n hx hb dX16_tick_186 rfl (lv_at hl 0 rfl) ?_
  obtain ⟨s17, hq, h⟩ := nd_b1_e h
  have hPc := hP
  have hDc := hD
  have hKc := hK
  have hFc := nd_rs hD hS hA
  refine nd_cVv (As := []) (rest := []) (w' := dw_X16 a ac s17) ⟨hx, hb, hml, hown, hts⟩ (fun sz => dm_X16_settle l hlt dC dI a ac n  s0 hq sz) (cwV 0 hts gi_dm_X16_tick_2 rfl rfl rfl (by decide +kernel) ⟨Nat.le_of_ble_eq_true rfl, Nat.le_of_ble_eq_true rfl⟩) hPc hDc hKc hS hA hN (va_recv hKc hPc (ci := 17) (q0 := 0) rfl rfl) rfl hl.1 rfl (Nat.le_of_ble_eq_true rfl) dX16_tick_187 (fun H locs hP1 hD1 hk1 hS => ?_)
  have hP := hP1
  have hD := hD1.weaken (fun k q _ h => hFc q.1 h)
  refine lv_aload_n hx hb dX16_tick_190 rfl (lv_at hl 0 rfl) ?_
  refine va_get (D := (dC, dI)) (ci := 17) (v := .int (sI s17.1 16)) (C := RX16) (T := TX16) (N := 56) hx hb hts hi_dm_X16_tick_X16 hown hK hP 0 rfl rfl 55 (by decide) (hts (.fieldLink RX16 222 "TimeMachineModel$Machine" "wrote" "Z") (List.mem_of_getElem? (i := 3) rfl)) (fun _ h9 => h9) rfl dX16_tick_191 ?_
  obtain ⟨n19, h⟩ := nd_z_e ⟨_, rfl⟩ h
  exact K _ _ _ _ _ _ dX16_tick_194 n19 (Option.some.inj h).symm hP hD hS
set_option maxHeartbeats 40000000 in
set_option maxRecDepth 100000 in
theorem db_X16_tick_183 {p : Program} {l : Launch} {e : Env} {s : State} {m : MethodId} {args : Array Value} {below : List Frame} {meth : Method} {c : Code} {Q : State → Prop} {A : Nat → Prop} {dC : Nat → ClassId} {dI : Nat → Nat → Nat} {a : Nat → Nat} {ac : Nat → ClassId} {n : Nat} {r : Int32 × (St × (St))} (C : nd_C p l s m args c A (dC, dI) cX16_tick 3 RX16 ow_dm_X16_tick (dk_X16 ac)) (K : nd_Ki p l e (headSpec ow_dm_X16_tick ({ frames := 7, cells := 0, slots := 0, locals := 161 })).room s m args below meth c Q A (dC, dI) cX16_tick .boolean (St × (St)) (dw_X16 a ac) r) : dj_X16_tick_183 p l e s m args below meth c Q A dC dI a ac (df_X16_tick_183 n) r := by
  obtain ⟨hlt, hx, hb, hml, hown, hts, hN, hA, hK⟩ := id C
  intro y1 s0 H locs ls h hP hD hS hl
  unfold df_X16_tick_183 at h
  obtain ⟨s24, hq, h⟩ := nd_b1_e h
  have hPc := hP
  have hDc := hD
  have hKc := hK
  have hFc := nd_rs hD hS hA
  refine nd_cVv (As := [.int y1]) (rest := []) (w' := dw_X16 a ac s24) ⟨hx, hb, hml, hown, hts⟩ (fun sz => dm_X16_trap l hlt dC dI a ac n (y1) s0 hq sz) (cwV 1 hts gi_dm_X16_tick_3 rfl rfl rfl (by decide +kernel) ⟨Nat.le_of_ble_eq_true rfl, Nat.le_of_ble_eq_true rfl⟩) hPc hDc hKc hS hA hN (va_recv hKc hPc (ci := 17) (q0 := 0) rfl rfl) rfl hl.1 rfl (Nat.le_of_ble_eq_true rfl) dX16_tick_183 (fun H locs hP1 hD1 hk1 hS => ?_)
  have hP := hP1
  have hD := hD1.weaken (fun k q _ h => hFc q.1 h)
  exact (db_X16_tick_186 C K)  s24 _ _ _ h hP hD hS (lv_sub hl [0] rfl)
set_option maxHeartbeats 40000000 in
set_option maxRecDepth 100000 in
theorem db_X16_tick_176 {p : Program} {l : Launch} {e : Env} {s : State} {m : MethodId} {args : Array Value} {below : List Frame} {meth : Method} {c : Code} {Q : State → Prop} {A : Nat → Prop} {dC : Nat → ClassId} {dI : Nat → Nat → Nat} {a : Nat → Nat} {ac : Nat → ClassId} {n : Nat} {r : Int32 × (St × (St))} (C : nd_C p l s m args c A (dC, dI) cX16_tick 3 RX16 ow_dm_X16_tick (dk_X16 ac)) (K : nd_Ki p l e (headSpec ow_dm_X16_tick ({ frames := 7, cells := 0, slots := 0, locals := 161 })).room s m args below meth c Q A (dC, dI) cX16_tick .boolean (St × (St)) (dw_X16 a ac) r) : dj_X16_tick_176 p l e s m args below meth c Q A dC dI a ac (df_X16_tick_176 n) r := by
  obtain ⟨hlt, hx, hb, hml, hown, hts, hN, hA, hK⟩ := id C
  intro s0 H locs ls h hP hD hS hl
  unfold df_X16_tick_176 at h
  refine lv_bipush (v := 7) hx hb dX16_tick_176 (by decide) ?_
  refine lv_goto (tgt := 183) hx hb dX16_tick_178 (by decide) ?_
  exact (db_X16_tick_183 C K) (7) s0 _ _ _ h hP hD hS (lv_sub hl [0] rfl)

