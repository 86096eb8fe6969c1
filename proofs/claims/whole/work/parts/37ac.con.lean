set_option maxHeartbeats 40000000 in
set_option maxRecDepth 100000 in
theorem dB_X5_read_160 {p : Program} {l : Launch} {e : Env} {s : State} {m : MethodId} {args : Array Value} {below : List Frame} {meth : Method} {c : Code} {Q : State → Prop} {A : Nat → Prop} {dC : Nat → ClassId} {dI : Nat → Nat → Nat} {a : Nat → Nat} {ac : Nat → ClassId} {n : Nat} {r : Int64 × (St × (St × (St × (St))))} (C : nd_C p l s m args c A (dC, dI) cX5_read 8 RX5 ow_dm_X5_read (dk_X5 ac)) (K : nd_Kl p l e (headSpec ow_dm_X5_read ({ frames := 2, cells := 0, slots := 0, locals := 65 })).room s m args below meth c Q A (dC, dI) cX5_read (St × (St × (St × (St)))) (dw_X5 a ac) r) {g160 : Int32 → Int32 → Int32 → Int32 → Int32 → Int32 → (St × (St × (St × (St)))) → Option (Int64 × (St × (St × (St × (St)))))} (J160 : dj_X5_read_160 p l e s m args below meth c Q A dC dI a ac g160 r) : dj_X5_read_160 p l e s m args below meth c Q A dC dI a ac (dF_X5_read_160 n g160) r := by
  obtain ⟨hlt, hx, hb, hml, hown, hts, hN, hA, hK⟩ := id C
  intro x1 x3 x4 x5 x6 x7 s0 H locs ls h hP hD hS hl
  unfold dF_X5_read_160 at h
  refine lv_iload hx hb dX5_read_160 (lv_at hl 6 rfl) ?_
  refine lv_iload hx hb dX5_read_162 (lv_at hl 5 rfl) ?_
  refine lv_icmp_ge (tgt := 199) hx hb dX5_read_164 (by decide) (fun c37 => ?_) (fun c37 => ?_)
  · have h := nd_pos h c37
    refine lv_aload_n hx hb dX5_read_199 rfl (lv_at hl 0 rfl) ?_
    refine va_get (D := (dC, dI)) (ci := 6) (v := .ref (a 4)) (C := RX5) (T := TX5) (N := 8) hx hb hts hi_dm_X5_read_X5 hown hK hP 0 rfl rfl 0 (by decide) (hts (.fieldLink RX5 18 "TimeMachine$Kernel" "machine" "LTimeMachine$Machine;") (List.mem_of_getElem? (i := 2) rfl)) (fun _ h9 => h9) rfl dX5_read_200 ?_
    refine lv_iload_n hx hb dX5_read_203 rfl (lv_at hl 1 rfl) ?_
    refine lv_iload_n hx hb dX5_read_204 rfl (lv_at hl 2 rfl) ?_
    refine lv_iload hx hb dX5_read_205 (lv_at hl 5 rfl) ?_
    obtain ⟨s39, hq, h⟩ := nd_b1_e h
    have hPc := dp_X5_4 hP
    have hDc := dd_X5_4 hD
    have hKc := dy_X5_4 hK
    have hFc := nd_rs hDc hS hA
    have hzA : ∀ q : Nat, H.size ≤ q → A q := fun q h => hA q (Nat.le_trans hS.1 h)
    refine nd_cVv (As := [.int x1, .int x3, .int x6]) (rest := []) (w' := dw_X6 (fun k => a (k + 4)) (fun k => ac (k + 4)) s39) ⟨hx, hb, hml, hown, hts⟩ (fun sz => dm_X6_noteWrite l hlt dC dI (fun k => a (k + 4)) (fun k => ac (k + 4)) n (x1) (x3) (x6) s0.2.2 hq sz) (cwV 3 hts gi_dm_X5_read_7 rfl rfl rfl (by decide +kernel) ⟨Nat.le_of_ble_eq_true rfl, Nat.le_of_ble_eq_true rfl⟩) hPc hDc hKc hS hA hN (va_recv hKc hPc (ci := 7) (q0 := 0) rfl rfl) rfl hl.1 rfl (Nat.le_of_ble_eq_true rfl) dX5_read_207 (fun H locs hP1 hD1 hk1 hS => ?_)
    obtain ⟨hP, hD⟩ := dn_X5_4 hP hD hzA hk1 hP1 hD1
    obtain ⟨s41, es41, h⟩ := nd_let_e h
    have hP : va_P (dC, dI) vwCl (dw_X5 a ac s41) H := by rw [es41]; exact hP
    have hD : va_D A (dw_X5 a ac s41) := by rw [es41]; exact hD
    refine lv_aload_n hx hb dX5_read_210 rfl (lv_at hl 0 rfl) ?_
    refine va_get (D := (dC, dI)) (ci := 6) (v := .ref (a 14)) (C := RX5) (T := TX5) (N := 8) hx hb hts hi_dm_X5_read_X5 hown hK hP 0 rfl rfl 1 (by decide) (hts (.fieldLink RX5 28 "TimeMachine$Kernel" "things" "LTimeMachine$Things;") (List.mem_of_getElem? (i := 7) rfl)) (fun _ h9 => h9) rfl dX5_read_211 ?_
    refine lv_iload hx hb dX5_read_214 (lv_at hl 4 rfl) ?_
    refine lv_iload hx hb dX5_read_216 (lv_at hl 3 rfl) ?_
    refine lv_iload hx hb dX5_read_218 (lv_at hl 5 rfl) ?_
    obtain ⟨s43, hq, h⟩ := nd_b1_e h
    have hPc := dp_X5_14 hP
    have hDc := dd_X5_14 hD
    have hKc := dy_X5_14 hK
    have hFc := nd_rs hDc hS hA
    have hzA : ∀ q : Nat, H.size ≤ q → A q := fun q h => hA q (Nat.le_trans hS.1 h)
    refine nd_cVv (As := [.int x5, .int x4, .int x6]) (rest := []) (w' := dw_X10 (fun k => a (k + 14)) (fun k => ac (k + 14)) s43) ⟨hx, hb, hml, hown, hts⟩ (fun sz => dm_X10_taken l hlt dC dI (fun k => a (k + 14)) (fun k => ac (k + 14)) n (x5) (x4) (x6) s41.2.2.2 hq sz) (cwV 3 hts gi_dm_X5_read_8 rfl rfl rfl (by decide +kernel) ⟨Nat.le_of_ble_eq_true rfl, Nat.le_of_ble_eq_true rfl⟩) hPc hDc hKc hS hA hN (va_recv hKc hPc (ci := 11) (q0 := 0) rfl rfl) rfl hl.1 rfl (Nat.le_of_ble_eq_true rfl) dX5_read_220 (fun H locs hP1 hD1 hk1 hS => ?_)
    obtain ⟨hP, hD⟩ := dn_X5_14 hP hD hzA hk1 hP1 hD1
    obtain ⟨s45, es45, h⟩ := nd_let_e h
    have hP : va_P (dC, dI) vwCl (dw_X5 a ac s45) H := by rw [es45]; exact hP
    have hD : va_D A (dw_X5 a ac s45) := by rw [es45]; exact hD
    refine lv_iload hx hb dX5_read_223 (lv_at hl 5 rfl) ?_
    refine lv_i2l hx hb dX5_read_225 rfl ?_
    exact K _ _ _ _ _ _ dX5_read_226 (Option.some.inj h).symm hP hD hS
  · have h := nd_neg h c37
    refine lv_aload_n hx hb dX5_read_167 rfl (lv_at hl 0 rfl) ?_
    refine va_get (D := (dC, dI)) (ci := 6) (v := .ref (a 4)) (C := RX5) (T := TX5) (N := 8) hx hb hts hi_dm_X5_read_X5 hown hK hP 0 rfl rfl 0 (by decide) (hts (.fieldLink RX5 18 "TimeMachine$Kernel" "machine" "LTimeMachine$Machine;") (List.mem_of_getElem? (i := 2) rfl)) (fun _ h9 => h9) rfl dX5_read_168 ?_
    refine lv_iload_n hx hb dX5_read_171 rfl (lv_at hl 1 rfl) ?_
    refine lv_iload_n hx hb dX5_read_172 rfl (lv_at hl 2 rfl) ?_
    refine lv_iload hx hb dX5_read_173 (lv_at hl 6 rfl) ?_
    refine lv_iadd hx hb dX5_read_175 ?_
    refine lv_sipush (v := 255) hx hb dX5_read_176 (by decide) ?_
    refine lv_aload_n hx hb dX5_read_179 rfl (lv_at hl 0 rfl) ?_
    refine va_get (D := (dC, dI)) (ci := 6) (v := .ref (a 14)) (C := RX5) (T := TX5) (N := 8) hx hb hts hi_dm_X5_read_X5 hown hK hP 0 rfl rfl 1 (by decide) (hts (.fieldLink RX5 28 "TimeMachine$Kernel" "things" "LTimeMachine$Things;") (List.mem_of_getElem? (i := 7) rfl)) (fun _ h9 => h9) rfl dX5_read_180 ?_
    refine lv_iload hx hb dX5_read_183 (lv_at hl 4 rfl) ?_
    refine lv_iload hx hb dX5_read_185 (lv_at hl 6 rfl) ?_
    obtain ⟨q46, s47, hq, h⟩ := nd_b2_e h
    have hPc := dp_X5_14 hP
    have hDc := dd_X5_14 hD
    have hKc := dy_X5_14 hK
    have hFc := nd_rs hDc hS hA
    have hzA : ∀ q : Nat, H.size ≤ q → A q := fun q h => hA q (Nat.le_trans hS.1 h)
    refine nd_cVi (As := [.int x5, .int x7]) (rest := [.int 255, .int (x3 + x7), .int x1, .ref (a 4)]) (q := q46) (w' := dw_X10 (fun k => a (k + 14)) (fun k => ac (k + 14)) s47) ⟨hx, hb, hml, hown, hts⟩ (fun sz => dm_X10_comingByte l hlt dC dI (fun k => a (k + 14)) (fun k => ac (k + 14)) n (x5) (x7) s0.2.2.2 hq sz) (cwV 2 hts gi_dm_X5_read_9 rfl rfl rfl (by decide +kernel) ⟨Nat.le_of_ble_eq_true rfl, Nat.le_of_ble_eq_true rfl⟩) hPc hDc hKc hS hA hN (va_recv hKc hPc (ci := 11) (q0 := 0) rfl rfl) rfl hl.1 rfl (Nat.le_of_ble_eq_true rfl) dX5_read_187 (fun H locs hP1 hD1 hk1 hS => ?_)
    obtain ⟨hP, hD⟩ := dn_X5_14 hP hD hzA hk1 hP1 hD1
    obtain ⟨s49, es49, h⟩ := nd_let_e h
    have hP : va_P (dC, dI) vwCl (dw_X5 a ac s49) H := by rw [es49]; exact hP
    have hD : va_D A (dw_X5 a ac s49) := by rw [es49]; exact hD
    obtain ⟨s51, hq, h⟩ := nd_b1_e h
    have hPc := dp_X5_4 hP
    have hDc := dd_X5_4 hD
    have hKc := dy_X5_4 hK
    have hFc := nd_rs hDc hS hA
    have hzA : ∀ q : Nat, H.size ≤ q → A q := fun q h => hA q (Nat.le_trans hS.1 h)
    refine nd_cVv (As := [.int x1, .int (x3 + x7), .int 255, .int q46]) (rest := []) (w' := dw_X6 (fun k => a (k + 4)) (fun k => ac (k + 4)) s51) ⟨hx, hb, hml, hown, hts⟩ (fun sz => dm_X6_put l hlt dC dI (fun k => a (k + 4)) (fun k => ac (k + 4)) n (x1) ((x3 + x7)) (255) (q46) s49.2.2 hq sz) (cwV 4 hts gi_dm_X5_read_10 rfl rfl rfl (by decide +kernel) ⟨Nat.le_of_ble_eq_true rfl, Nat.le_of_ble_eq_true rfl⟩) hPc hDc hKc hS hA hN (va_recv hKc hPc (ci := 7) (q0 := 0) rfl rfl) rfl hl.1 rfl (Nat.le_of_ble_eq_true rfl) dX5_read_190 (fun H locs hP1 hD1 hk1 hS => ?_)
    obtain ⟨hP, hD⟩ := dn_X5_4 hP hD hzA hk1 hP1 hD1
    obtain ⟨s53, es53, h⟩ := nd_let_e h
    have hP : va_P (dC, dI) vwCl (dw_X5 a ac s53) H := by rw [es53]; exact hP
    have hD : va_D A (dw_X5 a ac s53) := by rw [es53]; exact hD
    obtain ⟨z54, ez54, h⟩ := nd_let_e h
    refine lv_iinc (v := z54) (lv' := [(7, .int z54), (0, .ref (a 0)), (1, .int x1), (3, .int x3), (4, .int x4), (5, .int x5), (6, .int x6)]) hx hb dX5_read_193 hl (k := 6) rfl (by rw [ez54]) (by decide) rfl (fun ls hl => ?_)
    refine lv_goto (tgt := 160) hx hb dX5_read_196 (by decide) ?_
    exact (J160) (x1) (x3) (x4) (x5) (x6) (z54) s53 _ _ _ h hP hD hS (lv_sub hl [1, 2, 3, 4, 5, 6, 0] rfl)
set_option maxHeartbeats 40000000 in
set_option maxRecDepth 100000 in
theorem db_X5_read_160 {p : Program} {l : Launch} {e : Env} {s : State} {m : MethodId} {args : Array Value} {below : List Frame} {meth : Method} {c : Code} {Q : State → Prop} {A : Nat → Prop} {dC : Nat → ClassId} {dI : Nat → Nat → Nat} {a : Nat → Nat} {ac : Nat → ClassId} {n : Nat} {r : Int64 × (St × (St × (St × (St))))} (C : nd_C p l s m args c A (dC, dI) cX5_read 8 RX5 ow_dm_X5_read (dk_X5 ac)) (K : nd_Kl p l e (headSpec ow_dm_X5_read ({ frames := 2, cells := 0, slots := 0, locals := 65 })).room s m args below meth c Q A (dC, dI) cX5_read (St × (St × (St × (St)))) (dw_X5 a ac) r) (k : Nat) : dj_X5_read_160 p l e s m args below meth c Q A dC dI a ac (df_X5_read_160 n k) r := by
  induction k with
  | zero => intro x1 x3 x4 x5 x6 x7 s0 H locs ls h; exact nomatch (show (none : Option (Int64 × (St × (St × (St × (St)))))) = some r from h)
  | succ k ih => exact dB_X5_read_160 C K ih
set_option maxHeartbeats 40000000 in
set_option maxRecDepth 100000 in
theorem db_X5_read_157 {p : Program} {l : Launch} {e : Env} {s : State} {m : MethodId} {args : Array Value} {below : List Frame} {meth : Method} {c : Code} {Q : State → Prop} {A : Nat → Prop} {dC : Nat → ClassId} {dI : Nat → Nat → Nat} {a : Nat → Nat} {ac : Nat → ClassId} {n : Nat} {r : Int64 × (St × (St × (St × (St))))} (C : nd_C p l s m args c A (dC, dI) cX5_read 8 RX5 ow_dm_X5_read (dk_X5 ac)) (K : nd_Kl p l e (headSpec ow_dm_X5_read ({ frames := 2, cells := 0, slots := 0, locals := 65 })).room s m args below meth c Q A (dC, dI) cX5_read (St × (St × (St × (St)))) (dw_X5 a ac) r) : dj_X5_read_157 p l e s m args below meth c Q A dC dI a ac (df_X5_read_157 n) r := by
  obtain ⟨hlt, hx, hb, hml, hown, hts, hN, hA, hK⟩ := id C
  intro x1 x3 x4 x5 x6 s0 H locs ls h hP hD hS hl
  unfold df_X5_read_157 at h
  refine lv_iconst (v := 0) hx hb dX5_read_157 (by decide) ?_
  refine lv_istore (lv' := [(7, .int 0), (0, .ref (a 0)), (1, .int x1), (3, .int x3), (4, .int x4), (5, .int x5), (6, .int x6)]) hx hb dX5_read_158 hl (by decide) rfl (fun ls hl => ?_)
  exact (db_X5_read_160 C K n) (x1) (x3) (x4) (x5) (x6) (0) s0 _ _ _ h hP hD hS (lv_sub hl [1, 2, 3, 4, 5, 6, 0] rfl)
set_option maxHeartbeats 40000000 in
set_option maxRecDepth 100000 in
theorem db_X5_read_0 {p : Program} {l : Launch} {e : Env} {s : State} {m : MethodId} {args : Array Value} {below : List Frame} {meth : Method} {c : Code} {Q : State → Prop} {A : Nat → Prop} {dC : Nat → ClassId} {dI : Nat → Nat → Nat} {a : Nat → Nat} {ac : Nat → ClassId} {n : Nat} {r : Int64 × (St × (St × (St × (St))))} (C : nd_C p l s m args c A (dC, dI) cX5_read 8 RX5 ow_dm_X5_read (dk_X5 ac)) (K : nd_Kl p l e (headSpec ow_dm_X5_read ({ frames := 2, cells := 0, slots := 0, locals := 65 })).room s m args below meth c Q A (dC, dI) cX5_read (St × (St × (St × (St)))) (dw_X5 a ac) r) : dj_X5_read_0 p l e s m args below meth c Q A dC dI a ac (df_X5_read_0 n) r := by
  obtain ⟨hlt, hx, hb, hml, hown, hts, hN, hA, hK⟩ := id C
  intro v0 v1 v2 v3 s0 H locs ls h hP hD hS hl
  unfold df_X5_read_0 at h
  refine lv_iload hx hb dX5_read_0 (lv_at hl 4 rfl) ?_
  refine lv_if_lt (tgt := 13) hx hb dX5_read_2 (by decide) (fun c1 => ?_) (fun c1 => ?_)
  · have h := nd_pos h c1
    exact (db_X5_read_13 C K)  s0 _ _ _ h hP hD hS (lv_sub hl [] rfl)
  · have h := nd_neg h c1
    refine lv_iload hx hb dX5_read_5 (lv_at hl 4 rfl) ?_
    refine lv_sipush (v := 512) hx hb dX5_read_7 (by decide) ?_
    refine lv_icmp_le (tgt := 17) hx hb dX5_read_10 (by decide) (fun c2 => ?_) (fun c2 => ?_)
    · have h := nd_pos h c2
      refine lv_aload_n hx hb dX5_read_17 rfl (lv_at hl 0 rfl) ?_
      refine va_get (D := (dC, dI)) (ci := 6) (v := .ref (a 4)) (C := RX5) (T := TX5) (N := 8) hx hb hts hi_dm_X5_read_X5 hown hK hP 0 rfl rfl 0 (by decide) (hts (.fieldLink RX5 18 "TimeMachine$Kernel" "machine" "LTimeMachine$Machine;") (List.mem_of_getElem? (i := 2) rfl)) (fun _ h9 => h9) rfl dX5_read_18 ?_
      refine lv_iload_n hx hb dX5_read_21 rfl (lv_at hl 1 rfl) ?_
      refine lv_iload_n hx hb dX5_read_22 rfl (lv_at hl 3 rfl) ?_
      refine lv_iload hx hb dX5_read_23 (lv_at hl 4 rfl) ?_
      refine lv_iconst (v := 2) hx hb dX5_read_25 (by decide) ?_
      obtain ⟨q3, s4, hq, h⟩ := nd_b2_e h
      have hPc := dp_X5_4 hP
      have hDc := dd_X5_4 hD
      have hKc := dy_X5_4 hK
      have hFc := nd_rs hDc hS hA
      have hzA : ∀ q : Nat, H.size ≤ q → A q := fun q h => hA q (Nat.le_trans hS.1 h)
      refine nd_cVi (As := [.int v0, .int v2, .int v3, .int 2]) (rest := []) (q := q3) (w' := dw_X6 (fun k => a (k + 4)) (fun k => ac (k + 4)) s4) ⟨hx, hb, hml, hown, hts⟩ (fun sz => dm_X6_mayAll l hlt dC dI (fun k => a (k + 4)) (fun k => ac (k + 4)) n (v0) (v2) (v3) (2) s0.2.2 hq sz) (cwV 4 hts gi_dm_X5_read_0 rfl rfl rfl (by decide +kernel) ⟨Nat.le_of_ble_eq_true rfl, Nat.le_of_ble_eq_true rfl⟩) hPc hDc hKc hS hA hN (va_recv hKc hPc (ci := 7) (q0 := 0) rfl rfl) rfl hl.1 rfl (Nat.le_of_ble_eq_true rfl) dX5_read_26 (fun H locs hP1 hD1 hk1 hS => ?_)
      obtain ⟨hP, hD⟩ := dn_X5_4 hP hD hzA hk1 hP1 hD1
      obtain ⟨s6, es6, h⟩ := nd_let_e h
      have hP : va_P (dC, dI) vwCl (dw_X5 a ac s6) H := by rw [es6]; exact hP
      have hD : va_D A (dw_X5 a ac s6) := by rw [es6]; exact hD
      refine lv_if_ne (tgt := 36) hx hb dX5_read_29 (by decide) (fun c7 => ?_) (fun c7 => ?_)
      · have h := nd_neg h c7
        refine lv_aload_n hx hb dX5_read_36 rfl (lv_at hl 0 rfl) ?_
        refine va_get (D := (dC, dI)) (ci := 6) (v := .ref (a 14)) (C := RX5) (T := TX5) (N := 8) hx hb hts hi_dm_X5_read_X5 hown hK hP 0 rfl rfl 1 (by decide) (hts (.fieldLink RX5 28 "TimeMachine$Kernel" "things" "LTimeMachine$Things;") (List.mem_of_getElem? (i := 7) rfl)) (fun _ h9 => h9) rfl dX5_read_37 ?_
        refine lv_iload_n hx hb dX5_read_40 rfl (lv_at hl 1 rfl) ?_
        refine lv_iload_n hx hb dX5_read_41 rfl (lv_at hl 2 rfl) ?_
        obtain ⟨q8, s9, hq, h⟩ := nd_b2_e h
        have hPc := dp_X5_14 hP
        have hDc := dd_X5_14 hD
        have hKc := dy_X5_14 hK
        have hFc := nd_rs hDc hS hA
        have hzA : ∀ q : Nat, H.size ≤ q → A q := fun q h => hA q (Nat.le_trans hS.1 h)
        refine nd_cVi (As := [.int v0, .int v1]) (rest := []) (q := q8) (w' := dw_X10 (fun k => a (k + 14)) (fun k => ac (k + 14)) s9) ⟨hx, hb, hml, hown, hts⟩ (fun sz => dm_X10_openingOf l hlt dC dI (fun k => a (k + 14)) (fun k => ac (k + 14)) n (v0) (v1) s6.2.2.2 hq sz) (cwV 2 hts gi_dm_X5_read_1 rfl rfl rfl (by decide +kernel) ⟨Nat.le_of_ble_eq_true rfl, Nat.le_of_ble_eq_true rfl⟩) hPc hDc hKc hS hA hN (va_recv hKc hPc (ci := 11) (q0 := 0) rfl rfl) rfl hl.1 rfl (Nat.le_of_ble_eq_true rfl) dX5_read_42 (fun H locs hP1 hD1 hk1 hS => ?_)
        obtain ⟨hP, hD⟩ := dn_X5_14 hP hD hzA hk1 hP1 hD1
        obtain ⟨s11, es11, h⟩ := nd_let_e h
        have hP : va_P (dC, dI) vwCl (dw_X5 a ac s11) H := by rw [es11]; exact hP
        have hD : va_D A (dw_X5 a ac s11) := by rw [es11]; exact hD
        refine lv_istore (lv' := [(5, .int q8), (0, .ref (a 0)), (1, .int v0), (2, .int v1), (3, .int v2), (4, .int v3)]) hx hb dX5_read_45 hl (by decide) rfl (fun ls hl => ?_)
        refine lv_iload hx hb dX5_read_47 (lv_at hl 0 rfl) ?_
        refine lv_if_lt (tgt := 67) hx hb dX5_read_49 (by decide) (fun c12 => ?_) (fun c12 => ?_)
        · have h := nd_pos h c12
          exact (db_X5_read_67 C K)  s11 _ _ _ h hP hD hS (lv_sub hl [] rfl)
        · have h := nd_neg h c12
          refine lv_aload_n hx hb dX5_read_52 rfl (lv_at hl 1 rfl) ?_
          refine va_get (D := (dC, dI)) (ci := 6) (v := .ref (a 14)) (C := RX5) (T := TX5) (N := 8) hx hb hts hi_dm_X5_read_X5 hown hK hP 0 rfl rfl 1 (by decide) (hts (.fieldLink RX5 28 "TimeMachine$Kernel" "things" "LTimeMachine$Things;") (List.mem_of_getElem? (i := 7) rfl)) (fun _ h9 => h9) rfl dX5_read_53 ?_
          refine lv_iload hx hb dX5_read_56 (lv_at hl 0 rfl) ?_
          refine lv_iconst (v := 4) hx hb dX5_read_58 (by decide) ?_
          obtain ⟨q13, s14, hq, h⟩ := nd_b2_e h
          have hPc := dp_X5_14 hP
          have hDc := dd_X5_14 hD
          have hKc := dy_X5_14 hK
          have hFc := nd_rs hDc hS hA
          have hzA : ∀ q : Nat, H.size ≤ q → A q := fun q h => hA q (Nat.le_trans hS.1 h)
          refine nd_cVi (As := [.int q8, .int 4]) (rest := []) (q := q13) (w' := dw_X10 (fun k => a (k + 14)) (fun k => ac (k + 14)) s14) ⟨hx, hb, hml, hown, hts⟩ (fun sz => dm_X10_of l hlt dC dI (fun k => a (k + 14)) (fun k => ac (k + 14)) n (q8) (4) s11.2.2.2 hq sz) (cwV 2 hts gi_dm_X5_read_2 rfl rfl rfl (by decide +kernel) ⟨Nat.le_of_ble_eq_true rfl, Nat.le_of_ble_eq_true rfl⟩) hPc hDc hKc hS hA hN (va_recv hKc hPc (ci := 11) (q0 := 0) rfl rfl) rfl hl.1 rfl (Nat.le_of_ble_eq_true rfl) dX5_read_59 (fun H locs hP1 hD1 hk1 hS => ?_)
          obtain ⟨hP, hD⟩ := dn_X5_14 hP hD hzA hk1 hP1 hD1
          obtain ⟨s16, es16, h⟩ := nd_let_e h
          have hP : va_P (dC, dI) vwCl (dw_X5 a ac s16) H := by rw [es16]; exact hP
          have hD : va_D A (dw_X5 a ac s16) := by rw [es16]; exact hD
          refine lv_iconst (v := 1) hx hb dX5_read_62 (by decide) ?_
          refine lv_iand hx hb dX5_read_63 ?_
          refine lv_if_ne (tgt := 71) hx hb dX5_read_64 (by decide) (fun c17 => ?_) (fun c17 => ?_)
          · have h := nd_neg h c17
            refine lv_aload_n hx hb dX5_read_71 rfl (lv_at hl 1 rfl) ?_
            refine va_get (D := (dC, dI)) (ci := 6) (v := .ref (a 14)) (C := RX5) (T := TX5) (N := 8) hx hb hts hi_dm_X5_read_X5 hown hK hP 0 rfl rfl 1 (by decide) (hts (.fieldLink RX5 28 "TimeMachine$Kernel" "things" "LTimeMachine$Things;") (List.mem_of_getElem? (i := 7) rfl)) (fun _ h9 => h9) rfl dX5_read_72 ?_
            refine lv_iload hx hb dX5_read_75 (lv_at hl 0 rfl) ?_
            refine lv_iload hx hb dX5_read_77 (lv_at hl 5 rfl) ?_
            obtain ⟨q18, s19, hq, h⟩ := nd_b2_e h
            have hPc := dp_X5_14 hP
            have hDc := dd_X5_14 hD
            have hKc := dy_X5_14 hK
            have hFc := nd_rs hDc hS hA
            have hzA : ∀ q : Nat, H.size ≤ q → A q := fun q h => hA q (Nat.le_trans hS.1 h)
            refine nd_cVi (As := [.int q8, .int v3]) (rest := []) (q := q18) (w' := dw_X10 (fun k => a (k + 14)) (fun k => ac (k + 14)) s19) ⟨hx, hb, hml, hown, hts⟩ (fun sz => dm_X10_readWaits l hlt dC dI (fun k => a (k + 14)) (fun k => ac (k + 14)) n (q8) (v3) s16.2.2.2 hq sz) (cwV 2 hts gi_dm_X5_read_3 rfl rfl rfl (by decide +kernel) ⟨Nat.le_of_ble_eq_true rfl, Nat.le_of_ble_eq_true rfl⟩) hPc hDc hKc hS hA hN (va_recv hKc hPc (ci := 11) (q0 := 0) rfl rfl) rfl hl.1 rfl (Nat.le_of_ble_eq_true rfl) dX5_read_79 (fun H locs hP1 hD1 hk1 hS => ?_)
            obtain ⟨hP, hD⟩ := dn_X5_14 hP hD hzA hk1 hP1 hD1
            obtain ⟨s21, es21, h⟩ := nd_let_e h
            have hP : va_P (dC, dI) vwCl (dw_X5 a ac s21) H := by rw [es21]; exact hP
            have hD : va_D A (dw_X5 a ac s21) := by rw [es21]; exact hD
            refine lv_if_eq (tgt := 89) hx hb dX5_read_82 (by decide) (fun c22 => ?_) (fun c22 => ?_)
            · have h := nd_pos h c22
              refine lv_aload_n hx hb dX5_read_89 rfl (lv_at hl 1 rfl) ?_
              refine va_get (D := (dC, dI)) (ci := 6) (v := .ref (a 14)) (C := RX5) (T := TX5) (N := 8) hx hb hts hi_dm_X5_read_X5 hown hK hP 0 rfl rfl 1 (by decide) (hts (.fieldLink RX5 28 "TimeMachine$Kernel" "things" "LTimeMachine$Things;") (List.mem_of_getElem? (i := 7) rfl)) (fun _ h9 => h9) rfl dX5_read_90 ?_
              refine lv_iload hx hb dX5_read_93 (lv_at hl 0 rfl) ?_
              refine lv_iload hx hb dX5_read_95 (lv_at hl 5 rfl) ?_
              obtain ⟨q23, s24, hq, h⟩ := nd_b2_e h
              have hPc := dp_X5_14 hP
              have hDc := dd_X5_14 hD
              have hKc := dy_X5_14 hK
              have hFc := nd_rs hDc hS hA
              have hzA : ∀ q : Nat, H.size ≤ q → A q := fun q h => hA q (Nat.le_trans hS.1 h)
              refine nd_cVi (As := [.int q8, .int v3]) (rest := []) (q := q23) (w' := dw_X10 (fun k => a (k + 14)) (fun k => ac (k + 14)) s24) ⟨hx, hb, hml, hown, hts⟩ (fun sz => dm_X10_coming l hlt dC dI (fun k => a (k + 14)) (fun k => ac (k + 14)) n (q8) (v3) s21.2.2.2 hq sz) (cwV 2 hts gi_dm_X5_read_4 rfl rfl rfl (by decide +kernel) ⟨Nat.le_of_ble_eq_true rfl, Nat.le_of_ble_eq_true rfl⟩) hPc hDc hKc hS hA hN (va_recv hKc hPc (ci := 11) (q0 := 0) rfl rfl) rfl hl.1 rfl (Nat.le_of_ble_eq_true rfl) dX5_read_97 (fun H locs hP1 hD1 hk1 hS => ?_)
              obtain ⟨hP, hD⟩ := dn_X5_14 hP hD hzA hk1 hP1 hD1
              obtain ⟨s26, es26, h⟩ := nd_let_e h
              have hP : va_P (dC, dI) vwCl (dw_X5 a ac s26) H := by rw [es26]; exact hP
              have hD : va_D A (dw_X5 a ac s26) := by rw [es26]; exact hD
              refine lv_istore (lv' := [(6, .int q23), (5, .int q8), (0, .ref (a 0)), (1, .int v0), (2, .int v1), (3, .int v2), (4, .int v3)]) hx hb dX5_read_100 hl (by decide) rfl (fun ls hl => ?_)
              refine lv_aload_n hx hb dX5_read_102 rfl (lv_at hl 2 rfl) ?_
              refine va_get (D := (dC, dI)) (ci := 6) (v := .ref (a 4)) (C := RX5) (T := TX5) (N := 8) hx hb hts hi_dm_X5_read_X5 hown hK hP 0 rfl rfl 0 (by decide) (hts (.fieldLink RX5 18 "TimeMachine$Kernel" "machine" "LTimeMachine$Machine;") (List.mem_of_getElem? (i := 2) rfl)) (fun _ h9 => h9) rfl dX5_read_103 ?_
              refine lv_iload_n hx hb dX5_read_106 rfl (lv_at hl 3 rfl) ?_
              refine lv_iload_n hx hb dX5_read_107 rfl (lv_at hl 5 rfl) ?_
              refine lv_iload hx hb dX5_read_108 (lv_at hl 0 rfl) ?_
              obtain ⟨q27, s28, hq, h⟩ := nd_b2_e h
              have hPc := dp_X5_4 hP
              have hDc := dd_X5_4 hD
              have hKc := dy_X5_4 hK
              have hFc := nd_rs hDc hS hA
              have hzA : ∀ q : Nat, H.size ≤ q → A q := fun q h => hA q (Nat.le_trans hS.1 h)
              refine nd_cVi (As := [.int v0, .int v2, .int q23]) (rest := []) (q := q27) (w' := dw_X6 (fun k => a (k + 4)) (fun k => ac (k + 4)) s28) ⟨hx, hb, hml, hown, hts⟩ (fun sz => dm_X6_framesFor l hlt dC dI (fun k => a (k + 4)) (fun k => ac (k + 4)) n (v0) (v2) (q23) s26.2.2 hq sz) (cwV 3 hts gi_dm_X5_read_5 rfl rfl rfl (by decide +kernel) ⟨Nat.le_of_ble_eq_true rfl, Nat.le_of_ble_eq_true rfl⟩) hPc hDc hKc hS hA hN (va_recv hKc hPc (ci := 7) (q0 := 0) rfl rfl) rfl hl.1 rfl (Nat.le_of_ble_eq_true rfl) dX5_read_110 (fun H locs hP1 hD1 hk1 hS => ?_)
              obtain ⟨hP, hD⟩ := dn_X5_4 hP hD hzA hk1 hP1 hD1
              obtain ⟨s30, es30, h⟩ := nd_let_e h
              have hP : va_P (dC, dI) vwCl (dw_X5 a ac s30) H := by rw [es30]; exact hP
              have hD : va_D A (dw_X5 a ac s30) := by rw [es30]; exact hD
              refine lv_aload_n hx hb dX5_read_113 rfl (lv_at hl 2 rfl) ?_
              refine va_get (D := (dC, dI)) (ci := 6) (v := .ref (a 4)) (C := RX5) (T := TX5) (N := 8) hx hb hts hi_dm_X5_read_X5 hown hK hP 0 rfl rfl 0 (by decide) (hts (.fieldLink RX5 18 "TimeMachine$Kernel" "machine" "LTimeMachine$Machine;") (List.mem_of_getElem? (i := 2) rfl)) (fun _ h9 => h9) rfl dX5_read_114 ?_
              obtain ⟨q31, s32, hq, h⟩ := nd_b2_e h
              have hPc := dp_X5_4 hP
              have hDc := dd_X5_4 hD
              have hKc := dy_X5_4 hK
              have hFc := nd_rs hDc hS hA
              have hzA : ∀ q : Nat, H.size ≤ q → A q := fun q h => hA q (Nat.le_trans hS.1 h)
              refine nd_cVi (As := []) (rest := [.int q27]) (q := q31) (w' := dw_X6 (fun k => a (k + 4)) (fun k => ac (k + 4)) s32) ⟨hx, hb, hml, hown, hts⟩ (fun sz => dm_X6_framesFree l hlt dC dI (fun k => a (k + 4)) (fun k => ac (k + 4)) n  s30.2.2 hq sz) (cwV 0 hts gi_dm_X5_read_6 rfl rfl rfl (by decide +kernel) ⟨Nat.le_of_ble_eq_true rfl, Nat.le_of_ble_eq_true rfl⟩) hPc hDc hKc hS hA hN (va_recv hKc hPc (ci := 7) (q0 := 0) rfl rfl) rfl hl.1 rfl (Nat.le_of_ble_eq_true rfl) dX5_read_117 (fun H locs hP1 hD1 hk1 hS => ?_)
              obtain ⟨hP, hD⟩ := dn_X5_4 hP hD hzA hk1 hP1 hD1
              obtain ⟨s34, es34, h⟩ := nd_let_e h
              have hP : va_P (dC, dI) vwCl (dw_X5 a ac s34) H := by rw [es34]; exact hP
              have hD : va_D A (dw_X5 a ac s34) := by rw [es34]; exact hD
              refine lv_icmp_le (tgt := 127) hx hb dX5_read_120 (by decide) (fun c35 => ?_) (fun c35 => ?_)
              · have h := nd_pos h c35
                refine lv_iload hx hb dX5_read_127 (lv_at hl 0 rfl) ?_
                refine lv_if_le (tgt := 157) hx hb dX5_read_129 (by decide) (fun c36 => ?_) (fun c36 => ?_)
                · have h := nd_pos h c36
                  exact (db_X5_read_157 C K) (v0) (v2) (v3) (q8) (q23) s34 _ _ _ h hP hD hS (lv_sub hl [2, 3, 5, 6, 1, 0] rfl)
                · have h := nd_neg h c36
                  refine lv_aload_n hx hb dX5_read_132 rfl (lv_at hl 2 rfl) ?_
                  refine va_get (D := (dC, dI)) (ci := 6) (v := .ref (a 4)) (C := RX5) (T := TX5) (N := 8) hx hb hts hi_dm_X5_read_X5 hown hK hP 0 rfl rfl 0 (by decide) (hts (.fieldLink RX5 18 "TimeMachine$Kernel" "machine" "LTimeMachine$Machine;") (List.mem_of_getElem? (i := 2) rfl)) (fun _ h9 => h9) rfl dX5_read_133 ?_
                  refine lv_iload_n hx hb dX5_read_136 rfl (lv_at hl 3 rfl) ?_
                  refine lv_iload_n hx hb dX5_read_137 rfl (lv_at hl 5 rfl) ?_
                  obtain ⟨q55, s56, hq, h⟩ := nd_b2_e h
                  have hPc := dp_X5_4 hP
                  have hDc := dd_X5_4 hD
                  have hKc := dy_X5_4 hK
                  have hFc := nd_rs hDc hS hA
                  have hzA : ∀ q : Nat, H.size ≤ q → A q := fun q h => hA q (Nat.le_trans hS.1 h)
                  refine nd_cVi (As := [.int v0, .int v2]) (rest := []) (q := q55) (w' := dw_X6 (fun k => a (k + 4)) (fun k => ac (k + 4)) s56) ⟨hx, hb, hml, hown, hts⟩ (fun sz => dm_X6_own l hlt dC dI (fun k => a (k + 4)) (fun k => ac (k + 4)) n (v0) (v2) s34.2.2 hq sz) (cwV 2 hts gi_dm_X5_read_11 rfl rfl rfl (by decide +kernel) ⟨Nat.le_of_ble_eq_true rfl, Nat.le_of_ble_eq_true rfl⟩) hPc hDc hKc hS hA hN (va_recv hKc hPc (ci := 7) (q0 := 0) rfl rfl) rfl hl.1 rfl (Nat.le_of_ble_eq_true rfl) dX5_read_138 (fun H locs hP1 hD1 hk1 hS => ?_)
                  obtain ⟨hP, hD⟩ := dn_X5_4 hP hD hzA hk1 hP1 hD1
                  obtain ⟨s58, es58, h⟩ := nd_let_e h
                  have hP : va_P (dC, dI) vwCl (dw_X5 a ac s58) H := by rw [es58]; exact hP
                  have hD : va_D A (dw_X5 a ac s58) := by rw [es58]; exact hD
                  refine lv_pop hx hb dX5_read_141 rfl ?_
                  refine lv_aload_n hx hb dX5_read_142 rfl (lv_at hl 2 rfl) ?_
                  refine va_get (D := (dC, dI)) (ci := 6) (v := .ref (a 4)) (C := RX5) (T := TX5) (N := 8) hx hb hts hi_dm_X5_read_X5 hown hK hP 0 rfl rfl 0 (by decide) (hts (.fieldLink RX5 18 "TimeMachine$Kernel" "machine" "LTimeMachine$Machine;") (List.mem_of_getElem? (i := 2) rfl)) (fun _ h9 => h9) rfl dX5_read_143 ?_
                  refine lv_iload_n hx hb dX5_read_146 rfl (lv_at hl 3 rfl) ?_
                  refine lv_iload_n hx hb dX5_read_147 rfl (lv_at hl 5 rfl) ?_
                  refine lv_iload hx hb dX5_read_148 (lv_at hl 0 rfl) ?_
                  refine lv_iadd hx hb dX5_read_150 ?_
                  refine lv_iconst (v := 1) hx hb dX5_read_151 (by decide) ?_
                  refine lv_isub hx hb dX5_read_152 ?_
                  obtain ⟨q59, s60, hq, h⟩ := nd_b2_e h
                  have hPc := dp_X5_4 hP
                  have hDc := dd_X5_4 hD
                  have hKc := dy_X5_4 hK
                  have hFc := nd_rs hDc hS hA
                  have hzA : ∀ q : Nat, H.size ≤ q → A q := fun q h => hA q (Nat.le_trans hS.1 h)
                  refine nd_cVi (As := [.int v0, .int ((v2 + q23) - 1)]) (rest := []) (q := q59) (w' := dw_X6 (fun k => a (k + 4)) (fun k => ac (k + 4)) s60) ⟨hx, hb, hml, hown, hts⟩ (fun sz => dm_X6_own l hlt dC dI (fun k => a (k + 4)) (fun k => ac (k + 4)) n (v0) (((v2 + q23) - 1)) s58.2.2 hq sz) (cwV 2 hts gi_dm_X5_read_11 rfl rfl rfl (by decide +kernel) ⟨Nat.le_of_ble_eq_true rfl, Nat.le_of_ble_eq_true rfl⟩) hPc hDc hKc hS hA hN (va_recv hKc hPc (ci := 7) (q0 := 0) rfl rfl) rfl hl.1 rfl (Nat.le_of_ble_eq_true rfl) dX5_read_153 (fun H locs hP1 hD1 hk1 hS => ?_)
                  obtain ⟨hP, hD⟩ := dn_X5_4 hP hD hzA hk1 hP1 hD1
                  obtain ⟨s62, es62, h⟩ := nd_let_e h
                  have hP : va_P (dC, dI) vwCl (dw_X5 a ac s62) H := by rw [es62]; exact hP
                  have hD : va_D A (dw_X5 a ac s62) := by rw [es62]; exact hD
                  refine lv_pop hx hb dX5_read_156 rfl ?_
                  exact (db_X5_read_157 C K) (v0) (v2) (v3) (q8) (q23) s62 _ _ _ h hP hD hS (lv_sub hl [2, 3, 5, 6, 1, 0] rfl)
              · have h := nd_neg h c35
                refine lv_ldc2 hx hb hown (hts (.constantLong RX5 155 (4398046511104)) (List.mem_of_getElem? (i := 43) rfl)) dX5_read_123 ?_
                exact K _ _ _ _ _ _ dX5_read_126 (Option.some.inj h).symm hP hD hS
            · have h := nd_neg h c22
              refine lv_ldc2 hx hb hown (hts (.constantLong RX5 157 (1099511627776)) (List.mem_of_getElem? (i := 44) rfl)) dX5_read_85 ?_
              exact K _ _ _ _ _ _ dX5_read_88 (Option.some.inj h).symm hP hD hS
          · have h := nd_pos h c17
            exact (db_X5_read_67 C K)  s16 _ _ _ h hP hD hS (lv_sub hl [] rfl)
      · have h := nd_pos h c7
        refine lv_ldc2 hx hb hown (hts (.constantLong RX5 257 (-14)) (List.mem_of_getElem? (i := 45) rfl)) dX5_read_32 ?_
        exact K _ _ _ _ _ _ dX5_read_35 (Option.some.inj h).symm hP hD hS
    · have h := nd_neg h c2
      exact (db_X5_read_13 C K)  s0 _ _ _ h hP hD hS (lv_sub hl [] rfl)
set_option maxHeartbeats 40000000 in
set_option maxRecDepth 100000 in
theorem dm_X5_read (l : Launch) (hlt : l.stackTraces = false) (dC : Nat → ClassId) (dI : Nat → Nat → Nat) (a : Nat → Nat) (ac : Nat → ClassId) (n : Nat) (v0 : Int32) (v1 : Int32) (v2 : Int32) (v3 : Int32) (s0 : St × (St × (St × (St)))) {r : Int64 × (St × (St × (St × (St))))} (h : df_X5_read n v0 v1 v2 v3 s0 = some r) (sz : Nat) : Met l yX5_read ow_dm_X5_read ({ frames := 2, cells := 0, slots := 0, locals := 65 }) (va_Pc [.ref (a 0), .int v0, .int v1, .int v2, .int v3] (fun U => U.heap.size = sz ∧ va_P (dC, dI) vwCl (dw_X5 a ac s0) U.heap ∧ va_K (dC, dI) vwCl (dk_X5 ac) U ∧ va_D (fun _ => True) (dw_X5 a ac s0) ∧ nv_E dI (va_A (dw_X5 a ac s0) sz) U)) (va_Ql (fun x _ => x = r.1) (fun (_ : Unit) t => va_P (dC, dI) vwCl (dw_X5 a ac r.2) t.heap ∧ va_K (dC, dI) vwCl (dk_X5 ac) t ∧ va_D (va_A (dw_X5 a ac s0) sz) (dw_X5 a ac r.2)) (va_A (dw_X5 a ac s0) sz)) 0 0 (va_A (dw_X5 a ac s0) sz) := by
  refine Met.ofW (cc := cX5_read) (maxL := 8) (ret := (some .long)) (by decide) rfl ?_
  intro p e s m args below meth c s₁ B hml hv
  obtain ⟨rfl, hsz, hP, hK, hD0, hN⟩ := hv
  have hx := B.exec
  have hb := B.bytes
  have hr := B.returns
  have hts := atoms_spec (ws := ow_dm_X5_read) B.pre
  have hown : s.vm.findClass RX5 = some m.cls := findClass_of_methodNamed B.named
  have hlocks := B.notSynchronized
  subst hsz
  have hD := hD0.self (sz := s.heap.size)
  generalize hAe : va_A (dw_X5 a ac s0) s.heap.size = A at hD hN ⊢
  have hA : ∀ q : Nat, s.heap.size ≤ q → A q := fun q h => by rw [← hAe]; exact Or.inr h
  have hl := lv_entry ([.ref (a 0), .int v0, .int v1, .int v2, .int v3]) (n := 8) (Nat.le_of_ble_eq_true rfl)
  rw [lg_entry_eq]
  generalize (lg_sl ([.ref (a 0), .int v0, .int v1, .int v2, .int v3]) ++ List.replicate (8 - (lg_sl ([.ref (a 0), .int v0, .int v1, .int v2, .int v3])).length) Slot.unset).toArray = ls at hl ⊢
  have hl : lv_has ls 8 [(0, .ref (a 0)), (1, .int v0), (2, .int v1), (3, .int v2), (4, .int v3)] := hl
  exact db_X5_read_0 (dC := dC) (dI := dI) (a := a) (ac := ac) (n := n) (r := r) ⟨hlt, hx, hb, hml, hown, hts, hN, hA, hK⟩ (fun pc v τ H locs ls d er hP hD hS => by subst er; exact W.lret (v := v) hx hb hr (fun t ht hW => ⟨⟨v, (), rfl, rfl, by rw [ht]; exact hP, va_K.moved hW.alike hK, hD⟩, hS.F ht⟩) hS.2.2 d) v0 v1 v2 v3 s0 _ _ _ h hP hD va_S.rf (lv_sub hl [0, 1, 2, 3, 4] rfl)
def ow_dm_X5_write : List Cond := Cond.code yX5_write cX5_write 10 (some .long) :: ([Cond.constantLong RX5 251 (-22), Cond.fieldLink RX5 18 "TimeMachine$Kernel" "machine" "LTimeMachine$Machine;", Cond.methodLink RX5 253 yX6_mayAll, Cond.instanceMethod yX6_mayAll, Cond.selects RX6 yX6_mayAll yX6_mayAll, Cond.initialized RX6, Cond.fieldLink RX5 28 "TimeMachine$Kernel" "things" "LTimeMachine$Things;", Cond.methodLink RX5 123 yX10_openingOf, Cond.instanceMethod yX10_openingOf, Cond.selects RX10 yX10_openingOf yX10_openingOf, Cond.initialized RX10, Cond.constantLong RX5 294 (-1), Cond.methodLink RX5 291 yX10_of, Cond.instanceMethod yX10_of, Cond.selects RX10 yX10_of yX10_of, Cond.methodLink RX5 305 yX10_isBroken, Cond.instanceMethod yX10_isBroken, Cond.selects RX10 yX10_isBroken yX10_isBroken, Cond.methodLink RX5 130 yX10_writeWaits, Cond.instanceMethod yX10_writeWaits, Cond.selects RX10 yX10_writeWaits yX10_writeWaits, Cond.methodLink RX5 318 yX6_byteAt, Cond.instanceMethod yX6_byteAt, Cond.selects RX6 yX6_byteAt yX6_byteAt, Cond.methodLink RX5 327 yX10_putPiped, Cond.instanceMethod yX10_putPiped, Cond.selects RX10 yX10_putPiped yX10_putPiped, Cond.methodLink RX5 324 yX10_show, Cond.instanceMethod yX10_show, Cond.selects RX10 yX10_show yX10_show, Cond.methodLink RX5 321 yX10_putFiled, Cond.instanceMethod yX10_putFiled, Cond.selects RX10 yX10_putFiled yX10_putFiled, Cond.methodLink RX5 315 yX10_stretch, Cond.instanceMethod yX10_stretch, Cond.selects RX10 yX10_stretch yX10_stretch, Cond.constantLong RX5 157 (1099511627776), Cond.constantLong RX5 313 (-7), Cond.methodLink RX5 310 yX10_writingPlace, Cond.instanceMethod yX10_writingPlace, Cond.selects RX10 yX10_writingPlace yX10_writingPlace, Cond.constantLong RX5 308 (-5), Cond.constantLong RX5 257 (-14)] ++ (u_ws RX5 TX5 8 ++ (ow_dm_X6_mayAll ++ (ow_dm_X10_openingOf ++ (ow_dm_X10_of ++ (ow_dm_X10_isBroken ++ (ow_dm_X10_writeWaits ++ (ow_dm_X6_byteAt ++ (ow_dm_X10_putPiped ++ (ow_dm_X10_show ++ (ow_dm_X10_putFiled ++ (ow_dm_X10_stretch ++ (ow_dm_X10_writingPlace ++ [])))))))))))))
theorem gd_dm_X5_write : ∀ w ∈ ow_dm_X5_write, (w.onTables && w.keeps) = true ∨ ∃ ty, w = Cond.arrayClass ty := List.forall_mem_cons.mpr ⟨good_of_word rfl, List.forall_mem_append.mpr ⟨fun w h => good_of_word (List.all_eq_true.mp (by decide +kernel) w h), List.forall_mem_append.mpr ⟨gu_X5, List.forall_mem_append.mpr ⟨gd_dm_X6_mayAll, List.forall_mem_append.mpr ⟨gd_dm_X10_openingOf, List.forall_mem_append.mpr ⟨gd_dm_X10_of, List.forall_mem_append.mpr ⟨gd_dm_X10_isBroken, List.forall_mem_append.mpr ⟨gd_dm_X10_writeWaits, List.forall_mem_append.mpr ⟨gd_dm_X6_byteAt, List.forall_mem_append.mpr ⟨gd_dm_X10_putPiped, List.forall_mem_append.mpr ⟨gd_dm_X10_show, List.forall_mem_append.mpr ⟨gd_dm_X10_putFiled, List.forall_mem_append.mpr ⟨gd_dm_X10_stretch, List.forall_mem_append.mpr ⟨gd_dm_X10_writingPlace, fun _ h => nomatch h⟩⟩⟩⟩⟩⟩⟩⟩⟩⟩⟩⟩⟩⟩
theorem hi_dm_X5_write_X5 : ∀ w ∈ u_ws RX5 TX5 8, w ∈ ow_dm_X5_write := fun w h => List.mem_cons_of_mem _ (List.mem_append_right _ (List.mem_append_left _ h))
theorem gi_dm_X5_write_0 : GoodIn ow_dm_X5_write (wsV RX5 253 RX6 yX6_mayAll ow_dm_X6_mayAll) := goodIn_app (goodIn_of _ (by decide +kernel)) (fun w h => ⟨List.mem_cons_of_mem _ (List.mem_append_right _ (List.mem_append_right _ (List.mem_append_left _ h))), gd_dm_X6_mayAll w h⟩)
theorem gi_dm_X5_write_1 : GoodIn ow_dm_X5_write (wsV RX5 123 RX10 yX10_openingOf ow_dm_X10_openingOf) := goodIn_app (goodIn_of _ (by decide +kernel)) (fun w h => ⟨List.mem_cons_of_mem _ (List.mem_append_right _ (List.mem_append_right _ (List.mem_append_right _ (List.mem_append_left _ h)))), gd_dm_X10_openingOf w h⟩)
theorem gi_dm_X5_write_2 : GoodIn ow_dm_X5_write (wsV RX5 291 RX10 yX10_of ow_dm_X10_of) := goodIn_app (goodIn_of _ (by decide +kernel)) (fun w h => ⟨List.mem_cons_of_mem _ (List.mem_append_right _ (List.mem_append_right _ (List.mem_append_right _ (List.mem_append_right _ (List.mem_append_left _ h))))), gd_dm_X10_of w h⟩)
theorem gi_dm_X5_write_3 : GoodIn ow_dm_X5_write (wsV RX5 305 RX10 yX10_isBroken ow_dm_X10_isBroken) := goodIn_app (goodIn_of _ (by decide +kernel)) (fun w h => ⟨List.mem_cons_of_mem _ (List.mem_append_right _ (List.mem_append_right _ (List.mem_append_right _ (List.mem_append_right _ (List.mem_append_right _ (List.mem_append_left _ h)))))), gd_dm_X10_isBroken w h⟩)
theorem gi_dm_X5_write_4 : GoodIn ow_dm_X5_write (wsV RX5 130 RX10 yX10_writeWaits ow_dm_X10_writeWaits) := goodIn_app (goodIn_of _ (by decide +kernel)) (fun w h => ⟨List.mem_cons_of_mem _ (List.mem_append_right _ (List.mem_append_right _ (List.mem_append_right _ (List.mem_append_right _ (List.mem_append_right _ (List.mem_append_right _ (List.mem_append_left _ h))))))), gd_dm_X10_writeWaits w h⟩)
theorem gi_dm_X5_write_5 : GoodIn ow_dm_X5_write (wsV RX5 318 RX6 yX6_byteAt ow_dm_X6_byteAt) := goodIn_app (goodIn_of _ (by decide +kernel)) (fun w h => ⟨List.mem_cons_of_mem _ (List.mem_append_right _ (List.mem_append_right _ (List.mem_append_right _ (List.mem_append_right _ (List.mem_append_right _ (List.mem_append_right _ (List.mem_append_right _ (List.mem_append_left _ h)))))))), gd_dm_X6_byteAt w h⟩)
theorem gi_dm_X5_write_6 : GoodIn ow_dm_X5_write (wsV RX5 327 RX10 yX10_putPiped ow_dm_X10_putPiped) := goodIn_app (goodIn_of _ (by decide +kernel)) (fun w h => ⟨List.mem_cons_of_mem _ (List.mem_append_right _ (List.mem_append_right _ (List.mem_append_right _ (List.mem_append_right _ (List.mem_append_right _ (List.mem_append_right _ (List.mem_append_right _ (List.mem_append_right _ (List.mem_append_left _ h))))))))), gd_dm_X10_putPiped w h⟩)
theorem gi_dm_X5_write_7 : GoodIn ow_dm_X5_write (wsV RX5 324 RX10 yX10_show ow_dm_X10_show) := goodIn_app (goodIn_of _ (by decide +kernel)) (fun w h => ⟨List.mem_cons_of_mem _ (List.mem_append_right _ (List.mem_append_right _ (List.mem_append_right _ (List.mem_append_right _ (List.mem_append_right _ (List.mem_append_right _ (List.mem_append_right _ (List.mem_append_right _ (List.mem_append_right _ (List.mem_append_left _ h)))))))))), gd_dm_X10_show w h⟩)
theorem gi_dm_X5_write_8 : GoodIn ow_dm_X5_write (wsV RX5 321 RX10 yX10_putFiled ow_dm_X10_putFiled) := goodIn_app (goodIn_of _ (by decide +kernel)) (fun w h => ⟨List.mem_cons_of_mem _ (List.mem_append_right _ (List.mem_append_right _ (List.mem_append_right _ (List.mem_append_right _ (List.mem_append_right _ (List.mem_append_right _ (List.mem_append_right _ (List.mem_append_right _ (List.mem_append_right _ (List.mem_append_right _ (List.mem_append_left _ h))))))))))), gd_dm_X10_putFiled w h⟩)
theorem gi_dm_X5_write_9 : GoodIn ow_dm_X5_write (wsV RX5 315 RX10 yX10_stretch ow_dm_X10_stretch) := goodIn_app (goodIn_of _ (by decide +kernel)) (fun w h => ⟨List.mem_cons_of_mem _ (List.mem_append_right _ (List.mem_append_right _ (List.mem_append_right _ (List.mem_append_right _ (List.mem_append_right _ (List.mem_append_right _ (List.mem_append_right _ (List.mem_append_right _ (List.mem_append_right _ (List.mem_append_right _ (List.mem_append_right _ (List.mem_append_left _ h)))))))))))), gd_dm_X10_stretch w h⟩)
theorem gi_dm_X5_write_10 : GoodIn ow_dm_X5_write (wsV RX5 310 RX10 yX10_writingPlace ow_dm_X10_writingPlace) := goodIn_app (goodIn_of _ (by decide +kernel)) (fun w h => ⟨List.mem_cons_of_mem _ (List.mem_append_right _ (List.mem_append_right _ (List.mem_append_right _ (List.mem_append_right _ (List.mem_append_right _ (List.mem_append_right _ (List.mem_append_right _ (List.mem_append_right _ (List.mem_append_right _ (List.mem_append_right _ (List.mem_append_right _ (List.mem_append_right _ (List.mem_append_left _ h))))))))))))), gd_dm_X10_writingPlace w h⟩)
def dj_X5_write_13 (p : Program) (l : Launch) (e : Env) (s : State) (m : MethodId) (args : Array Value) (below : List Frame) (meth : Method) (c : Code) (Q : State → Prop) (A : Nat → Prop) (dC : Nat → ClassId) (dI : Nat → Nat → Nat) (a : Nat → Nat) (ac : Nat → ClassId) (g : (St × (St × (St × (St)))) → Option (Int64 × (St × (St × (St × (St)))))) (r : Int64 × (St × (St × (St × (St))))) : Prop := ∀ (s0 : St × (St × (St × (St)))) (H : Heap) (locs : List Loc) (ls : Array Slot), g s0 = some r → va_P (dC, dI) vwCl (dw_X5 a ac s0) H → va_D A (dw_X5 a ac s0) → va_S A s.heap H locs → lv_has ls 10 [] → W p l e (headSpec ow_dm_X5_write ({ frames := 2, cells := 0, slots := 0, locals := 48 })).room s m args below meth c H locs 0 0 Q (F0 m 13 ls [])
def dj_X5_write_67 (p : Program) (l : Launch) (e : Env) (s : State) (m : MethodId) (args : Array Value) (below : List Frame) (meth : Method) (c : Code) (Q : State → Prop) (A : Nat → Prop) (dC : Nat → ClassId) (dI : Nat → Nat → Nat) (a : Nat → Nat) (ac : Nat → ClassId) (g : (St × (St × (St × (St)))) → Option (Int64 × (St × (St × (St × (St)))))) (r : Int64 × (St × (St × (St × (St))))) : Prop := ∀ (s0 : St × (St × (St × (St)))) (H : Heap) (locs : List Loc) (ls : Array Slot), g s0 = some r → va_P (dC, dI) vwCl (dw_X5 a ac s0) H → va_D A (dw_X5 a ac s0) → va_S A s.heap H locs → lv_has ls 10 [] → W p l e (headSpec ow_dm_X5_write ({ frames := 2, cells := 0, slots := 0, locals := 48 })).room s m args below meth c H locs 0 0 Q (F0 m 67 ls [])
def dj_X5_write_260 (p : Program) (l : Launch) (e : Env) (s : State) (m : MethodId) (args : Array Value) (below : List Frame) (meth : Method) (c : Code) (Q : State → Prop) (A : Nat → Prop) (dC : Nat → ClassId) (dI : Nat → Nat → Nat) (a : Nat → Nat) (ac : Nat → ClassId) (g : Int32 → Int32 → Int32 → Int32 → Int32 → Int32 → Int32 → (St × (St × (St × (St)))) → Option (Int64 × (St × (St × (St × (St)))))) (r : Int64 × (St × (St × (St × (St))))) : Prop := ∀ (x1 : Int32) (x3 : Int32) (x4 : Int32) (x5 : Int32) (x6 : Int32) (x7 : Int32) (x8 : Int32) (s0 : St × (St × (St × (St)))) (H : Heap) (locs : List Loc) (ls : Array Slot), g x1 x3 x4 x5 x6 x7 x8 s0 = some r → va_P (dC, dI) vwCl (dw_X5 a ac s0) H → va_D A (dw_X5 a ac s0) → va_S A s.heap H locs → lv_has ls 10 [(0, .ref (a 0)), (1, .int x1), (3, .int x3), (4, .int x4), (5, .int x5), (6, .int x6), (7, .int x7), (8, .int x8)] → W p l e (headSpec ow_dm_X5_write ({ frames := 2, cells := 0, slots := 0, locals := 48 })).room s m args below meth c H locs 0 0 Q (F0 m 260 ls [])
def dj_X5_write_185 (p : Program) (l : Launch) (e : Env) (s : State) (m : MethodId) (args : Array Value) (below : List Frame) (meth : Method) (c : Code) (Q : State → Prop) (A : Nat → Prop) (dC : Nat → ClassId) (dI : Nat → Nat → Nat) (a : Nat → Nat) (ac : Nat → ClassId) (g : Int32 → Int32 → Int32 → Int32 → Int32 → Int32 → Int32 → (St × (St × (St × (St)))) → Option (Int64 × (St × (St × (St × (St)))))) (r : Int64 × (St × (St × (St × (St))))) : Prop := ∀ (x1 : Int32) (x3 : Int32) (x4 : Int32) (x5 : Int32) (x6 : Int32) (x7 : Int32) (x8 : Int32) (s0 : St × (St × (St × (St)))) (H : Heap) (locs : List Loc) (ls : Array Slot), g x1 x3 x4 x5 x6 x7 x8 s0 = some r → va_P (dC, dI) vwCl (dw_X5 a ac s0) H → va_D A (dw_X5 a ac s0) → va_S A s.heap H locs → lv_has ls 10 [(0, .ref (a 0)), (1, .int x1), (3, .int x3), (4, .int x4), (5, .int x5), (6, .int x6), (7, .int x7), (8, .int x8)] → W p l e (headSpec ow_dm_X5_write ({ frames := 2, cells := 0, slots := 0, locals := 48 })).room s m args below meth c H locs 0 0 Q (F0 m 185 ls [])
def dj_X5_write_182 (p : Program) (l : Launch) (e : Env) (s : State) (m : MethodId) (args : Array Value) (below : List Frame) (meth : Method) (c : Code) (Q : State → Prop) (A : Nat → Prop) (dC : Nat → ClassId) (dI : Nat → Nat → Nat) (a : Nat → Nat) (ac : Nat → ClassId) (g : Int32 → Int32 → Int32 → Int32 → Int32 → Int32 → (St × (St × (St × (St)))) → Option (Int64 × (St × (St × (St × (St)))))) (r : Int64 × (St × (St × (St × (St))))) : Prop := ∀ (x1 : Int32) (x3 : Int32) (x4 : Int32) (x5 : Int32) (x6 : Int32) (x7 : Int32) (s0 : St × (St × (St × (St)))) (H : Heap) (locs : List Loc) (ls : Array Slot), g x1 x3 x4 x5 x6 x7 s0 = some r → va_P (dC, dI) vwCl (dw_X5 a ac s0) H → va_D A (dw_X5 a ac s0) → va_S A s.heap H locs → lv_has ls 10 [(0, .ref (a 0)), (1, .int x1), (3, .int x3), (4, .int x4), (5, .int x5), (6, .int x6), (7, .int x7)] → W p l e (headSpec ow_dm_X5_write ({ frames := 2, cells := 0, slots := 0, locals := 48 })).room s m args below meth c H locs 0 0 Q (F0 m 182 ls [])
def dj_X5_write_140 (p : Program) (l : Launch) (e : Env) (s : State) (m : MethodId) (args : Array Value) (below : List Frame) (meth : Method) (c : Code) (Q : State → Prop) (A : Nat → Prop) (dC : Nat → ClassId) (dI : Nat → Nat → Nat) (a : Nat → Nat) (ac : Nat → ClassId) (g : Int32 → Int32 → Int32 → Int32 → Int32 → Int32 → (St × (St × (St × (St)))) → Option (Int64 × (St × (St × (St × (St)))))) (r : Int64 × (St × (St × (St × (St))))) : Prop := ∀ (x1 : Int32) (x3 : Int32) (x4 : Int32) (x5 : Int32) (x6 : Int32) (x7 : Int32) (s0 : St × (St × (St × (St)))) (H : Heap) (locs : List Loc) (ls : Array Slot), g x1 x3 x4 x5 x6 x7 s0 = some r → va_P (dC, dI) vwCl (dw_X5 a ac s0) H → va_D A (dw_X5 a ac s0) → va_S A s.heap H locs → lv_has ls 10 [(0, .ref (a 0)), (1, .int x1), (3, .int x3), (4, .int x4), (5, .int x5), (6, .int x6), (7, .int x7)] → W p l e (headSpec ow_dm_X5_write ({ frames := 2, cells := 0, slots := 0, locals := 48 })).room s m args below meth c H locs 0 0 Q (F0 m 140 ls [])
def dj_X5_write_118 (p : Program) (l : Launch) (e : Env) (s : State) (m : MethodId) (args : Array Value) (below : List Frame) (meth : Method) (c : Code) (Q : State → Prop) (A : Nat → Prop) (dC : Nat → ClassId) (dI : Nat → Nat → Nat) (a : Nat → Nat) (ac : Nat → ClassId) (g : Int32 → Int32 → Int32 → Int32 → Int32 → Int32 → (St × (St × (St × (St)))) → Option (Int64 × (St × (St × (St × (St)))))) (r : Int64 × (St × (St × (St × (St))))) : Prop := ∀ (x1 : Int32) (x3 : Int32) (x4 : Int32) (x5 : Int32) (x6 : Int32) (y0 : Int32) (s0 : St × (St × (St × (St)))) (H : Heap) (locs : List Loc) (ls : Array Slot), g x1 x3 x4 x5 x6 y0 s0 = some r → va_P (dC, dI) vwCl (dw_X5 a ac s0) H → va_D A (dw_X5 a ac s0) → va_S A s.heap H locs → lv_has ls 10 [(0, .ref (a 0)), (1, .int x1), (3, .int x3), (4, .int x4), (5, .int x5), (6, .int x6)] → W p l e (headSpec ow_dm_X5_write ({ frames := 2, cells := 0, slots := 0, locals := 48 })).room s m args below meth c H locs 0 0 Q (F0 m 118 ls [.int y0])
def dj_X5_write_0 (p : Program) (l : Launch) (e : Env) (s : State) (m : MethodId) (args : Array Value) (below : List Frame) (meth : Method) (c : Code) (Q : State → Prop) (A : Nat → Prop) (dC : Nat → ClassId) (dI : Nat → Nat → Nat) (a : Nat → Nat) (ac : Nat → ClassId) (g : Int32 → Int32 → Int32 → Int32 → (St × (St × (St × (St)))) → Option (Int64 × (St × (St × (St × (St)))))) (r : Int64 × (St × (St × (St × (St))))) : Prop := ∀ (v0 : Int32) (v1 : Int32) (v2 : Int32) (v3 : Int32) (s0 : St × (St × (St × (St)))) (H : Heap) (locs : List Loc) (ls : Array Slot), g v0 v1 v2 v3 s0 = some r → va_P (dC, dI) vwCl (dw_X5 a ac s0) H → va_D A (dw_X5 a ac s0) → va_S A s.heap H locs → lv_has ls 10 [(0, .ref (a 0)), (1, .int v0), (2, .int v1), (3, .int v2), (4, .int v3)] → W p l e (headSpec ow_dm_X5_write ({ frames := 2, cells := 0, slots := 0, locals := 48 })).room s m args below meth c H locs 0 0 Q (F0 m 0 ls [])
set_option maxHeartbeats 40000000 in
set_option maxRecDepth 100000 in
theorem db_X5_write_13 {p : Program} {l : Launch} {e : Env} {s : State} {m : MethodId} {args : Array Value} {below : List Frame} {meth : Method} {c : Code} {Q : State → Prop} {A : Nat → Prop} {dC : Nat → ClassId} {dI : Nat → Nat → Nat} {a : Nat → Nat} {ac : Nat → ClassId} {n : Nat} {r : Int64 × (St × (St × (St × (St))))} (C : nd_C p l s m args c A (dC, dI) cX5_write 10 RX5 ow_dm_X5_write (dk_X5 ac)) (K : nd_Kl p l e (headSpec ow_dm_X5_write ({ frames := 2, cells := 0, slots := 0, locals := 48 })).room s m args below meth c Q A (dC, dI) cX5_write (St × (St × (St × (St)))) (dw_X5 a ac) r) : dj_X5_write_13 p l e s m args below meth c Q A dC dI a ac (df_X5_write_13 n) r := by
  obtain ⟨hlt, hx, hb, hml, hown, hts, hN, hA, hK⟩ := id C
  intro s0 H locs ls h hP hD hS hl
  unfold df_X5_write_13 at h
  refine lv_ldc2 hx hb hown (hts (.constantLong RX5 251 (-22)) (List.mem_of_getElem? (i := 1) rfl)) dX5_write_13 ?_
  exact K _ _ _ _ _ _ dX5_write_16 (Option.some.inj h).symm hP hD hS
set_option maxHeartbeats 40000000 in
set_option maxRecDepth 100000 in
theorem db_X5_write_67 {p : Program} {l : Launch} {e : Env} {s : State} {m : MethodId} {args : Array Value} {below : List Frame} {meth : Method} {c : Code} {Q : State → Prop} {A : Nat → Prop} {dC : Nat → ClassId} {dI : Nat → Nat → Nat} {a : Nat → Nat} {ac : Nat → ClassId} {n : Nat} {r : Int64 × (St × (St × (St × (St))))} (C : nd_C p l s m args c A (dC, dI) cX5_write 10 RX5 ow_dm_X5_write (dk_X5 ac)) (K : nd_Kl p l e (headSpec ow_dm_X5_write ({ frames := 2, cells := 0, slots := 0, locals := 48 })).room s m args below meth c Q A (dC, dI) cX5_write (St × (St × (St × (St)))) (dw_X5 a ac) r) : dj_X5_write_67 p l e s m args below meth c Q A dC dI a ac (df_X5_write_67 n) r := by
  obtain ⟨hlt, hx, hb, hml, hown, hts, hN, hA, hK⟩ := id C
  intro s0 H locs ls h hP hD hS hl
  unfold df_X5_write_67 at h
  refine lv_ldc2 hx hb hown (hts (.constantLong RX5 294 (-1)) (List.mem_of_getElem? (i := 12) rfl)) dX5_write_67 ?_
  exact K _ _ _ _ _ _ dX5_write_70 (Option.some.inj h).symm hP hD hS
set_option maxHeartbeats 40000000 in
set_option maxRecDepth 100000 in
theorem db_X5_write_260 {p : Program} {l : Launch} {e : Env} {s : State} {m : MethodId} {args : Array Value} {below : List Frame} {meth : Method} {c : Code} {Q : State → Prop} {A : Nat → Prop} {dC : Nat → ClassId} {dI : Nat → Nat → Nat} {a : Nat → Nat} {ac : Nat → ClassId} {n : Nat} {r : Int64 × (St × (St × (St × (St))))} (C : nd_C p l s m args c A (dC, dI) cX5_write 10 RX5 ow_dm_X5_write (dk_X5 ac)) (K : nd_Kl p l e (headSpec ow_dm_X5_write ({ frames := 2, cells := 0, slots := 0, locals := 48 })).room s m args below meth c Q A (dC, dI) cX5_write (St × (St × (St × (St)))) (dw_X5 a ac) r) {g185 : Int32 → Int32 → Int32 → Int32 → Int32 → Int32 → Int32 → (St × (St × (St × (St)))) → Option (Int64 × (St × (St × (St × (St)))))} (J185 : dj_X5_write_185 p l e s m args below meth c Q A dC dI a ac g185 r) : dj_X5_write_260 p l e s m args below meth c Q A dC dI a ac (df_X5_write_260 n g185) r := by
  obtain ⟨hlt, hx, hb, hml, hown, hts, hN, hA, hK⟩ := id C
  intro x1 x3 x4 x5 x6 x7 x8 s0 H locs ls h hP hD hS hl
  unfold df_X5_write_260 at h
  obtain ⟨z46, ez46, h⟩ := nd_let_e h
  refine lv_iinc (v := z46) (lv' := [(8, .int z46), (0, .ref (a 0)), (1, .int x1), (3, .int x3), (4, .int x4), (5, .int x5), (6, .int x6), (7, .int x7)]) hx hb dX5_write_260 hl (k := 7) rfl (by rw [ez46]) (by decide) rfl (fun ls hl => ?_)
  refine lv_goto (tgt := 185) hx hb dX5_write_263 (by decide) ?_
  exact (J185) (x1) (x3) (x4) (x5) (x6) (x7) (z46) s0 _ _ _ h hP hD hS (lv_sub hl [1, 2, 3, 4, 5, 6, 7, 0] rfl)
set_option maxHeartbeats 40000000 in
set_option maxRecDepth 100000 in
theorem dB_X5_write_185 {p : Program} {l : Launch} {e : Env} {s : State} {m : MethodId} {args : Array Value} {below : List Frame} {meth : Method} {c : Code} {Q : State → Prop} {A : Nat → Prop} {dC : Nat → ClassId} {dI : Nat → Nat → Nat} {a : Nat → Nat} {ac : Nat → ClassId} {n : Nat} {r : Int64 × (St × (St × (St × (St))))} (C : nd_C p l s m args c A (dC, dI) cX5_write 10 RX5 ow_dm_X5_write (dk_X5 ac)) (K : nd_Kl p l e (headSpec ow_dm_X5_write ({ frames := 2, cells := 0, slots := 0, locals := 48 })).room s m args below meth c Q A (dC, dI) cX5_write (St × (St × (St × (St)))) (dw_X5 a ac) r) {g185 : Int32 → Int32 → Int32 → Int32 → Int32 → Int32 → Int32 → (St × (St × (St × (St)))) → Option (Int64 × (St × (St × (St × (St)))))} (J185 : dj_X5_write_185 p l e s m args below meth c Q A dC dI a ac g185 r) : dj_X5_write_185 p l e s m args below meth c Q A dC dI a ac (dF_X5_write_185 n g185) r := by
  obtain ⟨hlt, hx, hb, hml, hown, hts, hN, hA, hK⟩ := id C
  intro x1 x3 x4 x5 x6 x7 x8 s0 H locs ls h hP hD hS hl
  unfold dF_X5_write_185 at h
  refine lv_iload hx hb dX5_write_185 (lv_at hl 7 rfl) ?_
  refine lv_iload hx hb dX5_write_187 (lv_at hl 3 rfl) ?_
  refine lv_icmp_ge (tgt := 266) hx hb dX5_write_189 (by decide) (fun c35 => ?_) (fun c35 => ?_)
  · have h := nd_pos h c35
    refine lv_iload hx hb dX5_write_266 (lv_at hl 3 rfl) ?_
    refine lv_i2l hx hb dX5_write_268 rfl ?_
    exact K _ _ _ _ _ _ dX5_write_269 (Option.some.inj h).symm hP hD hS
  · have h := nd_neg h c35
    refine lv_aload_n hx hb dX5_write_192 rfl (lv_at hl 0 rfl) ?_
    refine va_get (D := (dC, dI)) (ci := 6) (v := .ref (a 4)) (C := RX5) (T := TX5) (N := 8) hx hb hts hi_dm_X5_write_X5 hown hK hP 0 rfl rfl 0 (by decide) (hts (.fieldLink RX5 18 "TimeMachine$Kernel" "machine" "LTimeMachine$Machine;") (List.mem_of_getElem? (i := 2) rfl)) (fun _ h9 => h9) rfl dX5_write_193 ?_
    refine lv_iload_n hx hb dX5_write_196 rfl (lv_at hl 1 rfl) ?_
    refine lv_iload_n hx hb dX5_write_197 rfl (lv_at hl 2 rfl) ?_
    refine lv_iload hx hb dX5_write_198 (lv_at hl 7 rfl) ?_
    refine lv_iadd hx hb dX5_write_200 ?_
    obtain ⟨q36, s37, hq, h⟩ := nd_b2_e h
    have hPc := dp_X5_4 hP
    have hDc := dd_X5_4 hD
    have hKc := dy_X5_4 hK
    have hFc := nd_rs hDc hS hA
    have hzA : ∀ q : Nat, H.size ≤ q → A q := fun q h => hA q (Nat.le_trans hS.1 h)
    refine nd_cVi (As := [.int x1, .int (x3 + x8)]) (rest := []) (q := q36) (w' := dw_X6 (fun k => a (k + 4)) (fun k => ac (k + 4)) s37) ⟨hx, hb, hml, hown, hts⟩ (fun sz => dm_X6_byteAt l hlt dC dI (fun k => a (k + 4)) (fun k => ac (k + 4)) n (x1) ((x3 + x8)) s0.2.2 hq sz) (cwV 2 hts gi_dm_X5_write_5 rfl rfl rfl (by decide +kernel) ⟨Nat.le_of_ble_eq_true rfl, Nat.le_of_ble_eq_true rfl⟩) hPc hDc hKc hS hA hN (va_recv hKc hPc (ci := 7) (q0 := 0) rfl rfl) rfl hl.1 rfl (Nat.le_of_ble_eq_true rfl) dX5_write_201 (fun H locs hP1 hD1 hk1 hS => ?_)
    obtain ⟨hP, hD⟩ := dn_X5_4 hP hD hzA hk1 hP1 hD1
    obtain ⟨s39, es39, h⟩ := nd_let_e h
    have hP : va_P (dC, dI) vwCl (dw_X5 a ac s39) H := by rw [es39]; exact hP
    have hD : va_D A (dw_X5 a ac s39) := by rw [es39]; exact hD
    refine lv_istore (lv' := [(9, .int q36), (0, .ref (a 0)), (1, .int x1), (3, .int x3), (4, .int x4), (5, .int x5), (6, .int x6), (7, .int x7), (8, .int x8)]) hx hb dX5_write_204 hl (by decide) rfl (fun ls hl => ?_)
    refine lv_iload hx hb dX5_write_206 (lv_at hl 6 rfl) ?_
    refine lv_iconst (v := 3) hx hb dX5_write_208 (by decide) ?_
    refine lv_icmp_ne (tgt := 231) hx hb dX5_write_209 (by decide) (fun c40 => ?_) (fun c40 => ?_)
    · have h := nd_neg h c40
      refine lv_iload hx hb dX5_write_231 (lv_at hl 6 rfl) ?_
      refine lv_iconst (v := 4) hx hb dX5_write_233 (by decide) ?_
      refine lv_icmp_ne (tgt := 249) hx hb dX5_write_234 (by decide) (fun c41 => ?_) (fun c41 => ?_)
      · have h := nd_neg h c41
        refine lv_aload_n hx hb dX5_write_249 rfl (lv_at hl 1 rfl) ?_
        refine va_get (D := (dC, dI)) (ci := 6) (v := .ref (a 14)) (C := RX5) (T := TX5) (N := 8) hx hb hts hi_dm_X5_write_X5 hown hK hP 0 rfl rfl 1 (by decide) (hts (.fieldLink RX5 28 "TimeMachine$Kernel" "things" "LTimeMachine$Things;") (List.mem_of_getElem? (i := 7) rfl)) (fun _ h9 => h9) rfl dX5_write_250 ?_
        refine lv_iload hx hb dX5_write_253 (lv_at hl 5 rfl) ?_
        refine lv_iload hx hb dX5_write_255 (lv_at hl 0 rfl) ?_
        obtain ⟨s43, hq, h⟩ := nd_b1_e h
        have hPc := dp_X5_14 hP
        have hDc := dd_X5_14 hD
        have hKc := dy_X5_14 hK
        have hFc := nd_rs hDc hS hA
        have hzA : ∀ q : Nat, H.size ≤ q → A q := fun q h => hA q (Nat.le_trans hS.1 h)
        refine nd_cVv (As := [.int x5, .int q36]) (rest := []) (w' := dw_X10 (fun k => a (k + 14)) (fun k => ac (k + 14)) s43) ⟨hx, hb, hml, hown, hts⟩ (fun sz => dm_X10_putPiped l hlt dC dI (fun k => a (k + 14)) (fun k => ac (k + 14)) n (x5) (q36) s39.2.2.2 hq sz) (cwV 2 hts gi_dm_X5_write_6 rfl rfl rfl (by decide +kernel) ⟨Nat.le_of_ble_eq_true rfl, Nat.le_of_ble_eq_true rfl⟩) hPc hDc hKc hS hA hN (va_recv hKc hPc (ci := 11) (q0 := 0) rfl rfl) rfl hl.1 rfl (Nat.le_of_ble_eq_true rfl) dX5_write_257 (fun H locs hP1 hD1 hk1 hS => ?_)
        obtain ⟨hP, hD⟩ := dn_X5_14 hP hD hzA hk1 hP1 hD1
        obtain ⟨s45, es45, h⟩ := nd_let_e h
        have hP : va_P (dC, dI) vwCl (dw_X5 a ac s45) H := by rw [es45]; exact hP
        have hD : va_D A (dw_X5 a ac s45) := by rw [es45]; exact hD
        exact (db_X5_write_260 C K J185) (x1) (x3) (x4) (x5) (x6) (x7) (x8) s45 _ _ _ h hP hD hS (lv_sub hl [1, 2, 3, 4, 5, 6, 7, 8] rfl)
      · have h := nd_pos h c41
        refine lv_aload_n hx hb dX5_write_237 rfl (lv_at hl 1 rfl) ?_
        refine va_get (D := (dC, dI)) (ci := 6) (v := .ref (a 14)) (C := RX5) (T := TX5) (N := 8) hx hb hts hi_dm_X5_write_X5 hown hK hP 0 rfl rfl 1 (by decide) (hts (.fieldLink RX5 28 "TimeMachine$Kernel" "things" "LTimeMachine$Things;") (List.mem_of_getElem? (i := 7) rfl)) (fun _ h9 => h9) rfl dX5_write_238 ?_
        refine lv_iload hx hb dX5_write_241 (lv_at hl 0 rfl) ?_
        obtain ⟨s48, hq, h⟩ := nd_b1_e h
        have hPc := dp_X5_14 hP
        have hDc := dd_X5_14 hD
        have hKc := dy_X5_14 hK
        have hFc := nd_rs hDc hS hA
        have hzA : ∀ q : Nat, H.size ≤ q → A q := fun q h => hA q (Nat.le_trans hS.1 h)
        refine nd_cVv (As := [.int q36]) (rest := []) (w' := dw_X10 (fun k => a (k + 14)) (fun k => ac (k + 14)) s48) ⟨hx, hb, hml, hown, hts⟩ (fun sz => dm_X10_show l hlt dC dI (fun k => a (k + 14)) (fun k => ac (k + 14)) n (q36) s39.2.2.2 hq sz) (cwV 1 hts gi_dm_X5_write_7 rfl rfl rfl (by decide +kernel) ⟨Nat.le_of_ble_eq_true rfl, Nat.le_of_ble_eq_true rfl⟩) hPc hDc hKc hS hA hN (va_recv hKc hPc (ci := 11) (q0 := 0) rfl rfl) rfl hl.1 rfl (Nat.le_of_ble_eq_true rfl) dX5_write_243 (fun H locs hP1 hD1 hk1 hS => ?_)
        obtain ⟨hP, hD⟩ := dn_X5_14 hP hD hzA hk1 hP1 hD1
        obtain ⟨s50, es50, h⟩ := nd_let_e h
        have hP : va_P (dC, dI) vwCl (dw_X5 a ac s50) H := by rw [es50]; exact hP
        have hD : va_D A (dw_X5 a ac s50) := by rw [es50]; exact hD
        refine lv_goto (tgt := 260) hx hb dX5_write_246 (by decide) ?_
        exact (db_X5_write_260 C K J185) (x1) (x3) (x4) (x5) (x6) (x7) (x8) s50 _ _ _ h hP hD hS (lv_sub hl [1, 2, 3, 4, 5, 6, 7, 8] rfl)
    · have h := nd_pos h c40
      refine lv_aload_n hx hb dX5_write_212 rfl (lv_at hl 1 rfl) ?_
      refine va_get (D := (dC, dI)) (ci := 6) (v := .ref (a 14)) (C := RX5) (T := TX5) (N := 8) hx hb hts hi_dm_X5_write_X5 hown hK hP 0 rfl rfl 1 (by decide) (hts (.fieldLink RX5 28 "TimeMachine$Kernel" "things" "LTimeMachine$Things;") (List.mem_of_getElem? (i := 7) rfl)) (fun _ h9 => h9) rfl dX5_write_213 ?_
      refine lv_iload hx hb dX5_write_216 (lv_at hl 5 rfl) ?_
      refine lv_iload hx hb dX5_write_218 (lv_at hl 7 rfl) ?_
      refine lv_iload hx hb dX5_write_220 (lv_at hl 8 rfl) ?_
      refine lv_iadd hx hb dX5_write_222 ?_
      refine lv_iload hx hb dX5_write_223 (lv_at hl 0 rfl) ?_
      obtain ⟨s52, hq, h⟩ := nd_b1_e h
      have hPc := dp_X5_14 hP
      have hDc := dd_X5_14 hD
      have hKc := dy_X5_14 hK
      have hFc := nd_rs hDc hS hA
      have hzA : ∀ q : Nat, H.size ≤ q → A q := fun q h => hA q (Nat.le_trans hS.1 h)
      refine nd_cVv (As := [.int x5, .int (x7 + x8), .int q36]) (rest := []) (w' := dw_X10 (fun k => a (k + 14)) (fun k => ac (k + 14)) s52) ⟨hx, hb, hml, hown, hts⟩ (fun sz => dm_X10_putFiled l hlt dC dI (fun k => a (k + 14)) (fun k => ac (k + 14)) n (x5) ((x7 + x8)) (q36) s39.2.2.2 hq sz) (cwV 3 hts gi_dm_X5_write_8 rfl rfl rfl (by decide +kernel) ⟨Nat.le_of_ble_eq_true rfl, Nat.le_of_ble_eq_true rfl⟩) hPc hDc hKc hS hA hN (va_recv hKc hPc (ci := 11) (q0 := 0) rfl rfl) rfl hl.1 rfl (Nat.le_of_ble_eq_true rfl) dX5_write_225 (fun H locs hP1 hD1 hk1 hS => ?_)
      obtain ⟨hP, hD⟩ := dn_X5_14 hP hD hzA hk1 hP1 hD1
      obtain ⟨s54, es54, h⟩ := nd_let_e h
      have hP : va_P (dC, dI) vwCl (dw_X5 a ac s54) H := by rw [es54]; exact hP
      have hD : va_D A (dw_X5 a ac s54) := by rw [es54]; exact hD
      refine lv_goto (tgt := 260) hx hb dX5_write_228 (by decide) ?_
      exact (db_X5_write_260 C K J185) (x1) (x3) (x4) (x5) (x6) (x7) (x8) s54 _ _ _ h hP hD hS (lv_sub hl [1, 2, 3, 4, 5, 6, 7, 8] rfl)
set_option maxHeartbeats 40000000 in
set_option maxRecDepth 100000 in
theorem db_X5_write_185 {p : Program} {l : Launch} {e : Env} {s : State} {m : MethodId} {args : Array Value} {below : List Frame} {meth : Method} {c : Code} {Q : State → Prop} {A : Nat → Prop} {dC : Nat → ClassId} {dI : Nat → Nat → Nat} {a : Nat → Nat} {ac : Nat → ClassId} {n : Nat} {r : Int64 × (St × (St × (St × (St))))} (C : nd_C p l s m args c A (dC, dI) cX5_write 10 RX5 ow_dm_X5_write (dk_X5 ac)) (K : nd_Kl p l e (headSpec ow_dm_X5_write ({ frames := 2, cells := 0, slots := 0, locals := 48 })).room s m args below meth c Q A (dC, dI) cX5_write (St × (St × (St × (St)))) (dw_X5 a ac) r) (k : Nat) : dj_X5_write_185 p l e s m args below meth c Q A dC dI a ac (df_X5_write_185 n k) r := by
  induction k with
  | zero => intro x1 x3 x4 x5 x6 x7 x8 s0 H locs ls h; exact nomatch (show (none : Option (Int64 × (St × (St × (St × (St)))))) = some r from h)
  | succ k ih => exact dB_X5_write_185 C K ih
set_option maxHeartbeats 40000000 in
set_option maxRecDepth 100000 in
theorem db_X5_write_182 {p : Program} {l : Launch} {e : Env} {s : State} {m : MethodId} {args : Array Value} {below : List Frame} {meth : Method} {c : Code} {Q : State → Prop} {A : Nat → Prop} {dC : Nat → ClassId} {dI : Nat → Nat → Nat} {a : Nat → Nat} {ac : Nat → ClassId} {n : Nat} {r : Int64 × (St × (St × (St × (St))))} (C : nd_C p l s m args c A (dC, dI) cX5_write 10 RX5 ow_dm_X5_write (dk_X5 ac)) (K : nd_Kl p l e (headSpec ow_dm_X5_write ({ frames := 2, cells := 0, slots := 0, locals := 48 })).room s m args below meth c Q A (dC, dI) cX5_write (St × (St × (St × (St)))) (dw_X5 a ac) r) : dj_X5_write_182 p l e s m args below meth c Q A dC dI a ac (df_X5_write_182 n) r := by
  obtain ⟨hlt, hx, hb, hml, hown, hts, hN, hA, hK⟩ := id C
  intro x1 x3 x4 x5 x6 x7 s0 H locs ls h hP hD hS hl
  unfold df_X5_write_182 at h
  refine lv_iconst (v := 0) hx hb dX5_write_182 (by decide) ?_
  refine lv_istore (lv' := [(8, .int 0), (0, .ref (a 0)), (1, .int x1), (3, .int x3), (4, .int x4), (5, .int x5), (6, .int x6), (7, .int x7)]) hx hb dX5_write_183 hl (by decide) rfl (fun ls hl => ?_)
  exact (db_X5_write_185 C K n) (x1) (x3) (x4) (x5) (x6) (x7) (0) s0 _ _ _ h hP hD hS (lv_sub hl [1, 2, 3, 4, 5, 6, 7, 0] rfl)
set_option maxHeartbeats 40000000 in
set_option maxRecDepth 100000 in
theorem db_X5_write_140 {p : Program} {l : Launch} {e : Env} {s : State} {m : MethodId} {args : Array Value} {below : List Frame} {meth : Method} {c : Code} {Q : State → Prop} {A : Nat → Prop} {dC : Nat → ClassId} {dI : Nat → Nat → Nat} {a : Nat → Nat} {ac : Nat → ClassId} {n : Nat} {r : Int64 × (St × (St × (St × (St))))} (C : nd_C p l s m args c A (dC, dI) cX5_write 10 RX5 ow_dm_X5_write (dk_X5 ac)) (K : nd_Kl p l e (headSpec ow_dm_X5_write ({ frames := 2, cells := 0, slots := 0, locals := 48 })).room s m args below meth c Q A (dC, dI) cX5_write (St × (St × (St × (St)))) (dw_X5 a ac) r) : dj_X5_write_140 p l e s m args below meth c Q A dC dI a ac (df_X5_write_140 n) r := by
  obtain ⟨hlt, hx, hb, hml, hown, hts, hN, hA, hK⟩ := id C
  intro x1 x3 x4 x5 x6 x7 s0 H locs ls h hP hD hS hl
  unfold df_X5_write_140 at h
  refine lv_aload_n hx hb dX5_write_140 rfl (lv_at hl 0 rfl) ?_
  refine va_get (D := (dC, dI)) (ci := 6) (v := .ref (a 14)) (C := RX5) (T := TX5) (N := 8) hx hb hts hi_dm_X5_write_X5 hown hK hP 0 rfl rfl 1 (by decide) (hts (.fieldLink RX5 28 "TimeMachine$Kernel" "things" "LTimeMachine$Things;") (List.mem_of_getElem? (i := 7) rfl)) (fun _ h9 => h9) rfl dX5_write_141 ?_
  refine lv_iload hx hb dX5_write_144 (lv_at hl 4 rfl) ?_
  refine lv_iload hx hb dX5_write_146 (lv_at hl 3 rfl) ?_
  obtain ⟨q29, s30, hq, h⟩ := nd_b2_e h
  have hPc := dp_X5_14 hP
  have hDc := dd_X5_14 hD
  have hKc := dy_X5_14 hK
  have hFc := nd_rs hDc hS hA
  have hzA : ∀ q : Nat, H.size ≤ q → A q := fun q h => hA q (Nat.le_trans hS.1 h)
  refine nd_cVi (As := [.int x5, .int x4]) (rest := []) (q := q29) (w' := dw_X10 (fun k => a (k + 14)) (fun k => ac (k + 14)) s30) ⟨hx, hb, hml, hown, hts⟩ (fun sz => dm_X10_writeWaits l hlt dC dI (fun k => a (k + 14)) (fun k => ac (k + 14)) n (x5) (x4) s0.2.2.2 hq sz) (cwV 2 hts gi_dm_X5_write_4 rfl rfl rfl (by decide +kernel) ⟨Nat.le_of_ble_eq_true rfl, Nat.le_of_ble_eq_true rfl⟩) hPc hDc hKc hS hA hN (va_recv hKc hPc (ci := 11) (q0 := 0) rfl rfl) rfl hl.1 rfl (Nat.le_of_ble_eq_true rfl) dX5_write_148 (fun H locs hP1 hD1 hk1 hS => ?_)
  obtain ⟨hP, hD⟩ := dn_X5_14 hP hD hzA hk1 hP1 hD1
  obtain ⟨s32, es32, h⟩ := nd_let_e h
  have hP : va_P (dC, dI) vwCl (dw_X5 a ac s32) H := by rw [es32]; exact hP
  have hD : va_D A (dw_X5 a ac s32) := by rw [es32]; exact hD
  refine lv_if_eq (tgt := 158) hx hb dX5_write_151 (by decide) (fun c33 => ?_) (fun c33 => ?_)
  · have h := nd_pos h c33
    refine lv_iload hx hb dX5_write_158 (lv_at hl 5 rfl) ?_
    refine lv_iconst (v := 3) hx hb dX5_write_160 (by decide) ?_
    refine lv_icmp_ne (tgt := 182) hx hb dX5_write_161 (by decide) (fun c34 => ?_) (fun c34 => ?_)
    · have h := nd_neg h c34
      exact (db_X5_write_182 C K) (x1) (x3) (x4) (x5) (x6) (x7) s32 _ _ _ h hP hD hS (lv_sub hl [0, 1, 2, 3, 4, 5, 6] rfl)
    · have h := nd_pos h c34
      refine lv_iload hx hb dX5_write_164 (lv_at hl 3 rfl) ?_
      refine lv_if_le (tgt := 182) hx hb dX5_write_166 (by decide) (fun c55 => ?_) (fun c55 => ?_)
      · have h := nd_pos h c55
        exact (db_X5_write_182 C K) (x1) (x3) (x4) (x5) (x6) (x7) s32 _ _ _ h hP hD hS (lv_sub hl [0, 1, 2, 3, 4, 5, 6] rfl)
      · have h := nd_neg h c55
        refine lv_aload_n hx hb dX5_write_169 rfl (lv_at hl 0 rfl) ?_
        refine va_get (D := (dC, dI)) (ci := 6) (v := .ref (a 14)) (C := RX5) (T := TX5) (N := 8) hx hb hts hi_dm_X5_write_X5 hown hK hP 0 rfl rfl 1 (by decide) (hts (.fieldLink RX5 28 "TimeMachine$Kernel" "things" "LTimeMachine$Things;") (List.mem_of_getElem? (i := 7) rfl)) (fun _ h9 => h9) rfl dX5_write_170 ?_
        refine lv_iload hx hb dX5_write_173 (lv_at hl 4 rfl) ?_
        refine lv_iload hx hb dX5_write_175 (lv_at hl 6 rfl) ?_
        refine lv_iload hx hb dX5_write_177 (lv_at hl 3 rfl) ?_
        obtain ⟨s57, hq, h⟩ := nd_b1_e h
        have hPc := dp_X5_14 hP
        have hDc := dd_X5_14 hD
        have hKc := dy_X5_14 hK
        have hFc := nd_rs hDc hS hA
        have hzA : ∀ q : Nat, H.size ≤ q → A q := fun q h => hA q (Nat.le_trans hS.1 h)
        refine nd_cVv (As := [.int x5, .int x7, .int x4]) (rest := []) (w' := dw_X10 (fun k => a (k + 14)) (fun k => ac (k + 14)) s57) ⟨hx, hb, hml, hown, hts⟩ (fun sz => dm_X10_stretch l hlt dC dI (fun k => a (k + 14)) (fun k => ac (k + 14)) n (x5) (x7) (x4) s32.2.2.2 hq sz) (cwV 3 hts gi_dm_X5_write_9 rfl rfl rfl (by decide +kernel) ⟨Nat.le_of_ble_eq_true rfl, Nat.le_of_ble_eq_true rfl⟩) hPc hDc hKc hS hA hN (va_recv hKc hPc (ci := 11) (q0 := 0) rfl rfl) rfl hl.1 rfl (Nat.le_of_ble_eq_true rfl) dX5_write_179 (fun H locs hP1 hD1 hk1 hS => ?_)
        obtain ⟨hP, hD⟩ := dn_X5_14 hP hD hzA hk1 hP1 hD1
        obtain ⟨s59, es59, h⟩ := nd_let_e h
        have hP : va_P (dC, dI) vwCl (dw_X5 a ac s59) H := by rw [es59]; exact hP
        have hD : va_D A (dw_X5 a ac s59) := by rw [es59]; exact hD
        exact (db_X5_write_182 C K) (x1) (x3) (x4) (x5) (x6) (x7) s59 _ _ _ h hP hD hS (lv_sub hl [0, 1, 2, 3, 4, 5, 6] rfl)
  · have h := nd_neg h c33
    refine lv_ldc2 hx hb hown (hts (.constantLong RX5 157 (1099511627776)) (List.mem_of_getElem? (i := 37) rfl)) dX5_write_154 ?_
    exact K _ _ _ _ _ _ dX5_write_157 (Option.some.inj h).symm hP hD hS
set_option maxHeartbeats 40000000 in
set_option maxRecDepth 100000 in
theorem db_X5_write_118 {p : Program} {l : Launch} {e : Env} {s : State} {m : MethodId} {args : Array Value} {below : List Frame} {meth : Method} {c : Code} {Q : State → Prop} {A : Nat → Prop} {dC : Nat → ClassId} {dI : Nat → Nat → Nat} {a : Nat → Nat} {ac : Nat → ClassId} {n : Nat} {r : Int64 × (St × (St × (St × (St))))} (C : nd_C p l s m args c A (dC, dI) cX5_write 10 RX5 ow_dm_X5_write (dk_X5 ac)) (K : nd_Kl p l e (headSpec ow_dm_X5_write ({ frames := 2, cells := 0, slots := 0, locals := 48 })).room s m args below meth c Q A (dC, dI) cX5_write (St × (St × (St × (St)))) (dw_X5 a ac) r) : dj_X5_write_118 p l e s m args below meth c Q A dC dI a ac (df_X5_write_118 n) r := by
  obtain ⟨hlt, hx, hb, hml, hown, hts, hN, hA, hK⟩ := id C
  intro x1 x3 x4 x5 x6 y0 s0 H locs ls h hP hD hS hl
  unfold df_X5_write_118 at h
  refine lv_istore (lv' := [(7, .int y0), (0, .ref (a 0)), (1, .int x1), (3, .int x3), (4, .int x4), (5, .int x5), (6, .int x6)]) hx hb dX5_write_118 hl (by decide) rfl (fun ls hl => ?_)
  refine lv_iload hx hb dX5_write_120 (lv_at hl 4 rfl) ?_
  refine lv_if_le (tgt := 140) hx hb dX5_write_122 (by decide) (fun c28 => ?_) (fun c28 => ?_)
  · have h := nd_pos h c28
    exact (db_X5_write_140 C K) (x1) (x3) (x4) (x5) (x6) (y0) s0 _ _ _ h hP hD hS (lv_sub hl [1, 2, 3, 4, 5, 6, 0] rfl)
  · have h := nd_neg h c28
    refine lv_iload hx hb dX5_write_125 (lv_at hl 0 rfl) ?_
    refine lv_iload hx hb dX5_write_127 (lv_at hl 4 rfl) ?_
    refine lv_iadd hx hb dX5_write_129 ?_
    refine lv_sipush (v := 512) hx hb dX5_write_130 (by decide) ?_
    refine lv_icmp_le (tgt := 140) hx hb dX5_write_133 (by decide) (fun c60 => ?_) (fun c60 => ?_)
    · have h := nd_pos h c60
      exact (db_X5_write_140 C K) (x1) (x3) (x4) (x5) (x6) (y0) s0 _ _ _ h hP hD hS (lv_sub hl [1, 2, 3, 4, 5, 6, 0] rfl)
    · have h := nd_neg h c60
      refine lv_ldc2 hx hb hown (hts (.constantLong RX5 313 (-7)) (List.mem_of_getElem? (i := 38) rfl)) dX5_write_136 ?_
      exact K _ _ _ _ _ _ dX5_write_139 (Option.some.inj h).symm hP hD hS
set_option maxHeartbeats 40000000 in
set_option maxRecDepth 100000 in
theorem db_X5_write_0 {p : Program} {l : Launch} {e : Env} {s : State} {m : MethodId} {args : Array Value} {below : List Frame} {meth : Method} {c : Code} {Q : State → Prop} {A : Nat → Prop} {dC : Nat → ClassId} {dI : Nat → Nat → Nat} {a : Nat → Nat} {ac : Nat → ClassId} {n : Nat} {r : Int64 × (St × (St × (St × (St))))} (C : nd_C p l s m args c A (dC, dI) cX5_write 10 RX5 ow_dm_X5_write (dk_X5 ac)) (K : nd_Kl p l e (headSpec ow_dm_X5_write ({ frames := 2, cells := 0, slots := 0, locals := 48 })).room s m args below meth c Q A (dC, dI) cX5_write (St × (St × (St × (St)))) (dw_X5 a ac) r) : dj_X5_write_0 p l e s m args below meth c Q A dC dI a ac (df_X5_write_0 n) r := by
  obtain ⟨hlt, hx, hb, hml, hown, hts, hN, hA, hK⟩ := id C
  intro v0 v1 v2 v3 s0 H locs ls h hP hD hS hl
  unfold df_X5_write_0 at h
  refine lv_iload hx hb dX5_write_0 (lv_at hl 4 rfl) ?_
  refine lv_if_lt (tgt := 13) hx hb dX5_write_2 (by decide) (fun c1 => ?_) (fun c1 => ?_)
  · have h := nd_pos h c1
    exact (db_X5_write_13 C K)  s0 _ _ _ h hP hD hS (lv_sub hl [] rfl)
  · have h := nd_neg h c1
    refine lv_iload hx hb dX5_write_5 (lv_at hl 4 rfl) ?_
    refine lv_sipush (v := 512) hx hb dX5_write_7 (by decide) ?_
    refine lv_icmp_le (tgt := 17) hx hb dX5_write_10 (by decide) (fun c2 => ?_) (fun c2 => ?_)
    · have h := nd_pos h c2
      refine lv_aload_n hx hb dX5_write_17 rfl (lv_at hl 0 rfl) ?_
      refine va_get (D := (dC, dI)) (ci := 6) (v := .ref (a 4)) (C := RX5) (T := TX5) (N := 8) hx hb hts hi_dm_X5_write_X5 hown hK hP 0 rfl rfl 0 (by decide) (hts (.fieldLink RX5 18 "TimeMachine$Kernel" "machine" "LTimeMachine$Machine;") (List.mem_of_getElem? (i := 2) rfl)) (fun _ h9 => h9) rfl dX5_write_18 ?_
      refine lv_iload_n hx hb dX5_write_21 rfl (lv_at hl 1 rfl) ?_
      refine lv_iload_n hx hb dX5_write_22 rfl (lv_at hl 3 rfl) ?_
      refine lv_iload hx hb dX5_write_23 (lv_at hl 4 rfl) ?_
      refine lv_iconst (v := 1) hx hb dX5_write_25 (by decide) ?_
      obtain ⟨q3, s4, hq, h⟩ := nd_b2_e h
      have hPc := dp_X5_4 hP
      have hDc := dd_X5_4 hD
      have hKc := dy_X5_4 hK
      have hFc := nd_rs hDc hS hA
      have hzA : ∀ q : Nat, H.size ≤ q → A q := fun q h => hA q (Nat.le_trans hS.1 h)
      refine nd_cVi (As := [.int v0, .int v2, .int v3, .int 1]) (rest := []) (q := q3) (w' := dw_X6 (fun k => a (k + 4)) (fun k => ac (k + 4)) s4) ⟨hx, hb, hml, hown, hts⟩ (fun sz => dm_X6_mayAll l hlt dC dI (fun k => a (k + 4)) (fun k => ac (k + 4)) n (v0) (v2) (v3) (1) s0.2.2 hq sz) (cwV 4 hts gi_dm_X5_write_0 rfl rfl rfl (by decide +kernel) ⟨Nat.le_of_ble_eq_true rfl, Nat.le_of_ble_eq_true rfl⟩) hPc hDc hKc hS hA hN (va_recv hKc hPc (ci := 7) (q0 := 0) rfl rfl) rfl hl.1 rfl (Nat.le_of_ble_eq_true rfl) dX5_write_26 (fun H locs hP1 hD1 hk1 hS => ?_)
      obtain ⟨hP, hD⟩ := dn_X5_4 hP hD hzA hk1 hP1 hD1
      obtain ⟨s6, es6, h⟩ := nd_let_e h
      have hP : va_P (dC, dI) vwCl (dw_X5 a ac s6) H := by rw [es6]; exact hP
      have hD : va_D A (dw_X5 a ac s6) := by rw [es6]; exact hD
      refine lv_if_ne (tgt := 36) hx hb dX5_write_29 (by decide) (fun c7 => ?_) (fun c7 => ?_)
      · have h := nd_neg h c7
        refine lv_aload_n hx hb dX5_write_36 rfl (lv_at hl 0 rfl) ?_
        refine va_get (D := (dC, dI)) (ci := 6) (v := .ref (a 14)) (C := RX5) (T := TX5) (N := 8) hx hb hts hi_dm_X5_write_X5 hown hK hP 0 rfl rfl 1 (by decide) (hts (.fieldLink RX5 28 "TimeMachine$Kernel" "things" "LTimeMachine$Things;") (List.mem_of_getElem? (i := 7) rfl)) (fun _ h9 => h9) rfl dX5_write_37 ?_
        refine lv_iload_n hx hb dX5_write_40 rfl (lv_at hl 1 rfl) ?_
        refine lv_iload_n hx hb dX5_write_41 rfl (lv_at hl 2 rfl) ?_
        obtain ⟨q8, s9, hq, h⟩ := nd_b2_e h
        have hPc := dp_X5_14 hP
        have hDc := dd_X5_14 hD
        have hKc := dy_X5_14 hK
        have hFc := nd_rs hDc hS hA
        have hzA : ∀ q : Nat, H.size ≤ q → A q := fun q h => hA q (Nat.le_trans hS.1 h)
        refine nd_cVi (As := [.int v0, .int v1]) (rest := []) (q := q8) (w' := dw_X10 (fun k => a (k + 14)) (fun k => ac (k + 14)) s9) ⟨hx, hb, hml, hown, hts⟩ (fun sz => dm_X10_openingOf l hlt dC dI (fun k => a (k + 14)) (fun k => ac (k + 14)) n (v0) (v1) s6.2.2.2 hq sz) (cwV 2 hts gi_dm_X5_write_1 rfl rfl rfl (by decide +kernel) ⟨Nat.le_of_ble_eq_true rfl, Nat.le_of_ble_eq_true rfl⟩) hPc hDc hKc hS hA hN (va_recv hKc hPc (ci := 11) (q0 := 0) rfl rfl) rfl hl.1 rfl (Nat.le_of_ble_eq_true rfl) dX5_write_42 (fun H locs hP1 hD1 hk1 hS => ?_)
        obtain ⟨hP, hD⟩ := dn_X5_14 hP hD hzA hk1 hP1 hD1
        obtain ⟨s11, es11, h⟩ := nd_let_e h
        have hP : va_P (dC, dI) vwCl (dw_X5 a ac s11) H := by rw [es11]; exact hP
        have hD : va_D A (dw_X5 a ac s11) := by rw [es11]; exact hD
        refine lv_istore (lv' := [(5, .int q8), (0, .ref (a 0)), (1, .int v0), (2, .int v1), (3, .int v2), (4, .int v3)]) hx hb dX5_write_45 hl (by decide) rfl (fun ls hl => ?_)
        refine lv_iload hx hb dX5_write_47 (lv_at hl 0 rfl) ?_
        refine lv_if_lt (tgt := 67) hx hb dX5_write_49 (by decide) (fun c12 => ?_) (fun c12 => ?_)
        · have h := nd_pos h c12
          exact (db_X5_write_67 C K)  s11 _ _ _ h hP hD hS (lv_sub hl [] rfl)
        · have h := nd_neg h c12
          refine lv_aload_n hx hb dX5_write_52 rfl (lv_at hl 1 rfl) ?_
          refine va_get (D := (dC, dI)) (ci := 6) (v := .ref (a 14)) (C := RX5) (T := TX5) (N := 8) hx hb hts hi_dm_X5_write_X5 hown hK hP 0 rfl rfl 1 (by decide) (hts (.fieldLink RX5 28 "TimeMachine$Kernel" "things" "LTimeMachine$Things;") (List.mem_of_getElem? (i := 7) rfl)) (fun _ h9 => h9) rfl dX5_write_53 ?_
          refine lv_iload hx hb dX5_write_56 (lv_at hl 0 rfl) ?_
          refine lv_iconst (v := 4) hx hb dX5_write_58 (by decide) ?_
          obtain ⟨q13, s14, hq, h⟩ := nd_b2_e h
          have hPc := dp_X5_14 hP
          have hDc := dd_X5_14 hD
          have hKc := dy_X5_14 hK
          have hFc := nd_rs hDc hS hA
          have hzA : ∀ q : Nat, H.size ≤ q → A q := fun q h => hA q (Nat.le_trans hS.1 h)
          refine nd_cVi (As := [.int q8, .int 4]) (rest := []) (q := q13) (w' := dw_X10 (fun k => a (k + 14)) (fun k => ac (k + 14)) s14) ⟨hx, hb, hml, hown, hts⟩ (fun sz => dm_X10_of l hlt dC dI (fun k => a (k + 14)) (fun k => ac (k + 14)) n (q8) (4) s11.2.2.2 hq sz) (cwV 2 hts gi_dm_X5_write_2 rfl rfl rfl (by decide +kernel) ⟨Nat.le_of_ble_eq_true rfl, Nat.le_of_ble_eq_true rfl⟩) hPc hDc hKc hS hA hN (va_recv hKc hPc (ci := 11) (q0 := 0) rfl rfl) rfl hl.1 rfl (Nat.le_of_ble_eq_true rfl) dX5_write_59 (fun H locs hP1 hD1 hk1 hS => ?_)
          obtain ⟨hP, hD⟩ := dn_X5_14 hP hD hzA hk1 hP1 hD1
          obtain ⟨s16, es16, h⟩ := nd_let_e h
          have hP : va_P (dC, dI) vwCl (dw_X5 a ac s16) H := by rw [es16]; exact hP
          have hD : va_D A (dw_X5 a ac s16) := by rw [es16]; exact hD
          refine lv_iconst (v := 2) hx hb dX5_write_62 (by decide) ?_
          refine lv_iand hx hb dX5_write_63 ?_
          refine lv_if_ne (tgt := 71) hx hb dX5_write_64 (by decide) (fun c17 => ?_) (fun c17 => ?_)
          · have h := nd_neg h c17
            refine lv_aload_n hx hb dX5_write_71 rfl (lv_at hl 1 rfl) ?_
            refine va_get (D := (dC, dI)) (ci := 6) (v := .ref (a 14)) (C := RX5) (T := TX5) (N := 8) hx hb hts hi_dm_X5_write_X5 hown hK hP 0 rfl rfl 1 (by decide) (hts (.fieldLink RX5 28 "TimeMachine$Kernel" "things" "LTimeMachine$Things;") (List.mem_of_getElem? (i := 7) rfl)) (fun _ h9 => h9) rfl dX5_write_72 ?_
            refine lv_iload hx hb dX5_write_75 (lv_at hl 0 rfl) ?_
            refine lv_iconst (v := 0) hx hb dX5_write_77 (by decide) ?_
            obtain ⟨q18, s19, hq, h⟩ := nd_b2_e h
            have hPc := dp_X5_14 hP
            have hDc := dd_X5_14 hD
            have hKc := dy_X5_14 hK
            have hFc := nd_rs hDc hS hA
            have hzA : ∀ q : Nat, H.size ≤ q → A q := fun q h => hA q (Nat.le_trans hS.1 h)
            refine nd_cVi (As := [.int q8, .int 0]) (rest := []) (q := q18) (w' := dw_X10 (fun k => a (k + 14)) (fun k => ac (k + 14)) s19) ⟨hx, hb, hml, hown, hts⟩ (fun sz => dm_X10_of l hlt dC dI (fun k => a (k + 14)) (fun k => ac (k + 14)) n (q8) (0) s16.2.2.2 hq sz) (cwV 2 hts gi_dm_X5_write_2 rfl rfl rfl (by decide +kernel) ⟨Nat.le_of_ble_eq_true rfl, Nat.le_of_ble_eq_true rfl⟩) hPc hDc hKc hS hA hN (va_recv hKc hPc (ci := 11) (q0 := 0) rfl rfl) rfl hl.1 rfl (Nat.le_of_ble_eq_true rfl) dX5_write_78 (fun H locs hP1 hD1 hk1 hS => ?_)
            obtain ⟨hP, hD⟩ := dn_X5_14 hP hD hzA hk1 hP1 hD1
            obtain ⟨s21, es21, h⟩ := nd_let_e h
            have hP : va_P (dC, dI) vwCl (dw_X5 a ac s21) H := by rw [es21]; exact hP
            have hD : va_D A (dw_X5 a ac s21) := by rw [es21]; exact hD
            refine lv_istore (lv' := [(6, .int q18), (5, .int q8), (0, .ref (a 0)), (1, .int v0), (2, .int v1), (3, .int v2), (4, .int v3)]) hx hb dX5_write_81 hl (by decide) rfl (fun ls hl => ?_)
            refine lv_aload_n hx hb dX5_write_83 rfl (lv_at hl 2 rfl) ?_
            refine va_get (D := (dC, dI)) (ci := 6) (v := .ref (a 14)) (C := RX5) (T := TX5) (N := 8) hx hb hts hi_dm_X5_write_X5 hown hK hP 0 rfl rfl 1 (by decide) (hts (.fieldLink RX5 28 "TimeMachine$Kernel" "things" "LTimeMachine$Things;") (List.mem_of_getElem? (i := 7) rfl)) (fun _ h9 => h9) rfl dX5_write_84 ?_
            refine lv_iload hx hb dX5_write_87 (lv_at hl 1 rfl) ?_
            obtain ⟨q22, s23, hq, h⟩ := nd_b2_e h
            have hPc := dp_X5_14 hP
            have hDc := dd_X5_14 hD
            have hKc := dy_X5_14 hK
            have hFc := nd_rs hDc hS hA
            have hzA : ∀ q : Nat, H.size ≤ q → A q := fun q h => hA q (Nat.le_trans hS.1 h)
            refine nd_cVi (As := [.int q8]) (rest := []) (q := q22) (w' := dw_X10 (fun k => a (k + 14)) (fun k => ac (k + 14)) s23) ⟨hx, hb, hml, hown, hts⟩ (fun sz => dm_X10_isBroken l hlt dC dI (fun k => a (k + 14)) (fun k => ac (k + 14)) n (q8) s21.2.2.2 hq sz) (cwV 1 hts gi_dm_X5_write_3 rfl rfl rfl (by decide +kernel) ⟨Nat.le_of_ble_eq_true rfl, Nat.le_of_ble_eq_true rfl⟩) hPc hDc hKc hS hA hN (va_recv hKc hPc (ci := 11) (q0 := 0) rfl rfl) rfl hl.1 rfl (Nat.le_of_ble_eq_true rfl) dX5_write_89 (fun H locs hP1 hD1 hk1 hS => ?_)
            obtain ⟨hP, hD⟩ := dn_X5_14 hP hD hzA hk1 hP1 hD1
            obtain ⟨s25, es25, h⟩ := nd_let_e h
            have hP : va_P (dC, dI) vwCl (dw_X5 a ac s25) H := by rw [es25]; exact hP
            have hD : va_D A (dw_X5 a ac s25) := by rw [es25]; exact hD
            refine lv_if_eq (tgt := 99) hx hb dX5_write_92 (by decide) (fun c26 => ?_) (fun c26 => ?_)
            · have h := nd_pos h c26
              refine lv_iload hx hb dX5_write_99 (lv_at hl 0 rfl) ?_
              refine lv_iconst (v := 3) hx hb dX5_write_101 (by decide) ?_
              refine lv_icmp_ne (tgt := 117) hx hb dX5_write_102 (by decide) (fun c27 => ?_) (fun c27 => ?_)
              · have h := nd_neg h c27
                refine lv_iconst (v := 0) hx hb dX5_write_117 (by decide) ?_
                exact (db_X5_write_118 C K) (v0) (v2) (v3) (q8) (q18) (0) s25 _ _ _ h hP hD hS (lv_sub hl [2, 3, 5, 6, 1, 0] rfl)
              · have h := nd_pos h c27
                refine lv_aload_n hx hb dX5_write_105 rfl (lv_at hl 2 rfl) ?_
                refine va_get (D := (dC, dI)) (ci := 6) (v := .ref (a 14)) (C := RX5) (T := TX5) (N := 8) hx hb hts hi_dm_X5_write_X5 hown hK hP 0 rfl rfl 1 (by decide) (hts (.fieldLink RX5 28 "TimeMachine$Kernel" "things" "LTimeMachine$Things;") (List.mem_of_getElem? (i := 7) rfl)) (fun _ h9 => h9) rfl dX5_write_106 ?_
                refine lv_iload hx hb dX5_write_109 (lv_at hl 1 rfl) ?_
                obtain ⟨q61, s62, hq, h⟩ := nd_b2_e h
                have hPc := dp_X5_14 hP
                have hDc := dd_X5_14 hD
                have hKc := dy_X5_14 hK
                have hFc := nd_rs hDc hS hA
                have hzA : ∀ q : Nat, H.size ≤ q → A q := fun q h => hA q (Nat.le_trans hS.1 h)
                refine nd_cVi (As := [.int q8]) (rest := []) (q := q61) (w' := dw_X10 (fun k => a (k + 14)) (fun k => ac (k + 14)) s62) ⟨hx, hb, hml, hown, hts⟩ (fun sz => dm_X10_writingPlace l hlt dC dI (fun k => a (k + 14)) (fun k => ac (k + 14)) n (q8) s25.2.2.2 hq sz) (cwV 1 hts gi_dm_X5_write_10 rfl rfl rfl (by decide +kernel) ⟨Nat.le_of_ble_eq_true rfl, Nat.le_of_ble_eq_true rfl⟩) hPc hDc hKc hS hA hN (va_recv hKc hPc (ci := 11) (q0 := 0) rfl rfl) rfl hl.1 rfl (Nat.le_of_ble_eq_true rfl) dX5_write_111 (fun H locs hP1 hD1 hk1 hS => ?_)
                obtain ⟨hP, hD⟩ := dn_X5_14 hP hD hzA hk1 hP1 hD1
                obtain ⟨s64, es64, h⟩ := nd_let_e h
                have hP : va_P (dC, dI) vwCl (dw_X5 a ac s64) H := by rw [es64]; exact hP
                have hD : va_D A (dw_X5 a ac s64) := by rw [es64]; exact hD
                refine lv_goto (tgt := 118) hx hb dX5_write_114 (by decide) ?_
                exact (db_X5_write_118 C K) (v0) (v2) (v3) (q8) (q18) (q61) s64 _ _ _ h hP hD hS (lv_sub hl [2, 3, 5, 6, 1, 0] rfl)
            · have h := nd_neg h c26
              refine lv_ldc2 hx hb hown (hts (.constantLong RX5 308 (-5)) (List.mem_of_getElem? (i := 42) rfl)) dX5_write_95 ?_
              exact K _ _ _ _ _ _ dX5_write_98 (Option.some.inj h).symm hP hD hS
          · have h := nd_pos h c17
            exact (db_X5_write_67 C K)  s16 _ _ _ h hP hD hS (lv_sub hl [] rfl)
      · have h := nd_pos h c7
        refine lv_ldc2 hx hb hown (hts (.constantLong RX5 257 (-14)) (List.mem_of_getElem? (i := 43) rfl)) dX5_write_32 ?_
        exact K _ _ _ _ _ _ dX5_write_35 (Option.some.inj h).symm hP hD hS
    · have h := nd_neg h c2
      exact (db_X5_write_13 C K)  s0 _ _ _ h hP hD hS (lv_sub hl [] rfl)
set_option maxHeartbeats 40000000 in
set_option maxRecDepth 100000 in
theorem dm_X5_write (l : Launch) (hlt : l.stackTraces = false) (dC : Nat → ClassId) (dI : Nat → Nat → Nat) (a : Nat → Nat) (ac : Nat → ClassId) (n : Nat) (v0 : Int32) (v1 : Int32) (v2 : Int32) (v3 : Int32) (s0 : St × (St × (St × (St)))) {r : Int64 × (St × (St × (St × (St))))} (h : df_X5_write n v0 v1 v2 v3 s0 = some r) (sz : Nat) : Met l yX5_write ow_dm_X5_write ({ frames := 2, cells := 0, slots := 0, locals := 48 }) (va_Pc [.ref (a 0), .int v0, .int v1, .int v2, .int v3] (fun U => U.heap.size = sz ∧ va_P (dC, dI) vwCl (dw_X5 a ac s0) U.heap ∧ va_K (dC, dI) vwCl (dk_X5 ac) U ∧ va_D (fun _ => True) (dw_X5 a ac s0) ∧ nv_E dI (va_A (dw_X5 a ac s0) sz) U)) (va_Ql (fun x _ => x = r.1) (fun (_ : Unit) t => va_P (dC, dI) vwCl (dw_X5 a ac r.2) t.heap ∧ va_K (dC, dI) vwCl (dk_X5 ac) t ∧ va_D (va_A (dw_X5 a ac s0) sz) (dw_X5 a ac r.2)) (va_A (dw_X5 a ac s0) sz)) 0 0 (va_A (dw_X5 a ac s0) sz) := by
  refine Met.ofW (cc := cX5_write) (maxL := 10) (ret := (some .long)) (by decide) rfl ?_
  intro p e s m args below meth c s₁ B hml hv
  obtain ⟨rfl, hsz, hP, hK, hD0, hN⟩ := hv
  have hx := B.exec
  have hb := B.bytes
  have hr := B.returns
  have hts := atoms_spec (ws := ow_dm_X5_write) B.pre
  have hown : s.vm.findClass RX5 = some m.cls := findClass_of_methodNamed B.named
  have hlocks := B.notSynchronized
  subst hsz
  have hD := hD0.self (sz := s.heap.size)
  generalize hAe : va_A (dw_X5 a ac s0) s.heap.size = A at hD hN ⊢
  have hA : ∀ q : Nat, s.heap.size ≤ q → A q := fun q h => by rw [← hAe]; exact Or.inr h
  have hl := lv_entry ([.ref (a 0), .int v0, .int v1, .int v2, .int v3]) (n := 10) (Nat.le_of_ble_eq_true rfl)
  rw [lg_entry_eq]
  generalize (lg_sl ([.ref (a 0), .int v0, .int v1, .int v2, .int v3]) ++ List.replicate (10 - (lg_sl ([.ref (a 0), .int v0, .int v1, .int v2, .int v3])).length) Slot.unset).toArray = ls at hl ⊢
  have hl : lv_has ls 10 [(0, .ref (a 0)), (1, .int v0), (2, .int v1), (3, .int v2), (4, .int v3)] := hl
  exact db_X5_write_0 (dC := dC) (dI := dI) (a := a) (ac := ac) (n := n) (r := r) ⟨hlt, hx, hb, hml, hown, hts, hN, hA, hK⟩ (fun pc v τ H locs ls d er hP hD hS => by subst er; exact W.lret (v := v) hx hb hr (fun t ht hW => ⟨⟨v, (), rfl, rfl, by rw [ht]; exact hP, va_K.moved hW.alike hK, hD⟩, hS.F ht⟩) hS.2.2 d) v0 v1 v2 v3 s0 _ _ _ h hP hD va_S.rf (lv_sub hl [0, 1, 2, 3, 4] rfl)
def ow_dm_X5_close : List Cond := Cond.code yX5_close cX5_close 3 (some .long) :: ([Cond.fieldLink RX5 28 "TimeMachine$Kernel" "things" "LTimeMachine$Things;", Cond.methodLink RX5 123 yX10_openingOf, Cond.instanceMethod yX10_openingOf, Cond.selects RX10 yX10_openingOf yX10_openingOf, Cond.initialized RX10, Cond.methodLink RX5 330 yX10_close, Cond.instanceMethod yX10_close, Cond.selects RX10 yX10_close yX10_close, Cond.constantLong RX5 294 (-1)] ++ (u_ws RX5 TX5 8 ++ (ow_dm_X10_openingOf ++ (ow_dm_X10_close ++ []))))
theorem gd_dm_X5_close : ∀ w ∈ ow_dm_X5_close, (w.onTables && w.keeps) = true ∨ ∃ ty, w = Cond.arrayClass ty := List.forall_mem_cons.mpr ⟨good_of_word rfl, List.forall_mem_append.mpr ⟨fun w h => good_of_word (List.all_eq_true.mp (by decide +kernel) w h), List.forall_mem_append.mpr ⟨gu_X5, List.forall_mem_append.mpr ⟨gd_dm_X10_openingOf, List.forall_mem_append.mpr ⟨gd_dm_X10_close, fun _ h => nomatch h⟩⟩⟩⟩⟩
theorem hi_dm_X5_close_X5 : ∀ w ∈ u_ws RX5 TX5 8, w ∈ ow_dm_X5_close := fun w h => List.mem_cons_of_mem _ (List.mem_append_right _ (List.mem_append_left _ h))
theorem gi_dm_X5_close_0 : GoodIn ow_dm_X5_close (wsV RX5 123 RX10 yX10_openingOf ow_dm_X10_openingOf) := goodIn_app (goodIn_of _ (by decide +kernel)) (fun w h => ⟨List.mem_cons_of_mem _ (List.mem_append_right _ (List.mem_append_right _ (List.mem_append_left _ h))), gd_dm_X10_openingOf w h⟩)
theorem gi_dm_X5_close_1 : GoodIn ow_dm_X5_close (wsV RX5 330 RX10 yX10_close ow_dm_X10_close) := goodIn_app (goodIn_of _ (by decide +kernel)) (fun w h => ⟨List.mem_cons_of_mem _ (List.mem_append_right _ (List.mem_append_right _ (List.mem_append_right _ (List.mem_append_left _ h)))), gd_dm_X10_close w h⟩)
def dj_X5_close_0 (p : Program) (l : Launch) (e : Env) (s : State) (m : MethodId) (args : Array Value) (below : List Frame) (meth : Method) (c : Code) (Q : State → Prop) (A : Nat → Prop) (dC : Nat → ClassId) (dI : Nat → Nat → Nat) (a : Nat → Nat) (ac : Nat → ClassId) (g : Int32 → Int32 → (St × (St × (St × (St)))) → Option (Int64 × (St × (St × (St × (St)))))) (r : Int64 × (St × (St × (St × (St))))) : Prop := ∀ (v0 : Int32) (v1 : Int32) (s0 : St × (St × (St × (St)))) (H : Heap) (locs : List Loc) (ls : Array Slot), g v0 v1 s0 = some r → va_P (dC, dI) vwCl (dw_X5 a ac s0) H → va_D A (dw_X5 a ac s0) → va_S A s.heap H locs → lv_has ls 3 [(0, .ref (a 0)), (1, .int v0), (2, .int v1)] → W p l e (headSpec ow_dm_X5_close ({ frames := 2, cells := 0, slots := 0, locals := 46 })).room s m args below meth c H locs 0 0 Q (F0 m 0 ls [])
set_option maxHeartbeats 40000000 in
set_option maxRecDepth 100000 in
theorem db_X5_close_0 {p : Program} {l : Launch} {e : Env} {s : State} {m : MethodId} {args : Array Value} {below : List Frame} {meth : Method} {c : Code} {Q : State → Prop} {A : Nat → Prop} {dC : Nat → ClassId} {dI : Nat → Nat → Nat} {a : Nat → Nat} {ac : Nat → ClassId} {n : Nat} {r : Int64 × (St × (St × (St × (St))))} (C : nd_C p l s m args c A (dC, dI) cX5_close 3 RX5 ow_dm_X5_close (dk_X5 ac)) (K : nd_Kl p l e (headSpec ow_dm_X5_close ({ frames := 2, cells := 0, slots := 0, locals := 46 })).room s m args below meth c Q A (dC, dI) cX5_close (St × (St × (St × (St)))) (dw_X5 a ac) r) : dj_X5_close_0 p l e s m args below meth c Q A dC dI a ac (df_X5_close_0 n) r := by
  obtain ⟨hlt, hx, hb, hml, hown, hts, hN, hA, hK⟩ := id C
  intro v0 v1 s0 H locs ls h hP hD hS hl
  unfold df_X5_close_0 at h
  refine lv_aload_n hx hb dX5_close_0 rfl (lv_at hl 0 rfl) ?_
  refine va_get (D := (dC, dI)) (ci := 6) (v := .ref (a 14)) (C := RX5) (T := TX5) (N := 8) hx hb hts hi_dm_X5_close_X5 hown hK hP 0 rfl rfl 1 (by decide) (hts (.fieldLink RX5 28 "TimeMachine$Kernel" "things" "LTimeMachine$Things;") (List.mem_of_getElem? (i := 1) rfl)) (fun _ h9 => h9) rfl dX5_close_1 ?_
  refine lv_iload_n hx hb dX5_close_4 rfl (lv_at hl 1 rfl) ?_
  refine lv_iload_n hx hb dX5_close_5 rfl (lv_at hl 2 rfl) ?_
  obtain ⟨q1, s2, hq, h⟩ := nd_b2_e h
  have hPc := dp_X5_14 hP
  have hDc := dd_X5_14 hD
  have hKc := dy_X5_14 hK
  have hFc := nd_rs hDc hS hA
  have hzA : ∀ q : Nat, H.size ≤ q → A q := fun q h => hA q (Nat.le_trans hS.1 h)
  refine nd_cVi (As := [.int v0, .int v1]) (rest := []) (q := q1) (w' := dw_X10 (fun k => a (k + 14)) (fun k => ac (k + 14)) s2) ⟨hx, hb, hml, hown, hts⟩ (fun sz => dm_X10_openingOf l hlt dC dI (fun k => a (k + 14)) (fun k => ac (k + 14)) n (v0) (v1) s0.2.2.2 hq sz) (cwV 2 hts gi_dm_X5_close_0 rfl rfl rfl (by decide +kernel) ⟨Nat.le_of_ble_eq_true rfl, Nat.le_of_ble_eq_true rfl⟩) hPc hDc hKc hS hA hN (va_recv hKc hPc (ci := 11) (q0 := 0) rfl rfl) rfl hl.1 rfl (Nat.le_of_ble_eq_true rfl) dX5_close_6 (fun H locs hP1 hD1 hk1 hS => ?_)
  obtain ⟨hP, hD⟩ := dn_X5_14 hP hD hzA hk1 hP1 hD1
  obtain ⟨s4, es4, h⟩ := nd_let_e h
  have hP : va_P (dC, dI) vwCl (dw_X5 a ac s4) H := by rw [es4]; exact hP
  have hD : va_D A (dw_X5 a ac s4) := by rw [es4]; exact hD
  refine lv_if_ge (tgt := 16) hx hb dX5_close_9 (by decide) (fun c5 => ?_) (fun c5 => ?_)
  · have h := nd_pos h c5
    refine lv_aload_n hx hb dX5_close_16 rfl (lv_at hl 0 rfl) ?_
    refine va_get (D := (dC, dI)) (ci := 6) (v := .ref (a 14)) (C := RX5) (T := TX5) (N := 8) hx hb hts hi_dm_X5_close_X5 hown hK hP 0 rfl rfl 1 (by decide) (hts (.fieldLink RX5 28 "TimeMachine$Kernel" "things" "LTimeMachine$Things;") (List.mem_of_getElem? (i := 1) rfl)) (fun _ h9 => h9) rfl dX5_close_17 ?_
    refine lv_iload_n hx hb dX5_close_20 rfl (lv_at hl 1 rfl) ?_
    refine lv_iload_n hx hb dX5_close_21 rfl (lv_at hl 2 rfl) ?_
    obtain ⟨s7, hq, h⟩ := nd_b1_e h
    have hPc := dp_X5_14 hP
    have hDc := dd_X5_14 hD
    have hKc := dy_X5_14 hK
    have hFc := nd_rs hDc hS hA
    have hzA : ∀ q : Nat, H.size ≤ q → A q := fun q h => hA q (Nat.le_trans hS.1 h)
    refine nd_cVv (As := [.int v0, .int v1]) (rest := []) (w' := dw_X10 (fun k => a (k + 14)) (fun k => ac (k + 14)) s7) ⟨hx, hb, hml, hown, hts⟩ (fun sz => dm_X10_close l hlt dC dI (fun k => a (k + 14)) (fun k => ac (k + 14)) n (v0) (v1) s4.2.2.2 hq sz) (cwV 2 hts gi_dm_X5_close_1 rfl rfl rfl (by decide +kernel) ⟨Nat.le_of_ble_eq_true rfl, Nat.le_of_ble_eq_true rfl⟩) hPc hDc hKc hS hA hN (va_recv hKc hPc (ci := 11) (q0 := 0) rfl rfl) rfl hl.1 rfl (Nat.le_of_ble_eq_true rfl) dX5_close_22 (fun H locs hP1 hD1 hk1 hS => ?_)
    obtain ⟨hP, hD⟩ := dn_X5_14 hP hD hzA hk1 hP1 hD1
    obtain ⟨s9, es9, h⟩ := nd_let_e h
    have hP : va_P (dC, dI) vwCl (dw_X5 a ac s9) H := by rw [es9]; exact hP
    have hD : va_D A (dw_X5 a ac s9) := by rw [es9]; exact hD
    refine lv_lconst (v := 0) hx hb dX5_close_25 (by decide) ?_
    exact K _ _ _ _ _ _ dX5_close_26 (Option.some.inj h).symm hP hD hS
  · have h := nd_neg h c5
    refine lv_ldc2 hx hb hown (hts (.constantLong RX5 294 (-1)) (List.mem_of_getElem? (i := 9) rfl)) dX5_close_12 ?_
    exact K _ _ _ _ _ _ dX5_close_15 (Option.some.inj h).symm hP hD hS
set_option maxHeartbeats 40000000 in
set_option maxRecDepth 100000 in
theorem dm_X5_close (l : Launch) (hlt : l.stackTraces = false) (dC : Nat → ClassId) (dI : Nat → Nat → Nat) (a : Nat → Nat) (ac : Nat → ClassId) (n : Nat) (v0 : Int32) (v1 : Int32) (s0 : St × (St × (St × (St)))) {r : Int64 × (St × (St × (St × (St))))} (h : df_X5_close n v0 v1 s0 = some r) (sz : Nat) : Met l yX5_close ow_dm_X5_close ({ frames := 2, cells := 0, slots := 0, locals := 46 }) (va_Pc [.ref (a 0), .int v0, .int v1] (fun U => U.heap.size = sz ∧ va_P (dC, dI) vwCl (dw_X5 a ac s0) U.heap ∧ va_K (dC, dI) vwCl (dk_X5 ac) U ∧ va_D (fun _ => True) (dw_X5 a ac s0) ∧ nv_E dI (va_A (dw_X5 a ac s0) sz) U)) (va_Ql (fun x _ => x = r.1) (fun (_ : Unit) t => va_P (dC, dI) vwCl (dw_X5 a ac r.2) t.heap ∧ va_K (dC, dI) vwCl (dk_X5 ac) t ∧ va_D (va_A (dw_X5 a ac s0) sz) (dw_X5 a ac r.2)) (va_A (dw_X5 a ac s0) sz)) 0 0 (va_A (dw_X5 a ac s0) sz) := by
  refine Met.ofW (cc := cX5_close) (maxL := 3) (ret := (some .long)) (by decide) rfl ?_
  intro p e s m args below meth c s₁ B hml hv
  obtain ⟨rfl, hsz, hP, hK, hD0, hN⟩ := hv
  have hx := B.exec
  have hb := B.bytes
  have hr := B.returns
  have hts := atoms_spec (ws := ow_dm_X5_close) B.pre
  have hown : s.vm.findClass RX5 = some m.cls := findClass_of_methodNamed B.named
  have hlocks := B.notSynchronized
  subst hsz
  have hD := hD0.self (sz := s.heap.size)
  generalize hAe : va_A (dw_X5 a ac s0) s.heap.size = A at hD hN ⊢
  have hA : ∀ q : Nat, s.heap.size ≤ q → A q := fun q h => by rw [← hAe]; exact Or.inr h
  have hl := lv_entry ([.ref (a 0), .int v0, .int v1]) (n := 3) (Nat.le_of_ble_eq_true rfl)
  rw [lg_entry_eq]
  generalize (lg_sl ([.ref (a 0), .int v0, .int v1]) ++ List.replicate (3 - (lg_sl ([.ref (a 0), .int v0, .int v1])).length) Slot.unset).toArray = ls at hl ⊢
  have hl : lv_has ls 3 [(0, .ref (a 0)), (1, .int v0), (2, .int v1)] := hl
  exact db_X5_close_0 (dC := dC) (dI := dI) (a := a) (ac := ac) (n := n) (r := r) ⟨hlt, hx, hb, hml, hown, hts, hN, hA, hK⟩ (fun pc v τ H locs ls d er hP hD hS => by subst er; exact W.lret (v := v) hx hb hr (fun t ht hW => ⟨⟨v, (), rfl, rfl, by rw [ht]; exact hP, va_K.moved hW.alike hK, hD⟩, hS.F ht⟩) hS.2.2 d) v0 v1 s0 _ _ _ h hP hD va_S.rf (lv_sub hl [0, 1, 2] rfl)
def ow_dm_X5_duplicate : List Cond := Cond.code yX5_duplicate cX5_duplicate 6 (some .long) :: ([Cond.constantLong RX5 251 (-22), Cond.fieldLink RX5 28 "TimeMachine$Kernel" "things" "LTimeMachine$Things;", Cond.methodLink RX5 123 yX10_openingOf, Cond.instanceMethod yX10_openingOf, Cond.selects RX10 yX10_openingOf yX10_openingOf, Cond.initialized RX10, Cond.methodLink RX5 330 yX10_close, Cond.instanceMethod yX10_close, Cond.selects RX10 yX10_close yX10_close, Cond.methodLink RX5 280 yX10_linkTo, Cond.instanceMethod yX10_linkTo, Cond.selects RX10 yX10_linkTo yX10_linkTo, Cond.constantLong RX5 228 (-4), Cond.methodLink RX5 259 yX10_freeLink, Cond.instanceMethod yX10_freeLink, Cond.selects RX10 yX10_freeLink yX10_freeLink, Cond.constantLong RX5 294 (-1)] ++ (u_ws RX5 TX5 8 ++ (ow_dm_X10_openingOf ++ (ow_dm_X10_close ++ (ow_dm_X10_linkTo ++ (ow_dm_X10_freeLink ++ []))))))
theorem gd_dm_X5_duplicate : ∀ w ∈ ow_dm_X5_duplicate, (w.onTables && w.keeps) = true ∨ ∃ ty, w = Cond.arrayClass ty := List.forall_mem_cons.mpr ⟨good_of_word rfl, List.forall_mem_append.mpr ⟨fun w h => good_of_word (List.all_eq_true.mp (by decide +kernel) w h), List.forall_mem_append.mpr ⟨gu_X5, List.forall_mem_append.mpr ⟨gd_dm_X10_openingOf, List.forall_mem_append.mpr ⟨gd_dm_X10_close, List.forall_mem_append.mpr ⟨gd_dm_X10_linkTo, List.forall_mem_append.mpr ⟨gd_dm_X10_freeLink, fun _ h => nomatch h⟩⟩⟩⟩⟩⟩⟩
theorem hi_dm_X5_duplicate_X5 : ∀ w ∈ u_ws RX5 TX5 8, w ∈ ow_dm_X5_duplicate := fun w h => List.mem_cons_of_mem _ (List.mem_append_right _ (List.mem_append_left _ h))
theorem gi_dm_X5_duplicate_0 : GoodIn ow_dm_X5_duplicate (wsV RX5 123 RX10 yX10_openingOf ow_dm_X10_openingOf) := goodIn_app (goodIn_of _ (by decide +kernel)) (fun w h => ⟨List.mem_cons_of_mem _ (List.mem_append_right _ (List.mem_append_right _ (List.mem_append_left _ h))), gd_dm_X10_openingOf w h⟩)
theorem gi_dm_X5_duplicate_1 : GoodIn ow_dm_X5_duplicate (wsV RX5 330 RX10 yX10_close ow_dm_X10_close) := goodIn_app (goodIn_of _ (by decide +kernel)) (fun w h => ⟨List.mem_cons_of_mem _ (List.mem_append_right _ (List.mem_append_right _ (List.mem_append_right _ (List.mem_append_left _ h)))), gd_dm_X10_close w h⟩)
theorem gi_dm_X5_duplicate_2 : GoodIn ow_dm_X5_duplicate (wsV RX5 280 RX10 yX10_linkTo ow_dm_X10_linkTo) := goodIn_app (goodIn_of _ (by decide +kernel)) (fun w h => ⟨List.mem_cons_of_mem _ (List.mem_append_right _ (List.mem_append_right _ (List.mem_append_right _ (List.mem_append_right _ (List.mem_append_left _ h))))), gd_dm_X10_linkTo w h⟩)
theorem gi_dm_X5_duplicate_3 : GoodIn ow_dm_X5_duplicate (wsV RX5 259 RX10 yX10_freeLink ow_dm_X10_freeLink) := goodIn_app (goodIn_of _ (by decide +kernel)) (fun w h => ⟨List.mem_cons_of_mem _ (List.mem_append_right _ (List.mem_append_right _ (List.mem_append_right _ (List.mem_append_right _ (List.mem_append_right _ (List.mem_append_left _ h)))))), gd_dm_X10_freeLink w h⟩)
def dj_X5_duplicate_11 (p : Program) (l : Launch) (e : Env) (s : State) (m : MethodId) (args : Array Value) (below : List Frame) (meth : Method) (c : Code) (Q : State → Prop) (A : Nat → Prop) (dC : Nat → ClassId) (dI : Nat → Nat → Nat) (a : Nat → Nat) (ac : Nat → ClassId) (g : (St × (St × (St × (St)))) → Option (Int64 × (St × (St × (St × (St)))))) (r : Int64 × (St × (St × (St × (St))))) : Prop := ∀ (s0 : St × (St × (St × (St)))) (H : Heap) (locs : List Loc) (ls : Array Slot), g s0 = some r → va_P (dC, dI) vwCl (dw_X5 a ac s0) H → va_D A (dw_X5 a ac s0) → va_S A s.heap H locs → lv_has ls 6 [] → W p l e (headSpec ow_dm_X5_duplicate ({ frames := 2, cells := 0, slots := 0, locals := 46 })).room s m args below meth c H locs 0 0 Q (F0 m 11 ls [])
def dj_X5_duplicate_91 (p : Program) (l : Launch) (e : Env) (s : State) (m : MethodId) (args : Array Value) (below : List Frame) (meth : Method) (c : Code) (Q : State → Prop) (A : Nat → Prop) (dC : Nat → ClassId) (dI : Nat → Nat → Nat) (a : Nat → Nat) (ac : Nat → ClassId) (g : Int32 → (St × (St × (St × (St)))) → Option (Int64 × (St × (St × (St × (St)))))) (r : Int64 × (St × (St × (St × (St))))) : Prop := ∀ (x5 : Int32) (s0 : St × (St × (St × (St)))) (H : Heap) (locs : List Loc) (ls : Array Slot), g x5 s0 = some r → va_P (dC, dI) vwCl (dw_X5 a ac s0) H → va_D A (dw_X5 a ac s0) → va_S A s.heap H locs → lv_has ls 6 [(5, .int x5)] → W p l e (headSpec ow_dm_X5_duplicate ({ frames := 2, cells := 0, slots := 0, locals := 46 })).room s m args below meth c H locs 0 0 Q (F0 m 91 ls [])
def dj_X5_duplicate_52 (p : Program) (l : Launch) (e : Env) (s : State) (m : MethodId) (args : Array Value) (below : List Frame) (meth : Method) (c : Code) (Q : State → Prop) (A : Nat → Prop) (dC : Nat → ClassId) (dI : Nat → Nat → Nat) (a : Nat → Nat) (ac : Nat → ClassId) (g : Int32 → Int32 → Int32 → Int32 → (St × (St × (St × (St)))) → Option (Int64 × (St × (St × (St × (St)))))) (r : Int64 × (St × (St × (St × (St))))) : Prop := ∀ (x1 : Int32) (x2 : Int32) (x4 : Int32) (y0 : Int32) (s0 : St × (St × (St × (St)))) (H : Heap) (locs : List Loc) (ls : Array Slot), g x1 x2 x4 y0 s0 = some r → va_P (dC, dI) vwCl (dw_X5 a ac s0) H → va_D A (dw_X5 a ac s0) → va_S A s.heap H locs → lv_has ls 6 [(0, .ref (a 0)), (1, .int x1), (2, .int x2), (4, .int x4)] → W p l e (headSpec ow_dm_X5_duplicate ({ frames := 2, cells := 0, slots := 0, locals := 46 })).room s m args below meth c H locs 0 0 Q (F0 m 52 ls [.int y0])
def dj_X5_duplicate_0 (p : Program) (l : Launch) (e : Env) (s : State) (m : MethodId) (args : Array Value) (below : List Frame) (meth : Method) (c : Code) (Q : State → Prop) (A : Nat → Prop) (dC : Nat → ClassId) (dI : Nat → Nat → Nat) (a : Nat → Nat) (ac : Nat → ClassId) (g : Int32 → Int32 → Int32 → (St × (St × (St × (St)))) → Option (Int64 × (St × (St × (St × (St)))))) (r : Int64 × (St × (St × (St × (St))))) : Prop := ∀ (v0 : Int32) (v1 : Int32) (v2 : Int32) (s0 : St × (St × (St × (St)))) (H : Heap) (locs : List Loc) (ls : Array Slot), g v0 v1 v2 s0 = some r → va_P (dC, dI) vwCl (dw_X5 a ac s0) H → va_D A (dw_X5 a ac s0) → va_S A s.heap H locs → lv_has ls 6 [(0, .ref (a 0)), (1, .int v0), (2, .int v1), (3, .int v2)] → W p l e (headSpec ow_dm_X5_duplicate ({ frames := 2, cells := 0, slots := 0, locals := 46 })).room s m args below meth c H locs 0 0 Q (F0 m 0 ls [])
set_option maxHeartbeats 40000000 in
set_option maxRecDepth 100000 in
theorem db_X5_duplicate_11 {p : Program} {l : Launch} {e : Env} {s : State} {m : MethodId} {args : Array Value} {below : List Frame} {meth : Method} {c : Code} {Q : State → Prop} {A : Nat → Prop} {dC : Nat → ClassId} {dI : Nat → Nat → Nat} {a : Nat → Nat} {ac : Nat → ClassId} {n : Nat} {r : Int64 × (St × (St × (St × (St))))} (C : nd_C p l s m args c A (dC, dI) cX5_duplicate 6 RX5 ow_dm_X5_duplicate (dk_X5 ac)) (K : nd_Kl p l e (headSpec ow_dm_X5_duplicate ({ frames := 2, cells := 0, slots := 0, locals := 46 })).room s m args below meth c Q A (dC, dI) cX5_duplicate (St × (St × (St × (St)))) (dw_X5 a ac) r) : dj_X5_duplicate_11 p l e s m args below meth c Q A dC dI a ac (df_X5_duplicate_11 n) r := by
  obtain ⟨hlt, hx, hb, hml, hown, hts, hN, hA, hK⟩ := id C
  intro s0 H locs ls h hP hD hS hl
  unfold df_X5_duplicate_11 at h
  refine lv_ldc2 hx hb hown (hts (.constantLong RX5 251 (-22)) (List.mem_of_getElem? (i := 1) rfl)) dX5_duplicate_11 ?_
  exact K _ _ _ _ _ _ dX5_duplicate_14 (Option.some.inj h).symm hP hD hS
set_option maxHeartbeats 40000000 in
set_option maxRecDepth 100000 in
theorem db_X5_duplicate_91 {p : Program} {l : Launch} {e : Env} {s : State} {m : MethodId} {args : Array Value} {below : List Frame} {meth : Method} {c : Code} {Q : State → Prop} {A : Nat → Prop} {dC : Nat → ClassId} {dI : Nat → Nat → Nat} {a : Nat → Nat} {ac : Nat → ClassId} {n : Nat} {r : Int64 × (St × (St × (St × (St))))} (C : nd_C p l s m args c A (dC, dI) cX5_duplicate 6 RX5 ow_dm_X5_duplicate (dk_X5 ac)) (K : nd_Kl p l e (headSpec ow_dm_X5_duplicate ({ frames := 2, cells := 0, slots := 0, locals := 46 })).room s m args below meth c Q A (dC, dI) cX5_duplicate (St × (St × (St × (St)))) (dw_X5 a ac) r) : dj_X5_duplicate_91 p l e s m args below meth c Q A dC dI a ac (df_X5_duplicate_91 n) r := by
  obtain ⟨hlt, hx, hb, hml, hown, hts, hN, hA, hK⟩ := id C
  intro x5 s0 H locs ls h hP hD hS hl
  unfold df_X5_duplicate_91 at h
  refine lv_iload hx hb dX5_duplicate_91 (lv_at hl 0 rfl) ?_
  refine lv_i2l hx hb dX5_duplicate_93 rfl ?_
  exact K _ _ _ _ _ _ dX5_duplicate_94 (Option.some.inj h).symm hP hD hS
set_option maxHeartbeats 40000000 in
set_option maxRecDepth 100000 in
theorem db_X5_duplicate_52 {p : Program} {l : Launch} {e : Env} {s : State} {m : MethodId} {args : Array Value} {below : List Frame} {meth : Method} {c : Code} {Q : State → Prop} {A : Nat → Prop} {dC : Nat → ClassId} {dI : Nat → Nat → Nat} {a : Nat → Nat} {ac : Nat → ClassId} {n : Nat} {r : Int64 × (St × (St × (St × (St))))} (C : nd_C p l s m args c A (dC, dI) cX5_duplicate 6 RX5 ow_dm_X5_duplicate (dk_X5 ac)) (K : nd_Kl p l e (headSpec ow_dm_X5_duplicate ({ frames := 2, cells := 0, slots := 0, locals := 46 })).room s m args below meth c Q A (dC, dI) cX5_duplicate (St × (St × (St × (St)))) (dw_X5 a ac) r) : dj_X5_duplicate_52 p l e s m args below meth c Q A dC dI a ac (df_X5_duplicate_52 n) r := by
  obtain ⟨hlt, hx, hb, hml, hown, hts, hN, hA, hK⟩ := id C
  intro x1 x2 x4 y0 s0 H locs ls h hP hD hS hl
  unfold df_X5_duplicate_52 at h
  refine lv_istore (lv' := [(5, .int y0), (0, .ref (a 0)), (1, .int x1), (2, .int x2), (4, .int x4)]) hx hb dX5_duplicate_52 hl (by decide) rfl (fun ls hl => ?_)
  refine lv_iload hx hb dX5_duplicate_54 (lv_at hl 0 rfl) ?_
  refine lv_if_ge (tgt := 63) hx hb dX5_duplicate_56 (by decide) (fun c9 => ?_) (fun c9 => ?_)
  · have h := nd_pos h c9
    refine lv_iload hx hb dX5_duplicate_63 (lv_at hl 0 rfl) ?_
    refine lv_iload_n hx hb dX5_duplicate_65 rfl (lv_at hl 3 rfl) ?_
    refine lv_icmp_eq (tgt := 91) hx hb dX5_duplicate_66 (by decide) (fun c10 => ?_) (fun c10 => ?_)
    · have h := nd_pos h c10
      exact (db_X5_duplicate_91 C K) (y0) s0 _ _ _ h hP hD hS (lv_sub hl [0] rfl)
    · have h := nd_neg h c10
      refine lv_aload_n hx hb dX5_duplicate_69 rfl (lv_at hl 1 rfl) ?_
      refine va_get (D := (dC, dI)) (ci := 6) (v := .ref (a 14)) (C := RX5) (T := TX5) (N := 8) hx hb hts hi_dm_X5_duplicate_X5 hown hK hP 0 rfl rfl 1 (by decide) (hts (.fieldLink RX5 28 "TimeMachine$Kernel" "things" "LTimeMachine$Things;") (List.mem_of_getElem? (i := 2) rfl)) (fun _ h9 => h9) rfl dX5_duplicate_70 ?_
      refine lv_iload_n hx hb dX5_duplicate_73 rfl (lv_at hl 2 rfl) ?_
      refine lv_iload hx hb dX5_duplicate_74 (lv_at hl 0 rfl) ?_
      obtain ⟨s12, hq, h⟩ := nd_b1_e h
      have hPc := dp_X5_14 hP
      have hDc := dd_X5_14 hD
      have hKc := dy_X5_14 hK
      have hFc := nd_rs hDc hS hA
      have hzA : ∀ q : Nat, H.size ≤ q → A q := fun q h => hA q (Nat.le_trans hS.1 h)
      refine nd_cVv (As := [.int x1, .int y0]) (rest := []) (w' := dw_X10 (fun k => a (k + 14)) (fun k => ac (k + 14)) s12) ⟨hx, hb, hml, hown, hts⟩ (fun sz => dm_X10_close l hlt dC dI (fun k => a (k + 14)) (fun k => ac (k + 14)) n (x1) (y0) s0.2.2.2 hq sz) (cwV 2 hts gi_dm_X5_duplicate_1 rfl rfl rfl (by decide +kernel) ⟨Nat.le_of_ble_eq_true rfl, Nat.le_of_ble_eq_true rfl⟩) hPc hDc hKc hS hA hN (va_recv hKc hPc (ci := 11) (q0 := 0) rfl rfl) rfl hl.1 rfl (Nat.le_of_ble_eq_true rfl) dX5_duplicate_76 (fun H locs hP1 hD1 hk1 hS => ?_)
      obtain ⟨hP, hD⟩ := dn_X5_14 hP hD hzA hk1 hP1 hD1
      obtain ⟨s14, es14, h⟩ := nd_let_e h
      have hP : va_P (dC, dI) vwCl (dw_X5 a ac s14) H := by rw [es14]; exact hP
      have hD : va_D A (dw_X5 a ac s14) := by rw [es14]; exact hD
      refine lv_aload_n hx hb dX5_duplicate_79 rfl (lv_at hl 1 rfl) ?_
      refine va_get (D := (dC, dI)) (ci := 6) (v := .ref (a 14)) (C := RX5) (T := TX5) (N := 8) hx hb hts hi_dm_X5_duplicate_X5 hown hK hP 0 rfl rfl 1 (by decide) (hts (.fieldLink RX5 28 "TimeMachine$Kernel" "things" "LTimeMachine$Things;") (List.mem_of_getElem? (i := 2) rfl)) (fun _ h9 => h9) rfl dX5_duplicate_80 ?_
      refine lv_iload_n hx hb dX5_duplicate_83 rfl (lv_at hl 2 rfl) ?_
      refine lv_iload hx hb dX5_duplicate_84 (lv_at hl 0 rfl) ?_
      refine lv_iload hx hb dX5_duplicate_86 (lv_at hl 4 rfl) ?_
      obtain ⟨s16, hq, h⟩ := nd_b1_e h
      have hPc := dp_X5_14 hP
      have hDc := dd_X5_14 hD
      have hKc := dy_X5_14 hK
      have hFc := nd_rs hDc hS hA
      have hzA : ∀ q : Nat, H.size ≤ q → A q := fun q h => hA q (Nat.le_trans hS.1 h)
      refine nd_cVv (As := [.int x1, .int y0, .int x4]) (rest := []) (w' := dw_X10 (fun k => a (k + 14)) (fun k => ac (k + 14)) s16) ⟨hx, hb, hml, hown, hts⟩ (fun sz => dm_X10_linkTo l hlt dC dI (fun k => a (k + 14)) (fun k => ac (k + 14)) n (x1) (y0) (x4) s14.2.2.2 hq sz) (cwV 3 hts gi_dm_X5_duplicate_2 rfl rfl rfl (by decide +kernel) ⟨Nat.le_of_ble_eq_true rfl, Nat.le_of_ble_eq_true rfl⟩) hPc hDc hKc hS hA hN (va_recv hKc hPc (ci := 11) (q0 := 0) rfl rfl) rfl hl.1 rfl (Nat.le_of_ble_eq_true rfl) dX5_duplicate_88 (fun H locs hP1 hD1 hk1 hS => ?_)
      obtain ⟨hP, hD⟩ := dn_X5_14 hP hD hzA hk1 hP1 hD1
      obtain ⟨s18, es18, h⟩ := nd_let_e h
      have hP : va_P (dC, dI) vwCl (dw_X5 a ac s18) H := by rw [es18]; exact hP
      have hD : va_D A (dw_X5 a ac s18) := by rw [es18]; exact hD
      exact (db_X5_duplicate_91 C K) (y0) s18 _ _ _ h hP hD hS (lv_sub hl [0] rfl)
  · have h := nd_neg h c9
    refine lv_ldc2 hx hb hown (hts (.constantLong RX5 228 (-4)) (List.mem_of_getElem? (i := 13) rfl)) dX5_duplicate_59 ?_
    exact K _ _ _ _ _ _ dX5_duplicate_62 (Option.some.inj h).symm hP hD hS
set_option maxHeartbeats 40000000 in
set_option maxRecDepth 100000 in
theorem db_X5_duplicate_0 {p : Program} {l : Launch} {e : Env} {s : State} {m : MethodId} {args : Array Value} {below : List Frame} {meth : Method} {c : Code} {Q : State → Prop} {A : Nat → Prop} {dC : Nat → ClassId} {dI : Nat → Nat → Nat} {a : Nat → Nat} {ac : Nat → ClassId} {n : Nat} {r : Int64 × (St × (St × (St × (St))))} (C : nd_C p l s m args c A (dC, dI) cX5_duplicate 6 RX5 ow_dm_X5_duplicate (dk_X5 ac)) (K : nd_Kl p l e (headSpec ow_dm_X5_duplicate ({ frames := 2, cells := 0, slots := 0, locals := 46 })).room s m args below meth c Q A (dC, dI) cX5_duplicate (St × (St × (St × (St)))) (dw_X5 a ac) r) : dj_X5_duplicate_0 p l e s m args below meth c Q A dC dI a ac (df_X5_duplicate_0 n) r := by
  obtain ⟨hlt, hx, hb, hml, hown, hts, hN, hA, hK⟩ := id C
  intro v0 v1 v2 s0 H locs ls h hP hD hS hl
  unfold df_X5_duplicate_0 at h
  refine lv_iload_n hx hb dX5_duplicate_0 rfl (lv_at hl 3 rfl) ?_
  refine lv_iconst (v := (-1)) hx hb dX5_duplicate_1 (by decide) ?_
  refine lv_icmp_lt (tgt := 11) hx hb dX5_duplicate_2 (by decide) (fun c1 => ?_) (fun c1 => ?_)
  · have h := nd_pos h c1
    exact (db_X5_duplicate_11 C K)  s0 _ _ _ h hP hD hS (lv_sub hl [] rfl)
  · have h := nd_neg h c1
    refine lv_iload_n hx hb dX5_duplicate_5 rfl (lv_at hl 3 rfl) ?_
    refine lv_bipush (v := 16) hx hb dX5_duplicate_6 (by decide) ?_
    refine lv_icmp_lt (tgt := 15) hx hb dX5_duplicate_8 (by decide) (fun c2 => ?_) (fun c2 => ?_)
    · have h := nd_pos h c2
      refine lv_aload_n hx hb dX5_duplicate_15 rfl (lv_at hl 0 rfl) ?_
      refine va_get (D := (dC, dI)) (ci := 6) (v := .ref (a 14)) (C := RX5) (T := TX5) (N := 8) hx hb hts hi_dm_X5_duplicate_X5 hown hK hP 0 rfl rfl 1 (by decide) (hts (.fieldLink RX5 28 "TimeMachine$Kernel" "things" "LTimeMachine$Things;") (List.mem_of_getElem? (i := 2) rfl)) (fun _ h9 => h9) rfl dX5_duplicate_16 ?_
      refine lv_iload_n hx hb dX5_duplicate_19 rfl (lv_at hl 1 rfl) ?_
      refine lv_iload_n hx hb dX5_duplicate_20 rfl (lv_at hl 2 rfl) ?_
      obtain ⟨q3, s4, hq, h⟩ := nd_b2_e h
      have hPc := dp_X5_14 hP
      have hDc := dd_X5_14 hD
      have hKc := dy_X5_14 hK
      have hFc := nd_rs hDc hS hA
      have hzA : ∀ q : Nat, H.size ≤ q → A q := fun q h => hA q (Nat.le_trans hS.1 h)
      refine nd_cVi (As := [.int v0, .int v1]) (rest := []) (q := q3) (w' := dw_X10 (fun k => a (k + 14)) (fun k => ac (k + 14)) s4) ⟨hx, hb, hml, hown, hts⟩ (fun sz => dm_X10_openingOf l hlt dC dI (fun k => a (k + 14)) (fun k => ac (k + 14)) n (v0) (v1) s0.2.2.2 hq sz) (cwV 2 hts gi_dm_X5_duplicate_0 rfl rfl rfl (by decide +kernel) ⟨Nat.le_of_ble_eq_true rfl, Nat.le_of_ble_eq_true rfl⟩) hPc hDc hKc hS hA hN (va_recv hKc hPc (ci := 11) (q0 := 0) rfl rfl) rfl hl.1 rfl (Nat.le_of_ble_eq_true rfl) dX5_duplicate_21 (fun H locs hP1 hD1 hk1 hS => ?_)
      obtain ⟨hP, hD⟩ := dn_X5_14 hP hD hzA hk1 hP1 hD1
      obtain ⟨s6, es6, h⟩ := nd_let_e h
      have hP : va_P (dC, dI) vwCl (dw_X5 a ac s6) H := by rw [es6]; exact hP
      have hD : va_D A (dw_X5 a ac s6) := by rw [es6]; exact hD
      refine lv_istore (lv' := [(4, .int q3), (0, .ref (a 0)), (1, .int v0), (2, .int v1), (3, .int v2)]) hx hb dX5_duplicate_24 hl (by decide) rfl (fun ls hl => ?_)
      refine lv_iload hx hb dX5_duplicate_26 (lv_at hl 0 rfl) ?_
      refine lv_if_ge (tgt := 35) hx hb dX5_duplicate_28 (by decide) (fun c7 => ?_) (fun c7 => ?_)
      · have h := nd_pos h c7
        refine lv_iload_n hx hb dX5_duplicate_35 rfl (lv_at hl 4 rfl) ?_
        refine lv_if_ge (tgt := 51) hx hb dX5_duplicate_36 (by decide) (fun c8 => ?_) (fun c8 => ?_)
        · have h := nd_pos h c8
          refine lv_iload_n hx hb dX5_duplicate_51 rfl (lv_at hl 4 rfl) ?_
          exact (db_X5_duplicate_52 C K) (v0) (v1) (q3) (v2) s6 _ _ _ h hP hD hS (lv_sub hl [1, 2, 3, 0] rfl)
        · have h := nd_neg h c8
          refine lv_aload_n hx hb dX5_duplicate_39 rfl (lv_at hl 1 rfl) ?_
          refine va_get (D := (dC, dI)) (ci := 6) (v := .ref (a 14)) (C := RX5) (T := TX5) (N := 8) hx hb hts hi_dm_X5_duplicate_X5 hown hK hP 0 rfl rfl 1 (by decide) (hts (.fieldLink RX5 28 "TimeMachine$Kernel" "things" "LTimeMachine$Things;") (List.mem_of_getElem? (i := 2) rfl)) (fun _ h9 => h9) rfl dX5_duplicate_40 ?_
          refine lv_iload_n hx hb dX5_duplicate_43 rfl (lv_at hl 2 rfl) ?_
          refine lv_iconst (v := 0) hx hb dX5_duplicate_44 (by decide) ?_
          obtain ⟨q19, s20, hq, h⟩ := nd_b2_e h
          have hPc := dp_X5_14 hP
          have hDc := dd_X5_14 hD
          have hKc := dy_X5_14 hK
          have hFc := nd_rs hDc hS hA
          have hzA : ∀ q : Nat, H.size ≤ q → A q := fun q h => hA q (Nat.le_trans hS.1 h)
          refine nd_cVi (As := [.int v0, .int 0]) (rest := []) (q := q19) (w' := dw_X10 (fun k => a (k + 14)) (fun k => ac (k + 14)) s20) ⟨hx, hb, hml, hown, hts⟩ (fun sz => dm_X10_freeLink l hlt dC dI (fun k => a (k + 14)) (fun k => ac (k + 14)) n (v0) (0) s6.2.2.2 hq sz) (cwV 2 hts gi_dm_X5_duplicate_3 rfl rfl rfl (by decide +kernel) ⟨Nat.le_of_ble_eq_true rfl, Nat.le_of_ble_eq_true rfl⟩) hPc hDc hKc hS hA hN (va_recv hKc hPc (ci := 11) (q0 := 0) rfl rfl) rfl hl.1 rfl (Nat.le_of_ble_eq_true rfl) dX5_duplicate_45 (fun H locs hP1 hD1 hk1 hS => ?_)
          obtain ⟨hP, hD⟩ := dn_X5_14 hP hD hzA hk1 hP1 hD1
          obtain ⟨s22, es22, h⟩ := nd_let_e h
          have hP : va_P (dC, dI) vwCl (dw_X5 a ac s22) H := by rw [es22]; exact hP
          have hD : va_D A (dw_X5 a ac s22) := by rw [es22]; exact hD
          refine lv_goto (tgt := 52) hx hb dX5_duplicate_48 (by decide) ?_
          exact (db_X5_duplicate_52 C K) (v0) (v1) (q3) (q19) s22 _ _ _ h hP hD hS (lv_sub hl [1, 2, 3, 0] rfl)
      · have h := nd_neg h c7
        refine lv_ldc2 hx hb hown (hts (.constantLong RX5 294 (-1)) (List.mem_of_getElem? (i := 17) rfl)) dX5_duplicate_31 ?_
        exact K _ _ _ _ _ _ dX5_duplicate_34 (Option.some.inj h).symm hP hD hS
    · have h := nd_neg h c2
      exact (db_X5_duplicate_11 C K)  s0 _ _ _ h hP hD hS (lv_sub hl [] rfl)
set_option maxHeartbeats 40000000 in
set_option maxRecDepth 100000 in
theorem dm_X5_duplicate (l : Launch) (hlt : l.stackTraces = false) (dC : Nat → ClassId) (dI : Nat → Nat → Nat) (a : Nat → Nat) (ac : Nat → ClassId) (n : Nat) (v0 : Int32) (v1 : Int32) (v2 : Int32) (s0 : St × (St × (St × (St)))) {r : Int64 × (St × (St × (St × (St))))} (h : df_X5_duplicate n v0 v1 v2 s0 = some r) (sz : Nat) : Met l yX5_duplicate ow_dm_X5_duplicate ({ frames := 2, cells := 0, slots := 0, locals := 46 }) (va_Pc [.ref (a 0), .int v0, .int v1, .int v2] (fun U => U.heap.size = sz ∧ va_P (dC, dI) vwCl (dw_X5 a ac s0) U.heap ∧ va_K (dC, dI) vwCl (dk_X5 ac) U ∧ va_D (fun _ => True) (dw_X5 a ac s0) ∧ nv_E dI (va_A (dw_X5 a ac s0) sz) U)) (va_Ql (fun x _ => x = r.1) (fun (_ : Unit) t => va_P (dC, dI) vwCl (dw_X5 a ac r.2) t.heap ∧ va_K (dC, dI) vwCl (dk_X5 ac) t ∧ va_D (va_A (dw_X5 a ac s0) sz) (dw_X5 a ac r.2)) (va_A (dw_X5 a ac s0) sz)) 0 0 (va_A (dw_X5 a ac s0) sz) := by
  refine Met.ofW (cc := cX5_duplicate) (maxL := 6) (ret := (some .long)) (by decide) rfl ?_
  intro p e s m args below meth c s₁ B hml hv
  obtain ⟨rfl, hsz, hP, hK, hD0, hN⟩ := hv
  have hx := B.exec
  have hb := B.bytes
  have hr := B.returns
  have hts := atoms_spec (ws := ow_dm_X5_duplicate) B.pre
  have hown : s.vm.findClass RX5 = some m.cls := findClass_of_methodNamed B.named
  have hlocks := B.notSynchronized
  subst hsz
  have hD := hD0.self (sz := s.heap.size)
  generalize hAe : va_A (dw_X5 a ac s0) s.heap.size = A at hD hN ⊢
  have hA : ∀ q : Nat, s.heap.size ≤ q → A q := fun q h => by rw [← hAe]; exact Or.inr h
  have hl := lv_entry ([.ref (a 0), .int v0, .int v1, .int v2]) (n := 6) (Nat.le_of_ble_eq_true rfl)
  rw [lg_entry_eq]
  generalize (lg_sl ([.ref (a 0), .int v0, .int v1, .int v2]) ++ List.replicate (6 - (lg_sl ([.ref (a 0), .int v0, .int v1, .int v2])).length) Slot.unset).toArray = ls at hl ⊢
  have hl : lv_has ls 6 [(0, .ref (a 0)), (1, .int v0), (2, .int v1), (3, .int v2)] := hl
  exact db_X5_duplicate_0 (dC := dC) (dI := dI) (a := a) (ac := ac) (n := n) (r := r) ⟨hlt, hx, hb, hml, hown, hts, hN, hA, hK⟩ (fun pc v τ H locs ls d er hP hD hS => by subst er; exact W.lret (v := v) hx hb hr (fun t ht hW => ⟨⟨v, (), rfl, rfl, by rw [ht]; exact hP, va_K.moved hW.alike hK, hD⟩, hS.F ht⟩) hS.2.2 d) v0 v1 v2 s0 _ _ _ h hP hD va_S.rf (lv_sub hl [0, 1, 2, 3] rfl)
def ow_dm_X5_readName_t1 : List Cond := Cond.code yX5_readName cX5_readName 8 (some .int) :: ([Cond.methodLink RX5 332 yJ7_fill_031fb, Cond.static yJ7_fill_031fb, Cond.initialized RJ7, Cond.fieldLink RX5 18 "TimeMachine$Kernel" "machine" "LTimeMachine$Machine;", Cond.methodLink RX5 338 yX6_may, Cond.instanceMethod yX6_may, Cond.selects RX6 yX6_may yX6_may, Cond.initialized RX6, Cond.methodLink RX5 318 yX6_byteAt, Cond.instanceMethod yX6_byteAt, Cond.selects RX6 yX6_byteAt yX6_byteAt] ++ (u_ws RX5 TX5 8 ++ (ow_dm_J7_fill_031fb ++ (ow_dm_X6_may ++ (ow_dm_X6_byteAt ++ [])))))
theorem gd_dm_X5_readName_t1 : ∀ w ∈ ow_dm_X5_readName_t1, (w.onTables && w.keeps) = true ∨ ∃ ty, w = Cond.arrayClass ty := List.forall_mem_cons.mpr ⟨good_of_word rfl, List.forall_mem_append.mpr ⟨fun w h => good_of_word (List.all_eq_true.mp (by decide +kernel) w h), List.forall_mem_append.mpr ⟨gu_X5, List.forall_mem_append.mpr ⟨gd_dm_J7_fill_031fb, List.forall_mem_append.mpr ⟨gd_dm_X6_may, List.forall_mem_append.mpr ⟨gd_dm_X6_byteAt, fun _ h => nomatch h⟩⟩⟩⟩⟩⟩
theorem hi_dm_X5_readName_t1_X5 : ∀ w ∈ u_ws RX5 TX5 8, w ∈ ow_dm_X5_readName_t1 := fun w h => List.mem_cons_of_mem _ (List.mem_append_right _ (List.mem_append_left _ h))
theorem gi_dm_X5_readName_t1_0 : GoodIn ow_dm_X5_readName_t1 (va_wsS RX5 332 yJ7_fill_031fb ow_dm_J7_fill_031fb) := goodIn_app (goodIn_of _ (by decide +kernel)) (fun w h => ⟨List.mem_cons_of_mem _ (List.mem_append_right _ (List.mem_append_right _ (List.mem_append_left _ h))), gd_dm_J7_fill_031fb w h⟩)
theorem gi_dm_X5_readName_t1_1 : GoodIn ow_dm_X5_readName_t1 (wsV RX5 338 RX6 yX6_may ow_dm_X6_may) := goodIn_app (goodIn_of _ (by decide +kernel)) (fun w h => ⟨List.mem_cons_of_mem _ (List.mem_append_right _ (List.mem_append_right _ (List.mem_append_right _ (List.mem_append_left _ h)))), gd_dm_X6_may w h⟩)
theorem gi_dm_X5_readName_t1_2 : GoodIn ow_dm_X5_readName_t1 (wsV RX5 318 RX6 yX6_byteAt ow_dm_X6_byteAt) := goodIn_app (goodIn_of _ (by decide +kernel)) (fun w h => ⟨List.mem_cons_of_mem _ (List.mem_append_right _ (List.mem_append_right _ (List.mem_append_right _ (List.mem_append_right _ (List.mem_append_left _ h))))), gd_dm_X6_byteAt w h⟩)
def dj_X5_readName_t1_126 (p : Program) (l : Launch) (e : Env) (s : State) (m : MethodId) (args : Array Value) (below : List Frame) (meth : Method) (c : Code) (Q : State → Prop) (A : Nat → Prop) (dC : Nat → ClassId) (dI : Nat → Nat → Nat) (a : Nat → Nat) (ac : Nat → ClassId) (g : Int32 → (St × (St × (St × (St)))) → Option (Int32 × (St × (St × (St × (St)))))) (r : Int32 × (St × (St × (St × (St))))) : Prop := ∀ (y0 : Int32) (s0 : St × (St × (St × (St)))) (H : Heap) (locs : List Loc) (ls : Array Slot), g y0 s0 = some r → va_P (dC, dI) vwCl (dw_X5 a ac s0) H → va_D A (dw_X5 a ac s0) → va_S A s.heap H locs → lv_has ls 8 [] → W p l e (headSpec ow_dm_X5_readName_t1 ({ frames := 1, cells := 0, slots := 0, locals := 23 })).room s m args below meth c H locs 0 0 Q (F0 m 126 ls [.int y0])
def dj_X5_readName_t1_124 (p : Program) (l : Launch) (e : Env) (s : State) (m : MethodId) (args : Array Value) (below : List Frame) (meth : Method) (c : Code) (Q : State → Prop) (A : Nat → Prop) (dC : Nat → ClassId) (dI : Nat → Nat → Nat) (a : Nat → Nat) (ac : Nat → ClassId) (g : (St × (St × (St × (St)))) → Option (Int32 × (St × (St × (St × (St)))))) (r : Int32 × (St × (St × (St × (St))))) : Prop := ∀ (s0 : St × (St × (St × (St)))) (H : Heap) (locs : List Loc) (ls : Array Slot), g s0 = some r → va_P (dC, dI) vwCl (dw_X5 a ac s0) H → va_D A (dw_X5 a ac s0) → va_S A s.heap H locs → lv_has ls 8 [] → W p l e (headSpec ow_dm_X5_readName_t1 ({ frames := 1, cells := 0, slots := 0, locals := 23 })).room s m args below meth c H locs 0 0 Q (F0 m 124 ls [])
def dj_X5_readName_t1_110 (p : Program) (l : Launch) (e : Env) (s : State) (m : MethodId) (args : Array Value) (below : List Frame) (meth : Method) (c : Code) (Q : State → Prop) (A : Nat → Prop) (dC : Nat → ClassId) (dI : Nat → Nat → Nat) (a : Nat → Nat) (ac : Nat → ClassId) (g : Int32 → Int32 → (St × (St × (St × (St)))) → Option (Int32 × (St × (St × (St × (St)))))) (r : Int32 × (St × (St × (St × (St))))) : Prop := ∀ (x4 : Int32) (x5 : Int32) (s0 : St × (St × (St × (St)))) (H : Heap) (locs : List Loc) (ls : Array Slot), g x4 x5 s0 = some r → va_P (dC, dI) vwCl (dw_X5 a ac s0) H → va_D A (dw_X5 a ac s0) → va_S A s.heap H locs → lv_has ls 8 [(4, .int x4), (5, .int x5)] → W p l e (headSpec ow_dm_X5_readName_t1 ({ frames := 1, cells := 0, slots := 0, locals := 23 })).room s m args below meth c H locs 0 0 Q (F0 m 110 ls [])
def dj_X5_readName_t1_104 (p : Program) (l : Launch) (e : Env) (s : State) (m : MethodId) (args : Array Value) (below : List Frame) (meth : Method) (c : Code) (Q : State → Prop) (A : Nat → Prop) (dC : Nat → ClassId) (dI : Nat → Nat → Nat) (a : Nat → Nat) (ac : Nat → ClassId) (g : Int32 → Int32 → Int32 → Int32 → Int32 → (St × (St × (St × (St)))) → Option (Int32 × (St × (St × (St × (St)))))) (r : Int32 × (St × (St × (St × (St))))) : Prop := ∀ (x1 : Int32) (x2 : Int32) (x4 : Int32) (x5 : Int32) (x6 : Int32) (s0 : St × (St × (St × (St)))) (H : Heap) (locs : List Loc) (ls : Array Slot), g x1 x2 x4 x5 x6 s0 = some r → va_P (dC, dI) vwCl (dw_X5 a ac s0) H → va_D A (dw_X5 a ac s0) → va_S A s.heap H locs → lv_has ls 8 [(0, .ref (a 0)), (1, .int x1), (2, .int x2), (3, .ref (a 1)), (4, .int x4), (5, .int x5), (6, .int x6)] → W p l e (headSpec ow_dm_X5_readName_t1 ({ frames := 1, cells := 0, slots := 0, locals := 23 })).room s m args below meth c H locs 0 0 Q (F0 m 104 ls [])
def dj_X5_readName_t1_95 (p : Program) (l : Launch) (e : Env) (s : State) (m : MethodId) (args : Array Value) (below : List Frame) (meth : Method) (c : Code) (Q : State → Prop) (A : Nat → Prop) (dC : Nat → ClassId) (dI : Nat → Nat → Nat) (a : Nat → Nat) (ac : Nat → ClassId) (g : Int32 → Int32 → Int32 → Int32 → Int32 → Int32 → (St × (St × (St × (St)))) → Option (Int32 × (St × (St × (St × (St)))))) (r : Int32 × (St × (St × (St × (St))))) : Prop := ∀ (x1 : Int32) (x2 : Int32) (x4 : Int32) (x6 : Int32) (x7 : Int32) (y0 : Int32) (s0 : St × (St × (St × (St)))) (H : Heap) (locs : List Loc) (ls : Array Slot), g x1 x2 x4 x6 x7 y0 s0 = some r → va_P (dC, dI) vwCl (dw_X5 a ac s0) H → va_D A (dw_X5 a ac s0) → va_S A s.heap H locs → lv_has ls 8 [(0, .ref (a 0)), (1, .int x1), (2, .int x2), (3, .ref (a 1)), (4, .int x4), (6, .int x6), (7, .int x7)] → W p l e (headSpec ow_dm_X5_readName_t1 ({ frames := 1, cells := 0, slots := 0, locals := 23 })).room s m args below meth c H locs 0 0 Q (F0 m 95 ls [.int y0])
def dj_X5_readName_t1_94 (p : Program) (l : Launch) (e : Env) (s : State) (m : MethodId) (args : Array Value) (below : List Frame) (meth : Method) (c : Code) (Q : State → Prop) (A : Nat → Prop) (dC : Nat → ClassId) (dI : Nat → Nat → Nat) (a : Nat → Nat) (ac : Nat → ClassId) (g : Int32 → Int32 → Int32 → Int32 → Int32 → (St × (St × (St × (St)))) → Option (Int32 × (St × (St × (St × (St)))))) (r : Int32 × (St × (St × (St × (St))))) : Prop := ∀ (x1 : Int32) (x2 : Int32) (x4 : Int32) (x6 : Int32) (x7 : Int32) (s0 : St × (St × (St × (St)))) (H : Heap) (locs : List Loc) (ls : Array Slot), g x1 x2 x4 x6 x7 s0 = some r → va_P (dC, dI) vwCl (dw_X5 a ac s0) H → va_D A (dw_X5 a ac s0) → va_S A s.heap H locs → lv_has ls 8 [(0, .ref (a 0)), (1, .int x1), (2, .int x2), (3, .ref (a 1)), (4, .int x4), (6, .int x6), (7, .int x7)] → W p l e (headSpec ow_dm_X5_readName_t1 ({ frames := 1, cells := 0, slots := 0, locals := 23 })).room s m args below meth c H locs 0 0 Q (F0 m 94 ls [])
def dj_X5_readName_t1_14 (p : Program) (l : Launch) (e : Env) (s : State) (m : MethodId) (args : Array Value) (below : List Frame) (meth : Method) (c : Code) (Q : State → Prop) (A : Nat → Prop) (dC : Nat → ClassId) (dI : Nat → Nat → Nat) (a : Nat → Nat) (ac : Nat → ClassId) (g : Int32 → Int32 → Int32 → Int32 → Int32 → (St × (St × (St × (St)))) → Option (Int32 × (St × (St × (St × (St)))))) (r : Int32 × (St × (St × (St × (St))))) : Prop := ∀ (x1 : Int32) (x2 : Int32) (x4 : Int32) (x5 : Int32) (x6 : Int32) (s0 : St × (St × (St × (St)))) (H : Heap) (locs : List Loc) (ls : Array Slot), g x1 x2 x4 x5 x6 s0 = some r → va_P (dC, dI) vwCl (dw_X5 a ac s0) H → va_D A (dw_X5 a ac s0) → va_S A s.heap H locs → lv_has ls 8 [(0, .ref (a 0)), (1, .int x1), (2, .int x2), (3, .ref (a 1)), (4, .int x4), (5, .int x5), (6, .int x6)] → W p l e (headSpec ow_dm_X5_readName_t1 ({ frames := 1, cells := 0, slots := 0, locals := 23 })).room s m args below meth c H locs 0 0 Q (F0 m 14 ls [])
def dj_X5_readName_t1_0 (p : Program) (l : Launch) (e : Env) (s : State) (m : MethodId) (args : Array Value) (below : List Frame) (meth : Method) (c : Code) (Q : State → Prop) (A : Nat → Prop) (dC : Nat → ClassId) (dI : Nat → Nat → Nat) (a : Nat → Nat) (ac : Nat → ClassId) (g : Int32 → Int32 → (St × (St × (St × (St)))) → Option (Int32 × (St × (St × (St × (St)))))) (r : Int32 × (St × (St × (St × (St))))) : Prop := ∀ (v0 : Int32) (v1 : Int32) (s0 : St × (St × (St × (St)))) (H : Heap) (locs : List Loc) (ls : Array Slot), g v0 v1 s0 = some r → va_P (dC, dI) vwCl (dw_X5 a ac s0) H → va_D A (dw_X5 a ac s0) → va_S A s.heap H locs → lv_has ls 8 [(0, .ref (a 0)), (1, .int v0), (2, .int v1), (3, .ref (a 1))] → W p l e (headSpec ow_dm_X5_readName_t1 ({ frames := 1, cells := 0, slots := 0, locals := 23 })).room s m args below meth c H locs 0 0 Q (F0 m 0 ls [])
set_option maxHeartbeats 40000000 in
set_option maxRecDepth 100000 in
theorem db_X5_readName_t1_126 {p : Program} {l : Launch} {e : Env} {s : State} {m : MethodId} {args : Array Value} {below : List Frame} {meth : Method} {c : Code} {Q : State → Prop} {A : Nat → Prop} {dC : Nat → ClassId} {dI : Nat → Nat → Nat} {a : Nat → Nat} {ac : Nat → ClassId} {n : Nat} {r : Int32 × (St × (St × (St × (St))))} (C : nd_C p l s m args c A (dC, dI) cX5_readName 8 RX5 ow_dm_X5_readName_t1 (dk_X5 ac)) (K : nd_Ki p l e (headSpec ow_dm_X5_readName_t1 ({ frames := 1, cells := 0, slots := 0, locals := 23 })).room s m args below meth c Q A (dC, dI) cX5_readName .int (St × (St × (St × (St)))) (dw_X5 a ac) r) : dj_X5_readName_t1_126 p l e s m args below meth c Q A dC dI a ac (df_X5_readName_t1_126 n) r := by
  obtain ⟨hlt, hx, hb, hml, hown, hts, hN, hA, hK⟩ := id C
  intro y0 s0 H locs ls h hP hD hS hl
  unfold df_X5_readName_t1_126 at h
  exact K _ _ _ _ _ _ dX5_readName_126 rfl (Option.some.inj h).symm hP hD hS
set_option maxHeartbeats 40000000 in
set_option maxRecDepth 100000 in
theorem db_X5_readName_t1_124 {p : Program} {l : Launch} {e : Env} {s : State} {m : MethodId} {args : Array Value} {below : List Frame} {meth : Method} {c : Code} {Q : State → Prop} {A : Nat → Prop} {dC : Nat → ClassId} {dI : Nat → Nat → Nat} {a : Nat → Nat} {ac : Nat → ClassId} {n : Nat} {r : Int32 × (St × (St × (St × (St))))} (C : nd_C p l s m args c A (dC, dI) cX5_readName 8 RX5 ow_dm_X5_readName_t1 (dk_X5 ac)) (K : nd_Ki p l e (headSpec ow_dm_X5_readName_t1 ({ frames := 1, cells := 0, slots := 0, locals := 23 })).room s m args below meth c Q A (dC, dI) cX5_readName .int (St × (St × (St × (St)))) (dw_X5 a ac) r) : dj_X5_readName_t1_124 p l e s m args below meth c Q A dC dI a ac (df_X5_readName_t1_124 n) r := by
  obtain ⟨hlt, hx, hb, hml, hown, hts, hN, hA, hK⟩ := id C
  intro s0 H locs ls h hP hD hS hl
  unfold df_X5_readName_t1_124 at h
  refine lv_bipush (v := (-22)) hx hb dX5_readName_124 (by decide) ?_
  exact (db_X5_readName_t1_126 C K) ((-22)) s0 _ _ _ h hP hD hS (lv_sub hl [] rfl)
set_option maxHeartbeats 40000000 in
set_option maxRecDepth 100000 in
theorem db_X5_readName_t1_110 {p : Program} {l : Launch} {e : Env} {s : State} {m : MethodId} {args : Array Value} {below : List Frame} {meth : Method} {c : Code} {Q : State → Prop} {A : Nat → Prop} {dC : Nat → ClassId} {dI : Nat → Nat → Nat} {a : Nat → Nat} {ac : Nat → ClassId} {n : Nat} {r : Int32 × (St × (St × (St × (St))))} (C : nd_C p l s m args c A (dC, dI) cX5_readName 8 RX5 ow_dm_X5_readName_t1 (dk_X5 ac)) (K : nd_Ki p l e (headSpec ow_dm_X5_readName_t1 ({ frames := 1, cells := 0, slots := 0, locals := 23 })).room s m args below meth c Q A (dC, dI) cX5_readName .int (St × (St × (St × (St)))) (dw_X5 a ac) r) : dj_X5_readName_t1_110 p l e s m args below meth c Q A dC dI a ac (df_X5_readName_t1_110 n) r := by
  obtain ⟨hlt, hx, hb, hml, hown, hts, hN, hA, hK⟩ := id C
  intro x4 x5 s0 H locs ls h hP hD hS hl
  unfold df_X5_readName_t1_110 at h
  refine lv_iload hx hb dX5_readName_110 (lv_at hl 1 rfl) ?_
  refine lv_if_eq (tgt := 124) hx hb dX5_readName_112 (by decide) (fun c3 => ?_) (fun c3 => ?_)
  · have h := nd_pos h c3
    exact (db_X5_readName_t1_124 C K)  s0 _ _ _ h hP hD hS (lv_sub hl [] rfl)
  · have h := nd_neg h c3
    refine lv_iload hx hb dX5_readName_115 (lv_at hl 0 rfl) ?_
    refine lv_if_le (tgt := 124) hx hb dX5_readName_117 (by decide) (fun c4 => ?_) (fun c4 => ?_)
    · have h := nd_pos h c4
      exact (db_X5_readName_t1_124 C K)  s0 _ _ _ h hP hD hS (lv_sub hl [] rfl)
    · have h := nd_neg h c4
      refine lv_iconst (v := 0) hx hb dX5_readName_120 (by decide) ?_
      refine lv_goto (tgt := 126) hx hb dX5_readName_121 (by decide) ?_
      exact (db_X5_readName_t1_126 C K) (0) s0 _ _ _ h hP hD hS (lv_sub hl [] rfl)
set_option maxHeartbeats 40000000 in
set_option maxRecDepth 100000 in
theorem db_X5_readName_t1_104 {p : Program} {l : Launch} {e : Env} {s : State} {m : MethodId} {args : Array Value} {below : List Frame} {meth : Method} {c : Code} {Q : State → Prop} {A : Nat → Prop} {dC : Nat → ClassId} {dI : Nat → Nat → Nat} {a : Nat → Nat} {ac : Nat → ClassId} {n : Nat} {r : Int32 × (St × (St × (St × (St))))} (C : nd_C p l s m args c A (dC, dI) cX5_readName 8 RX5 ow_dm_X5_readName_t1 (dk_X5 ac)) (K : nd_Ki p l e (headSpec ow_dm_X5_readName_t1 ({ frames := 1, cells := 0, slots := 0, locals := 23 })).room s m args below meth c Q A (dC, dI) cX5_readName .int (St × (St × (St × (St)))) (dw_X5 a ac) r) {g14 : Int32 → Int32 → Int32 → Int32 → Int32 → (St × (St × (St × (St)))) → Option (Int32 × (St × (St × (St × (St)))))} (J14 : dj_X5_readName_t1_14 p l e s m args below meth c Q A dC dI a ac g14 r) : dj_X5_readName_t1_104 p l e s m args below meth c Q A dC dI a ac (df_X5_readName_t1_104 n g14) r := by
  obtain ⟨hlt, hx, hb, hml, hown, hts, hN, hA, hK⟩ := id C
  intro x1 x2 x4 x5 x6 s0 H locs ls h hP hD hS hl
  unfold df_X5_readName_t1_104 at h
  obtain ⟨z19, ez19, h⟩ := nd_let_e h
  refine lv_iinc (v := z19) (lv' := [(6, .int z19), (0, .ref (a 0)), (1, .int x1), (2, .int x2), (3, .ref (a 1)), (4, .int x4), (5, .int x5)]) hx hb dX5_readName_104 hl (k := 6) rfl (by rw [ez19]) (by decide) rfl (fun ls hl => ?_)
  refine lv_goto (tgt := 14) hx hb dX5_readName_107 (by decide) ?_
  exact (J14) (x1) (x2) (x4) (x5) (z19) s0 _ _ _ h hP hD hS (lv_sub hl [1, 2, 3, 4, 5, 6, 0] rfl)
set_option maxHeartbeats 40000000 in
set_option maxRecDepth 100000 in
theorem db_X5_readName_t1_95 {p : Program} {l : Launch} {e : Env} {s : State} {m : MethodId} {args : Array Value} {below : List Frame} {meth : Method} {c : Code} {Q : State → Prop} {A : Nat → Prop} {dC : Nat → ClassId} {dI : Nat → Nat → Nat} {a : Nat → Nat} {ac : Nat → ClassId} {n : Nat} {r : Int32 × (St × (St × (St × (St))))} (C : nd_C p l s m args c A (dC, dI) cX5_readName 8 RX5 ow_dm_X5_readName_t1 (dk_X5 ac)) (K : nd_Ki p l e (headSpec ow_dm_X5_readName_t1 ({ frames := 1, cells := 0, slots := 0, locals := 23 })).room s m args below meth c Q A (dC, dI) cX5_readName .int (St × (St × (St × (St)))) (dw_X5 a ac) r) {g14 : Int32 → Int32 → Int32 → Int32 → Int32 → (St × (St × (St × (St)))) → Option (Int32 × (St × (St × (St × (St)))))} (J14 : dj_X5_readName_t1_14 p l e s m args below meth c Q A dC dI a ac g14 r) : dj_X5_readName_t1_95 p l e s m args below meth c Q A dC dI a ac (df_X5_readName_t1_95 n g14) r := by
  obtain ⟨hlt, hx, hb, hml, hown, hts, hN, hA, hK⟩ := id C
  intro x1 x2 x4 x6 x7 y0 s0 H locs ls h hP hD hS hl
  unfold df_X5_readName_t1_95 at h
  refine lv_istore (lv' := [(5, .int y0), (0, .ref (a 0)), (1, .int x1), (2, .int x2), (3, .ref (a 1)), (4, .int x4), (6, .int x6), (7, .int x7)]) hx hb dX5_readName_95 hl (by decide) rfl (fun ls hl => ?_)
  refine lv_aload_n hx hb dX5_readName_97 rfl (lv_at hl 4 rfl) ?_
  refine lv_iload hx hb dX5_readName_98 (lv_at hl 6 rfl) ?_
  refine lv_iload hx hb dX5_readName_100 (lv_at hl 7 rfl) ?_
  refine lv_i2b hx hb dX5_readName_102 rfl ?_
  obtain ⟨i17, h⟩ := nd_ck_e h
  refine va_bast (i := x6) (x := (x7.toInt8.toInt32)) hx hb hK hP hD hS 1 0 rfl rfl i17 dX5_readName_103 (fun H locs hP hD hS => ?_)
  obtain ⟨s18, es18, h⟩ := nd_let_e h
  have hP : va_P (dC, dI) vwCl (dw_X5 a ac s18) H := by rw [es18]; exact hP
  have hD : va_D A (dw_X5 a ac s18) := by rw [es18]; exact hD
  exact (db_X5_readName_t1_104 C K J14) (x1) (x2) (x4) (y0) (x6) s18 _ _ _ h hP hD hS (lv_sub hl [1, 2, 3, 4, 5, 0, 6] rfl)
set_option maxHeartbeats 40000000 in
set_option maxRecDepth 100000 in
theorem db_X5_readName_t1_94 {p : Program} {l : Launch} {e : Env} {s : State} {m : MethodId} {args : Array Value} {below : List Frame} {meth : Method} {c : Code} {Q : State → Prop} {A : Nat → Prop} {dC : Nat → ClassId} {dI : Nat → Nat → Nat} {a : Nat → Nat} {ac : Nat → ClassId} {n : Nat} {r : Int32 × (St × (St × (St × (St))))} (C : nd_C p l s m args c A (dC, dI) cX5_readName 8 RX5 ow_dm_X5_readName_t1 (dk_X5 ac)) (K : nd_Ki p l e (headSpec ow_dm_X5_readName_t1 ({ frames := 1, cells := 0, slots := 0, locals := 23 })).room s m args below meth c Q A (dC, dI) cX5_readName .int (St × (St × (St × (St)))) (dw_X5 a ac) r) {g14 : Int32 → Int32 → Int32 → Int32 → Int32 → (St × (St × (St × (St)))) → Option (Int32 × (St × (St × (St × (St)))))} (J14 : dj_X5_readName_t1_14 p l e s m args below meth c Q A dC dI a ac g14 r) : dj_X5_readName_t1_94 p l e s m args below meth c Q A dC dI a ac (df_X5_readName_t1_94 n g14) r := by
  obtain ⟨hlt, hx, hb, hml, hown, hts, hN, hA, hK⟩ := id C
  intro x1 x2 x4 x6 x7 s0 H locs ls h hP hD hS hl
  unfold df_X5_readName_t1_94 at h
  refine lv_iconst (v := 0) hx hb dX5_readName_94 (by decide) ?_
  exact (db_X5_readName_t1_95 C K J14) (x1) (x2) (x4) (x6) (x7) (0) s0 _ _ _ h hP hD hS (lv_sub hl [0, 1, 2, 3, 4, 5, 6] rfl)
set_option maxHeartbeats 40000000 in
set_option maxRecDepth 100000 in
theorem dB_X5_readName_t1_14 {p : Program} {l : Launch} {e : Env} {s : State} {m : MethodId} {args : Array Value} {below : List Frame} {meth : Method} {c : Code} {Q : State → Prop} {A : Nat → Prop} {dC : Nat → ClassId} {dI : Nat → Nat → Nat} {a : Nat → Nat} {ac : Nat → ClassId} {n : Nat} {r : Int32 × (St × (St × (St × (St))))} (C : nd_C p l s m args c A (dC, dI) cX5_readName 8 RX5 ow_dm_X5_readName_t1 (dk_X5 ac)) (K : nd_Ki p l e (headSpec ow_dm_X5_readName_t1 ({ frames := 1, cells := 0, slots := 0, locals := 23 })).room s m args below meth c Q A (dC, dI) cX5_readName .int (St × (St × (St × (St)))) (dw_X5 a ac) r) {g14 : Int32 → Int32 → Int32 → Int32 → Int32 → (St × (St × (St × (St)))) → Option (Int32 × (St × (St × (St × (St)))))} (J14 : dj_X5_readName_t1_14 p l e s m args below meth c Q A dC dI a ac g14 r) : dj_X5_readName_t1_14 p l e s m args below meth c Q A dC dI a ac (dF_X5_readName_t1_14 n g14) r := by
  obtain ⟨hlt, hx, hb, hml, hown, hts, hN, hA, hK⟩ := id C
  intro x1 x2 x4 x5 x6 s0 H locs ls h hP hD hS hl
  unfold dF_X5_readName_t1_14 at h
  refine lv_iload hx hb dX5_readName_14 (lv_at hl 6 rfl) ?_
  refine lv_aload_n hx hb dX5_readName_16 rfl (lv_at hl 3 rfl) ?_
  refine va_alen (v := 16) hx hb hK hP 1 0 rfl rfl (show Int32.ofNat 16 = 16 by decide) dX5_readName_17 ?_
  refine lv_icmp_ge (tgt := 110) hx hb dX5_readName_18 (by decide) (fun c2 => ?_) (fun c2 => ?_)
  · have h := nd_pos h c2
    exact (db_X5_readName_t1_110 C K) (x4) (x5) s0 _ _ _ h hP hD hS (lv_sub hl [4, 5] rfl)
  · have h := nd_neg h c2
    refine lv_iload hx hb dX5_readName_21 (lv_at hl 4 rfl) ?_
    refine lv_if_ge (tgt := 110) hx hb dX5_readName_23 (by decide) (fun c5 => ?_) (fun c5 => ?_)
    · have h := nd_pos h c5
      exact (db_X5_readName_t1_110 C K) (x4) (x5) s0 _ _ _ h hP hD hS (lv_sub hl [4, 5] rfl)
    · have h := nd_neg h c5
      refine lv_aload_n hx hb dX5_readName_26 rfl (lv_at hl 0 rfl) ?_
      refine va_get (D := (dC, dI)) (ci := 6) (v := .ref (a 4)) (C := RX5) (T := TX5) (N := 8) hx hb hts hi_dm_X5_readName_t1_X5 hown hK hP 0 rfl rfl 0 (by decide) (hts (.fieldLink RX5 18 "TimeMachine$Kernel" "machine" "LTimeMachine$Machine;") (List.mem_of_getElem? (i := 4) rfl)) (fun _ h9 => h9) rfl dX5_readName_27 ?_
      refine lv_iload_n hx hb dX5_readName_30 rfl (lv_at hl 1 rfl) ?_
      refine lv_iload_n hx hb dX5_readName_31 rfl (lv_at hl 2 rfl) ?_
      refine lv_iload hx hb dX5_readName_32 (lv_at hl 6 rfl) ?_
      refine lv_iadd hx hb dX5_readName_34 ?_
      refine lv_iconst (v := 1) hx hb dX5_readName_35 (by decide) ?_
      obtain ⟨q6, s7, hq, h⟩ := nd_b2_e h
      have hPc := dp_X5_4 hP
      have hDc := dd_X5_4 hD
      have hKc := dy_X5_4 hK
      have hFc := nd_rs hDc hS hA
      have hzA : ∀ q : Nat, H.size ≤ q → A q := fun q h => hA q (Nat.le_trans hS.1 h)
      refine nd_cVi (As := [.int x1, .int (x2 + x6), .int 1]) (rest := []) (q := q6) (w' := dw_X6 (fun k => a (k + 4)) (fun k => ac (k + 4)) s7) ⟨hx, hb, hml, hown, hts⟩ (fun sz => dm_X6_may l hlt dC dI (fun k => a (k + 4)) (fun k => ac (k + 4)) n (x1) ((x2 + x6)) (1) s0.2.2 hq sz) (cwV 3 hts gi_dm_X5_readName_t1_1 rfl rfl rfl (by decide +kernel) ⟨Nat.le_of_ble_eq_true rfl, Nat.le_of_ble_eq_true rfl⟩) hPc hDc hKc hS hA hN (va_recv hKc hPc (ci := 7) (q0 := 0) rfl rfl) rfl hl.1 rfl (Nat.le_of_ble_eq_true rfl) dX5_readName_36 (fun H locs hP1 hD1 hk1 hS => ?_)
      obtain ⟨hP, hD⟩ := dn_X5_4 hP hD hzA hk1 hP1 hD1
      obtain ⟨s9, es9, h⟩ := nd_let_e h
      have hP : va_P (dC, dI) vwCl (dw_X5 a ac s9) H := by rw [es9]; exact hP
      have hD : va_D A (dw_X5 a ac s9) := by rw [es9]; exact hD
      refine lv_if_ne (tgt := 45) hx hb dX5_readName_39 (by decide) (fun c10 => ?_) (fun c10 => ?_)
      · have h := nd_neg h c10
        refine lv_aload_n hx hb dX5_readName_45 rfl (lv_at hl 0 rfl) ?_
        refine va_get (D := (dC, dI)) (ci := 6) (v := .ref (a 4)) (C := RX5) (T := TX5) (N := 8) hx hb hts hi_dm_X5_readName_t1_X5 hown hK hP 0 rfl rfl 0 (by decide) (hts (.fieldLink RX5 18 "TimeMachine$Kernel" "machine" "LTimeMachine$Machine;") (List.mem_of_getElem? (i := 4) rfl)) (fun _ h9 => h9) rfl dX5_readName_46 ?_
        refine lv_iload_n hx hb dX5_readName_49 rfl (lv_at hl 1 rfl) ?_
        refine lv_iload_n hx hb dX5_readName_50 rfl (lv_at hl 2 rfl) ?_
        refine lv_iload hx hb dX5_readName_51 (lv_at hl 6 rfl) ?_
        refine lv_iadd hx hb dX5_readName_53 ?_
        obtain ⟨q11, s12, hq, h⟩ := nd_b2_e h
        have hPc := dp_X5_4 hP
        have hDc := dd_X5_4 hD
        have hKc := dy_X5_4 hK
        have hFc := nd_rs hDc hS hA
        have hzA : ∀ q : Nat, H.size ≤ q → A q := fun q h => hA q (Nat.le_trans hS.1 h)
        refine nd_cVi (As := [.int x1, .int (x2 + x6)]) (rest := []) (q := q11) (w' := dw_X6 (fun k => a (k + 4)) (fun k => ac (k + 4)) s12) ⟨hx, hb, hml, hown, hts⟩ (fun sz => dm_X6_byteAt l hlt dC dI (fun k => a (k + 4)) (fun k => ac (k + 4)) n (x1) ((x2 + x6)) s9.2.2 hq sz) (cwV 2 hts gi_dm_X5_readName_t1_2 rfl rfl rfl (by decide +kernel) ⟨Nat.le_of_ble_eq_true rfl, Nat.le_of_ble_eq_true rfl⟩) hPc hDc hKc hS hA hN (va_recv hKc hPc (ci := 7) (q0 := 0) rfl rfl) rfl hl.1 rfl (Nat.le_of_ble_eq_true rfl) dX5_readName_54 (fun H locs hP1 hD1 hk1 hS => ?_)
        obtain ⟨hP, hD⟩ := dn_X5_4 hP hD hzA hk1 hP1 hD1
        obtain ⟨s14, es14, h⟩ := nd_let_e h
        have hP : va_P (dC, dI) vwCl (dw_X5 a ac s14) H := by rw [es14]; exact hP
        have hD : va_D A (dw_X5 a ac s14) := by rw [es14]; exact hD
        refine lv_istore (lv' := [(7, .int q11), (0, .ref (a 0)), (1, .int x1), (2, .int x2), (3, .ref (a 1)), (4, .int x4), (5, .int x5), (6, .int x6)]) hx hb dX5_readName_57 hl (by decide) rfl (fun ls hl => ?_)
        refine lv_iload hx hb dX5_readName_59 (lv_at hl 0 rfl) ?_
        refine lv_if_ne (tgt := 71) hx hb dX5_readName_61 (by decide) (fun c15 => ?_) (fun c15 => ?_)
        · have h := nd_neg h c15
          refine lv_iload hx hb dX5_readName_71 (lv_at hl 6 rfl) ?_
          refine lv_if_eq (tgt := 94) hx hb dX5_readName_73 (by decide) (fun c16 => ?_) (fun c16 => ?_)
          · have h := nd_pos h c16
            exact (db_X5_readName_t1_94 C K J14) (x1) (x2) (x4) (x6) (q11) s14 _ _ _ h hP hD hS (lv_sub hl [1, 2, 3, 4, 5, 7, 0] rfl)
          · have h := nd_neg h c16
            refine lv_iload hx hb dX5_readName_76 (lv_at hl 0 rfl) ?_
            refine lv_bipush (v := 33) hx hb dX5_readName_78 (by decide) ?_
            refine lv_icmp_lt (tgt := 94) hx hb dX5_readName_80 (by decide) (fun c20 => ?_) (fun c20 => ?_)
            · have h := nd_pos h c20
              exact (db_X5_readName_t1_94 C K J14) (x1) (x2) (x4) (x6) (q11) s14 _ _ _ h hP hD hS (lv_sub hl [1, 2, 3, 4, 5, 7, 0] rfl)
            · have h := nd_neg h c20
              refine lv_iload hx hb dX5_readName_83 (lv_at hl 0 rfl) ?_
              refine lv_bipush (v := 126) hx hb dX5_readName_85 (by decide) ?_
              refine lv_icmp_gt (tgt := 94) hx hb dX5_readName_87 (by decide) (fun c21 => ?_) (fun c21 => ?_)
              · have h := nd_pos h c21
                exact (db_X5_readName_t1_94 C K J14) (x1) (x2) (x4) (x6) (q11) s14 _ _ _ h hP hD hS (lv_sub hl [1, 2, 3, 4, 5, 7, 0] rfl)
              · have h := nd_neg h c21
                refine lv_iconst (v := 1) hx hb dX5_readName_90 (by decide) ?_
                refine lv_goto (tgt := 95) hx hb dX5_readName_91 (by decide) ?_
                exact (db_X5_readName_t1_95 C K J14) (x1) (x2) (x4) (x6) (q11) (1) s14 _ _ _ h hP hD hS (lv_sub hl [1, 2, 3, 4, 5, 7, 0] rfl)
        · have h := nd_pos h c15
          refine lv_iload hx hb dX5_readName_64 (lv_at hl 7 rfl) ?_
          refine lv_istore (lv' := [(4, .int x6), (7, .int q11), (0, .ref (a 0)), (1, .int x1), (2, .int x2), (3, .ref (a 1)), (5, .int x5), (6, .int x6)]) hx hb dX5_readName_66 hl (by decide) rfl (fun ls hl => ?_)
          refine lv_goto (tgt := 104) hx hb dX5_readName_68 (by decide) ?_
          exact (db_X5_readName_t1_104 C K J14) (x1) (x2) (x6) (x5) (x6) s14 _ _ _ h hP hD hS (lv_sub hl [2, 3, 4, 5, 0, 6, 7] rfl)
      · have h := nd_pos h c10
        refine lv_bipush (v := (-14)) hx hb dX5_readName_42 (by decide) ?_
        exact K _ _ _ _ _ _ dX5_readName_44 rfl (Option.some.inj h).symm hP hD hS
set_option maxHeartbeats 40000000 in
set_option maxRecDepth 100000 in
theorem db_X5_readName_t1_14 {p : Program} {l : Launch} {e : Env} {s : State} {m : MethodId} {args : Array Value} {below : List Frame} {meth : Method} {c : Code} {Q : State → Prop} {A : Nat → Prop} {dC : Nat → ClassId} {dI : Nat → Nat → Nat} {a : Nat → Nat} {ac : Nat → ClassId} {n : Nat} {r : Int32 × (St × (St × (St × (St))))} (C : nd_C p l s m args c A (dC, dI) cX5_readName 8 RX5 ow_dm_X5_readName_t1 (dk_X5 ac)) (K : nd_Ki p l e (headSpec ow_dm_X5_readName_t1 ({ frames := 1, cells := 0, slots := 0, locals := 23 })).room s m args below meth c Q A (dC, dI) cX5_readName .int (St × (St × (St × (St)))) (dw_X5 a ac) r) (k : Nat) : dj_X5_readName_t1_14 p l e s m args below meth c Q A dC dI a ac (df_X5_readName_t1_14 n k) r := by
  induction k with
  | zero => intro x1 x2 x4 x5 x6 s0 H locs ls h; exact nomatch (show (none : Option (Int32 × (St × (St × (St × (St)))))) = some r from h)
  | succ k ih => exact dB_X5_readName_t1_14 C K ih
set_option maxHeartbeats 40000000 in
set_option maxRecDepth 100000 in
theorem db_X5_readName_t1_0 {p : Program} {l : Launch} {e : Env} {s : State} {m : MethodId} {args : Array Value} {below : List Frame} {meth : Method} {c : Code} {Q : State → Prop} {A : Nat → Prop} {dC : Nat → ClassId} {dI : Nat → Nat → Nat} {a : Nat → Nat} {ac : Nat → ClassId} {n : Nat} {r : Int32 × (St × (St × (St × (St))))} (C : nd_C p l s m args c A (dC, dI) cX5_readName 8 RX5 ow_dm_X5_readName_t1 (dk_X5 ac)) (K : nd_Ki p l e (headSpec ow_dm_X5_readName_t1 ({ frames := 1, cells := 0, slots := 0, locals := 23 })).room s m args below meth c Q A (dC, dI) cX5_readName .int (St × (St × (St × (St)))) (dw_X5 a ac) r) : dj_X5_readName_t1_0 p l e s m args below meth c Q A dC dI a ac (df_X5_readName_t1_0 n) r := by
  obtain ⟨hlt, hx, hb, hml, hown, hts, hN, hA, hK⟩ := id C
  intro v0 v1 s0 H locs ls h hP hD hS hl
  unfold df_X5_readName_t1_0 at h
  refine lv_iconst (v := (-1)) hx hb dX5_readName_0 (by decide) ?_
  refine lv_istore (lv' := [(4, .int (-1)), (0, .ref (a 0)), (1, .int v0), (2, .int v1), (3, .ref (a 1))]) hx hb dX5_readName_1 hl (by decide) rfl (fun ls hl => ?_)
  refine lv_iconst (v := 1) hx hb dX5_readName_3 (by decide) ?_
  refine lv_istore (lv' := [(5, .int 1), (4, .int (-1)), (0, .ref (a 0)), (1, .int v0), (2, .int v1), (3, .ref (a 1))]) hx hb dX5_readName_4 hl (by decide) rfl (fun ls hl => ?_)
  refine lv_aload_n hx hb dX5_readName_6 rfl (lv_at hl 5 rfl) ?_
  refine lv_iconst (v := 0) hx hb dX5_readName_7 (by decide) ?_
  have hcl : (dw_X5 a ac s0)[1]? = some ((a 1), .inl (ac 1, 16, .inl (sR s0.1 0))) := rfl
  have hPc := nd_c1 hP hcl
  have hDc := nd_cd hD hcl
  have hKc : va_K (dC, dI) vwCl [(ac 1, .byte)] s := hK.sub [0] rfl
  have hFc := nd_rs hDc hS hA
  refine va_callv (va_runS (As := [.ref (a 1), .int 0]) (rest := []) ⟨hx, hb, hml, hown, hts⟩ (dm_J7_fill_031fb l hlt dC dI (a 1) (ac 1) 16 (by decide) (sR s0.1 0) 0 _) (va_cwS 2 hts gi_dm_X5_readName_t1_0 rfl rfl rfl (by decide +kernel) ⟨Nat.le_of_ble_eq_true rfl, Nat.le_of_ble_eq_true rfl⟩) ⟨fun a U g mk q => by obtain ⟨q0, q1, qP, qK, qD, qN⟩ := q; exact ⟨q0, q1, qP, va_K.moved (u := U) (U := U.calling g mk a) (Vm.Alike.refl U.vm) qK, qD, nv_same rfl rfl qN⟩, fun U hU hW => ⟨rfl, by rw [hU], by rw [hU]; exact hPc, va_K.moved hW.alike hKc, hDc.weaken (fun _ _ _ _ => trivial), nv_call hS hFc hU hW hN⟩⟩ rfl rfl hl.1 rfl (lv_room (Nat.le_of_ble_eq_true rfl)) dX5_readName_8 ⟨by decide +kernel, by decide +kernel⟩) hS (fun q _ h => hFc q h) hFc (fun u t H locs ht hvm hw hB hz1 hk1 hS => ?_)
  obtain ⟨hP1, -, hD1⟩ := hB
  rw [ht] at hP1
  have hP := nd_cs hP hD hcl hk1 hP1
  have hD := hD.set (e := .inl (ac 1, 16, .inl (nd_fl 16 (vp_nar .byte 0) (sR s0.1 0)))) hcl
  refine W.widen (k := 0) (n := 0) (Nat.le_refl _) (Nat.le_refl _) ?_
  obtain ⟨s1, es1, h⟩ := nd_let_e h
  have hP : va_P (dC, dI) vwCl (dw_X5 a ac s1) H := by rw [es1]; exact hP
  have hD : va_D A (dw_X5 a ac s1) := by rw [es1]; exact hD
  refine lv_iconst (v := 0) hx hb dX5_readName_11 (by decide) ?_
  refine lv_istore (lv' := [(6, .int 0), (5, .int 1), (4, .int (-1)), (0, .ref (a 0)), (1, .int v0), (2, .int v1), (3, .ref (a 1))]) hx hb dX5_readName_12 hl (by decide) rfl (fun ls hl => ?_)
  exact (db_X5_readName_t1_14 C K n) (v0) (v1) ((-1)) (1) (0) s1 _ _ _ h hP hD hS (lv_sub hl [3, 4, 5, 6, 2, 1, 0] rfl)
set_option maxHeartbeats 40000000 in
set_option maxRecDepth 100000 in
theorem dm_X5_readName_t1 (l : Launch) (hlt : l.stackTraces = false) (dC : Nat → ClassId) (dI : Nat → Nat → Nat) (a : Nat → Nat) (ac : Nat → ClassId) (n : Nat) (v0 : Int32) (v1 : Int32) (s0 : St × (St × (St × (St)))) {r : Int32 × (St × (St × (St × (St))))} (h : df_X5_readName_t1 n v0 v1 s0 = some r) (sz : Nat) : Met l yX5_readName ow_dm_X5_readName_t1 ({ frames := 1, cells := 0, slots := 0, locals := 23 }) (va_Pc [.ref (a 0), .int v0, .int v1, .ref (a 1)] (fun U => U.heap.size = sz ∧ va_P (dC, dI) vwCl (dw_X5 a ac s0) U.heap ∧ va_K (dC, dI) vwCl (dk_X5 ac) U ∧ va_D (fun _ => True) (dw_X5 a ac s0) ∧ nv_E dI (va_A (dw_X5 a ac s0) sz) U)) (va_Qi (fun x _ => x = r.1) (fun (_ : Unit) t => va_P (dC, dI) vwCl (dw_X5 a ac r.2) t.heap ∧ va_K (dC, dI) vwCl (dk_X5 ac) t ∧ va_D (va_A (dw_X5 a ac s0) sz) (dw_X5 a ac r.2)) (va_A (dw_X5 a ac s0) sz)) 0 0 (va_A (dw_X5 a ac s0) sz) := by
  refine Met.ofW (cc := cX5_readName) (maxL := 8) (ret := (some .int)) (by decide) rfl ?_
  intro p e s m args below meth c s₁ B hml hv
  obtain ⟨rfl, hsz, hP, hK, hD0, hN⟩ := hv
  have hx := B.exec
  have hb := B.bytes
  have hr := B.returns
  have hts := atoms_spec (ws := ow_dm_X5_readName_t1) B.pre
  have hown : s.vm.findClass RX5 = some m.cls := findClass_of_methodNamed B.named
  have hlocks := B.notSynchronized
  subst hsz
  have hD := hD0.self (sz := s.heap.size)
  generalize hAe : va_A (dw_X5 a ac s0) s.heap.size = A at hD hN ⊢
  have hA : ∀ q : Nat, s.heap.size ≤ q → A q := fun q h => by rw [← hAe]; exact Or.inr h
  have hl := lv_entry ([.ref (a 0), .int v0, .int v1, .ref (a 1)]) (n := 8) (Nat.le_of_ble_eq_true rfl)
  rw [lg_entry_eq]
  generalize (lg_sl ([.ref (a 0), .int v0, .int v1, .ref (a 1)]) ++ List.replicate (8 - (lg_sl ([.ref (a 0), .int v0, .int v1, .ref (a 1)])).length) Slot.unset).toArray = ls at hl ⊢
  have hl : lv_has ls 8 [(0, .ref (a 0)), (1, .int v0), (2, .int v1), (3, .ref (a 1))] := hl
  exact db_X5_readName_t1_0 (dC := dC) (dI := dI) (a := a) (ac := ac) (n := n) (r := r) ⟨hlt, hx, hb, hml, hown, hts, hN, hA, hK⟩ (fun pc v τ H locs ls d z er hP hD hS => by subst er; exact W.zret (v := v) hx hb hr z (fun t ht hW => ⟨⟨v, (), rfl, rfl, by rw [ht]; exact hP, va_K.moved hW.alike hK, hD⟩, hS.F ht⟩) hS.2.2 d) v0 v1 s0 _ _ _ h hP hD va_S.rf (lv_sub hl [0, 1, 2, 3] rfl)
set_option maxHeartbeats 40000000 in
set_option maxRecDepth 100000 in
theorem dp_vX5_X10n_0 {D : va_G} {H : Heap} {a : Nat → Nat} {ac : Nat → ClassId} {σ : St × (St × (St × (St)))} (h : va_P D vwCl (dw_X5 a ac σ) H) : va_P D vwCl (dw_X10n (fun k => a (nd_ix [1, 14, 15, 16, 17, 18, 19, 20, 21, 22, 23] k)) (fun k => ac (nd_ix [1, 14, 15, 16, 17, 18, 19, 20, 21, 22, 23] k)) ((pR nd_st0 0 (sR σ.1 0)), σ.2.2.2)) H := h.sub [1, 14, 15, 16, 17, 18, 19, 20, 21, 22, 23] rfl
set_option maxHeartbeats 40000000 in
set_option maxRecDepth 100000 in
theorem dd_vX5_X10n_0 {A : Nat → Prop} {a : Nat → Nat} {ac : Nat → ClassId} {σ : St × (St × (St × (St)))} (h : va_D A (dw_X5 a ac σ)) : va_D A (dw_X10n (fun k => a (nd_ix [1, 14, 15, 16, 17, 18, 19, 20, 21, 22, 23] k)) (fun k => ac (nd_ix [1, 14, 15, 16, 17, 18, 19, 20, 21, 22, 23] k)) ((pR nd_st0 0 (sR σ.1 0)), σ.2.2.2)) := h.sub [1, 14, 15, 16, 17, 18, 19, 20, 21, 22, 23] (by decide) rfl
set_option maxHeartbeats 40000000 in
set_option maxRecDepth 100000 in
theorem dy_vX5_X10n_0 {D : va_G} {U : State} {ac : Nat → ClassId} (h : va_K D vwCl (dk_X5 ac) U) : va_K D vwCl (dk_X10n (fun k => ac (nd_ix [1, 14, 15, 16, 17, 18, 19, 20, 21, 22, 23] k))) U := h.sub [0, 11, 12, 13, 14, 15, 16, 17, 18, 19] rfl
set_option maxHeartbeats 40000000 in
set_option maxRecDepth 100000 in
theorem dn_vX5_X10n_0 {A0 : Nat → Prop} {D : va_G} {H H1 : Heap} {a : Nat → Nat} {ac : Nat → ClassId} {σ : St × (St × (St × (St)))} {τ : St × (St)} (hP : va_P D vwCl (dw_X5 a ac σ) H) (hD : va_D A0 (dw_X5 a ac σ)) (hA : ∀ q : Nat, H.size ≤ q → A0 q) (hk : ∀ q : Nat, q < H.size → ¬ va_A (dw_X10n (fun k => a (nd_ix [1, 14, 15, 16, 17, 18, 19, 20, 21, 22, 23] k)) (fun k => ac (nd_ix [1, 14, 15, 16, 17, 18, 19, 20, 21, 22, 23] k)) ((pR nd_st0 0 (sR σ.1 0)), σ.2.2.2)) H.size q → H1[q]? = H[q]?) (h1 : va_P D vwCl (dw_X10n (fun k => a (nd_ix [1, 14, 15, 16, 17, 18, 19, 20, 21, 22, 23] k)) (fun k => ac (nd_ix [1, 14, 15, 16, 17, 18, 19, 20, 21, 22, 23] k)) τ) H1) (h2 : va_D (va_A (dw_X10n (fun k => a (nd_ix [1, 14, 15, 16, 17, 18, 19, 20, 21, 22, 23] k)) (fun k => ac (nd_ix [1, 14, 15, 16, 17, 18, 19, 20, 21, 22, 23] k)) ((pR nd_st0 0 (sR σ.1 0)), σ.2.2.2)) H.size) (dw_X10n (fun k => a (nd_ix [1, 14, 15, 16, 17, 18, 19, 20, 21, 22, 23] k)) (fun k => ac (nd_ix [1, 14, 15, 16, 17, 18, 19, 20, 21, 22, 23] k)) τ)) : va_P D vwCl (dw_X5 a ac (((pR σ.1 0 (sR τ.1 0)), σ.2).1, (((pR σ.1 0 (sR τ.1 0)), σ.2).2.1, (((pR σ.1 0 (sR τ.1 0)), σ.2).2.2.1, τ.2)))) H1 ∧ va_D A0 (dw_X5 a ac (((pR σ.1 0 (sR τ.1 0)), σ.2).1, (((pR σ.1 0 (sR τ.1 0)), σ.2).2.1, (((pR σ.1 0 (sR τ.1 0)), σ.2).2.2.1, τ.2)))) := by
  obtain ⟨h1, h2⟩ := va_join (wr := [0, 2, 3, 4, 5, 6, 7, 8, 9, 10, 11, 12, 13].filterMap (fun i => (dw_X5 a ac σ)[i]?)) hP hD [1, 14, 15, 16, 17, 18, 19, 20, 21, 22, 23] [0, 2, 3, 4, 5, 6, 7, 8, 9, 10, 11, 12, 13] rfl rfl (by decide) (by decide) hk (nd_rq (dd_vX5_X10n_0 hD) hA) h1 h2
  exact ⟨h1.sub [0, 13, 1, 2, 3, 4, 5, 6, 7, 8, 9, 10, 11, 12, 14, 15, 16, 17, 18, 19, 20, 21, 22, 23] rfl, h2.sub [0, 13, 1, 2, 3, 4, 5, 6, 7, 8, 9, 10, 11, 12, 14, 15, 16, 17, 18, 19, 20, 21, 22, 23] (by decide) rfl⟩
def ow_dm_X5_open : List Cond := Cond.code yX5_open cX5_open 9 (some .long) :: ([Cond.constantLong RX5 251 (-22), Cond.fieldLink RX5 9 "TimeMachine$Kernel" "name" "[B", Cond.methodLink RX5 342 yX5_readName, Cond.instanceMethod yX5_readName, Cond.selects RX5 yX5_readName yX5_readName, Cond.initialized RX5, Cond.fieldLink RX5 28 "TimeMachine$Kernel" "things" "LTimeMachine$Things;", Cond.methodLink RX5 346 yX10_fileNamed, Cond.instanceMethod yX10_fileNamed, Cond.selects RX10 yX10_fileNamed yX10_fileNamed, Cond.initialized RX10, Cond.methodLink RX5 259 yX10_freeLink, Cond.instanceMethod yX10_freeLink, Cond.selects RX10 yX10_freeLink yX10_freeLink, Cond.constantLong RX5 228 (-4), Cond.methodLink RX5 265 yX10_openingsFree, Cond.instanceMethod yX10_openingsFree, Cond.selects RX10 yX10_openingsFree yX10_openingsFree, Cond.methodLink RX5 359 yX10_emptyFile, Cond.instanceMethod yX10_emptyFile, Cond.selects RX10 yX10_emptyFile yX10_emptyFile, Cond.methodLink RX5 278 yX10_open, Cond.instanceMethod yX10_open, Cond.selects RX10 yX10_open yX10_open, Cond.methodLink RX5 280 yX10_linkTo, Cond.instanceMethod yX10_linkTo, Cond.selects RX10 yX10_linkTo yX10_linkTo, Cond.methodLink RX5 355 yX10_giveName, Cond.instanceMethod yX10_giveName, Cond.selects RX10 yX10_giveName yX10_giveName, Cond.methodLink RX5 352 yX10_freeFile, Cond.instanceMethod yX10_freeFile, Cond.selects RX10 yX10_freeFile yX10_freeFile, Cond.constantLong RX5 350 (-3), Cond.constantLong RX5 230 (-2)] ++ (u_ws RX5 TX5 8 ++ (ow_dm_X5_readName_t1 ++ (ow_dm_X10_fileNamed ++ (ow_dm_X10_freeLink ++ (ow_dm_X10_openingsFree ++ (ow_dm_X10_emptyFile ++ (ow_dm_X10_open ++ (ow_dm_X10_linkTo ++ (ow_dm_X10_giveName ++ (ow_dm_X10_freeFile ++ [])))))))))))
theorem gd_dm_X5_open : ∀ w ∈ ow_dm_X5_open, (w.onTables && w.keeps) = true ∨ ∃ ty, w = Cond.arrayClass ty := List.forall_mem_cons.mpr ⟨good_of_word rfl, List.forall_mem_append.mpr ⟨fun w h => good_of_word (List.all_eq_true.mp (by decide +kernel) w h), List.forall_mem_append.mpr ⟨gu_X5, List.forall_mem_append.mpr ⟨gd_dm_X5_readName_t1, List.forall_mem_append.mpr ⟨gd_dm_X10_fileNamed, List.forall_mem_append.mpr ⟨gd_dm_X10_freeLink, List.forall_mem_append.mpr ⟨gd_dm_X10_openingsFree, List.forall_mem_append.mpr ⟨gd_dm_X10_emptyFile, List.forall_mem_append.mpr ⟨gd_dm_X10_open, List.forall_mem_append.mpr ⟨gd_dm_X10_linkTo, List.forall_mem_append.mpr ⟨gd_dm_X10_giveName, List.forall_mem_append.mpr ⟨gd_dm_X10_freeFile, fun _ h => nomatch h⟩⟩⟩⟩⟩⟩⟩⟩⟩⟩⟩⟩
theorem hi_dm_X5_open_X5 : ∀ w ∈ u_ws RX5 TX5 8, w ∈ ow_dm_X5_open := fun w h => List.mem_cons_of_mem _ (List.mem_append_right _ (List.mem_append_left _ h))
theorem gi_dm_X5_open_0 : GoodIn ow_dm_X5_open (wsV RX5 342 RX5 yX5_readName ow_dm_X5_readName_t1) := goodIn_app (goodIn_of _ (by decide +kernel)) (fun w h => ⟨List.mem_cons_of_mem _ (List.mem_append_right _ (List.mem_append_right _ (List.mem_append_left _ h))), gd_dm_X5_readName_t1 w h⟩)
theorem gi_dm_X5_open_1 : GoodIn ow_dm_X5_open (wsV RX5 346 RX10 yX10_fileNamed ow_dm_X10_fileNamed) := goodIn_app (goodIn_of _ (by decide +kernel)) (fun w h => ⟨List.mem_cons_of_mem _ (List.mem_append_right _ (List.mem_append_right _ (List.mem_append_right _ (List.mem_append_left _ h)))), gd_dm_X10_fileNamed w h⟩)
theorem gi_dm_X5_open_2 : GoodIn ow_dm_X5_open (wsV RX5 259 RX10 yX10_freeLink ow_dm_X10_freeLink) := goodIn_app (goodIn_of _ (by decide +kernel)) (fun w h => ⟨List.mem_cons_of_mem _ (List.mem_append_right _ (List.mem_append_right _ (List.mem_append_right _ (List.mem_append_right _ (List.mem_append_left _ h))))), gd_dm_X10_freeLink w h⟩)
theorem gi_dm_X5_open_3 : GoodIn ow_dm_X5_open (wsV RX5 265 RX10 yX10_openingsFree ow_dm_X10_openingsFree) := goodIn_app (goodIn_of _ (by decide +kernel)) (fun w h => ⟨List.mem_cons_of_mem _ (List.mem_append_right _ (List.mem_append_right _ (List.mem_append_right _ (List.mem_append_right _ (List.mem_append_right _ (List.mem_append_left _ h)))))), gd_dm_X10_openingsFree w h⟩)
theorem gi_dm_X5_open_4 : GoodIn ow_dm_X5_open (wsV RX5 359 RX10 yX10_emptyFile ow_dm_X10_emptyFile) := goodIn_app (goodIn_of _ (by decide +kernel)) (fun w h => ⟨List.mem_cons_of_mem _ (List.mem_append_right _ (List.mem_append_right _ (List.mem_append_right _ (List.mem_append_right _ (List.mem_append_right _ (List.mem_append_right _ (List.mem_append_left _ h))))))), gd_dm_X10_emptyFile w h⟩)
theorem gi_dm_X5_open_5 : GoodIn ow_dm_X5_open (wsV RX5 278 RX10 yX10_open ow_dm_X10_open) := goodIn_app (goodIn_of _ (by decide +kernel)) (fun w h => ⟨List.mem_cons_of_mem _ (List.mem_append_right _ (List.mem_append_right _ (List.mem_append_right _ (List.mem_append_right _ (List.mem_append_right _ (List.mem_append_right _ (List.mem_append_right _ (List.mem_append_left _ h)))))))), gd_dm_X10_open w h⟩)
theorem gi_dm_X5_open_6 : GoodIn ow_dm_X5_open (wsV RX5 280 RX10 yX10_linkTo ow_dm_X10_linkTo) := goodIn_app (goodIn_of _ (by decide +kernel)) (fun w h => ⟨List.mem_cons_of_mem _ (List.mem_append_right _ (List.mem_append_right _ (List.mem_append_right _ (List.mem_append_right _ (List.mem_append_right _ (List.mem_append_right _ (List.mem_append_right _ (List.mem_append_right _ (List.mem_append_left _ h))))))))), gd_dm_X10_linkTo w h⟩)
theorem gi_dm_X5_open_7 : GoodIn ow_dm_X5_open (wsV RX5 355 RX10 yX10_giveName ow_dm_X10_giveName) := goodIn_app (goodIn_of _ (by decide +kernel)) (fun w h => ⟨List.mem_cons_of_mem _ (List.mem_append_right _ (List.mem_append_right _ (List.mem_append_right _ (List.mem_append_right _ (List.mem_append_right _ (List.mem_append_right _ (List.mem_append_right _ (List.mem_append_right _ (List.mem_append_right _ (List.mem_append_left _ h)))))))))), gd_dm_X10_giveName w h⟩)
theorem gi_dm_X5_open_8 : GoodIn ow_dm_X5_open (wsV RX5 352 RX10 yX10_freeFile ow_dm_X10_freeFile) := goodIn_app (goodIn_of _ (by decide +kernel)) (fun w h => ⟨List.mem_cons_of_mem _ (List.mem_append_right _ (List.mem_append_right _ (List.mem_append_right _ (List.mem_append_right _ (List.mem_append_right _ (List.mem_append_right _ (List.mem_append_right _ (List.mem_append_right _ (List.mem_append_right _ (List.mem_append_right _ (List.mem_append_left _ h))))))))))), gd_dm_X10_freeFile w h⟩)
def dj_X5_open_67 (p : Program) (l : Launch) (e : Env) (s : State) (m : MethodId) (args : Array Value) (below : List Frame) (meth : Method) (c : Code) (Q : State → Prop) (A : Nat → Prop) (dC : Nat → ClassId) (dI : Nat → Nat → Nat) (a : Nat → Nat) (ac : Nat → ClassId) (g : (St × (St × (St × (St)))) → Option (Int64 × (St × (St × (St × (St)))))) (r : Int64 × (St × (St × (St × (St))))) : Prop := ∀ (s0 : St × (St × (St × (St)))) (H : Heap) (locs : List Loc) (ls : Array Slot), g s0 = some r → va_P (dC, dI) vwCl (dw_X5 a ac s0) H → va_D A (dw_X5 a ac s0) → va_S A s.heap H locs → lv_has ls 9 [] → W p l e (headSpec ow_dm_X5_open ({ frames := 2, cells := 0, slots := 0, locals := 62 })).room s m args below meth c H locs 0 0 Q (F0 m 67 ls [])
def dj_X5_open_194 (p : Program) (l : Launch) (e : Env) (s : State) (m : MethodId) (args : Array Value) (below : List Frame) (meth : Method) (c : Code) (Q : State → Prop) (A : Nat → Prop) (dC : Nat → ClassId) (dI : Nat → Nat → Nat) (a : Nat → Nat) (ac : Nat → ClassId) (g : (St × (St × (St × (St)))) → Option (Int64 × (St × (St × (St × (St)))))) (r : Int64 × (St × (St × (St × (St))))) : Prop := ∀ (s0 : St × (St × (St × (St)))) (H : Heap) (locs : List Loc) (ls : Array Slot), g s0 = some r → va_P (dC, dI) vwCl (dw_X5 a ac s0) H → va_D A (dw_X5 a ac s0) → va_S A s.heap H locs → lv_has ls 9 [] → W p l e (headSpec ow_dm_X5_open ({ frames := 2, cells := 0, slots := 0, locals := 62 })).room s m args below meth c H locs 0 0 Q (F0 m 194 ls [])
def dj_X5_open_237 (p : Program) (l : Launch) (e : Env) (s : State) (m : MethodId) (args : Array Value) (below : List Frame) (meth : Method) (c : Code) (Q : State → Prop) (A : Nat → Prop) (dC : Nat → ClassId) (dI : Nat → Nat → Nat) (a : Nat → Nat) (ac : Nat → ClassId) (g : Int32 → Int32 → Int32 → Int32 → (St × (St × (St × (St)))) → Option (Int64 × (St × (St × (St × (St)))))) (r : Int64 × (St × (St × (St × (St))))) : Prop := ∀ (x1 : Int32) (x3 : Int32) (x6 : Int32) (x7 : Int32) (s0 : St × (St × (St × (St)))) (H : Heap) (locs : List Loc) (ls : Array Slot), g x1 x3 x6 x7 s0 = some r → va_P (dC, dI) vwCl (dw_X5 a ac s0) H → va_D A (dw_X5 a ac s0) → va_S A s.heap H locs → lv_has ls 9 [(0, .ref (a 0)), (1, .int x1), (3, .int x3), (6, .int x6), (7, .int x7)] → W p l e (headSpec ow_dm_X5_open ({ frames := 2, cells := 0, slots := 0, locals := 62 })).room s m args below meth c H locs 0 0 Q (F0 m 237 ls [])
def dj_X5_open_228 (p : Program) (l : Launch) (e : Env) (s : State) (m : MethodId) (args : Array Value) (below : List Frame) (meth : Method) (c : Code) (Q : State → Prop) (A : Nat → Prop) (dC : Nat → ClassId) (dI : Nat → Nat → Nat) (a : Nat → Nat) (ac : Nat → ClassId) (g : Int32 → Int32 → Int32 → Int32 → (St × (St × (St × (St)))) → Option (Int64 × (St × (St × (St × (St)))))) (r : Int64 × (St × (St × (St × (St))))) : Prop := ∀ (x1 : Int32) (x3 : Int32) (x6 : Int32) (x7 : Int32) (s0 : St × (St × (St × (St)))) (H : Heap) (locs : List Loc) (ls : Array Slot), g x1 x3 x6 x7 s0 = some r → va_P (dC, dI) vwCl (dw_X5 a ac s0) H → va_D A (dw_X5 a ac s0) → va_S A s.heap H locs → lv_has ls 9 [(0, .ref (a 0)), (1, .int x1), (3, .int x3), (6, .int x6), (7, .int x7)] → W p l e (headSpec ow_dm_X5_open ({ frames := 2, cells := 0, slots := 0, locals := 62 })).room s m args below meth c H locs 0 0 Q (F0 m 228 ls [])
def dj_X5_open_216 (p : Program) (l : Launch) (e : Env) (s : State) (m : MethodId) (args : Array Value) (below : List Frame) (meth : Method) (c : Code) (Q : State → Prop) (A : Nat → Prop) (dC : Nat → ClassId) (dI : Nat → Nat → Nat) (a : Nat → Nat) (ac : Nat → ClassId) (g : Int32 → Int32 → Int32 → Int32 → Int32 → (St × (St × (St × (St)))) → Option (Int64 × (St × (St × (St × (St)))))) (r : Int64 × (St × (St × (St × (St))))) : Prop := ∀ (x1 : Int32) (x3 : Int32) (x6 : Int32) (x7 : Int32) (x8 : Int32) (s0 : St × (St × (St × (St)))) (H : Heap) (locs : List Loc) (ls : Array Slot), g x1 x3 x6 x7 x8 s0 = some r → va_P (dC, dI) vwCl (dw_X5 a ac s0) H → va_D A (dw_X5 a ac s0) → va_S A s.heap H locs → lv_has ls 9 [(0, .ref (a 0)), (1, .int x1), (3, .int x3), (6, .int x6), (7, .int x7), (8, .int x8)] → W p l e (headSpec ow_dm_X5_open ({ frames := 2, cells := 0, slots := 0, locals := 62 })).room s m args below meth c H locs 0 0 Q (F0 m 216 ls [])
def dj_X5_open_174 (p : Program) (l : Launch) (e : Env) (s : State) (m : MethodId) (args : Array Value) (below : List Frame) (meth : Method) (c : Code) (Q : State → Prop) (A : Nat → Prop) (dC : Nat → ClassId) (dI : Nat → Nat → Nat) (a : Nat → Nat) (ac : Nat → ClassId) (g : Int32 → Int32 → Int32 → Int32 → Int32 → (St × (St × (St × (St)))) → Option (Int64 × (St × (St × (St × (St)))))) (r : Int64 × (St × (St × (St × (St))))) : Prop := ∀ (x1 : Int32) (x3 : Int32) (x6 : Int32) (x7 : Int32) (x8 : Int32) (s0 : St × (St × (St × (St)))) (H : Heap) (locs : List Loc) (ls : Array Slot), g x1 x3 x6 x7 x8 s0 = some r → va_P (dC, dI) vwCl (dw_X5 a ac s0) H → va_D A (dw_X5 a ac s0) → va_S A s.heap H locs → lv_has ls 9 [(0, .ref (a 0)), (1, .int x1), (3, .int x3), (6, .int x6), (7, .int x7), (8, .int x8)] → W p l e (headSpec ow_dm_X5_open ({ frames := 2, cells := 0, slots := 0, locals := 62 })).room s m args below meth c H locs 0 0 Q (F0 m 174 ls [])
def dj_X5_open_158 (p : Program) (l : Launch) (e : Env) (s : State) (m : MethodId) (args : Array Value) (below : List Frame) (meth : Method) (c : Code) (Q : State → Prop) (A : Nat → Prop) (dC : Nat → ClassId) (dI : Nat → Nat → Nat) (a : Nat → Nat) (ac : Nat → ClassId) (g : Int32 → Int32 → Int32 → Int32 → Int32 → (St × (St × (St × (St)))) → Option (Int64 × (St × (St × (St × (St)))))) (r : Int64 × (St × (St × (St × (St))))) : Prop := ∀ (x1 : Int32) (x3 : Int32) (x6 : Int32) (x7 : Int32) (y0 : Int32) (s0 : St × (St × (St × (St)))) (H : Heap) (locs : List Loc) (ls : Array Slot), g x1 x3 x6 x7 y0 s0 = some r → va_P (dC, dI) vwCl (dw_X5 a ac s0) H → va_D A (dw_X5 a ac s0) → va_S A s.heap H locs → lv_has ls 9 [(0, .ref (a 0)), (1, .int x1), (3, .int x3), (6, .int x6), (7, .int x7)] → W p l e (headSpec ow_dm_X5_open ({ frames := 2, cells := 0, slots := 0, locals := 62 })).room s m args below meth c H locs 0 0 Q (F0 m 158 ls [.int y0])
def dj_X5_open_137 (p : Program) (l : Launch) (e : Env) (s : State) (m : MethodId) (args : Array Value) (below : List Frame) (meth : Method) (c : Code) (Q : State → Prop) (A : Nat → Prop) (dC : Nat → ClassId) (dI : Nat → Nat → Nat) (a : Nat → Nat) (ac : Nat → ClassId) (g : Int32 → Int32 → Int32 → (St × (St × (St × (St)))) → Option (Int64 × (St × (St × (St × (St)))))) (r : Int64 × (St × (St × (St × (St))))) : Prop := ∀ (x1 : Int32) (x3 : Int32) (x6 : Int32) (s0 : St × (St × (St × (St)))) (H : Heap) (locs : List Loc) (ls : Array Slot), g x1 x3 x6 s0 = some r → va_P (dC, dI) vwCl (dw_X5 a ac s0) H → va_D A (dw_X5 a ac s0) → va_S A s.heap H locs → lv_has ls 9 [(0, .ref (a 0)), (1, .int x1), (3, .int x3), (6, .int x6)] → W p l e (headSpec ow_dm_X5_open ({ frames := 2, cells := 0, slots := 0, locals := 62 })).room s m args below meth c H locs 0 0 Q (F0 m 137 ls [])
def dj_X5_open_121 (p : Program) (l : Launch) (e : Env) (s : State) (m : MethodId) (args : Array Value) (below : List Frame) (meth : Method) (c : Code) (Q : State → Prop) (A : Nat → Prop) (dC : Nat → ClassId) (dI : Nat → Nat → Nat) (a : Nat → Nat) (ac : Nat → ClassId) (g : Int32 → Int32 → Int32 → (St × (St × (St × (St)))) → Option (Int64 × (St × (St × (St × (St)))))) (r : Int64 × (St × (St × (St × (St))))) : Prop := ∀ (x1 : Int32) (x3 : Int32) (x6 : Int32) (s0 : St × (St × (St × (St)))) (H : Heap) (locs : List Loc) (ls : Array Slot), g x1 x3 x6 s0 = some r → va_P (dC, dI) vwCl (dw_X5 a ac s0) H → va_D A (dw_X5 a ac s0) → va_S A s.heap H locs → lv_has ls 9 [(0, .ref (a 0)), (1, .int x1), (3, .int x3), (6, .int x6)] → W p l e (headSpec ow_dm_X5_open ({ frames := 2, cells := 0, slots := 0, locals := 62 })).room s m args below meth c H locs 0 0 Q (F0 m 121 ls [])
def dj_X5_open_71 (p : Program) (l : Launch) (e : Env) (s : State) (m : MethodId) (args : Array Value) (below : List Frame) (meth : Method) (c : Code) (Q : State → Prop) (A : Nat → Prop) (dC : Nat → ClassId) (dI : Nat → Nat → Nat) (a : Nat → Nat) (ac : Nat → ClassId) (g : Int32 → Int32 → Int32 → (St × (St × (St × (St)))) → Option (Int64 × (St × (St × (St × (St)))))) (r : Int64 × (St × (St × (St × (St))))) : Prop := ∀ (x1 : Int32) (x2 : Int32) (x3 : Int32) (s0 : St × (St × (St × (St)))) (H : Heap) (locs : List Loc) (ls : Array Slot), g x1 x2 x3 s0 = some r → va_P (dC, dI) vwCl (dw_X5 a ac s0) H → va_D A (dw_X5 a ac s0) → va_S A s.heap H locs → lv_has ls 9 [(0, .ref (a 0)), (1, .int x1), (2, .int x2), (3, .int x3)] → W p l e (headSpec ow_dm_X5_open ({ frames := 2, cells := 0, slots := 0, locals := 62 })).room s m args below meth c H locs 0 0 Q (F0 m 71 ls [])
def dj_X5_open_55 (p : Program) (l : Launch) (e : Env) (s : State) (m : MethodId) (args : Array Value) (below : List Frame) (meth : Method) (c : Code) (Q : State → Prop) (A : Nat → Prop) (dC : Nat → ClassId) (dI : Nat → Nat → Nat) (a : Nat → Nat) (ac : Nat → ClassId) (g : Int32 → Int32 → Int32 → Int32 → (St × (St × (St × (St)))) → Option (Int64 × (St × (St × (St × (St)))))) (r : Int64 × (St × (St × (St × (St))))) : Prop := ∀ (x1 : Int32) (x2 : Int32) (x3 : Int32) (x4 : Int32) (s0 : St × (St × (St × (St)))) (H : Heap) (locs : List Loc) (ls : Array Slot), g x1 x2 x3 x4 s0 = some r → va_P (dC, dI) vwCl (dw_X5 a ac s0) H → va_D A (dw_X5 a ac s0) → va_S A s.heap H locs → lv_has ls 9 [(0, .ref (a 0)), (1, .int x1), (2, .int x2), (3, .int x3), (4, .int x4)] → W p l e (headSpec ow_dm_X5_open ({ frames := 2, cells := 0, slots := 0, locals := 62 })).room s m args below meth c H locs 0 0 Q (F0 m 55 ls [])
def dj_X5_open_41 (p : Program) (l : Launch) (e : Env) (s : State) (m : MethodId) (args : Array Value) (below : List Frame) (meth : Method) (c : Code) (Q : State → Prop) (A : Nat → Prop) (dC : Nat → ClassId) (dI : Nat → Nat → Nat) (a : Nat → Nat) (ac : Nat → ClassId) (g : Int32 → Int32 → Int32 → Int32 → (St × (St × (St × (St)))) → Option (Int64 × (St × (St × (St × (St)))))) (r : Int64 × (St × (St × (St × (St))))) : Prop := ∀ (x1 : Int32) (x2 : Int32) (x3 : Int32) (x4 : Int32) (s0 : St × (St × (St × (St)))) (H : Heap) (locs : List Loc) (ls : Array Slot), g x1 x2 x3 x4 s0 = some r → va_P (dC, dI) vwCl (dw_X5 a ac s0) H → va_D A (dw_X5 a ac s0) → va_S A s.heap H locs → lv_has ls 9 [(0, .ref (a 0)), (1, .int x1), (2, .int x2), (3, .int x3), (4, .int x4)] → W p l e (headSpec ow_dm_X5_open ({ frames := 2, cells := 0, slots := 0, locals := 62 })).room s m args below meth c H locs 0 0 Q (F0 m 41 ls [])
def dj_X5_open_11 (p : Program) (l : Launch) (e : Env) (s : State) (m : MethodId) (args : Array Value) (below : List Frame) (meth : Method) (c : Code) (Q : State → Prop) (A : Nat → Prop) (dC : Nat → ClassId) (dI : Nat → Nat → Nat) (a : Nat → Nat) (ac : Nat → ClassId) (g : Int32 → Int32 → Int32 → Int32 → (St × (St × (St × (St)))) → Option (Int64 × (St × (St × (St × (St)))))) (r : Int64 × (St × (St × (St × (St))))) : Prop := ∀ (x1 : Int32) (x2 : Int32) (x3 : Int32) (y0 : Int32) (s0 : St × (St × (St × (St)))) (H : Heap) (locs : List Loc) (ls : Array Slot), g x1 x2 x3 y0 s0 = some r → va_P (dC, dI) vwCl (dw_X5 a ac s0) H → va_D A (dw_X5 a ac s0) → va_S A s.heap H locs → lv_has ls 9 [(0, .ref (a 0)), (1, .int x1), (2, .int x2), (3, .int x3)] → W p l e (headSpec ow_dm_X5_open ({ frames := 2, cells := 0, slots := 0, locals := 62 })).room s m args below meth c H locs 0 0 Q (F0 m 11 ls [.int y0])
def dj_X5_open_0 (p : Program) (l : Launch) (e : Env) (s : State) (m : MethodId) (args : Array Value) (below : List Frame) (meth : Method) (c : Code) (Q : State → Prop) (A : Nat → Prop) (dC : Nat → ClassId) (dI : Nat → Nat → Nat) (a : Nat → Nat) (ac : Nat → ClassId) (g : Int32 → Int32 → Int32 → (St × (St × (St × (St)))) → Option (Int64 × (St × (St × (St × (St)))))) (r : Int64 × (St × (St × (St × (St))))) : Prop := ∀ (v0 : Int32) (v1 : Int32) (v2 : Int32) (s0 : St × (St × (St × (St)))) (H : Heap) (locs : List Loc) (ls : Array Slot), g v0 v1 v2 s0 = some r → va_P (dC, dI) vwCl (dw_X5 a ac s0) H → va_D A (dw_X5 a ac s0) → va_S A s.heap H locs → lv_has ls 9 [(0, .ref (a 0)), (1, .int v0), (2, .int v1), (3, .int v2)] → W p l e (headSpec ow_dm_X5_open ({ frames := 2, cells := 0, slots := 0, locals := 62 })).room s m args below meth c H locs 0 0 Q (F0 m 0 ls [])
set_option maxHeartbeats 40000000 in
set_option maxRecDepth 100000 in
theorem db_X5_open_67 {p : Program} {l : Launch} {e : Env} {s : State} {m : MethodId} {args : Array Value} {below : List Frame} {meth : Method} {c : Code} {Q : State → Prop} {A : Nat → Prop} {dC : Nat → ClassId} {dI : Nat → Nat → Nat} {a : Nat → Nat} {ac : Nat → ClassId} {n : Nat} {r : Int64 × (St × (St × (St × (St))))} (C : nd_C p l s m args c A (dC, dI) cX5_open 9 RX5 ow_dm_X5_open (dk_X5 ac)) (K : nd_Kl p l e (headSpec ow_dm_X5_open ({ frames := 2, cells := 0, slots := 0, locals := 62 })).room s m args below meth c Q A (dC, dI) cX5_open (St × (St × (St × (St)))) (dw_X5 a ac) r) : dj_X5_open_67 p l e s m args below meth c Q A dC dI a ac (df_X5_open_67 n) r := by
  obtain ⟨hlt, hx, hb, hml, hown, hts, hN, hA, hK⟩ := id C
  intro s0 H locs ls h hP hD hS hl
  unfold df_X5_open_67 at h
  refine lv_ldc2 hx hb hown (hts (.constantLong RX5 251 (-22)) (List.mem_of_getElem? (i := 1) rfl)) dX5_open_67 ?_
  exact K _ _ _ _ _ _ dX5_open_70 (Option.some.inj h).symm hP hD hS
set_option maxHeartbeats 40000000 in
set_option maxRecDepth 100000 in
theorem db_X5_open_194 {p : Program} {l : Launch} {e : Env} {s : State} {m : MethodId} {args : Array Value} {below : List Frame} {meth : Method} {c : Code} {Q : State → Prop} {A : Nat → Prop} {dC : Nat → ClassId} {dI : Nat → Nat → Nat} {a : Nat → Nat} {ac : Nat → ClassId} {n : Nat} {r : Int64 × (St × (St × (St × (St))))} (C : nd_C p l s m args c A (dC, dI) cX5_open 9 RX5 ow_dm_X5_open (dk_X5 ac)) (K : nd_Kl p l e (headSpec ow_dm_X5_open ({ frames := 2, cells := 0, slots := 0, locals := 62 })).room s m args below meth c Q A (dC, dI) cX5_open (St × (St × (St × (St)))) (dw_X5 a ac) r) : dj_X5_open_194 p l e s m args below meth c Q A dC dI a ac (df_X5_open_194 n) r := by
  obtain ⟨hlt, hx, hb, hml, hown, hts, hN, hA, hK⟩ := id C
  intro s0 H locs ls h hP hD hS hl
  unfold df_X5_open_194 at h
  refine lv_ldc2 hx hb hown (hts (.constantLong RX5 228 (-4)) (List.mem_of_getElem? (i := 15) rfl)) dX5_open_194 ?_
  exact K _ _ _ _ _ _ dX5_open_197 (Option.some.inj h).symm hP hD hS
set_option maxHeartbeats 40000000 in
set_option maxRecDepth 100000 in
theorem db_X5_open_237 {p : Program} {l : Launch} {e : Env} {s : State} {m : MethodId} {args : Array Value} {below : List Frame} {meth : Method} {c : Code} {Q : State → Prop} {A : Nat → Prop} {dC : Nat → ClassId} {dI : Nat → Nat → Nat} {a : Nat → Nat} {ac : Nat → ClassId} {n : Nat} {r : Int64 × (St × (St × (St × (St))))} (C : nd_C p l s m args c A (dC, dI) cX5_open 9 RX5 ow_dm_X5_open (dk_X5 ac)) (K : nd_Kl p l e (headSpec ow_dm_X5_open ({ frames := 2, cells := 0, slots := 0, locals := 62 })).room s m args below meth c Q A (dC, dI) cX5_open (St × (St × (St × (St)))) (dw_X5 a ac) r) : dj_X5_open_237 p l e s m args below meth c Q A dC dI a ac (df_X5_open_237 n) r := by
  obtain ⟨hlt, hx, hb, hml, hown, hts, hN, hA, hK⟩ := id C
  intro x1 x3 x6 x7 s0 H locs ls h hP hD hS hl
  unfold df_X5_open_237 at h
  refine lv_aload_n hx hb dX5_open_237 rfl (lv_at hl 0 rfl) ?_
  refine va_get (D := (dC, dI)) (ci := 6) (v := .ref (a 14)) (C := RX5) (T := TX5) (N := 8) hx hb hts hi_dm_X5_open_X5 hown hK hP 0 rfl rfl 1 (by decide) (hts (.fieldLink RX5 28 "TimeMachine$Kernel" "things" "LTimeMachine$Things;") (List.mem_of_getElem? (i := 7) rfl)) (fun _ h9 => h9) rfl dX5_open_238 ?_
  refine lv_iload_n hx hb dX5_open_241 rfl (lv_at hl 1 rfl) ?_
  refine lv_iload hx hb dX5_open_242 (lv_at hl 4 rfl) ?_
  refine lv_aload_n hx hb dX5_open_244 rfl (lv_at hl 0 rfl) ?_
  refine va_get (D := (dC, dI)) (ci := 6) (v := .ref (a 14)) (C := RX5) (T := TX5) (N := 8) hx hb hts hi_dm_X5_open_X5 hown hK hP 0 rfl rfl 1 (by decide) (hts (.fieldLink RX5 28 "TimeMachine$Kernel" "things" "LTimeMachine$Things;") (List.mem_of_getElem? (i := 7) rfl)) (fun _ h9 => h9) rfl dX5_open_245 ?_
  refine lv_iconst (v := 3) hx hb dX5_open_248 (by decide) ?_
  refine lv_iload hx hb dX5_open_249 (lv_at hl 3 rfl) ?_
  refine lv_iload_n hx hb dX5_open_251 rfl (lv_at hl 2 rfl) ?_
  refine lv_bipush (v := 7) hx hb dX5_open_252 (by decide) ?_
  refine lv_iand hx hb dX5_open_254 ?_
  obtain ⟨q37, s38, hq, h⟩ := nd_b2_e h
  have hPc := dp_X5_14 hP
  have hDc := dd_X5_14 hD
  have hKc := dy_X5_14 hK
  have hFc := nd_rs hDc hS hA
  have hzA : ∀ q : Nat, H.size ≤ q → A q := fun q h => hA q (Nat.le_trans hS.1 h)
  refine nd_cVi (As := [.int 3, .int x6, .int (x3 &&& 7)]) (rest := [.int x7, .int x1, .ref (a 14)]) (q := q37) (w' := dw_X10 (fun k => a (k + 14)) (fun k => ac (k + 14)) s38) ⟨hx, hb, hml, hown, hts⟩ (fun sz => dm_X10_open l hlt dC dI (fun k => a (k + 14)) (fun k => ac (k + 14)) n (3) (x6) ((x3 &&& 7)) s0.2.2.2 hq sz) (cwV 3 hts gi_dm_X5_open_5 rfl rfl rfl (by decide +kernel) ⟨Nat.le_of_ble_eq_true rfl, Nat.le_of_ble_eq_true rfl⟩) hPc hDc hKc hS hA hN (va_recv hKc hPc (ci := 11) (q0 := 0) rfl rfl) rfl hl.1 rfl (Nat.le_of_ble_eq_true rfl) dX5_open_255 (fun H locs hP1 hD1 hk1 hS => ?_)
  obtain ⟨hP, hD⟩ := dn_X5_14 hP hD hzA hk1 hP1 hD1
  obtain ⟨s40, es40, h⟩ := nd_let_e h
  have hP : va_P (dC, dI) vwCl (dw_X5 a ac s40) H := by rw [es40]; exact hP
  have hD : va_D A (dw_X5 a ac s40) := by rw [es40]; exact hD
  obtain ⟨s42, hq, h⟩ := nd_b1_e h
  have hPc := dp_X5_14 hP
  have hDc := dd_X5_14 hD
  have hKc := dy_X5_14 hK
  have hFc := nd_rs hDc hS hA
  have hzA : ∀ q : Nat, H.size ≤ q → A q := fun q h => hA q (Nat.le_trans hS.1 h)
  refine nd_cVv (As := [.int x1, .int x7, .int q37]) (rest := []) (w' := dw_X10 (fun k => a (k + 14)) (fun k => ac (k + 14)) s42) ⟨hx, hb, hml, hown, hts⟩ (fun sz => dm_X10_linkTo l hlt dC dI (fun k => a (k + 14)) (fun k => ac (k + 14)) n (x1) (x7) (q37) s40.2.2.2 hq sz) (cwV 3 hts gi_dm_X5_open_6 rfl rfl rfl (by decide +kernel) ⟨Nat.le_of_ble_eq_true rfl, Nat.le_of_ble_eq_true rfl⟩) hPc hDc hKc hS hA hN (va_recv hKc hPc (ci := 11) (q0 := 0) rfl rfl) rfl hl.1 rfl (Nat.le_of_ble_eq_true rfl) dX5_open_258 (fun H locs hP1 hD1 hk1 hS => ?_)
  obtain ⟨hP, hD⟩ := dn_X5_14 hP hD hzA hk1 hP1 hD1
  obtain ⟨s44, es44, h⟩ := nd_let_e h
  have hP : va_P (dC, dI) vwCl (dw_X5 a ac s44) H := by rw [es44]; exact hP
  have hD : va_D A (dw_X5 a ac s44) := by rw [es44]; exact hD
  refine lv_iload hx hb dX5_open_261 (lv_at hl 4 rfl) ?_
  refine lv_i2l hx hb dX5_open_263 rfl ?_
  exact K _ _ _ _ _ _ dX5_open_264 (Option.some.inj h).symm hP hD hS
set_option maxHeartbeats 40000000 in
set_option maxRecDepth 100000 in
theorem db_X5_open_228 {p : Program} {l : Launch} {e : Env} {s : State} {m : MethodId} {args : Array Value} {below : List Frame} {meth : Method} {c : Code} {Q : State → Prop} {A : Nat → Prop} {dC : Nat → ClassId} {dI : Nat → Nat → Nat} {a : Nat → Nat} {ac : Nat → ClassId} {n : Nat} {r : Int64 × (St × (St × (St × (St))))} (C : nd_C p l s m args c A (dC, dI) cX5_open 9 RX5 ow_dm_X5_open (dk_X5 ac)) (K : nd_Kl p l e (headSpec ow_dm_X5_open ({ frames := 2, cells := 0, slots := 0, locals := 62 })).room s m args below meth c Q A (dC, dI) cX5_open (St × (St × (St × (St)))) (dw_X5 a ac) r) : dj_X5_open_228 p l e s m args below meth c Q A dC dI a ac (df_X5_open_228 n) r := by
  obtain ⟨hlt, hx, hb, hml, hown, hts, hN, hA, hK⟩ := id C
  intro x1 x3 x6 x7 s0 H locs ls h hP hD hS hl
  unfold df_X5_open_228 at h
  refine lv_aload_n hx hb dX5_open_228 rfl (lv_at hl 0 rfl) ?_
  refine va_get (D := (dC, dI)) (ci := 6) (v := .ref (a 14)) (C := RX5) (T := TX5) (N := 8) hx hb hts hi_dm_X5_open_X5 hown hK hP 0 rfl rfl 1 (by decide) (hts (.fieldLink RX5 28 "TimeMachine$Kernel" "things" "LTimeMachine$Things;") (List.mem_of_getElem? (i := 7) rfl)) (fun _ h9 => h9) rfl dX5_open_229 ?_
  refine lv_iload hx hb dX5_open_232 (lv_at hl 3 rfl) ?_
  obtain ⟨s34, hq, h⟩ := nd_b1_e h
  have hPc := dp_X5_14 hP
  have hDc := dd_X5_14 hD
  have hKc := dy_X5_14 hK
  have hFc := nd_rs hDc hS hA
  have hzA : ∀ q : Nat, H.size ≤ q → A q := fun q h => hA q (Nat.le_trans hS.1 h)
  refine nd_cVv (As := [.int x6]) (rest := []) (w' := dw_X10 (fun k => a (k + 14)) (fun k => ac (k + 14)) s34) ⟨hx, hb, hml, hown, hts⟩ (fun sz => dm_X10_emptyFile l hlt dC dI (fun k => a (k + 14)) (fun k => ac (k + 14)) n (x6) s0.2.2.2 hq sz) (cwV 1 hts gi_dm_X5_open_4 rfl rfl rfl (by decide +kernel) ⟨Nat.le_of_ble_eq_true rfl, Nat.le_of_ble_eq_true rfl⟩) hPc hDc hKc hS hA hN (va_recv hKc hPc (ci := 11) (q0 := 0) rfl rfl) rfl hl.1 rfl (Nat.le_of_ble_eq_true rfl) dX5_open_234 (fun H locs hP1 hD1 hk1 hS => ?_)
  obtain ⟨hP, hD⟩ := dn_X5_14 hP hD hzA hk1 hP1 hD1
  obtain ⟨s36, es36, h⟩ := nd_let_e h
  have hP : va_P (dC, dI) vwCl (dw_X5 a ac s36) H := by rw [es36]; exact hP
  have hD : va_D A (dw_X5 a ac s36) := by rw [es36]; exact hD
  exact (db_X5_open_237 C K) (x1) (x3) (x6) (x7) s36 _ _ _ h hP hD hS (lv_sub hl [0, 1, 2, 3, 4] rfl)
set_option maxHeartbeats 40000000 in
set_option maxRecDepth 100000 in
theorem db_X5_open_216 {p : Program} {l : Launch} {e : Env} {s : State} {m : MethodId} {args : Array Value} {below : List Frame} {meth : Method} {c : Code} {Q : State → Prop} {A : Nat → Prop} {dC : Nat → ClassId} {dI : Nat → Nat → Nat} {a : Nat → Nat} {ac : Nat → ClassId} {n : Nat} {r : Int64 × (St × (St × (St × (St))))} (C : nd_C p l s m args c A (dC, dI) cX5_open 9 RX5 ow_dm_X5_open (dk_X5 ac)) (K : nd_Kl p l e (headSpec ow_dm_X5_open ({ frames := 2, cells := 0, slots := 0, locals := 62 })).room s m args below meth c Q A (dC, dI) cX5_open (St × (St × (St × (St)))) (dw_X5 a ac) r) : dj_X5_open_216 p l e s m args below meth c Q A dC dI a ac (df_X5_open_216 n) r := by
  obtain ⟨hlt, hx, hb, hml, hown, hts, hN, hA, hK⟩ := id C
  intro x1 x3 x6 x7 x8 s0 H locs ls h hP hD hS hl
  unfold df_X5_open_216 at h
  refine lv_iload hx hb dX5_open_216 (lv_at hl 5 rfl) ?_
  refine lv_if_ne (tgt := 228) hx hb dX5_open_218 (by decide) (fun c32 => ?_) (fun c32 => ?_)
  · have h := nd_neg h c32
    exact (db_X5_open_228 C K) (x1) (x3) (x6) (x7) s0 _ _ _ h hP hD hS (lv_sub hl [0, 1, 2, 3, 4] rfl)
  · have h := nd_pos h c32
    refine lv_iload_n hx hb dX5_open_221 rfl (lv_at hl 2 rfl) ?_
    refine lv_bipush (v := 32) hx hb dX5_open_222 (by decide) ?_
    refine lv_iand hx hb dX5_open_224 ?_
    refine lv_if_eq (tgt := 237) hx hb dX5_open_225 (by decide) (fun c45 => ?_) (fun c45 => ?_)
    · have h := nd_pos h c45
      exact (db_X5_open_237 C K) (x1) (x3) (x6) (x7) s0 _ _ _ h hP hD hS (lv_sub hl [0, 1, 2, 3, 4] rfl)
    · have h := nd_neg h c45
      exact (db_X5_open_228 C K) (x1) (x3) (x6) (x7) s0 _ _ _ h hP hD hS (lv_sub hl [0, 1, 2, 3, 4] rfl)
set_option maxHeartbeats 40000000 in
set_option maxRecDepth 100000 in
theorem db_X5_open_174 {p : Program} {l : Launch} {e : Env} {s : State} {m : MethodId} {args : Array Value} {below : List Frame} {meth : Method} {c : Code} {Q : State → Prop} {A : Nat → Prop} {dC : Nat → ClassId} {dI : Nat → Nat → Nat} {a : Nat → Nat} {ac : Nat → ClassId} {n : Nat} {r : Int64 × (St × (St × (St × (St))))} (C : nd_C p l s m args c A (dC, dI) cX5_open 9 RX5 ow_dm_X5_open (dk_X5 ac)) (K : nd_Kl p l e (headSpec ow_dm_X5_open ({ frames := 2, cells := 0, slots := 0, locals := 62 })).room s m args below meth c Q A (dC, dI) cX5_open (St × (St × (St × (St)))) (dw_X5 a ac) r) : dj_X5_open_174 p l e s m args below meth c Q A dC dI a ac (df_X5_open_174 n) r := by
  obtain ⟨hlt, hx, hb, hml, hown, hts, hN, hA, hK⟩ := id C
  intro x1 x3 x6 x7 x8 s0 H locs ls h hP hD hS hl
  unfold df_X5_open_174 at h
  refine lv_iload hx hb dX5_open_174 (lv_at hl 4 rfl) ?_
  refine lv_if_lt (tgt := 194) hx hb dX5_open_176 (by decide) (fun c24 => ?_) (fun c24 => ?_)
  · have h := nd_pos h c24
    exact (db_X5_open_194 C K)  s0 _ _ _ h hP hD hS (lv_sub hl [] rfl)
  · have h := nd_neg h c24
    refine lv_iload hx hb dX5_open_179 (lv_at hl 3 rfl) ?_
    refine lv_if_lt (tgt := 194) hx hb dX5_open_181 (by decide) (fun c25 => ?_) (fun c25 => ?_)
    · have h := nd_pos h c25
      exact (db_X5_open_194 C K)  s0 _ _ _ h hP hD hS (lv_sub hl [] rfl)
    · have h := nd_neg h c25
      refine lv_aload_n hx hb dX5_open_184 rfl (lv_at hl 0 rfl) ?_
      refine va_get (D := (dC, dI)) (ci := 6) (v := .ref (a 14)) (C := RX5) (T := TX5) (N := 8) hx hb hts hi_dm_X5_open_X5 hown hK hP 0 rfl rfl 1 (by decide) (hts (.fieldLink RX5 28 "TimeMachine$Kernel" "things" "LTimeMachine$Things;") (List.mem_of_getElem? (i := 7) rfl)) (fun _ h9 => h9) rfl dX5_open_185 ?_
      obtain ⟨q26, s27, hq, h⟩ := nd_b2_e h
      have hPc := dp_X5_14 hP
      have hDc := dd_X5_14 hD
      have hKc := dy_X5_14 hK
      have hFc := nd_rs hDc hS hA
      have hzA : ∀ q : Nat, H.size ≤ q → A q := fun q h => hA q (Nat.le_trans hS.1 h)
      refine nd_cVi (As := []) (rest := []) (q := q26) (w' := dw_X10 (fun k => a (k + 14)) (fun k => ac (k + 14)) s27) ⟨hx, hb, hml, hown, hts⟩ (fun sz => dm_X10_openingsFree l hlt dC dI (fun k => a (k + 14)) (fun k => ac (k + 14)) n  s0.2.2.2 hq sz) (cwV 0 hts gi_dm_X5_open_3 rfl rfl rfl (by decide +kernel) ⟨Nat.le_of_ble_eq_true rfl, Nat.le_of_ble_eq_true rfl⟩) hPc hDc hKc hS hA hN (va_recv hKc hPc (ci := 11) (q0 := 0) rfl rfl) rfl hl.1 rfl (Nat.le_of_ble_eq_true rfl) dX5_open_188 (fun H locs hP1 hD1 hk1 hS => ?_)
      obtain ⟨hP, hD⟩ := dn_X5_14 hP hD hzA hk1 hP1 hD1
      obtain ⟨s29, es29, h⟩ := nd_let_e h
      have hP : va_P (dC, dI) vwCl (dw_X5 a ac s29) H := by rw [es29]; exact hP
      have hD : va_D A (dw_X5 a ac s29) := by rw [es29]; exact hD
      refine lv_if_ne (tgt := 198) hx hb dX5_open_191 (by decide) (fun c30 => ?_) (fun c30 => ?_)
      · have h := nd_neg h c30
        refine lv_iload hx hb dX5_open_198 (lv_at hl 5 rfl) ?_
        refine lv_if_eq (tgt := 216) hx hb dX5_open_200 (by decide) (fun c31 => ?_) (fun c31 => ?_)
        · have h := nd_pos h c31
          exact (db_X5_open_216 C K) (x1) (x3) (x6) (x7) (x8) s29 _ _ _ h hP hD hS (lv_sub hl [0, 1, 2, 3, 4, 5] rfl)
        · have h := nd_neg h c31
          refine lv_aload_n hx hb dX5_open_203 rfl (lv_at hl 0 rfl) ?_
          refine va_get (D := (dC, dI)) (ci := 6) (v := .ref (a 14)) (C := RX5) (T := TX5) (N := 8) hx hb hts hi_dm_X5_open_X5 hown hK hP 0 rfl rfl 1 (by decide) (hts (.fieldLink RX5 28 "TimeMachine$Kernel" "things" "LTimeMachine$Things;") (List.mem_of_getElem? (i := 7) rfl)) (fun _ h9 => h9) rfl dX5_open_204 ?_
          refine lv_iload hx hb dX5_open_207 (lv_at hl 3 rfl) ?_
          refine lv_aload_n hx hb dX5_open_209 rfl (lv_at hl 0 rfl) ?_
          refine va_get (D := (dC, dI)) (ci := 6) (v := .ref (a 1)) (C := RX5) (T := TX5) (N := 8) hx hb hts hi_dm_X5_open_X5 hown hK hP 0 rfl rfl 6 (by decide) (hts (.fieldLink RX5 9 "TimeMachine$Kernel" "name" "[B") (List.mem_of_getElem? (i := 2) rfl)) (fun _ h9 => h9) rfl dX5_open_210 ?_
          obtain ⟨s47, hq, h⟩ := nd_b1_e h
          have hPc := dp_vX5_X10n_0 hP
          have hDc := dd_vX5_X10n_0 hD
          have hKc := dy_vX5_X10n_0 hK
          have hFc := nd_rs hDc hS hA
          have hzA : ∀ q : Nat, H.size ≤ q → A q := fun q h => hA q (Nat.le_trans hS.1 h)
          refine nd_cVv (As := [.int x6, .ref (a 1)]) (rest := []) (w' := dw_X10n (fun k => a (nd_ix [1, 14, 15, 16, 17, 18, 19, 20, 21, 22, 23] k)) (fun k => ac (nd_ix [1, 14, 15, 16, 17, 18, 19, 20, 21, 22, 23] k)) s47) ⟨hx, hb, hml, hown, hts⟩ (fun sz => dm_X10_giveName l hlt dC dI (fun k => a (nd_ix [1, 14, 15, 16, 17, 18, 19, 20, 21, 22, 23] k)) (fun k => ac (nd_ix [1, 14, 15, 16, 17, 18, 19, 20, 21, 22, 23] k)) n (x6) ((pR nd_st0 0 (sR s29.1 0)), s29.2.2.2) hq sz) (cwV 2 hts gi_dm_X5_open_7 rfl rfl rfl (by decide +kernel) ⟨Nat.le_of_ble_eq_true rfl, Nat.le_of_ble_eq_true rfl⟩) hPc hDc hKc hS hA hN (va_recv hKc hPc (ci := 11) (q0 := 1) rfl rfl) rfl hl.1 rfl (Nat.le_of_ble_eq_true rfl) dX5_open_213 (fun H locs hP1 hD1 hk1 hS => ?_)
          obtain ⟨hP, hD⟩ := dn_vX5_X10n_0 hP hD hzA hk1 hP1 hD1
          obtain ⟨s49, es49, h⟩ := nd_let_e h
          have hP : va_P (dC, dI) vwCl (dw_X5 a ac s49) H := by rw [es49]; exact hP
          have hD : va_D A (dw_X5 a ac s49) := by rw [es49]; exact hD
          exact (db_X5_open_216 C K) (x1) (x3) (x6) (x7) (x8) s49 _ _ _ h hP hD hS (lv_sub hl [0, 1, 2, 3, 4, 5] rfl)
      · have h := nd_pos h c30
        exact (db_X5_open_194 C K)  s29 _ _ _ h hP hD hS (lv_sub hl [] rfl)
set_option maxHeartbeats 40000000 in
set_option maxRecDepth 100000 in
theorem db_X5_open_158 {p : Program} {l : Launch} {e : Env} {s : State} {m : MethodId} {args : Array Value} {below : List Frame} {meth : Method} {c : Code} {Q : State → Prop} {A : Nat → Prop} {dC : Nat → ClassId} {dI : Nat → Nat → Nat} {a : Nat → Nat} {ac : Nat → ClassId} {n : Nat} {r : Int64 × (St × (St × (St × (St))))} (C : nd_C p l s m args c A (dC, dI) cX5_open 9 RX5 ow_dm_X5_open (dk_X5 ac)) (K : nd_Kl p l e (headSpec ow_dm_X5_open ({ frames := 2, cells := 0, slots := 0, locals := 62 })).room s m args below meth c Q A (dC, dI) cX5_open (St × (St × (St × (St)))) (dw_X5 a ac) r) : dj_X5_open_158 p l e s m args below meth c Q A dC dI a ac (df_X5_open_158 n) r := by
  obtain ⟨hlt, hx, hb, hml, hown, hts, hN, hA, hK⟩ := id C
  intro x1 x3 x6 x7 y0 s0 H locs ls h hP hD hS hl
  unfold df_X5_open_158 at h
  refine lv_istore (lv' := [(8, .int y0), (0, .ref (a 0)), (1, .int x1), (3, .int x3), (6, .int x6), (7, .int x7)]) hx hb dX5_open_158 hl (by decide) rfl (fun ls hl => ?_)
  refine lv_iload hx hb dX5_open_160 (lv_at hl 0 rfl) ?_
  refine lv_if_eq (tgt := 174) hx hb dX5_open_162 (by decide) (fun c23 => ?_) (fun c23 => ?_)
  · have h := nd_pos h c23
    exact (db_X5_open_174 C K) (x1) (x3) (x6) (x7) (y0) s0 _ _ _ h hP hD hS (lv_sub hl [1, 2, 3, 4, 5, 0] rfl)
  · have h := nd_neg h c23
    refine lv_aload_n hx hb dX5_open_165 rfl (lv_at hl 1 rfl) ?_
    refine va_get (D := (dC, dI)) (ci := 6) (v := .ref (a 14)) (C := RX5) (T := TX5) (N := 8) hx hb hts hi_dm_X5_open_X5 hown hK hP 0 rfl rfl 1 (by decide) (hts (.fieldLink RX5 28 "TimeMachine$Kernel" "things" "LTimeMachine$Things;") (List.mem_of_getElem? (i := 7) rfl)) (fun _ h9 => h9) rfl dX5_open_166 ?_
    obtain ⟨q50, s51, hq, h⟩ := nd_b2_e h
    have hPc := dp_X5_14 hP
    have hDc := dd_X5_14 hD
    have hKc := dy_X5_14 hK
    have hFc := nd_rs hDc hS hA
    have hzA : ∀ q : Nat, H.size ≤ q → A q := fun q h => hA q (Nat.le_trans hS.1 h)
    refine nd_cVi (As := []) (rest := []) (q := q50) (w' := dw_X10 (fun k => a (k + 14)) (fun k => ac (k + 14)) s51) ⟨hx, hb, hml, hown, hts⟩ (fun sz => dm_X10_freeFile l hlt dC dI (fun k => a (k + 14)) (fun k => ac (k + 14)) n  s0.2.2.2 hq sz) (cwV 0 hts gi_dm_X5_open_8 rfl rfl rfl (by decide +kernel) ⟨Nat.le_of_ble_eq_true rfl, Nat.le_of_ble_eq_true rfl⟩) hPc hDc hKc hS hA hN (va_recv hKc hPc (ci := 11) (q0 := 0) rfl rfl) rfl hl.1 rfl (Nat.le_of_ble_eq_true rfl) dX5_open_169 (fun H locs hP1 hD1 hk1 hS => ?_)
    obtain ⟨hP, hD⟩ := dn_X5_14 hP hD hzA hk1 hP1 hD1
    obtain ⟨s53, es53, h⟩ := nd_let_e h
    have hP : va_P (dC, dI) vwCl (dw_X5 a ac s53) H := by rw [es53]; exact hP
    have hD : va_D A (dw_X5 a ac s53) := by rw [es53]; exact hD
    refine lv_istore (lv' := [(6, .int q50), (8, .int y0), (0, .ref (a 0)), (1, .int x1), (3, .int x3), (7, .int x7)]) hx hb dX5_open_172 hl (by decide) rfl (fun ls hl => ?_)
    exact (db_X5_open_174 C K) (x1) (x3) (q50) (x7) (y0) s53 _ _ _ h hP hD hS (lv_sub hl [2, 3, 4, 0, 5, 1] rfl)
set_option maxHeartbeats 40000000 in
set_option maxRecDepth 100000 in
theorem db_X5_open_137 {p : Program} {l : Launch} {e : Env} {s : State} {m : MethodId} {args : Array Value} {below : List Frame} {meth : Method} {c : Code} {Q : State → Prop} {A : Nat → Prop} {dC : Nat → ClassId} {dI : Nat → Nat → Nat} {a : Nat → Nat} {ac : Nat → ClassId} {n : Nat} {r : Int64 × (St × (St × (St × (St))))} (C : nd_C p l s m args c A (dC, dI) cX5_open 9 RX5 ow_dm_X5_open (dk_X5 ac)) (K : nd_Kl p l e (headSpec ow_dm_X5_open ({ frames := 2, cells := 0, slots := 0, locals := 62 })).room s m args below meth c Q A (dC, dI) cX5_open (St × (St × (St × (St)))) (dw_X5 a ac) r) : dj_X5_open_137 p l e s m args below meth c Q A dC dI a ac (df_X5_open_137 n) r := by
  obtain ⟨hlt, hx, hb, hml, hown, hts, hN, hA, hK⟩ := id C
  intro x1 x3 x6 s0 H locs ls h hP hD hS hl
  unfold df_X5_open_137 at h
  refine lv_aload_n hx hb dX5_open_137 rfl (lv_at hl 0 rfl) ?_
  refine va_get (D := (dC, dI)) (ci := 6) (v := .ref (a 14)) (C := RX5) (T := TX5) (N := 8) hx hb hts hi_dm_X5_open_X5 hown hK hP 0 rfl rfl 1 (by decide) (hts (.fieldLink RX5 28 "TimeMachine$Kernel" "things" "LTimeMachine$Things;") (List.mem_of_getElem? (i := 7) rfl)) (fun _ h9 => h9) rfl dX5_open_138 ?_
  refine lv_iload_n hx hb dX5_open_141 rfl (lv_at hl 1 rfl) ?_
  refine lv_iconst (v := 0) hx hb dX5_open_142 (by decide) ?_
  obtain ⟨q18, s19, hq, h⟩ := nd_b2_e h
  have hPc := dp_X5_14 hP
  have hDc := dd_X5_14 hD
  have hKc := dy_X5_14 hK
  have hFc := nd_rs hDc hS hA
  have hzA : ∀ q : Nat, H.size ≤ q → A q := fun q h => hA q (Nat.le_trans hS.1 h)
  refine nd_cVi (As := [.int x1, .int 0]) (rest := []) (q := q18) (w' := dw_X10 (fun k => a (k + 14)) (fun k => ac (k + 14)) s19) ⟨hx, hb, hml, hown, hts⟩ (fun sz => dm_X10_freeLink l hlt dC dI (fun k => a (k + 14)) (fun k => ac (k + 14)) n (x1) (0) s0.2.2.2 hq sz) (cwV 2 hts gi_dm_X5_open_2 rfl rfl rfl (by decide +kernel) ⟨Nat.le_of_ble_eq_true rfl, Nat.le_of_ble_eq_true rfl⟩) hPc hDc hKc hS hA hN (va_recv hKc hPc (ci := 11) (q0 := 0) rfl rfl) rfl hl.1 rfl (Nat.le_of_ble_eq_true rfl) dX5_open_143 (fun H locs hP1 hD1 hk1 hS => ?_)
  obtain ⟨hP, hD⟩ := dn_X5_14 hP hD hzA hk1 hP1 hD1
  obtain ⟨s21, es21, h⟩ := nd_let_e h
  have hP : va_P (dC, dI) vwCl (dw_X5 a ac s21) H := by rw [es21]; exact hP
  have hD : va_D A (dw_X5 a ac s21) := by rw [es21]; exact hD
  refine lv_istore (lv' := [(7, .int q18), (0, .ref (a 0)), (1, .int x1), (3, .int x3), (6, .int x6)]) hx hb dX5_open_146 hl (by decide) rfl (fun ls hl => ?_)
  refine lv_iload hx hb dX5_open_148 (lv_at hl 4 rfl) ?_
  refine lv_if_ge (tgt := 157) hx hb dX5_open_150 (by decide) (fun c22 => ?_) (fun c22 => ?_)
  · have h := nd_pos h c22
    refine lv_iconst (v := 0) hx hb dX5_open_157 (by decide) ?_
    exact (db_X5_open_158 C K) (x1) (x3) (x6) (q18) (0) s21 _ _ _ h hP hD hS (lv_sub hl [1, 2, 3, 4, 0] rfl)
  · have h := nd_neg h c22
    refine lv_iconst (v := 1) hx hb dX5_open_153 (by decide) ?_
    refine lv_goto (tgt := 158) hx hb dX5_open_154 (by decide) ?_
    exact (db_X5_open_158 C K) (x1) (x3) (x6) (q18) (1) s21 _ _ _ h hP hD hS (lv_sub hl [1, 2, 3, 4, 0] rfl)
set_option maxHeartbeats 40000000 in
set_option maxRecDepth 100000 in
theorem db_X5_open_121 {p : Program} {l : Launch} {e : Env} {s : State} {m : MethodId} {args : Array Value} {below : List Frame} {meth : Method} {c : Code} {Q : State → Prop} {A : Nat → Prop} {dC : Nat → ClassId} {dI : Nat → Nat → Nat} {a : Nat → Nat} {ac : Nat → ClassId} {n : Nat} {r : Int64 × (St × (St × (St × (St))))} (C : nd_C p l s m args c A (dC, dI) cX5_open 9 RX5 ow_dm_X5_open (dk_X5 ac)) (K : nd_Kl p l e (headSpec ow_dm_X5_open ({ frames := 2, cells := 0, slots := 0, locals := 62 })).room s m args below meth c Q A (dC, dI) cX5_open (St × (St × (St × (St)))) (dw_X5 a ac) r) : dj_X5_open_121 p l e s m args below meth c Q A dC dI a ac (df_X5_open_121 n) r := by
  obtain ⟨hlt, hx, hb, hml, hown, hts, hN, hA, hK⟩ := id C
  intro x1 x3 x6 s0 H locs ls h hP hD hS hl
  unfold df_X5_open_121 at h
  refine lv_iload hx hb dX5_open_121 (lv_at hl 3 rfl) ?_
  refine lv_if_lt (tgt := 137) hx hb dX5_open_123 (by decide) (fun c17 => ?_) (fun c17 => ?_)
  · have h := nd_pos h c17
    exact (db_X5_open_137 C K) (x1) (x3) (x6) s0 _ _ _ h hP hD hS (lv_sub hl [0, 1, 2, 3] rfl)
  · have h := nd_neg h c17
    refine lv_iload_n hx hb dX5_open_126 rfl (lv_at hl 2 rfl) ?_
    refine lv_bipush (v := 16) hx hb dX5_open_127 (by decide) ?_
    refine lv_iand hx hb dX5_open_129 ?_
    refine lv_if_eq (tgt := 137) hx hb dX5_open_130 (by decide) (fun c54 => ?_) (fun c54 => ?_)
    · have h := nd_pos h c54
      exact (db_X5_open_137 C K) (x1) (x3) (x6) s0 _ _ _ h hP hD hS (lv_sub hl [0, 1, 2, 3] rfl)
    · have h := nd_neg h c54
      refine lv_ldc2 hx hb hown (hts (.constantLong RX5 350 (-3)) (List.mem_of_getElem? (i := 34) rfl)) dX5_open_133 ?_
      exact K _ _ _ _ _ _ dX5_open_136 (Option.some.inj h).symm hP hD hS
set_option maxHeartbeats 40000000 in
set_option maxRecDepth 100000 in
theorem db_X5_open_71 {p : Program} {l : Launch} {e : Env} {s : State} {m : MethodId} {args : Array Value} {below : List Frame} {meth : Method} {c : Code} {Q : State → Prop} {A : Nat → Prop} {dC : Nat → ClassId} {dI : Nat → Nat → Nat} {a : Nat → Nat} {ac : Nat → ClassId} {n : Nat} {r : Int64 × (St × (St × (St × (St))))} (C : nd_C p l s m args c A (dC, dI) cX5_open 9 RX5 ow_dm_X5_open (dk_X5 ac)) (K : nd_Kl p l e (headSpec ow_dm_X5_open ({ frames := 2, cells := 0, slots := 0, locals := 62 })).room s m args below meth c Q A (dC, dI) cX5_open (St × (St × (St × (St)))) (dw_X5 a ac) r) : dj_X5_open_71 p l e s m args below meth c Q A dC dI a ac (df_X5_open_71 n) r := by
  obtain ⟨hlt, hx, hb, hml, hown, hts, hN, hA, hK⟩ := id C
  intro x1 x2 x3 s0 H locs ls h hP hD hS hl
  unfold df_X5_open_71 at h
  refine lv_aload_n hx hb dX5_open_71 rfl (lv_at hl 0 rfl) ?_
  refine lv_iload_n hx hb dX5_open_72 rfl (lv_at hl 1 rfl) ?_
  refine lv_iload_n hx hb dX5_open_73 rfl (lv_at hl 2 rfl) ?_
  refine lv_aload_n hx hb dX5_open_74 rfl (lv_at hl 0 rfl) ?_
  refine va_get (D := (dC, dI)) (ci := 6) (v := .ref (a 1)) (C := RX5) (T := TX5) (N := 8) hx hb hts hi_dm_X5_open_X5 hown hK hP 0 rfl rfl 6 (by decide) (hts (.fieldLink RX5 9 "TimeMachine$Kernel" "name" "[B") (List.mem_of_getElem? (i := 2) rfl)) (fun _ h9 => h9) rfl dX5_open_75 ?_
  obtain ⟨q8, s9, hq, h⟩ := nd_b2_e h
  have hPc := hP
  have hDc := hD
  have hKc := hK
  have hFc := nd_rs hD hS hA
  refine nd_cVi (As := [.int x1, .int x2, .ref (a 1)]) (rest := []) (q := q8) (w' := dw_X5 a ac s9) ⟨hx, hb, hml, hown, hts⟩ (fun sz => dm_X5_readName_t1 l hlt dC dI a ac n (x1) (x2) s0 hq sz) (cwV 3 hts gi_dm_X5_open_0 rfl rfl rfl (by decide +kernel) ⟨Nat.le_of_ble_eq_true rfl, Nat.le_of_ble_eq_true rfl⟩) hPc hDc hKc hS hA hN (va_recv hKc hPc (ci := 6) (q0 := 0) rfl rfl) rfl hl.1 rfl (Nat.le_of_ble_eq_true rfl) dX5_open_78 (fun H locs hP1 hD1 hk1 hS => ?_)
  have hP := hP1
  have hD := hD1.weaken (fun k q _ h => hFc q.1 h)
  refine lv_istore (lv' := [(5, .int q8), (0, .ref (a 0)), (1, .int x1), (2, .int x2), (3, .int x3)]) hx hb dX5_open_81 hl (by decide) rfl (fun ls hl => ?_)
  refine lv_iload hx hb dX5_open_83 (lv_at hl 0 rfl) ?_
  refine lv_if_eq (tgt := 92) hx hb dX5_open_85 (by decide) (fun c11 => ?_) (fun c11 => ?_)
  · have h := nd_pos h c11
    refine lv_aload_n hx hb dX5_open_92 rfl (lv_at hl 1 rfl) ?_
    refine va_get (D := (dC, dI)) (ci := 6) (v := .ref (a 14)) (C := RX5) (T := TX5) (N := 8) hx hb hts hi_dm_X5_open_X5 hown hK hP 0 rfl rfl 1 (by decide) (hts (.fieldLink RX5 28 "TimeMachine$Kernel" "things" "LTimeMachine$Things;") (List.mem_of_getElem? (i := 7) rfl)) (fun _ h9 => h9) rfl dX5_open_93 ?_
    refine lv_aload_n hx hb dX5_open_96 rfl (lv_at hl 1 rfl) ?_
    refine va_get (D := (dC, dI)) (ci := 6) (v := .ref (a 1)) (C := RX5) (T := TX5) (N := 8) hx hb hts hi_dm_X5_open_X5 hown hK hP 0 rfl rfl 6 (by decide) (hts (.fieldLink RX5 9 "TimeMachine$Kernel" "name" "[B") (List.mem_of_getElem? (i := 2) rfl)) (fun _ h9 => h9) rfl dX5_open_97 ?_
    obtain ⟨q12, s13, hq, h⟩ := nd_b2_e h
    have hPc := dp_vX5_X10n_0 hP
    have hDc := dd_vX5_X10n_0 hD
    have hKc := dy_vX5_X10n_0 hK
    have hFc := nd_rs hDc hS hA
    have hzA : ∀ q : Nat, H.size ≤ q → A q := fun q h => hA q (Nat.le_trans hS.1 h)
    refine nd_cVi (As := [.ref (a 1)]) (rest := []) (q := q12) (w' := dw_X10n (fun k => a (nd_ix [1, 14, 15, 16, 17, 18, 19, 20, 21, 22, 23] k)) (fun k => ac (nd_ix [1, 14, 15, 16, 17, 18, 19, 20, 21, 22, 23] k)) s13) ⟨hx, hb, hml, hown, hts⟩ (fun sz => dm_X10_fileNamed l hlt dC dI (fun k => a (nd_ix [1, 14, 15, 16, 17, 18, 19, 20, 21, 22, 23] k)) (fun k => ac (nd_ix [1, 14, 15, 16, 17, 18, 19, 20, 21, 22, 23] k)) n  ((pR nd_st0 0 (sR s9.1 0)), s9.2.2.2) hq sz) (cwV 1 hts gi_dm_X5_open_1 rfl rfl rfl (by decide +kernel) ⟨Nat.le_of_ble_eq_true rfl, Nat.le_of_ble_eq_true rfl⟩) hPc hDc hKc hS hA hN (va_recv hKc hPc (ci := 11) (q0 := 1) rfl rfl) rfl hl.1 rfl (Nat.le_of_ble_eq_true rfl) dX5_open_100 (fun H locs hP1 hD1 hk1 hS => ?_)
    obtain ⟨hP, hD⟩ := dn_vX5_X10n_0 hP hD hzA hk1 hP1 hD1
    obtain ⟨s15, es15, h⟩ := nd_let_e h
    have hP : va_P (dC, dI) vwCl (dw_X5 a ac s15) H := by rw [es15]; exact hP
    have hD : va_D A (dw_X5 a ac s15) := by rw [es15]; exact hD
    refine lv_istore (lv' := [(6, .int q12), (5, .int q8), (0, .ref (a 0)), (1, .int x1), (2, .int x2), (3, .int x3)]) hx hb dX5_open_103 hl (by decide) rfl (fun ls hl => ?_)
    refine lv_iload hx hb dX5_open_105 (lv_at hl 0 rfl) ?_
    refine lv_if_ge (tgt := 121) hx hb dX5_open_107 (by decide) (fun c16 => ?_) (fun c16 => ?_)
    · have h := nd_pos h c16
      exact (db_X5_open_121 C K) (x1) (x3) (q12) s15 _ _ _ h hP hD hS (lv_sub hl [2, 3, 5, 0] rfl)
    · have h := nd_neg h c16
      refine lv_iload_n hx hb dX5_open_110 rfl (lv_at hl 5 rfl) ?_
      refine lv_bipush (v := 8) hx hb dX5_open_111 (by decide) ?_
      refine lv_iand hx hb dX5_open_113 ?_
      refine lv_if_ne (tgt := 121) hx hb dX5_open_114 (by decide) (fun c55 => ?_) (fun c55 => ?_)
      · have h := nd_neg h c55
        exact (db_X5_open_121 C K) (x1) (x3) (q12) s15 _ _ _ h hP hD hS (lv_sub hl [2, 3, 5, 0] rfl)
      · have h := nd_pos h c55
        refine lv_ldc2 hx hb hown (hts (.constantLong RX5 230 (-2)) (List.mem_of_getElem? (i := 35) rfl)) dX5_open_117 ?_
        exact K _ _ _ _ _ _ dX5_open_120 (Option.some.inj h).symm hP hD hS
  · have h := nd_neg h c11
    refine lv_iload hx hb dX5_open_88 (lv_at hl 0 rfl) ?_
    refine lv_i2l hx hb dX5_open_90 rfl ?_
    exact K _ _ _ _ _ _ dX5_open_91 (Option.some.inj h).symm hP hD hS
set_option maxHeartbeats 40000000 in
set_option maxRecDepth 100000 in
theorem db_X5_open_55 {p : Program} {l : Launch} {e : Env} {s : State} {m : MethodId} {args : Array Value} {below : List Frame} {meth : Method} {c : Code} {Q : State → Prop} {A : Nat → Prop} {dC : Nat → ClassId} {dI : Nat → Nat → Nat} {a : Nat → Nat} {ac : Nat → ClassId} {n : Nat} {r : Int64 × (St × (St × (St × (St))))} (C : nd_C p l s m args c A (dC, dI) cX5_open 9 RX5 ow_dm_X5_open (dk_X5 ac)) (K : nd_Kl p l e (headSpec ow_dm_X5_open ({ frames := 2, cells := 0, slots := 0, locals := 62 })).room s m args below meth c Q A (dC, dI) cX5_open (St × (St × (St × (St)))) (dw_X5 a ac) r) : dj_X5_open_55 p l e s m args below meth c Q A dC dI a ac (df_X5_open_55 n) r := by
  obtain ⟨hlt, hx, hb, hml, hown, hts, hN, hA, hK⟩ := id C
  intro x1 x2 x3 x4 s0 H locs ls h hP hD hS hl
  unfold df_X5_open_55 at h
  refine lv_iload_n hx hb dX5_open_55 rfl (lv_at hl 3 rfl) ?_
  refine lv_bipush (v := 32) hx hb dX5_open_56 (by decide) ?_
  refine lv_iand hx hb dX5_open_58 ?_
  refine lv_if_eq (tgt := 71) hx hb dX5_open_59 (by decide) (fun c7 => ?_) (fun c7 => ?_)
  · have h := nd_pos h c7
    exact (db_X5_open_71 C K) (x1) (x2) (x3) s0 _ _ _ h hP hD hS (lv_sub hl [0, 1, 2, 3] rfl)
  · have h := nd_neg h c7
    refine lv_iload hx hb dX5_open_62 (lv_at hl 4 rfl) ?_
    refine lv_if_ne (tgt := 71) hx hb dX5_open_64 (by decide) (fun c56 => ?_) (fun c56 => ?_)
    · have h := nd_neg h c56
      exact (db_X5_open_71 C K) (x1) (x2) (x3) s0 _ _ _ h hP hD hS (lv_sub hl [0, 1, 2, 3] rfl)
    · have h := nd_pos h c56
      exact (db_X5_open_67 C K)  s0 _ _ _ h hP hD hS (lv_sub hl [] rfl)
set_option maxHeartbeats 40000000 in
set_option maxRecDepth 100000 in
theorem db_X5_open_41 {p : Program} {l : Launch} {e : Env} {s : State} {m : MethodId} {args : Array Value} {below : List Frame} {meth : Method} {c : Code} {Q : State → Prop} {A : Nat → Prop} {dC : Nat → ClassId} {dI : Nat → Nat → Nat} {a : Nat → Nat} {ac : Nat → ClassId} {n : Nat} {r : Int64 × (St × (St × (St × (St))))} (C : nd_C p l s m args c A (dC, dI) cX5_open 9 RX5 ow_dm_X5_open (dk_X5 ac)) (K : nd_Kl p l e (headSpec ow_dm_X5_open ({ frames := 2, cells := 0, slots := 0, locals := 62 })).room s m args below meth c Q A (dC, dI) cX5_open (St × (St × (St × (St)))) (dw_X5 a ac) r) : dj_X5_open_41 p l e s m args below meth c Q A dC dI a ac (df_X5_open_41 n) r := by
  obtain ⟨hlt, hx, hb, hml, hown, hts, hN, hA, hK⟩ := id C
  intro x1 x2 x3 x4 s0 H locs ls h hP hD hS hl
  unfold df_X5_open_41 at h
  refine lv_iload_n hx hb dX5_open_41 rfl (lv_at hl 3 rfl) ?_
  refine lv_bipush (v := 16) hx hb dX5_open_42 (by decide) ?_
  refine lv_iand hx hb dX5_open_44 ?_
  refine lv_if_eq (tgt := 55) hx hb dX5_open_45 (by decide) (fun c6 => ?_) (fun c6 => ?_)
  · have h := nd_pos h c6
    exact (db_X5_open_55 C K) (x1) (x2) (x3) (x4) s0 _ _ _ h hP hD hS (lv_sub hl [0, 1, 2, 3, 4] rfl)
  · have h := nd_neg h c6
    refine lv_iload_n hx hb dX5_open_48 rfl (lv_at hl 3 rfl) ?_
    refine lv_bipush (v := 8) hx hb dX5_open_49 (by decide) ?_
    refine lv_iand hx hb dX5_open_51 ?_
    refine lv_if_eq (tgt := 67) hx hb dX5_open_52 (by decide) (fun c57 => ?_) (fun c57 => ?_)
    · have h := nd_pos h c57
      exact (db_X5_open_67 C K)  s0 _ _ _ h hP hD hS (lv_sub hl [] rfl)
    · have h := nd_neg h c57
      exact (db_X5_open_55 C K) (x1) (x2) (x3) (x4) s0 _ _ _ h hP hD hS (lv_sub hl [0, 1, 2, 3, 4] rfl)
set_option maxHeartbeats 40000000 in
set_option maxRecDepth 100000 in
theorem db_X5_open_11 {p : Program} {l : Launch} {e : Env} {s : State} {m : MethodId} {args : Array Value} {below : List Frame} {meth : Method} {c : Code} {Q : State → Prop} {A : Nat → Prop} {dC : Nat → ClassId} {dI : Nat → Nat → Nat} {a : Nat → Nat} {ac : Nat → ClassId} {n : Nat} {r : Int64 × (St × (St × (St × (St))))} (C : nd_C p l s m args c A (dC, dI) cX5_open 9 RX5 ow_dm_X5_open (dk_X5 ac)) (K : nd_Kl p l e (headSpec ow_dm_X5_open ({ frames := 2, cells := 0, slots := 0, locals := 62 })).room s m args below meth c Q A (dC, dI) cX5_open (St × (St × (St × (St)))) (dw_X5 a ac) r) : dj_X5_open_11 p l e s m args below meth c Q A dC dI a ac (df_X5_open_11 n) r := by
  obtain ⟨hlt, hx, hb, hml, hown, hts, hN, hA, hK⟩ := id C
  intro x1 x2 x3 y0 s0 H locs ls h hP hD hS hl
  unfold df_X5_open_11 at h
  refine lv_istore (lv' := [(4, .int y0), (0, .ref (a 0)), (1, .int x1), (2, .int x2), (3, .int x3)]) hx hb dX5_open_11 hl (by decide) rfl (fun ls hl => ?_)
  refine lv_iload_n hx hb dX5_open_13 rfl (lv_at hl 4 rfl) ?_
  refine lv_iconst (v := 1) hx hb dX5_open_14 (by decide) ?_
  refine lv_icmp_lt (tgt := 67) hx hb dX5_open_15 (by decide) (fun c2 => ?_) (fun c2 => ?_)
  · have h := nd_pos h c2
    exact (db_X5_open_67 C K)  s0 _ _ _ h hP hD hS (lv_sub hl [] rfl)
  · have h := nd_neg h c2
    refine lv_iload_n hx hb dX5_open_18 rfl (lv_at hl 4 rfl) ?_
    refine lv_bipush (v := 63) hx hb dX5_open_19 (by decide) ?_
    refine lv_icmp_gt (tgt := 67) hx hb dX5_open_21 (by decide) (fun c3 => ?_) (fun c3 => ?_)
    · have h := nd_pos h c3
      exact (db_X5_open_67 C K)  s0 _ _ _ h hP hD hS (lv_sub hl [] rfl)
    · have h := nd_neg h c3
      refine lv_iload_n hx hb dX5_open_24 rfl (lv_at hl 4 rfl) ?_
      refine lv_iconst (v := 3) hx hb dX5_open_25 (by decide) ?_
      refine lv_iand hx hb dX5_open_26 ?_
      refine lv_if_eq (tgt := 67) hx hb dX5_open_27 (by decide) (fun c4 => ?_) (fun c4 => ?_)
      · have h := nd_pos h c4
        exact (db_X5_open_67 C K)  s0 _ _ _ h hP hD hS (lv_sub hl [] rfl)
      · have h := nd_neg h c4
        refine lv_iload_n hx hb dX5_open_30 rfl (lv_at hl 4 rfl) ?_
        refine lv_iconst (v := 4) hx hb dX5_open_31 (by decide) ?_
        refine lv_iand hx hb dX5_open_32 ?_
        refine lv_if_eq (tgt := 41) hx hb dX5_open_33 (by decide) (fun c5 => ?_) (fun c5 => ?_)
        · have h := nd_pos h c5
          exact (db_X5_open_41 C K) (x1) (x2) (x3) (y0) s0 _ _ _ h hP hD hS (lv_sub hl [1, 2, 3, 4, 0] rfl)
        · have h := nd_neg h c5
          refine lv_iload hx hb dX5_open_36 (lv_at hl 0 rfl) ?_
          refine lv_if_eq (tgt := 67) hx hb dX5_open_38 (by decide) (fun c58 => ?_) (fun c58 => ?_)
          · have h := nd_pos h c58
            exact (db_X5_open_67 C K)  s0 _ _ _ h hP hD hS (lv_sub hl [] rfl)
          · have h := nd_neg h c58
            exact (db_X5_open_41 C K) (x1) (x2) (x3) (y0) s0 _ _ _ h hP hD hS (lv_sub hl [1, 2, 3, 4, 0] rfl)
set_option maxHeartbeats 40000000 in
set_option maxRecDepth 100000 in
theorem db_X5_open_0 {p : Program} {l : Launch} {e : Env} {s : State} {m : MethodId} {args : Array Value} {below : List Frame} {meth : Method} {c : Code} {Q : State → Prop} {A : Nat → Prop} {dC : Nat → ClassId} {dI : Nat → Nat → Nat} {a : Nat → Nat} {ac : Nat → ClassId} {n : Nat} {r : Int64 × (St × (St × (St × (St))))} (C : nd_C p l s m args c A (dC, dI) cX5_open 9 RX5 ow_dm_X5_open (dk_X5 ac)) (K : nd_Kl p l e (headSpec ow_dm_X5_open ({ frames := 2, cells := 0, slots := 0, locals := 62 })).room s m args below meth c Q A (dC, dI) cX5_open (St × (St × (St × (St)))) (dw_X5 a ac) r) : dj_X5_open_0 p l e s m args below meth c Q A dC dI a ac (df_X5_open_0 n) r := by
  obtain ⟨hlt, hx, hb, hml, hown, hts, hN, hA, hK⟩ := id C
  intro v0 v1 v2 s0 H locs ls h hP hD hS hl
  unfold df_X5_open_0 at h
  refine lv_iload_n hx hb dX5_open_0 rfl (lv_at hl 3 rfl) ?_
  refine lv_iconst (v := 2) hx hb dX5_open_1 (by decide) ?_
  refine lv_iand hx hb dX5_open_2 ?_
  refine lv_if_eq (tgt := 10) hx hb dX5_open_3 (by decide) (fun c1 => ?_) (fun c1 => ?_)
  · have h := nd_pos h c1
    refine lv_iconst (v := 0) hx hb dX5_open_10 (by decide) ?_
    exact (db_X5_open_11 C K) (v0) (v1) (v2) (0) s0 _ _ _ h hP hD hS (lv_sub hl [0, 1, 2, 3] rfl)
  · have h := nd_neg h c1
    refine lv_iconst (v := 1) hx hb dX5_open_6 (by decide) ?_
    refine lv_goto (tgt := 11) hx hb dX5_open_7 (by decide) ?_
    exact (db_X5_open_11 C K) (v0) (v1) (v2) (1) s0 _ _ _ h hP hD hS (lv_sub hl [0, 1, 2, 3] rfl)
set_option maxHeartbeats 40000000 in
set_option maxRecDepth 100000 in
theorem dm_X5_open (l : Launch) (hlt : l.stackTraces = false) (dC : Nat → ClassId) (dI : Nat → Nat → Nat) (a : Nat → Nat) (ac : Nat → ClassId) (n : Nat) (v0 : Int32) (v1 : Int32) (v2 : Int32) (s0 : St × (St × (St × (St)))) {r : Int64 × (St × (St × (St × (St))))} (h : df_X5_open n v0 v1 v2 s0 = some r) (sz : Nat) : Met l yX5_open ow_dm_X5_open ({ frames := 2, cells := 0, slots := 0, locals := 62 }) (va_Pc [.ref (a 0), .int v0, .int v1, .int v2] (fun U => U.heap.size = sz ∧ va_P (dC, dI) vwCl (dw_X5 a ac s0) U.heap ∧ va_K (dC, dI) vwCl (dk_X5 ac) U ∧ va_D (fun _ => True) (dw_X5 a ac s0) ∧ nv_E dI (va_A (dw_X5 a ac s0) sz) U)) (va_Ql (fun x _ => x = r.1) (fun (_ : Unit) t => va_P (dC, dI) vwCl (dw_X5 a ac r.2) t.heap ∧ va_K (dC, dI) vwCl (dk_X5 ac) t ∧ va_D (va_A (dw_X5 a ac s0) sz) (dw_X5 a ac r.2)) (va_A (dw_X5 a ac s0) sz)) 0 0 (va_A (dw_X5 a ac s0) sz) := by
  refine Met.ofW (cc := cX5_open) (maxL := 9) (ret := (some .long)) (by decide) rfl ?_
  intro p e s m args below meth c s₁ B hml hv
  obtain ⟨rfl, hsz, hP, hK, hD0, hN⟩ := hv
  have hx := B.exec
  have hb := B.bytes
  have hr := B.returns
  have hts := atoms_spec (ws := ow_dm_X5_open) B.pre
  have hown : s.vm.findClass RX5 = some m.cls := findClass_of_methodNamed B.named
  have hlocks := B.notSynchronized
  subst hsz
  have hD := hD0.self (sz := s.heap.size)
  generalize hAe : va_A (dw_X5 a ac s0) s.heap.size = A at hD hN ⊢
  have hA : ∀ q : Nat, s.heap.size ≤ q → A q := fun q h => by rw [← hAe]; exact Or.inr h
  have hl := lv_entry ([.ref (a 0), .int v0, .int v1, .int v2]) (n := 9) (Nat.le_of_ble_eq_true rfl)
  rw [lg_entry_eq]
  generalize (lg_sl ([.ref (a 0), .int v0, .int v1, .int v2]) ++ List.replicate (9 - (lg_sl ([.ref (a 0), .int v0, .int v1, .int v2])).length) Slot.unset).toArray = ls at hl ⊢
  have hl : lv_has ls 9 [(0, .ref (a 0)), (1, .int v0), (2, .int v1), (3, .int v2)] := hl
  exact db_X5_open_0 (dC := dC) (dI := dI) (a := a) (ac := ac) (n := n) (r := r) ⟨hlt, hx, hb, hml, hown, hts, hN, hA, hK⟩ (fun pc v τ H locs ls d er hP hD hS => by subst er; exact W.lret (v := v) hx hb hr (fun t ht hW => ⟨⟨v, (), rfl, rfl, by rw [ht]; exact hP, va_K.moved hW.alike hK, hD⟩, hS.F ht⟩) hS.2.2 d) v0 v1 v2 s0 _ _ _ h hP hD va_S.rf (lv_sub hl [0, 1, 2, 3] rfl)
def ow_dm_X5_unlink : List Cond := Cond.code yX5_unlink cX5_unlink 5 (some .long) :: ([Cond.fieldLink RX5 9 "TimeMachine$Kernel" "name" "[B", Cond.methodLink RX5 342 yX5_readName, Cond.instanceMethod yX5_readName, Cond.selects RX5 yX5_readName yX5_readName, Cond.initialized RX5, Cond.fieldLink RX5 28 "TimeMachine$Kernel" "things" "LTimeMachine$Things;", Cond.methodLink RX5 346 yX10_fileNamed, Cond.instanceMethod yX10_fileNamed, Cond.selects RX10 yX10_fileNamed yX10_fileNamed, Cond.initialized RX10, Cond.methodLink RX5 362 yX10_loseName, Cond.instanceMethod yX10_loseName, Cond.selects RX10 yX10_loseName yX10_loseName, Cond.constantLong RX5 230 (-2)] ++ (u_ws RX5 TX5 8 ++ (ow_dm_X5_readName_t1 ++ (ow_dm_X10_fileNamed ++ (ow_dm_X10_loseName ++ [])))))
theorem gd_dm_X5_unlink : ∀ w ∈ ow_dm_X5_unlink, (w.onTables && w.keeps) = true ∨ ∃ ty, w = Cond.arrayClass ty := List.forall_mem_cons.mpr ⟨good_of_word rfl, List.forall_mem_append.mpr ⟨fun w h => good_of_word (List.all_eq_true.mp (by decide +kernel) w h), List.forall_mem_append.mpr ⟨gu_X5, List.forall_mem_append.mpr ⟨gd_dm_X5_readName_t1, List.forall_mem_append.mpr ⟨gd_dm_X10_fileNamed, List.forall_mem_append.mpr ⟨gd_dm_X10_loseName, fun _ h => nomatch h⟩⟩⟩⟩⟩⟩
theorem hi_dm_X5_unlink_X5 : ∀ w ∈ u_ws RX5 TX5 8, w ∈ ow_dm_X5_unlink := fun w h => List.mem_cons_of_mem _ (List.mem_append_right _ (List.mem_append_left _ h))
theorem gi_dm_X5_unlink_0 : GoodIn ow_dm_X5_unlink (wsV RX5 342 RX5 yX5_readName ow_dm_X5_readName_t1) := goodIn_app (goodIn_of _ (by decide +kernel)) (fun w h => ⟨List.mem_cons_of_mem _ (List.mem_append_right _ (List.mem_append_right _ (List.mem_append_left _ h))), gd_dm_X5_readName_t1 w h⟩)
theorem gi_dm_X5_unlink_1 : GoodIn ow_dm_X5_unlink (wsV RX5 346 RX10 yX10_fileNamed ow_dm_X10_fileNamed) := goodIn_app (goodIn_of _ (by decide +kernel)) (fun w h => ⟨List.mem_cons_of_mem _ (List.mem_append_right _ (List.mem_append_right _ (List.mem_append_right _ (List.mem_append_left _ h)))), gd_dm_X10_fileNamed w h⟩)
theorem gi_dm_X5_unlink_2 : GoodIn ow_dm_X5_unlink (wsV RX5 362 RX10 yX10_loseName ow_dm_X10_loseName) := goodIn_app (goodIn_of _ (by decide +kernel)) (fun w h => ⟨List.mem_cons_of_mem _ (List.mem_append_right _ (List.mem_append_right _ (List.mem_append_right _ (List.mem_append_right _ (List.mem_append_left _ h))))), gd_dm_X10_loseName w h⟩)
def dj_X5_unlink_0 (p : Program) (l : Launch) (e : Env) (s : State) (m : MethodId) (args : Array Value) (below : List Frame) (meth : Method) (c : Code) (Q : State → Prop) (A : Nat → Prop) (dC : Nat → ClassId) (dI : Nat → Nat → Nat) (a : Nat → Nat) (ac : Nat → ClassId) (g : Int32 → Int32 → (St × (St × (St × (St)))) → Option (Int64 × (St × (St × (St × (St)))))) (r : Int64 × (St × (St × (St × (St))))) : Prop := ∀ (v0 : Int32) (v1 : Int32) (s0 : St × (St × (St × (St)))) (H : Heap) (locs : List Loc) (ls : Array Slot), g v0 v1 s0 = some r → va_P (dC, dI) vwCl (dw_X5 a ac s0) H → va_D A (dw_X5 a ac s0) → va_S A s.heap H locs → lv_has ls 5 [(0, .ref (a 0)), (1, .int v0), (2, .int v1)] → W p l e (headSpec ow_dm_X5_unlink ({ frames := 2, cells := 0, slots := 0, locals := 50 })).room s m args below meth c H locs 0 0 Q (F0 m 0 ls [])
set_option maxHeartbeats 40000000 in
set_option maxRecDepth 100000 in
theorem db_X5_unlink_0 {p : Program} {l : Launch} {e : Env} {s : State} {m : MethodId} {args : Array Value} {below : List Frame} {meth : Method} {c : Code} {Q : State → Prop} {A : Nat → Prop} {dC : Nat → ClassId} {dI : Nat → Nat → Nat} {a : Nat → Nat} {ac : Nat → ClassId} {n : Nat} {r : Int64 × (St × (St × (St × (St))))} (C : nd_C p l s m args c A (dC, dI) cX5_unlink 5 RX5 ow_dm_X5_unlink (dk_X5 ac)) (K : nd_Kl p l e (headSpec ow_dm_X5_unlink ({ frames := 2, cells := 0, slots := 0, locals := 50 })).room s m args below meth c Q A (dC, dI) cX5_unlink (St × (St × (St × (St)))) (dw_X5 a ac) r) : dj_X5_unlink_0 p l e s m args below meth c Q A dC dI a ac (df_X5_unlink_0 n) r := by
  obtain ⟨hlt, hx, hb, hml, hown, hts, hN, hA, hK⟩ := id C
  intro v0 v1 s0 H locs ls h hP hD hS hl
  unfold df_X5_unlink_0 at h
  refine lv_aload_n hx hb dX5_unlink_0 rfl (lv_at hl 0 rfl) ?_
  refine lv_iload_n hx hb dX5_unlink_1 rfl (lv_at hl 1 rfl) ?_
  refine lv_iload_n hx hb dX5_unlink_2 rfl (lv_at hl 2 rfl) ?_
  refine lv_aload_n hx hb dX5_unlink_3 rfl (lv_at hl 0 rfl) ?_
  refine va_get (D := (dC, dI)) (ci := 6) (v := .ref (a 1)) (C := RX5) (T := TX5) (N := 8) hx hb hts hi_dm_X5_unlink_X5 hown hK hP 0 rfl rfl 6 (by decide) (hts (.fieldLink RX5 9 "TimeMachine$Kernel" "name" "[B") (List.mem_of_getElem? (i := 1) rfl)) (fun _ h9 => h9) rfl dX5_unlink_4 ?_
  obtain ⟨q1, s2, hq, h⟩ := nd_b2_e h
  have hPc := hP
  have hDc := hD
  have hKc := hK
  have hFc := nd_rs hD hS hA
  refine nd_cVi (As := [.int v0, .int v1, .ref (a 1)]) (rest := []) (q := q1) (w' := dw_X5 a ac s2) ⟨hx, hb, hml, hown, hts⟩ (fun sz => dm_X5_readName_t1 l hlt dC dI a ac n (v0) (v1) s0 hq sz) (cwV 3 hts gi_dm_X5_unlink_0 rfl rfl rfl (by decide +kernel) ⟨Nat.le_of_ble_eq_true rfl, Nat.le_of_ble_eq_true rfl⟩) hPc hDc hKc hS hA hN (va_recv hKc hPc (ci := 6) (q0 := 0) rfl rfl) rfl hl.1 rfl (Nat.le_of_ble_eq_true rfl) dX5_unlink_7 (fun H locs hP1 hD1 hk1 hS => ?_)
  have hP := hP1
  have hD := hD1.weaken (fun k q _ h => hFc q.1 h)
  refine lv_istore_n (lv' := [(3, .int q1), (0, .ref (a 0)), (1, .int v0), (2, .int v1)]) hx hb dX5_unlink_10 rfl hl (by decide) rfl (fun ls hl => ?_)
  refine lv_iload_n hx hb dX5_unlink_11 rfl (lv_at hl 0 rfl) ?_
  refine lv_if_eq (tgt := 18) hx hb dX5_unlink_12 (by decide) (fun c4 => ?_) (fun c4 => ?_)
  · have h := nd_pos h c4
    refine lv_aload_n hx hb dX5_unlink_18 rfl (lv_at hl 1 rfl) ?_
    refine va_get (D := (dC, dI)) (ci := 6) (v := .ref (a 14)) (C := RX5) (T := TX5) (N := 8) hx hb hts hi_dm_X5_unlink_X5 hown hK hP 0 rfl rfl 1 (by decide) (hts (.fieldLink RX5 28 "TimeMachine$Kernel" "things" "LTimeMachine$Things;") (List.mem_of_getElem? (i := 6) rfl)) (fun _ h9 => h9) rfl dX5_unlink_19 ?_
    refine lv_aload_n hx hb dX5_unlink_22 rfl (lv_at hl 1 rfl) ?_
    refine va_get (D := (dC, dI)) (ci := 6) (v := .ref (a 1)) (C := RX5) (T := TX5) (N := 8) hx hb hts hi_dm_X5_unlink_X5 hown hK hP 0 rfl rfl 6 (by decide) (hts (.fieldLink RX5 9 "TimeMachine$Kernel" "name" "[B") (List.mem_of_getElem? (i := 1) rfl)) (fun _ h9 => h9) rfl dX5_unlink_23 ?_
    obtain ⟨q5, s6, hq, h⟩ := nd_b2_e h
    have hPc := dp_vX5_X10n_0 hP
    have hDc := dd_vX5_X10n_0 hD
    have hKc := dy_vX5_X10n_0 hK
    have hFc := nd_rs hDc hS hA
    have hzA : ∀ q : Nat, H.size ≤ q → A q := fun q h => hA q (Nat.le_trans hS.1 h)
    refine nd_cVi (As := [.ref (a 1)]) (rest := []) (q := q5) (w' := dw_X10n (fun k => a (nd_ix [1, 14, 15, 16, 17, 18, 19, 20, 21, 22, 23] k)) (fun k => ac (nd_ix [1, 14, 15, 16, 17, 18, 19, 20, 21, 22, 23] k)) s6) ⟨hx, hb, hml, hown, hts⟩ (fun sz => dm_X10_fileNamed l hlt dC dI (fun k => a (nd_ix [1, 14, 15, 16, 17, 18, 19, 20, 21, 22, 23] k)) (fun k => ac (nd_ix [1, 14, 15, 16, 17, 18, 19, 20, 21, 22, 23] k)) n  ((pR nd_st0 0 (sR s2.1 0)), s2.2.2.2) hq sz) (cwV 1 hts gi_dm_X5_unlink_1 rfl rfl rfl (by decide +kernel) ⟨Nat.le_of_ble_eq_true rfl, Nat.le_of_ble_eq_true rfl⟩) hPc hDc hKc hS hA hN (va_recv hKc hPc (ci := 11) (q0 := 1) rfl rfl) rfl hl.1 rfl (Nat.le_of_ble_eq_true rfl) dX5_unlink_26 (fun H locs hP1 hD1 hk1 hS => ?_)
    obtain ⟨hP, hD⟩ := dn_vX5_X10n_0 hP hD hzA hk1 hP1 hD1
    obtain ⟨s8, es8, h⟩ := nd_let_e h
    have hP : va_P (dC, dI) vwCl (dw_X5 a ac s8) H := by rw [es8]; exact hP
    have hD : va_D A (dw_X5 a ac s8) := by rw [es8]; exact hD
    refine lv_istore (lv' := [(4, .int q5), (3, .int q1), (0, .ref (a 0)), (1, .int v0), (2, .int v1)]) hx hb dX5_unlink_29 hl (by decide) rfl (fun ls hl => ?_)
    refine lv_iload hx hb dX5_unlink_31 (lv_at hl 0 rfl) ?_
    refine lv_if_ge (tgt := 40) hx hb dX5_unlink_33 (by decide) (fun c9 => ?_) (fun c9 => ?_)
    · have h := nd_pos h c9
      refine lv_aload_n hx hb dX5_unlink_40 rfl (lv_at hl 2 rfl) ?_
      refine va_get (D := (dC, dI)) (ci := 6) (v := .ref (a 14)) (C := RX5) (T := TX5) (N := 8) hx hb hts hi_dm_X5_unlink_X5 hown hK hP 0 rfl rfl 1 (by decide) (hts (.fieldLink RX5 28 "TimeMachine$Kernel" "things" "LTimeMachine$Things;") (List.mem_of_getElem? (i := 6) rfl)) (fun _ h9 => h9) rfl dX5_unlink_41 ?_
      refine lv_iload hx hb dX5_unlink_44 (lv_at hl 0 rfl) ?_
      obtain ⟨s11, hq, h⟩ := nd_b1_e h
      have hPc := dp_X5_14 hP
      have hDc := dd_X5_14 hD
      have hKc := dy_X5_14 hK
      have hFc := nd_rs hDc hS hA
      have hzA : ∀ q : Nat, H.size ≤ q → A q := fun q h => hA q (Nat.le_trans hS.1 h)
      refine nd_cVv (As := [.int q5]) (rest := []) (w' := dw_X10 (fun k => a (k + 14)) (fun k => ac (k + 14)) s11) ⟨hx, hb, hml, hown, hts⟩ (fun sz => dm_X10_loseName l hlt dC dI (fun k => a (k + 14)) (fun k => ac (k + 14)) n (q5) s8.2.2.2 hq sz) (cwV 1 hts gi_dm_X5_unlink_2 rfl rfl rfl (by decide +kernel) ⟨Nat.le_of_ble_eq_true rfl, Nat.le_of_ble_eq_true rfl⟩) hPc hDc hKc hS hA hN (va_recv hKc hPc (ci := 11) (q0 := 0) rfl rfl) rfl hl.1 rfl (Nat.le_of_ble_eq_true rfl) dX5_unlink_46 (fun H locs hP1 hD1 hk1 hS => ?_)
      obtain ⟨hP, hD⟩ := dn_X5_14 hP hD hzA hk1 hP1 hD1
      obtain ⟨s13, es13, h⟩ := nd_let_e h
      have hP : va_P (dC, dI) vwCl (dw_X5 a ac s13) H := by rw [es13]; exact hP
      have hD : va_D A (dw_X5 a ac s13) := by rw [es13]; exact hD
      refine lv_lconst (v := 0) hx hb dX5_unlink_49 (by decide) ?_
      exact K _ _ _ _ _ _ dX5_unlink_50 (Option.some.inj h).symm hP hD hS
    · have h := nd_neg h c9
      refine lv_ldc2 hx hb hown (hts (.constantLong RX5 230 (-2)) (List.mem_of_getElem? (i := 14) rfl)) dX5_unlink_36 ?_
      exact K _ _ _ _ _ _ dX5_unlink_39 (Option.some.inj h).symm hP hD hS
  · have h := nd_neg h c4
    refine lv_iload_n hx hb dX5_unlink_15 rfl (lv_at hl 0 rfl) ?_
    refine lv_i2l hx hb dX5_unlink_16 rfl ?_
    exact K _ _ _ _ _ _ dX5_unlink_17 (Option.some.inj h).symm hP hD hS
set_option maxHeartbeats 40000000 in
set_option maxRecDepth 100000 in
theorem dm_X5_unlink (l : Launch) (hlt : l.stackTraces = false) (dC : Nat → ClassId) (dI : Nat → Nat → Nat) (a : Nat → Nat) (ac : Nat → ClassId) (n : Nat) (v0 : Int32) (v1 : Int32) (s0 : St × (St × (St × (St)))) {r : Int64 × (St × (St × (St × (St))))} (h : df_X5_unlink n v0 v1 s0 = some r) (sz : Nat) : Met l yX5_unlink ow_dm_X5_unlink ({ frames := 2, cells := 0, slots := 0, locals := 50 }) (va_Pc [.ref (a 0), .int v0, .int v1] (fun U => U.heap.size = sz ∧ va_P (dC, dI) vwCl (dw_X5 a ac s0) U.heap ∧ va_K (dC, dI) vwCl (dk_X5 ac) U ∧ va_D (fun _ => True) (dw_X5 a ac s0) ∧ nv_E dI (va_A (dw_X5 a ac s0) sz) U)) (va_Ql (fun x _ => x = r.1) (fun (_ : Unit) t => va_P (dC, dI) vwCl (dw_X5 a ac r.2) t.heap ∧ va_K (dC, dI) vwCl (dk_X5 ac) t ∧ va_D (va_A (dw_X5 a ac s0) sz) (dw_X5 a ac r.2)) (va_A (dw_X5 a ac s0) sz)) 0 0 (va_A (dw_X5 a ac s0) sz) := by
  refine Met.ofW (cc := cX5_unlink) (maxL := 5) (ret := (some .long)) (by decide) rfl ?_
  intro p e s m args below meth c s₁ B hml hv
  obtain ⟨rfl, hsz, hP, hK, hD0, hN⟩ := hv
  have hx := B.exec
  have hb := B.bytes
  have hr := B.returns
  have hts := atoms_spec (ws := ow_dm_X5_unlink) B.pre
  have hown : s.vm.findClass RX5 = some m.cls := findClass_of_methodNamed B.named
  have hlocks := B.notSynchronized
  subst hsz
  have hD := hD0.self (sz := s.heap.size)
  generalize hAe : va_A (dw_X5 a ac s0) s.heap.size = A at hD hN ⊢
  have hA : ∀ q : Nat, s.heap.size ≤ q → A q := fun q h => by rw [← hAe]; exact Or.inr h
  have hl := lv_entry ([.ref (a 0), .int v0, .int v1]) (n := 5) (Nat.le_of_ble_eq_true rfl)
  rw [lg_entry_eq]
  generalize (lg_sl ([.ref (a 0), .int v0, .int v1]) ++ List.replicate (5 - (lg_sl ([.ref (a 0), .int v0, .int v1])).length) Slot.unset).toArray = ls at hl ⊢
  have hl : lv_has ls 5 [(0, .ref (a 0)), (1, .int v0), (2, .int v1)] := hl
  exact db_X5_unlink_0 (dC := dC) (dI := dI) (a := a) (ac := ac) (n := n) (r := r) ⟨hlt, hx, hb, hml, hown, hts, hN, hA, hK⟩ (fun pc v τ H locs ls d er hP hD hS => by subst er; exact W.lret (v := v) hx hb hr (fun t ht hW => ⟨⟨v, (), rfl, rfl, by rw [ht]; exact hP, va_K.moved hW.alike hK, hD⟩, hS.F ht⟩) hS.2.2 d) v0 v1 s0 _ _ _ h hP hD va_S.rf (lv_sub hl [0, 1, 2] rfl)
def ow_dm_X5_seek : List Cond := Cond.code yX5_seek cX5_seek 8 (some .long) :: ([Cond.constantLong RX5 251 (-22), Cond.fieldLink RX5 28 "TimeMachine$Kernel" "things" "LTimeMachine$Things;", Cond.methodLink RX5 123 yX10_openingOf, Cond.instanceMethod yX10_openingOf, Cond.selects RX10 yX10_openingOf yX10_openingOf, Cond.initialized RX10, Cond.constantLong RX5 294 (-1), Cond.methodLink RX5 291 yX10_of, Cond.instanceMethod yX10_of, Cond.selects RX10 yX10_of yX10_of, Cond.constantLong RX5 368 (512), Cond.methodLink RX5 370 yX10_seek, Cond.instanceMethod yX10_seek, Cond.selects RX10 yX10_seek yX10_seek, Cond.methodLink RX5 365 yX10_amount, Cond.instanceMethod yX10_amount, Cond.selects RX10 yX10_amount yX10_amount] ++ (u_ws RX5 TX5 8 ++ (ow_dm_X10_openingOf ++ (ow_dm_X10_of ++ (ow_dm_X10_seek ++ (ow_dm_X10_amount ++ []))))))
theorem gd_dm_X5_seek : ∀ w ∈ ow_dm_X5_seek, (w.onTables && w.keeps) = true ∨ ∃ ty, w = Cond.arrayClass ty := List.forall_mem_cons.mpr ⟨good_of_word rfl, List.forall_mem_append.mpr ⟨fun w h => good_of_word (List.all_eq_true.mp (by decide +kernel) w h), List.forall_mem_append.mpr ⟨gu_X5, List.forall_mem_append.mpr ⟨gd_dm_X10_openingOf, List.forall_mem_append.mpr ⟨gd_dm_X10_of, List.forall_mem_append.mpr ⟨gd_dm_X10_seek, List.forall_mem_append.mpr ⟨gd_dm_X10_amount, fun _ h => nomatch h⟩⟩⟩⟩⟩⟩⟩
theorem hi_dm_X5_seek_X5 : ∀ w ∈ u_ws RX5 TX5 8, w ∈ ow_dm_X5_seek := fun w h => List.mem_cons_of_mem _ (List.mem_append_right _ (List.mem_append_left _ h))
theorem gi_dm_X5_seek_0 : GoodIn ow_dm_X5_seek (wsV RX5 123 RX10 yX10_openingOf ow_dm_X10_openingOf) := goodIn_app (goodIn_of _ (by decide +kernel)) (fun w h => ⟨List.mem_cons_of_mem _ (List.mem_append_right _ (List.mem_append_right _ (List.mem_append_left _ h))), gd_dm_X10_openingOf w h⟩)
theorem gi_dm_X5_seek_1 : GoodIn ow_dm_X5_seek (wsV RX5 291 RX10 yX10_of ow_dm_X10_of) := goodIn_app (goodIn_of _ (by decide +kernel)) (fun w h => ⟨List.mem_cons_of_mem _ (List.mem_append_right _ (List.mem_append_right _ (List.mem_append_right _ (List.mem_append_left _ h)))), gd_dm_X10_of w h⟩)
theorem gi_dm_X5_seek_2 : GoodIn ow_dm_X5_seek (wsV RX5 370 RX10 yX10_seek ow_dm_X10_seek) := goodIn_app (goodIn_of _ (by decide +kernel)) (fun w h => ⟨List.mem_cons_of_mem _ (List.mem_append_right _ (List.mem_append_right _ (List.mem_append_right _ (List.mem_append_right _ (List.mem_append_left _ h))))), gd_dm_X10_seek w h⟩)
theorem gi_dm_X5_seek_3 : GoodIn ow_dm_X5_seek (wsV RX5 365 RX10 yX10_amount ow_dm_X10_amount) := goodIn_app (goodIn_of _ (by decide +kernel)) (fun w h => ⟨List.mem_cons_of_mem _ (List.mem_append_right _ (List.mem_append_right _ (List.mem_append_right _ (List.mem_append_right _ (List.mem_append_right _ (List.mem_append_left _ h)))))), gd_dm_X10_amount w h⟩)
def dj_X5_seek_11 (p : Program) (l : Launch) (e : Env) (s : State) (m : MethodId) (args : Array Value) (below : List Frame) (meth : Method) (c : Code) (Q : State → Prop) (A : Nat → Prop) (dC : Nat → ClassId) (dI : Nat → Nat → Nat) (a : Nat → Nat) (ac : Nat → ClassId) (g : (St × (St × (St × (St)))) → Option (Int64 × (St × (St × (St × (St)))))) (r : Int64 × (St × (St × (St × (St))))) : Prop := ∀ (s0 : St × (St × (St × (St)))) (H : Heap) (locs : List Loc) (ls : Array Slot), g s0 = some r → va_P (dC, dI) vwCl (dw_X5 a ac s0) H → va_D A (dw_X5 a ac s0) → va_S A s.heap H locs → lv_has ls 8 [] → W p l e (headSpec ow_dm_X5_seek ({ frames := 1, cells := 0, slots := 0, locals := 23 })).room s m args below meth c H locs 0 0 Q (F0 m 11 ls [])
def dj_X5_seek_45 (p : Program) (l : Launch) (e : Env) (s : State) (m : MethodId) (args : Array Value) (below : List Frame) (meth : Method) (c : Code) (Q : State → Prop) (A : Nat → Prop) (dC : Nat → ClassId) (dI : Nat → Nat → Nat) (a : Nat → Nat) (ac : Nat → ClassId) (g : (St × (St × (St × (St)))) → Option (Int64 × (St × (St × (St × (St)))))) (r : Int64 × (St × (St × (St × (St))))) : Prop := ∀ (s0 : St × (St × (St × (St)))) (H : Heap) (locs : List Loc) (ls : Array Slot), g s0 = some r → va_P (dC, dI) vwCl (dw_X5 a ac s0) H → va_D A (dw_X5 a ac s0) → va_S A s.heap H locs → lv_has ls 8 [] → W p l e (headSpec ow_dm_X5_seek ({ frames := 1, cells := 0, slots := 0, locals := 23 })).room s m args below meth c H locs 0 0 Q (F0 m 45 ls [])
def dj_X5_seek_109 (p : Program) (l : Launch) (e : Env) (s : State) (m : MethodId) (args : Array Value) (below : List Frame) (meth : Method) (c : Code) (Q : State → Prop) (A : Nat → Prop) (dC : Nat → ClassId) (dI : Nat → Nat → Nat) (a : Nat → Nat) (ac : Nat → ClassId) (g : (St × (St × (St × (St)))) → Option (Int64 × (St × (St × (St × (St)))))) (r : Int64 × (St × (St × (St × (St))))) : Prop := ∀ (s0 : St × (St × (St × (St)))) (H : Heap) (locs : List Loc) (ls : Array Slot), g s0 = some r → va_P (dC, dI) vwCl (dw_X5 a ac s0) H → va_D A (dw_X5 a ac s0) → va_S A s.heap H locs → lv_has ls 8 [] → W p l e (headSpec ow_dm_X5_seek ({ frames := 1, cells := 0, slots := 0, locals := 23 })).room s m args below meth c H locs 0 0 Q (F0 m 109 ls [])
def dj_X5_seek_93 (p : Program) (l : Launch) (e : Env) (s : State) (m : MethodId) (args : Array Value) (below : List Frame) (meth : Method) (c : Code) (Q : State → Prop) (A : Nat → Prop) (dC : Nat → ClassId) (dI : Nat → Nat → Nat) (a : Nat → Nat) (ac : Nat → ClassId) (g : Int32 → Int64 → (St × (St × (St × (St)))) → Option (Int64 × (St × (St × (St × (St)))))) (r : Int64 × (St × (St × (St × (St))))) : Prop := ∀ (x5 : Int32) (x6 : Int64) (s0 : St × (St × (St × (St)))) (H : Heap) (locs : List Loc) (ls : Array Slot), g x5 x6 s0 = some r → va_P (dC, dI) vwCl (dw_X5 a ac s0) H → va_D A (dw_X5 a ac s0) → va_S A s.heap H locs → lv_has ls 8 [(0, .ref (a 0)), (5, .int x5), (6, .long x6)] → W p l e (headSpec ow_dm_X5_seek ({ frames := 1, cells := 0, slots := 0, locals := 23 })).room s m args below meth c H locs 0 0 Q (F0 m 93 ls [])
def dj_X5_seek_90 (p : Program) (l : Launch) (e : Env) (s : State) (m : MethodId) (args : Array Value) (below : List Frame) (meth : Method) (c : Code) (Q : State → Prop) (A : Nat → Prop) (dC : Nat → ClassId) (dI : Nat → Nat → Nat) (a : Nat → Nat) (ac : Nat → ClassId) (g : Int32 → Int64 → Int64 → (St × (St × (St × (St)))) → Option (Int64 × (St × (St × (St × (St)))))) (r : Int64 × (St × (St × (St × (St))))) : Prop := ∀ (x5 : Int32) (y0 : Int64) (y1 : Int64) (s0 : St × (St × (St × (St)))) (H : Heap) (locs : List Loc) (ls : Array Slot), g x5 y0 y1 s0 = some r → va_P (dC, dI) vwCl (dw_X5 a ac s0) H → va_D A (dw_X5 a ac s0) → va_S A s.heap H locs → lv_has ls 8 [(0, .ref (a 0)), (5, .int x5)] → W p l e (headSpec ow_dm_X5_seek ({ frames := 1, cells := 0, slots := 0, locals := 23 })).room s m args below meth c H locs 0 0 Q (F0 m 90 ls [.long y1, .long y0])
def dj_X5_seek_0 (p : Program) (l : Launch) (e : Env) (s : State) (m : MethodId) (args : Array Value) (below : List Frame) (meth : Method) (c : Code) (Q : State → Prop) (A : Nat → Prop) (dC : Nat → ClassId) (dI : Nat → Nat → Nat) (a : Nat → Nat) (ac : Nat → ClassId) (g : Int32 → Int32 → Int32 → Int32 → (St × (St × (St × (St)))) → Option (Int64 × (St × (St × (St × (St)))))) (r : Int64 × (St × (St × (St × (St))))) : Prop := ∀ (v0 : Int32) (v1 : Int32) (v2 : Int32) (v3 : Int32) (s0 : St × (St × (St × (St)))) (H : Heap) (locs : List Loc) (ls : Array Slot), g v0 v1 v2 v3 s0 = some r → va_P (dC, dI) vwCl (dw_X5 a ac s0) H → va_D A (dw_X5 a ac s0) → va_S A s.heap H locs → lv_has ls 8 [(0, .ref (a 0)), (1, .int v0), (2, .int v1), (3, .int v2), (4, .int v3)] → W p l e (headSpec ow_dm_X5_seek ({ frames := 1, cells := 0, slots := 0, locals := 23 })).room s m args below meth c H locs 0 0 Q (F0 m 0 ls [])
set_option maxHeartbeats 40000000 in
set_option maxRecDepth 100000 in
theorem db_X5_seek_11 {p : Program} {l : Launch} {e : Env} {s : State} {m : MethodId} {args : Array Value} {below : List Frame} {meth : Method} {c : Code} {Q : State → Prop} {A : Nat → Prop} {dC : Nat → ClassId} {dI : Nat → Nat → Nat} {a : Nat → Nat} {ac : Nat → ClassId} {n : Nat} {r : Int64 × (St × (St × (St × (St))))} (C : nd_C p l s m args c A (dC, dI) cX5_seek 8 RX5 ow_dm_X5_seek (dk_X5 ac)) (K : nd_Kl p l e (headSpec ow_dm_X5_seek ({ frames := 1, cells := 0, slots := 0, locals := 23 })).room s m args below meth c Q A (dC, dI) cX5_seek (St × (St × (St × (St)))) (dw_X5 a ac) r) : dj_X5_seek_11 p l e s m args below meth c Q A dC dI a ac (df_X5_seek_11 n) r := by
  obtain ⟨hlt, hx, hb, hml, hown, hts, hN, hA, hK⟩ := id C
  intro s0 H locs ls h hP hD hS hl
  unfold df_X5_seek_11 at h
  refine lv_ldc2 hx hb hown (hts (.constantLong RX5 251 (-22)) (List.mem_of_getElem? (i := 1) rfl)) dX5_seek_11 ?_
  exact K _ _ _ _ _ _ dX5_seek_14 (Option.some.inj h).symm hP hD hS
set_option maxHeartbeats 40000000 in
set_option maxRecDepth 100000 in
theorem db_X5_seek_45 {p : Program} {l : Launch} {e : Env} {s : State} {m : MethodId} {args : Array Value} {below : List Frame} {meth : Method} {c : Code} {Q : State → Prop} {A : Nat → Prop} {dC : Nat → ClassId} {dI : Nat → Nat → Nat} {a : Nat → Nat} {ac : Nat → ClassId} {n : Nat} {r : Int64 × (St × (St × (St × (St))))} (C : nd_C p l s m args c A (dC, dI) cX5_seek 8 RX5 ow_dm_X5_seek (dk_X5 ac)) (K : nd_Kl p l e (headSpec ow_dm_X5_seek ({ frames := 1, cells := 0, slots := 0, locals := 23 })).room s m args below meth c Q A (dC, dI) cX5_seek (St × (St × (St × (St)))) (dw_X5 a ac) r) : dj_X5_seek_45 p l e s m args below meth c Q A dC dI a ac (df_X5_seek_45 n) r := by
  obtain ⟨hlt, hx, hb, hml, hown, hts, hN, hA, hK⟩ := id C
  intro s0 H locs ls h hP hD hS hl
  unfold df_X5_seek_45 at h
  refine lv_ldc2 hx hb hown (hts (.constantLong RX5 294 (-1)) (List.mem_of_getElem? (i := 7) rfl)) dX5_seek_45 ?_
  exact K _ _ _ _ _ _ dX5_seek_48 (Option.some.inj h).symm hP hD hS
set_option maxHeartbeats 40000000 in
set_option maxRecDepth 100000 in
theorem db_X5_seek_109 {p : Program} {l : Launch} {e : Env} {s : State} {m : MethodId} {args : Array Value} {below : List Frame} {meth : Method} {c : Code} {Q : State → Prop} {A : Nat → Prop} {dC : Nat → ClassId} {dI : Nat → Nat → Nat} {a : Nat → Nat} {ac : Nat → ClassId} {n : Nat} {r : Int64 × (St × (St × (St × (St))))} (C : nd_C p l s m args c A (dC, dI) cX5_seek 8 RX5 ow_dm_X5_seek (dk_X5 ac)) (K : nd_Kl p l e (headSpec ow_dm_X5_seek ({ frames := 1, cells := 0, slots := 0, locals := 23 })).room s m args below meth c Q A (dC, dI) cX5_seek (St × (St × (St × (St)))) (dw_X5 a ac) r) : dj_X5_seek_109 p l e s m args below meth c Q A dC dI a ac (df_X5_seek_109 n) r := by
  obtain ⟨hlt, hx, hb, hml, hown, hts, hN, hA, hK⟩ := id C
  intro s0 H locs ls h hP hD hS hl
  unfold df_X5_seek_109 at h
  refine lv_ldc2 hx hb hown (hts (.constantLong RX5 294 (-1)) (List.mem_of_getElem? (i := 7) rfl)) dX5_seek_109 ?_
  exact K _ _ _ _ _ _ dX5_seek_112 (Option.some.inj h).symm hP hD hS
set_option maxHeartbeats 40000000 in
set_option maxRecDepth 100000 in
theorem db_X5_seek_93 {p : Program} {l : Launch} {e : Env} {s : State} {m : MethodId} {args : Array Value} {below : List Frame} {meth : Method} {c : Code} {Q : State → Prop} {A : Nat → Prop} {dC : Nat → ClassId} {dI : Nat → Nat → Nat} {a : Nat → Nat} {ac : Nat → ClassId} {n : Nat} {r : Int64 × (St × (St × (St × (St))))} (C : nd_C p l s m args c A (dC, dI) cX5_seek 8 RX5 ow_dm_X5_seek (dk_X5 ac)) (K : nd_Kl p l e (headSpec ow_dm_X5_seek ({ frames := 1, cells := 0, slots := 0, locals := 23 })).room s m args below meth c Q A (dC, dI) cX5_seek (St × (St × (St × (St)))) (dw_X5 a ac) r) : dj_X5_seek_93 p l e s m args below meth c Q A dC dI a ac (df_X5_seek_93 n) r := by
  obtain ⟨hlt, hx, hb, hml, hown, hts, hN, hA, hK⟩ := id C
  intro x5 x6 s0 H locs ls h hP hD hS hl
  unfold df_X5_seek_93 at h
  refine lv_lload hx hb dX5_seek_93 (lv_at hl 2 rfl) ?_
  refine lv_lconst (v := 0) hx hb dX5_seek_95 (by decide) ?_
  refine W.lcmp hx hb dX5_seek_96 ?_
  refine lv_if_lt (tgt := 109) hx hb dX5_seek_97 (by decide) (fun c15 => ?_) (fun c15 => ?_)
  · have h := nd_pos h c15
    exact (db_X5_seek_109 C K)  s0 _ _ _ h hP hD hS (lv_sub hl [] rfl)
  · have h := nd_neg h c15
    refine lv_lload hx hb dX5_seek_100 (lv_at hl 2 rfl) ?_
    refine lv_ldc2 hx hb hown (hts (.constantLong RX5 368 (512)) (List.mem_of_getElem? (i := 11) rfl)) dX5_seek_102 ?_
    refine W.lcmp hx hb dX5_seek_105 ?_
    refine lv_if_le (tgt := 113) hx hb dX5_seek_106 (by decide) (fun c16 => ?_) (fun c16 => ?_)
    · have h := nd_pos h c16
      refine lv_aload_n hx hb dX5_seek_113 rfl (lv_at hl 0 rfl) ?_
      refine va_get (D := (dC, dI)) (ci := 6) (v := .ref (a 14)) (C := RX5) (T := TX5) (N := 8) hx hb hts hi_dm_X5_seek_X5 hown hK hP 0 rfl rfl 1 (by decide) (hts (.fieldLink RX5 28 "TimeMachine$Kernel" "things" "LTimeMachine$Things;") (List.mem_of_getElem? (i := 2) rfl)) (fun _ h9 => h9) rfl dX5_seek_114 ?_
      refine lv_iload hx hb dX5_seek_117 (lv_at hl 1 rfl) ?_
      refine lv_lload hx hb dX5_seek_119 (lv_at hl 2 rfl) ?_
      refine lv_l2i hx hb dX5_seek_121 rfl ?_
      obtain ⟨s18, hq, h⟩ := nd_b1_e h
      have hPc := dp_X5_14 hP
      have hDc := dd_X5_14 hD
      have hKc := dy_X5_14 hK
      have hFc := nd_rs hDc hS hA
      have hzA : ∀ q : Nat, H.size ≤ q → A q := fun q h => hA q (Nat.le_trans hS.1 h)
      refine nd_cVv (As := [.int x5, .int (x6.toInt32)]) (rest := []) (w' := dw_X10 (fun k => a (k + 14)) (fun k => ac (k + 14)) s18) ⟨hx, hb, hml, hown, hts⟩ (fun sz => dm_X10_seek l hlt dC dI (fun k => a (k + 14)) (fun k => ac (k + 14)) n (x5) ((x6.toInt32)) s0.2.2.2 hq sz) (cwV 2 hts gi_dm_X5_seek_2 rfl rfl rfl (by decide +kernel) ⟨Nat.le_of_ble_eq_true rfl, Nat.le_of_ble_eq_true rfl⟩) hPc hDc hKc hS hA hN (va_recv hKc hPc (ci := 11) (q0 := 0) rfl rfl) rfl hl.1 rfl (Nat.le_of_ble_eq_true rfl) dX5_seek_122 (fun H locs hP1 hD1 hk1 hS => ?_)
      obtain ⟨hP, hD⟩ := dn_X5_14 hP hD hzA hk1 hP1 hD1
      obtain ⟨s20, es20, h⟩ := nd_let_e h
      have hP : va_P (dC, dI) vwCl (dw_X5 a ac s20) H := by rw [es20]; exact hP
      have hD : va_D A (dw_X5 a ac s20) := by rw [es20]; exact hD
      refine lv_lload hx hb dX5_seek_125 (lv_at hl 2 rfl) ?_
      exact K _ _ _ _ _ _ dX5_seek_127 (Option.some.inj h).symm hP hD hS
    · have h := nd_neg h c16
      exact (db_X5_seek_109 C K)  s0 _ _ _ h hP hD hS (lv_sub hl [] rfl)
set_option maxHeartbeats 40000000 in
set_option maxRecDepth 100000 in
theorem db_X5_seek_90 {p : Program} {l : Launch} {e : Env} {s : State} {m : MethodId} {args : Array Value} {below : List Frame} {meth : Method} {c : Code} {Q : State → Prop} {A : Nat → Prop} {dC : Nat → ClassId} {dI : Nat → Nat → Nat} {a : Nat → Nat} {ac : Nat → ClassId} {n : Nat} {r : Int64 × (St × (St × (St × (St))))} (C : nd_C p l s m args c A (dC, dI) cX5_seek 8 RX5 ow_dm_X5_seek (dk_X5 ac)) (K : nd_Kl p l e (headSpec ow_dm_X5_seek ({ frames := 1, cells := 0, slots := 0, locals := 23 })).room s m args below meth c Q A (dC, dI) cX5_seek (St × (St × (St × (St)))) (dw_X5 a ac) r) : dj_X5_seek_90 p l e s m args below meth c Q A dC dI a ac (df_X5_seek_90 n) r := by
  obtain ⟨hlt, hx, hb, hml, hown, hts, hN, hA, hK⟩ := id C
  intro x5 y0 y1 s0 H locs ls h hP hD hS hl
  unfold df_X5_seek_90 at h
  refine lv_ladd hx hb dX5_seek_90 ?_
  refine lv_topl (fun z26 ez26 => ?_)
  have h := nd_at h ez26
  refine lv_lstore (lv' := [(6, .long z26), (0, .ref (a 0)), (5, .int x5)]) hx hb dX5_seek_91 hl (by decide) rfl (fun ls hl => ?_)
  exact (db_X5_seek_93 C K) (x5) (z26) s0 _ _ _ h hP hD hS (lv_sub hl [1, 2, 0] rfl)
set_option maxHeartbeats 40000000 in
set_option maxRecDepth 100000 in
theorem db_X5_seek_0 {p : Program} {l : Launch} {e : Env} {s : State} {m : MethodId} {args : Array Value} {below : List Frame} {meth : Method} {c : Code} {Q : State → Prop} {A : Nat → Prop} {dC : Nat → ClassId} {dI : Nat → Nat → Nat} {a : Nat → Nat} {ac : Nat → ClassId} {n : Nat} {r : Int64 × (St × (St × (St × (St))))} (C : nd_C p l s m args c A (dC, dI) cX5_seek 8 RX5 ow_dm_X5_seek (dk_X5 ac)) (K : nd_Kl p l e (headSpec ow_dm_X5_seek ({ frames := 1, cells := 0, slots := 0, locals := 23 })).room s m args below meth c Q A (dC, dI) cX5_seek (St × (St × (St × (St)))) (dw_X5 a ac) r) : dj_X5_seek_0 p l e s m args below meth c Q A dC dI a ac (df_X5_seek_0 n) r := by
  obtain ⟨hlt, hx, hb, hml, hown, hts, hN, hA, hK⟩ := id C
  intro v0 v1 v2 v3 s0 H locs ls h hP hD hS hl
  unfold df_X5_seek_0 at h
  refine lv_iload hx hb dX5_seek_0 (lv_at hl 4 rfl) ?_
  refine lv_if_lt (tgt := 11) hx hb dX5_seek_2 (by decide) (fun c1 => ?_) (fun c1 => ?_)
  · have h := nd_pos h c1
    exact (db_X5_seek_11 C K)  s0 _ _ _ h hP hD hS (lv_sub hl [] rfl)
  · have h := nd_neg h c1
    refine lv_iload hx hb dX5_seek_5 (lv_at hl 4 rfl) ?_
    refine lv_iconst (v := 2) hx hb dX5_seek_7 (by decide) ?_
    refine lv_icmp_le (tgt := 15) hx hb dX5_seek_8 (by decide) (fun c2 => ?_) (fun c2 => ?_)
    · have h := nd_pos h c2
      refine lv_aload_n hx hb dX5_seek_15 rfl (lv_at hl 0 rfl) ?_
      refine va_get (D := (dC, dI)) (ci := 6) (v := .ref (a 14)) (C := RX5) (T := TX5) (N := 8) hx hb hts hi_dm_X5_seek_X5 hown hK hP 0 rfl rfl 1 (by decide) (hts (.fieldLink RX5 28 "TimeMachine$Kernel" "things" "LTimeMachine$Things;") (List.mem_of_getElem? (i := 2) rfl)) (fun _ h9 => h9) rfl dX5_seek_16 ?_
      refine lv_iload_n hx hb dX5_seek_19 rfl (lv_at hl 1 rfl) ?_
      refine lv_iload_n hx hb dX5_seek_20 rfl (lv_at hl 2 rfl) ?_
      obtain ⟨q3, s4, hq, h⟩ := nd_b2_e h
      have hPc := dp_X5_14 hP
      have hDc := dd_X5_14 hD
      have hKc := dy_X5_14 hK
      have hFc := nd_rs hDc hS hA
      have hzA : ∀ q : Nat, H.size ≤ q → A q := fun q h => hA q (Nat.le_trans hS.1 h)
      refine nd_cVi (As := [.int v0, .int v1]) (rest := []) (q := q3) (w' := dw_X10 (fun k => a (k + 14)) (fun k => ac (k + 14)) s4) ⟨hx, hb, hml, hown, hts⟩ (fun sz => dm_X10_openingOf l hlt dC dI (fun k => a (k + 14)) (fun k => ac (k + 14)) n (v0) (v1) s0.2.2.2 hq sz) (cwV 2 hts gi_dm_X5_seek_0 rfl rfl rfl (by decide +kernel) ⟨Nat.le_of_ble_eq_true rfl, Nat.le_of_ble_eq_true rfl⟩) hPc hDc hKc hS hA hN (va_recv hKc hPc (ci := 11) (q0 := 0) rfl rfl) rfl hl.1 rfl (Nat.le_of_ble_eq_true rfl) dX5_seek_21 (fun H locs hP1 hD1 hk1 hS => ?_)
      obtain ⟨hP, hD⟩ := dn_X5_14 hP hD hzA hk1 hP1 hD1
      obtain ⟨s6, es6, h⟩ := nd_let_e h
      have hP : va_P (dC, dI) vwCl (dw_X5 a ac s6) H := by rw [es6]; exact hP
      have hD : va_D A (dw_X5 a ac s6) := by rw [es6]; exact hD
      refine lv_istore (lv' := [(5, .int q3), (0, .ref (a 0)), (1, .int v0), (2, .int v1), (3, .int v2), (4, .int v3)]) hx hb dX5_seek_24 hl (by decide) rfl (fun ls hl => ?_)
      refine lv_iload hx hb dX5_seek_26 (lv_at hl 0 rfl) ?_
      refine lv_if_lt (tgt := 45) hx hb dX5_seek_28 (by decide) (fun c7 => ?_) (fun c7 => ?_)
      · have h := nd_pos h c7
        exact (db_X5_seek_45 C K)  s6 _ _ _ h hP hD hS (lv_sub hl [] rfl)
      · have h := nd_neg h c7
        refine lv_aload_n hx hb dX5_seek_31 rfl (lv_at hl 1 rfl) ?_
        refine va_get (D := (dC, dI)) (ci := 6) (v := .ref (a 14)) (C := RX5) (T := TX5) (N := 8) hx hb hts hi_dm_X5_seek_X5 hown hK hP 0 rfl rfl 1 (by decide) (hts (.fieldLink RX5 28 "TimeMachine$Kernel" "things" "LTimeMachine$Things;") (List.mem_of_getElem? (i := 2) rfl)) (fun _ h9 => h9) rfl dX5_seek_32 ?_
        refine lv_iload hx hb dX5_seek_35 (lv_at hl 0 rfl) ?_
        refine lv_iconst (v := 0) hx hb dX5_seek_37 (by decide) ?_
        obtain ⟨q8, s9, hq, h⟩ := nd_b2_e h
        have hPc := dp_X5_14 hP
        have hDc := dd_X5_14 hD
        have hKc := dy_X5_14 hK
        have hFc := nd_rs hDc hS hA
        have hzA : ∀ q : Nat, H.size ≤ q → A q := fun q h => hA q (Nat.le_trans hS.1 h)
        refine nd_cVi (As := [.int q3, .int 0]) (rest := []) (q := q8) (w' := dw_X10 (fun k => a (k + 14)) (fun k => ac (k + 14)) s9) ⟨hx, hb, hml, hown, hts⟩ (fun sz => dm_X10_of l hlt dC dI (fun k => a (k + 14)) (fun k => ac (k + 14)) n (q3) (0) s6.2.2.2 hq sz) (cwV 2 hts gi_dm_X5_seek_1 rfl rfl rfl (by decide +kernel) ⟨Nat.le_of_ble_eq_true rfl, Nat.le_of_ble_eq_true rfl⟩) hPc hDc hKc hS hA hN (va_recv hKc hPc (ci := 11) (q0 := 0) rfl rfl) rfl hl.1 rfl (Nat.le_of_ble_eq_true rfl) dX5_seek_38 (fun H locs hP1 hD1 hk1 hS => ?_)
        obtain ⟨hP, hD⟩ := dn_X5_14 hP hD hzA hk1 hP1 hD1
        obtain ⟨s11, es11, h⟩ := nd_let_e h
        have hP : va_P (dC, dI) vwCl (dw_X5 a ac s11) H := by rw [es11]; exact hP
        have hD : va_D A (dw_X5 a ac s11) := by rw [es11]; exact hD
        refine lv_iconst (v := 3) hx hb dX5_seek_41 (by decide) ?_
        refine lv_icmp_eq (tgt := 49) hx hb dX5_seek_42 (by decide) (fun c12 => ?_) (fun c12 => ?_)
        · have h := nd_pos h c12
          refine lv_iload_n hx hb dX5_seek_49 rfl (lv_at hl 4 rfl) ?_
          refine lv_i2l hx hb dX5_seek_50 rfl ?_
          refine lv_topl (fun z13 ez13 => ?_)
          have h := nd_at h ez13
          refine lv_lstore (lv' := [(6, .long z13), (5, .int q3), (0, .ref (a 0)), (1, .int v0), (2, .int v1), (3, .int v2), (4, .int v3)]) hx hb dX5_seek_51 hl (by decide) rfl (fun ls hl => ?_)
          refine lv_iload hx hb dX5_seek_53 (lv_at hl 6 rfl) ?_
          refine lv_if_le (tgt := 93) hx hb dX5_seek_55 (by decide) (fun c14 => ?_) (fun c14 => ?_)
          · have h := nd_pos h c14
            exact (db_X5_seek_93 C K) (q3) (z13) s11 _ _ _ h hP hD hS (lv_sub hl [2, 1, 0] rfl)
          · have h := nd_neg h c14
            refine lv_lload hx hb dX5_seek_58 (lv_at hl 0 rfl) ?_
            refine lv_iload hx hb dX5_seek_60 (lv_at hl 6 rfl) ?_
            refine lv_iconst (v := 1) hx hb dX5_seek_62 (by decide) ?_
            refine lv_icmp_ne (tgt := 80) hx hb dX5_seek_63 (by decide) (fun c21 => ?_) (fun c21 => ?_)
            · have h := nd_neg h c21
              refine lv_aload_n hx hb dX5_seek_80 rfl (lv_at hl 2 rfl) ?_
              refine va_get (D := (dC, dI)) (ci := 6) (v := .ref (a 14)) (C := RX5) (T := TX5) (N := 8) hx hb hts hi_dm_X5_seek_X5 hown hK hP 0 rfl rfl 1 (by decide) (hts (.fieldLink RX5 28 "TimeMachine$Kernel" "things" "LTimeMachine$Things;") (List.mem_of_getElem? (i := 2) rfl)) (fun _ h9 => h9) rfl dX5_seek_81 ?_
              refine lv_iload hx hb dX5_seek_84 (lv_at hl 1 rfl) ?_
              obtain ⟨q22, s23, hq, h⟩ := nd_b2_e h
              have hPc := dp_X5_14 hP
              have hDc := dd_X5_14 hD
              have hKc := dy_X5_14 hK
              have hFc := nd_rs hDc hS hA
              have hzA : ∀ q : Nat, H.size ≤ q → A q := fun q h => hA q (Nat.le_trans hS.1 h)
              refine nd_cVi (As := [.int q3]) (rest := [.long z13]) (q := q22) (w' := dw_X10 (fun k => a (k + 14)) (fun k => ac (k + 14)) s23) ⟨hx, hb, hml, hown, hts⟩ (fun sz => dm_X10_amount l hlt dC dI (fun k => a (k + 14)) (fun k => ac (k + 14)) n (q3) s11.2.2.2 hq sz) (cwV 1 hts gi_dm_X5_seek_3 rfl rfl rfl (by decide +kernel) ⟨Nat.le_of_ble_eq_true rfl, Nat.le_of_ble_eq_true rfl⟩) hPc hDc hKc hS hA hN (va_recv hKc hPc (ci := 11) (q0 := 0) rfl rfl) rfl hl.1 rfl (Nat.le_of_ble_eq_true rfl) dX5_seek_86 (fun H locs hP1 hD1 hk1 hS => ?_)
              obtain ⟨hP, hD⟩ := dn_X5_14 hP hD hzA hk1 hP1 hD1
              obtain ⟨s25, es25, h⟩ := nd_let_e h
              have hP : va_P (dC, dI) vwCl (dw_X5 a ac s25) H := by rw [es25]; exact hP
              have hD : va_D A (dw_X5 a ac s25) := by rw [es25]; exact hD
              refine lv_i2l hx hb dX5_seek_89 rfl ?_
              exact (db_X5_seek_90 C K) (q3) (z13) ((q22.toInt64)) s25 _ _ _ h hP hD hS (lv_sub hl [2, 1] rfl)
            · have h := nd_pos h c21
              refine lv_aload_n hx hb dX5_seek_66 rfl (lv_at hl 2 rfl) ?_
              refine va_get (D := (dC, dI)) (ci := 6) (v := .ref (a 14)) (C := RX5) (T := TX5) (N := 8) hx hb hts hi_dm_X5_seek_X5 hown hK hP 0 rfl rfl 1 (by decide) (hts (.fieldLink RX5 28 "TimeMachine$Kernel" "things" "LTimeMachine$Things;") (List.mem_of_getElem? (i := 2) rfl)) (fun _ h9 => h9) rfl dX5_seek_67 ?_
              refine lv_iload hx hb dX5_seek_70 (lv_at hl 1 rfl) ?_
              refine lv_iconst (v := 3) hx hb dX5_seek_72 (by decide) ?_
              obtain ⟨q27, s28, hq, h⟩ := nd_b2_e h
              have hPc := dp_X5_14 hP
              have hDc := dd_X5_14 hD
              have hKc := dy_X5_14 hK
              have hFc := nd_rs hDc hS hA
              have hzA : ∀ q : Nat, H.size ≤ q → A q := fun q h => hA q (Nat.le_trans hS.1 h)
              refine nd_cVi (As := [.int q3, .int 3]) (rest := [.long z13]) (q := q27) (w' := dw_X10 (fun k => a (k + 14)) (fun k => ac (k + 14)) s28) ⟨hx, hb, hml, hown, hts⟩ (fun sz => dm_X10_of l hlt dC dI (fun k => a (k + 14)) (fun k => ac (k + 14)) n (q3) (3) s11.2.2.2 hq sz) (cwV 2 hts gi_dm_X5_seek_1 rfl rfl rfl (by decide +kernel) ⟨Nat.le_of_ble_eq_true rfl, Nat.le_of_ble_eq_true rfl⟩) hPc hDc hKc hS hA hN (va_recv hKc hPc (ci := 11) (q0 := 0) rfl rfl) rfl hl.1 rfl (Nat.le_of_ble_eq_true rfl) dX5_seek_73 (fun H locs hP1 hD1 hk1 hS => ?_)
              obtain ⟨hP, hD⟩ := dn_X5_14 hP hD hzA hk1 hP1 hD1
              obtain ⟨s30, es30, h⟩ := nd_let_e h
              have hP : va_P (dC, dI) vwCl (dw_X5 a ac s30) H := by rw [es30]; exact hP
              have hD : va_D A (dw_X5 a ac s30) := by rw [es30]; exact hD
              refine lv_i2l hx hb dX5_seek_76 rfl ?_
              refine lv_goto (tgt := 90) hx hb dX5_seek_77 (by decide) ?_
              exact (db_X5_seek_90 C K) (q3) (z13) ((q27.toInt64)) s30 _ _ _ h hP hD hS (lv_sub hl [2, 1] rfl)
        · have h := nd_neg h c12
          exact (db_X5_seek_45 C K)  s11 _ _ _ h hP hD hS (lv_sub hl [] rfl)
    · have h := nd_neg h c2
      exact (db_X5_seek_11 C K)  s0 _ _ _ h hP hD hS (lv_sub hl [] rfl)
set_option maxHeartbeats 40000000 in
set_option maxRecDepth 100000 in
theorem dm_X5_seek (l : Launch) (hlt : l.stackTraces = false) (dC : Nat → ClassId) (dI : Nat → Nat → Nat) (a : Nat → Nat) (ac : Nat → ClassId) (n : Nat) (v0 : Int32) (v1 : Int32) (v2 : Int32) (v3 : Int32) (s0 : St × (St × (St × (St)))) {r : Int64 × (St × (St × (St × (St))))} (h : df_X5_seek n v0 v1 v2 v3 s0 = some r) (sz : Nat) : Met l yX5_seek ow_dm_X5_seek ({ frames := 1, cells := 0, slots := 0, locals := 23 }) (va_Pc [.ref (a 0), .int v0, .int v1, .int v2, .int v3] (fun U => U.heap.size = sz ∧ va_P (dC, dI) vwCl (dw_X5 a ac s0) U.heap ∧ va_K (dC, dI) vwCl (dk_X5 ac) U ∧ va_D (fun _ => True) (dw_X5 a ac s0) ∧ nv_E dI (va_A (dw_X5 a ac s0) sz) U)) (va_Ql (fun x _ => x = r.1) (fun (_ : Unit) t => va_P (dC, dI) vwCl (dw_X5 a ac r.2) t.heap ∧ va_K (dC, dI) vwCl (dk_X5 ac) t ∧ va_D (va_A (dw_X5 a ac s0) sz) (dw_X5 a ac r.2)) (va_A (dw_X5 a ac s0) sz)) 0 0 (va_A (dw_X5 a ac s0) sz) := by
  refine Met.ofW (cc := cX5_seek) (maxL := 8) (ret := (some .long)) (by decide) rfl ?_
  intro p e s m args below meth c s₁ B hml hv
  obtain ⟨rfl, hsz, hP, hK, hD0, hN⟩ := hv
  have hx := B.exec
  have hb := B.bytes
  have hr := B.returns
  have hts := atoms_spec (ws := ow_dm_X5_seek) B.pre
  have hown : s.vm.findClass RX5 = some m.cls := findClass_of_methodNamed B.named
  have hlocks := B.notSynchronized
  subst hsz
  have hD := hD0.self (sz := s.heap.size)
  generalize hAe : va_A (dw_X5 a ac s0) s.heap.size = A at hD hN ⊢
  have hA : ∀ q : Nat, s.heap.size ≤ q → A q := fun q h => by rw [← hAe]; exact Or.inr h
  have hl := lv_entry ([.ref (a 0), .int v0, .int v1, .int v2, .int v3]) (n := 8) (Nat.le_of_ble_eq_true rfl)
  rw [lg_entry_eq]
  generalize (lg_sl ([.ref (a 0), .int v0, .int v1, .int v2, .int v3]) ++ List.replicate (8 - (lg_sl ([.ref (a 0), .int v0, .int v1, .int v2, .int v3])).length) Slot.unset).toArray = ls at hl ⊢
  have hl : lv_has ls 8 [(0, .ref (a 0)), (1, .int v0), (2, .int v1), (3, .int v2), (4, .int v3)] := hl
  exact db_X5_seek_0 (dC := dC) (dI := dI) (a := a) (ac := ac) (n := n) (r := r) ⟨hlt, hx, hb, hml, hown, hts, hN, hA, hK⟩ (fun pc v τ H locs ls d er hP hD hS => by subst er; exact W.lret (v := v) hx hb hr (fun t ht hW => ⟨⟨v, (), rfl, rfl, by rw [ht]; exact hP, va_K.moved hW.alike hK, hD⟩, hS.F ht⟩) hS.2.2 d) v0 v1 v2 v3 s0 _ _ _ h hP hD va_S.rf (lv_sub hl [0, 1, 2, 3, 4] rfl)
def ow_dm_X5_readName_t2 : List Cond := Cond.code yX5_readName cX5_readName 8 (some .int) :: ([Cond.methodLink RX5 332 yJ7_fill_031fb, Cond.static yJ7_fill_031fb, Cond.initialized RJ7, Cond.fieldLink RX5 18 "TimeMachine$Kernel" "machine" "LTimeMachine$Machine;", Cond.methodLink RX5 338 yX6_may, Cond.instanceMethod yX6_may, Cond.selects RX6 yX6_may yX6_may, Cond.initialized RX6, Cond.methodLink RX5 318 yX6_byteAt, Cond.instanceMethod yX6_byteAt, Cond.selects RX6 yX6_byteAt yX6_byteAt] ++ (u_ws RX5 TX5 8 ++ (ow_dm_J7_fill_031fb ++ (ow_dm_X6_may ++ (ow_dm_X6_byteAt ++ [])))))
theorem gd_dm_X5_readName_t2 : ∀ w ∈ ow_dm_X5_readName_t2, (w.onTables && w.keeps) = true ∨ ∃ ty, w = Cond.arrayClass ty := List.forall_mem_cons.mpr ⟨good_of_word rfl, List.forall_mem_append.mpr ⟨fun w h => good_of_word (List.all_eq_true.mp (by decide +kernel) w h), List.forall_mem_append.mpr ⟨gu_X5, List.forall_mem_append.mpr ⟨gd_dm_J7_fill_031fb, List.forall_mem_append.mpr ⟨gd_dm_X6_may, List.forall_mem_append.mpr ⟨gd_dm_X6_byteAt, fun _ h => nomatch h⟩⟩⟩⟩⟩⟩
theorem hi_dm_X5_readName_t2_X5 : ∀ w ∈ u_ws RX5 TX5 8, w ∈ ow_dm_X5_readName_t2 := fun w h => List.mem_cons_of_mem _ (List.mem_append_right _ (List.mem_append_left _ h))
theorem gi_dm_X5_readName_t2_0 : GoodIn ow_dm_X5_readName_t2 (va_wsS RX5 332 yJ7_fill_031fb ow_dm_J7_fill_031fb) := goodIn_app (goodIn_of _ (by decide +kernel)) (fun w h => ⟨List.mem_cons_of_mem _ (List.mem_append_right _ (List.mem_append_right _ (List.mem_append_left _ h))), gd_dm_J7_fill_031fb w h⟩)
theorem gi_dm_X5_readName_t2_1 : GoodIn ow_dm_X5_readName_t2 (wsV RX5 338 RX6 yX6_may ow_dm_X6_may) := goodIn_app (goodIn_of _ (by decide +kernel)) (fun w h => ⟨List.mem_cons_of_mem _ (List.mem_append_right _ (List.mem_append_right _ (List.mem_append_right _ (List.mem_append_left _ h)))), gd_dm_X6_may w h⟩)
theorem gi_dm_X5_readName_t2_2 : GoodIn ow_dm_X5_readName_t2 (wsV RX5 318 RX6 yX6_byteAt ow_dm_X6_byteAt) := goodIn_app (goodIn_of _ (by decide +kernel)) (fun w h => ⟨List.mem_cons_of_mem _ (List.mem_append_right _ (List.mem_append_right _ (List.mem_append_right _ (List.mem_append_right _ (List.mem_append_left _ h))))), gd_dm_X6_byteAt w h⟩)
def dj_X5_readName_t2_126 (p : Program) (l : Launch) (e : Env) (s : State) (m : MethodId) (args : Array Value) (below : List Frame) (meth : Method) (c : Code) (Q : State → Prop) (A : Nat → Prop) (dC : Nat → ClassId) (dI : Nat → Nat → Nat) (a : Nat → Nat) (ac : Nat → ClassId) (g : Int32 → (St × (St × (St × (St)))) → Option (Int32 × (St × (St × (St × (St)))))) (r : Int32 × (St × (St × (St × (St))))) : Prop := ∀ (y0 : Int32) (s0 : St × (St × (St × (St)))) (H : Heap) (locs : List Loc) (ls : Array Slot), g y0 s0 = some r → va_P (dC, dI) vwCl (dw_X5 a ac s0) H → va_D A (dw_X5 a ac s0) → va_S A s.heap H locs → lv_has ls 8 [] → W p l e (headSpec ow_dm_X5_readName_t2 ({ frames := 1, cells := 0, slots := 0, locals := 23 })).room s m args below meth c H locs 0 0 Q (F0 m 126 ls [.int y0])
def dj_X5_readName_t2_124 (p : Program) (l : Launch) (e : Env) (s : State) (m : MethodId) (args : Array Value) (below : List Frame) (meth : Method) (c : Code) (Q : State → Prop) (A : Nat → Prop) (dC : Nat → ClassId) (dI : Nat → Nat → Nat) (a : Nat → Nat) (ac : Nat → ClassId) (g : (St × (St × (St × (St)))) → Option (Int32 × (St × (St × (St × (St)))))) (r : Int32 × (St × (St × (St × (St))))) : Prop := ∀ (s0 : St × (St × (St × (St)))) (H : Heap) (locs : List Loc) (ls : Array Slot), g s0 = some r → va_P (dC, dI) vwCl (dw_X5 a ac s0) H → va_D A (dw_X5 a ac s0) → va_S A s.heap H locs → lv_has ls 8 [] → W p l e (headSpec ow_dm_X5_readName_t2 ({ frames := 1, cells := 0, slots := 0, locals := 23 })).room s m args below meth c H locs 0 0 Q (F0 m 124 ls [])
def dj_X5_readName_t2_110 (p : Program) (l : Launch) (e : Env) (s : State) (m : MethodId) (args : Array Value) (below : List Frame) (meth : Method) (c : Code) (Q : State → Prop) (A : Nat → Prop) (dC : Nat → ClassId) (dI : Nat → Nat → Nat) (a : Nat → Nat) (ac : Nat → ClassId) (g : Int32 → Int32 → (St × (St × (St × (St)))) → Option (Int32 × (St × (St × (St × (St)))))) (r : Int32 × (St × (St × (St × (St))))) : Prop := ∀ (x4 : Int32) (x5 : Int32) (s0 : St × (St × (St × (St)))) (H : Heap) (locs : List Loc) (ls : Array Slot), g x4 x5 s0 = some r → va_P (dC, dI) vwCl (dw_X5 a ac s0) H → va_D A (dw_X5 a ac s0) → va_S A s.heap H locs → lv_has ls 8 [(4, .int x4), (5, .int x5)] → W p l e (headSpec ow_dm_X5_readName_t2 ({ frames := 1, cells := 0, slots := 0, locals := 23 })).room s m args below meth c H locs 0 0 Q (F0 m 110 ls [])
def dj_X5_readName_t2_104 (p : Program) (l : Launch) (e : Env) (s : State) (m : MethodId) (args : Array Value) (below : List Frame) (meth : Method) (c : Code) (Q : State → Prop) (A : Nat → Prop) (dC : Nat → ClassId) (dI : Nat → Nat → Nat) (a : Nat → Nat) (ac : Nat → ClassId) (g : Int32 → Int32 → Int32 → Int32 → Int32 → (St × (St × (St × (St)))) → Option (Int32 × (St × (St × (St × (St)))))) (r : Int32 × (St × (St × (St × (St))))) : Prop := ∀ (x1 : Int32) (x2 : Int32) (x4 : Int32) (x5 : Int32) (x6 : Int32) (s0 : St × (St × (St × (St)))) (H : Heap) (locs : List Loc) (ls : Array Slot), g x1 x2 x4 x5 x6 s0 = some r → va_P (dC, dI) vwCl (dw_X5 a ac s0) H → va_D A (dw_X5 a ac s0) → va_S A s.heap H locs → lv_has ls 8 [(0, .ref (a 0)), (1, .int x1), (2, .int x2), (3, .ref (a 2)), (4, .int x4), (5, .int x5), (6, .int x6)] → W p l e (headSpec ow_dm_X5_readName_t2 ({ frames := 1, cells := 0, slots := 0, locals := 23 })).room s m args below meth c H locs 0 0 Q (F0 m 104 ls [])
def dj_X5_readName_t2_95 (p : Program) (l : Launch) (e : Env) (s : State) (m : MethodId) (args : Array Value) (below : List Frame) (meth : Method) (c : Code) (Q : State → Prop) (A : Nat → Prop) (dC : Nat → ClassId) (dI : Nat → Nat → Nat) (a : Nat → Nat) (ac : Nat → ClassId) (g : Int32 → Int32 → Int32 → Int32 → Int32 → Int32 → (St × (St × (St × (St)))) → Option (Int32 × (St × (St × (St × (St)))))) (r : Int32 × (St × (St × (St × (St))))) : Prop := ∀ (x1 : Int32) (x2 : Int32) (x4 : Int32) (x6 : Int32) (x7 : Int32) (y0 : Int32) (s0 : St × (St × (St × (St)))) (H : Heap) (locs : List Loc) (ls : Array Slot), g x1 x2 x4 x6 x7 y0 s0 = some r → va_P (dC, dI) vwCl (dw_X5 a ac s0) H → va_D A (dw_X5 a ac s0) → va_S A s.heap H locs → lv_has ls 8 [(0, .ref (a 0)), (1, .int x1), (2, .int x2), (3, .ref (a 2)), (4, .int x4), (6, .int x6), (7, .int x7)] → W p l e (headSpec ow_dm_X5_readName_t2 ({ frames := 1, cells := 0, slots := 0, locals := 23 })).room s m args below meth c H locs 0 0 Q (F0 m 95 ls [.int y0])
def dj_X5_readName_t2_94 (p : Program) (l : Launch) (e : Env) (s : State) (m : MethodId) (args : Array Value) (below : List Frame) (meth : Method) (c : Code) (Q : State → Prop) (A : Nat → Prop) (dC : Nat → ClassId) (dI : Nat → Nat → Nat) (a : Nat → Nat) (ac : Nat → ClassId) (g : Int32 → Int32 → Int32 → Int32 → Int32 → (St × (St × (St × (St)))) → Option (Int32 × (St × (St × (St × (St)))))) (r : Int32 × (St × (St × (St × (St))))) : Prop := ∀ (x1 : Int32) (x2 : Int32) (x4 : Int32) (x6 : Int32) (x7 : Int32) (s0 : St × (St × (St × (St)))) (H : Heap) (locs : List Loc) (ls : Array Slot), g x1 x2 x4 x6 x7 s0 = some r → va_P (dC, dI) vwCl (dw_X5 a ac s0) H → va_D A (dw_X5 a ac s0) → va_S A s.heap H locs → lv_has ls 8 [(0, .ref (a 0)), (1, .int x1), (2, .int x2), (3, .ref (a 2)), (4, .int x4), (6, .int x6), (7, .int x7)] → W p l e (headSpec ow_dm_X5_readName_t2 ({ frames := 1, cells := 0, slots := 0, locals := 23 })).room s m args below meth c H locs 0 0 Q (F0 m 94 ls [])
def dj_X5_readName_t2_14 (p : Program) (l : Launch) (e : Env) (s : State) (m : MethodId) (args : Array Value) (below : List Frame) (meth : Method) (c : Code) (Q : State → Prop) (A : Nat → Prop) (dC : Nat → ClassId) (dI : Nat → Nat → Nat) (a : Nat → Nat) (ac : Nat → ClassId) (g : Int32 → Int32 → Int32 → Int32 → Int32 → (St × (St × (St × (St)))) → Option (Int32 × (St × (St × (St × (St)))))) (r : Int32 × (St × (St × (St × (St))))) : Prop := ∀ (x1 : Int32) (x2 : Int32) (x4 : Int32) (x5 : Int32) (x6 : Int32) (s0 : St × (St × (St × (St)))) (H : Heap) (locs : List Loc) (ls : Array Slot), g x1 x2 x4 x5 x6 s0 = some r → va_P (dC, dI) vwCl (dw_X5 a ac s0) H → va_D A (dw_X5 a ac s0) → va_S A s.heap H locs → lv_has ls 8 [(0, .ref (a 0)), (1, .int x1), (2, .int x2), (3, .ref (a 2)), (4, .int x4), (5, .int x5), (6, .int x6)] → W p l e (headSpec ow_dm_X5_readName_t2 ({ frames := 1, cells := 0, slots := 0, locals := 23 })).room s m args below meth c H locs 0 0 Q (F0 m 14 ls [])
def dj_X5_readName_t2_0 (p : Program) (l : Launch) (e : Env) (s : State) (m : MethodId) (args : Array Value) (below : List Frame) (meth : Method) (c : Code) (Q : State → Prop) (A : Nat → Prop) (dC : Nat → ClassId) (dI : Nat → Nat → Nat) (a : Nat → Nat) (ac : Nat → ClassId) (g : Int32 → Int32 → (St × (St × (St × (St)))) → Option (Int32 × (St × (St × (St × (St)))))) (r : Int32 × (St × (St × (St × (St))))) : Prop := ∀ (v0 : Int32) (v1 : Int32) (s0 : St × (St × (St × (St)))) (H : Heap) (locs : List Loc) (ls : Array Slot), g v0 v1 s0 = some r → va_P (dC, dI) vwCl (dw_X5 a ac s0) H → va_D A (dw_X5 a ac s0) → va_S A s.heap H locs → lv_has ls 8 [(0, .ref (a 0)), (1, .int v0), (2, .int v1), (3, .ref (a 2))] → W p l e (headSpec ow_dm_X5_readName_t2 ({ frames := 1, cells := 0, slots := 0, locals := 23 })).room s m args below meth c H locs 0 0 Q (F0 m 0 ls [])
set_option maxHeartbeats 40000000 in
set_option maxRecDepth 100000 in
theorem db_X5_readName_t2_126 {p : Program} {l : Launch} {e : Env} {s : State} {m : MethodId} {args : Array Value} {below : List Frame} {meth : Method} {c : Code} {Q : State → Prop} {A : Nat → Prop} {dC : Nat → ClassId} {dI : Nat → Nat → Nat} {a : Nat → Nat} {ac : Nat → ClassId} {n : Nat} {r : Int32 × (St × (St × (St × (St))))} (C : nd_C p l s m args c A (dC, dI) cX5_readName 8 RX5 ow_dm_X5_readName_t2 (dk_X5 ac)) (K : nd_Ki p l e (headSpec ow_dm_X5_readName_t2 ({ frames := 1, cells := 0, slots := 0, locals := 23 })).room s m args below meth c Q A (dC, dI) cX5_readName .int (St × (St × (St × (St)))) (dw_X5 a ac) r) : dj_X5_readName_t2_126 p l e s m args below meth c Q A dC dI a ac (df_X5_readName_t2_126 n) r := by
  obtain ⟨hlt, hx, hb, hml, hown, hts, hN, hA, hK⟩ := id C
  intro y0 s0 H locs ls h hP hD hS hl
  unfold df_X5_readName_t2_126 at h
  exact K _ _ _ _ _ _ dX5_readName_126 rfl (Option.some.inj h).symm hP hD hS
set_option maxHeartbeats 40000000 in
set_option maxRecDepth 100000 in
theorem db_X5_readName_t2_124 {p : Program} {l : Launch} {e : Env} {s : State} {m : MethodId} {args : Array Value} {below : List Frame} {meth : Method} {c : Code} {Q : State → Prop} {A : Nat → Prop} {dC : Nat → ClassId} {dI : Nat → Nat → Nat} {a : Nat → Nat} {ac : Nat → ClassId} {n : Nat} {r : Int32 × (St × (St × (St × (St))))} (C : nd_C p l s m args c A (dC, dI) cX5_readName 8 RX5 ow_dm_X5_readName_t2 (dk_X5 ac)) (K : nd_Ki p l e (headSpec ow_dm_X5_readName_t2 ({ frames := 1, cells := 0, slots := 0, locals := 23 })).room s m args below meth c Q A (dC, dI) cX5_readName .int (St × (St × (St × (St)))) (dw_X5 a ac) r) : dj_X5_readName_t2_124 p l e s m args below meth c Q A dC dI a ac (df_X5_readName_t2_124 n) r := by
  obtain ⟨hlt, hx, hb, hml, hown, hts, hN, hA, hK⟩ := id C
  intro s0 H locs ls h hP hD hS hl
  unfold df_X5_readName_t2_124 at h
  refine lv_bipush (v := (-22)) hx hb dX5_readName_124 (by decide) ?_
  exact (db_X5_readName_t2_126 C K) ((-22)) s0 _ _ _ h hP hD hS (lv_sub hl [] rfl)
set_option maxHeartbeats 40000000 in
set_option maxRecDepth 100000 in
theorem db_X5_readName_t2_110 {p : Program} {l : Launch} {e : Env} {s : State} {m : MethodId} {args : Array Value} {below : List Frame} {meth : Method} {c : Code} {Q : State → Prop} {A : Nat → Prop} {dC : Nat → ClassId} {dI : Nat → Nat → Nat} {a : Nat → Nat} {ac : Nat → ClassId} {n : Nat} {r : Int32 × (St × (St × (St × (St))))} (C : nd_C p l s m args c A (dC, dI) cX5_readName 8 RX5 ow_dm_X5_readName_t2 (dk_X5 ac)) (K : nd_Ki p l e (headSpec ow_dm_X5_readName_t2 ({ frames := 1, cells := 0, slots := 0, locals := 23 })).room s m args below meth c Q A (dC, dI) cX5_readName .int (St × (St × (St × (St)))) (dw_X5 a ac) r) : dj_X5_readName_t2_110 p l e s m args below meth c Q A dC dI a ac (df_X5_readName_t2_110 n) r := by
  obtain ⟨hlt, hx, hb, hml, hown, hts, hN, hA, hK⟩ := id C
  intro x4 x5 s0 H locs ls h hP hD hS hl
  unfold df_X5_readName_t2_110 at h
  refine lv_iload hx hb dX5_readName_110 (lv_at hl 1 rfl) ?_
  refine lv_if_eq (tgt := 124) hx hb dX5_readName_112 (by decide) (fun c3 => ?_) (fun c3 => ?_)
  · have h := nd_pos h c3
    exact (db_X5_readName_t2_124 C K)  s0 _ _ _ h hP hD hS (lv_sub hl [] rfl)
  · have h := nd_neg h c3
    refine lv_iload hx hb dX5_readName_115 (lv_at hl 0 rfl) ?_
    refine lv_if_le (tgt := 124) hx hb dX5_readName_117 (by decide) (fun c4 => ?_) (fun c4 => ?_)
    · have h := nd_pos h c4
      exact (db_X5_readName_t2_124 C K)  s0 _ _ _ h hP hD hS (lv_sub hl [] rfl)
    · have h := nd_neg h c4
      refine lv_iconst (v := 0) hx hb dX5_readName_120 (by decide) ?_
      refine lv_goto (tgt := 126) hx hb dX5_readName_121 (by decide) ?_
      exact (db_X5_readName_t2_126 C K) (0) s0 _ _ _ h hP hD hS (lv_sub hl [] rfl)
set_option maxHeartbeats 40000000 in
set_option maxRecDepth 100000 in
theorem db_X5_readName_t2_104 {p : Program} {l : Launch} {e : Env} {s : State} {m : MethodId} {args : Array Value} {below : List Frame} {meth : Method} {c : Code} {Q : State → Prop} {A : Nat → Prop} {dC : Nat → ClassId} {dI : Nat → Nat → Nat} {a : Nat → Nat} {ac : Nat → ClassId} {n : Nat} {r : Int32 × (St × (St × (St × (St))))} (C : nd_C p l s m args c A (dC, dI) cX5_readName 8 RX5 ow_dm_X5_readName_t2 (dk_X5 ac)) (K : nd_Ki p l e (headSpec ow_dm_X5_readName_t2 ({ frames := 1, cells := 0, slots := 0, locals := 23 })).room s m args below meth c Q A (dC, dI) cX5_readName .int (St × (St × (St × (St)))) (dw_X5 a ac) r) {g14 : Int32 → Int32 → Int32 → Int32 → Int32 → (St × (St × (St × (St)))) → Option (Int32 × (St × (St × (St × (St)))))} (J14 : dj_X5_readName_t2_14 p l e s m args below meth c Q A dC dI a ac g14 r) : dj_X5_readName_t2_104 p l e s m args below meth c Q A dC dI a ac (df_X5_readName_t2_104 n g14) r := by
  obtain ⟨hlt, hx, hb, hml, hown, hts, hN, hA, hK⟩ := id C
  intro x1 x2 x4 x5 x6 s0 H locs ls h hP hD hS hl
  unfold df_X5_readName_t2_104 at h
  obtain ⟨z19, ez19, h⟩ := nd_let_e h
  refine lv_iinc (v := z19) (lv' := [(6, .int z19), (0, .ref (a 0)), (1, .int x1), (2, .int x2), (3, .ref (a 2)), (4, .int x4), (5, .int x5)]) hx hb dX5_readName_104 hl (k := 6) rfl (by rw [ez19]) (by decide) rfl (fun ls hl => ?_)
  refine lv_goto (tgt := 14) hx hb dX5_readName_107 (by decide) ?_
  exact (J14) (x1) (x2) (x4) (x5) (z19) s0 _ _ _ h hP hD hS (lv_sub hl [1, 2, 3, 4, 5, 6, 0] rfl)
set_option maxHeartbeats 40000000 in
set_option maxRecDepth 100000 in
theorem db_X5_readName_t2_95 {p : Program} {l : Launch} {e : Env} {s : State} {m : MethodId} {args : Array Value} {below : List Frame} {meth : Method} {c : Code} {Q : State → Prop} {A : Nat → Prop} {dC : Nat → ClassId} {dI : Nat → Nat → Nat} {a : Nat → Nat} {ac : Nat → ClassId} {n : Nat} {r : Int32 × (St × (St × (St × (St))))} (C : nd_C p l s m args c A (dC, dI) cX5_readName 8 RX5 ow_dm_X5_readName_t2 (dk_X5 ac)) (K : nd_Ki p l e (headSpec ow_dm_X5_readName_t2 ({ frames := 1, cells := 0, slots := 0, locals := 23 })).room s m args below meth c Q A (dC, dI) cX5_readName .int (St × (St × (St × (St)))) (dw_X5 a ac) r) {g14 : Int32 → Int32 → Int32 → Int32 → Int32 → (St × (St × (St × (St)))) → Option (Int32 × (St × (St × (St × (St)))))} (J14 : dj_X5_readName_t2_14 p l e s m args below meth c Q A dC dI a ac g14 r) : dj_X5_readName_t2_95 p l e s m args below meth c Q A dC dI a ac (df_X5_readName_t2_95 n g14) r := by
  obtain ⟨hlt, hx, hb, hml, hown, hts, hN, hA, hK⟩ := id C
  intro x1 x2 x4 x6 x7 y0 s0 H locs ls h hP hD hS hl
  unfold df_X5_readName_t2_95 at h
  refine lv_istore (lv' := [(5, .int y0), (0, .ref (a 0)), (1, .int x1), (2, .int x2), (3, .ref (a 2)), (4, .int x4), (6, .int x6), (7, .int x7)]) hx hb dX5_readName_95 hl (by decide) rfl (fun ls hl => ?_)
  refine lv_aload_n hx hb dX5_readName_97 rfl (lv_at hl 4 rfl) ?_
  refine lv_iload hx hb dX5_readName_98 (lv_at hl 6 rfl) ?_
  refine lv_iload hx hb dX5_readName_100 (lv_at hl 7 rfl) ?_
  refine lv_i2b hx hb dX5_readName_102 rfl ?_
  obtain ⟨i17, h⟩ := nd_ck_e h
  refine va_bast (i := x6) (x := (x7.toInt8.toInt32)) hx hb hK hP hD hS 2 1 rfl rfl i17 dX5_readName_103 (fun H locs hP hD hS => ?_)
  obtain ⟨s18, es18, h⟩ := nd_let_e h
  have hP : va_P (dC, dI) vwCl (dw_X5 a ac s18) H := by rw [es18]; exact hP
  have hD : va_D A (dw_X5 a ac s18) := by rw [es18]; exact hD
  exact (db_X5_readName_t2_104 C K J14) (x1) (x2) (x4) (y0) (x6) s18 _ _ _ h hP hD hS (lv_sub hl [1, 2, 3, 4, 5, 0, 6] rfl)
set_option maxHeartbeats 40000000 in
set_option maxRecDepth 100000 in
theorem db_X5_readName_t2_94 {p : Program} {l : Launch} {e : Env} {s : State} {m : MethodId} {args : Array Value} {below : List Frame} {meth : Method} {c : Code} {Q : State → Prop} {A : Nat → Prop} {dC : Nat → ClassId} {dI : Nat → Nat → Nat} {a : Nat → Nat} {ac : Nat → ClassId} {n : Nat} {r : Int32 × (St × (St × (St × (St))))} (C : nd_C p l s m args c A (dC, dI) cX5_readName 8 RX5 ow_dm_X5_readName_t2 (dk_X5 ac)) (K : nd_Ki p l e (headSpec ow_dm_X5_readName_t2 ({ frames := 1, cells := 0, slots := 0, locals := 23 })).room s m args below meth c Q A (dC, dI) cX5_readName .int (St × (St × (St × (St)))) (dw_X5 a ac) r) {g14 : Int32 → Int32 → Int32 → Int32 → Int32 → (St × (St × (St × (St)))) → Option (Int32 × (St × (St × (St × (St)))))} (J14 : dj_X5_readName_t2_14 p l e s m args below meth c Q A dC dI a ac g14 r) : dj_X5_readName_t2_94 p l e s m args below meth c Q A dC dI a ac (df_X5_readName_t2_94 n g14) r := by
  obtain ⟨hlt, hx, hb, hml, hown, hts, hN, hA, hK⟩ := id C
  intro x1 x2 x4 x6 x7 s0 H locs ls h hP hD hS hl
  unfold df_X5_readName_t2_94 at h
  refine lv_iconst (v := 0) hx hb dX5_readName_94 (by decide) ?_
  exact (db_X5_readName_t2_95 C K J14) (x1) (x2) (x4) (x6) (x7) (0) s0 _ _ _ h hP hD hS (lv_sub hl [0, 1, 2, 3, 4, 5, 6] rfl)
set_option maxHeartbeats 40000000 in
set_option maxRecDepth 100000 in
theorem dB_X5_readName_t2_14 {p : Program} {l : Launch} {e : Env} {s : State} {m : MethodId} {args : Array Value} {below : List Frame} {meth : Method} {c : Code} {Q : State → Prop} {A : Nat → Prop} {dC : Nat → ClassId} {dI : Nat → Nat → Nat} {a : Nat → Nat} {ac : Nat → ClassId} {n : Nat} {r : Int32 × (St × (St × (St × (St))))} (C : nd_C p l s m args c A (dC, dI) cX5_readName 8 RX5 ow_dm_X5_readName_t2 (dk_X5 ac)) (K : nd_Ki p l e (headSpec ow_dm_X5_readName_t2 ({ frames := 1, cells := 0, slots := 0, locals := 23 })).room s m args below meth c Q A (dC, dI) cX5_readName .int (St × (St × (St × (St)))) (dw_X5 a ac) r) {g14 : Int32 → Int32 → Int32 → Int32 → Int32 → (St × (St × (St × (St)))) → Option (Int32 × (St × (St × (St × (St)))))} (J14 : dj_X5_readName_t2_14 p l e s m args below meth c Q A dC dI a ac g14 r) : dj_X5_readName_t2_14 p l e s m args below meth c Q A dC dI a ac (dF_X5_readName_t2_14 n g14) r := by
  obtain ⟨hlt, hx, hb, hml, hown, hts, hN, hA, hK⟩ := id C
  intro x1 x2 x4 x5 x6 s0 H locs ls h hP hD hS hl
  unfold dF_X5_readName_t2_14 at h
  refine lv_iload hx hb dX5_readName_14 (lv_at hl 6 rfl) ?_
  refine lv_aload_n hx hb dX5_readName_16 rfl (lv_at hl 3 rfl) ?_
  refine va_alen (v := 16) hx hb hK hP 2 1 rfl rfl (show Int32.ofNat 16 = 16 by decide) dX5_readName_17 ?_
  refine lv_icmp_ge (tgt := 110) hx hb dX5_readName_18 (by decide) (fun c2 => ?_) (fun c2 => ?_)
  · have h := nd_pos h c2
    exact (db_X5_readName_t2_110 C K) (x4) (x5) s0 _ _ _ h hP hD hS (lv_sub hl [4, 5] rfl)
  · have h := nd_neg h c2
    refine lv_iload hx hb dX5_readName_21 (lv_at hl 4 rfl) ?_
    refine lv_if_ge (tgt := 110) hx hb dX5_readName_23 (by decide) (fun c5 => ?_) (fun c5 => ?_)
    · have h := nd_pos h c5
      exact (db_X5_readName_t2_110 C K) (x4) (x5) s0 _ _ _ h hP hD hS (lv_sub hl [4, 5] rfl)
    · have h := nd_neg h c5
      refine lv_aload_n hx hb dX5_readName_26 rfl (lv_at hl 0 rfl) ?_
      refine va_get (D := (dC, dI)) (ci := 6) (v := .ref (a 4)) (C := RX5) (T := TX5) (N := 8) hx hb hts hi_dm_X5_readName_t2_X5 hown hK hP 0 rfl rfl 0 (by decide) (hts (.fieldLink RX5 18 "TimeMachine$Kernel" "machine" "LTimeMachine$Machine;") (List.mem_of_getElem? (i := 4) rfl)) (fun _ h9 => h9) rfl dX5_readName_27 ?_
      refine lv_iload_n hx hb dX5_readName_30 rfl (lv_at hl 1 rfl) ?_
      refine lv_iload_n hx hb dX5_readName_31 rfl (lv_at hl 2 rfl) ?_
      refine lv_iload hx hb dX5_readName_32 (lv_at hl 6 rfl) ?_
      refine lv_iadd hx hb dX5_readName_34 ?_
      refine lv_iconst (v := 1) hx hb dX5_readName_35 (by decide) ?_
      obtain ⟨q6, s7, hq, h⟩ := nd_b2_e h
      have hPc := dp_X5_4 hP
      have hDc := dd_X5_4 hD
      have hKc := dy_X5_4 hK
      have hFc := nd_rs hDc hS hA
      have hzA : ∀ q : Nat, H.size ≤ q → A q := fun q h => hA q (Nat.le_trans hS.1 h)
      refine nd_cVi (As := [.int x1, .int (x2 + x6), .int 1]) (rest := []) (q := q6) (w' := dw_X6 (fun k => a (k + 4)) (fun k => ac (k + 4)) s7) ⟨hx, hb, hml, hown, hts⟩ (fun sz => dm_X6_may l hlt dC dI (fun k => a (k + 4)) (fun k => ac (k + 4)) n (x1) ((x2 + x6)) (1) s0.2.2 hq sz) (cwV 3 hts gi_dm_X5_readName_t2_1 rfl rfl rfl (by decide +kernel) ⟨Nat.le_of_ble_eq_true rfl, Nat.le_of_ble_eq_true rfl⟩) hPc hDc hKc hS hA hN (va_recv hKc hPc (ci := 7) (q0 := 0) rfl rfl) rfl hl.1 rfl (Nat.le_of_ble_eq_true rfl) dX5_readName_36 (fun H locs hP1 hD1 hk1 hS => ?_)
      obtain ⟨hP, hD⟩ := dn_X5_4 hP hD hzA hk1 hP1 hD1
      obtain ⟨s9, es9, h⟩ := nd_let_e h
      have hP : va_P (dC, dI) vwCl (dw_X5 a ac s9) H := by rw [es9]; exact hP
      have hD : va_D A (dw_X5 a ac s9) := by rw [es9]; exact hD
      refine lv_if_ne (tgt := 45) hx hb dX5_readName_39 (by decide) (fun c10 => ?_) (fun c10 => ?_)
      · have h := nd_neg h c10
        refine lv_aload_n hx hb dX5_readName_45 rfl (lv_at hl 0 rfl) ?_
        refine va_get (D := (dC, dI)) (ci := 6) (v := .ref (a 4)) (C := RX5) (T := TX5) (N := 8) hx hb hts hi_dm_X5_readName_t2_X5 hown hK hP 0 rfl rfl 0 (by decide) (hts (.fieldLink RX5 18 "TimeMachine$Kernel" "machine" "LTimeMachine$Machine;") (List.mem_of_getElem? (i := 4) rfl)) (fun _ h9 => h9) rfl dX5_readName_46 ?_
        refine lv_iload_n hx hb dX5_readName_49 rfl (lv_at hl 1 rfl) ?_
        refine lv_iload_n hx hb dX5_readName_50 rfl (lv_at hl 2 rfl) ?_
        refine lv_iload hx hb dX5_readName_51 (lv_at hl 6 rfl) ?_
        refine lv_iadd hx hb dX5_readName_53 ?_
        obtain ⟨q11, s12, hq, h⟩ := nd_b2_e h
        have hPc := dp_X5_4 hP
        have hDc := dd_X5_4 hD
        have hKc := dy_X5_4 hK
        have hFc := nd_rs hDc hS hA
        have hzA : ∀ q : Nat, H.size ≤ q → A q := fun q h => hA q (Nat.le_trans hS.1 h)
        refine nd_cVi (As := [.int x1, .int (x2 + x6)]) (rest := []) (q := q11) (w' := dw_X6 (fun k => a (k + 4)) (fun k => ac (k + 4)) s12) ⟨hx, hb, hml, hown, hts⟩ (fun sz => dm_X6_byteAt l hlt dC dI (fun k => a (k + 4)) (fun k => ac (k + 4)) n (x1) ((x2 + x6)) s9.2.2 hq sz) (cwV 2 hts gi_dm_X5_readName_t2_2 rfl rfl rfl (by decide +kernel) ⟨Nat.le_of_ble_eq_true rfl, Nat.le_of_ble_eq_true rfl⟩) hPc hDc hKc hS hA hN (va_recv hKc hPc (ci := 7) (q0 := 0) rfl rfl) rfl hl.1 rfl (Nat.le_of_ble_eq_true rfl) dX5_readName_54 (fun H locs hP1 hD1 hk1 hS => ?_)
        obtain ⟨hP, hD⟩ := dn_X5_4 hP hD hzA hk1 hP1 hD1
        obtain ⟨s14, es14, h⟩ := nd_let_e h
        have hP : va_P (dC, dI) vwCl (dw_X5 a ac s14) H := by rw [es14]; exact hP
        have hD : va_D A (dw_X5 a ac s14) := by rw [es14]; exact hD
        refine lv_istore (lv' := [(7, .int q11), (0, .ref (a 0)), (1, .int x1), (2, .int x2), (3, .ref (a 2)), (4, .int x4), (5, .int x5), (6, .int x6)]) hx hb dX5_readName_57 hl (by decide) rfl (fun ls hl => ?_)
        refine lv_iload hx hb dX5_readName_59 (lv_at hl 0 rfl) ?_
        refine lv_if_ne (tgt := 71) hx hb dX5_readName_61 (by decide) (fun c15 => ?_) (fun c15 => ?_)
        · have h := nd_neg h c15
          refine lv_iload hx hb dX5_readName_71 (lv_at hl 6 rfl) ?_
          refine lv_if_eq (tgt := 94) hx hb dX5_readName_73 (by decide) (fun c16 => ?_) (fun c16 => ?_)
          · have h := nd_pos h c16
            exact (db_X5_readName_t2_94 C K J14) (x1) (x2) (x4) (x6) (q11) s14 _ _ _ h hP hD hS (lv_sub hl [1, 2, 3, 4, 5, 7, 0] rfl)
          · have h := nd_neg h c16
            refine lv_iload hx hb dX5_readName_76 (lv_at hl 0 rfl) ?_
            refine lv_bipush (v := 33) hx hb dX5_readName_78 (by decide) ?_
            refine lv_icmp_lt (tgt := 94) hx hb dX5_readName_80 (by decide) (fun c20 => ?_) (fun c20 => ?_)
            · have h := nd_pos h c20
              exact (db_X5_readName_t2_94 C K J14) (x1) (x2) (x4) (x6) (q11) s14 _ _ _ h hP hD hS (lv_sub hl [1, 2, 3, 4, 5, 7, 0] rfl)
            · have h := nd_neg h c20
              refine lv_iload hx hb dX5_readName_83 (lv_at hl 0 rfl) ?_
              refine lv_bipush (v := 126) hx hb dX5_readName_85 (by decide) ?_
              refine lv_icmp_gt (tgt := 94) hx hb dX5_readName_87 (by decide) (fun c21 => ?_) (fun c21 => ?_)
              · have h := nd_pos h c21
                exact (db_X5_readName_t2_94 C K J14) (x1) (x2) (x4) (x6) (q11) s14 _ _ _ h hP hD hS (lv_sub hl [1, 2, 3, 4, 5, 7, 0] rfl)
              · have h := nd_neg h c21
                refine lv_iconst (v := 1) hx hb dX5_readName_90 (by decide) ?_
                refine lv_goto (tgt := 95) hx hb dX5_readName_91 (by decide) ?_
                exact (db_X5_readName_t2_95 C K J14) (x1) (x2) (x4) (x6) (q11) (1) s14 _ _ _ h hP hD hS (lv_sub hl [1, 2, 3, 4, 5, 7, 0] rfl)
        · have h := nd_pos h c15
          refine lv_iload hx hb dX5_readName_64 (lv_at hl 7 rfl) ?_
          refine lv_istore (lv' := [(4, .int x6), (7, .int q11), (0, .ref (a 0)), (1, .int x1), (2, .int x2), (3, .ref (a 2)), (5, .int x5), (6, .int x6)]) hx hb dX5_readName_66 hl (by decide) rfl (fun ls hl => ?_)
          refine lv_goto (tgt := 104) hx hb dX5_readName_68 (by decide) ?_
          exact (db_X5_readName_t2_104 C K J14) (x1) (x2) (x6) (x5) (x6) s14 _ _ _ h hP hD hS (lv_sub hl [2, 3, 4, 5, 0, 6, 7] rfl)
      · have h := nd_pos h c10
        refine lv_bipush (v := (-14)) hx hb dX5_readName_42 (by decide) ?_
        exact K _ _ _ _ _ _ dX5_readName_44 rfl (Option.some.inj h).symm hP hD hS
set_option maxHeartbeats 40000000 in
set_option maxRecDepth 100000 in
theorem db_X5_readName_t2_14 {p : Program} {l : Launch} {e : Env} {s : State} {m : MethodId} {args : Array Value} {below : List Frame} {meth : Method} {c : Code} {Q : State → Prop} {A : Nat → Prop} {dC : Nat → ClassId} {dI : Nat → Nat → Nat} {a : Nat → Nat} {ac : Nat → ClassId} {n : Nat} {r : Int32 × (St × (St × (St × (St))))} (C : nd_C p l s m args c A (dC, dI) cX5_readName 8 RX5 ow_dm_X5_readName_t2 (dk_X5 ac)) (K : nd_Ki p l e (headSpec ow_dm_X5_readName_t2 ({ frames := 1, cells := 0, slots := 0, locals := 23 })).room s m args below meth c Q A (dC, dI) cX5_readName .int (St × (St × (St × (St)))) (dw_X5 a ac) r) (k : Nat) : dj_X5_readName_t2_14 p l e s m args below meth c Q A dC dI a ac (df_X5_readName_t2_14 n k) r := by
  induction k with
  | zero => intro x1 x2 x4 x5 x6 s0 H locs ls h; exact nomatch (show (none : Option (Int32 × (St × (St × (St × (St)))))) = some r from h)
  | succ k ih => exact dB_X5_readName_t2_14 C K ih
set_option maxHeartbeats 40000000 in
set_option maxRecDepth 100000 in
theorem db_X5_readName_t2_0 {p : Program} {l : Launch} {e : Env} {s : State} {m : MethodId} {args : Array Value} {below : List Frame} {meth : Method} {c : Code} {Q : State → Prop} {A : Nat → Prop} {dC : Nat → ClassId} {dI : Nat → Nat → Nat} {a : Nat → Nat} {ac : Nat → ClassId} {n : Nat} {r : Int32 × (St × (St × (St × (St))))} (C : nd_C p l s m args c A (dC, dI) cX5_readName 8 RX5 ow_dm_X5_readName_t2 (dk_X5 ac)) (K : nd_Ki p l e (headSpec ow_dm_X5_readName_t2 ({ frames := 1, cells := 0, slots := 0, locals := 23 })).room s m args below meth c Q A (dC, dI) cX5_readName .int (St × (St × (St × (St)))) (dw_X5 a ac) r) : dj_X5_readName_t2_0 p l e s m args below meth c Q A dC dI a ac (df_X5_readName_t2_0 n) r := by
  obtain ⟨hlt, hx, hb, hml, hown, hts, hN, hA, hK⟩ := id C
  intro v0 v1 s0 H locs ls h hP hD hS hl
  unfold df_X5_readName_t2_0 at h
  refine lv_iconst (v := (-1)) hx hb dX5_readName_0 (by decide) ?_
  refine lv_istore (lv' := [(4, .int (-1)), (0, .ref (a 0)), (1, .int v0), (2, .int v1), (3, .ref (a 2))]) hx hb dX5_readName_1 hl (by decide) rfl (fun ls hl => ?_)
  refine lv_iconst (v := 1) hx hb dX5_readName_3 (by decide) ?_
  refine lv_istore (lv' := [(5, .int 1), (4, .int (-1)), (0, .ref (a 0)), (1, .int v0), (2, .int v1), (3, .ref (a 2))]) hx hb dX5_readName_4 hl (by decide) rfl (fun ls hl => ?_)
  refine lv_aload_n hx hb dX5_readName_6 rfl (lv_at hl 5 rfl) ?_
  refine lv_iconst (v := 0) hx hb dX5_readName_7 (by decide) ?_
  have hcl : (dw_X5 a ac s0)[2]? = some ((a 2), .inl (ac 2, 16, .inl (sR s0.1 1))) := rfl
  have hPc := nd_c1 hP hcl
  have hDc := nd_cd hD hcl
  have hKc : va_K (dC, dI) vwCl [(ac 2, .byte)] s := hK.sub [1] rfl
  have hFc := nd_rs hDc hS hA
  refine va_callv (va_runS (As := [.ref (a 2), .int 0]) (rest := []) ⟨hx, hb, hml, hown, hts⟩ (dm_J7_fill_031fb l hlt dC dI (a 2) (ac 2) 16 (by decide) (sR s0.1 1) 0 _) (va_cwS 2 hts gi_dm_X5_readName_t2_0 rfl rfl rfl (by decide +kernel) ⟨Nat.le_of_ble_eq_true rfl, Nat.le_of_ble_eq_true rfl⟩) ⟨fun a U g mk q => by obtain ⟨q0, q1, qP, qK, qD, qN⟩ := q; exact ⟨q0, q1, qP, va_K.moved (u := U) (U := U.calling g mk a) (Vm.Alike.refl U.vm) qK, qD, nv_same rfl rfl qN⟩, fun U hU hW => ⟨rfl, by rw [hU], by rw [hU]; exact hPc, va_K.moved hW.alike hKc, hDc.weaken (fun _ _ _ _ => trivial), nv_call hS hFc hU hW hN⟩⟩ rfl rfl hl.1 rfl (lv_room (Nat.le_of_ble_eq_true rfl)) dX5_readName_8 ⟨by decide +kernel, by decide +kernel⟩) hS (fun q _ h => hFc q h) hFc (fun u t H locs ht hvm hw hB hz1 hk1 hS => ?_)
  obtain ⟨hP1, -, hD1⟩ := hB
  rw [ht] at hP1
  have hP := nd_cs hP hD hcl hk1 hP1
  have hD := hD.set (e := .inl (ac 2, 16, .inl (nd_fl 16 (vp_nar .byte 0) (sR s0.1 1)))) hcl
  refine W.widen (k := 0) (n := 0) (Nat.le_refl _) (Nat.le_refl _) ?_
  obtain ⟨s1, es1, h⟩ := nd_let_e h
  have hP : va_P (dC, dI) vwCl (dw_X5 a ac s1) H := by rw [es1]; exact hP
  have hD : va_D A (dw_X5 a ac s1) := by rw [es1]; exact hD
  refine lv_iconst (v := 0) hx hb dX5_readName_11 (by decide) ?_
  refine lv_istore (lv' := [(6, .int 0), (5, .int 1), (4, .int (-1)), (0, .ref (a 0)), (1, .int v0), (2, .int v1), (3, .ref (a 2))]) hx hb dX5_readName_12 hl (by decide) rfl (fun ls hl => ?_)
  exact (db_X5_readName_t2_14 C K n) (v0) (v1) ((-1)) (1) (0) s1 _ _ _ h hP hD hS (lv_sub hl [3, 4, 5, 6, 2, 1, 0] rfl)
set_option maxHeartbeats 40000000 in
set_option maxRecDepth 100000 in
theorem dm_X5_readName_t2 (l : Launch) (hlt : l.stackTraces = false) (dC : Nat → ClassId) (dI : Nat → Nat → Nat) (a : Nat → Nat) (ac : Nat → ClassId) (n : Nat) (v0 : Int32) (v1 : Int32) (s0 : St × (St × (St × (St)))) {r : Int32 × (St × (St × (St × (St))))} (h : df_X5_readName_t2 n v0 v1 s0 = some r) (sz : Nat) : Met l yX5_readName ow_dm_X5_readName_t2 ({ frames := 1, cells := 0, slots := 0, locals := 23 }) (va_Pc [.ref (a 0), .int v0, .int v1, .ref (a 2)] (fun U => U.heap.size = sz ∧ va_P (dC, dI) vwCl (dw_X5 a ac s0) U.heap ∧ va_K (dC, dI) vwCl (dk_X5 ac) U ∧ va_D (fun _ => True) (dw_X5 a ac s0) ∧ nv_E dI (va_A (dw_X5 a ac s0) sz) U)) (va_Qi (fun x _ => x = r.1) (fun (_ : Unit) t => va_P (dC, dI) vwCl (dw_X5 a ac r.2) t.heap ∧ va_K (dC, dI) vwCl (dk_X5 ac) t ∧ va_D (va_A (dw_X5 a ac s0) sz) (dw_X5 a ac r.2)) (va_A (dw_X5 a ac s0) sz)) 0 0 (va_A (dw_X5 a ac s0) sz) := by
  refine Met.ofW (cc := cX5_readName) (maxL := 8) (ret := (some .int)) (by decide) rfl ?_
  intro p e s m args below meth c s₁ B hml hv
  obtain ⟨rfl, hsz, hP, hK, hD0, hN⟩ := hv
  have hx := B.exec
  have hb := B.bytes
  have hr := B.returns
  have hts := atoms_spec (ws := ow_dm_X5_readName_t2) B.pre
  have hown : s.vm.findClass RX5 = some m.cls := findClass_of_methodNamed B.named
  have hlocks := B.notSynchronized
  subst hsz
  have hD := hD0.self (sz := s.heap.size)
  generalize hAe : va_A (dw_X5 a ac s0) s.heap.size = A at hD hN ⊢
  have hA : ∀ q : Nat, s.heap.size ≤ q → A q := fun q h => by rw [← hAe]; exact Or.inr h
  have hl := lv_entry ([.ref (a 0), .int v0, .int v1, .ref (a 2)]) (n := 8) (Nat.le_of_ble_eq_true rfl)
  rw [lg_entry_eq]
  generalize (lg_sl ([.ref (a 0), .int v0, .int v1, .ref (a 2)]) ++ List.replicate (8 - (lg_sl ([.ref (a 0), .int v0, .int v1, .ref (a 2)])).length) Slot.unset).toArray = ls at hl ⊢
  have hl : lv_has ls 8 [(0, .ref (a 0)), (1, .int v0), (2, .int v1), (3, .ref (a 2))] := hl
  exact db_X5_readName_t2_0 (dC := dC) (dI := dI) (a := a) (ac := ac) (n := n) (r := r) ⟨hlt, hx, hb, hml, hown, hts, hN, hA, hK⟩ (fun pc v τ H locs ls d z er hP hD hS => by subst er; exact W.zret (v := v) hx hb hr z (fun t ht hW => ⟨⟨v, (), rfl, rfl, by rw [ht]; exact hP, va_K.moved hW.alike hK, hD⟩, hS.F ht⟩) hS.2.2 d) v0 v1 s0 _ _ _ h hP hD va_S.rf (lv_sub hl [0, 1, 2, 3] rfl)
set_option maxHeartbeats 40000000 in
set_option maxRecDepth 100000 in
theorem dp_vX5_X10n_1 {D : va_G} {H : Heap} {a : Nat → Nat} {ac : Nat → ClassId} {σ : St × (St × (St × (St)))} (h : va_P D vwCl (dw_X5 a ac σ) H) : va_P D vwCl (dw_X10n (fun k => a (nd_ix [2, 14, 15, 16, 17, 18, 19, 20, 21, 22, 23] k)) (fun k => ac (nd_ix [2, 14, 15, 16, 17, 18, 19, 20, 21, 22, 23] k)) ((pR nd_st0 0 (sR σ.1 1)), σ.2.2.2)) H := h.sub [2, 14, 15, 16, 17, 18, 19, 20, 21, 22, 23] rfl
set_option maxHeartbeats 40000000 in
set_option maxRecDepth 100000 in
theorem dd_vX5_X10n_1 {A : Nat → Prop} {a : Nat → Nat} {ac : Nat → ClassId} {σ : St × (St × (St × (St)))} (h : va_D A (dw_X5 a ac σ)) : va_D A (dw_X10n (fun k => a (nd_ix [2, 14, 15, 16, 17, 18, 19, 20, 21, 22, 23] k)) (fun k => ac (nd_ix [2, 14, 15, 16, 17, 18, 19, 20, 21, 22, 23] k)) ((pR nd_st0 0 (sR σ.1 1)), σ.2.2.2)) := h.sub [2, 14, 15, 16, 17, 18, 19, 20, 21, 22, 23] (by decide) rfl
set_option maxHeartbeats 40000000 in
set_option maxRecDepth 100000 in
theorem dy_vX5_X10n_1 {D : va_G} {U : State} {ac : Nat → ClassId} (h : va_K D vwCl (dk_X5 ac) U) : va_K D vwCl (dk_X10n (fun k => ac (nd_ix [2, 14, 15, 16, 17, 18, 19, 20, 21, 22, 23] k))) U := h.sub [1, 11, 12, 13, 14, 15, 16, 17, 18, 19] rfl
set_option maxHeartbeats 40000000 in
set_option maxRecDepth 100000 in
theorem dn_vX5_X10n_1 {A0 : Nat → Prop} {D : va_G} {H H1 : Heap} {a : Nat → Nat} {ac : Nat → ClassId} {σ : St × (St × (St × (St)))} {τ : St × (St)} (hP : va_P D vwCl (dw_X5 a ac σ) H) (hD : va_D A0 (dw_X5 a ac σ)) (hA : ∀ q : Nat, H.size ≤ q → A0 q) (hk : ∀ q : Nat, q < H.size → ¬ va_A (dw_X10n (fun k => a (nd_ix [2, 14, 15, 16, 17, 18, 19, 20, 21, 22, 23] k)) (fun k => ac (nd_ix [2, 14, 15, 16, 17, 18, 19, 20, 21, 22, 23] k)) ((pR nd_st0 0 (sR σ.1 1)), σ.2.2.2)) H.size q → H1[q]? = H[q]?) (h1 : va_P D vwCl (dw_X10n (fun k => a (nd_ix [2, 14, 15, 16, 17, 18, 19, 20, 21, 22, 23] k)) (fun k => ac (nd_ix [2, 14, 15, 16, 17, 18, 19, 20, 21, 22, 23] k)) τ) H1) (h2 : va_D (va_A (dw_X10n (fun k => a (nd_ix [2, 14, 15, 16, 17, 18, 19, 20, 21, 22, 23] k)) (fun k => ac (nd_ix [2, 14, 15, 16, 17, 18, 19, 20, 21, 22, 23] k)) ((pR nd_st0 0 (sR σ.1 1)), σ.2.2.2)) H.size) (dw_X10n (fun k => a (nd_ix [2, 14, 15, 16, 17, 18, 19, 20, 21, 22, 23] k)) (fun k => ac (nd_ix [2, 14, 15, 16, 17, 18, 19, 20, 21, 22, 23] k)) τ)) : va_P D vwCl (dw_X5 a ac (((pR σ.1 1 (sR τ.1 0)), σ.2).1, (((pR σ.1 1 (sR τ.1 0)), σ.2).2.1, (((pR σ.1 1 (sR τ.1 0)), σ.2).2.2.1, τ.2)))) H1 ∧ va_D A0 (dw_X5 a ac (((pR σ.1 1 (sR τ.1 0)), σ.2).1, (((pR σ.1 1 (sR τ.1 0)), σ.2).2.1, (((pR σ.1 1 (sR τ.1 0)), σ.2).2.2.1, τ.2)))) := by
  obtain ⟨h1, h2⟩ := va_join (wr := [0, 1, 3, 4, 5, 6, 7, 8, 9, 10, 11, 12, 13].filterMap (fun i => (dw_X5 a ac σ)[i]?)) hP hD [2, 14, 15, 16, 17, 18, 19, 20, 21, 22, 23] [0, 1, 3, 4, 5, 6, 7, 8, 9, 10, 11, 12, 13] rfl rfl (by decide) (by decide) hk (nd_rq (dd_vX5_X10n_1 hD) hA) h1 h2
  exact ⟨h1.sub [0, 1, 13, 2, 3, 4, 5, 6, 7, 8, 9, 10, 11, 12, 14, 15, 16, 17, 18, 19, 20, 21, 22, 23] rfl, h2.sub [0, 1, 13, 2, 3, 4, 5, 6, 7, 8, 9, 10, 11, 12, 14, 15, 16, 17, 18, 19, 20, 21, 22, 23] (by decide) rfl⟩
def ow_dm_X5_rename : List Cond := Cond.code yX5_rename cX5_rename 7 (some .long) :: ([Cond.fieldLink RX5 9 "TimeMachine$Kernel" "name" "[B", Cond.methodLink RX5 342 yX5_readName, Cond.instanceMethod yX5_readName, Cond.selects RX5 yX5_readName yX5_readName, Cond.initialized RX5, Cond.fieldLink RX5 28 "TimeMachine$Kernel" "things" "LTimeMachine$Things;", Cond.methodLink RX5 346 yX10_fileNamed, Cond.instanceMethod yX10_fileNamed, Cond.selects RX10 yX10_fileNamed yX10_fileNamed, Cond.initialized RX10, Cond.fieldLink RX5 15 "TimeMachine$Kernel" "otherName" "[B", Cond.methodLink RX5 355 yX10_giveName, Cond.instanceMethod yX10_giveName, Cond.selects RX10 yX10_giveName yX10_giveName, Cond.methodLink RX5 362 yX10_loseName, Cond.instanceMethod yX10_loseName, Cond.selects RX10 yX10_loseName yX10_loseName, Cond.constantLong RX5 230 (-2)] ++ (u_ws RX5 TX5 8 ++ (ow_dm_X5_readName_t1 ++ (ow_dm_X10_fileNamed ++ (ow_dm_X10_giveName ++ (ow_dm_X10_loseName ++ (ow_dm_X5_readName_t2 ++ [])))))))
theorem gd_dm_X5_rename : ∀ w ∈ ow_dm_X5_rename, (w.onTables && w.keeps) = true ∨ ∃ ty, w = Cond.arrayClass ty := List.forall_mem_cons.mpr ⟨good_of_word rfl, List.forall_mem_append.mpr ⟨fun w h => good_of_word (List.all_eq_true.mp (by decide +kernel) w h), List.forall_mem_append.mpr ⟨gu_X5, List.forall_mem_append.mpr ⟨gd_dm_X5_readName_t1, List.forall_mem_append.mpr ⟨gd_dm_X10_fileNamed, List.forall_mem_append.mpr ⟨gd_dm_X10_giveName, List.forall_mem_append.mpr ⟨gd_dm_X10_loseName, List.forall_mem_append.mpr ⟨gd_dm_X5_readName_t2, fun _ h => nomatch h⟩⟩⟩⟩⟩⟩⟩⟩
theorem hi_dm_X5_rename_X5 : ∀ w ∈ u_ws RX5 TX5 8, w ∈ ow_dm_X5_rename := fun w h => List.mem_cons_of_mem _ (List.mem_append_right _ (List.mem_append_left _ h))
theorem gi_dm_X5_rename_0 : GoodIn ow_dm_X5_rename (wsV RX5 342 RX5 yX5_readName ow_dm_X5_readName_t1) := goodIn_app (goodIn_of _ (by decide +kernel)) (fun w h => ⟨List.mem_cons_of_mem _ (List.mem_append_right _ (List.mem_append_right _ (List.mem_append_left _ h))), gd_dm_X5_readName_t1 w h⟩)
theorem gi_dm_X5_rename_1 : GoodIn ow_dm_X5_rename (wsV RX5 346 RX10 yX10_fileNamed ow_dm_X10_fileNamed) := goodIn_app (goodIn_of _ (by decide +kernel)) (fun w h => ⟨List.mem_cons_of_mem _ (List.mem_append_right _ (List.mem_append_right _ (List.mem_append_right _ (List.mem_append_left _ h)))), gd_dm_X10_fileNamed w h⟩)
theorem gi_dm_X5_rename_2 : GoodIn ow_dm_X5_rename (wsV RX5 355 RX10 yX10_giveName ow_dm_X10_giveName) := goodIn_app (goodIn_of _ (by decide +kernel)) (fun w h => ⟨List.mem_cons_of_mem _ (List.mem_append_right _ (List.mem_append_right _ (List.mem_append_right _ (List.mem_append_right _ (List.mem_append_left _ h))))), gd_dm_X10_giveName w h⟩)
theorem gi_dm_X5_rename_3 : GoodIn ow_dm_X5_rename (wsV RX5 362 RX10 yX10_loseName ow_dm_X10_loseName) := goodIn_app (goodIn_of _ (by decide +kernel)) (fun w h => ⟨List.mem_cons_of_mem _ (List.mem_append_right _ (List.mem_append_right _ (List.mem_append_right _ (List.mem_append_right _ (List.mem_append_right _ (List.mem_append_left _ h)))))), gd_dm_X10_loseName w h⟩)
theorem gi_dm_X5_rename_4 : GoodIn ow_dm_X5_rename (wsV RX5 342 RX5 yX5_readName ow_dm_X5_readName_t2) := goodIn_app (goodIn_of _ (by decide +kernel)) (fun w h => ⟨List.mem_cons_of_mem _ (List.mem_append_right _ (List.mem_append_right _ (List.mem_append_right _ (List.mem_append_right _ (List.mem_append_right _ (List.mem_append_right _ (List.mem_append_left _ h))))))), gd_dm_X5_readName_t2 w h⟩)
def dj_X5_rename_87 (p : Program) (l : Launch) (e : Env) (s : State) (m : MethodId) (args : Array Value) (below : List Frame) (meth : Method) (c : Code) (Q : State → Prop) (A : Nat → Prop) (dC : Nat → ClassId) (dI : Nat → Nat → Nat) (a : Nat → Nat) (ac : Nat → ClassId) (g : Int32 → (St × (St × (St × (St)))) → Option (Int64 × (St × (St × (St × (St)))))) (r : Int64 × (St × (St × (St × (St))))) : Prop := ∀ (x5 : Int32) (s0 : St × (St × (St × (St)))) (H : Heap) (locs : List Loc) (ls : Array Slot), g x5 s0 = some r → va_P (dC, dI) vwCl (dw_X5 a ac s0) H → va_D A (dw_X5 a ac s0) → va_S A s.heap H locs → lv_has ls 7 [(0, .ref (a 0)), (5, .int x5)] → W p l e (headSpec ow_dm_X5_rename ({ frames := 2, cells := 0, slots := 0, locals := 62 })).room s m args below meth c H locs 0 0 Q (F0 m 87 ls [])
def dj_X5_rename_29 (p : Program) (l : Launch) (e : Env) (s : State) (m : MethodId) (args : Array Value) (below : List Frame) (meth : Method) (c : Code) (Q : State → Prop) (A : Nat → Prop) (dC : Nat → ClassId) (dI : Nat → Nat → Nat) (a : Nat → Nat) (ac : Nat → ClassId) (g : Int32 → (St × (St × (St × (St)))) → Option (Int64 × (St × (St × (St × (St)))))) (r : Int64 × (St × (St × (St × (St))))) : Prop := ∀ (x4 : Int32) (s0 : St × (St × (St × (St)))) (H : Heap) (locs : List Loc) (ls : Array Slot), g x4 s0 = some r → va_P (dC, dI) vwCl (dw_X5 a ac s0) H → va_D A (dw_X5 a ac s0) → va_S A s.heap H locs → lv_has ls 7 [(0, .ref (a 0)), (4, .int x4)] → W p l e (headSpec ow_dm_X5_rename ({ frames := 2, cells := 0, slots := 0, locals := 62 })).room s m args below meth c H locs 0 0 Q (F0 m 29 ls [])
def dj_X5_rename_0 (p : Program) (l : Launch) (e : Env) (s : State) (m : MethodId) (args : Array Value) (below : List Frame) (meth : Method) (c : Code) (Q : State → Prop) (A : Nat → Prop) (dC : Nat → ClassId) (dI : Nat → Nat → Nat) (a : Nat → Nat) (ac : Nat → ClassId) (g : Int32 → Int32 → Int32 → (St × (St × (St × (St)))) → Option (Int64 × (St × (St × (St × (St)))))) (r : Int64 × (St × (St × (St × (St))))) : Prop := ∀ (v0 : Int32) (v1 : Int32) (v2 : Int32) (s0 : St × (St × (St × (St)))) (H : Heap) (locs : List Loc) (ls : Array Slot), g v0 v1 v2 s0 = some r → va_P (dC, dI) vwCl (dw_X5 a ac s0) H → va_D A (dw_X5 a ac s0) → va_S A s.heap H locs → lv_has ls 7 [(0, .ref (a 0)), (1, .int v0), (2, .int v1), (3, .int v2)] → W p l e (headSpec ow_dm_X5_rename ({ frames := 2, cells := 0, slots := 0, locals := 62 })).room s m args below meth c H locs 0 0 Q (F0 m 0 ls [])
set_option maxHeartbeats 40000000 in
set_option maxRecDepth 100000 in
theorem db_X5_rename_87 {p : Program} {l : Launch} {e : Env} {s : State} {m : MethodId} {args : Array Value} {below : List Frame} {meth : Method} {c : Code} {Q : State → Prop} {A : Nat → Prop} {dC : Nat → ClassId} {dI : Nat → Nat → Nat} {a : Nat → Nat} {ac : Nat → ClassId} {n : Nat} {r : Int64 × (St × (St × (St × (St))))} (C : nd_C p l s m args c A (dC, dI) cX5_rename 7 RX5 ow_dm_X5_rename (dk_X5 ac)) (K : nd_Kl p l e (headSpec ow_dm_X5_rename ({ frames := 2, cells := 0, slots := 0, locals := 62 })).room s m args below meth c Q A (dC, dI) cX5_rename (St × (St × (St × (St)))) (dw_X5 a ac) r) : dj_X5_rename_87 p l e s m args below meth c Q A dC dI a ac (df_X5_rename_87 n) r := by
  obtain ⟨hlt, hx, hb, hml, hown, hts, hN, hA, hK⟩ := id C
  intro x5 s0 H locs ls h hP hD hS hl
  unfold df_X5_rename_87 at h
  refine lv_aload_n hx hb dX5_rename_87 rfl (lv_at hl 0 rfl) ?_
  refine va_get (D := (dC, dI)) (ci := 6) (v := .ref (a 14)) (C := RX5) (T := TX5) (N := 8) hx hb hts hi_dm_X5_rename_X5 hown hK hP 0 rfl rfl 1 (by decide) (hts (.fieldLink RX5 28 "TimeMachine$Kernel" "things" "LTimeMachine$Things;") (List.mem_of_getElem? (i := 6) rfl)) (fun _ h9 => h9) rfl dX5_rename_88 ?_
  refine lv_iload hx hb dX5_rename_91 (lv_at hl 1 rfl) ?_
  refine lv_aload_n hx hb dX5_rename_93 rfl (lv_at hl 0 rfl) ?_
  refine va_get (D := (dC, dI)) (ci := 6) (v := .ref (a 2)) (C := RX5) (T := TX5) (N := 8) hx hb hts hi_dm_X5_rename_X5 hown hK hP 0 rfl rfl 7 (by decide) (hts (.fieldLink RX5 15 "TimeMachine$Kernel" "otherName" "[B") (List.mem_of_getElem? (i := 11) rfl)) (fun _ h9 => h9) rfl dX5_rename_94 ?_
  obtain ⟨s17, hq, h⟩ := nd_b1_e h
  have hPc := dp_vX5_X10n_1 hP
  have hDc := dd_vX5_X10n_1 hD
  have hKc := dy_vX5_X10n_1 hK
  have hFc := nd_rs hDc hS hA
  have hzA : ∀ q : Nat, H.size ≤ q → A q := fun q h => hA q (Nat.le_trans hS.1 h)
  refine nd_cVv (As := [.int x5, .ref (a 2)]) (rest := []) (w' := dw_X10n (fun k => a (nd_ix [2, 14, 15, 16, 17, 18, 19, 20, 21, 22, 23] k)) (fun k => ac (nd_ix [2, 14, 15, 16, 17, 18, 19, 20, 21, 22, 23] k)) s17) ⟨hx, hb, hml, hown, hts⟩ (fun sz => dm_X10_giveName l hlt dC dI (fun k => a (nd_ix [2, 14, 15, 16, 17, 18, 19, 20, 21, 22, 23] k)) (fun k => ac (nd_ix [2, 14, 15, 16, 17, 18, 19, 20, 21, 22, 23] k)) n (x5) ((pR nd_st0 0 (sR s0.1 1)), s0.2.2.2) hq sz) (cwV 2 hts gi_dm_X5_rename_2 rfl rfl rfl (by decide +kernel) ⟨Nat.le_of_ble_eq_true rfl, Nat.le_of_ble_eq_true rfl⟩) hPc hDc hKc hS hA hN (va_recv hKc hPc (ci := 11) (q0 := 1) rfl rfl) rfl hl.1 rfl (Nat.le_of_ble_eq_true rfl) dX5_rename_97 (fun H locs hP1 hD1 hk1 hS => ?_)
  obtain ⟨hP, hD⟩ := dn_vX5_X10n_1 hP hD hzA hk1 hP1 hD1
  obtain ⟨s19, es19, h⟩ := nd_let_e h
  have hP : va_P (dC, dI) vwCl (dw_X5 a ac s19) H := by rw [es19]; exact hP
  have hD : va_D A (dw_X5 a ac s19) := by rw [es19]; exact hD
  refine lv_lconst (v := 0) hx hb dX5_rename_100 (by decide) ?_
  exact K _ _ _ _ _ _ dX5_rename_101 (Option.some.inj h).symm hP hD hS
set_option maxHeartbeats 40000000 in
set_option maxRecDepth 100000 in
theorem db_X5_rename_29 {p : Program} {l : Launch} {e : Env} {s : State} {m : MethodId} {args : Array Value} {below : List Frame} {meth : Method} {c : Code} {Q : State → Prop} {A : Nat → Prop} {dC : Nat → ClassId} {dI : Nat → Nat → Nat} {a : Nat → Nat} {ac : Nat → ClassId} {n : Nat} {r : Int64 × (St × (St × (St × (St))))} (C : nd_C p l s m args c A (dC, dI) cX5_rename 7 RX5 ow_dm_X5_rename (dk_X5 ac)) (K : nd_Kl p l e (headSpec ow_dm_X5_rename ({ frames := 2, cells := 0, slots := 0, locals := 62 })).room s m args below meth c Q A (dC, dI) cX5_rename (St × (St × (St × (St)))) (dw_X5 a ac) r) : dj_X5_rename_29 p l e s m args below meth c Q A dC dI a ac (df_X5_rename_29 n) r := by
  obtain ⟨hlt, hx, hb, hml, hown, hts, hN, hA, hK⟩ := id C
  intro x4 s0 H locs ls h hP hD hS hl
  unfold df_X5_rename_29 at h
  refine lv_iload hx hb dX5_rename_29 (lv_at hl 1 rfl) ?_
  refine lv_if_eq (tgt := 38) hx hb dX5_rename_31 (by decide) (fun c5 => ?_) (fun c5 => ?_)
  · have h := nd_pos h c5
    refine lv_aload_n hx hb dX5_rename_38 rfl (lv_at hl 0 rfl) ?_
    refine va_get (D := (dC, dI)) (ci := 6) (v := .ref (a 14)) (C := RX5) (T := TX5) (N := 8) hx hb hts hi_dm_X5_rename_X5 hown hK hP 0 rfl rfl 1 (by decide) (hts (.fieldLink RX5 28 "TimeMachine$Kernel" "things" "LTimeMachine$Things;") (List.mem_of_getElem? (i := 6) rfl)) (fun _ h9 => h9) rfl dX5_rename_39 ?_
    refine lv_aload_n hx hb dX5_rename_42 rfl (lv_at hl 0 rfl) ?_
    refine va_get (D := (dC, dI)) (ci := 6) (v := .ref (a 1)) (C := RX5) (T := TX5) (N := 8) hx hb hts hi_dm_X5_rename_X5 hown hK hP 0 rfl rfl 6 (by decide) (hts (.fieldLink RX5 9 "TimeMachine$Kernel" "name" "[B") (List.mem_of_getElem? (i := 1) rfl)) (fun _ h9 => h9) rfl dX5_rename_43 ?_
    obtain ⟨q6, s7, hq, h⟩ := nd_b2_e h
    have hPc := dp_vX5_X10n_0 hP
    have hDc := dd_vX5_X10n_0 hD
    have hKc := dy_vX5_X10n_0 hK
    have hFc := nd_rs hDc hS hA
    have hzA : ∀ q : Nat, H.size ≤ q → A q := fun q h => hA q (Nat.le_trans hS.1 h)
    refine nd_cVi (As := [.ref (a 1)]) (rest := []) (q := q6) (w' := dw_X10n (fun k => a (nd_ix [1, 14, 15, 16, 17, 18, 19, 20, 21, 22, 23] k)) (fun k => ac (nd_ix [1, 14, 15, 16, 17, 18, 19, 20, 21, 22, 23] k)) s7) ⟨hx, hb, hml, hown, hts⟩ (fun sz => dm_X10_fileNamed l hlt dC dI (fun k => a (nd_ix [1, 14, 15, 16, 17, 18, 19, 20, 21, 22, 23] k)) (fun k => ac (nd_ix [1, 14, 15, 16, 17, 18, 19, 20, 21, 22, 23] k)) n  ((pR nd_st0 0 (sR s0.1 0)), s0.2.2.2) hq sz) (cwV 1 hts gi_dm_X5_rename_1 rfl rfl rfl (by decide +kernel) ⟨Nat.le_of_ble_eq_true rfl, Nat.le_of_ble_eq_true rfl⟩) hPc hDc hKc hS hA hN (va_recv hKc hPc (ci := 11) (q0 := 1) rfl rfl) rfl hl.1 rfl (Nat.le_of_ble_eq_true rfl) dX5_rename_46 (fun H locs hP1 hD1 hk1 hS => ?_)
    obtain ⟨hP, hD⟩ := dn_vX5_X10n_0 hP hD hzA hk1 hP1 hD1
    obtain ⟨s9, es9, h⟩ := nd_let_e h
    have hP : va_P (dC, dI) vwCl (dw_X5 a ac s9) H := by rw [es9]; exact hP
    have hD : va_D A (dw_X5 a ac s9) := by rw [es9]; exact hD
    refine lv_istore (lv' := [(5, .int q6), (0, .ref (a 0)), (4, .int x4)]) hx hb dX5_rename_49 hl (by decide) rfl (fun ls hl => ?_)
    refine lv_iload hx hb dX5_rename_51 (lv_at hl 0 rfl) ?_
    refine lv_if_ge (tgt := 60) hx hb dX5_rename_53 (by decide) (fun c10 => ?_) (fun c10 => ?_)
    · have h := nd_pos h c10
      refine lv_aload_n hx hb dX5_rename_60 rfl (lv_at hl 1 rfl) ?_
      refine va_get (D := (dC, dI)) (ci := 6) (v := .ref (a 14)) (C := RX5) (T := TX5) (N := 8) hx hb hts hi_dm_X5_rename_X5 hown hK hP 0 rfl rfl 1 (by decide) (hts (.fieldLink RX5 28 "TimeMachine$Kernel" "things" "LTimeMachine$Things;") (List.mem_of_getElem? (i := 6) rfl)) (fun _ h9 => h9) rfl dX5_rename_61 ?_
      refine lv_aload_n hx hb dX5_rename_64 rfl (lv_at hl 1 rfl) ?_
      refine va_get (D := (dC, dI)) (ci := 6) (v := .ref (a 2)) (C := RX5) (T := TX5) (N := 8) hx hb hts hi_dm_X5_rename_X5 hown hK hP 0 rfl rfl 7 (by decide) (hts (.fieldLink RX5 15 "TimeMachine$Kernel" "otherName" "[B") (List.mem_of_getElem? (i := 11) rfl)) (fun _ h9 => h9) rfl dX5_rename_65 ?_
      obtain ⟨q11, s12, hq, h⟩ := nd_b2_e h
      have hPc := dp_vX5_X10n_1 hP
      have hDc := dd_vX5_X10n_1 hD
      have hKc := dy_vX5_X10n_1 hK
      have hFc := nd_rs hDc hS hA
      have hzA : ∀ q : Nat, H.size ≤ q → A q := fun q h => hA q (Nat.le_trans hS.1 h)
      refine nd_cVi (As := [.ref (a 2)]) (rest := []) (q := q11) (w' := dw_X10n (fun k => a (nd_ix [2, 14, 15, 16, 17, 18, 19, 20, 21, 22, 23] k)) (fun k => ac (nd_ix [2, 14, 15, 16, 17, 18, 19, 20, 21, 22, 23] k)) s12) ⟨hx, hb, hml, hown, hts⟩ (fun sz => dm_X10_fileNamed l hlt dC dI (fun k => a (nd_ix [2, 14, 15, 16, 17, 18, 19, 20, 21, 22, 23] k)) (fun k => ac (nd_ix [2, 14, 15, 16, 17, 18, 19, 20, 21, 22, 23] k)) n  ((pR nd_st0 0 (sR s9.1 1)), s9.2.2.2) hq sz) (cwV 1 hts gi_dm_X5_rename_1 rfl rfl rfl (by decide +kernel) ⟨Nat.le_of_ble_eq_true rfl, Nat.le_of_ble_eq_true rfl⟩) hPc hDc hKc hS hA hN (va_recv hKc hPc (ci := 11) (q0 := 1) rfl rfl) rfl hl.1 rfl (Nat.le_of_ble_eq_true rfl) dX5_rename_68 (fun H locs hP1 hD1 hk1 hS => ?_)
      obtain ⟨hP, hD⟩ := dn_vX5_X10n_1 hP hD hzA hk1 hP1 hD1
      obtain ⟨s14, es14, h⟩ := nd_let_e h
      have hP : va_P (dC, dI) vwCl (dw_X5 a ac s14) H := by rw [es14]; exact hP
      have hD : va_D A (dw_X5 a ac s14) := by rw [es14]; exact hD
      refine lv_istore (lv' := [(6, .int q11), (5, .int q6), (0, .ref (a 0)), (4, .int x4)]) hx hb dX5_rename_71 hl (by decide) rfl (fun ls hl => ?_)
      refine lv_iload hx hb dX5_rename_73 (lv_at hl 0 rfl) ?_
      refine lv_if_lt (tgt := 87) hx hb dX5_rename_75 (by decide) (fun c15 => ?_) (fun c15 => ?_)
      · have h := nd_pos h c15
        exact (db_X5_rename_87 C K) (q6) s14 _ _ _ h hP hD hS (lv_sub hl [2, 1] rfl)
      · have h := nd_neg h c15
        refine lv_aload_n hx hb dX5_rename_78 rfl (lv_at hl 2 rfl) ?_
        refine va_get (D := (dC, dI)) (ci := 6) (v := .ref (a 14)) (C := RX5) (T := TX5) (N := 8) hx hb hts hi_dm_X5_rename_X5 hown hK hP 0 rfl rfl 1 (by decide) (hts (.fieldLink RX5 28 "TimeMachine$Kernel" "things" "LTimeMachine$Things;") (List.mem_of_getElem? (i := 6) rfl)) (fun _ h9 => h9) rfl dX5_rename_79 ?_
        refine lv_iload hx hb dX5_rename_82 (lv_at hl 0 rfl) ?_
        obtain ⟨s21, hq, h⟩ := nd_b1_e h
        have hPc := dp_X5_14 hP
        have hDc := dd_X5_14 hD
        have hKc := dy_X5_14 hK
        have hFc := nd_rs hDc hS hA
        have hzA : ∀ q : Nat, H.size ≤ q → A q := fun q h => hA q (Nat.le_trans hS.1 h)
        refine nd_cVv (As := [.int q11]) (rest := []) (w' := dw_X10 (fun k => a (k + 14)) (fun k => ac (k + 14)) s21) ⟨hx, hb, hml, hown, hts⟩ (fun sz => dm_X10_loseName l hlt dC dI (fun k => a (k + 14)) (fun k => ac (k + 14)) n (q11) s14.2.2.2 hq sz) (cwV 1 hts gi_dm_X5_rename_3 rfl rfl rfl (by decide +kernel) ⟨Nat.le_of_ble_eq_true rfl, Nat.le_of_ble_eq_true rfl⟩) hPc hDc hKc hS hA hN (va_recv hKc hPc (ci := 11) (q0 := 0) rfl rfl) rfl hl.1 rfl (Nat.le_of_ble_eq_true rfl) dX5_rename_84 (fun H locs hP1 hD1 hk1 hS => ?_)
        obtain ⟨hP, hD⟩ := dn_X5_14 hP hD hzA hk1 hP1 hD1
        obtain ⟨s23, es23, h⟩ := nd_let_e h
        have hP : va_P (dC, dI) vwCl (dw_X5 a ac s23) H := by rw [es23]; exact hP
        have hD : va_D A (dw_X5 a ac s23) := by rw [es23]; exact hD
        exact (db_X5_rename_87 C K) (q6) s23 _ _ _ h hP hD hS (lv_sub hl [2, 1] rfl)
    · have h := nd_neg h c10
      refine lv_ldc2 hx hb hown (hts (.constantLong RX5 230 (-2)) (List.mem_of_getElem? (i := 18) rfl)) dX5_rename_56 ?_
      exact K _ _ _ _ _ _ dX5_rename_59 (Option.some.inj h).symm hP hD hS
  · have h := nd_neg h c5
    refine lv_iload hx hb dX5_rename_34 (lv_at hl 1 rfl) ?_
    refine lv_i2l hx hb dX5_rename_36 rfl ?_
    exact K _ _ _ _ _ _ dX5_rename_37 (Option.some.inj h).symm hP hD hS
set_option maxHeartbeats 40000000 in
set_option maxRecDepth 100000 in
theorem db_X5_rename_0 {p : Program} {l : Launch} {e : Env} {s : State} {m : MethodId} {args : Array Value} {below : List Frame} {meth : Method} {c : Code} {Q : State → Prop} {A : Nat → Prop} {dC : Nat → ClassId} {dI : Nat → Nat → Nat} {a : Nat → Nat} {ac : Nat → ClassId} {n : Nat} {r : Int64 × (St × (St × (St × (St))))} (C : nd_C p l s m args c A (dC, dI) cX5_rename 7 RX5 ow_dm_X5_rename (dk_X5 ac)) (K : nd_Kl p l e (headSpec ow_dm_X5_rename ({ frames := 2, cells := 0, slots := 0, locals := 62 })).room s m args below meth c Q A (dC, dI) cX5_rename (St × (St × (St × (St)))) (dw_X5 a ac) r) : dj_X5_rename_0 p l e s m args below meth c Q A dC dI a ac (df_X5_rename_0 n) r := by
  obtain ⟨hlt, hx, hb, hml, hown, hts, hN, hA, hK⟩ := id C
  intro v0 v1 v2 s0 H locs ls h hP hD hS hl
  unfold df_X5_rename_0 at h
  refine lv_aload_n hx hb dX5_rename_0 rfl (lv_at hl 0 rfl) ?_
  refine lv_iload_n hx hb dX5_rename_1 rfl (lv_at hl 1 rfl) ?_
  refine lv_iload_n hx hb dX5_rename_2 rfl (lv_at hl 2 rfl) ?_
  refine lv_aload_n hx hb dX5_rename_3 rfl (lv_at hl 0 rfl) ?_
  refine va_get (D := (dC, dI)) (ci := 6) (v := .ref (a 1)) (C := RX5) (T := TX5) (N := 8) hx hb hts hi_dm_X5_rename_X5 hown hK hP 0 rfl rfl 6 (by decide) (hts (.fieldLink RX5 9 "TimeMachine$Kernel" "name" "[B") (List.mem_of_getElem? (i := 1) rfl)) (fun _ h9 => h9) rfl dX5_rename_4 ?_
  obtain ⟨q1, s2, hq, h⟩ := nd_b2_e h
  have hPc := hP
  have hDc := hD
  have hKc := hK
  have hFc := nd_rs hD hS hA
  refine nd_cVi (As := [.int v0, .int v1, .ref (a 1)]) (rest := []) (q := q1) (w' := dw_X5 a ac s2) ⟨hx, hb, hml, hown, hts⟩ (fun sz => dm_X5_readName_t1 l hlt dC dI a ac n (v0) (v1) s0 hq sz) (cwV 3 hts gi_dm_X5_rename_0 rfl rfl rfl (by decide +kernel) ⟨Nat.le_of_ble_eq_true rfl, Nat.le_of_ble_eq_true rfl⟩) hPc hDc hKc hS hA hN (va_recv hKc hPc (ci := 6) (q0 := 0) rfl rfl) rfl hl.1 rfl (Nat.le_of_ble_eq_true rfl) dX5_rename_7 (fun H locs hP1 hD1 hk1 hS => ?_)
  have hP := hP1
  have hD := hD1.weaken (fun k q _ h => hFc q.1 h)
  refine lv_istore (lv' := [(4, .int q1), (0, .ref (a 0)), (1, .int v0), (2, .int v1), (3, .int v2)]) hx hb dX5_rename_10 hl (by decide) rfl (fun ls hl => ?_)
  refine lv_iload hx hb dX5_rename_12 (lv_at hl 0 rfl) ?_
  refine lv_if_ne (tgt := 29) hx hb dX5_rename_14 (by decide) (fun c4 => ?_) (fun c4 => ?_)
  · have h := nd_neg h c4
    exact (db_X5_rename_29 C K) (q1) s2 _ _ _ h hP hD hS (lv_sub hl [1, 0] rfl)
  · have h := nd_pos h c4
    refine lv_aload_n hx hb dX5_rename_17 rfl (lv_at hl 1 rfl) ?_
    refine lv_iload_n hx hb dX5_rename_18 rfl (lv_at hl 2 rfl) ?_
    refine lv_iload_n hx hb dX5_rename_19 rfl (lv_at hl 4 rfl) ?_
    refine lv_aload_n hx hb dX5_rename_20 rfl (lv_at hl 1 rfl) ?_
    refine va_get (D := (dC, dI)) (ci := 6) (v := .ref (a 2)) (C := RX5) (T := TX5) (N := 8) hx hb hts hi_dm_X5_rename_X5 hown hK hP 0 rfl rfl 7 (by decide) (hts (.fieldLink RX5 15 "TimeMachine$Kernel" "otherName" "[B") (List.mem_of_getElem? (i := 11) rfl)) (fun _ h9 => h9) rfl dX5_rename_21 ?_
    obtain ⟨q24, s25, hq, h⟩ := nd_b2_e h
    have hPc := hP
    have hDc := hD
    have hKc := hK
    have hFc := nd_rs hD hS hA
    refine nd_cVi (As := [.int v0, .int v2, .ref (a 2)]) (rest := []) (q := q24) (w' := dw_X5 a ac s25) ⟨hx, hb, hml, hown, hts⟩ (fun sz => dm_X5_readName_t2 l hlt dC dI a ac n (v0) (v2) s2 hq sz) (cwV 3 hts gi_dm_X5_rename_4 rfl rfl rfl (by decide +kernel) ⟨Nat.le_of_ble_eq_true rfl, Nat.le_of_ble_eq_true rfl⟩) hPc hDc hKc hS hA hN (va_recv hKc hPc (ci := 6) (q0 := 0) rfl rfl) rfl hl.1 rfl (Nat.le_of_ble_eq_true rfl) dX5_rename_24 (fun H locs hP1 hD1 hk1 hS => ?_)
    have hP := hP1
    have hD := hD1.weaken (fun k q _ h => hFc q.1 h)
    refine lv_istore (lv' := [(4, .int q24), (0, .ref (a 0)), (1, .int v0), (2, .int v1), (3, .int v2)]) hx hb dX5_rename_27 hl (by decide) rfl (fun ls hl => ?_)
    exact (db_X5_rename_29 C K) (q24) s25 _ _ _ h hP hD hS (lv_sub hl [1, 0] rfl)
set_option maxHeartbeats 40000000 in
set_option maxRecDepth 100000 in
theorem dm_X5_rename (l : Launch) (hlt : l.stackTraces = false) (dC : Nat → ClassId) (dI : Nat → Nat → Nat) (a : Nat → Nat) (ac : Nat → ClassId) (n : Nat) (v0 : Int32) (v1 : Int32) (v2 : Int32) (s0 : St × (St × (St × (St)))) {r : Int64 × (St × (St × (St × (St))))} (h : df_X5_rename n v0 v1 v2 s0 = some r) (sz : Nat) : Met l yX5_rename ow_dm_X5_rename ({ frames := 2, cells := 0, slots := 0, locals := 62 }) (va_Pc [.ref (a 0), .int v0, .int v1, .int v2] (fun U => U.heap.size = sz ∧ va_P (dC, dI) vwCl (dw_X5 a ac s0) U.heap ∧ va_K (dC, dI) vwCl (dk_X5 ac) U ∧ va_D (fun _ => True) (dw_X5 a ac s0) ∧ nv_E dI (va_A (dw_X5 a ac s0) sz) U)) (va_Ql (fun x _ => x = r.1) (fun (_ : Unit) t => va_P (dC, dI) vwCl (dw_X5 a ac r.2) t.heap ∧ va_K (dC, dI) vwCl (dk_X5 ac) t ∧ va_D (va_A (dw_X5 a ac s0) sz) (dw_X5 a ac r.2)) (va_A (dw_X5 a ac s0) sz)) 0 0 (va_A (dw_X5 a ac s0) sz) := by
  refine Met.ofW (cc := cX5_rename) (maxL := 7) (ret := (some .long)) (by decide) rfl ?_
  intro p e s m args below meth c s₁ B hml hv
  obtain ⟨rfl, hsz, hP, hK, hD0, hN⟩ := hv
  have hx := B.exec
  have hb := B.bytes
  have hr := B.returns
  have hts := atoms_spec (ws := ow_dm_X5_rename) B.pre
  have hown : s.vm.findClass RX5 = some m.cls := findClass_of_methodNamed B.named
  have hlocks := B.notSynchronized
  subst hsz
  have hD := hD0.self (sz := s.heap.size)
  generalize hAe : va_A (dw_X5 a ac s0) s.heap.size = A at hD hN ⊢
  have hA : ∀ q : Nat, s.heap.size ≤ q → A q := fun q h => by rw [← hAe]; exact Or.inr h
  have hl := lv_entry ([.ref (a 0), .int v0, .int v1, .int v2]) (n := 7) (Nat.le_of_ble_eq_true rfl)
  rw [lg_entry_eq]
  generalize (lg_sl ([.ref (a 0), .int v0, .int v1, .int v2]) ++ List.replicate (7 - (lg_sl ([.ref (a 0), .int v0, .int v1, .int v2])).length) Slot.unset).toArray = ls at hl ⊢
  have hl : lv_has ls 7 [(0, .ref (a 0)), (1, .int v0), (2, .int v1), (3, .int v2)] := hl
  exact db_X5_rename_0 (dC := dC) (dI := dI) (a := a) (ac := ac) (n := n) (r := r) ⟨hlt, hx, hb, hml, hown, hts, hN, hA, hK⟩ (fun pc v τ H locs ls d er hP hD hS => by subst er; exact W.lret (v := v) hx hb hr (fun t ht hW => ⟨⟨v, (), rfl, rfl, by rw [ht]; exact hP, va_K.moved hW.alike hK, hD⟩, hS.F ht⟩) hS.2.2 d) v0 v1 v2 s0 _ _ _ h hP hD va_S.rf (lv_sub hl [0, 1, 2, 3] rfl)
def ow_dm_X5_grow : List Cond := Cond.code yX5_grow cX5_grow 8 (some .long) :: ([Cond.fieldLink RX5 37 "TimeMachine$Kernel" "self" "[I", Cond.constantLong RX5 251 (-22), Cond.constant RX5 372 (60416), Cond.fieldLink RX5 18 "TimeMachine$Kernel" "machine" "LTimeMachine$Machine;", Cond.methodLink RX5 232 yX6_framesFree, Cond.instanceMethod yX6_framesFree, Cond.selects RX6 yX6_framesFree yX6_framesFree, Cond.initialized RX6, Cond.methodLink RX5 375 yX6_addPages, Cond.instanceMethod yX6_addPages, Cond.selects RX6 yX6_addPages yX6_addPages, Cond.methodLink RX5 378 yX6_dropPage, Cond.instanceMethod yX6_dropPage, Cond.selects RX6 yX6_dropPage yX6_dropPage, Cond.constantLong RX5 228 (-4)] ++ (u_ws RX5 TX5 8 ++ (ow_dm_X6_framesFree ++ (ow_dm_X6_addPages ++ (ow_dm_X6_dropPage ++ [])))))
theorem gd_dm_X5_grow : ∀ w ∈ ow_dm_X5_grow, (w.onTables && w.keeps) = true ∨ ∃ ty, w = Cond.arrayClass ty := List.forall_mem_cons.mpr ⟨good_of_word rfl, List.forall_mem_append.mpr ⟨fun w h => good_of_word (List.all_eq_true.mp (by decide +kernel) w h), List.forall_mem_append.mpr ⟨gu_X5, List.forall_mem_append.mpr ⟨gd_dm_X6_framesFree, List.forall_mem_append.mpr ⟨gd_dm_X6_addPages, List.forall_mem_append.mpr ⟨gd_dm_X6_dropPage, fun _ h => nomatch h⟩⟩⟩⟩⟩⟩
theorem hi_dm_X5_grow_X5 : ∀ w ∈ u_ws RX5 TX5 8, w ∈ ow_dm_X5_grow := fun w h => List.mem_cons_of_mem _ (List.mem_append_right _ (List.mem_append_left _ h))
theorem gi_dm_X5_grow_0 : GoodIn ow_dm_X5_grow (wsV RX5 232 RX6 yX6_framesFree ow_dm_X6_framesFree) := goodIn_app (goodIn_of _ (by decide +kernel)) (fun w h => ⟨List.mem_cons_of_mem _ (List.mem_append_right _ (List.mem_append_right _ (List.mem_append_left _ h))), gd_dm_X6_framesFree w h⟩)
theorem gi_dm_X5_grow_1 : GoodIn ow_dm_X5_grow (wsV RX5 375 RX6 yX6_addPages ow_dm_X6_addPages) := goodIn_app (goodIn_of _ (by decide +kernel)) (fun w h => ⟨List.mem_cons_of_mem _ (List.mem_append_right _ (List.mem_append_right _ (List.mem_append_right _ (List.mem_append_left _ h)))), gd_dm_X6_addPages w h⟩)
theorem gi_dm_X5_grow_2 : GoodIn ow_dm_X5_grow (wsV RX5 378 RX6 yX6_dropPage ow_dm_X6_dropPage) := goodIn_app (goodIn_of _ (by decide +kernel)) (fun w h => ⟨List.mem_cons_of_mem _ (List.mem_append_right _ (List.mem_append_right _ (List.mem_append_right _ (List.mem_append_right _ (List.mem_append_left _ h))))), gd_dm_X6_dropPage w h⟩)
def dj_X5_grow_38 (p : Program) (l : Launch) (e : Env) (s : State) (m : MethodId) (args : Array Value) (below : List Frame) (meth : Method) (c : Code) (Q : State → Prop) (A : Nat → Prop) (dC : Nat → ClassId) (dI : Nat → Nat → Nat) (a : Nat → Nat) (ac : Nat → ClassId) (g : (St × (St × (St × (St)))) → Option (Int64 × (St × (St × (St × (St)))))) (r : Int64 × (St × (St × (St × (St))))) : Prop := ∀ (s0 : St × (St × (St × (St)))) (H : Heap) (locs : List Loc) (ls : Array Slot), g s0 = some r → va_P (dC, dI) vwCl (dw_X5 a ac s0) H → va_D A (dw_X5 a ac s0) → va_S A s.heap H locs → lv_has ls 8 [] → W p l e (headSpec ow_dm_X5_grow ({ frames := 1, cells := 0, slots := 0, locals := 27 })).room s m args below meth c H locs 0 0 Q (F0 m 38 ls [])
def dj_X5_grow_108 (p : Program) (l : Launch) (e : Env) (s : State) (m : MethodId) (args : Array Value) (below : List Frame) (meth : Method) (c : Code) (Q : State → Prop) (A : Nat → Prop) (dC : Nat → ClassId) (dI : Nat → Nat → Nat) (a : Nat → Nat) (ac : Nat → ClassId) (g : Int32 → Int32 → Int32 → Int32 → Int32 → (St × (St × (St × (St)))) → Option (Int64 × (St × (St × (St × (St)))))) (r : Int64 × (St × (St × (St × (St))))) : Prop := ∀ (x1 : Int32) (x2 : Int32) (x4 : Int32) (x5 : Int32) (x7 : Int32) (s0 : St × (St × (St × (St)))) (H : Heap) (locs : List Loc) (ls : Array Slot), g x1 x2 x4 x5 x7 s0 = some r → va_P (dC, dI) vwCl (dw_X5 a ac s0) H → va_D A (dw_X5 a ac s0) → va_S A s.heap H locs → lv_has ls 8 [(0, .ref (a 0)), (1, .int x1), (2, .int x2), (4, .int x4), (5, .int x5), (7, .int x7)] → W p l e (headSpec ow_dm_X5_grow ({ frames := 1, cells := 0, slots := 0, locals := 27 })).room s m args below meth c H locs 0 0 Q (F0 m 108 ls [])
def dj_X5_grow_0 (p : Program) (l : Launch) (e : Env) (s : State) (m : MethodId) (args : Array Value) (below : List Frame) (meth : Method) (c : Code) (Q : State → Prop) (A : Nat → Prop) (dC : Nat → ClassId) (dI : Nat → Nat → Nat) (a : Nat → Nat) (ac : Nat → ClassId) (g : Int32 → Int32 → (St × (St × (St × (St)))) → Option (Int64 × (St × (St × (St × (St)))))) (r : Int64 × (St × (St × (St × (St))))) : Prop := ∀ (v0 : Int32) (v1 : Int32) (s0 : St × (St × (St × (St)))) (H : Heap) (locs : List Loc) (ls : Array Slot), g v0 v1 s0 = some r → va_P (dC, dI) vwCl (dw_X5 a ac s0) H → va_D A (dw_X5 a ac s0) → va_S A s.heap H locs → lv_has ls 8 [(0, .ref (a 0)), (1, .int v0), (2, .int v1)] → W p l e (headSpec ow_dm_X5_grow ({ frames := 1, cells := 0, slots := 0, locals := 27 })).room s m args below meth c H locs 0 0 Q (F0 m 0 ls [])
set_option maxHeartbeats 40000000 in
set_option maxRecDepth 100000 in
theorem db_X5_grow_38 {p : Program} {l : Launch} {e : Env} {s : State} {m : MethodId} {args : Array Value} {below : List Frame} {meth : Method} {c : Code} {Q : State → Prop} {A : Nat → Prop} {dC : Nat → ClassId} {dI : Nat → Nat → Nat} {a : Nat → Nat} {ac : Nat → ClassId} {n : Nat} {r : Int64 × (St × (St × (St × (St))))} (C : nd_C p l s m args c A (dC, dI) cX5_grow 8 RX5 ow_dm_X5_grow (dk_X5 ac)) (K : nd_Kl p l e (headSpec ow_dm_X5_grow ({ frames := 1, cells := 0, slots := 0, locals := 27 })).room s m args below meth c Q A (dC, dI) cX5_grow (St × (St × (St × (St)))) (dw_X5 a ac) r) : dj_X5_grow_38 p l e s m args below meth c Q A dC dI a ac (df_X5_grow_38 n) r := by
  obtain ⟨hlt, hx, hb, hml, hown, hts, hN, hA, hK⟩ := id C
  intro s0 H locs ls h hP hD hS hl
  unfold df_X5_grow_38 at h
  refine lv_ldc2 hx hb hown (hts (.constantLong RX5 251 (-22)) (List.mem_of_getElem? (i := 2) rfl)) dX5_grow_38 ?_
  exact K _ _ _ _ _ _ dX5_grow_41 (Option.some.inj h).symm hP hD hS
set_option maxHeartbeats 40000000 in
set_option maxRecDepth 100000 in
theorem dB_X5_grow_108 {p : Program} {l : Launch} {e : Env} {s : State} {m : MethodId} {args : Array Value} {below : List Frame} {meth : Method} {c : Code} {Q : State → Prop} {A : Nat → Prop} {dC : Nat → ClassId} {dI : Nat → Nat → Nat} {a : Nat → Nat} {ac : Nat → ClassId} {n : Nat} {r : Int64 × (St × (St × (St × (St))))} (C : nd_C p l s m args c A (dC, dI) cX5_grow 8 RX5 ow_dm_X5_grow (dk_X5 ac)) (K : nd_Kl p l e (headSpec ow_dm_X5_grow ({ frames := 1, cells := 0, slots := 0, locals := 27 })).room s m args below meth c Q A (dC, dI) cX5_grow (St × (St × (St × (St)))) (dw_X5 a ac) r) {g108 : Int32 → Int32 → Int32 → Int32 → Int32 → (St × (St × (St × (St)))) → Option (Int64 × (St × (St × (St × (St)))))} (J108 : dj_X5_grow_108 p l e s m args below meth c Q A dC dI a ac g108 r) : dj_X5_grow_108 p l e s m args below meth c Q A dC dI a ac (dF_X5_grow_108 n g108) r := by
  obtain ⟨hlt, hx, hb, hml, hown, hts, hN, hA, hK⟩ := id C
  intro x1 x2 x4 x5 x7 s0 H locs ls h hP hD hS hl
  unfold dF_X5_grow_108 at h
  refine lv_iload hx hb dX5_grow_108 (lv_at hl 5 rfl) ?_
  refine lv_iload hx hb dX5_grow_110 (lv_at hl 4 rfl) ?_
  refine lv_icmp_ge (tgt := 131) hx hb dX5_grow_112 (by decide) (fun c18 => ?_) (fun c18 => ?_)
  · have h := nd_pos h c18
    refine lv_aload_n hx hb dX5_grow_131 rfl (lv_at hl 0 rfl) ?_
    refine va_get (D := (dC, dI)) (ci := 6) (v := .ref (a 11)) (C := RX5) (T := TX5) (N := 8) hx hb hts hi_dm_X5_grow_X5 hown hK hP 0 rfl rfl 3 (by decide) (hts (.fieldLink RX5 37 "TimeMachine$Kernel" "self" "[I") (List.mem_of_getElem? (i := 1) rfl)) (fun _ h9 => h9) rfl dX5_grow_132 ?_
    refine lv_iload_n hx hb dX5_grow_135 rfl (lv_at hl 1 rfl) ?_
    refine lv_bipush (v := 7) hx hb dX5_grow_136 (by decide) ?_
    refine lv_imul hx hb dX5_grow_138 ?_
    refine lv_bipush (v := 6) hx hb dX5_grow_139 (by decide) ?_
    refine lv_iadd hx hb dX5_grow_141 ?_
    refine lv_iload_n hx hb dX5_grow_142 rfl (lv_at hl 2 rfl) ?_
    obtain ⟨i19, h⟩ := nd_ck_e h
    refine va_iast (i := ((x1 * 7) + 6)) (x := x2) hx hb hK hP hD hS 11 8 rfl rfl i19 dX5_grow_143 (fun H locs hP hD hS => ?_)
    obtain ⟨s20, es20, h⟩ := nd_let_e h
    have hP : va_P (dC, dI) vwCl (dw_X5 a ac s20) H := by rw [es20]; exact hP
    have hD : va_D A (dw_X5 a ac s20) := by rw [es20]; exact hD
    refine lv_iload hx hb dX5_grow_144 (lv_at hl 3 rfl) ?_
    refine lv_i2l hx hb dX5_grow_146 rfl ?_
    exact K _ _ _ _ _ _ dX5_grow_147 (Option.some.inj h).symm hP hD hS
  · have h := nd_neg h c18
    refine lv_aload_n hx hb dX5_grow_115 rfl (lv_at hl 0 rfl) ?_
    refine va_get (D := (dC, dI)) (ci := 6) (v := .ref (a 4)) (C := RX5) (T := TX5) (N := 8) hx hb hts hi_dm_X5_grow_X5 hown hK hP 0 rfl rfl 0 (by decide) (hts (.fieldLink RX5 18 "TimeMachine$Kernel" "machine" "LTimeMachine$Machine;") (List.mem_of_getElem? (i := 4) rfl)) (fun _ h9 => h9) rfl dX5_grow_116 ?_
    refine lv_iload_n hx hb dX5_grow_119 rfl (lv_at hl 1 rfl) ?_
    refine lv_iload hx hb dX5_grow_120 (lv_at hl 5 rfl) ?_
    obtain ⟨s22, hq, h⟩ := nd_b1_e h
    have hPc := dp_X5_4 hP
    have hDc := dd_X5_4 hD
    have hKc := dy_X5_4 hK
    have hFc := nd_rs hDc hS hA
    have hzA : ∀ q : Nat, H.size ≤ q → A q := fun q h => hA q (Nat.le_trans hS.1 h)
    refine nd_cVv (As := [.int x1, .int x7]) (rest := []) (w' := dw_X6 (fun k => a (k + 4)) (fun k => ac (k + 4)) s22) ⟨hx, hb, hml, hown, hts⟩ (fun sz => dm_X6_dropPage l hlt dC dI (fun k => a (k + 4)) (fun k => ac (k + 4)) n (x1) (x7) s0.2.2 hq sz) (cwV 2 hts gi_dm_X5_grow_2 rfl rfl rfl (by decide +kernel) ⟨Nat.le_of_ble_eq_true rfl, Nat.le_of_ble_eq_true rfl⟩) hPc hDc hKc hS hA hN (va_recv hKc hPc (ci := 7) (q0 := 0) rfl rfl) rfl hl.1 rfl (Nat.le_of_ble_eq_true rfl) dX5_grow_122 (fun H locs hP1 hD1 hk1 hS => ?_)
    obtain ⟨hP, hD⟩ := dn_X5_4 hP hD hzA hk1 hP1 hD1
    obtain ⟨s24, es24, h⟩ := nd_let_e h
    have hP : va_P (dC, dI) vwCl (dw_X5 a ac s24) H := by rw [es24]; exact hP
    have hD : va_D A (dw_X5 a ac s24) := by rw [es24]; exact hD
    obtain ⟨z25, ez25, h⟩ := nd_let_e h
    refine lv_iinc (v := z25) (lv' := [(7, .int z25), (0, .ref (a 0)), (1, .int x1), (2, .int x2), (4, .int x4), (5, .int x5)]) hx hb dX5_grow_125 hl (k := 5) rfl (by rw [ez25]) (by decide) rfl (fun ls hl => ?_)
    refine lv_goto (tgt := 108) hx hb dX5_grow_128 (by decide) ?_
    exact (J108) (x1) (x2) (x4) (x5) (z25) s24 _ _ _ h hP hD hS (lv_sub hl [1, 2, 3, 4, 5, 0] rfl)
set_option maxHeartbeats 40000000 in
set_option maxRecDepth 100000 in
theorem db_X5_grow_108 {p : Program} {l : Launch} {e : Env} {s : State} {m : MethodId} {args : Array Value} {below : List Frame} {meth : Method} {c : Code} {Q : State → Prop} {A : Nat → Prop} {dC : Nat → ClassId} {dI : Nat → Nat → Nat} {a : Nat → Nat} {ac : Nat → ClassId} {n : Nat} {r : Int64 × (St × (St × (St × (St))))} (C : nd_C p l s m args c A (dC, dI) cX5_grow 8 RX5 ow_dm_X5_grow (dk_X5 ac)) (K : nd_Kl p l e (headSpec ow_dm_X5_grow ({ frames := 1, cells := 0, slots := 0, locals := 27 })).room s m args below meth c Q A (dC, dI) cX5_grow (St × (St × (St × (St)))) (dw_X5 a ac) r) (k : Nat) : dj_X5_grow_108 p l e s m args below meth c Q A dC dI a ac (df_X5_grow_108 n k) r := by
  induction k with
  | zero => intro x1 x2 x4 x5 x7 s0 H locs ls h; exact nomatch (show (none : Option (Int64 × (St × (St × (St × (St)))))) = some r from h)
  | succ k ih => exact dB_X5_grow_108 C K ih
set_option maxHeartbeats 40000000 in
set_option maxRecDepth 100000 in
theorem db_X5_grow_0 {p : Program} {l : Launch} {e : Env} {s : State} {m : MethodId} {args : Array Value} {below : List Frame} {meth : Method} {c : Code} {Q : State → Prop} {A : Nat → Prop} {dC : Nat → ClassId} {dI : Nat → Nat → Nat} {a : Nat → Nat} {ac : Nat → ClassId} {n : Nat} {r : Int64 × (St × (St × (St × (St))))} (C : nd_C p l s m args c A (dC, dI) cX5_grow 8 RX5 ow_dm_X5_grow (dk_X5 ac)) (K : nd_Kl p l e (headSpec ow_dm_X5_grow ({ frames := 1, cells := 0, slots := 0, locals := 27 })).room s m args below meth c Q A (dC, dI) cX5_grow (St × (St × (St × (St)))) (dw_X5 a ac) r) : dj_X5_grow_0 p l e s m args below meth c Q A dC dI a ac (df_X5_grow_0 n) r := by
  obtain ⟨hlt, hx, hb, hml, hown, hts, hN, hA, hK⟩ := id C
  intro v0 v1 s0 H locs ls h hP hD hS hl
  unfold df_X5_grow_0 at h
  refine lv_aload_n hx hb dX5_grow_0 rfl (lv_at hl 0 rfl) ?_
  refine va_get (D := (dC, dI)) (ci := 6) (v := .ref (a 11)) (C := RX5) (T := TX5) (N := 8) hx hb hts hi_dm_X5_grow_X5 hown hK hP 0 rfl rfl 3 (by decide) (hts (.fieldLink RX5 37 "TimeMachine$Kernel" "self" "[I") (List.mem_of_getElem? (i := 1) rfl)) (fun _ h9 => h9) rfl dX5_grow_1 ?_
  refine lv_iload_n hx hb dX5_grow_4 rfl (lv_at hl 1 rfl) ?_
  refine lv_bipush (v := 7) hx hb dX5_grow_5 (by decide) ?_
  refine lv_imul hx hb dX5_grow_7 ?_
  refine lv_iconst (v := 5) hx hb dX5_grow_8 (by decide) ?_
  refine lv_iadd hx hb dX5_grow_9 ?_
  obtain ⟨i1, h⟩ := nd_ck_e h
  refine va_iald (i := ((v0 * 7) + 5)) hx hb hK hP 11 8 rfl rfl i1 dX5_grow_10 ?_
  refine lv_topi (fun z2 ez2 => ?_)
  have h := nd_at h ez2
  refine lv_istore_n (lv' := [(3, .int z2), (0, .ref (a 0)), (1, .int v0), (2, .int v1)]) hx hb dX5_grow_11 rfl hl (by decide) rfl (fun ls hl => ?_)
  refine lv_aload_n hx hb dX5_grow_12 rfl (lv_at hl 1 rfl) ?_
  refine va_get (D := (dC, dI)) (ci := 6) (v := .ref (a 11)) (C := RX5) (T := TX5) (N := 8) hx hb hts hi_dm_X5_grow_X5 hown hK hP 0 rfl rfl 3 (by decide) (hts (.fieldLink RX5 37 "TimeMachine$Kernel" "self" "[I") (List.mem_of_getElem? (i := 1) rfl)) (fun _ h9 => h9) rfl dX5_grow_13 ?_
  refine lv_iload_n hx hb dX5_grow_16 rfl (lv_at hl 2 rfl) ?_
  refine lv_bipush (v := 7) hx hb dX5_grow_17 (by decide) ?_
  refine lv_imul hx hb dX5_grow_19 ?_
  refine lv_bipush (v := 6) hx hb dX5_grow_20 (by decide) ?_
  refine lv_iadd hx hb dX5_grow_22 ?_
  obtain ⟨i3, h⟩ := nd_ck_e h
  refine va_iald (i := ((v0 * 7) + 6)) hx hb hK hP 11 8 rfl rfl i3 dX5_grow_23 ?_
  refine lv_topi (fun z4 ez4 => ?_)
  have h := nd_at h ez4
  refine lv_istore (lv' := [(4, .int z4), (3, .int z2), (0, .ref (a 0)), (1, .int v0), (2, .int v1)]) hx hb dX5_grow_24 hl (by decide) rfl (fun ls hl => ?_)
  refine lv_iload_n hx hb dX5_grow_26 rfl (lv_at hl 4 rfl) ?_
  refine lv_iload_n hx hb dX5_grow_27 rfl (lv_at hl 1 rfl) ?_
  refine lv_icmp_lt (tgt := 38) hx hb dX5_grow_28 (by decide) (fun c5 => ?_) (fun c5 => ?_)
  · have h := nd_pos h c5
    exact (db_X5_grow_38 C K)  s0 _ _ _ h hP hD hS (lv_sub hl [] rfl)
  · have h := nd_neg h c5
    refine lv_iload_n hx hb dX5_grow_31 rfl (lv_at hl 4 rfl) ?_
    refine lv_ldcw hx hb hown (hts (.constant RX5 372 (60416)) (List.mem_of_getElem? (i := 3) rfl)) dX5_grow_32 ?_
    refine lv_icmp_le (tgt := 42) hx hb dX5_grow_35 (by decide) (fun c6 => ?_) (fun c6 => ?_)
    · have h := nd_pos h c6
      refine lv_iload hx hb dX5_grow_42 (lv_at hl 0 rfl) ?_
      refine lv_sipush (v := 1024) hx hb dX5_grow_44 (by decide) ?_
      refine lv_iadd hx hb dX5_grow_47 ?_
      refine lv_iconst (v := 1) hx hb dX5_grow_48 (by decide) ?_
      refine lv_isub hx hb dX5_grow_49 ?_
      refine lv_sipush (v := 1024) hx hb dX5_grow_50 (by decide) ?_
      refine lv_idiv hx hb dX5_grow_53 (by decide) ?_
      refine lv_topi (fun z7 ez7 => ?_)
      have h := nd_at h ez7
      refine lv_istore (lv' := [(5, .int z7), (4, .int z4), (3, .int z2), (0, .ref (a 0)), (1, .int v0), (2, .int v1)]) hx hb dX5_grow_54 hl (by decide) rfl (fun ls hl => ?_)
      refine lv_iload_n hx hb dX5_grow_56 rfl (lv_at hl 5 rfl) ?_
      refine lv_sipush (v := 1024) hx hb dX5_grow_57 (by decide) ?_
      refine lv_iadd hx hb dX5_grow_60 ?_
      refine lv_iconst (v := 1) hx hb dX5_grow_61 (by decide) ?_
      refine lv_isub hx hb dX5_grow_62 ?_
      refine lv_sipush (v := 1024) hx hb dX5_grow_63 (by decide) ?_
      refine lv_idiv hx hb dX5_grow_66 (by decide) ?_
      refine lv_topi (fun z8 ez8 => ?_)
      have h := nd_at h ez8
      refine lv_istore (lv' := [(6, .int z8), (5, .int z7), (4, .int z4), (3, .int z2), (0, .ref (a 0)), (1, .int v0), (2, .int v1)]) hx hb dX5_grow_67 hl (by decide) rfl (fun ls hl => ?_)
      refine lv_iload hx hb dX5_grow_69 (lv_at hl 0 rfl) ?_
      refine lv_iload hx hb dX5_grow_71 (lv_at hl 1 rfl) ?_
      refine lv_isub hx hb dX5_grow_73 ?_
      refine lv_aload_n hx hb dX5_grow_74 rfl (lv_at hl 4 rfl) ?_
      refine va_get (D := (dC, dI)) (ci := 6) (v := .ref (a 4)) (C := RX5) (T := TX5) (N := 8) hx hb hts hi_dm_X5_grow_X5 hown hK hP 0 rfl rfl 0 (by decide) (hts (.fieldLink RX5 18 "TimeMachine$Kernel" "machine" "LTimeMachine$Machine;") (List.mem_of_getElem? (i := 4) rfl)) (fun _ h9 => h9) rfl dX5_grow_75 ?_
      obtain ⟨q9, s10, hq, h⟩ := nd_b2_e h
      have hPc := dp_X5_4 hP
      have hDc := dd_X5_4 hD
      have hKc := dy_X5_4 hK
      have hFc := nd_rs hDc hS hA
      have hzA : ∀ q : Nat, H.size ≤ q → A q := fun q h => hA q (Nat.le_trans hS.1 h)
      refine nd_cVi (As := []) (rest := [.int (z8 - z7)]) (q := q9) (w' := dw_X6 (fun k => a (k + 4)) (fun k => ac (k + 4)) s10) ⟨hx, hb, hml, hown, hts⟩ (fun sz => dm_X6_framesFree l hlt dC dI (fun k => a (k + 4)) (fun k => ac (k + 4)) n  s0.2.2 hq sz) (cwV 0 hts gi_dm_X5_grow_0 rfl rfl rfl (by decide +kernel) ⟨Nat.le_of_ble_eq_true rfl, Nat.le_of_ble_eq_true rfl⟩) hPc hDc hKc hS hA hN (va_recv hKc hPc (ci := 7) (q0 := 0) rfl rfl) rfl hl.1 rfl (Nat.le_of_ble_eq_true rfl) dX5_grow_78 (fun H locs hP1 hD1 hk1 hS => ?_)
      obtain ⟨hP, hD⟩ := dn_X5_4 hP hD hzA hk1 hP1 hD1
      obtain ⟨s12, es12, h⟩ := nd_let_e h
      have hP : va_P (dC, dI) vwCl (dw_X5 a ac s12) H := by rw [es12]; exact hP
      have hD : va_D A (dw_X5 a ac s12) := by rw [es12]; exact hD
      refine lv_icmp_le (tgt := 88) hx hb dX5_grow_81 (by decide) (fun c13 => ?_) (fun c13 => ?_)
      · have h := nd_pos h c13
        refine lv_aload_n hx hb dX5_grow_88 rfl (lv_at hl 4 rfl) ?_
        refine va_get (D := (dC, dI)) (ci := 6) (v := .ref (a 4)) (C := RX5) (T := TX5) (N := 8) hx hb hts hi_dm_X5_grow_X5 hown hK hP 0 rfl rfl 0 (by decide) (hts (.fieldLink RX5 18 "TimeMachine$Kernel" "machine" "LTimeMachine$Machine;") (List.mem_of_getElem? (i := 4) rfl)) (fun _ h9 => h9) rfl dX5_grow_89 ?_
        refine lv_iload_n hx hb dX5_grow_92 rfl (lv_at hl 5 rfl) ?_
        refine lv_iload hx hb dX5_grow_93 (lv_at hl 1 rfl) ?_
        refine lv_iload hx hb dX5_grow_95 (lv_at hl 0 rfl) ?_
        refine lv_iload hx hb dX5_grow_97 (lv_at hl 1 rfl) ?_
        refine lv_isub hx hb dX5_grow_99 ?_
        refine lv_iconst (v := 3) hx hb dX5_grow_100 (by decide) ?_
        obtain ⟨s15, hq, h⟩ := nd_b1_e h
        have hPc := dp_X5_4 hP
        have hDc := dd_X5_4 hD
        have hKc := dy_X5_4 hK
        have hFc := nd_rs hDc hS hA
        have hzA : ∀ q : Nat, H.size ≤ q → A q := fun q h => hA q (Nat.le_trans hS.1 h)
        refine nd_cVv (As := [.int v0, .int z7, .int (z8 - z7), .int 3]) (rest := []) (w' := dw_X6 (fun k => a (k + 4)) (fun k => ac (k + 4)) s15) ⟨hx, hb, hml, hown, hts⟩ (fun sz => dm_X6_addPages l hlt dC dI (fun k => a (k + 4)) (fun k => ac (k + 4)) n (v0) (z7) ((z8 - z7)) (3) s12.2.2 hq sz) (cwV 4 hts gi_dm_X5_grow_1 rfl rfl rfl (by decide +kernel) ⟨Nat.le_of_ble_eq_true rfl, Nat.le_of_ble_eq_true rfl⟩) hPc hDc hKc hS hA hN (va_recv hKc hPc (ci := 7) (q0 := 0) rfl rfl) rfl hl.1 rfl (Nat.le_of_ble_eq_true rfl) dX5_grow_101 (fun H locs hP1 hD1 hk1 hS => ?_)
        obtain ⟨hP, hD⟩ := dn_X5_4 hP hD hzA hk1 hP1 hD1
        obtain ⟨s17, es17, h⟩ := nd_let_e h
        have hP : va_P (dC, dI) vwCl (dw_X5 a ac s17) H := by rw [es17]; exact hP
        have hD : va_D A (dw_X5 a ac s17) := by rw [es17]; exact hD
        refine lv_iload hx hb dX5_grow_104 (lv_at hl 0 rfl) ?_
        refine lv_istore (lv' := [(7, .int z8), (6, .int z8), (5, .int z7), (4, .int z4), (3, .int z2), (0, .ref (a 0)), (1, .int v0), (2, .int v1)]) hx hb dX5_grow_106 hl (by decide) rfl (fun ls hl => ?_)
        exact (db_X5_grow_108 C K n) (v0) (v1) (z4) (z7) (z8) s17 _ _ _ h hP hD hS (lv_sub hl [5, 6, 7, 3, 2, 0] rfl)
      · have h := nd_neg h c13
        refine lv_ldc2 hx hb hown (hts (.constantLong RX5 228 (-4)) (List.mem_of_getElem? (i := 15) rfl)) dX5_grow_84 ?_
        exact K _ _ _ _ _ _ dX5_grow_87 (Option.some.inj h).symm hP hD hS
    · have h := nd_neg h c6
      exact (db_X5_grow_38 C K)  s0 _ _ _ h hP hD hS (lv_sub hl [] rfl)
set_option maxHeartbeats 40000000 in
set_option maxRecDepth 100000 in
theorem dm_X5_grow (l : Launch) (hlt : l.stackTraces = false) (dC : Nat → ClassId) (dI : Nat → Nat → Nat) (a : Nat → Nat) (ac : Nat → ClassId) (n : Nat) (v0 : Int32) (v1 : Int32) (s0 : St × (St × (St × (St)))) {r : Int64 × (St × (St × (St × (St))))} (h : df_X5_grow n v0 v1 s0 = some r) (sz : Nat) : Met l yX5_grow ow_dm_X5_grow ({ frames := 1, cells := 0, slots := 0, locals := 27 }) (va_Pc [.ref (a 0), .int v0, .int v1] (fun U => U.heap.size = sz ∧ va_P (dC, dI) vwCl (dw_X5 a ac s0) U.heap ∧ va_K (dC, dI) vwCl (dk_X5 ac) U ∧ va_D (fun _ => True) (dw_X5 a ac s0) ∧ nv_E dI (va_A (dw_X5 a ac s0) sz) U)) (va_Ql (fun x _ => x = r.1) (fun (_ : Unit) t => va_P (dC, dI) vwCl (dw_X5 a ac r.2) t.heap ∧ va_K (dC, dI) vwCl (dk_X5 ac) t ∧ va_D (va_A (dw_X5 a ac s0) sz) (dw_X5 a ac r.2)) (va_A (dw_X5 a ac s0) sz)) 0 0 (va_A (dw_X5 a ac s0) sz) := by
  refine Met.ofW (cc := cX5_grow) (maxL := 8) (ret := (some .long)) (by decide) rfl ?_
  intro p e s m args below meth c s₁ B hml hv
  obtain ⟨rfl, hsz, hP, hK, hD0, hN⟩ := hv
  have hx := B.exec
  have hb := B.bytes
  have hr := B.returns
  have hts := atoms_spec (ws := ow_dm_X5_grow) B.pre
  have hown : s.vm.findClass RX5 = some m.cls := findClass_of_methodNamed B.named
  have hlocks := B.notSynchronized
  subst hsz
  have hD := hD0.self (sz := s.heap.size)
  generalize hAe : va_A (dw_X5 a ac s0) s.heap.size = A at hD hN ⊢
  have hA : ∀ q : Nat, s.heap.size ≤ q → A q := fun q h => by rw [← hAe]; exact Or.inr h
  have hl := lv_entry ([.ref (a 0), .int v0, .int v1]) (n := 8) (Nat.le_of_ble_eq_true rfl)
  rw [lg_entry_eq]
  generalize (lg_sl ([.ref (a 0), .int v0, .int v1]) ++ List.replicate (8 - (lg_sl ([.ref (a 0), .int v0, .int v1])).length) Slot.unset).toArray = ls at hl ⊢
  have hl : lv_has ls 8 [(0, .ref (a 0)), (1, .int v0), (2, .int v1)] := hl
  exact db_X5_grow_0 (dC := dC) (dI := dI) (a := a) (ac := ac) (n := n) (r := r) ⟨hlt, hx, hb, hml, hown, hts, hN, hA, hK⟩ (fun pc v τ H locs ls d er hP hD hS => by subst er; exact W.lret (v := v) hx hb hr (fun t ht hW => ⟨⟨v, (), rfl, rfl, by rw [ht]; exact hP, va_K.moved hW.alike hK, hD⟩, hS.F ht⟩) hS.2.2 d) v0 v1 s0 _ _ _ h hP hD va_S.rf (lv_sub hl [0, 1, 2] rfl)
def ow_dm_X5_signal : List Cond := Cond.code yX5_signal cX5_signal 3 (some .long) :: ([Cond.constantLong RX5 251 (-22), Cond.fieldLink RX5 18 "TimeMachine$Kernel" "machine" "LTimeMachine$Machine;", Cond.methodLink RX5 105 yX6_status, Cond.instanceMethod yX6_status, Cond.selects RX6 yX6_status yX6_status, Cond.initialized RX6, Cond.constantLong RX5 246 (-10), Cond.fieldLink RX5 37 "TimeMachine$Kernel" "self" "[I"] ++ (u_ws RX5 TX5 8 ++ (ow_dm_X6_status ++ [])))
theorem gd_dm_X5_signal : ∀ w ∈ ow_dm_X5_signal, (w.onTables && w.keeps) = true ∨ ∃ ty, w = Cond.arrayClass ty := List.forall_mem_cons.mpr ⟨good_of_word rfl, List.forall_mem_append.mpr ⟨fun w h => good_of_word (List.all_eq_true.mp (by decide +kernel) w h), List.forall_mem_append.mpr ⟨gu_X5, List.forall_mem_append.mpr ⟨gd_dm_X6_status, fun _ h => nomatch h⟩⟩⟩⟩
theorem hi_dm_X5_signal_X5 : ∀ w ∈ u_ws RX5 TX5 8, w ∈ ow_dm_X5_signal := fun w h => List.mem_cons_of_mem _ (List.mem_append_right _ (List.mem_append_left _ h))
theorem gi_dm_X5_signal_0 : GoodIn ow_dm_X5_signal (wsV RX5 105 RX6 yX6_status ow_dm_X6_status) := goodIn_app (goodIn_of _ (by decide +kernel)) (fun w h => ⟨List.mem_cons_of_mem _ (List.mem_append_right _ (List.mem_append_right _ (List.mem_append_left _ h))), gd_dm_X6_status w h⟩)
def dj_X5_signal_21 (p : Program) (l : Launch) (e : Env) (s : State) (m : MethodId) (args : Array Value) (below : List Frame) (meth : Method) (c : Code) (Q : State → Prop) (A : Nat → Prop) (dC : Nat → ClassId) (dI : Nat → Nat → Nat) (a : Nat → Nat) (ac : Nat → ClassId) (g : (St × (St × (St × (St)))) → Option (Int64 × (St × (St × (St × (St)))))) (r : Int64 × (St × (St × (St × (St))))) : Prop := ∀ (s0 : St × (St × (St × (St)))) (H : Heap) (locs : List Loc) (ls : Array Slot), g s0 = some r → va_P (dC, dI) vwCl (dw_X5 a ac s0) H → va_D A (dw_X5 a ac s0) → va_S A s.heap H locs → lv_has ls 3 [] → W p l e (headSpec ow_dm_X5_signal ({ frames := 1, cells := 0, slots := 0, locals := 21 })).room s m args below meth c H locs 0 0 Q (F0 m 21 ls [])
def dj_X5_signal_48 (p : Program) (l : Launch) (e : Env) (s : State) (m : MethodId) (args : Array Value) (below : List Frame) (meth : Method) (c : Code) (Q : State → Prop) (A : Nat → Prop) (dC : Nat → ClassId) (dI : Nat → Nat → Nat) (a : Nat → Nat) (ac : Nat → ClassId) (g : (St × (St × (St × (St)))) → Option (Int64 × (St × (St × (St × (St)))))) (r : Int64 × (St × (St × (St × (St))))) : Prop := ∀ (s0 : St × (St × (St × (St)))) (H : Heap) (locs : List Loc) (ls : Array Slot), g s0 = some r → va_P (dC, dI) vwCl (dw_X5 a ac s0) H → va_D A (dw_X5 a ac s0) → va_S A s.heap H locs → lv_has ls 3 [] → W p l e (headSpec ow_dm_X5_signal ({ frames := 1, cells := 0, slots := 0, locals := 21 })).room s m args below meth c H locs 0 0 Q (F0 m 48 ls [])
def dj_X5_signal_0 (p : Program) (l : Launch) (e : Env) (s : State) (m : MethodId) (args : Array Value) (below : List Frame) (meth : Method) (c : Code) (Q : State → Prop) (A : Nat → Prop) (dC : Nat → ClassId) (dI : Nat → Nat → Nat) (a : Nat → Nat) (ac : Nat → ClassId) (g : Int32 → Int32 → (St × (St × (St × (St)))) → Option (Int64 × (St × (St × (St × (St)))))) (r : Int64 × (St × (St × (St × (St))))) : Prop := ∀ (v0 : Int32) (v1 : Int32) (s0 : St × (St × (St × (St)))) (H : Heap) (locs : List Loc) (ls : Array Slot), g v0 v1 s0 = some r → va_P (dC, dI) vwCl (dw_X5 a ac s0) H → va_D A (dw_X5 a ac s0) → va_S A s.heap H locs → lv_has ls 3 [(0, .ref (a 0)), (1, .int v0), (2, .int v1)] → W p l e (headSpec ow_dm_X5_signal ({ frames := 1, cells := 0, slots := 0, locals := 21 })).room s m args below meth c H locs 0 0 Q (F0 m 0 ls [])
set_option maxHeartbeats 40000000 in
set_option maxRecDepth 100000 in
theorem db_X5_signal_21 {p : Program} {l : Launch} {e : Env} {s : State} {m : MethodId} {args : Array Value} {below : List Frame} {meth : Method} {c : Code} {Q : State → Prop} {A : Nat → Prop} {dC : Nat → ClassId} {dI : Nat → Nat → Nat} {a : Nat → Nat} {ac : Nat → ClassId} {n : Nat} {r : Int64 × (St × (St × (St × (St))))} (C : nd_C p l s m args c A (dC, dI) cX5_signal 3 RX5 ow_dm_X5_signal (dk_X5 ac)) (K : nd_Kl p l e (headSpec ow_dm_X5_signal ({ frames := 1, cells := 0, slots := 0, locals := 21 })).room s m args below meth c Q A (dC, dI) cX5_signal (St × (St × (St × (St)))) (dw_X5 a ac) r) : dj_X5_signal_21 p l e s m args below meth c Q A dC dI a ac (df_X5_signal_21 n) r := by
  obtain ⟨hlt, hx, hb, hml, hown, hts, hN, hA, hK⟩ := id C
  intro s0 H locs ls h hP hD hS hl
  unfold df_X5_signal_21 at h
  refine lv_ldc2 hx hb hown (hts (.constantLong RX5 251 (-22)) (List.mem_of_getElem? (i := 1) rfl)) dX5_signal_21 ?_
  exact K _ _ _ _ _ _ dX5_signal_24 (Option.some.inj h).symm hP hD hS
set_option maxHeartbeats 40000000 in
set_option maxRecDepth 100000 in
theorem db_X5_signal_48 {p : Program} {l : Launch} {e : Env} {s : State} {m : MethodId} {args : Array Value} {below : List Frame} {meth : Method} {c : Code} {Q : State → Prop} {A : Nat → Prop} {dC : Nat → ClassId} {dI : Nat → Nat → Nat} {a : Nat → Nat} {ac : Nat → ClassId} {n : Nat} {r : Int64 × (St × (St × (St × (St))))} (C : nd_C p l s m args c A (dC, dI) cX5_signal 3 RX5 ow_dm_X5_signal (dk_X5 ac)) (K : nd_Kl p l e (headSpec ow_dm_X5_signal ({ frames := 1, cells := 0, slots := 0, locals := 21 })).room s m args below meth c Q A (dC, dI) cX5_signal (St × (St × (St × (St)))) (dw_X5 a ac) r) : dj_X5_signal_48 p l e s m args below meth c Q A dC dI a ac (df_X5_signal_48 n) r := by
  obtain ⟨hlt, hx, hb, hml, hown, hts, hN, hA, hK⟩ := id C
  intro s0 H locs ls h hP hD hS hl
  unfold df_X5_signal_48 at h
  refine lv_ldc2 hx hb hown (hts (.constantLong RX5 246 (-10)) (List.mem_of_getElem? (i := 7) rfl)) dX5_signal_48 ?_
  exact K _ _ _ _ _ _ dX5_signal_51 (Option.some.inj h).symm hP hD hS
set_option maxHeartbeats 40000000 in
set_option maxRecDepth 100000 in
theorem db_X5_signal_0 {p : Program} {l : Launch} {e : Env} {s : State} {m : MethodId} {args : Array Value} {below : List Frame} {meth : Method} {c : Code} {Q : State → Prop} {A : Nat → Prop} {dC : Nat → ClassId} {dI : Nat → Nat → Nat} {a : Nat → Nat} {ac : Nat → ClassId} {n : Nat} {r : Int64 × (St × (St × (St × (St))))} (C : nd_C p l s m args c A (dC, dI) cX5_signal 3 RX5 ow_dm_X5_signal (dk_X5 ac)) (K : nd_Kl p l e (headSpec ow_dm_X5_signal ({ frames := 1, cells := 0, slots := 0, locals := 21 })).room s m args below meth c Q A (dC, dI) cX5_signal (St × (St × (St × (St)))) (dw_X5 a ac) r) : dj_X5_signal_0 p l e s m args below meth c Q A dC dI a ac (df_X5_signal_0 n) r := by
  obtain ⟨hlt, hx, hb, hml, hown, hts, hN, hA, hK⟩ := id C
  intro v0 v1 s0 H locs ls h hP hD hS hl
  unfold df_X5_signal_0 at h
  refine lv_iload_n hx hb dX5_signal_0 rfl (lv_at hl 1 rfl) ?_
  refine lv_if_lt (tgt := 21) hx hb dX5_signal_1 (by decide) (fun c1 => ?_) (fun c1 => ?_)
  · have h := nd_pos h c1
    exact (db_X5_signal_21 C K)  s0 _ _ _ h hP hD hS (lv_sub hl [] rfl)
  · have h := nd_neg h c1
    refine lv_iload_n hx hb dX5_signal_4 rfl (lv_at hl 1 rfl) ?_
    refine lv_bipush (v := 16) hx hb dX5_signal_5 (by decide) ?_
    refine lv_icmp_ge (tgt := 21) hx hb dX5_signal_7 (by decide) (fun c2 => ?_) (fun c2 => ?_)
    · have h := nd_pos h c2
      exact (db_X5_signal_21 C K)  s0 _ _ _ h hP hD hS (lv_sub hl [] rfl)
    · have h := nd_neg h c2
      refine lv_iload_n hx hb dX5_signal_10 rfl (lv_at hl 2 rfl) ?_
      refine lv_iconst (v := 1) hx hb dX5_signal_11 (by decide) ?_
      refine lv_icmp_lt (tgt := 21) hx hb dX5_signal_12 (by decide) (fun c3 => ?_) (fun c3 => ?_)
      · have h := nd_pos h c3
        exact (db_X5_signal_21 C K)  s0 _ _ _ h hP hD hS (lv_sub hl [] rfl)
      · have h := nd_neg h c3
        refine lv_iload_n hx hb dX5_signal_15 rfl (lv_at hl 2 rfl) ?_
        refine lv_bipush (v := 16) hx hb dX5_signal_16 (by decide) ?_
        refine lv_icmp_lt (tgt := 25) hx hb dX5_signal_18 (by decide) (fun c4 => ?_) (fun c4 => ?_)
        · have h := nd_pos h c4
          refine lv_aload_n hx hb dX5_signal_25 rfl (lv_at hl 0 rfl) ?_
          refine va_get (D := (dC, dI)) (ci := 6) (v := .ref (a 4)) (C := RX5) (T := TX5) (N := 8) hx hb hts hi_dm_X5_signal_X5 hown hK hP 0 rfl rfl 0 (by decide) (hts (.fieldLink RX5 18 "TimeMachine$Kernel" "machine" "LTimeMachine$Machine;") (List.mem_of_getElem? (i := 2) rfl)) (fun _ h9 => h9) rfl dX5_signal_26 ?_
          refine lv_iload_n hx hb dX5_signal_29 rfl (lv_at hl 1 rfl) ?_
          obtain ⟨q5, s6, hq, h⟩ := nd_b2_e h
          have hPc := dp_X5_4 hP
          have hDc := dd_X5_4 hD
          have hKc := dy_X5_4 hK
          have hFc := nd_rs hDc hS hA
          have hzA : ∀ q : Nat, H.size ≤ q → A q := fun q h => hA q (Nat.le_trans hS.1 h)
          refine nd_cVi (As := [.int v0]) (rest := []) (q := q5) (w' := dw_X6 (fun k => a (k + 4)) (fun k => ac (k + 4)) s6) ⟨hx, hb, hml, hown, hts⟩ (fun sz => dm_X6_status l hlt dC dI (fun k => a (k + 4)) (fun k => ac (k + 4)) n (v0) s0.2.2 hq sz) (cwV 1 hts gi_dm_X5_signal_0 rfl rfl rfl (by decide +kernel) ⟨Nat.le_of_ble_eq_true rfl, Nat.le_of_ble_eq_true rfl⟩) hPc hDc hKc hS hA hN (va_recv hKc hPc (ci := 7) (q0 := 0) rfl rfl) rfl hl.1 rfl (Nat.le_of_ble_eq_true rfl) dX5_signal_30 (fun H locs hP1 hD1 hk1 hS => ?_)
          obtain ⟨hP, hD⟩ := dn_X5_4 hP hD hzA hk1 hP1 hD1
          obtain ⟨s8, es8, h⟩ := nd_let_e h
          have hP : va_P (dC, dI) vwCl (dw_X5 a ac s8) H := by rw [es8]; exact hP
          have hD : va_D A (dw_X5 a ac s8) := by rw [es8]; exact hD
          refine lv_if_eq (tgt := 48) hx hb dX5_signal_33 (by decide) (fun c9 => ?_) (fun c9 => ?_)
          · have h := nd_pos h c9
            exact (db_X5_signal_48 C K)  s8 _ _ _ h hP hD hS (lv_sub hl [] rfl)
          · have h := nd_neg h c9
            refine lv_aload_n hx hb dX5_signal_36 rfl (lv_at hl 0 rfl) ?_
            refine va_get (D := (dC, dI)) (ci := 6) (v := .ref (a 4)) (C := RX5) (T := TX5) (N := 8) hx hb hts hi_dm_X5_signal_X5 hown hK hP 0 rfl rfl 0 (by decide) (hts (.fieldLink RX5 18 "TimeMachine$Kernel" "machine" "LTimeMachine$Machine;") (List.mem_of_getElem? (i := 2) rfl)) (fun _ h9 => h9) rfl dX5_signal_37 ?_
            refine lv_iload_n hx hb dX5_signal_40 rfl (lv_at hl 1 rfl) ?_
            obtain ⟨q10, s11, hq, h⟩ := nd_b2_e h
            have hPc := dp_X5_4 hP
            have hDc := dd_X5_4 hD
            have hKc := dy_X5_4 hK
            have hFc := nd_rs hDc hS hA
            have hzA : ∀ q : Nat, H.size ≤ q → A q := fun q h => hA q (Nat.le_trans hS.1 h)
            refine nd_cVi (As := [.int v0]) (rest := []) (q := q10) (w' := dw_X6 (fun k => a (k + 4)) (fun k => ac (k + 4)) s11) ⟨hx, hb, hml, hown, hts⟩ (fun sz => dm_X6_status l hlt dC dI (fun k => a (k + 4)) (fun k => ac (k + 4)) n (v0) s8.2.2 hq sz) (cwV 1 hts gi_dm_X5_signal_0 rfl rfl rfl (by decide +kernel) ⟨Nat.le_of_ble_eq_true rfl, Nat.le_of_ble_eq_true rfl⟩) hPc hDc hKc hS hA hN (va_recv hKc hPc (ci := 7) (q0 := 0) rfl rfl) rfl hl.1 rfl (Nat.le_of_ble_eq_true rfl) dX5_signal_41 (fun H locs hP1 hD1 hk1 hS => ?_)
            obtain ⟨hP, hD⟩ := dn_X5_4 hP hD hzA hk1 hP1 hD1
            obtain ⟨s13, es13, h⟩ := nd_let_e h
            have hP : va_P (dC, dI) vwCl (dw_X5 a ac s13) H := by rw [es13]; exact hP
            have hD : va_D A (dw_X5 a ac s13) := by rw [es13]; exact hD
            refine lv_iconst (v := 3) hx hb dX5_signal_44 (by decide) ?_
            refine lv_icmp_ne (tgt := 52) hx hb dX5_signal_45 (by decide) (fun c14 => ?_) (fun c14 => ?_)
            · have h := nd_neg h c14
              refine lv_aload_n hx hb dX5_signal_52 rfl (lv_at hl 0 rfl) ?_
              refine va_get (D := (dC, dI)) (ci := 6) (v := .ref (a 11)) (C := RX5) (T := TX5) (N := 8) hx hb hts hi_dm_X5_signal_X5 hown hK hP 0 rfl rfl 3 (by decide) (hts (.fieldLink RX5 37 "TimeMachine$Kernel" "self" "[I") (List.mem_of_getElem? (i := 8) rfl)) (fun _ h9 => h9) rfl dX5_signal_53 ?_
              refine lv_iload_n hx hb dX5_signal_56 rfl (lv_at hl 1 rfl) ?_
              refine lv_bipush (v := 7) hx hb dX5_signal_57 (by decide) ?_
              refine lv_imul hx hb dX5_signal_59 ?_
              refine lv_iconst (v := 3) hx hb dX5_signal_60 (by decide) ?_
              refine lv_iadd hx hb dX5_signal_61 ?_
              refine lv_dup2_11 hx hb dX5_signal_62 rfl rfl ?_
              obtain ⟨i15, h⟩ := nd_ck_e h
              refine va_iald (i := ((v0 * 7) + 3)) hx hb hK hP 11 8 rfl rfl i15 dX5_signal_63 ?_
              refine lv_iconst (v := 1) hx hb dX5_signal_64 (by decide) ?_
              refine lv_iload_n hx hb dX5_signal_65 rfl (lv_at hl 2 rfl) ?_
              refine lv_ishl hx hb dX5_signal_66 ?_
              refine lv_ior hx hb dX5_signal_67 ?_
              obtain ⟨i16, h⟩ := nd_ck_e h
              refine va_iast (i := ((v0 * 7) + 3)) (x := ((sR s13.2.2.1 6 (Int32.toNatClampNeg ((v0 * 7) + 3))) ||| ((1 : Int32) <<< ((v1 : Int32) &&& 31)))) hx hb hK hP hD hS 11 8 rfl rfl i16 dX5_signal_68 (fun H locs hP hD hS => ?_)
              obtain ⟨s17, es17, h⟩ := nd_let_e h
              have hP : va_P (dC, dI) vwCl (dw_X5 a ac s17) H := by rw [es17]; exact hP
              have hD : va_D A (dw_X5 a ac s17) := by rw [es17]; exact hD
              refine lv_lconst (v := 0) hx hb dX5_signal_69 (by decide) ?_
              exact K _ _ _ _ _ _ dX5_signal_70 (Option.some.inj h).symm hP hD hS
            · have h := nd_pos h c14
              exact (db_X5_signal_48 C K)  s13 _ _ _ h hP hD hS (lv_sub hl [] rfl)
        · have h := nd_neg h c4
          exact (db_X5_signal_21 C K)  s0 _ _ _ h hP hD hS (lv_sub hl [] rfl)
set_option maxHeartbeats 40000000 in
set_option maxRecDepth 100000 in
theorem dm_X5_signal (l : Launch) (hlt : l.stackTraces = false) (dC : Nat → ClassId) (dI : Nat → Nat → Nat) (a : Nat → Nat) (ac : Nat → ClassId) (n : Nat) (v0 : Int32) (v1 : Int32) (s0 : St × (St × (St × (St)))) {r : Int64 × (St × (St × (St × (St))))} (h : df_X5_signal n v0 v1 s0 = some r) (sz : Nat) : Met l yX5_signal ow_dm_X5_signal ({ frames := 1, cells := 0, slots := 0, locals := 21 }) (va_Pc [.ref (a 0), .int v0, .int v1] (fun U => U.heap.size = sz ∧ va_P (dC, dI) vwCl (dw_X5 a ac s0) U.heap ∧ va_K (dC, dI) vwCl (dk_X5 ac) U ∧ va_D (fun _ => True) (dw_X5 a ac s0) ∧ nv_E dI (va_A (dw_X5 a ac s0) sz) U)) (va_Ql (fun x _ => x = r.1) (fun (_ : Unit) t => va_P (dC, dI) vwCl (dw_X5 a ac r.2) t.heap ∧ va_K (dC, dI) vwCl (dk_X5 ac) t ∧ va_D (va_A (dw_X5 a ac s0) sz) (dw_X5 a ac r.2)) (va_A (dw_X5 a ac s0) sz)) 0 0 (va_A (dw_X5 a ac s0) sz) := by
  refine Met.ofW (cc := cX5_signal) (maxL := 3) (ret := (some .long)) (by decide) rfl ?_
  intro p e s m args below meth c s₁ B hml hv
  obtain ⟨rfl, hsz, hP, hK, hD0, hN⟩ := hv
  have hx := B.exec
  have hb := B.bytes
  have hr := B.returns
  have hts := atoms_spec (ws := ow_dm_X5_signal) B.pre
  have hown : s.vm.findClass RX5 = some m.cls := findClass_of_methodNamed B.named
  have hlocks := B.notSynchronized
  subst hsz
  have hD := hD0.self (sz := s.heap.size)
  generalize hAe : va_A (dw_X5 a ac s0) s.heap.size = A at hD hN ⊢
  have hA : ∀ q : Nat, s.heap.size ≤ q → A q := fun q h => by rw [← hAe]; exact Or.inr h
  have hl := lv_entry ([.ref (a 0), .int v0, .int v1]) (n := 3) (Nat.le_of_ble_eq_true rfl)
  rw [lg_entry_eq]
  generalize (lg_sl ([.ref (a 0), .int v0, .int v1]) ++ List.replicate (3 - (lg_sl ([.ref (a 0), .int v0, .int v1])).length) Slot.unset).toArray = ls at hl ⊢
  have hl : lv_has ls 3 [(0, .ref (a 0)), (1, .int v0), (2, .int v1)] := hl
  exact db_X5_signal_0 (dC := dC) (dI := dI) (a := a) (ac := ac) (n := n) (r := r) ⟨hlt, hx, hb, hml, hown, hts, hN, hA, hK⟩ (fun pc v τ H locs ls d er hP hD hS => by subst er; exact W.lret (v := v) hx hb hr (fun t ht hW => ⟨⟨v, (), rfl, rfl, by rw [ht]; exact hP, va_K.moved hW.alike hK, hD⟩, hS.F ht⟩) hS.2.2 d) v0 v1 s0 _ _ _ h hP hD va_S.rf (lv_sub hl [0, 1, 2] rfl)
def ow_dm_X5_handle : List Cond := Cond.code yX5_handle cX5_handle 5 (some .long) :: ([Cond.constantLong RX5 251 (-22), Cond.fieldLink RX5 18 "TimeMachine$Kernel" "machine" "LTimeMachine$Machine;", Cond.fieldLink RX5 86 "TimeMachine$Machine" "handler" "[I"] ++ (u_ws RX5 TX5 8 ++ (u_ws RX6 TX6 20 ++ [])))
theorem gd_dm_X5_handle : ∀ w ∈ ow_dm_X5_handle, (w.onTables && w.keeps) = true ∨ ∃ ty, w = Cond.arrayClass ty := List.forall_mem_cons.mpr ⟨good_of_word rfl, List.forall_mem_append.mpr ⟨fun w h => good_of_word (List.all_eq_true.mp (by decide +kernel) w h), List.forall_mem_append.mpr ⟨gu_X5, List.forall_mem_append.mpr ⟨gu_X6, fun _ h => nomatch h⟩⟩⟩⟩
theorem hi_dm_X5_handle_X5 : ∀ w ∈ u_ws RX5 TX5 8, w ∈ ow_dm_X5_handle := fun w h => List.mem_cons_of_mem _ (List.mem_append_right _ (List.mem_append_left _ h))
theorem hi_dm_X5_handle_X6 : ∀ w ∈ u_ws RX6 TX6 20, w ∈ ow_dm_X5_handle := fun w h => List.mem_cons_of_mem _ (List.mem_append_right _ (List.mem_append_right _ (List.mem_append_left _ h)))
def dj_X5_handle_17 (p : Program) (l : Launch) (e : Env) (s : State) (m : MethodId) (args : Array Value) (below : List Frame) (meth : Method) (c : Code) (Q : State → Prop) (A : Nat → Prop) (dC : Nat → ClassId) (dI : Nat → Nat → Nat) (a : Nat → Nat) (ac : Nat → ClassId) (g : (St × (St × (St × (St)))) → Option (Int64 × (St × (St × (St × (St)))))) (r : Int64 × (St × (St × (St × (St))))) : Prop := ∀ (s0 : St × (St × (St × (St)))) (H : Heap) (locs : List Loc) (ls : Array Slot), g s0 = some r → va_P (dC, dI) vwCl (dw_X5 a ac s0) H → va_D A (dw_X5 a ac s0) → va_S A s.heap H locs → lv_has ls 5 [] → W p l e (headSpec ow_dm_X5_handle ({ frames := 0, cells := 0, slots := 0, locals := 0 })).room s m args below meth c H locs 0 0 Q (F0 m 17 ls [])
def dj_X5_handle_0 (p : Program) (l : Launch) (e : Env) (s : State) (m : MethodId) (args : Array Value) (below : List Frame) (meth : Method) (c : Code) (Q : State → Prop) (A : Nat → Prop) (dC : Nat → ClassId) (dI : Nat → Nat → Nat) (a : Nat → Nat) (ac : Nat → ClassId) (g : Int32 → Int32 → Int32 → (St × (St × (St × (St)))) → Option (Int64 × (St × (St × (St × (St)))))) (r : Int64 × (St × (St × (St × (St))))) : Prop := ∀ (v0 : Int32) (v1 : Int32) (v2 : Int32) (s0 : St × (St × (St × (St)))) (H : Heap) (locs : List Loc) (ls : Array Slot), g v0 v1 v2 s0 = some r → va_P (dC, dI) vwCl (dw_X5 a ac s0) H → va_D A (dw_X5 a ac s0) → va_S A s.heap H locs → lv_has ls 5 [(0, .ref (a 0)), (1, .int v0), (2, .int v1), (3, .int v2)] → W p l e (headSpec ow_dm_X5_handle ({ frames := 0, cells := 0, slots := 0, locals := 0 })).room s m args below meth c H locs 0 0 Q (F0 m 0 ls [])
set_option maxHeartbeats 40000000 in
set_option maxRecDepth 100000 in
theorem db_X5_handle_17 {p : Program} {l : Launch} {e : Env} {s : State} {m : MethodId} {args : Array Value} {below : List Frame} {meth : Method} {c : Code} {Q : State → Prop} {A : Nat → Prop} {dC : Nat → ClassId} {dI : Nat → Nat → Nat} {a : Nat → Nat} {ac : Nat → ClassId} {n : Nat} {r : Int64 × (St × (St × (St × (St))))} (C : nd_C p l s m args c A (dC, dI) cX5_handle 5 RX5 ow_dm_X5_handle (dk_X5 ac)) (K : nd_Kl p l e (headSpec ow_dm_X5_handle ({ frames := 0, cells := 0, slots := 0, locals := 0 })).room s m args below meth c Q A (dC, dI) cX5_handle (St × (St × (St × (St)))) (dw_X5 a ac) r) : dj_X5_handle_17 p l e s m args below meth c Q A dC dI a ac (df_X5_handle_17 n) r := by
  obtain ⟨hlt, hx, hb, hml, hown, hts, hN, hA, hK⟩ := id C
  intro s0 H locs ls h hP hD hS hl
  unfold df_X5_handle_17 at h
  refine lv_ldc2 hx hb hown (hts (.constantLong RX5 251 (-22)) (List.mem_of_getElem? (i := 1) rfl)) dX5_handle_17 ?_
  exact K _ _ _ _ _ _ dX5_handle_20 (Option.some.inj h).symm hP hD hS
set_option maxHeartbeats 40000000 in
set_option maxRecDepth 100000 in
theorem db_X5_handle_0 {p : Program} {l : Launch} {e : Env} {s : State} {m : MethodId} {args : Array Value} {below : List Frame} {meth : Method} {c : Code} {Q : State → Prop} {A : Nat → Prop} {dC : Nat → ClassId} {dI : Nat → Nat → Nat} {a : Nat → Nat} {ac : Nat → ClassId} {n : Nat} {r : Int64 × (St × (St × (St × (St))))} (C : nd_C p l s m args c A (dC, dI) cX5_handle 5 RX5 ow_dm_X5_handle (dk_X5 ac)) (K : nd_Kl p l e (headSpec ow_dm_X5_handle ({ frames := 0, cells := 0, slots := 0, locals := 0 })).room s m args below meth c Q A (dC, dI) cX5_handle (St × (St × (St × (St)))) (dw_X5 a ac) r) : dj_X5_handle_0 p l e s m args below meth c Q A dC dI a ac (df_X5_handle_0 n) r := by
  obtain ⟨hlt, hx, hb, hml, hown, hts, hN, hA, hK⟩ := id C
  intro v0 v1 v2 s0 H locs ls h hP hD hS hl
  unfold df_X5_handle_0 at h
  refine lv_iload_n hx hb dX5_handle_0 rfl (lv_at hl 2 rfl) ?_
  refine lv_iconst (v := 1) hx hb dX5_handle_1 (by decide) ?_
  refine lv_icmp_lt (tgt := 17) hx hb dX5_handle_2 (by decide) (fun c1 => ?_) (fun c1 => ?_)
  · have h := nd_pos h c1
    exact (db_X5_handle_17 C K)  s0 _ _ _ h hP hD hS (lv_sub hl [] rfl)
  · have h := nd_neg h c1
    refine lv_iload_n hx hb dX5_handle_5 rfl (lv_at hl 2 rfl) ?_
    refine lv_bipush (v := 16) hx hb dX5_handle_6 (by decide) ?_
    refine lv_icmp_ge (tgt := 17) hx hb dX5_handle_8 (by decide) (fun c2 => ?_) (fun c2 => ?_)
    · have h := nd_pos h c2
      exact (db_X5_handle_17 C K)  s0 _ _ _ h hP hD hS (lv_sub hl [] rfl)
    · have h := nd_neg h c2
      refine lv_iload_n hx hb dX5_handle_11 rfl (lv_at hl 2 rfl) ?_
      refine lv_bipush (v := 9) hx hb dX5_handle_12 (by decide) ?_
      refine lv_icmp_ne (tgt := 21) hx hb dX5_handle_14 (by decide) (fun c3 => ?_) (fun c3 => ?_)
      · have h := nd_neg h c3
        refine lv_aload_n hx hb dX5_handle_21 rfl (lv_at hl 0 rfl) ?_
        refine va_get (D := (dC, dI)) (ci := 6) (v := .ref (a 4)) (C := RX5) (T := TX5) (N := 8) hx hb hts hi_dm_X5_handle_X5 hown hK hP 0 rfl rfl 0 (by decide) (hts (.fieldLink RX5 18 "TimeMachine$Kernel" "machine" "LTimeMachine$Machine;") (List.mem_of_getElem? (i := 2) rfl)) (fun _ h9 => h9) rfl dX5_handle_22 ?_
        refine va_get (D := (dC, dI)) (ci := 7) (v := .ref (a 10)) (C := RX6) (T := TX6) (N := 20) hx hb hts hi_dm_X5_handle_X6 hown hK hP 4 rfl rfl 6 (by decide) (hts (.fieldLink RX5 86 "TimeMachine$Machine" "handler" "[I") (List.mem_of_getElem? (i := 3) rfl)) (fun _ h9 => h9) rfl dX5_handle_25 ?_
        refine lv_iload_n hx hb dX5_handle_28 rfl (lv_at hl 1 rfl) ?_
        refine lv_bipush (v := 16) hx hb dX5_handle_29 (by decide) ?_
        refine lv_imul hx hb dX5_handle_31 ?_
        refine lv_iload_n hx hb dX5_handle_32 rfl (lv_at hl 2 rfl) ?_
        refine lv_iadd hx hb dX5_handle_33 ?_
        obtain ⟨i4, h⟩ := nd_ck_e h
        refine va_iald (i := ((v0 * 16) + v1)) hx hb hK hP 10 7 rfl rfl i4 dX5_handle_34 ?_
        refine lv_topi (fun z5 ez5 => ?_)
        have h := nd_at h ez5
        refine lv_istore (lv' := [(4, .int z5), (0, .ref (a 0)), (1, .int v0), (2, .int v1), (3, .int v2)]) hx hb dX5_handle_35 hl (by decide) rfl (fun ls hl => ?_)
        refine lv_aload_n hx hb dX5_handle_37 rfl (lv_at hl 1 rfl) ?_
        refine va_get (D := (dC, dI)) (ci := 6) (v := .ref (a 4)) (C := RX5) (T := TX5) (N := 8) hx hb hts hi_dm_X5_handle_X5 hown hK hP 0 rfl rfl 0 (by decide) (hts (.fieldLink RX5 18 "TimeMachine$Kernel" "machine" "LTimeMachine$Machine;") (List.mem_of_getElem? (i := 2) rfl)) (fun _ h9 => h9) rfl dX5_handle_38 ?_
        refine va_get (D := (dC, dI)) (ci := 7) (v := .ref (a 10)) (C := RX6) (T := TX6) (N := 20) hx hb hts hi_dm_X5_handle_X6 hown hK hP 4 rfl rfl 6 (by decide) (hts (.fieldLink RX5 86 "TimeMachine$Machine" "handler" "[I") (List.mem_of_getElem? (i := 3) rfl)) (fun _ h9 => h9) rfl dX5_handle_41 ?_
        refine lv_iload_n hx hb dX5_handle_44 rfl (lv_at hl 2 rfl) ?_
        refine lv_bipush (v := 16) hx hb dX5_handle_45 (by decide) ?_
        refine lv_imul hx hb dX5_handle_47 ?_
        refine lv_iload_n hx hb dX5_handle_48 rfl (lv_at hl 3 rfl) ?_
        refine lv_iadd hx hb dX5_handle_49 ?_
        refine lv_iload_n hx hb dX5_handle_50 rfl (lv_at hl 4 rfl) ?_
        obtain ⟨i6, h⟩ := nd_ck_e h
        refine va_iast (i := ((v0 * 16) + v1)) (x := v2) hx hb hK hP hD hS 10 7 rfl rfl i6 dX5_handle_51 (fun H locs hP hD hS => ?_)
        obtain ⟨s7, es7, h⟩ := nd_let_e h
        have hP : va_P (dC, dI) vwCl (dw_X5 a ac s7) H := by rw [es7]; exact hP
        have hD : va_D A (dw_X5 a ac s7) := by rw [es7]; exact hD
        refine lv_iload hx hb dX5_handle_52 (lv_at hl 0 rfl) ?_
        refine lv_i2l hx hb dX5_handle_54 rfl ?_
        exact K _ _ _ _ _ _ dX5_handle_55 (Option.some.inj h).symm hP hD hS
      · have h := nd_pos h c3
        exact (db_X5_handle_17 C K)  s0 _ _ _ h hP hD hS (lv_sub hl [] rfl)
set_option maxHeartbeats 40000000 in
set_option maxRecDepth 100000 in
theorem dm_X5_handle (l : Launch) (hlt : l.stackTraces = false) (dC : Nat → ClassId) (dI : Nat → Nat → Nat) (a : Nat → Nat) (ac : Nat → ClassId) (n : Nat) (v0 : Int32) (v1 : Int32) (v2 : Int32) (s0 : St × (St × (St × (St)))) {r : Int64 × (St × (St × (St × (St))))} (h : df_X5_handle n v0 v1 v2 s0 = some r) (sz : Nat) : Met l yX5_handle ow_dm_X5_handle ({ frames := 0, cells := 0, slots := 0, locals := 0 }) (va_Pc [.ref (a 0), .int v0, .int v1, .int v2] (fun U => U.heap.size = sz ∧ va_P (dC, dI) vwCl (dw_X5 a ac s0) U.heap ∧ va_K (dC, dI) vwCl (dk_X5 ac) U ∧ va_D (fun _ => True) (dw_X5 a ac s0) ∧ nv_E dI (va_A (dw_X5 a ac s0) sz) U)) (va_Ql (fun x _ => x = r.1) (fun (_ : Unit) t => va_P (dC, dI) vwCl (dw_X5 a ac r.2) t.heap ∧ va_K (dC, dI) vwCl (dk_X5 ac) t ∧ va_D (va_A (dw_X5 a ac s0) sz) (dw_X5 a ac r.2)) (va_A (dw_X5 a ac s0) sz)) 0 0 (va_A (dw_X5 a ac s0) sz) := by
  refine Met.ofW (cc := cX5_handle) (maxL := 5) (ret := (some .long)) (by decide) rfl ?_
  intro p e s m args below meth c s₁ B hml hv
  obtain ⟨rfl, hsz, hP, hK, hD0, hN⟩ := hv
  have hx := B.exec
  have hb := B.bytes
  have hr := B.returns
  have hts := atoms_spec (ws := ow_dm_X5_handle) B.pre
  have hown : s.vm.findClass RX5 = some m.cls := findClass_of_methodNamed B.named
  have hlocks := B.notSynchronized
  subst hsz
  have hD := hD0.self (sz := s.heap.size)
  generalize hAe : va_A (dw_X5 a ac s0) s.heap.size = A at hD hN ⊢
  have hA : ∀ q : Nat, s.heap.size ≤ q → A q := fun q h => by rw [← hAe]; exact Or.inr h
  have hl := lv_entry ([.ref (a 0), .int v0, .int v1, .int v2]) (n := 5) (Nat.le_of_ble_eq_true rfl)
  rw [lg_entry_eq]
  generalize (lg_sl ([.ref (a 0), .int v0, .int v1, .int v2]) ++ List.replicate (5 - (lg_sl ([.ref (a 0), .int v0, .int v1, .int v2])).length) Slot.unset).toArray = ls at hl ⊢
  have hl : lv_has ls 5 [(0, .ref (a 0)), (1, .int v0), (2, .int v1), (3, .int v2)] := hl
  exact db_X5_handle_0 (dC := dC) (dI := dI) (a := a) (ac := ac) (n := n) (r := r) ⟨hlt, hx, hb, hml, hown, hts, hN, hA, hK⟩ (fun pc v τ H locs ls d er hP hD hS => by subst er; exact W.lret (v := v) hx hb hr (fun t ht hW => ⟨⟨v, (), rfl, rfl, by rw [ht]; exact hP, va_K.moved hW.alike hK, hD⟩, hS.F ht⟩) hS.2.2 d) v0 v1 v2 s0 _ _ _ h hP hD va_S.rf (lv_sub hl [0, 1, 2, 3] rfl)
def ow_dm_X5_back : List Cond := Cond.code yX5_back cX5_back 2 (some .long) :: ([Cond.fieldLink RX5 37 "TimeMachine$Kernel" "self" "[I", Cond.fieldLink RX5 18 "TimeMachine$Kernel" "machine" "LTimeMachine$Machine;", Cond.fieldLink RX5 93 "TimeMachine$Machine" "saved" "[I", Cond.fieldLink RX5 33 "TimeMachine$Kernel" "reg" "[I", Cond.methodLink RX5 96 arraycopyName, .native arraycopyName, Cond.static arraycopyName, Cond.initialized "java/lang/System", Cond.constantLong RX5 159 (2199023255552), Cond.constantLong RX5 251 (-22)] ++ (u_ws RX5 TX5 8 ++ (u_ws RX6 TX6 20 ++ [])))
theorem gd_dm_X5_back : ∀ w ∈ ow_dm_X5_back, (w.onTables && w.keeps) = true ∨ ∃ ty, w = Cond.arrayClass ty := List.forall_mem_cons.mpr ⟨good_of_word rfl, List.forall_mem_append.mpr ⟨fun w h => good_of_word (List.all_eq_true.mp (by decide +kernel) w h), List.forall_mem_append.mpr ⟨gu_X5, List.forall_mem_append.mpr ⟨gu_X6, fun _ h => nomatch h⟩⟩⟩⟩
theorem hi_dm_X5_back_X5 : ∀ w ∈ u_ws RX5 TX5 8, w ∈ ow_dm_X5_back := fun w h => List.mem_cons_of_mem _ (List.mem_append_right _ (List.mem_append_left _ h))
theorem hi_dm_X5_back_X6 : ∀ w ∈ u_ws RX6 TX6 20, w ∈ ow_dm_X5_back := fun w h => List.mem_cons_of_mem _ (List.mem_append_right _ (List.mem_append_right _ (List.mem_append_left _ h)))
def dj_X5_back_0 (p : Program) (l : Launch) (e : Env) (s : State) (m : MethodId) (args : Array Value) (below : List Frame) (meth : Method) (c : Code) (Q : State → Prop) (A : Nat → Prop) (dC : Nat → ClassId) (dI : Nat → Nat → Nat) (a : Nat → Nat) (ac : Nat → ClassId) (g : Int32 → (St × (St × (St × (St)))) → Option (Int64 × (St × (St × (St × (St)))))) (r : Int64 × (St × (St × (St × (St))))) : Prop := ∀ (v0 : Int32) (s0 : St × (St × (St × (St)))) (H : Heap) (locs : List Loc) (ls : Array Slot), g v0 s0 = some r → va_P (dC, dI) vwCl (dw_X5 a ac s0) H → va_D A (dw_X5 a ac s0) → va_S A s.heap H locs → lv_has ls 2 [(0, .ref (a 0)), (1, .int v0)] → W p l e (headSpec ow_dm_X5_back ({ frames := 1, cells := 0, slots := 0, locals := 40 })).room s m args below meth c H locs 0 0 Q (F0 m 0 ls [])
set_option maxHeartbeats 40000000 in
set_option maxRecDepth 100000 in
theorem db_X5_back_0 {p : Program} {l : Launch} {e : Env} {s : State} {m : MethodId} {args : Array Value} {below : List Frame} {meth : Method} {c : Code} {Q : State → Prop} {A : Nat → Prop} {dC : Nat → ClassId} {dI : Nat → Nat → Nat} {a : Nat → Nat} {ac : Nat → ClassId} {n : Nat} {r : Int64 × (St × (St × (St × (St))))} (C : nd_C p l s m args c A (dC, dI) cX5_back 2 RX5 ow_dm_X5_back (dk_X5 ac)) (K : nd_Kl p l e (headSpec ow_dm_X5_back ({ frames := 1, cells := 0, slots := 0, locals := 40 })).room s m args below meth c Q A (dC, dI) cX5_back (St × (St × (St × (St)))) (dw_X5 a ac) r) : dj_X5_back_0 p l e s m args below meth c Q A dC dI a ac (df_X5_back_0 n) r := by
  obtain ⟨hlt, hx, hb, hml, hown, hts, hN, hA, hK⟩ := id C
  intro v0 s0 H locs ls h hP hD hS hl
  unfold df_X5_back_0 at h
  refine lv_aload_n hx hb dX5_back_0 rfl (lv_at hl 0 rfl) ?_
  refine va_get (D := (dC, dI)) (ci := 6) (v := .ref (a 11)) (C := RX5) (T := TX5) (N := 8) hx hb hts hi_dm_X5_back_X5 hown hK hP 0 rfl rfl 3 (by decide) (hts (.fieldLink RX5 37 "TimeMachine$Kernel" "self" "[I") (List.mem_of_getElem? (i := 1) rfl)) (fun _ h9 => h9) rfl dX5_back_1 ?_
  refine lv_iload_n hx hb dX5_back_4 rfl (lv_at hl 1 rfl) ?_
  refine lv_bipush (v := 7) hx hb dX5_back_5 (by decide) ?_
  refine lv_imul hx hb dX5_back_7 ?_
  refine lv_iconst (v := 4) hx hb dX5_back_8 (by decide) ?_
  refine lv_iadd hx hb dX5_back_9 ?_
  obtain ⟨i1, h⟩ := nd_ck_e h
  refine va_iald (i := ((v0 * 7) + 4)) hx hb hK hP 11 8 rfl rfl i1 dX5_back_10 ?_
  refine lv_if_ne (tgt := 18) hx hb dX5_back_11 (by decide) (fun c2 => ?_) (fun c2 => ?_)
  · have h := nd_neg h c2
    refine lv_aload_n hx hb dX5_back_18 rfl (lv_at hl 0 rfl) ?_
    refine va_get (D := (dC, dI)) (ci := 6) (v := .ref (a 4)) (C := RX5) (T := TX5) (N := 8) hx hb hts hi_dm_X5_back_X5 hown hK hP 0 rfl rfl 0 (by decide) (hts (.fieldLink RX5 18 "TimeMachine$Kernel" "machine" "LTimeMachine$Machine;") (List.mem_of_getElem? (i := 2) rfl)) (fun _ h9 => h9) rfl dX5_back_19 ?_
    refine va_get (D := (dC, dI)) (ci := 7) (v := .ref (a 9)) (C := RX6) (T := TX6) (N := 20) hx hb hts hi_dm_X5_back_X6 hown hK hP 4 rfl rfl 5 (by decide) (hts (.fieldLink RX5 93 "TimeMachine$Machine" "saved" "[I") (List.mem_of_getElem? (i := 3) rfl)) (fun _ h9 => h9) rfl dX5_back_22 ?_
    refine lv_iload_n hx hb dX5_back_25 rfl (lv_at hl 1 rfl) ?_
    refine lv_bipush (v := 33) hx hb dX5_back_26 (by decide) ?_
    refine lv_imul hx hb dX5_back_28 ?_
    refine lv_aload_n hx hb dX5_back_29 rfl (lv_at hl 0 rfl) ?_
    refine va_get (D := (dC, dI)) (ci := 6) (v := .ref (a 8)) (C := RX5) (T := TX5) (N := 8) hx hb hts hi_dm_X5_back_X5 hown hK hP 0 rfl rfl 2 (by decide) (hts (.fieldLink RX5 33 "TimeMachine$Kernel" "reg" "[I") (List.mem_of_getElem? (i := 4) rfl)) (fun _ h9 => h9) rfl dX5_back_30 ?_
    refine lv_iload_n hx hb dX5_back_33 rfl (lv_at hl 1 rfl) ?_
    refine lv_bipush (v := 33) hx hb dX5_back_34 (by decide) ?_
    refine lv_imul hx hb dX5_back_36 ?_
    refine lv_bipush (v := 33) hx hb dX5_back_37 (by decide) ?_
    obtain ⟨k3, h⟩ := nd_cp_e h
    refine va_copyi (sp := (v0 * 33)) (dp := (v0 * 33)) (n := 33) hx hb (by rw [hml]; exact hl.1.symm) hown (hts (.methodLink RX5 96 arraycopyName) (List.mem_of_getElem? (i := 5) rfl)) (hts (.native arraycopyName) (List.mem_of_getElem? (i := 6) rfl)) (hts (.static arraycopyName) (List.mem_of_getElem? (i := 7) rfl)) (hts (.initialized "java/lang/System") (List.mem_of_getElem? (i := 8) rfl)) hK hP hD hS 9 8 6 5 rfl rfl rfl rfl rfl k3.1 k3.2.1 k3.2.2.1 k3.2.2.2.1 k3.2.2.2.2 (fun _ _ => rfl) (Nat.le_of_ble_eq_true rfl) (by decide +kernel) dX5_back_39 (fun H locs hP hD hS => ?_)
    obtain ⟨s4, es4, h⟩ := nd_let_e h
    have hP : va_P (dC, dI) vwCl (dw_X5 a ac s4) H := by rw [es4]; exact hP
    have hD : va_D A (dw_X5 a ac s4) := by rw [es4]; exact hD
    refine lv_aload_n hx hb dX5_back_42 rfl (lv_at hl 0 rfl) ?_
    refine va_get (D := (dC, dI)) (ci := 6) (v := .ref (a 11)) (C := RX5) (T := TX5) (N := 8) hx hb hts hi_dm_X5_back_X5 hown hK hP 0 rfl rfl 3 (by decide) (hts (.fieldLink RX5 37 "TimeMachine$Kernel" "self" "[I") (List.mem_of_getElem? (i := 1) rfl)) (fun _ h9 => h9) rfl dX5_back_43 ?_
    refine lv_iload_n hx hb dX5_back_46 rfl (lv_at hl 1 rfl) ?_
    refine lv_bipush (v := 7) hx hb dX5_back_47 (by decide) ?_
    refine lv_imul hx hb dX5_back_49 ?_
    refine lv_iconst (v := 4) hx hb dX5_back_50 (by decide) ?_
    refine lv_iadd hx hb dX5_back_51 ?_
    refine lv_iconst (v := 0) hx hb dX5_back_52 (by decide) ?_
    obtain ⟨i5, h⟩ := nd_ck_e h
    refine va_iast (i := ((v0 * 7) + 4)) (x := 0) hx hb hK hP hD hS 11 8 rfl rfl i5 dX5_back_53 (fun H locs hP hD hS => ?_)
    obtain ⟨s6, es6, h⟩ := nd_let_e h
    have hP : va_P (dC, dI) vwCl (dw_X5 a ac s6) H := by rw [es6]; exact hP
    have hD : va_D A (dw_X5 a ac s6) := by rw [es6]; exact hD
    refine lv_ldc2 hx hb hown (hts (.constantLong RX5 159 (2199023255552)) (List.mem_of_getElem? (i := 9) rfl)) dX5_back_54 ?_
    exact K _ _ _ _ _ _ dX5_back_57 (Option.some.inj h).symm hP hD hS
  · have h := nd_pos h c2
    refine lv_ldc2 hx hb hown (hts (.constantLong RX5 251 (-22)) (List.mem_of_getElem? (i := 10) rfl)) dX5_back_14 ?_
    exact K _ _ _ _ _ _ dX5_back_17 (Option.some.inj h).symm hP hD hS
set_option maxHeartbeats 40000000 in
set_option maxRecDepth 100000 in
theorem dm_X5_back (l : Launch) (hlt : l.stackTraces = false) (dC : Nat → ClassId) (dI : Nat → Nat → Nat) (a : Nat → Nat) (ac : Nat → ClassId) (n : Nat) (v0 : Int32) (s0 : St × (St × (St × (St)))) {r : Int64 × (St × (St × (St × (St))))} (h : df_X5_back n v0 s0 = some r) (sz : Nat) : Met l yX5_back ow_dm_X5_back ({ frames := 1, cells := 0, slots := 0, locals := 40 }) (va_Pc [.ref (a 0), .int v0] (fun U => U.heap.size = sz ∧ va_P (dC, dI) vwCl (dw_X5 a ac s0) U.heap ∧ va_K (dC, dI) vwCl (dk_X5 ac) U ∧ va_D (fun _ => True) (dw_X5 a ac s0) ∧ nv_E dI (va_A (dw_X5 a ac s0) sz) U)) (va_Ql (fun x _ => x = r.1) (fun (_ : Unit) t => va_P (dC, dI) vwCl (dw_X5 a ac r.2) t.heap ∧ va_K (dC, dI) vwCl (dk_X5 ac) t ∧ va_D (va_A (dw_X5 a ac s0) sz) (dw_X5 a ac r.2)) (va_A (dw_X5 a ac s0) sz)) 0 0 (va_A (dw_X5 a ac s0) sz) := by
  refine Met.ofW (cc := cX5_back) (maxL := 2) (ret := (some .long)) (by decide) rfl ?_
  intro p e s m args below meth c s₁ B hml hv
  obtain ⟨rfl, hsz, hP, hK, hD0, hN⟩ := hv
  have hx := B.exec
  have hb := B.bytes
  have hr := B.returns
  have hts := atoms_spec (ws := ow_dm_X5_back) B.pre
  have hown : s.vm.findClass RX5 = some m.cls := findClass_of_methodNamed B.named
  have hlocks := B.notSynchronized
  subst hsz
  have hD := hD0.self (sz := s.heap.size)
  generalize hAe : va_A (dw_X5 a ac s0) s.heap.size = A at hD hN ⊢
  have hA : ∀ q : Nat, s.heap.size ≤ q → A q := fun q h => by rw [← hAe]; exact Or.inr h
  have hl := lv_entry ([.ref (a 0), .int v0]) (n := 2) (Nat.le_of_ble_eq_true rfl)
  rw [lg_entry_eq]
  generalize (lg_sl ([.ref (a 0), .int v0]) ++ List.replicate (2 - (lg_sl ([.ref (a 0), .int v0])).length) Slot.unset).toArray = ls at hl ⊢
  have hl : lv_has ls 2 [(0, .ref (a 0)), (1, .int v0)] := hl
  exact db_X5_back_0 (dC := dC) (dI := dI) (a := a) (ac := ac) (n := n) (r := r) ⟨hlt, hx, hb, hml, hown, hts, hN, hA, hK⟩ (fun pc v τ H locs ls d er hP hD hS => by subst er; exact W.lret (v := v) hx hb hr (fun t ht hW => ⟨⟨v, (), rfl, rfl, by rw [ht]; exact hP, va_K.moved hW.alike hK, hD⟩, hS.F ht⟩) hS.2.2 d) v0 s0 _ _ _ h hP hD va_S.rf (lv_sub hl [0, 1] rfl)
def ow_dm_X5_sleep : List Cond := Cond.code yX5_sleep cX5_sleep 3 (some .long) :: ([Cond.fieldLink RX5 18 "TimeMachine$Kernel" "machine" "LTimeMachine$Machine;", Cond.fieldLink RX5 137 "TimeMachine$Machine" "sleep" "[J", Cond.fieldLink RX5 133 "TimeMachine$Machine" "clock" "J", Cond.constantLong RX5 294 (-1), Cond.constantLong RX5 157 (1099511627776), Cond.constantLong RX5 381 (4294967295)] ++ (u_ws RX5 TX5 8 ++ (u_ws RX6 TX6 20 ++ [])))
theorem gd_dm_X5_sleep : ∀ w ∈ ow_dm_X5_sleep, (w.onTables && w.keeps) = true ∨ ∃ ty, w = Cond.arrayClass ty := List.forall_mem_cons.mpr ⟨good_of_word rfl, List.forall_mem_append.mpr ⟨fun w h => good_of_word (List.all_eq_true.mp (by decide +kernel) w h), List.forall_mem_append.mpr ⟨gu_X5, List.forall_mem_append.mpr ⟨gu_X6, fun _ h => nomatch h⟩⟩⟩⟩
theorem hi_dm_X5_sleep_X5 : ∀ w ∈ u_ws RX5 TX5 8, w ∈ ow_dm_X5_sleep := fun w h => List.mem_cons_of_mem _ (List.mem_append_right _ (List.mem_append_left _ h))
theorem hi_dm_X5_sleep_X6 : ∀ w ∈ u_ws RX6 TX6 20, w ∈ ow_dm_X5_sleep := fun w h => List.mem_cons_of_mem _ (List.mem_append_right _ (List.mem_append_right _ (List.mem_append_left _ h)))
def dj_X5_sleep_37 (p : Program) (l : Launch) (e : Env) (s : State) (m : MethodId) (args : Array Value) (below : List Frame) (meth : Method) (c : Code) (Q : State → Prop) (A : Nat → Prop) (dC : Nat → ClassId) (dI : Nat → Nat → Nat) (a : Nat → Nat) (ac : Nat → ClassId) (g : Int32 → (St × (St × (St × (St)))) → Option (Int64 × (St × (St × (St × (St)))))) (r : Int64 × (St × (St × (St × (St))))) : Prop := ∀ (x1 : Int32) (s0 : St × (St × (St × (St)))) (H : Heap) (locs : List Loc) (ls : Array Slot), g x1 s0 = some r → va_P (dC, dI) vwCl (dw_X5 a ac s0) H → va_D A (dw_X5 a ac s0) → va_S A s.heap H locs → lv_has ls 3 [(0, .ref (a 0)), (1, .int x1)] → W p l e (headSpec ow_dm_X5_sleep ({ frames := 0, cells := 0, slots := 0, locals := 0 })).room s m args below meth c H locs 0 0 Q (F0 m 37 ls [])
def dj_X5_sleep_0 (p : Program) (l : Launch) (e : Env) (s : State) (m : MethodId) (args : Array Value) (below : List Frame) (meth : Method) (c : Code) (Q : State → Prop) (A : Nat → Prop) (dC : Nat → ClassId) (dI : Nat → Nat → Nat) (a : Nat → Nat) (ac : Nat → ClassId) (g : Int32 → Int32 → (St × (St × (St × (St)))) → Option (Int64 × (St × (St × (St × (St)))))) (r : Int64 × (St × (St × (St × (St))))) : Prop := ∀ (v0 : Int32) (v1 : Int32) (s0 : St × (St × (St × (St)))) (H : Heap) (locs : List Loc) (ls : Array Slot), g v0 v1 s0 = some r → va_P (dC, dI) vwCl (dw_X5 a ac s0) H → va_D A (dw_X5 a ac s0) → va_S A s.heap H locs → lv_has ls 3 [(0, .ref (a 0)), (1, .int v0), (2, .int v1)] → W p l e (headSpec ow_dm_X5_sleep ({ frames := 0, cells := 0, slots := 0, locals := 0 })).room s m args below meth c H locs 0 0 Q (F0 m 0 ls [])
set_option maxHeartbeats 40000000 in
set_option maxRecDepth 100000 in
theorem db_X5_sleep_37 {p : Program} {l : Launch} {e : Env} {s : State} {m : MethodId} {args : Array Value} {below : List Frame} {meth : Method} {c : Code} {Q : State → Prop} {A : Nat → Prop} {dC : Nat → ClassId} {dI : Nat → Nat → Nat} {a : Nat → Nat} {ac : Nat → ClassId} {n : Nat} {r : Int64 × (St × (St × (St × (St))))} (C : nd_C p l s m args c A (dC, dI) cX5_sleep 3 RX5 ow_dm_X5_sleep (dk_X5 ac)) (K : nd_Kl p l e (headSpec ow_dm_X5_sleep ({ frames := 0, cells := 0, slots := 0, locals := 0 })).room s m args below meth c Q A (dC, dI) cX5_sleep (St × (St × (St × (St)))) (dw_X5 a ac) r) : dj_X5_sleep_37 p l e s m args below meth c Q A dC dI a ac (df_X5_sleep_37 n) r := by
  obtain ⟨hlt, hx, hb, hml, hown, hts, hN, hA, hK⟩ := id C
  intro x1 s0 H locs ls h hP hD hS hl
  unfold df_X5_sleep_37 at h
  refine lv_aload_n hx hb dX5_sleep_37 rfl (lv_at hl 0 rfl) ?_
  refine va_get (D := (dC, dI)) (ci := 6) (v := .ref (a 4)) (C := RX5) (T := TX5) (N := 8) hx hb hts hi_dm_X5_sleep_X5 hown hK hP 0 rfl rfl 0 (by decide) (hts (.fieldLink RX5 18 "TimeMachine$Kernel" "machine" "LTimeMachine$Machine;") (List.mem_of_getElem? (i := 1) rfl)) (fun _ h9 => h9) rfl dX5_sleep_38 ?_
  refine va_get (D := (dC, dI)) (ci := 7) (v := .long (sL s0.2.2.1 0)) (C := RX6) (T := TX6) (N := 20) hx hb hts hi_dm_X5_sleep_X6 hown hK hP 4 rfl rfl 17 (by decide) (hts (.fieldLink RX5 133 "TimeMachine$Machine" "clock" "J") (List.mem_of_getElem? (i := 3) rfl)) (fun _ h9 => h9) rfl dX5_sleep_41 ?_
  refine lv_aload_n hx hb dX5_sleep_44 rfl (lv_at hl 0 rfl) ?_
  refine va_get (D := (dC, dI)) (ci := 6) (v := .ref (a 4)) (C := RX5) (T := TX5) (N := 8) hx hb hts hi_dm_X5_sleep_X5 hown hK hP 0 rfl rfl 0 (by decide) (hts (.fieldLink RX5 18 "TimeMachine$Kernel" "machine" "LTimeMachine$Machine;") (List.mem_of_getElem? (i := 1) rfl)) (fun _ h9 => h9) rfl dX5_sleep_45 ?_
  refine va_get (D := (dC, dI)) (ci := 7) (v := .ref (a 12)) (C := RX6) (T := TX6) (N := 20) hx hb hts hi_dm_X5_sleep_X6 hown hK hP 4 rfl rfl 8 (by decide) (hts (.fieldLink RX5 137 "TimeMachine$Machine" "sleep" "[J") (List.mem_of_getElem? (i := 2) rfl)) (fun _ h9 => h9) rfl dX5_sleep_48 ?_
  refine lv_iload_n hx hb dX5_sleep_51 rfl (lv_at hl 1 rfl) ?_
  obtain ⟨i3, h⟩ := nd_ck_e h
  refine va_lald (i := x1) hx hb hK hP 12 9 rfl rfl i3 dX5_sleep_52 ?_
  refine W.lcmp hx hb dX5_sleep_53 ?_
  refine lv_if_ge (tgt := 61) hx hb dX5_sleep_54 (by decide) (fun c4 => ?_) (fun c4 => ?_)
  · have h := nd_pos h c4
    refine lv_aload_n hx hb dX5_sleep_61 rfl (lv_at hl 0 rfl) ?_
    refine va_get (D := (dC, dI)) (ci := 6) (v := .ref (a 4)) (C := RX5) (T := TX5) (N := 8) hx hb hts hi_dm_X5_sleep_X5 hown hK hP 0 rfl rfl 0 (by decide) (hts (.fieldLink RX5 18 "TimeMachine$Kernel" "machine" "LTimeMachine$Machine;") (List.mem_of_getElem? (i := 1) rfl)) (fun _ h9 => h9) rfl dX5_sleep_62 ?_
    refine va_get (D := (dC, dI)) (ci := 7) (v := .ref (a 12)) (C := RX6) (T := TX6) (N := 20) hx hb hts hi_dm_X5_sleep_X6 hown hK hP 4 rfl rfl 8 (by decide) (hts (.fieldLink RX5 137 "TimeMachine$Machine" "sleep" "[J") (List.mem_of_getElem? (i := 2) rfl)) (fun _ h9 => h9) rfl dX5_sleep_65 ?_
    refine lv_iload_n hx hb dX5_sleep_68 rfl (lv_at hl 1 rfl) ?_
    refine lv_ldc2 hx hb hown (hts (.constantLong RX5 294 (-1)) (List.mem_of_getElem? (i := 4) rfl)) dX5_sleep_69 ?_
    obtain ⟨i5, h⟩ := nd_ck_e h
    refine va_last (i := x1) (x := (-1)) hx hb hK hP hD hS 12 9 rfl rfl i5 dX5_sleep_72 (fun H locs hP hD hS => ?_)
    obtain ⟨s6, es6, h⟩ := nd_let_e h
    have hP : va_P (dC, dI) vwCl (dw_X5 a ac s6) H := by rw [es6]; exact hP
    have hD : va_D A (dw_X5 a ac s6) := by rw [es6]; exact hD
    refine lv_lconst (v := 0) hx hb dX5_sleep_73 (by decide) ?_
    exact K _ _ _ _ _ _ dX5_sleep_74 (Option.some.inj h).symm hP hD hS
  · have h := nd_neg h c4
    refine lv_ldc2 hx hb hown (hts (.constantLong RX5 157 (1099511627776)) (List.mem_of_getElem? (i := 5) rfl)) dX5_sleep_57 ?_
    exact K _ _ _ _ _ _ dX5_sleep_60 (Option.some.inj h).symm hP hD hS
set_option maxHeartbeats 40000000 in
set_option maxRecDepth 100000 in
theorem db_X5_sleep_0 {p : Program} {l : Launch} {e : Env} {s : State} {m : MethodId} {args : Array Value} {below : List Frame} {meth : Method} {c : Code} {Q : State → Prop} {A : Nat → Prop} {dC : Nat → ClassId} {dI : Nat → Nat → Nat} {a : Nat → Nat} {ac : Nat → ClassId} {n : Nat} {r : Int64 × (St × (St × (St × (St))))} (C : nd_C p l s m args c A (dC, dI) cX5_sleep 3 RX5 ow_dm_X5_sleep (dk_X5 ac)) (K : nd_Kl p l e (headSpec ow_dm_X5_sleep ({ frames := 0, cells := 0, slots := 0, locals := 0 })).room s m args below meth c Q A (dC, dI) cX5_sleep (St × (St × (St × (St)))) (dw_X5 a ac) r) : dj_X5_sleep_0 p l e s m args below meth c Q A dC dI a ac (df_X5_sleep_0 n) r := by
  obtain ⟨hlt, hx, hb, hml, hown, hts, hN, hA, hK⟩ := id C
  intro v0 v1 s0 H locs ls h hP hD hS hl
  unfold df_X5_sleep_0 at h
  refine lv_aload_n hx hb dX5_sleep_0 rfl (lv_at hl 0 rfl) ?_
  refine va_get (D := (dC, dI)) (ci := 6) (v := .ref (a 4)) (C := RX5) (T := TX5) (N := 8) hx hb hts hi_dm_X5_sleep_X5 hown hK hP 0 rfl rfl 0 (by decide) (hts (.fieldLink RX5 18 "TimeMachine$Kernel" "machine" "LTimeMachine$Machine;") (List.mem_of_getElem? (i := 1) rfl)) (fun _ h9 => h9) rfl dX5_sleep_1 ?_
  refine va_get (D := (dC, dI)) (ci := 7) (v := .ref (a 12)) (C := RX6) (T := TX6) (N := 20) hx hb hts hi_dm_X5_sleep_X6 hown hK hP 4 rfl rfl 8 (by decide) (hts (.fieldLink RX5 137 "TimeMachine$Machine" "sleep" "[J") (List.mem_of_getElem? (i := 2) rfl)) (fun _ h9 => h9) rfl dX5_sleep_4 ?_
  refine lv_iload_n hx hb dX5_sleep_7 rfl (lv_at hl 1 rfl) ?_
  obtain ⟨i1, h⟩ := nd_ck_e h
  refine va_lald (i := v0) hx hb hK hP 12 9 rfl rfl i1 dX5_sleep_8 ?_
  refine lv_lconst (v := 0) hx hb dX5_sleep_9 (by decide) ?_
  refine W.lcmp hx hb dX5_sleep_10 ?_
  refine lv_if_ge (tgt := 37) hx hb dX5_sleep_11 (by decide) (fun c2 => ?_) (fun c2 => ?_)
  · have h := nd_pos h c2
    exact (db_X5_sleep_37 C K) (v0) s0 _ _ _ h hP hD hS (lv_sub hl [0, 1] rfl)
  · have h := nd_neg h c2
    refine lv_aload_n hx hb dX5_sleep_14 rfl (lv_at hl 0 rfl) ?_
    refine va_get (D := (dC, dI)) (ci := 6) (v := .ref (a 4)) (C := RX5) (T := TX5) (N := 8) hx hb hts hi_dm_X5_sleep_X5 hown hK hP 0 rfl rfl 0 (by decide) (hts (.fieldLink RX5 18 "TimeMachine$Kernel" "machine" "LTimeMachine$Machine;") (List.mem_of_getElem? (i := 1) rfl)) (fun _ h9 => h9) rfl dX5_sleep_15 ?_
    refine va_get (D := (dC, dI)) (ci := 7) (v := .ref (a 12)) (C := RX6) (T := TX6) (N := 20) hx hb hts hi_dm_X5_sleep_X6 hown hK hP 4 rfl rfl 8 (by decide) (hts (.fieldLink RX5 137 "TimeMachine$Machine" "sleep" "[J") (List.mem_of_getElem? (i := 2) rfl)) (fun _ h9 => h9) rfl dX5_sleep_18 ?_
    refine lv_iload_n hx hb dX5_sleep_21 rfl (lv_at hl 1 rfl) ?_
    refine lv_aload_n hx hb dX5_sleep_22 rfl (lv_at hl 0 rfl) ?_
    refine va_get (D := (dC, dI)) (ci := 6) (v := .ref (a 4)) (C := RX5) (T := TX5) (N := 8) hx hb hts hi_dm_X5_sleep_X5 hown hK hP 0 rfl rfl 0 (by decide) (hts (.fieldLink RX5 18 "TimeMachine$Kernel" "machine" "LTimeMachine$Machine;") (List.mem_of_getElem? (i := 1) rfl)) (fun _ h9 => h9) rfl dX5_sleep_23 ?_
    refine va_get (D := (dC, dI)) (ci := 7) (v := .long (sL s0.2.2.1 0)) (C := RX6) (T := TX6) (N := 20) hx hb hts hi_dm_X5_sleep_X6 hown hK hP 4 rfl rfl 17 (by decide) (hts (.fieldLink RX5 133 "TimeMachine$Machine" "clock" "J") (List.mem_of_getElem? (i := 3) rfl)) (fun _ h9 => h9) rfl dX5_sleep_26 ?_
    refine lv_iload_n hx hb dX5_sleep_29 rfl (lv_at hl 2 rfl) ?_
    refine lv_i2l hx hb dX5_sleep_30 rfl ?_
    refine lv_ldc2 hx hb hown (hts (.constantLong RX5 381 (4294967295)) (List.mem_of_getElem? (i := 6) rfl)) dX5_sleep_31 ?_
    refine lv_land hx hb dX5_sleep_34 ?_
    refine lv_ladd hx hb dX5_sleep_35 ?_
    obtain ⟨i7, h⟩ := nd_ck_e h
    refine va_last (i := v0) (x := (((sL s0.2.2.1 0) : Int64) + (((v1.toInt64) : Int64) &&& 4294967295))) hx hb hK hP hD hS 12 9 rfl rfl i7 dX5_sleep_36 (fun H locs hP hD hS => ?_)
    obtain ⟨s8, es8, h⟩ := nd_let_e h
    have hP : va_P (dC, dI) vwCl (dw_X5 a ac s8) H := by rw [es8]; exact hP
    have hD : va_D A (dw_X5 a ac s8) := by rw [es8]; exact hD
    exact (db_X5_sleep_37 C K) (v0) s8 _ _ _ h hP hD hS (lv_sub hl [0, 1] rfl)
set_option maxHeartbeats 40000000 in
set_option maxRecDepth 100000 in
theorem dm_X5_sleep (l : Launch) (hlt : l.stackTraces = false) (dC : Nat → ClassId) (dI : Nat → Nat → Nat) (a : Nat → Nat) (ac : Nat → ClassId) (n : Nat) (v0 : Int32) (v1 : Int32) (s0 : St × (St × (St × (St)))) {r : Int64 × (St × (St × (St × (St))))} (h : df_X5_sleep n v0 v1 s0 = some r) (sz : Nat) : Met l yX5_sleep ow_dm_X5_sleep ({ frames := 0, cells := 0, slots := 0, locals := 0 }) (va_Pc [.ref (a 0), .int v0, .int v1] (fun U => U.heap.size = sz ∧ va_P (dC, dI) vwCl (dw_X5 a ac s0) U.heap ∧ va_K (dC, dI) vwCl (dk_X5 ac) U ∧ va_D (fun _ => True) (dw_X5 a ac s0) ∧ nv_E dI (va_A (dw_X5 a ac s0) sz) U)) (va_Ql (fun x _ => x = r.1) (fun (_ : Unit) t => va_P (dC, dI) vwCl (dw_X5 a ac r.2) t.heap ∧ va_K (dC, dI) vwCl (dk_X5 ac) t ∧ va_D (va_A (dw_X5 a ac s0) sz) (dw_X5 a ac r.2)) (va_A (dw_X5 a ac s0) sz)) 0 0 (va_A (dw_X5 a ac s0) sz) := by
  refine Met.ofW (cc := cX5_sleep) (maxL := 3) (ret := (some .long)) (by decide) rfl ?_
  intro p e s m args below meth c s₁ B hml hv
  obtain ⟨rfl, hsz, hP, hK, hD0, hN⟩ := hv
  have hx := B.exec
  have hb := B.bytes
  have hr := B.returns
  have hts := atoms_spec (ws := ow_dm_X5_sleep) B.pre
  have hown : s.vm.findClass RX5 = some m.cls := findClass_of_methodNamed B.named
  have hlocks := B.notSynchronized
  subst hsz
  have hD := hD0.self (sz := s.heap.size)
  generalize hAe : va_A (dw_X5 a ac s0) s.heap.size = A at hD hN ⊢
  have hA : ∀ q : Nat, s.heap.size ≤ q → A q := fun q h => by rw [← hAe]; exact Or.inr h
  have hl := lv_entry ([.ref (a 0), .int v0, .int v1]) (n := 3) (Nat.le_of_ble_eq_true rfl)
  rw [lg_entry_eq]
  generalize (lg_sl ([.ref (a 0), .int v0, .int v1]) ++ List.replicate (3 - (lg_sl ([.ref (a 0), .int v0, .int v1])).length) Slot.unset).toArray = ls at hl ⊢
  have hl : lv_has ls 3 [(0, .ref (a 0)), (1, .int v0), (2, .int v1)] := hl
  exact db_X5_sleep_0 (dC := dC) (dI := dI) (a := a) (ac := ac) (n := n) (r := r) ⟨hlt, hx, hb, hml, hown, hts, hN, hA, hK⟩ (fun pc v τ H locs ls d er hP hD hS => by subst er; exact W.lret (v := v) hx hb hr (fun t ht hW => ⟨⟨v, (), rfl, rfl, by rw [ht]; exact hP, va_K.moved hW.alike hK, hD⟩, hS.F ht⟩) hS.2.2 d) v0 v1 s0 _ _ _ h hP hD va_S.rf (lv_sub hl [0, 1, 2] rfl)
def ow_dm_X5_answer : List Cond := Cond.code yX5_answer cX5_answer 4 (some .int) :: ([Cond.constantLong RX5 155 (4398046511104), Cond.constantLong RX5 157 (1099511627776), Cond.constantLong RX5 159 (2199023255552), Cond.fieldLink RX5 33 "TimeMachine$Kernel" "reg" "[I", Cond.fieldLink RX5 37 "TimeMachine$Kernel" "self" "[I", Cond.fieldLink RX5 18 "TimeMachine$Kernel" "machine" "LTimeMachine$Machine;", Cond.fieldLink RX5 102 "TimeMachine$Machine" "waiting" "I"] ++ (u_ws RX5 TX5 8 ++ (u_ws RX6 TX6 20 ++ [])))
theorem gd_dm_X5_answer : ∀ w ∈ ow_dm_X5_answer, (w.onTables && w.keeps) = true ∨ ∃ ty, w = Cond.arrayClass ty := List.forall_mem_cons.mpr ⟨good_of_word rfl, List.forall_mem_append.mpr ⟨fun w h => good_of_word (List.all_eq_true.mp (by decide +kernel) w h), List.forall_mem_append.mpr ⟨gu_X5, List.forall_mem_append.mpr ⟨gu_X6, fun _ h => nomatch h⟩⟩⟩⟩
theorem hi_dm_X5_answer_X5 : ∀ w ∈ u_ws RX5 TX5 8, w ∈ ow_dm_X5_answer := fun w h => List.mem_cons_of_mem _ (List.mem_append_right _ (List.mem_append_left _ h))
theorem hi_dm_X5_answer_X6 : ∀ w ∈ u_ws RX6 TX6 20, w ∈ ow_dm_X5_answer := fun w h => List.mem_cons_of_mem _ (List.mem_append_right _ (List.mem_append_right _ (List.mem_append_left _ h)))
def dj_X5_answer_85 (p : Program) (l : Launch) (e : Env) (s : State) (m : MethodId) (args : Array Value) (below : List Frame) (meth : Method) (c : Code) (Q : State → Prop) (A : Nat → Prop) (dC : Nat → ClassId) (dI : Nat → Nat → Nat) (a : Nat → Nat) (ac : Nat → ClassId) (g : (St × (St × (St × (St)))) → Option (Int32 × (St × (St × (St × (St)))))) (r : Int32 × (St × (St × (St × (St))))) : Prop := ∀ (s0 : St × (St × (St × (St)))) (H : Heap) (locs : List Loc) (ls : Array Slot), g s0 = some r → va_P (dC, dI) vwCl (dw_X5 a ac s0) H → va_D A (dw_X5 a ac s0) → va_S A s.heap H locs → lv_has ls 4 [] → W p l e (headSpec ow_dm_X5_answer ({ frames := 0, cells := 0, slots := 0, locals := 0 })).room s m args below meth c H locs 0 0 Q (F0 m 85 ls [])
def dj_X5_answer_0 (p : Program) (l : Launch) (e : Env) (s : State) (m : MethodId) (args : Array Value) (below : List Frame) (meth : Method) (c : Code) (Q : State → Prop) (A : Nat → Prop) (dC : Nat → ClassId) (dI : Nat → Nat → Nat) (a : Nat → Nat) (ac : Nat → ClassId) (g : Int32 → Int64 → (St × (St × (St × (St)))) → Option (Int32 × (St × (St × (St × (St)))))) (r : Int32 × (St × (St × (St × (St))))) : Prop := ∀ (v0 : Int32) (v1 : Int64) (s0 : St × (St × (St × (St)))) (H : Heap) (locs : List Loc) (ls : Array Slot), g v0 v1 s0 = some r → va_P (dC, dI) vwCl (dw_X5 a ac s0) H → va_D A (dw_X5 a ac s0) → va_S A s.heap H locs → lv_has ls 4 [(0, .ref (a 0)), (1, .int v0), (2, .long v1)] → W p l e (headSpec ow_dm_X5_answer ({ frames := 0, cells := 0, slots := 0, locals := 0 })).room s m args below meth c H locs 0 0 Q (F0 m 0 ls [])
set_option maxHeartbeats 40000000 in
set_option maxRecDepth 100000 in
theorem db_X5_answer_85 {p : Program} {l : Launch} {e : Env} {s : State} {m : MethodId} {args : Array Value} {below : List Frame} {meth : Method} {c : Code} {Q : State → Prop} {A : Nat → Prop} {dC : Nat → ClassId} {dI : Nat → Nat → Nat} {a : Nat → Nat} {ac : Nat → ClassId} {n : Nat} {r : Int32 × (St × (St × (St × (St))))} (C : nd_C p l s m args c A (dC, dI) cX5_answer 4 RX5 ow_dm_X5_answer (dk_X5 ac)) (K : nd_Ki p l e (headSpec ow_dm_X5_answer ({ frames := 0, cells := 0, slots := 0, locals := 0 })).room s m args below meth c Q A (dC, dI) cX5_answer .int (St × (St × (St × (St)))) (dw_X5 a ac) r) : dj_X5_answer_85 p l e s m args below meth c Q A dC dI a ac (df_X5_answer_85 n) r := by
  obtain ⟨hlt, hx, hb, hml, hown, hts, hN, hA, hK⟩ := id C
  intro s0 H locs ls h hP hD hS hl
  unfold df_X5_answer_85 at h
  refine lv_iconst (v := 0) hx hb dX5_answer_85 (by decide) ?_
  exact K _ _ _ _ _ _ dX5_answer_86 rfl (Option.some.inj h).symm hP hD hS
set_option maxHeartbeats 40000000 in
set_option maxRecDepth 100000 in
theorem db_X5_answer_0 {p : Program} {l : Launch} {e : Env} {s : State} {m : MethodId} {args : Array Value} {below : List Frame} {meth : Method} {c : Code} {Q : State → Prop} {A : Nat → Prop} {dC : Nat → ClassId} {dI : Nat → Nat → Nat} {a : Nat → Nat} {ac : Nat → ClassId} {n : Nat} {r : Int32 × (St × (St × (St × (St))))} (C : nd_C p l s m args c A (dC, dI) cX5_answer 4 RX5 ow_dm_X5_answer (dk_X5 ac)) (K : nd_Ki p l e (headSpec ow_dm_X5_answer ({ frames := 0, cells := 0, slots := 0, locals := 0 })).room s m args below meth c Q A (dC, dI) cX5_answer .int (St × (St × (St × (St)))) (dw_X5 a ac) r) : dj_X5_answer_0 p l e s m args below meth c Q A dC dI a ac (df_X5_answer_0 n) r := by
  obtain ⟨hlt, hx, hb, hml, hown, hts, hN, hA, hK⟩ := id C
  intro v0 v1 s0 H locs ls h hP hD hS hl
  unfold df_X5_answer_0 at h
  refine lv_lload_n hx hb dX5_answer_0 rfl (lv_at hl 2 rfl) ?_
  refine lv_ldc2 hx hb hown (hts (.constantLong RX5 155 (4398046511104)) (List.mem_of_getElem? (i := 1) rfl)) dX5_answer_1 ?_
  refine W.lcmp hx hb dX5_answer_4 ?_
  refine lv_if_ne (tgt := 11) hx hb dX5_answer_5 (by decide) (fun c1 => ?_) (fun c1 => ?_)
  · have h := nd_neg h c1
    refine lv_lload_n hx hb dX5_answer_11 rfl (lv_at hl 2 rfl) ?_
    refine lv_ldc2 hx hb hown (hts (.constantLong RX5 157 (1099511627776)) (List.mem_of_getElem? (i := 2) rfl)) dX5_answer_12 ?_
    refine W.lcmp hx hb dX5_answer_15 ?_
    refine lv_if_ne (tgt := 47) hx hb dX5_answer_16 (by decide) (fun c2 => ?_) (fun c2 => ?_)
    · have h := nd_neg h c2
      refine lv_lload_n hx hb dX5_answer_47 rfl (lv_at hl 2 rfl) ?_
      refine lv_ldc2 hx hb hown (hts (.constantLong RX5 159 (2199023255552)) (List.mem_of_getElem? (i := 3) rfl)) dX5_answer_48 ?_
      refine W.lcmp hx hb dX5_answer_51 ?_
      refine lv_if_eq (tgt := 85) hx hb dX5_answer_52 (by decide) (fun c3 => ?_) (fun c3 => ?_)
      · have h := nd_pos h c3
        exact (db_X5_answer_85 C K)  s0 _ _ _ h hP hD hS (lv_sub hl [] rfl)
      · have h := nd_neg h c3
        refine lv_aload_n hx hb dX5_answer_55 rfl (lv_at hl 0 rfl) ?_
        refine va_get (D := (dC, dI)) (ci := 6) (v := .ref (a 8)) (C := RX5) (T := TX5) (N := 8) hx hb hts hi_dm_X5_answer_X5 hown hK hP 0 rfl rfl 2 (by decide) (hts (.fieldLink RX5 33 "TimeMachine$Kernel" "reg" "[I") (List.mem_of_getElem? (i := 4) rfl)) (fun _ h9 => h9) rfl dX5_answer_56 ?_
        refine lv_iload_n hx hb dX5_answer_59 rfl (lv_at hl 1 rfl) ?_
        refine lv_bipush (v := 33) hx hb dX5_answer_60 (by decide) ?_
        refine lv_imul hx hb dX5_answer_62 ?_
        refine lv_bipush (v := 10) hx hb dX5_answer_63 (by decide) ?_
        refine lv_iadd hx hb dX5_answer_65 ?_
        refine lv_lload_n hx hb dX5_answer_66 rfl (lv_at hl 2 rfl) ?_
        refine lv_l2i hx hb dX5_answer_67 rfl ?_
        obtain ⟨i4, h⟩ := nd_ck_e h
        refine va_iast (i := ((v0 * 33) + 10)) (x := (v1.toInt32)) hx hb hK hP hD hS 8 5 rfl rfl i4 dX5_answer_68 (fun H locs hP hD hS => ?_)
        obtain ⟨s5, es5, h⟩ := nd_let_e h
        have hP : va_P (dC, dI) vwCl (dw_X5 a ac s5) H := by rw [es5]; exact hP
        have hD : va_D A (dw_X5 a ac s5) := by rw [es5]; exact hD
        refine lv_aload_n hx hb dX5_answer_69 rfl (lv_at hl 0 rfl) ?_
        refine va_get (D := (dC, dI)) (ci := 6) (v := .ref (a 8)) (C := RX5) (T := TX5) (N := 8) hx hb hts hi_dm_X5_answer_X5 hown hK hP 0 rfl rfl 2 (by decide) (hts (.fieldLink RX5 33 "TimeMachine$Kernel" "reg" "[I") (List.mem_of_getElem? (i := 4) rfl)) (fun _ h9 => h9) rfl dX5_answer_70 ?_
        refine lv_iload_n hx hb dX5_answer_73 rfl (lv_at hl 1 rfl) ?_
        refine lv_bipush (v := 33) hx hb dX5_answer_74 (by decide) ?_
        refine lv_imul hx hb dX5_answer_76 ?_
        refine lv_bipush (v := 32) hx hb dX5_answer_77 (by decide) ?_
        refine lv_iadd hx hb dX5_answer_79 ?_
        refine lv_dup2_11 hx hb dX5_answer_80 rfl rfl ?_
        obtain ⟨i6, h⟩ := nd_ck_e h
        refine va_iald (i := ((v0 * 33) + 32)) hx hb hK hP 8 5 rfl rfl i6 dX5_answer_81 ?_
        refine lv_iconst (v := 4) hx hb dX5_answer_82 (by decide) ?_
        refine lv_iadd hx hb dX5_answer_83 ?_
        obtain ⟨i7, h⟩ := nd_ck_e h
        refine va_iast (i := ((v0 * 33) + 32)) (x := ((sR s5.2.2.1 3 (Int32.toNatClampNeg ((v0 * 33) + 32))) + 4)) hx hb hK hP hD hS 8 5 rfl rfl i7 dX5_answer_84 (fun H locs hP hD hS => ?_)
        obtain ⟨s8, es8, h⟩ := nd_let_e h
        have hP : va_P (dC, dI) vwCl (dw_X5 a ac s8) H := by rw [es8]; exact hP
        have hD : va_D A (dw_X5 a ac s8) := by rw [es8]; exact hD
        exact (db_X5_answer_85 C K)  s8 _ _ _ h hP hD hS (lv_sub hl [] rfl)
    · have h := nd_pos h c2
      refine lv_aload_n hx hb dX5_answer_19 rfl (lv_at hl 0 rfl) ?_
      refine va_get (D := (dC, dI)) (ci := 6) (v := .ref (a 11)) (C := RX5) (T := TX5) (N := 8) hx hb hts hi_dm_X5_answer_X5 hown hK hP 0 rfl rfl 3 (by decide) (hts (.fieldLink RX5 37 "TimeMachine$Kernel" "self" "[I") (List.mem_of_getElem? (i := 5) rfl)) (fun _ h9 => h9) rfl dX5_answer_20 ?_
      refine lv_iload_n hx hb dX5_answer_23 rfl (lv_at hl 1 rfl) ?_
      refine lv_bipush (v := 7) hx hb dX5_answer_24 (by decide) ?_
      refine lv_imul hx hb dX5_answer_26 ?_
      refine lv_iconst (v := 0) hx hb dX5_answer_27 (by decide) ?_
      refine lv_iadd hx hb dX5_answer_28 ?_
      refine lv_iconst (v := 2) hx hb dX5_answer_29 (by decide) ?_
      obtain ⟨i9, h⟩ := nd_ck_e h
      refine va_iast (i := ((v0 * 7) + 0)) (x := 2) hx hb hK hP hD hS 11 8 rfl rfl i9 dX5_answer_30 (fun H locs hP hD hS => ?_)
      obtain ⟨s10, es10, h⟩ := nd_let_e h
      have hP : va_P (dC, dI) vwCl (dw_X5 a ac s10) H := by rw [es10]; exact hP
      have hD : va_D A (dw_X5 a ac s10) := by rw [es10]; exact hD
      refine lv_aload_n hx hb dX5_answer_31 rfl (lv_at hl 0 rfl) ?_
      refine va_get (D := (dC, dI)) (ci := 6) (v := .ref (a 4)) (C := RX5) (T := TX5) (N := 8) hx hb hts hi_dm_X5_answer_X5 hown hK hP 0 rfl rfl 0 (by decide) (hts (.fieldLink RX5 18 "TimeMachine$Kernel" "machine" "LTimeMachine$Machine;") (List.mem_of_getElem? (i := 6) rfl)) (fun _ h9 => h9) rfl dX5_answer_32 ?_
      refine lv_dup hx hb dX5_answer_35 rfl ?_
      refine va_get (D := (dC, dI)) (ci := 7) (v := .int (sI s10.2.2.1 2)) (C := RX6) (T := TX6) (N := 20) hx hb hts hi_dm_X5_answer_X6 hown hK hP 4 rfl rfl 12 (by decide) (hts (.fieldLink RX5 102 "TimeMachine$Machine" "waiting" "I") (List.mem_of_getElem? (i := 7) rfl)) (fun _ h9 => h9) rfl dX5_answer_36 ?_
      refine lv_iconst (v := 1) hx hb dX5_answer_39 (by decide) ?_
      refine lv_iadd hx hb dX5_answer_40 ?_
      refine va_put (D := (dC, dI)) (ci := 7) (v := .int ((sI s10.2.2.1 2) + 1)) (ty := .int) (C := RX6) (T := TX6) (N := 20) hx hb hts hi_dm_X5_answer_X6 tyX6 tyX6_ok nmX6 hown hK hP hD hS 4 rfl rfl 12 (by decide) (hts (.fieldLink RX5 102 "TimeMachine$Machine" "waiting" "I") (List.mem_of_getElem? (i := 7) rfl)) (fun _ h9 => h9) rfl (by decide +kernel) rfl rfl (Nat.le_of_ble_eq_true rfl) dX5_answer_41 (fun H locs hP hD hS => ?_)
      obtain ⟨s11, es11, h⟩ := nd_let_e h
      have hP : va_P (dC, dI) vwCl (dw_X5 a ac s11) H := by rw [es11]; exact hP
      have hD : va_D A (dw_X5 a ac s11) := by rw [es11]; exact hD
      refine lv_goto (tgt := 85) hx hb dX5_answer_44 (by decide) ?_
      exact (db_X5_answer_85 C K)  s11 _ _ _ h hP hD hS (lv_sub hl [] rfl)
  · have h := nd_pos h c1
    refine lv_bipush (v := 7) hx hb dX5_answer_8 (by decide) ?_
    exact K _ _ _ _ _ _ dX5_answer_10 rfl (Option.some.inj h).symm hP hD hS
set_option maxHeartbeats 40000000 in
set_option maxRecDepth 100000 in
theorem dm_X5_answer (l : Launch) (hlt : l.stackTraces = false) (dC : Nat → ClassId) (dI : Nat → Nat → Nat) (a : Nat → Nat) (ac : Nat → ClassId) (n : Nat) (v0 : Int32) (v1 : Int64) (s0 : St × (St × (St × (St)))) {r : Int32 × (St × (St × (St × (St))))} (h : df_X5_answer n v0 v1 s0 = some r) (sz : Nat) : Met l yX5_answer ow_dm_X5_answer ({ frames := 0, cells := 0, slots := 0, locals := 0 }) (va_Pc [.ref (a 0), .int v0, .long v1] (fun U => U.heap.size = sz ∧ va_P (dC, dI) vwCl (dw_X5 a ac s0) U.heap ∧ va_K (dC, dI) vwCl (dk_X5 ac) U ∧ va_D (fun _ => True) (dw_X5 a ac s0) ∧ nv_E dI (va_A (dw_X5 a ac s0) sz) U)) (va_Qi (fun x _ => x = r.1) (fun (_ : Unit) t => va_P (dC, dI) vwCl (dw_X5 a ac r.2) t.heap ∧ va_K (dC, dI) vwCl (dk_X5 ac) t ∧ va_D (va_A (dw_X5 a ac s0) sz) (dw_X5 a ac r.2)) (va_A (dw_X5 a ac s0) sz)) 0 0 (va_A (dw_X5 a ac s0) sz) := by
  refine Met.ofW (cc := cX5_answer) (maxL := 4) (ret := (some .int)) (by decide) rfl ?_
  intro p e s m args below meth c s₁ B hml hv
  obtain ⟨rfl, hsz, hP, hK, hD0, hN⟩ := hv
  have hx := B.exec
  have hb := B.bytes
  have hr := B.returns
  have hts := atoms_spec (ws := ow_dm_X5_answer) B.pre
  have hown : s.vm.findClass RX5 = some m.cls := findClass_of_methodNamed B.named
  have hlocks := B.notSynchronized
  subst hsz
  have hD := hD0.self (sz := s.heap.size)
  generalize hAe : va_A (dw_X5 a ac s0) s.heap.size = A at hD hN ⊢
  have hA : ∀ q : Nat, s.heap.size ≤ q → A q := fun q h => by rw [← hAe]; exact Or.inr h
  have hl := lv_entry ([.ref (a 0), .int v0, .long v1]) (n := 4) (Nat.le_of_ble_eq_true rfl)
  rw [lg_entry_eq]
  generalize (lg_sl ([.ref (a 0), .int v0, .long v1]) ++ List.replicate (4 - (lg_sl ([.ref (a 0), .int v0, .long v1])).length) Slot.unset).toArray = ls at hl ⊢
  have hl : lv_has ls 4 [(0, .ref (a 0)), (1, .int v0), (2, .long v1)] := hl
  exact db_X5_answer_0 (dC := dC) (dI := dI) (a := a) (ac := ac) (n := n) (r := r) ⟨hlt, hx, hb, hml, hown, hts, hN, hA, hK⟩ (fun pc v τ H locs ls d z er hP hD hS => by subst er; exact W.zret (v := v) hx hb hr z (fun t ht hW => ⟨⟨v, (), rfl, rfl, by rw [ht]; exact hP, va_K.moved hW.alike hK, hD⟩, hS.F ht⟩) hS.2.2 d) v0 v1 s0 _ _ _ h hP hD va_S.rf (lv_sub hl [0, 1, 2] rfl)

