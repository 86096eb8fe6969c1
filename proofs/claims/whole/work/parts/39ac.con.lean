set_option maxHeartbeats 40000000 in
set_option maxRecDepth 100000 in
theorem dB_X11_thinOut_2 {p : Program} {l : Launch} {e : Env} {s : State} {m : MethodId} {args : Array Value} {below : List Frame} {meth : Method} {c : Code} {Q : State → Prop} {A : Nat → Prop} {dC : Nat → ClassId} {dI : Nat → Nat → Nat} {a : Nat → Nat} {ac : Nat → ClassId} {n : Nat} {r : St × Rw × (St × (St × (St × (St)))) × (St) × (St) × (Nat → St) × (Nat → St) × (Nat → St × (St))} (C : nd_C p l s m args c A (dC, dI) cX11_thinOut 3 RX11 ow_dm_X11_thinOut (dk_X11 ac)) (K : nd_Kv p l e (headSpec ow_dm_X11_thinOut ({ frames := 0, cells := 0, slots := 0, locals := 0 })).room s m args below meth c Q A (dC, dI) cX11_thinOut (St × Rw × (St × (St × (St × (St)))) × (St) × (St) × (Nat → St) × (Nat → St) × (Nat → St × (St))) (dw_X11 a ac) r) {g2 : Int32 → (St × Rw × (St × (St × (St × (St)))) × (St) × (St) × (Nat → St) × (Nat → St) × (Nat → St × (St))) → Option (St × Rw × (St × (St × (St × (St)))) × (St) × (St) × (Nat → St) × (Nat → St) × (Nat → St × (St)))} (J2 : dj_X11_thinOut_2 p l e s m args below meth c Q A dC dI a ac g2 r) : dj_X11_thinOut_2 p l e s m args below meth c Q A dC dI a ac (dF_X11_thinOut_2 n g2) r := by
  obtain ⟨hlt, hx, hb, hml, hown, hts, hN, hA, hK⟩ := id C
  intro x1 s0 H locs ls h hP hD hS hl
  unfold dF_X11_thinOut_2 at h
  refine lv_iconst (v := 2) hx hb dX11_thinOut_2 (by decide) ?_
  refine lv_iload_n hx hb dX11_thinOut_3 rfl (lv_at hl 1 rfl) ?_
  refine lv_imul hx hb dX11_thinOut_4 ?_
  refine lv_bipush (v := 8) hx hb dX11_thinOut_5 (by decide) ?_
  refine lv_icmp_ge (tgt := 60) hx hb dX11_thinOut_7 (by decide) (fun c1 => ?_) (fun c1 => ?_)
  · have h := nd_pos h c1
    refine lv_aload_n hx hb dX11_thinOut_60 rfl (lv_at hl 0 rfl) ?_
    refine lv_iconst (v := 4) hx hb dX11_thinOut_61 (by decide) ?_
    refine va_put (D := (dC, dI)) (ci := 12) (v := .int 4) (ty := .int) (C := RX11) (T := TX11) (N := 16) hx hb hts hi_dm_X11_thinOut_X11 tyX11 tyX11_ok nmX11 hown hK hP hD hS 0 rfl rfl 9 (by decide) (hts (.fieldLink RX11 85 "TimeMachine$Timeline" "copies" "I") (List.mem_of_getElem? (i := 1) rfl)) (fun _ h9 => h9) rfl (by decide +kernel) rfl rfl (Nat.le_of_ble_eq_true rfl) dX11_thinOut_62 (fun H locs hP hD hS => ?_)
    obtain ⟨s2, es2, h⟩ := nd_let_e h
    have hP : va_P (dC, dI) vwCl (dw_X11 a ac s2) H := by rw [es2]; exact hP
    have hD : va_D A (dw_X11 a ac s2) := by rw [es2]; exact hD
    refine lv_aload_n hx hb dX11_thinOut_65 rfl (lv_at hl 0 rfl) ?_
    refine lv_dup hx hb dX11_thinOut_66 rfl ?_
    refine va_get (D := (dC, dI)) (ci := 12) (v := .int (sI s2.1 2)) (C := RX11) (T := TX11) (N := 16) hx hb hts hi_dm_X11_thinOut_X11 hown hK hP 0 rfl rfl 10 (by decide) (hts (.fieldLink RX11 88 "TimeMachine$Timeline" "spacing" "I") (List.mem_of_getElem? (i := 2) rfl)) (fun _ h9 => h9) rfl dX11_thinOut_67 ?_
    refine lv_iconst (v := 2) hx hb dX11_thinOut_70 (by decide) ?_
    refine lv_imul hx hb dX11_thinOut_71 ?_
    refine va_put (D := (dC, dI)) (ci := 12) (v := .int ((sI s2.1 2) * 2)) (ty := .int) (C := RX11) (T := TX11) (N := 16) hx hb hts hi_dm_X11_thinOut_X11 tyX11 tyX11_ok nmX11 hown hK hP hD hS 0 rfl rfl 10 (by decide) (hts (.fieldLink RX11 88 "TimeMachine$Timeline" "spacing" "I") (List.mem_of_getElem? (i := 2) rfl)) (fun _ h9 => h9) rfl (by decide +kernel) rfl rfl (Nat.le_of_ble_eq_true rfl) dX11_thinOut_72 (fun H locs hP hD hS => ?_)
    obtain ⟨s3, es3, h⟩ := nd_let_e h
    have hP : va_P (dC, dI) vwCl (dw_X11 a ac s3) H := by rw [es3]; exact hP
    have hD : va_D A (dw_X11 a ac s3) := by rw [es3]; exact hD
    exact K _ _ _ _ _ dX11_thinOut_75 (Option.some.inj h).symm hP hD hS
  · have h := nd_neg h c1
    refine lv_aload_n hx hb dX11_thinOut_10 rfl (lv_at hl 0 rfl) ?_
    refine va_get (D := (dC, dI)) (ci := 12) (v := .ref (a 40)) (C := RX11) (T := TX11) (N := 16) hx hb hts hi_dm_X11_thinOut_X11 hown hK hP 0 rfl rfl 7 (by decide) (hts (.fieldLink RX11 48 "TimeMachine$Timeline" "copy" "[LTimeMachine$Machine;") (List.mem_of_getElem? (i := 3) rfl)) (fun _ h9 => h9) rfl dX11_thinOut_11 ?_
    refine lv_iload_n hx hb dX11_thinOut_14 rfl (lv_at hl 1 rfl) ?_
    obtain ⟨i4, h⟩ := nd_ck_e h
    refine va_aldq (i := x1) hx hb hK hP 40 33 rfl rfl i4 dX11_thinOut_15 ?_
    cases hrj5 : s0.2.1 3 (Int32.toNatClampNeg x1) with
    | none =>
      have h := nd_mN h hrj5
      refine W.eq (g2 := F0 m 16 ls [.null]) (by first | rfl | (show F0 m _ ls (va_rf (Option.map (fun j => a (0 + j * 20 + 167)) (s0.2.1 3 (Int32.toNatClampNeg x1))) :: _) = _; rw [hrj5]; rfl)) ?_
      refine lv_astore_nN (lv' := [(2, .null), (0, .ref (a 0)), (1, .int x1)]) hx hb dX11_thinOut_16 rfl hl (by decide) rfl (fun ls hl => ?_)
      refine lv_aload_n hx hb dX11_thinOut_17 rfl (lv_at hl 1 rfl) ?_
      refine va_get (D := (dC, dI)) (ci := 12) (v := .ref (a 40)) (C := RX11) (T := TX11) (N := 16) hx hb hts hi_dm_X11_thinOut_X11 hown hK hP 0 rfl rfl 7 (by decide) (hts (.fieldLink RX11 48 "TimeMachine$Timeline" "copy" "[LTimeMachine$Machine;") (List.mem_of_getElem? (i := 3) rfl)) (fun _ h9 => h9) rfl dX11_thinOut_18 ?_
      refine lv_iload_n hx hb dX11_thinOut_21 rfl (lv_at hl 2 rfl) ?_
      refine lv_aload_n hx hb dX11_thinOut_22 rfl (lv_at hl 1 rfl) ?_
      refine va_get (D := (dC, dI)) (ci := 12) (v := .ref (a 40)) (C := RX11) (T := TX11) (N := 16) hx hb hts hi_dm_X11_thinOut_X11 hown hK hP 0 rfl rfl 7 (by decide) (hts (.fieldLink RX11 48 "TimeMachine$Timeline" "copy" "[LTimeMachine$Machine;") (List.mem_of_getElem? (i := 3) rfl)) (fun _ h9 => h9) rfl dX11_thinOut_23 ?_
      refine lv_iconst (v := 2) hx hb dX11_thinOut_26 (by decide) ?_
      refine lv_iload_n hx hb dX11_thinOut_27 rfl (lv_at hl 2 rfl) ?_
      refine lv_imul hx hb dX11_thinOut_28 ?_
      obtain ⟨i6, h⟩ := nd_ck_e h
      refine va_aldq (i := (2 * x1)) hx hb hK hP 40 33 rfl rfl i6 dX11_thinOut_29 ?_
      cases hrj7 : s0.2.1 3 (Int32.toNatClampNeg ((2 * x1) : Int32)) with
      | none =>
        have h := nd_mN h hrj7
        refine W.eq (g2 := F0 m 30 ls [.null, .int x1, .ref (a 40)]) (by first | rfl | (show F0 m _ ls (va_rf (Option.map (fun j => a (0 + j * 20 + 167)) (s0.2.1 3 (Int32.toNatClampNeg ((2 * x1) : Int32)))) :: _) = _; rw [hrj7]; rfl)) ?_
        obtain ⟨i8, h⟩ := nd_ck_e h
        refine va_astqN (i := x1) hx hb hK hP hD hS 40 33 rfl rfl i8 dX11_thinOut_30 (fun H locs hP hD hS => ?_)
        have hP : va_P (dC, dI) vwCl ((dw_X11 a ac s0).set 40 (a 40, .inl (ac 40, 8, .inr (.inr (.inr (.inr (va_up (fun i => Option.map (fun j => a (0 + j * 20 + 167)) (s0.2.1 3 i)) (Int32.toNatClampNeg x1) (Option.map (fun j => a (0 + j * 20 + 167)) none)))))))) H := hP
        have hD : va_D A ((dw_X11 a ac s0).set 40 (a 40, .inl (ac 40, 8, .inr (.inr (.inr (.inr (va_up (fun i => Option.map (fun j => a (0 + j * 20 + 167)) (s0.2.1 3 i)) (Int32.toNatClampNeg x1) (Option.map (fun j => a (0 + j * 20 + 167)) none)))))))) := hD
        rw [nd_up] at hP hD
        obtain ⟨s9, es9, h⟩ := nd_let_e h
        have hP : va_P (dC, dI) vwCl (dw_X11 a ac s9) H := by rw [es9]; exact hP
        have hD : va_D A (dw_X11 a ac s9) := by rw [es9]; exact hD
        refine lv_aload_n hx hb dX11_thinOut_31 rfl (lv_at hl 1 rfl) ?_
        refine va_get (D := (dC, dI)) (ci := 12) (v := .ref (a 40)) (C := RX11) (T := TX11) (N := 16) hx hb hts hi_dm_X11_thinOut_X11 hown hK hP 0 rfl rfl 7 (by decide) (hts (.fieldLink RX11 48 "TimeMachine$Timeline" "copy" "[LTimeMachine$Machine;") (List.mem_of_getElem? (i := 3) rfl)) (fun _ h9 => h9) rfl dX11_thinOut_32 ?_
        refine lv_iconst (v := 2) hx hb dX11_thinOut_35 (by decide) ?_
        refine lv_iload_n hx hb dX11_thinOut_36 rfl (lv_at hl 2 rfl) ?_
        refine lv_imul hx hb dX11_thinOut_37 ?_
        refine lv_aload_nN hx hb dX11_thinOut_38 rfl (lv_at hl 0 rfl) ?_
        obtain ⟨i10, h⟩ := nd_ck_e h
        refine va_astqN (i := (2 * x1)) hx hb hK hP hD hS 40 33 rfl rfl i10 dX11_thinOut_39 (fun H locs hP hD hS => ?_)
        have hP : va_P (dC, dI) vwCl ((dw_X11 a ac s9).set 40 (a 40, .inl (ac 40, 8, .inr (.inr (.inr (.inr (va_up (fun i => Option.map (fun j => a (0 + j * 20 + 167)) (s9.2.1 3 i)) (Int32.toNatClampNeg ((2 * x1) : Int32)) (Option.map (fun j => a (0 + j * 20 + 167)) none)))))))) H := hP
        have hD : va_D A ((dw_X11 a ac s9).set 40 (a 40, .inl (ac 40, 8, .inr (.inr (.inr (.inr (va_up (fun i => Option.map (fun j => a (0 + j * 20 + 167)) (s9.2.1 3 i)) (Int32.toNatClampNeg ((2 * x1) : Int32)) (Option.map (fun j => a (0 + j * 20 + 167)) none)))))))) := hD
        rw [nd_up] at hP hD
        obtain ⟨s11, es11, h⟩ := nd_let_e h
        have hP : va_P (dC, dI) vwCl (dw_X11 a ac s11) H := by rw [es11]; exact hP
        have hD : va_D A (dw_X11 a ac s11) := by rw [es11]; exact hD
        refine lv_aload_n hx hb dX11_thinOut_40 rfl (lv_at hl 1 rfl) ?_
        refine va_get (D := (dC, dI)) (ci := 12) (v := .ref (a 2)) (C := RX11) (T := TX11) (N := 16) hx hb hts hi_dm_X11_thinOut_X11 hown hK hP 0 rfl rfl 8 (by decide) (hts (.fieldLink RX11 52 "TimeMachine$Timeline" "copyAt" "[I") (List.mem_of_getElem? (i := 4) rfl)) (fun _ h9 => h9) rfl dX11_thinOut_41 ?_
        refine lv_iload_n hx hb dX11_thinOut_44 rfl (lv_at hl 2 rfl) ?_
        refine lv_aload_n hx hb dX11_thinOut_45 rfl (lv_at hl 1 rfl) ?_
        refine va_get (D := (dC, dI)) (ci := 12) (v := .ref (a 2)) (C := RX11) (T := TX11) (N := 16) hx hb hts hi_dm_X11_thinOut_X11 hown hK hP 0 rfl rfl 8 (by decide) (hts (.fieldLink RX11 52 "TimeMachine$Timeline" "copyAt" "[I") (List.mem_of_getElem? (i := 4) rfl)) (fun _ h9 => h9) rfl dX11_thinOut_46 ?_
        refine lv_iconst (v := 2) hx hb dX11_thinOut_49 (by decide) ?_
        refine lv_iload_n hx hb dX11_thinOut_50 rfl (lv_at hl 2 rfl) ?_
        refine lv_imul hx hb dX11_thinOut_51 ?_
        obtain ⟨i12, h⟩ := nd_ck_e h
        refine va_iald (i := (2 * x1)) hx hb hK hP 2 1 rfl rfl i12 dX11_thinOut_52 ?_
        obtain ⟨i13, h⟩ := nd_ck_e h
        refine va_iast (i := x1) (x := (sR s11.1 1 (Int32.toNatClampNeg (2 * x1)))) hx hb hK hP hD hS 2 1 rfl rfl i13 dX11_thinOut_53 (fun H locs hP hD hS => ?_)
        obtain ⟨s14, es14, h⟩ := nd_let_e h
        have hP : va_P (dC, dI) vwCl (dw_X11 a ac s14) H := by rw [es14]; exact hP
        have hD : va_D A (dw_X11 a ac s14) := by rw [es14]; exact hD
        obtain ⟨z15, ez15, h⟩ := nd_let_e h
        refine lv_iinc (v := z15) (lv' := [(1, .int z15), (2, .null), (0, .ref (a 0))]) hx hb dX11_thinOut_54 hl (k := 2) rfl (by rw [ez15]) (by decide) rfl (fun ls hl => ?_)
        refine lv_goto (tgt := 2) hx hb dX11_thinOut_57 (by decide) ?_
        exact (J2) (z15) s14 _ _ _ h hP hD hS (lv_sub hl [2, 0] rfl)
      | some j7 =>
        have h := nd_mS h hrj7
        refine W.eq (g2 := F0 m 30 ls [.ref (a (0 + j7 * 20 + 167)), .int x1, .ref (a 40)]) (by first | rfl | (show F0 m _ ls (va_rf (Option.map (fun j => a (0 + j * 20 + 167)) (s0.2.1 3 (Int32.toNatClampNeg ((2 * x1) : Int32)))) :: _) = _; rw [hrj7]; rfl)) ?_
        obtain ⟨i16, h⟩ := nd_ck_e h
        obtain ⟨l17, h⟩ := nd_lt_e h
        obtain ⟨qk, vs, hqk⟩ := dv_X11_C6 (a := a) (ac := ac) (σ := s0) l17
        refine va_astq (i := x1) (r := (RX6, TX6, 20)) hx hb hK hP hD hS 40 33 qk 7 rfl rfl hqk rfl i16 dX11_thinOut_30 (fun H locs hP hD hS => ?_)
        have hP : va_P (dC, dI) vwCl ((dw_X11 a ac s0).set 40 (a 40, .inl (ac 40, 8, .inr (.inr (.inr (.inr (va_up (fun i => Option.map (fun j => a (0 + j * 20 + 167)) (s0.2.1 3 i)) (Int32.toNatClampNeg x1) (Option.map (fun j => a (0 + j * 20 + 167)) (some j7))))))))) H := hP
        have hD : va_D A ((dw_X11 a ac s0).set 40 (a 40, .inl (ac 40, 8, .inr (.inr (.inr (.inr (va_up (fun i => Option.map (fun j => a (0 + j * 20 + 167)) (s0.2.1 3 i)) (Int32.toNatClampNeg x1) (Option.map (fun j => a (0 + j * 20 + 167)) (some j7))))))))) := hD
        rw [nd_up] at hP hD
        obtain ⟨s18, es18, h⟩ := nd_let_e h
        have hP : va_P (dC, dI) vwCl (dw_X11 a ac s18) H := by rw [es18]; exact hP
        have hD : va_D A (dw_X11 a ac s18) := by rw [es18]; exact hD
        refine lv_aload_n hx hb dX11_thinOut_31 rfl (lv_at hl 1 rfl) ?_
        refine va_get (D := (dC, dI)) (ci := 12) (v := .ref (a 40)) (C := RX11) (T := TX11) (N := 16) hx hb hts hi_dm_X11_thinOut_X11 hown hK hP 0 rfl rfl 7 (by decide) (hts (.fieldLink RX11 48 "TimeMachine$Timeline" "copy" "[LTimeMachine$Machine;") (List.mem_of_getElem? (i := 3) rfl)) (fun _ h9 => h9) rfl dX11_thinOut_32 ?_
        refine lv_iconst (v := 2) hx hb dX11_thinOut_35 (by decide) ?_
        refine lv_iload_n hx hb dX11_thinOut_36 rfl (lv_at hl 2 rfl) ?_
        refine lv_imul hx hb dX11_thinOut_37 ?_
        refine lv_aload_nN hx hb dX11_thinOut_38 rfl (lv_at hl 0 rfl) ?_
        obtain ⟨i19, h⟩ := nd_ck_e h
        refine va_astqN (i := (2 * x1)) hx hb hK hP hD hS 40 33 rfl rfl i19 dX11_thinOut_39 (fun H locs hP hD hS => ?_)
        have hP : va_P (dC, dI) vwCl ((dw_X11 a ac s18).set 40 (a 40, .inl (ac 40, 8, .inr (.inr (.inr (.inr (va_up (fun i => Option.map (fun j => a (0 + j * 20 + 167)) (s18.2.1 3 i)) (Int32.toNatClampNeg ((2 * x1) : Int32)) (Option.map (fun j => a (0 + j * 20 + 167)) none)))))))) H := hP
        have hD : va_D A ((dw_X11 a ac s18).set 40 (a 40, .inl (ac 40, 8, .inr (.inr (.inr (.inr (va_up (fun i => Option.map (fun j => a (0 + j * 20 + 167)) (s18.2.1 3 i)) (Int32.toNatClampNeg ((2 * x1) : Int32)) (Option.map (fun j => a (0 + j * 20 + 167)) none)))))))) := hD
        rw [nd_up] at hP hD
        obtain ⟨s20, es20, h⟩ := nd_let_e h
        have hP : va_P (dC, dI) vwCl (dw_X11 a ac s20) H := by rw [es20]; exact hP
        have hD : va_D A (dw_X11 a ac s20) := by rw [es20]; exact hD
        refine lv_aload_n hx hb dX11_thinOut_40 rfl (lv_at hl 1 rfl) ?_
        refine va_get (D := (dC, dI)) (ci := 12) (v := .ref (a 2)) (C := RX11) (T := TX11) (N := 16) hx hb hts hi_dm_X11_thinOut_X11 hown hK hP 0 rfl rfl 8 (by decide) (hts (.fieldLink RX11 52 "TimeMachine$Timeline" "copyAt" "[I") (List.mem_of_getElem? (i := 4) rfl)) (fun _ h9 => h9) rfl dX11_thinOut_41 ?_
        refine lv_iload_n hx hb dX11_thinOut_44 rfl (lv_at hl 2 rfl) ?_
        refine lv_aload_n hx hb dX11_thinOut_45 rfl (lv_at hl 1 rfl) ?_
        refine va_get (D := (dC, dI)) (ci := 12) (v := .ref (a 2)) (C := RX11) (T := TX11) (N := 16) hx hb hts hi_dm_X11_thinOut_X11 hown hK hP 0 rfl rfl 8 (by decide) (hts (.fieldLink RX11 52 "TimeMachine$Timeline" "copyAt" "[I") (List.mem_of_getElem? (i := 4) rfl)) (fun _ h9 => h9) rfl dX11_thinOut_46 ?_
        refine lv_iconst (v := 2) hx hb dX11_thinOut_49 (by decide) ?_
        refine lv_iload_n hx hb dX11_thinOut_50 rfl (lv_at hl 2 rfl) ?_
        refine lv_imul hx hb dX11_thinOut_51 ?_
        obtain ⟨i21, h⟩ := nd_ck_e h
        refine va_iald (i := (2 * x1)) hx hb hK hP 2 1 rfl rfl i21 dX11_thinOut_52 ?_
        obtain ⟨i22, h⟩ := nd_ck_e h
        refine va_iast (i := x1) (x := (sR s20.1 1 (Int32.toNatClampNeg (2 * x1)))) hx hb hK hP hD hS 2 1 rfl rfl i22 dX11_thinOut_53 (fun H locs hP hD hS => ?_)
        obtain ⟨s23, es23, h⟩ := nd_let_e h
        have hP : va_P (dC, dI) vwCl (dw_X11 a ac s23) H := by rw [es23]; exact hP
        have hD : va_D A (dw_X11 a ac s23) := by rw [es23]; exact hD
        obtain ⟨z24, ez24, h⟩ := nd_let_e h
        refine lv_iinc (v := z24) (lv' := [(1, .int z24), (2, .null), (0, .ref (a 0))]) hx hb dX11_thinOut_54 hl (k := 2) rfl (by rw [ez24]) (by decide) rfl (fun ls hl => ?_)
        refine lv_goto (tgt := 2) hx hb dX11_thinOut_57 (by decide) ?_
        exact (J2) (z24) s23 _ _ _ h hP hD hS (lv_sub hl [2, 0] rfl)
    | some j5 =>
      have h := nd_mS h hrj5
      refine W.eq (g2 := F0 m 16 ls [.ref (a (0 + j5 * 20 + 167))]) (by first | rfl | (show F0 m _ ls (va_rf (Option.map (fun j => a (0 + j * 20 + 167)) (s0.2.1 3 (Int32.toNatClampNeg x1))) :: _) = _; rw [hrj5]; rfl)) ?_
      refine lv_astore_n (lv' := [(2, .ref (a (0 + j5 * 20 + 167))), (0, .ref (a 0)), (1, .int x1)]) hx hb dX11_thinOut_16 rfl hl (by decide) rfl (fun ls hl => ?_)
      refine lv_aload_n hx hb dX11_thinOut_17 rfl (lv_at hl 1 rfl) ?_
      refine va_get (D := (dC, dI)) (ci := 12) (v := .ref (a 40)) (C := RX11) (T := TX11) (N := 16) hx hb hts hi_dm_X11_thinOut_X11 hown hK hP 0 rfl rfl 7 (by decide) (hts (.fieldLink RX11 48 "TimeMachine$Timeline" "copy" "[LTimeMachine$Machine;") (List.mem_of_getElem? (i := 3) rfl)) (fun _ h9 => h9) rfl dX11_thinOut_18 ?_
      refine lv_iload_n hx hb dX11_thinOut_21 rfl (lv_at hl 2 rfl) ?_
      refine lv_aload_n hx hb dX11_thinOut_22 rfl (lv_at hl 1 rfl) ?_
      refine va_get (D := (dC, dI)) (ci := 12) (v := .ref (a 40)) (C := RX11) (T := TX11) (N := 16) hx hb hts hi_dm_X11_thinOut_X11 hown hK hP 0 rfl rfl 7 (by decide) (hts (.fieldLink RX11 48 "TimeMachine$Timeline" "copy" "[LTimeMachine$Machine;") (List.mem_of_getElem? (i := 3) rfl)) (fun _ h9 => h9) rfl dX11_thinOut_23 ?_
      refine lv_iconst (v := 2) hx hb dX11_thinOut_26 (by decide) ?_
      refine lv_iload_n hx hb dX11_thinOut_27 rfl (lv_at hl 2 rfl) ?_
      refine lv_imul hx hb dX11_thinOut_28 ?_
      obtain ⟨i25, h⟩ := nd_ck_e h
      refine va_aldq (i := (2 * x1)) hx hb hK hP 40 33 rfl rfl i25 dX11_thinOut_29 ?_
      cases hrj26 : s0.2.1 3 (Int32.toNatClampNeg ((2 * x1) : Int32)) with
      | none =>
        have h := nd_mN h hrj26
        refine W.eq (g2 := F0 m 30 ls [.null, .int x1, .ref (a 40)]) (by first | rfl | (show F0 m _ ls (va_rf (Option.map (fun j => a (0 + j * 20 + 167)) (s0.2.1 3 (Int32.toNatClampNeg ((2 * x1) : Int32)))) :: _) = _; rw [hrj26]; rfl)) ?_
        obtain ⟨i27, h⟩ := nd_ck_e h
        refine va_astqN (i := x1) hx hb hK hP hD hS 40 33 rfl rfl i27 dX11_thinOut_30 (fun H locs hP hD hS => ?_)
        have hP : va_P (dC, dI) vwCl ((dw_X11 a ac s0).set 40 (a 40, .inl (ac 40, 8, .inr (.inr (.inr (.inr (va_up (fun i => Option.map (fun j => a (0 + j * 20 + 167)) (s0.2.1 3 i)) (Int32.toNatClampNeg x1) (Option.map (fun j => a (0 + j * 20 + 167)) none)))))))) H := hP
        have hD : va_D A ((dw_X11 a ac s0).set 40 (a 40, .inl (ac 40, 8, .inr (.inr (.inr (.inr (va_up (fun i => Option.map (fun j => a (0 + j * 20 + 167)) (s0.2.1 3 i)) (Int32.toNatClampNeg x1) (Option.map (fun j => a (0 + j * 20 + 167)) none)))))))) := hD
        rw [nd_up] at hP hD
        obtain ⟨s28, es28, h⟩ := nd_let_e h
        have hP : va_P (dC, dI) vwCl (dw_X11 a ac s28) H := by rw [es28]; exact hP
        have hD : va_D A (dw_X11 a ac s28) := by rw [es28]; exact hD
        refine lv_aload_n hx hb dX11_thinOut_31 rfl (lv_at hl 1 rfl) ?_
        refine va_get (D := (dC, dI)) (ci := 12) (v := .ref (a 40)) (C := RX11) (T := TX11) (N := 16) hx hb hts hi_dm_X11_thinOut_X11 hown hK hP 0 rfl rfl 7 (by decide) (hts (.fieldLink RX11 48 "TimeMachine$Timeline" "copy" "[LTimeMachine$Machine;") (List.mem_of_getElem? (i := 3) rfl)) (fun _ h9 => h9) rfl dX11_thinOut_32 ?_
        refine lv_iconst (v := 2) hx hb dX11_thinOut_35 (by decide) ?_
        refine lv_iload_n hx hb dX11_thinOut_36 rfl (lv_at hl 2 rfl) ?_
        refine lv_imul hx hb dX11_thinOut_37 ?_
        refine lv_aload_n hx hb dX11_thinOut_38 rfl (lv_at hl 0 rfl) ?_
        obtain ⟨i29, h⟩ := nd_ck_e h
        obtain ⟨l30, h⟩ := nd_lt_e h
        obtain ⟨qk, vs, hqk⟩ := dv_X11_C6 (a := a) (ac := ac) (σ := s28) l30
        refine va_astq (i := (2 * x1)) (r := (RX6, TX6, 20)) hx hb hK hP hD hS 40 33 qk 7 rfl rfl hqk rfl i29 dX11_thinOut_39 (fun H locs hP hD hS => ?_)
        have hP : va_P (dC, dI) vwCl ((dw_X11 a ac s28).set 40 (a 40, .inl (ac 40, 8, .inr (.inr (.inr (.inr (va_up (fun i => Option.map (fun j => a (0 + j * 20 + 167)) (s28.2.1 3 i)) (Int32.toNatClampNeg ((2 * x1) : Int32)) (Option.map (fun j => a (0 + j * 20 + 167)) (some j5))))))))) H := hP
        have hD : va_D A ((dw_X11 a ac s28).set 40 (a 40, .inl (ac 40, 8, .inr (.inr (.inr (.inr (va_up (fun i => Option.map (fun j => a (0 + j * 20 + 167)) (s28.2.1 3 i)) (Int32.toNatClampNeg ((2 * x1) : Int32)) (Option.map (fun j => a (0 + j * 20 + 167)) (some j5))))))))) := hD
        rw [nd_up] at hP hD
        obtain ⟨s31, es31, h⟩ := nd_let_e h
        have hP : va_P (dC, dI) vwCl (dw_X11 a ac s31) H := by rw [es31]; exact hP
        have hD : va_D A (dw_X11 a ac s31) := by rw [es31]; exact hD
        refine lv_aload_n hx hb dX11_thinOut_40 rfl (lv_at hl 1 rfl) ?_
        refine va_get (D := (dC, dI)) (ci := 12) (v := .ref (a 2)) (C := RX11) (T := TX11) (N := 16) hx hb hts hi_dm_X11_thinOut_X11 hown hK hP 0 rfl rfl 8 (by decide) (hts (.fieldLink RX11 52 "TimeMachine$Timeline" "copyAt" "[I") (List.mem_of_getElem? (i := 4) rfl)) (fun _ h9 => h9) rfl dX11_thinOut_41 ?_
        refine lv_iload_n hx hb dX11_thinOut_44 rfl (lv_at hl 2 rfl) ?_
        refine lv_aload_n hx hb dX11_thinOut_45 rfl (lv_at hl 1 rfl) ?_
        refine va_get (D := (dC, dI)) (ci := 12) (v := .ref (a 2)) (C := RX11) (T := TX11) (N := 16) hx hb hts hi_dm_X11_thinOut_X11 hown hK hP 0 rfl rfl 8 (by decide) (hts (.fieldLink RX11 52 "TimeMachine$Timeline" "copyAt" "[I") (List.mem_of_getElem? (i := 4) rfl)) (fun _ h9 => h9) rfl dX11_thinOut_46 ?_
        refine lv_iconst (v := 2) hx hb dX11_thinOut_49 (by decide) ?_
        refine lv_iload_n hx hb dX11_thinOut_50 rfl (lv_at hl 2 rfl) ?_
        refine lv_imul hx hb dX11_thinOut_51 ?_
        obtain ⟨i32, h⟩ := nd_ck_e h
        refine va_iald (i := (2 * x1)) hx hb hK hP 2 1 rfl rfl i32 dX11_thinOut_52 ?_
        obtain ⟨i33, h⟩ := nd_ck_e h
        refine va_iast (i := x1) (x := (sR s31.1 1 (Int32.toNatClampNeg (2 * x1)))) hx hb hK hP hD hS 2 1 rfl rfl i33 dX11_thinOut_53 (fun H locs hP hD hS => ?_)
        obtain ⟨s34, es34, h⟩ := nd_let_e h
        have hP : va_P (dC, dI) vwCl (dw_X11 a ac s34) H := by rw [es34]; exact hP
        have hD : va_D A (dw_X11 a ac s34) := by rw [es34]; exact hD
        obtain ⟨z35, ez35, h⟩ := nd_let_e h
        refine lv_iinc (v := z35) (lv' := [(1, .int z35), (2, .ref (a (0 + j5 * 20 + 167))), (0, .ref (a 0))]) hx hb dX11_thinOut_54 hl (k := 2) rfl (by rw [ez35]) (by decide) rfl (fun ls hl => ?_)
        refine lv_goto (tgt := 2) hx hb dX11_thinOut_57 (by decide) ?_
        exact (J2) (z35) s34 _ _ _ h hP hD hS (lv_sub hl [2, 0] rfl)
      | some j26 =>
        have h := nd_mS h hrj26
        refine W.eq (g2 := F0 m 30 ls [.ref (a (0 + j26 * 20 + 167)), .int x1, .ref (a 40)]) (by first | rfl | (show F0 m _ ls (va_rf (Option.map (fun j => a (0 + j * 20 + 167)) (s0.2.1 3 (Int32.toNatClampNeg ((2 * x1) : Int32)))) :: _) = _; rw [hrj26]; rfl)) ?_
        obtain ⟨i36, h⟩ := nd_ck_e h
        obtain ⟨l37, h⟩ := nd_lt_e h
        obtain ⟨qk, vs, hqk⟩ := dv_X11_C6 (a := a) (ac := ac) (σ := s0) l37
        refine va_astq (i := x1) (r := (RX6, TX6, 20)) hx hb hK hP hD hS 40 33 qk 7 rfl rfl hqk rfl i36 dX11_thinOut_30 (fun H locs hP hD hS => ?_)
        have hP : va_P (dC, dI) vwCl ((dw_X11 a ac s0).set 40 (a 40, .inl (ac 40, 8, .inr (.inr (.inr (.inr (va_up (fun i => Option.map (fun j => a (0 + j * 20 + 167)) (s0.2.1 3 i)) (Int32.toNatClampNeg x1) (Option.map (fun j => a (0 + j * 20 + 167)) (some j26))))))))) H := hP
        have hD : va_D A ((dw_X11 a ac s0).set 40 (a 40, .inl (ac 40, 8, .inr (.inr (.inr (.inr (va_up (fun i => Option.map (fun j => a (0 + j * 20 + 167)) (s0.2.1 3 i)) (Int32.toNatClampNeg x1) (Option.map (fun j => a (0 + j * 20 + 167)) (some j26))))))))) := hD
        rw [nd_up] at hP hD
        obtain ⟨s38, es38, h⟩ := nd_let_e h
        have hP : va_P (dC, dI) vwCl (dw_X11 a ac s38) H := by rw [es38]; exact hP
        have hD : va_D A (dw_X11 a ac s38) := by rw [es38]; exact hD
        refine lv_aload_n hx hb dX11_thinOut_31 rfl (lv_at hl 1 rfl) ?_
        refine va_get (D := (dC, dI)) (ci := 12) (v := .ref (a 40)) (C := RX11) (T := TX11) (N := 16) hx hb hts hi_dm_X11_thinOut_X11 hown hK hP 0 rfl rfl 7 (by decide) (hts (.fieldLink RX11 48 "TimeMachine$Timeline" "copy" "[LTimeMachine$Machine;") (List.mem_of_getElem? (i := 3) rfl)) (fun _ h9 => h9) rfl dX11_thinOut_32 ?_
        refine lv_iconst (v := 2) hx hb dX11_thinOut_35 (by decide) ?_
        refine lv_iload_n hx hb dX11_thinOut_36 rfl (lv_at hl 2 rfl) ?_
        refine lv_imul hx hb dX11_thinOut_37 ?_
        refine lv_aload_n hx hb dX11_thinOut_38 rfl (lv_at hl 0 rfl) ?_
        obtain ⟨i39, h⟩ := nd_ck_e h
        obtain ⟨l40, h⟩ := nd_lt_e h
        obtain ⟨qk, vs, hqk⟩ := dv_X11_C6 (a := a) (ac := ac) (σ := s38) l40
        refine va_astq (i := (2 * x1)) (r := (RX6, TX6, 20)) hx hb hK hP hD hS 40 33 qk 7 rfl rfl hqk rfl i39 dX11_thinOut_39 (fun H locs hP hD hS => ?_)
        have hP : va_P (dC, dI) vwCl ((dw_X11 a ac s38).set 40 (a 40, .inl (ac 40, 8, .inr (.inr (.inr (.inr (va_up (fun i => Option.map (fun j => a (0 + j * 20 + 167)) (s38.2.1 3 i)) (Int32.toNatClampNeg ((2 * x1) : Int32)) (Option.map (fun j => a (0 + j * 20 + 167)) (some j5))))))))) H := hP
        have hD : va_D A ((dw_X11 a ac s38).set 40 (a 40, .inl (ac 40, 8, .inr (.inr (.inr (.inr (va_up (fun i => Option.map (fun j => a (0 + j * 20 + 167)) (s38.2.1 3 i)) (Int32.toNatClampNeg ((2 * x1) : Int32)) (Option.map (fun j => a (0 + j * 20 + 167)) (some j5))))))))) := hD
        rw [nd_up] at hP hD
        obtain ⟨s41, es41, h⟩ := nd_let_e h
        have hP : va_P (dC, dI) vwCl (dw_X11 a ac s41) H := by rw [es41]; exact hP
        have hD : va_D A (dw_X11 a ac s41) := by rw [es41]; exact hD
        refine lv_aload_n hx hb dX11_thinOut_40 rfl (lv_at hl 1 rfl) ?_
        refine va_get (D := (dC, dI)) (ci := 12) (v := .ref (a 2)) (C := RX11) (T := TX11) (N := 16) hx hb hts hi_dm_X11_thinOut_X11 hown hK hP 0 rfl rfl 8 (by decide) (hts (.fieldLink RX11 52 "TimeMachine$Timeline" "copyAt" "[I") (List.mem_of_getElem? (i := 4) rfl)) (fun _ h9 => h9) rfl dX11_thinOut_41 ?_
        refine lv_iload_n hx hb dX11_thinOut_44 rfl (lv_at hl 2 rfl) ?_
        refine lv_aload_n hx hb dX11_thinOut_45 rfl (lv_at hl 1 rfl) ?_
        refine va_get (D := (dC, dI)) (ci := 12) (v := .ref (a 2)) (C := RX11) (T := TX11) (N := 16) hx hb hts hi_dm_X11_thinOut_X11 hown hK hP 0 rfl rfl 8 (by decide) (hts (.fieldLink RX11 52 "TimeMachine$Timeline" "copyAt" "[I") (List.mem_of_getElem? (i := 4) rfl)) (fun _ h9 => h9) rfl dX11_thinOut_46 ?_
        refine lv_iconst (v := 2) hx hb dX11_thinOut_49 (by decide) ?_
        refine lv_iload_n hx hb dX11_thinOut_50 rfl (lv_at hl 2 rfl) ?_
        refine lv_imul hx hb dX11_thinOut_51 ?_
        obtain ⟨i42, h⟩ := nd_ck_e h
        refine va_iald (i := (2 * x1)) hx hb hK hP 2 1 rfl rfl i42 dX11_thinOut_52 ?_
        obtain ⟨i43, h⟩ := nd_ck_e h
        refine va_iast (i := x1) (x := (sR s41.1 1 (Int32.toNatClampNeg (2 * x1)))) hx hb hK hP hD hS 2 1 rfl rfl i43 dX11_thinOut_53 (fun H locs hP hD hS => ?_)
        obtain ⟨s44, es44, h⟩ := nd_let_e h
        have hP : va_P (dC, dI) vwCl (dw_X11 a ac s44) H := by rw [es44]; exact hP
        have hD : va_D A (dw_X11 a ac s44) := by rw [es44]; exact hD
        obtain ⟨z45, ez45, h⟩ := nd_let_e h
        refine lv_iinc (v := z45) (lv' := [(1, .int z45), (2, .ref (a (0 + j5 * 20 + 167))), (0, .ref (a 0))]) hx hb dX11_thinOut_54 hl (k := 2) rfl (by rw [ez45]) (by decide) rfl (fun ls hl => ?_)
        refine lv_goto (tgt := 2) hx hb dX11_thinOut_57 (by decide) ?_
        exact (J2) (z45) s44 _ _ _ h hP hD hS (lv_sub hl [2, 0] rfl)
set_option maxHeartbeats 40000000 in
set_option maxRecDepth 100000 in
theorem db_X11_thinOut_2 {p : Program} {l : Launch} {e : Env} {s : State} {m : MethodId} {args : Array Value} {below : List Frame} {meth : Method} {c : Code} {Q : State → Prop} {A : Nat → Prop} {dC : Nat → ClassId} {dI : Nat → Nat → Nat} {a : Nat → Nat} {ac : Nat → ClassId} {n : Nat} {r : St × Rw × (St × (St × (St × (St)))) × (St) × (St) × (Nat → St) × (Nat → St) × (Nat → St × (St))} (C : nd_C p l s m args c A (dC, dI) cX11_thinOut 3 RX11 ow_dm_X11_thinOut (dk_X11 ac)) (K : nd_Kv p l e (headSpec ow_dm_X11_thinOut ({ frames := 0, cells := 0, slots := 0, locals := 0 })).room s m args below meth c Q A (dC, dI) cX11_thinOut (St × Rw × (St × (St × (St × (St)))) × (St) × (St) × (Nat → St) × (Nat → St) × (Nat → St × (St))) (dw_X11 a ac) r) (k : Nat) : dj_X11_thinOut_2 p l e s m args below meth c Q A dC dI a ac (df_X11_thinOut_2 n k) r := by
  induction k with
  | zero => intro x1 s0 H locs ls h; exact nomatch (show (none : Option (St × Rw × (St × (St × (St × (St)))) × (St) × (St) × (Nat → St) × (Nat → St) × (Nat → St × (St)))) = some r from h)
  | succ k ih => exact dB_X11_thinOut_2 C K ih
set_option maxHeartbeats 40000000 in
set_option maxRecDepth 100000 in
theorem db_X11_thinOut_0 {p : Program} {l : Launch} {e : Env} {s : State} {m : MethodId} {args : Array Value} {below : List Frame} {meth : Method} {c : Code} {Q : State → Prop} {A : Nat → Prop} {dC : Nat → ClassId} {dI : Nat → Nat → Nat} {a : Nat → Nat} {ac : Nat → ClassId} {n : Nat} {r : St × Rw × (St × (St × (St × (St)))) × (St) × (St) × (Nat → St) × (Nat → St) × (Nat → St × (St))} (C : nd_C p l s m args c A (dC, dI) cX11_thinOut 3 RX11 ow_dm_X11_thinOut (dk_X11 ac)) (K : nd_Kv p l e (headSpec ow_dm_X11_thinOut ({ frames := 0, cells := 0, slots := 0, locals := 0 })).room s m args below meth c Q A (dC, dI) cX11_thinOut (St × Rw × (St × (St × (St × (St)))) × (St) × (St) × (Nat → St) × (Nat → St) × (Nat → St × (St))) (dw_X11 a ac) r) : dj_X11_thinOut_0 p l e s m args below meth c Q A dC dI a ac (df_X11_thinOut_0 n) r := by
  obtain ⟨hlt, hx, hb, hml, hown, hts, hN, hA, hK⟩ := id C
  intro s0 H locs ls h hP hD hS hl
  unfold df_X11_thinOut_0 at h
  refine lv_iconst (v := 1) hx hb dX11_thinOut_0 (by decide) ?_
  refine lv_istore_n (lv' := [(1, .int 1), (0, .ref (a 0))]) hx hb dX11_thinOut_1 rfl hl (by decide) rfl (fun ls hl => ?_)
  exact (db_X11_thinOut_2 C K n) (1) s0 _ _ _ h hP hD hS (lv_sub hl [1, 0] rfl)
set_option maxHeartbeats 40000000 in
set_option maxRecDepth 100000 in
theorem dm_X11_thinOut (l : Launch) (hlt : l.stackTraces = false) (dC : Nat → ClassId) (dI : Nat → Nat → Nat) (a : Nat → Nat) (ac : Nat → ClassId) (n : Nat) (s0 : St × Rw × (St × (St × (St × (St)))) × (St) × (St) × (Nat → St) × (Nat → St) × (Nat → St × (St))) {r : St × Rw × (St × (St × (St × (St)))) × (St) × (St) × (Nat → St) × (Nat → St) × (Nat → St × (St))} (h : df_X11_thinOut n s0 = some r) (sz : Nat) : Met l yX11_thinOut ow_dm_X11_thinOut ({ frames := 0, cells := 0, slots := 0, locals := 0 }) (va_Pc [.ref (a 0)] (fun U => U.heap.size = sz ∧ va_P (dC, dI) vwCl (dw_X11 a ac s0) U.heap ∧ va_K (dC, dI) vwCl (dk_X11 ac) U ∧ va_D (fun _ => True) (dw_X11 a ac s0) ∧ nv_E (va_A (dw_X11 a ac s0) sz) U)) (va_Qv (fun _ => True) (fun (_ : Unit) t => va_P (dC, dI) vwCl (dw_X11 a ac r) t.heap ∧ va_K (dC, dI) vwCl (dk_X11 ac) t ∧ va_D (va_A (dw_X11 a ac s0) sz) (dw_X11 a ac r)) (va_A (dw_X11 a ac s0) sz)) 0 0 (va_A (dw_X11 a ac s0) sz) := by
  refine Met.ofW (cc := cX11_thinOut) (maxL := 3) (ret := none) (by decide) rfl ?_
  intro p e s m args below meth c s₁ B hml hv
  obtain ⟨rfl, hsz, hP, hK, hD0, hN⟩ := hv
  have hx := B.exec
  have hb := B.bytes
  have hr := B.returns
  have hts := atoms_spec (ws := ow_dm_X11_thinOut) B.pre
  have hown : s.vm.findClass RX11 = some m.cls := findClass_of_methodNamed B.named
  have hlocks := B.notSynchronized
  subst hsz
  have hD := hD0.self (sz := s.heap.size)
  generalize hAe : va_A (dw_X11 a ac s0) s.heap.size = A at hD hN ⊢
  have hA : ∀ q : Nat, s.heap.size ≤ q → A q := fun q h => by rw [← hAe]; exact Or.inr h
  have hl := lv_entry ([.ref (a 0)]) (n := 3) (Nat.le_of_ble_eq_true rfl)
  rw [lg_entry_eq]
  generalize (lg_sl ([.ref (a 0)]) ++ List.replicate (3 - (lg_sl ([.ref (a 0)])).length) Slot.unset).toArray = ls at hl ⊢
  have hl : lv_has ls 3 [(0, .ref (a 0))] := hl
  exact db_X11_thinOut_0 (dC := dC) (dI := dI) (a := a) (ac := ac) (n := n) (r := r) ⟨hlt, hx, hb, hml, hown, hts, hN, hA, hK⟩ (fun pc τ H locs ls d er hP hD hS => by subst er; exact W.vret hx hb hr (fun t ht hW => ⟨⟨(), rfl, trivial, by rw [ht]; exact hP, va_K.moved hW.alike hK, hD⟩, hS.F ht⟩) hS.2.2 d) s0 _ _ _ h hP hD va_S.rf (lv_sub hl [0] rfl)
def ow_dm_X11_takeRecorded : List Cond := .code yX11_takeRecorded cX11_takeRecorded 1 none :: ([.fieldLink RX11 79 "TimeMachine$Timeline" "came" "I", .fieldLink RX11 20 "TimeMachine$Timeline" "events" "LTimeMachine$Events;", .fieldLink RX11 116 "TimeMachine$Events" "recorded" "I", .fieldLink RX11 72 "TimeMachine$Timeline" "now" "I", .methodLink RX11 119 yX3_isAt, .instanceMethod yX3_isAt, .selects RX3 yX3_isAt yX3_isAt, .initialized RX3, .fieldLink RX11 39 "TimeMachine$Timeline" "kernel" "LTimeMachine$Kernel;", .fieldLink RX11 123 "TimeMachine$Events" "kind" "[I", .fieldLink RX11 126 "TimeMachine$Events" "a" "[J", .fieldLink RX11 130 "TimeMachine$Events" "b" "[I", .methodLink RX11 133 yX5_come, .instanceMethod yX5_come, .selects RX5 yX5_come yX5_come, .initialized RX5] ++ (u_ws RX11 TX11 16 ++ (u_ws RX3 TX3 11 ++ (ow_dm_X3_isAt ++ (ow_dm_X5_come ++ [])))))
theorem gd_dm_X11_takeRecorded : ∀ w ∈ ow_dm_X11_takeRecorded, (w.onTables && w.keeps) = true ∨ ∃ ty, w = Cond.arrayClass ty := List.forall_mem_cons.mpr ⟨good_of_word rfl, List.forall_mem_append.mpr ⟨fun w h => good_of_word (List.all_eq_true.mp (by decide +kernel) w h), List.forall_mem_append.mpr ⟨gu_X11, List.forall_mem_append.mpr ⟨gu_X3, List.forall_mem_append.mpr ⟨gd_dm_X3_isAt, List.forall_mem_append.mpr ⟨gd_dm_X5_come, fun _ h => nomatch h⟩⟩⟩⟩⟩⟩
theorem hi_dm_X11_takeRecorded_X11 : ∀ w ∈ u_ws RX11 TX11 16, w ∈ ow_dm_X11_takeRecorded := fun w h => List.mem_cons_of_mem _ (List.mem_append_right _ (List.mem_append_left _ h))
theorem hi_dm_X11_takeRecorded_X3 : ∀ w ∈ u_ws RX3 TX3 11, w ∈ ow_dm_X11_takeRecorded := fun w h => List.mem_cons_of_mem _ (List.mem_append_right _ (List.mem_append_right _ (List.mem_append_left _ h)))
theorem gi_dm_X11_takeRecorded_0 : GoodIn ow_dm_X11_takeRecorded (wsV RX11 119 RX3 yX3_isAt ow_dm_X3_isAt) := goodIn_app (goodIn_of _ (by decide +kernel)) (fun w h => ⟨List.mem_cons_of_mem _ (List.mem_append_right _ (List.mem_append_right _ (List.mem_append_right _ (List.mem_append_left _ h)))), gd_dm_X3_isAt w h⟩)
theorem gi_dm_X11_takeRecorded_1 : GoodIn ow_dm_X11_takeRecorded (wsV RX11 133 RX5 yX5_come ow_dm_X5_come) := goodIn_app (goodIn_of _ (by decide +kernel)) (fun w h => ⟨List.mem_cons_of_mem _ (List.mem_append_right _ (List.mem_append_right _ (List.mem_append_right _ (List.mem_append_right _ (List.mem_append_left _ h))))), gd_dm_X5_come w h⟩)
def dj_X11_takeRecorded_89 (p : Program) (l : Launch) (e : Env) (s : State) (m : MethodId) (args : Array Value) (below : List Frame) (meth : Method) (c : Code) (Q : State → Prop) (A : Nat → Prop) (dC : Nat → ClassId) (dI : Nat → Nat → Nat) (a : Nat → Nat) (ac : Nat → ClassId) (g : (St × Rw × (St × (St × (St × (St)))) × (St) × (St) × (Nat → St) × (Nat → St) × (Nat → St × (St))) → Option (St × Rw × (St × (St × (St × (St)))) × (St) × (St) × (Nat → St) × (Nat → St) × (Nat → St × (St)))) (r : St × Rw × (St × (St × (St × (St)))) × (St) × (St) × (Nat → St) × (Nat → St) × (Nat → St × (St))) : Prop := ∀ (s0 : St × Rw × (St × (St × (St × (St)))) × (St) × (St) × (Nat → St) × (Nat → St) × (Nat → St × (St))) (H : Heap) (locs : List Loc) (ls : Array Slot), g s0 = some r → va_P (dC, dI) vwCl (dw_X11 a ac s0) H → va_D A (dw_X11 a ac s0) → va_S A s.heap H locs → lv_has ls 1 [] → W p l e (headSpec ow_dm_X11_takeRecorded ({ frames := 4, cells := 0, slots := 0, locals := 95 })).room s m args below meth c H locs 0 0 Q (F0 m 89 ls [])
def dj_X11_takeRecorded_0 (p : Program) (l : Launch) (e : Env) (s : State) (m : MethodId) (args : Array Value) (below : List Frame) (meth : Method) (c : Code) (Q : State → Prop) (A : Nat → Prop) (dC : Nat → ClassId) (dI : Nat → Nat → Nat) (a : Nat → Nat) (ac : Nat → ClassId) (g : (St × Rw × (St × (St × (St × (St)))) × (St) × (St) × (Nat → St) × (Nat → St) × (Nat → St × (St))) → Option (St × Rw × (St × (St × (St × (St)))) × (St) × (St) × (Nat → St) × (Nat → St) × (Nat → St × (St)))) (r : St × Rw × (St × (St × (St × (St)))) × (St) × (St) × (Nat → St) × (Nat → St) × (Nat → St × (St))) : Prop := ∀ (s0 : St × Rw × (St × (St × (St × (St)))) × (St) × (St) × (Nat → St) × (Nat → St) × (Nat → St × (St))) (H : Heap) (locs : List Loc) (ls : Array Slot), g s0 = some r → va_P (dC, dI) vwCl (dw_X11 a ac s0) H → va_D A (dw_X11 a ac s0) → va_S A s.heap H locs → lv_has ls 1 [(0, .ref (a 0))] → W p l e (headSpec ow_dm_X11_takeRecorded ({ frames := 4, cells := 0, slots := 0, locals := 95 })).room s m args below meth c H locs 0 0 Q (F0 m 0 ls [])
set_option maxHeartbeats 40000000 in
set_option maxRecDepth 100000 in
theorem db_X11_takeRecorded_89 {p : Program} {l : Launch} {e : Env} {s : State} {m : MethodId} {args : Array Value} {below : List Frame} {meth : Method} {c : Code} {Q : State → Prop} {A : Nat → Prop} {dC : Nat → ClassId} {dI : Nat → Nat → Nat} {a : Nat → Nat} {ac : Nat → ClassId} {n : Nat} {r : St × Rw × (St × (St × (St × (St)))) × (St) × (St) × (Nat → St) × (Nat → St) × (Nat → St × (St))} (C : nd_C p l s m args c A (dC, dI) cX11_takeRecorded 1 RX11 ow_dm_X11_takeRecorded (dk_X11 ac)) (K : nd_Kv p l e (headSpec ow_dm_X11_takeRecorded ({ frames := 4, cells := 0, slots := 0, locals := 95 })).room s m args below meth c Q A (dC, dI) cX11_takeRecorded (St × Rw × (St × (St × (St × (St)))) × (St) × (St) × (Nat → St) × (Nat → St) × (Nat → St × (St))) (dw_X11 a ac) r) : dj_X11_takeRecorded_89 p l e s m args below meth c Q A dC dI a ac (df_X11_takeRecorded_89 n) r := by
  obtain ⟨hlt, hx, hb, hml, hown, hts, hN, hA, hK⟩ := id C
  intro s0 H locs ls h hP hD hS hl
  unfold df_X11_takeRecorded_89 at h
  exact K _ _ _ _ _ dX11_takeRecorded_89 (Option.some.inj h).symm hP hD hS
set_option maxHeartbeats 40000000 in
set_option maxRecDepth 100000 in
theorem dB_X11_takeRecorded_0 {p : Program} {l : Launch} {e : Env} {s : State} {m : MethodId} {args : Array Value} {below : List Frame} {meth : Method} {c : Code} {Q : State → Prop} {A : Nat → Prop} {dC : Nat → ClassId} {dI : Nat → Nat → Nat} {a : Nat → Nat} {ac : Nat → ClassId} {n : Nat} {r : St × Rw × (St × (St × (St × (St)))) × (St) × (St) × (Nat → St) × (Nat → St) × (Nat → St × (St))} (C : nd_C p l s m args c A (dC, dI) cX11_takeRecorded 1 RX11 ow_dm_X11_takeRecorded (dk_X11 ac)) (K : nd_Kv p l e (headSpec ow_dm_X11_takeRecorded ({ frames := 4, cells := 0, slots := 0, locals := 95 })).room s m args below meth c Q A (dC, dI) cX11_takeRecorded (St × Rw × (St × (St × (St × (St)))) × (St) × (St) × (Nat → St) × (Nat → St) × (Nat → St × (St))) (dw_X11 a ac) r) {g0 : (St × Rw × (St × (St × (St × (St)))) × (St) × (St) × (Nat → St) × (Nat → St) × (Nat → St × (St))) → Option (St × Rw × (St × (St × (St × (St)))) × (St) × (St) × (Nat → St) × (Nat → St) × (Nat → St × (St)))} (J0 : dj_X11_takeRecorded_0 p l e s m args below meth c Q A dC dI a ac g0 r) : dj_X11_takeRecorded_0 p l e s m args below meth c Q A dC dI a ac (dF_X11_takeRecorded_0 n g0) r := by
  obtain ⟨hlt, hx, hb, hml, hown, hts, hN, hA, hK⟩ := id C
  intro s0 H locs ls h hP hD hS hl
  unfold dF_X11_takeRecorded_0 at h
  refine lv_aload_n hx hb dX11_takeRecorded_0 rfl (lv_at hl 0 rfl) ?_
  refine va_get (D := (dC, dI)) (ci := 12) (v := .int (sI s0.1 5)) (C := RX11) (T := TX11) (N := 16) hx hb hts hi_dm_X11_takeRecorded_X11 hown hK hP 0 rfl rfl 13 (by decide) (hts (.fieldLink RX11 79 "TimeMachine$Timeline" "came" "I") (List.mem_of_getElem? (i := 1) rfl)) (fun _ h9 => h9) rfl dX11_takeRecorded_1 ?_
  refine lv_aload_n hx hb dX11_takeRecorded_4 rfl (lv_at hl 0 rfl) ?_
  by_cases o1 : sO s0.1 0 = some 27
  · have h := nd_pos h o1
    refine va_get (D := (dC, dI)) (ci := 12) (v := .ref (a 27)) (C := RX11) (T := TX11) (N := 16) hx hb hts hi_dm_X11_takeRecorded_X11 hown hK hP 0 rfl rfl 1 (by decide) (hts (.fieldLink RX11 20 "TimeMachine$Timeline" "events" "LTimeMachine$Events;") (List.mem_of_getElem? (i := 2) rfl)) (fun _ h9 => h9) (congrArg (fun z => some (va_rf (Option.map a z))) o1) dX11_takeRecorded_5 ?_
    refine va_get (D := (dC, dI)) (ci := 4) (v := .int (sI s0.2.2.2.1 0)) (C := RX3) (T := TX3) (N := 11) hx hb hts hi_dm_X11_takeRecorded_X3 hown hK hP 27 rfl rfl 4 (by decide) (hts (.fieldLink RX11 116 "TimeMachine$Events" "recorded" "I") (List.mem_of_getElem? (i := 3) rfl)) (fun _ h9 => h9) rfl dX11_takeRecorded_8 ?_
    refine lv_icmp_ge (tgt := 89) hx hb dX11_takeRecorded_11 (by decide) (fun c2 => ?_) (fun c2 => ?_)
    · have h := nd_pos h c2
      exact (db_X11_takeRecorded_89 C K)  s0 _ _ _ h hP hD hS (lv_sub hl [] rfl)
    · have h := nd_neg h c2
      refine lv_aload_n hx hb dX11_takeRecorded_14 rfl (lv_at hl 0 rfl) ?_
      refine va_get (D := (dC, dI)) (ci := 12) (v := .ref (a 27)) (C := RX11) (T := TX11) (N := 16) hx hb hts hi_dm_X11_takeRecorded_X11 hown hK hP 0 rfl rfl 1 (by decide) (hts (.fieldLink RX11 20 "TimeMachine$Timeline" "events" "LTimeMachine$Events;") (List.mem_of_getElem? (i := 2) rfl)) (fun _ h9 => h9) (congrArg (fun z => some (va_rf (Option.map a z))) o1) dX11_takeRecorded_15 ?_
      refine lv_aload_n hx hb dX11_takeRecorded_18 rfl (lv_at hl 0 rfl) ?_
      refine va_get (D := (dC, dI)) (ci := 12) (v := .int (sI s0.1 5)) (C := RX11) (T := TX11) (N := 16) hx hb hts hi_dm_X11_takeRecorded_X11 hown hK hP 0 rfl rfl 13 (by decide) (hts (.fieldLink RX11 79 "TimeMachine$Timeline" "came" "I") (List.mem_of_getElem? (i := 1) rfl)) (fun _ h9 => h9) rfl dX11_takeRecorded_19 ?_
      refine lv_aload_n hx hb dX11_takeRecorded_22 rfl (lv_at hl 0 rfl) ?_
      refine va_get (D := (dC, dI)) (ci := 12) (v := .int (sI s0.1 3)) (C := RX11) (T := TX11) (N := 16) hx hb hts hi_dm_X11_takeRecorded_X11 hown hK hP 0 rfl rfl 11 (by decide) (hts (.fieldLink RX11 72 "TimeMachine$Timeline" "now" "I") (List.mem_of_getElem? (i := 4) rfl)) (fun _ h9 => h9) rfl dX11_takeRecorded_23 ?_
      obtain ⟨q3, s4, hq, h⟩ := nd_b2_e h
      have hPc := dp_wX11_X3c_5 hP
      have hDc := dd_wX11_X3c_5 hD
      have hKc := dy_wX11_X3c_5 hK
      have hFc := nd_rs hDc hS hA
      have hzA : ∀ q : Nat, H.size ≤ q → A q := fun q h => hA q (Nat.le_trans hS.1 h)
      refine nd_cVi (As := [.int (sI s0.1 5), .int (sI s0.1 3)]) (rest := []) (q := q3) (w' := dw_X3c (fun k => a (k + 27)) (fun k => ac (k + 27)) s4) ⟨hx, hb, hml, hown, hts⟩ (fun sz => dm_X3_isAt l hlt dC dI (fun k => a (k + 27)) (fun k => ac (k + 27)) n ((sI s0.1 5)) ((sI s0.1 3)) s0.2.2.2.1 hq sz) (cwV 2 hts gi_dm_X11_takeRecorded_0 rfl rfl rfl (by decide +kernel) ⟨Nat.le_of_ble_eq_true rfl, Nat.le_of_ble_eq_true rfl⟩) hPc hDc hKc hS hA hN (va_recv hKc hPc (ci := 4) (q0 := 0) rfl rfl) rfl hl.1 rfl (Nat.le_of_ble_eq_true rfl) dX11_takeRecorded_26 (fun H locs hP1 hD1 hk1 hS => ?_)
      obtain ⟨hP, hD⟩ := dn_wX11_X3c_5 hP hD hzA hk1 hP1 hD1
      obtain ⟨s6, es6, h⟩ := nd_let_e h
      have hP : va_P (dC, dI) vwCl (dw_X11 a ac s6) H := by rw [es6]; exact hP
      have hD : va_D A (dw_X11 a ac s6) := by rw [es6]; exact hD
      have o1 : sO s6.1 0 = some 27 := by rw [es6]; exact o1
      refine lv_if_eq (tgt := 89) hx hb dX11_takeRecorded_29 (by decide) (fun c7 => ?_) (fun c7 => ?_)
      · have h := nd_pos h c7
        exact (db_X11_takeRecorded_89 C K)  s6 _ _ _ h hP hD hS (lv_sub hl [] rfl)
      · have h := nd_neg h c7
        refine lv_aload_n hx hb dX11_takeRecorded_32 rfl (lv_at hl 0 rfl) ?_
        refine va_get (D := (dC, dI)) (ci := 12) (v := .ref (a 3)) (C := RX11) (T := TX11) (N := 16) hx hb hts hi_dm_X11_takeRecorded_X11 hown hK hP 0 rfl rfl 4 (by decide) (hts (.fieldLink RX11 39 "TimeMachine$Timeline" "kernel" "LTimeMachine$Kernel;") (List.mem_of_getElem? (i := 9) rfl)) (fun _ h9 => h9) rfl dX11_takeRecorded_33 ?_
        refine lv_aload_n hx hb dX11_takeRecorded_36 rfl (lv_at hl 0 rfl) ?_
        refine va_get (D := (dC, dI)) (ci := 12) (v := .ref (a 27)) (C := RX11) (T := TX11) (N := 16) hx hb hts hi_dm_X11_takeRecorded_X11 hown hK hP 0 rfl rfl 1 (by decide) (hts (.fieldLink RX11 20 "TimeMachine$Timeline" "events" "LTimeMachine$Events;") (List.mem_of_getElem? (i := 2) rfl)) (fun _ h9 => h9) (congrArg (fun z => some (va_rf (Option.map a z))) o1) dX11_takeRecorded_37 ?_
        refine va_get (D := (dC, dI)) (ci := 4) (v := .ref (a 28)) (C := RX3) (T := TX3) (N := 11) hx hb hts hi_dm_X11_takeRecorded_X3 hown hK hP 27 rfl rfl 0 (by decide) (hts (.fieldLink RX11 123 "TimeMachine$Events" "kind" "[I") (List.mem_of_getElem? (i := 10) rfl)) (fun _ h9 => h9) rfl dX11_takeRecorded_40 ?_
        refine lv_aload_n hx hb dX11_takeRecorded_43 rfl (lv_at hl 0 rfl) ?_
        refine va_get (D := (dC, dI)) (ci := 12) (v := .int (sI s6.1 5)) (C := RX11) (T := TX11) (N := 16) hx hb hts hi_dm_X11_takeRecorded_X11 hown hK hP 0 rfl rfl 13 (by decide) (hts (.fieldLink RX11 79 "TimeMachine$Timeline" "came" "I") (List.mem_of_getElem? (i := 1) rfl)) (fun _ h9 => h9) rfl dX11_takeRecorded_44 ?_
        obtain ⟨i8, h⟩ := nd_ck_e h
        refine va_iald (i := (sI s6.1 5)) hx hb hK hP 28 22 rfl rfl i8 dX11_takeRecorded_47 ?_
        refine lv_aload_n hx hb dX11_takeRecorded_48 rfl (lv_at hl 0 rfl) ?_
        refine va_get (D := (dC, dI)) (ci := 12) (v := .ref (a 27)) (C := RX11) (T := TX11) (N := 16) hx hb hts hi_dm_X11_takeRecorded_X11 hown hK hP 0 rfl rfl 1 (by decide) (hts (.fieldLink RX11 20 "TimeMachine$Timeline" "events" "LTimeMachine$Events;") (List.mem_of_getElem? (i := 2) rfl)) (fun _ h9 => h9) (congrArg (fun z => some (va_rf (Option.map a z))) o1) dX11_takeRecorded_49 ?_
        refine va_get (D := (dC, dI)) (ci := 4) (v := .ref (a 30)) (C := RX3) (T := TX3) (N := 11) hx hb hts hi_dm_X11_takeRecorded_X3 hown hK hP 27 rfl rfl 2 (by decide) (hts (.fieldLink RX11 126 "TimeMachine$Events" "a" "[J") (List.mem_of_getElem? (i := 11) rfl)) (fun _ h9 => h9) rfl dX11_takeRecorded_52 ?_
        refine lv_aload_n hx hb dX11_takeRecorded_55 rfl (lv_at hl 0 rfl) ?_
        refine va_get (D := (dC, dI)) (ci := 12) (v := .int (sI s6.1 5)) (C := RX11) (T := TX11) (N := 16) hx hb hts hi_dm_X11_takeRecorded_X11 hown hK hP 0 rfl rfl 13 (by decide) (hts (.fieldLink RX11 79 "TimeMachine$Timeline" "came" "I") (List.mem_of_getElem? (i := 1) rfl)) (fun _ h9 => h9) rfl dX11_takeRecorded_56 ?_
        obtain ⟨i9, h⟩ := nd_ck_e h
        refine va_lald (i := (sI s6.1 5)) hx hb hK hP 30 24 rfl rfl i9 dX11_takeRecorded_59 ?_
        refine lv_aload_n hx hb dX11_takeRecorded_60 rfl (lv_at hl 0 rfl) ?_
        refine va_get (D := (dC, dI)) (ci := 12) (v := .ref (a 27)) (C := RX11) (T := TX11) (N := 16) hx hb hts hi_dm_X11_takeRecorded_X11 hown hK hP 0 rfl rfl 1 (by decide) (hts (.fieldLink RX11 20 "TimeMachine$Timeline" "events" "LTimeMachine$Events;") (List.mem_of_getElem? (i := 2) rfl)) (fun _ h9 => h9) (congrArg (fun z => some (va_rf (Option.map a z))) o1) dX11_takeRecorded_61 ?_
        refine va_get (D := (dC, dI)) (ci := 4) (v := .ref (a 31)) (C := RX3) (T := TX3) (N := 11) hx hb hts hi_dm_X11_takeRecorded_X3 hown hK hP 27 rfl rfl 3 (by decide) (hts (.fieldLink RX11 130 "TimeMachine$Events" "b" "[I") (List.mem_of_getElem? (i := 12) rfl)) (fun _ h9 => h9) rfl dX11_takeRecorded_64 ?_
        refine lv_aload_n hx hb dX11_takeRecorded_67 rfl (lv_at hl 0 rfl) ?_
        refine va_get (D := (dC, dI)) (ci := 12) (v := .int (sI s6.1 5)) (C := RX11) (T := TX11) (N := 16) hx hb hts hi_dm_X11_takeRecorded_X11 hown hK hP 0 rfl rfl 13 (by decide) (hts (.fieldLink RX11 79 "TimeMachine$Timeline" "came" "I") (List.mem_of_getElem? (i := 1) rfl)) (fun _ h9 => h9) rfl dX11_takeRecorded_68 ?_
        obtain ⟨i10, h⟩ := nd_ck_e h
        refine va_iald (i := (sI s6.1 5)) hx hb hK hP 31 25 rfl rfl i10 dX11_takeRecorded_71 ?_
        obtain ⟨q11, s12, hq, h⟩ := nd_b2_e h
        have hPc := dp_wX11_X5_2 hP
        have hDc := dd_wX11_X5_2 hD
        have hKc := dy_wX11_X5_2 hK
        have hFc := nd_rs hDc hS hA
        have hzA : ∀ q : Nat, H.size ≤ q → A q := fun q h => hA q (Nat.le_trans hS.1 h)
        refine nd_cVi (As := [.int (sR s6.2.2.2.1 0 (Int32.toNatClampNeg (sI s6.1 5))), .long (sQ s6.2.2.2.1 1 (Int32.toNatClampNeg (sI s6.1 5))), .int (sR s6.2.2.2.1 1 (Int32.toNatClampNeg (sI s6.1 5)))]) (rest := []) (q := q11) (w' := dw_X5 (fun k => a (k + 3)) (fun k => ac (k + 3)) s12) ⟨hx, hb, hml, hown, hts⟩ (fun sz => dm_X5_come l hlt dC dI (fun k => a (k + 3)) (fun k => ac (k + 3)) n ((sR s6.2.2.2.1 0 (Int32.toNatClampNeg (sI s6.1 5)))) ((sQ s6.2.2.2.1 1 (Int32.toNatClampNeg (sI s6.1 5)))) ((sR s6.2.2.2.1 1 (Int32.toNatClampNeg (sI s6.1 5)))) s6.2.2.1 hq sz) (cwV 3 hts gi_dm_X11_takeRecorded_1 rfl rfl rfl (by decide +kernel) ⟨Nat.le_of_ble_eq_true rfl, Nat.le_of_ble_eq_true rfl⟩) hPc hDc hKc hS hA hN (va_recv hKc hPc (ci := 6) (q0 := 0) rfl rfl) rfl hl.1 rfl (Nat.le_of_ble_eq_true rfl) dX11_takeRecorded_72 (fun H locs hP1 hD1 hk1 hS => ?_)
        obtain ⟨hP, hD⟩ := dn_wX11_X5_2 hP hD hzA hk1 hP1 hD1
        obtain ⟨s14, es14, h⟩ := nd_let_e h
        have hP : va_P (dC, dI) vwCl (dw_X11 a ac s14) H := by rw [es14]; exact hP
        have hD : va_D A (dw_X11 a ac s14) := by rw [es14]; exact hD
        have o1 : sO s14.1 0 = some 27 := by rw [es14]; exact o1
        refine lv_pop hx hb dX11_takeRecorded_75 rfl ?_
        refine lv_aload_n hx hb dX11_takeRecorded_76 rfl (lv_at hl 0 rfl) ?_
        refine lv_dup hx hb dX11_takeRecorded_77 rfl ?_
        refine va_get (D := (dC, dI)) (ci := 12) (v := .int (sI s14.1 5)) (C := RX11) (T := TX11) (N := 16) hx hb hts hi_dm_X11_takeRecorded_X11 hown hK hP 0 rfl rfl 13 (by decide) (hts (.fieldLink RX11 79 "TimeMachine$Timeline" "came" "I") (List.mem_of_getElem? (i := 1) rfl)) (fun _ h9 => h9) rfl dX11_takeRecorded_78 ?_
        refine lv_iconst (v := 1) hx hb dX11_takeRecorded_81 (by decide) ?_
        refine lv_iadd hx hb dX11_takeRecorded_82 ?_
        refine va_put (D := (dC, dI)) (ci := 12) (v := .int ((sI s14.1 5) + 1)) (ty := .int) (C := RX11) (T := TX11) (N := 16) hx hb hts hi_dm_X11_takeRecorded_X11 tyX11 tyX11_ok nmX11 hown hK hP hD hS 0 rfl rfl 13 (by decide) (hts (.fieldLink RX11 79 "TimeMachine$Timeline" "came" "I") (List.mem_of_getElem? (i := 1) rfl)) (fun _ h9 => h9) rfl (by decide +kernel) rfl rfl (Nat.le_of_ble_eq_true rfl) dX11_takeRecorded_83 (fun H locs hP hD hS => ?_)
        obtain ⟨s15, es15, h⟩ := nd_let_e h
        have hP : va_P (dC, dI) vwCl (dw_X11 a ac s15) H := by rw [es15]; exact hP
        have hD : va_D A (dw_X11 a ac s15) := by rw [es15]; exact hD
        have o1 : sO s15.1 0 = some 27 := by rw [es15]; exact o1
        refine lv_goto (tgt := 0) hx hb dX11_takeRecorded_86 (by decide) ?_
        exact (J0)  s15 _ _ _ h hP hD hS (lv_sub hl [0] rfl)
  have h := nd_neg h o1
  by_cases o16 : sO s0.1 0 = some 32
  · have h := nd_pos h o16
    refine va_get (D := (dC, dI)) (ci := 12) (v := .ref (a 32)) (C := RX11) (T := TX11) (N := 16) hx hb hts hi_dm_X11_takeRecorded_X11 hown hK hP 0 rfl rfl 1 (by decide) (hts (.fieldLink RX11 20 "TimeMachine$Timeline" "events" "LTimeMachine$Events;") (List.mem_of_getElem? (i := 2) rfl)) (fun _ h9 => h9) (congrArg (fun z => some (va_rf (Option.map a z))) o16) dX11_takeRecorded_5 ?_
    refine va_get (D := (dC, dI)) (ci := 4) (v := .int (sI s0.2.2.2.2.1 0)) (C := RX3) (T := TX3) (N := 11) hx hb hts hi_dm_X11_takeRecorded_X3 hown hK hP 32 rfl rfl 4 (by decide) (hts (.fieldLink RX11 116 "TimeMachine$Events" "recorded" "I") (List.mem_of_getElem? (i := 3) rfl)) (fun _ h9 => h9) rfl dX11_takeRecorded_8 ?_
    refine lv_icmp_ge (tgt := 89) hx hb dX11_takeRecorded_11 (by decide) (fun c17 => ?_) (fun c17 => ?_)
    · have h := nd_pos h c17
      exact (db_X11_takeRecorded_89 C K)  s0 _ _ _ h hP hD hS (lv_sub hl [] rfl)
    · have h := nd_neg h c17
      refine lv_aload_n hx hb dX11_takeRecorded_14 rfl (lv_at hl 0 rfl) ?_
      refine va_get (D := (dC, dI)) (ci := 12) (v := .ref (a 32)) (C := RX11) (T := TX11) (N := 16) hx hb hts hi_dm_X11_takeRecorded_X11 hown hK hP 0 rfl rfl 1 (by decide) (hts (.fieldLink RX11 20 "TimeMachine$Timeline" "events" "LTimeMachine$Events;") (List.mem_of_getElem? (i := 2) rfl)) (fun _ h9 => h9) (congrArg (fun z => some (va_rf (Option.map a z))) o16) dX11_takeRecorded_15 ?_
      refine lv_aload_n hx hb dX11_takeRecorded_18 rfl (lv_at hl 0 rfl) ?_
      refine va_get (D := (dC, dI)) (ci := 12) (v := .int (sI s0.1 5)) (C := RX11) (T := TX11) (N := 16) hx hb hts hi_dm_X11_takeRecorded_X11 hown hK hP 0 rfl rfl 13 (by decide) (hts (.fieldLink RX11 79 "TimeMachine$Timeline" "came" "I") (List.mem_of_getElem? (i := 1) rfl)) (fun _ h9 => h9) rfl dX11_takeRecorded_19 ?_
      refine lv_aload_n hx hb dX11_takeRecorded_22 rfl (lv_at hl 0 rfl) ?_
      refine va_get (D := (dC, dI)) (ci := 12) (v := .int (sI s0.1 3)) (C := RX11) (T := TX11) (N := 16) hx hb hts hi_dm_X11_takeRecorded_X11 hown hK hP 0 rfl rfl 11 (by decide) (hts (.fieldLink RX11 72 "TimeMachine$Timeline" "now" "I") (List.mem_of_getElem? (i := 4) rfl)) (fun _ h9 => h9) rfl dX11_takeRecorded_23 ?_
      obtain ⟨q18, s19, hq, h⟩ := nd_b2_e h
      have hPc := dp_wX11_X3c_7 hP
      have hDc := dd_wX11_X3c_7 hD
      have hKc := dy_wX11_X3c_7 hK
      have hFc := nd_rs hDc hS hA
      have hzA : ∀ q : Nat, H.size ≤ q → A q := fun q h => hA q (Nat.le_trans hS.1 h)
      refine nd_cVi (As := [.int (sI s0.1 5), .int (sI s0.1 3)]) (rest := []) (q := q18) (w' := dw_X3c (fun k => a (k + 32)) (fun k => ac (k + 32)) s19) ⟨hx, hb, hml, hown, hts⟩ (fun sz => dm_X3_isAt l hlt dC dI (fun k => a (k + 32)) (fun k => ac (k + 32)) n ((sI s0.1 5)) ((sI s0.1 3)) s0.2.2.2.2.1 hq sz) (cwV 2 hts gi_dm_X11_takeRecorded_0 rfl rfl rfl (by decide +kernel) ⟨Nat.le_of_ble_eq_true rfl, Nat.le_of_ble_eq_true rfl⟩) hPc hDc hKc hS hA hN (va_recv hKc hPc (ci := 4) (q0 := 0) rfl rfl) rfl hl.1 rfl (Nat.le_of_ble_eq_true rfl) dX11_takeRecorded_26 (fun H locs hP1 hD1 hk1 hS => ?_)
      obtain ⟨hP, hD⟩ := dn_wX11_X3c_7 hP hD hzA hk1 hP1 hD1
      obtain ⟨s21, es21, h⟩ := nd_let_e h
      have hP : va_P (dC, dI) vwCl (dw_X11 a ac s21) H := by rw [es21]; exact hP
      have hD : va_D A (dw_X11 a ac s21) := by rw [es21]; exact hD
      have o16 : sO s21.1 0 = some 32 := by rw [es21]; exact o16
      refine lv_if_eq (tgt := 89) hx hb dX11_takeRecorded_29 (by decide) (fun c22 => ?_) (fun c22 => ?_)
      · have h := nd_pos h c22
        exact (db_X11_takeRecorded_89 C K)  s21 _ _ _ h hP hD hS (lv_sub hl [] rfl)
      · have h := nd_neg h c22
        refine lv_aload_n hx hb dX11_takeRecorded_32 rfl (lv_at hl 0 rfl) ?_
        refine va_get (D := (dC, dI)) (ci := 12) (v := .ref (a 3)) (C := RX11) (T := TX11) (N := 16) hx hb hts hi_dm_X11_takeRecorded_X11 hown hK hP 0 rfl rfl 4 (by decide) (hts (.fieldLink RX11 39 "TimeMachine$Timeline" "kernel" "LTimeMachine$Kernel;") (List.mem_of_getElem? (i := 9) rfl)) (fun _ h9 => h9) rfl dX11_takeRecorded_33 ?_
        refine lv_aload_n hx hb dX11_takeRecorded_36 rfl (lv_at hl 0 rfl) ?_
        refine va_get (D := (dC, dI)) (ci := 12) (v := .ref (a 32)) (C := RX11) (T := TX11) (N := 16) hx hb hts hi_dm_X11_takeRecorded_X11 hown hK hP 0 rfl rfl 1 (by decide) (hts (.fieldLink RX11 20 "TimeMachine$Timeline" "events" "LTimeMachine$Events;") (List.mem_of_getElem? (i := 2) rfl)) (fun _ h9 => h9) (congrArg (fun z => some (va_rf (Option.map a z))) o16) dX11_takeRecorded_37 ?_
        refine va_get (D := (dC, dI)) (ci := 4) (v := .ref (a 33)) (C := RX3) (T := TX3) (N := 11) hx hb hts hi_dm_X11_takeRecorded_X3 hown hK hP 32 rfl rfl 0 (by decide) (hts (.fieldLink RX11 123 "TimeMachine$Events" "kind" "[I") (List.mem_of_getElem? (i := 10) rfl)) (fun _ h9 => h9) rfl dX11_takeRecorded_40 ?_
        refine lv_aload_n hx hb dX11_takeRecorded_43 rfl (lv_at hl 0 rfl) ?_
        refine va_get (D := (dC, dI)) (ci := 12) (v := .int (sI s21.1 5)) (C := RX11) (T := TX11) (N := 16) hx hb hts hi_dm_X11_takeRecorded_X11 hown hK hP 0 rfl rfl 13 (by decide) (hts (.fieldLink RX11 79 "TimeMachine$Timeline" "came" "I") (List.mem_of_getElem? (i := 1) rfl)) (fun _ h9 => h9) rfl dX11_takeRecorded_44 ?_
        obtain ⟨i23, h⟩ := nd_ck_e h
        refine va_iald (i := (sI s21.1 5)) hx hb hK hP 33 26 rfl rfl i23 dX11_takeRecorded_47 ?_
        refine lv_aload_n hx hb dX11_takeRecorded_48 rfl (lv_at hl 0 rfl) ?_
        refine va_get (D := (dC, dI)) (ci := 12) (v := .ref (a 32)) (C := RX11) (T := TX11) (N := 16) hx hb hts hi_dm_X11_takeRecorded_X11 hown hK hP 0 rfl rfl 1 (by decide) (hts (.fieldLink RX11 20 "TimeMachine$Timeline" "events" "LTimeMachine$Events;") (List.mem_of_getElem? (i := 2) rfl)) (fun _ h9 => h9) (congrArg (fun z => some (va_rf (Option.map a z))) o16) dX11_takeRecorded_49 ?_
        refine va_get (D := (dC, dI)) (ci := 4) (v := .ref (a 35)) (C := RX3) (T := TX3) (N := 11) hx hb hts hi_dm_X11_takeRecorded_X3 hown hK hP 32 rfl rfl 2 (by decide) (hts (.fieldLink RX11 126 "TimeMachine$Events" "a" "[J") (List.mem_of_getElem? (i := 11) rfl)) (fun _ h9 => h9) rfl dX11_takeRecorded_52 ?_
        refine lv_aload_n hx hb dX11_takeRecorded_55 rfl (lv_at hl 0 rfl) ?_
        refine va_get (D := (dC, dI)) (ci := 12) (v := .int (sI s21.1 5)) (C := RX11) (T := TX11) (N := 16) hx hb hts hi_dm_X11_takeRecorded_X11 hown hK hP 0 rfl rfl 13 (by decide) (hts (.fieldLink RX11 79 "TimeMachine$Timeline" "came" "I") (List.mem_of_getElem? (i := 1) rfl)) (fun _ h9 => h9) rfl dX11_takeRecorded_56 ?_
        obtain ⟨i24, h⟩ := nd_ck_e h
        refine va_lald (i := (sI s21.1 5)) hx hb hK hP 35 28 rfl rfl i24 dX11_takeRecorded_59 ?_
        refine lv_aload_n hx hb dX11_takeRecorded_60 rfl (lv_at hl 0 rfl) ?_
        refine va_get (D := (dC, dI)) (ci := 12) (v := .ref (a 32)) (C := RX11) (T := TX11) (N := 16) hx hb hts hi_dm_X11_takeRecorded_X11 hown hK hP 0 rfl rfl 1 (by decide) (hts (.fieldLink RX11 20 "TimeMachine$Timeline" "events" "LTimeMachine$Events;") (List.mem_of_getElem? (i := 2) rfl)) (fun _ h9 => h9) (congrArg (fun z => some (va_rf (Option.map a z))) o16) dX11_takeRecorded_61 ?_
        refine va_get (D := (dC, dI)) (ci := 4) (v := .ref (a 36)) (C := RX3) (T := TX3) (N := 11) hx hb hts hi_dm_X11_takeRecorded_X3 hown hK hP 32 rfl rfl 3 (by decide) (hts (.fieldLink RX11 130 "TimeMachine$Events" "b" "[I") (List.mem_of_getElem? (i := 12) rfl)) (fun _ h9 => h9) rfl dX11_takeRecorded_64 ?_
        refine lv_aload_n hx hb dX11_takeRecorded_67 rfl (lv_at hl 0 rfl) ?_
        refine va_get (D := (dC, dI)) (ci := 12) (v := .int (sI s21.1 5)) (C := RX11) (T := TX11) (N := 16) hx hb hts hi_dm_X11_takeRecorded_X11 hown hK hP 0 rfl rfl 13 (by decide) (hts (.fieldLink RX11 79 "TimeMachine$Timeline" "came" "I") (List.mem_of_getElem? (i := 1) rfl)) (fun _ h9 => h9) rfl dX11_takeRecorded_68 ?_
        obtain ⟨i25, h⟩ := nd_ck_e h
        refine va_iald (i := (sI s21.1 5)) hx hb hK hP 36 29 rfl rfl i25 dX11_takeRecorded_71 ?_
        obtain ⟨q26, s27, hq, h⟩ := nd_b2_e h
        have hPc := dp_wX11_X5_2 hP
        have hDc := dd_wX11_X5_2 hD
        have hKc := dy_wX11_X5_2 hK
        have hFc := nd_rs hDc hS hA
        have hzA : ∀ q : Nat, H.size ≤ q → A q := fun q h => hA q (Nat.le_trans hS.1 h)
        refine nd_cVi (As := [.int (sR s21.2.2.2.2.1 0 (Int32.toNatClampNeg (sI s21.1 5))), .long (sQ s21.2.2.2.2.1 1 (Int32.toNatClampNeg (sI s21.1 5))), .int (sR s21.2.2.2.2.1 1 (Int32.toNatClampNeg (sI s21.1 5)))]) (rest := []) (q := q26) (w' := dw_X5 (fun k => a (k + 3)) (fun k => ac (k + 3)) s27) ⟨hx, hb, hml, hown, hts⟩ (fun sz => dm_X5_come l hlt dC dI (fun k => a (k + 3)) (fun k => ac (k + 3)) n ((sR s21.2.2.2.2.1 0 (Int32.toNatClampNeg (sI s21.1 5)))) ((sQ s21.2.2.2.2.1 1 (Int32.toNatClampNeg (sI s21.1 5)))) ((sR s21.2.2.2.2.1 1 (Int32.toNatClampNeg (sI s21.1 5)))) s21.2.2.1 hq sz) (cwV 3 hts gi_dm_X11_takeRecorded_1 rfl rfl rfl (by decide +kernel) ⟨Nat.le_of_ble_eq_true rfl, Nat.le_of_ble_eq_true rfl⟩) hPc hDc hKc hS hA hN (va_recv hKc hPc (ci := 6) (q0 := 0) rfl rfl) rfl hl.1 rfl (Nat.le_of_ble_eq_true rfl) dX11_takeRecorded_72 (fun H locs hP1 hD1 hk1 hS => ?_)
        obtain ⟨hP, hD⟩ := dn_wX11_X5_2 hP hD hzA hk1 hP1 hD1
        obtain ⟨s29, es29, h⟩ := nd_let_e h
        have hP : va_P (dC, dI) vwCl (dw_X11 a ac s29) H := by rw [es29]; exact hP
        have hD : va_D A (dw_X11 a ac s29) := by rw [es29]; exact hD
        have o16 : sO s29.1 0 = some 32 := by rw [es29]; exact o16
        refine lv_pop hx hb dX11_takeRecorded_75 rfl ?_
        refine lv_aload_n hx hb dX11_takeRecorded_76 rfl (lv_at hl 0 rfl) ?_
        refine lv_dup hx hb dX11_takeRecorded_77 rfl ?_
        refine va_get (D := (dC, dI)) (ci := 12) (v := .int (sI s29.1 5)) (C := RX11) (T := TX11) (N := 16) hx hb hts hi_dm_X11_takeRecorded_X11 hown hK hP 0 rfl rfl 13 (by decide) (hts (.fieldLink RX11 79 "TimeMachine$Timeline" "came" "I") (List.mem_of_getElem? (i := 1) rfl)) (fun _ h9 => h9) rfl dX11_takeRecorded_78 ?_
        refine lv_iconst (v := 1) hx hb dX11_takeRecorded_81 (by decide) ?_
        refine lv_iadd hx hb dX11_takeRecorded_82 ?_
        refine va_put (D := (dC, dI)) (ci := 12) (v := .int ((sI s29.1 5) + 1)) (ty := .int) (C := RX11) (T := TX11) (N := 16) hx hb hts hi_dm_X11_takeRecorded_X11 tyX11 tyX11_ok nmX11 hown hK hP hD hS 0 rfl rfl 13 (by decide) (hts (.fieldLink RX11 79 "TimeMachine$Timeline" "came" "I") (List.mem_of_getElem? (i := 1) rfl)) (fun _ h9 => h9) rfl (by decide +kernel) rfl rfl (Nat.le_of_ble_eq_true rfl) dX11_takeRecorded_83 (fun H locs hP hD hS => ?_)
        obtain ⟨s30, es30, h⟩ := nd_let_e h
        have hP : va_P (dC, dI) vwCl (dw_X11 a ac s30) H := by rw [es30]; exact hP
        have hD : va_D A (dw_X11 a ac s30) := by rw [es30]; exact hD
        have o16 : sO s30.1 0 = some 32 := by rw [es30]; exact o16
        refine lv_goto (tgt := 0) hx hb dX11_takeRecorded_86 (by decide) ?_
        exact (J0)  s30 _ _ _ h hP hD hS (lv_sub hl [0] rfl)
  have h := nd_neg h o16
  exact nomatch h
set_option maxHeartbeats 40000000 in
set_option maxRecDepth 100000 in
theorem db_X11_takeRecorded_0 {p : Program} {l : Launch} {e : Env} {s : State} {m : MethodId} {args : Array Value} {below : List Frame} {meth : Method} {c : Code} {Q : State → Prop} {A : Nat → Prop} {dC : Nat → ClassId} {dI : Nat → Nat → Nat} {a : Nat → Nat} {ac : Nat → ClassId} {n : Nat} {r : St × Rw × (St × (St × (St × (St)))) × (St) × (St) × (Nat → St) × (Nat → St) × (Nat → St × (St))} (C : nd_C p l s m args c A (dC, dI) cX11_takeRecorded 1 RX11 ow_dm_X11_takeRecorded (dk_X11 ac)) (K : nd_Kv p l e (headSpec ow_dm_X11_takeRecorded ({ frames := 4, cells := 0, slots := 0, locals := 95 })).room s m args below meth c Q A (dC, dI) cX11_takeRecorded (St × Rw × (St × (St × (St × (St)))) × (St) × (St) × (Nat → St) × (Nat → St) × (Nat → St × (St))) (dw_X11 a ac) r) (k : Nat) : dj_X11_takeRecorded_0 p l e s m args below meth c Q A dC dI a ac (df_X11_takeRecorded_0 n k) r := by
  induction k with
  | zero => intro s0 H locs ls h; exact nomatch (show (none : Option (St × Rw × (St × (St × (St × (St)))) × (St) × (St) × (Nat → St) × (Nat → St) × (Nat → St × (St)))) = some r from h)
  | succ k ih => exact dB_X11_takeRecorded_0 C K ih
set_option maxHeartbeats 40000000 in
set_option maxRecDepth 100000 in
theorem dm_X11_takeRecorded (l : Launch) (hlt : l.stackTraces = false) (dC : Nat → ClassId) (dI : Nat → Nat → Nat) (a : Nat → Nat) (ac : Nat → ClassId) (n : Nat) (s0 : St × Rw × (St × (St × (St × (St)))) × (St) × (St) × (Nat → St) × (Nat → St) × (Nat → St × (St))) {r : St × Rw × (St × (St × (St × (St)))) × (St) × (St) × (Nat → St) × (Nat → St) × (Nat → St × (St))} (h : df_X11_takeRecorded n s0 = some r) (sz : Nat) : Met l yX11_takeRecorded ow_dm_X11_takeRecorded ({ frames := 4, cells := 0, slots := 0, locals := 95 }) (va_Pc [.ref (a 0)] (fun U => U.heap.size = sz ∧ va_P (dC, dI) vwCl (dw_X11 a ac s0) U.heap ∧ va_K (dC, dI) vwCl (dk_X11 ac) U ∧ va_D (fun _ => True) (dw_X11 a ac s0) ∧ nv_E (va_A (dw_X11 a ac s0) sz) U)) (va_Qv (fun _ => True) (fun (_ : Unit) t => va_P (dC, dI) vwCl (dw_X11 a ac r) t.heap ∧ va_K (dC, dI) vwCl (dk_X11 ac) t ∧ va_D (va_A (dw_X11 a ac s0) sz) (dw_X11 a ac r)) (va_A (dw_X11 a ac s0) sz)) 0 0 (va_A (dw_X11 a ac s0) sz) := by
  refine Met.ofW (cc := cX11_takeRecorded) (maxL := 1) (ret := none) (by decide) rfl ?_
  intro p e s m args below meth c s₁ B hml hv
  obtain ⟨rfl, hsz, hP, hK, hD0, hN⟩ := hv
  have hx := B.exec
  have hb := B.bytes
  have hr := B.returns
  have hts := atoms_spec (ws := ow_dm_X11_takeRecorded) B.pre
  have hown : s.vm.findClass RX11 = some m.cls := findClass_of_methodNamed B.named
  have hlocks := B.notSynchronized
  subst hsz
  have hD := hD0.self (sz := s.heap.size)
  generalize hAe : va_A (dw_X11 a ac s0) s.heap.size = A at hD hN ⊢
  have hA : ∀ q : Nat, s.heap.size ≤ q → A q := fun q h => by rw [← hAe]; exact Or.inr h
  have hl := lv_entry ([.ref (a 0)]) (n := 1) (Nat.le_of_ble_eq_true rfl)
  rw [lg_entry_eq]
  generalize (lg_sl ([.ref (a 0)]) ++ List.replicate (1 - (lg_sl ([.ref (a 0)])).length) Slot.unset).toArray = ls at hl ⊢
  have hl : lv_has ls 1 [(0, .ref (a 0))] := hl
  exact db_X11_takeRecorded_0 (dC := dC) (dI := dI) (a := a) (ac := ac) (n := n) (r := r) ⟨hlt, hx, hb, hml, hown, hts, hN, hA, hK⟩ (fun pc τ H locs ls d er hP hD hS => by subst er; exact W.vret hx hb hr (fun t ht hW => ⟨⟨(), rfl, trivial, by rw [ht]; exact hP, va_K.moved hW.alike hK, hD⟩, hS.F ht⟩) hS.2.2 d) n s0 _ _ _ h hP hD va_S.rf (lv_sub hl [0] rfl)
def ow_dm_X11_advance : List Cond := .code yX11_advance cX11_advance 1 none :: ([.fieldLink RX11 39 "TimeMachine$Timeline" "kernel" "LTimeMachine$Kernel;", .methodLink RX11 98 yX5_tick, .instanceMethod yX5_tick, .selects RX5 yX5_tick yX5_tick, .initialized RX5, .fieldLink RX11 72 "TimeMachine$Timeline" "now" "I", .fieldLink RX11 44 "TimeMachine$Timeline" "writes" "[I", .fieldLink RX11 88 "TimeMachine$Timeline" "spacing" "I", .methodLink RX11 104 Lib.Math.max.name, .static Lib.Math.max.name, .initialized "java/lang/Math", .code Lib.Math.max.name Lib.Math.max.code 2 (some .int), .methodLink RX11 113 yX11_takeRecorded, .instanceMethod yX11_takeRecorded, .selects RX11 yX11_takeRecorded yX11_takeRecorded, .initialized RX11, .fieldLink RX11 76 "TimeMachine$Timeline" "end" "I", .methodLink RX11 62 yX11_takeScheduled, .instanceMethod yX11_takeScheduled, .selects RX11 yX11_takeScheduled yX11_takeScheduled, .fieldLink RX11 52 "TimeMachine$Timeline" "copyAt" "[I", .fieldLink RX11 85 "TimeMachine$Timeline" "copies" "I", .methodLink RX11 91 yX11_keepCopy, .instanceMethod yX11_keepCopy, .selects RX11 yX11_keepCopy yX11_keepCopy, .methodLink RX11 110 yX11_thinOut, .instanceMethod yX11_thinOut, .selects RX11 yX11_thinOut yX11_thinOut, .fieldLink RX11 30 "TimeMachine$Timeline" "machine" "LTimeMachine$Machine;", .fieldLink RX11 101 "TimeMachine$Machine" "written" "I"] ++ (u_ws RX11 TX11 16 ++ (u_ws RX6 TX6 20 ++ (ow_dm_X5_tick ++ (ow_dm_X11_takeRecorded ++ (ow_dm_X11_takeScheduled ++ (ow_dm_X11_keepCopy ++ (ow_dm_X11_thinOut ++ []))))))))
theorem gd_dm_X11_advance : ∀ w ∈ ow_dm_X11_advance, (w.onTables && w.keeps) = true ∨ ∃ ty, w = Cond.arrayClass ty := List.forall_mem_cons.mpr ⟨good_of_word rfl, List.forall_mem_append.mpr ⟨fun w h => good_of_word (List.all_eq_true.mp (by decide +kernel) w h), List.forall_mem_append.mpr ⟨gu_X11, List.forall_mem_append.mpr ⟨gu_X6, List.forall_mem_append.mpr ⟨gd_dm_X5_tick, List.forall_mem_append.mpr ⟨gd_dm_X11_takeRecorded, List.forall_mem_append.mpr ⟨gd_dm_X11_takeScheduled, List.forall_mem_append.mpr ⟨gd_dm_X11_keepCopy, List.forall_mem_append.mpr ⟨gd_dm_X11_thinOut, fun _ h => nomatch h⟩⟩⟩⟩⟩⟩⟩⟩⟩
theorem hi_dm_X11_advance_X11 : ∀ w ∈ u_ws RX11 TX11 16, w ∈ ow_dm_X11_advance := fun w h => List.mem_cons_of_mem _ (List.mem_append_right _ (List.mem_append_left _ h))
theorem hi_dm_X11_advance_X6 : ∀ w ∈ u_ws RX6 TX6 20, w ∈ ow_dm_X11_advance := fun w h => List.mem_cons_of_mem _ (List.mem_append_right _ (List.mem_append_right _ (List.mem_append_left _ h)))
theorem gi_dm_X11_advance_0 : GoodIn ow_dm_X11_advance (wsV RX11 98 RX5 yX5_tick ow_dm_X5_tick) := goodIn_app (goodIn_of _ (by decide +kernel)) (fun w h => ⟨List.mem_cons_of_mem _ (List.mem_append_right _ (List.mem_append_right _ (List.mem_append_right _ (List.mem_append_left _ h)))), gd_dm_X5_tick w h⟩)
theorem gi_dm_X11_advance_1 : GoodIn ow_dm_X11_advance (wsV RX11 113 RX11 yX11_takeRecorded ow_dm_X11_takeRecorded) := goodIn_app (goodIn_of _ (by decide +kernel)) (fun w h => ⟨List.mem_cons_of_mem _ (List.mem_append_right _ (List.mem_append_right _ (List.mem_append_right _ (List.mem_append_right _ (List.mem_append_left _ h))))), gd_dm_X11_takeRecorded w h⟩)
theorem gi_dm_X11_advance_2 : GoodIn ow_dm_X11_advance (wsV RX11 62 RX11 yX11_takeScheduled ow_dm_X11_takeScheduled) := goodIn_app (goodIn_of _ (by decide +kernel)) (fun w h => ⟨List.mem_cons_of_mem _ (List.mem_append_right _ (List.mem_append_right _ (List.mem_append_right _ (List.mem_append_right _ (List.mem_append_right _ (List.mem_append_left _ h)))))), gd_dm_X11_takeScheduled w h⟩)
theorem gi_dm_X11_advance_3 : GoodIn ow_dm_X11_advance (wsV RX11 91 RX11 yX11_keepCopy ow_dm_X11_keepCopy) := goodIn_app (goodIn_of _ (by decide +kernel)) (fun w h => ⟨List.mem_cons_of_mem _ (List.mem_append_right _ (List.mem_append_right _ (List.mem_append_right _ (List.mem_append_right _ (List.mem_append_right _ (List.mem_append_right _ (List.mem_append_left _ h))))))), gd_dm_X11_keepCopy w h⟩)
theorem gi_dm_X11_advance_4 : GoodIn ow_dm_X11_advance (wsV RX11 110 RX11 yX11_thinOut ow_dm_X11_thinOut) := goodIn_app (goodIn_of _ (by decide +kernel)) (fun w h => ⟨List.mem_cons_of_mem _ (List.mem_append_right _ (List.mem_append_right _ (List.mem_append_right _ (List.mem_append_right _ (List.mem_append_right _ (List.mem_append_right _ (List.mem_append_right _ (List.mem_append_left _ h)))))))), gd_dm_X11_thinOut w h⟩)
def dj_X11_advance_139 (p : Program) (l : Launch) (e : Env) (s : State) (m : MethodId) (args : Array Value) (below : List Frame) (meth : Method) (c : Code) (Q : State → Prop) (A : Nat → Prop) (dC : Nat → ClassId) (dI : Nat → Nat → Nat) (a : Nat → Nat) (ac : Nat → ClassId) (g : (St × Rw × (St × (St × (St × (St)))) × (St) × (St) × (Nat → St) × (Nat → St) × (Nat → St × (St))) → Option (St × Rw × (St × (St × (St × (St)))) × (St) × (St) × (Nat → St) × (Nat → St) × (Nat → St × (St)))) (r : St × Rw × (St × (St × (St × (St)))) × (St) × (St) × (Nat → St) × (Nat → St) × (Nat → St × (St))) : Prop := ∀ (s0 : St × Rw × (St × (St × (St × (St)))) × (St) × (St) × (Nat → St) × (Nat → St) × (Nat → St × (St))) (H : Heap) (locs : List Loc) (ls : Array Slot), g s0 = some r → va_P (dC, dI) vwCl (dw_X11 a ac s0) H → va_D A (dw_X11 a ac s0) → va_S A s.heap H locs → lv_has ls 1 [] → W p l e (headSpec ow_dm_X11_advance ({ frames := 7, cells := 0, slots := 0, locals := 162 })).room s m args below meth c H locs 0 0 Q (F0 m 139 ls [])
def dj_X11_advance_112 (p : Program) (l : Launch) (e : Env) (s : State) (m : MethodId) (args : Array Value) (below : List Frame) (meth : Method) (c : Code) (Q : State → Prop) (A : Nat → Prop) (dC : Nat → ClassId) (dI : Nat → Nat → Nat) (a : Nat → Nat) (ac : Nat → ClassId) (g : (St × Rw × (St × (St × (St × (St)))) × (St) × (St) × (Nat → St) × (Nat → St) × (Nat → St × (St))) → Option (St × Rw × (St × (St × (St × (St)))) × (St) × (St) × (Nat → St) × (Nat → St) × (Nat → St × (St)))) (r : St × Rw × (St × (St × (St × (St)))) × (St) × (St) × (Nat → St) × (Nat → St) × (Nat → St × (St))) : Prop := ∀ (s0 : St × Rw × (St × (St × (St × (St)))) × (St) × (St) × (Nat → St) × (Nat → St) × (Nat → St × (St))) (H : Heap) (locs : List Loc) (ls : Array Slot), g s0 = some r → va_P (dC, dI) vwCl (dw_X11 a ac s0) H → va_D A (dw_X11 a ac s0) → va_S A s.heap H locs → lv_has ls 1 [(0, .ref (a 0))] → W p l e (headSpec ow_dm_X11_advance ({ frames := 7, cells := 0, slots := 0, locals := 162 })).room s m args below meth c H locs 0 0 Q (F0 m 112 ls [])
def dj_X11_advance_92 (p : Program) (l : Launch) (e : Env) (s : State) (m : MethodId) (args : Array Value) (below : List Frame) (meth : Method) (c : Code) (Q : State → Prop) (A : Nat → Prop) (dC : Nat → ClassId) (dI : Nat → Nat → Nat) (a : Nat → Nat) (ac : Nat → ClassId) (g : (St × Rw × (St × (St × (St × (St)))) × (St) × (St) × (Nat → St) × (Nat → St) × (Nat → St × (St))) → Option (St × Rw × (St × (St × (St × (St)))) × (St) × (St) × (Nat → St) × (Nat → St) × (Nat → St × (St)))) (r : St × Rw × (St × (St × (St × (St)))) × (St) × (St) × (Nat → St) × (Nat → St) × (Nat → St × (St))) : Prop := ∀ (s0 : St × Rw × (St × (St × (St × (St)))) × (St) × (St) × (Nat → St) × (Nat → St) × (Nat → St × (St))) (H : Heap) (locs : List Loc) (ls : Array Slot), g s0 = some r → va_P (dC, dI) vwCl (dw_X11 a ac s0) H → va_D A (dw_X11 a ac s0) → va_S A s.heap H locs → lv_has ls 1 [(0, .ref (a 0))] → W p l e (headSpec ow_dm_X11_advance ({ frames := 7, cells := 0, slots := 0, locals := 162 })).room s m args below meth c H locs 0 0 Q (F0 m 92 ls [])
def dj_X11_advance_35 (p : Program) (l : Launch) (e : Env) (s : State) (m : MethodId) (args : Array Value) (below : List Frame) (meth : Method) (c : Code) (Q : State → Prop) (A : Nat → Prop) (dC : Nat → ClassId) (dI : Nat → Nat → Nat) (a : Nat → Nat) (ac : Nat → ClassId) (g : (St × Rw × (St × (St × (St × (St)))) × (St) × (St) × (Nat → St) × (Nat → St) × (Nat → St × (St))) → Option (St × Rw × (St × (St × (St × (St)))) × (St) × (St) × (Nat → St) × (Nat → St) × (Nat → St × (St)))) (r : St × Rw × (St × (St × (St × (St)))) × (St) × (St) × (Nat → St) × (Nat → St) × (Nat → St × (St))) : Prop := ∀ (s0 : St × Rw × (St × (St × (St × (St)))) × (St) × (St) × (Nat → St) × (Nat → St) × (Nat → St × (St))) (H : Heap) (locs : List Loc) (ls : Array Slot), g s0 = some r → va_P (dC, dI) vwCl (dw_X11 a ac s0) H → va_D A (dw_X11 a ac s0) → va_S A s.heap H locs → lv_has ls 1 [(0, .ref (a 0))] → W p l e (headSpec ow_dm_X11_advance ({ frames := 7, cells := 0, slots := 0, locals := 162 })).room s m args below meth c H locs 0 0 Q (F0 m 35 ls [])
def dj_X11_advance_0 (p : Program) (l : Launch) (e : Env) (s : State) (m : MethodId) (args : Array Value) (below : List Frame) (meth : Method) (c : Code) (Q : State → Prop) (A : Nat → Prop) (dC : Nat → ClassId) (dI : Nat → Nat → Nat) (a : Nat → Nat) (ac : Nat → ClassId) (g : (St × Rw × (St × (St × (St × (St)))) × (St) × (St) × (Nat → St) × (Nat → St) × (Nat → St × (St))) → Option (St × Rw × (St × (St × (St × (St)))) × (St) × (St) × (Nat → St) × (Nat → St) × (Nat → St × (St)))) (r : St × Rw × (St × (St × (St × (St)))) × (St) × (St) × (Nat → St) × (Nat → St) × (Nat → St × (St))) : Prop := ∀ (s0 : St × Rw × (St × (St × (St × (St)))) × (St) × (St) × (Nat → St) × (Nat → St) × (Nat → St × (St))) (H : Heap) (locs : List Loc) (ls : Array Slot), g s0 = some r → va_P (dC, dI) vwCl (dw_X11 a ac s0) H → va_D A (dw_X11 a ac s0) → va_S A s.heap H locs → lv_has ls 1 [(0, .ref (a 0))] → W p l e (headSpec ow_dm_X11_advance ({ frames := 7, cells := 0, slots := 0, locals := 162 })).room s m args below meth c H locs 0 0 Q (F0 m 0 ls [])
set_option maxHeartbeats 40000000 in
set_option maxRecDepth 100000 in
theorem db_X11_advance_139 {p : Program} {l : Launch} {e : Env} {s : State} {m : MethodId} {args : Array Value} {below : List Frame} {meth : Method} {c : Code} {Q : State → Prop} {A : Nat → Prop} {dC : Nat → ClassId} {dI : Nat → Nat → Nat} {a : Nat → Nat} {ac : Nat → ClassId} {n : Nat} {r : St × Rw × (St × (St × (St × (St)))) × (St) × (St) × (Nat → St) × (Nat → St) × (Nat → St × (St))} (C : nd_C p l s m args c A (dC, dI) cX11_advance 1 RX11 ow_dm_X11_advance (dk_X11 ac)) (K : nd_Kv p l e (headSpec ow_dm_X11_advance ({ frames := 7, cells := 0, slots := 0, locals := 162 })).room s m args below meth c Q A (dC, dI) cX11_advance (St × Rw × (St × (St × (St × (St)))) × (St) × (St) × (Nat → St) × (Nat → St) × (Nat → St × (St))) (dw_X11 a ac) r) : dj_X11_advance_139 p l e s m args below meth c Q A dC dI a ac (df_X11_advance_139 n) r := by
  obtain ⟨hlt, hx, hb, hml, hown, hts, hN, hA, hK⟩ := id C
  intro s0 H locs ls h hP hD hS hl
  unfold df_X11_advance_139 at h
  exact K _ _ _ _ _ dX11_advance_139 (Option.some.inj h).symm hP hD hS
set_option maxHeartbeats 40000000 in
set_option maxRecDepth 100000 in
theorem db_X11_advance_112 {p : Program} {l : Launch} {e : Env} {s : State} {m : MethodId} {args : Array Value} {below : List Frame} {meth : Method} {c : Code} {Q : State → Prop} {A : Nat → Prop} {dC : Nat → ClassId} {dI : Nat → Nat → Nat} {a : Nat → Nat} {ac : Nat → ClassId} {n : Nat} {r : St × Rw × (St × (St × (St × (St)))) × (St) × (St) × (Nat → St) × (Nat → St) × (Nat → St × (St))} (C : nd_C p l s m args c A (dC, dI) cX11_advance 1 RX11 ow_dm_X11_advance (dk_X11 ac)) (K : nd_Kv p l e (headSpec ow_dm_X11_advance ({ frames := 7, cells := 0, slots := 0, locals := 162 })).room s m args below meth c Q A (dC, dI) cX11_advance (St × Rw × (St × (St × (St × (St)))) × (St) × (St) × (Nat → St) × (Nat → St) × (Nat → St × (St))) (dw_X11 a ac) r) : dj_X11_advance_112 p l e s m args below meth c Q A dC dI a ac (df_X11_advance_112 n) r := by
  obtain ⟨hlt, hx, hb, hml, hown, hts, hN, hA, hK⟩ := id C
  intro s0 H locs ls h hP hD hS hl
  unfold df_X11_advance_112 at h
  refine lv_aload_n hx hb dX11_advance_112 rfl (lv_at hl 0 rfl) ?_
  obtain ⟨s9, hq, h⟩ := nd_b1_e h
  have hPc := hP
  have hDc := hD
  have hKc := hK
  have hFc := nd_rs hD hS hA
  refine nd_cVv (As := []) (rest := []) (w' := dw_X11 a ac s9) ⟨hx, hb, hml, hown, hts⟩ (fun sz => dm_X11_takeRecorded l hlt dC dI a ac n  s0 hq sz) (cwV 0 hts gi_dm_X11_advance_1 rfl rfl rfl (by decide +kernel) ⟨Nat.le_of_ble_eq_true rfl, Nat.le_of_ble_eq_true rfl⟩) hPc hDc hKc hS hA hN (va_recv hKc hPc (ci := 12) (q0 := 0) rfl rfl) rfl hl.1 rfl (Nat.le_of_ble_eq_true rfl) dX11_advance_113 (fun H locs hP1 hD1 hk1 hS => ?_)
  have hP := hP1
  have hD := hD1.weaken (fun k q _ h => hFc q.1 h)
  refine lv_aload_n hx hb dX11_advance_116 rfl (lv_at hl 0 rfl) ?_
  refine va_get (D := (dC, dI)) (ci := 12) (v := .int (sI s9.1 3)) (C := RX11) (T := TX11) (N := 16) hx hb hts hi_dm_X11_advance_X11 hown hK hP 0 rfl rfl 11 (by decide) (hts (.fieldLink RX11 72 "TimeMachine$Timeline" "now" "I") (List.mem_of_getElem? (i := 6) rfl)) (fun _ h9 => h9) rfl dX11_advance_117 ?_
  refine lv_aload_n hx hb dX11_advance_120 rfl (lv_at hl 0 rfl) ?_
  refine va_get (D := (dC, dI)) (ci := 12) (v := .int (sI s9.1 4)) (C := RX11) (T := TX11) (N := 16) hx hb hts hi_dm_X11_advance_X11 hown hK hP 0 rfl rfl 12 (by decide) (hts (.fieldLink RX11 76 "TimeMachine$Timeline" "end" "I") (List.mem_of_getElem? (i := 17) rfl)) (fun _ h9 => h9) rfl dX11_advance_121 ?_
  refine lv_icmp_le (tgt := 139) hx hb dX11_advance_124 (by decide) (fun c11 => ?_) (fun c11 => ?_)
  · have h := nd_pos h c11
    exact (db_X11_advance_139 C K)  s9 _ _ _ h hP hD hS (lv_sub hl [] rfl)
  · have h := nd_neg h c11
    refine lv_aload_n hx hb dX11_advance_127 rfl (lv_at hl 0 rfl) ?_
    refine lv_aload_n hx hb dX11_advance_128 rfl (lv_at hl 0 rfl) ?_
    refine va_get (D := (dC, dI)) (ci := 12) (v := .int (sI s9.1 3)) (C := RX11) (T := TX11) (N := 16) hx hb hts hi_dm_X11_advance_X11 hown hK hP 0 rfl rfl 11 (by decide) (hts (.fieldLink RX11 72 "TimeMachine$Timeline" "now" "I") (List.mem_of_getElem? (i := 6) rfl)) (fun _ h9 => h9) rfl dX11_advance_129 ?_
    refine va_put (D := (dC, dI)) (ci := 12) (v := .int (sI s9.1 3)) (ty := .int) (C := RX11) (T := TX11) (N := 16) hx hb hts hi_dm_X11_advance_X11 tyX11 tyX11_ok nmX11 hown hK hP hD hS 0 rfl rfl 12 (by decide) (hts (.fieldLink RX11 76 "TimeMachine$Timeline" "end" "I") (List.mem_of_getElem? (i := 17) rfl)) (fun _ h9 => h9) rfl (by decide +kernel) rfl rfl (Nat.le_of_ble_eq_true rfl) dX11_advance_132 (fun H locs hP hD hS => ?_)
    obtain ⟨s12, es12, h⟩ := nd_let_e h
    have hP : va_P (dC, dI) vwCl (dw_X11 a ac s12) H := by rw [es12]; exact hP
    have hD : va_D A (dw_X11 a ac s12) := by rw [es12]; exact hD
    refine lv_aload_n hx hb dX11_advance_135 rfl (lv_at hl 0 rfl) ?_
    obtain ⟨s14, hq, h⟩ := nd_b1_e h
    have hPc := hP
    have hDc := hD
    have hKc := hK
    have hFc := nd_rs hD hS hA
    refine nd_cVv (As := []) (rest := []) (w' := dw_X11 a ac s14) ⟨hx, hb, hml, hown, hts⟩ (fun sz => dm_X11_takeScheduled l hlt dC dI a ac n  s12 hq sz) (cwV 0 hts gi_dm_X11_advance_2 rfl rfl rfl (by decide +kernel) ⟨Nat.le_of_ble_eq_true rfl, Nat.le_of_ble_eq_true rfl⟩) hPc hDc hKc hS hA hN (va_recv hKc hPc (ci := 12) (q0 := 0) rfl rfl) rfl hl.1 rfl (Nat.le_of_ble_eq_true rfl) dX11_advance_136 (fun H locs hP1 hD1 hk1 hS => ?_)
    have hP := hP1
    have hD := hD1.weaken (fun k q _ h => hFc q.1 h)
    exact (db_X11_advance_139 C K)  s14 _ _ _ h hP hD hS (lv_sub hl [] rfl)
set_option maxHeartbeats 40000000 in
set_option maxRecDepth 100000 in
theorem db_X11_advance_92 {p : Program} {l : Launch} {e : Env} {s : State} {m : MethodId} {args : Array Value} {below : List Frame} {meth : Method} {c : Code} {Q : State → Prop} {A : Nat → Prop} {dC : Nat → ClassId} {dI : Nat → Nat → Nat} {a : Nat → Nat} {ac : Nat → ClassId} {n : Nat} {r : St × Rw × (St × (St × (St × (St)))) × (St) × (St) × (Nat → St) × (Nat → St) × (Nat → St × (St))} (C : nd_C p l s m args c A (dC, dI) cX11_advance 1 RX11 ow_dm_X11_advance (dk_X11 ac)) (K : nd_Kv p l e (headSpec ow_dm_X11_advance ({ frames := 7, cells := 0, slots := 0, locals := 162 })).room s m args below meth c Q A (dC, dI) cX11_advance (St × Rw × (St × (St × (St × (St)))) × (St) × (St) × (Nat → St) × (Nat → St) × (Nat → St × (St))) (dw_X11 a ac) r) : dj_X11_advance_92 p l e s m args below meth c Q A dC dI a ac (df_X11_advance_92 n) r := by
  obtain ⟨hlt, hx, hb, hml, hown, hts, hN, hA, hK⟩ := id C
  intro s0 H locs ls h hP hD hS hl
  unfold df_X11_advance_92 at h
  refine lv_aload_n hx hb dX11_advance_92 rfl (lv_at hl 0 rfl) ?_
  refine va_get (D := (dC, dI)) (ci := 12) (v := .int (sI s0.1 3)) (C := RX11) (T := TX11) (N := 16) hx hb hts hi_dm_X11_advance_X11 hown hK hP 0 rfl rfl 11 (by decide) (hts (.fieldLink RX11 72 "TimeMachine$Timeline" "now" "I") (List.mem_of_getElem? (i := 6) rfl)) (fun _ h9 => h9) rfl dX11_advance_93 ?_
  refine lv_iconst (v := 1) hx hb dX11_advance_96 (by decide) ?_
  refine lv_aload_n hx hb dX11_advance_97 rfl (lv_at hl 0 rfl) ?_
  refine va_get (D := (dC, dI)) (ci := 12) (v := .int (sI s0.1 2)) (C := RX11) (T := TX11) (N := 16) hx hb hts hi_dm_X11_advance_X11 hown hK hP 0 rfl rfl 10 (by decide) (hts (.fieldLink RX11 88 "TimeMachine$Timeline" "spacing" "I") (List.mem_of_getElem? (i := 8) rfl)) (fun _ h9 => h9) rfl dX11_advance_98 ?_
  refine va_mmax hx hb (by rw [hml]; exact hl.1.symm) hown (hts (.methodLink RX11 104 Lib.Math.max.name) (List.mem_of_getElem? (i := 9) rfl)) (hts (.static Lib.Math.max.name) (List.mem_of_getElem? (i := 10) rfl)) (hts (.initialized "java/lang/Math") (List.mem_of_getElem? (i := 11) rfl)) (hts (.code Lib.Math.max.name Lib.Math.max.code 2 (some .int)) (List.mem_of_getElem? (i := 12) rfl)) (Nat.le_of_ble_eq_true rfl) (Nat.le_of_ble_eq_true rfl) (by decide +kernel) (by decide +kernel) dX11_advance_101 ?_
  obtain ⟨i19, h⟩ := nd_nz_e h
  refine lv_irem hx hb dX11_advance_104 i19 ?_
  refine lv_if_ne (tgt := 112) hx hb dX11_advance_105 (by decide) (fun c20 => ?_) (fun c20 => ?_)
  · have h := nd_neg h c20
    exact (db_X11_advance_112 C K)  s0 _ _ _ h hP hD hS (lv_sub hl [0] rfl)
  · have h := nd_pos h c20
    refine lv_aload_n hx hb dX11_advance_108 rfl (lv_at hl 0 rfl) ?_
    obtain ⟨s22, hq, h⟩ := nd_b1_e h
    have hPc := hP
    have hDc := hD
    have hKc := hK
    have hFc := nd_rs hD hS hA
    refine nd_cVv (As := []) (rest := []) (w' := dw_X11 a ac s22) ⟨hx, hb, hml, hown, hts⟩ (fun sz => dm_X11_keepCopy l hlt dC dI a ac n  s0 hq sz) (cwV 0 hts gi_dm_X11_advance_3 rfl rfl rfl (by decide +kernel) ⟨Nat.le_of_ble_eq_true rfl, Nat.le_of_ble_eq_true rfl⟩) hPc hDc hKc hS hA hN (va_recv hKc hPc (ci := 12) (q0 := 0) rfl rfl) rfl hl.1 rfl (Nat.le_of_ble_eq_true rfl) dX11_advance_109 (fun H locs hP1 hD1 hk1 hS => ?_)
    have hP := hP1
    have hD := hD1.weaken (fun k q _ h => hFc q.1 h)
    exact (db_X11_advance_112 C K)  s22 _ _ _ h hP hD hS (lv_sub hl [0] rfl)
set_option maxHeartbeats 40000000 in
set_option maxRecDepth 100000 in
theorem db_X11_advance_35 {p : Program} {l : Launch} {e : Env} {s : State} {m : MethodId} {args : Array Value} {below : List Frame} {meth : Method} {c : Code} {Q : State → Prop} {A : Nat → Prop} {dC : Nat → ClassId} {dI : Nat → Nat → Nat} {a : Nat → Nat} {ac : Nat → ClassId} {n : Nat} {r : St × Rw × (St × (St × (St × (St)))) × (St) × (St) × (Nat → St) × (Nat → St) × (Nat → St × (St))} (C : nd_C p l s m args c A (dC, dI) cX11_advance 1 RX11 ow_dm_X11_advance (dk_X11 ac)) (K : nd_Kv p l e (headSpec ow_dm_X11_advance ({ frames := 7, cells := 0, slots := 0, locals := 162 })).room s m args below meth c Q A (dC, dI) cX11_advance (St × Rw × (St × (St × (St × (St)))) × (St) × (St) × (Nat → St) × (Nat → St) × (Nat → St × (St))) (dw_X11 a ac) r) : dj_X11_advance_35 p l e s m args below meth c Q A dC dI a ac (df_X11_advance_35 n) r := by
  obtain ⟨hlt, hx, hb, hml, hown, hts, hN, hA, hK⟩ := id C
  intro s0 H locs ls h hP hD hS hl
  unfold df_X11_advance_35 at h
  refine lv_aload_n hx hb dX11_advance_35 rfl (lv_at hl 0 rfl) ?_
  refine lv_dup hx hb dX11_advance_36 rfl ?_
  refine va_get (D := (dC, dI)) (ci := 12) (v := .int (sI s0.1 3)) (C := RX11) (T := TX11) (N := 16) hx hb hts hi_dm_X11_advance_X11 hown hK hP 0 rfl rfl 11 (by decide) (hts (.fieldLink RX11 72 "TimeMachine$Timeline" "now" "I") (List.mem_of_getElem? (i := 6) rfl)) (fun _ h9 => h9) rfl dX11_advance_37 ?_
  refine lv_iconst (v := 1) hx hb dX11_advance_40 (by decide) ?_
  refine lv_iadd hx hb dX11_advance_41 ?_
  refine va_put (D := (dC, dI)) (ci := 12) (v := .int ((sI s0.1 3) + 1)) (ty := .int) (C := RX11) (T := TX11) (N := 16) hx hb hts hi_dm_X11_advance_X11 tyX11 tyX11_ok nmX11 hown hK hP hD hS 0 rfl rfl 11 (by decide) (hts (.fieldLink RX11 72 "TimeMachine$Timeline" "now" "I") (List.mem_of_getElem? (i := 6) rfl)) (fun _ h9 => h9) rfl (by decide +kernel) rfl rfl (Nat.le_of_ble_eq_true rfl) dX11_advance_42 (fun H locs hP hD hS => ?_)
  obtain ⟨s5, es5, h⟩ := nd_let_e h
  have hP : va_P (dC, dI) vwCl (dw_X11 a ac s5) H := by rw [es5]; exact hP
  have hD : va_D A (dw_X11 a ac s5) := by rw [es5]; exact hD
  refine lv_aload_n hx hb dX11_advance_45 rfl (lv_at hl 0 rfl) ?_
  refine va_get (D := (dC, dI)) (ci := 12) (v := .int (sI s5.1 3)) (C := RX11) (T := TX11) (N := 16) hx hb hts hi_dm_X11_advance_X11 hown hK hP 0 rfl rfl 11 (by decide) (hts (.fieldLink RX11 72 "TimeMachine$Timeline" "now" "I") (List.mem_of_getElem? (i := 6) rfl)) (fun _ h9 => h9) rfl dX11_advance_46 ?_
  refine lv_iconst (v := 1) hx hb dX11_advance_49 (by decide) ?_
  refine lv_aload_n hx hb dX11_advance_50 rfl (lv_at hl 0 rfl) ?_
  refine va_get (D := (dC, dI)) (ci := 12) (v := .int (sI s5.1 2)) (C := RX11) (T := TX11) (N := 16) hx hb hts hi_dm_X11_advance_X11 hown hK hP 0 rfl rfl 10 (by decide) (hts (.fieldLink RX11 88 "TimeMachine$Timeline" "spacing" "I") (List.mem_of_getElem? (i := 8) rfl)) (fun _ h9 => h9) rfl dX11_advance_51 ?_
  refine va_mmax hx hb (by rw [hml]; exact hl.1.symm) hown (hts (.methodLink RX11 104 Lib.Math.max.name) (List.mem_of_getElem? (i := 9) rfl)) (hts (.static Lib.Math.max.name) (List.mem_of_getElem? (i := 10) rfl)) (hts (.initialized "java/lang/Math") (List.mem_of_getElem? (i := 11) rfl)) (hts (.code Lib.Math.max.name Lib.Math.max.code 2 (some .int)) (List.mem_of_getElem? (i := 12) rfl)) (Nat.le_of_ble_eq_true rfl) (Nat.le_of_ble_eq_true rfl) (by decide +kernel) (by decide +kernel) dX11_advance_54 ?_
  obtain ⟨i6, h⟩ := nd_nz_e h
  refine lv_irem hx hb dX11_advance_57 i6 ?_
  refine lv_if_ne (tgt := 112) hx hb dX11_advance_58 (by decide) (fun c7 => ?_) (fun c7 => ?_)
  · have h := nd_neg h c7
    exact (db_X11_advance_112 C K)  s5 _ _ _ h hP hD hS (lv_sub hl [0] rfl)
  · have h := nd_pos h c7
    refine lv_aload_n hx hb dX11_advance_61 rfl (lv_at hl 0 rfl) ?_
    refine va_get (D := (dC, dI)) (ci := 12) (v := .int (sI s5.1 3)) (C := RX11) (T := TX11) (N := 16) hx hb hts hi_dm_X11_advance_X11 hown hK hP 0 rfl rfl 11 (by decide) (hts (.fieldLink RX11 72 "TimeMachine$Timeline" "now" "I") (List.mem_of_getElem? (i := 6) rfl)) (fun _ h9 => h9) rfl dX11_advance_62 ?_
    refine lv_aload_n hx hb dX11_advance_65 rfl (lv_at hl 0 rfl) ?_
    refine va_get (D := (dC, dI)) (ci := 12) (v := .ref (a 2)) (C := RX11) (T := TX11) (N := 16) hx hb hts hi_dm_X11_advance_X11 hown hK hP 0 rfl rfl 8 (by decide) (hts (.fieldLink RX11 52 "TimeMachine$Timeline" "copyAt" "[I") (List.mem_of_getElem? (i := 21) rfl)) (fun _ h9 => h9) rfl dX11_advance_66 ?_
    refine lv_aload_n hx hb dX11_advance_69 rfl (lv_at hl 0 rfl) ?_
    refine va_get (D := (dC, dI)) (ci := 12) (v := .int (sI s5.1 1)) (C := RX11) (T := TX11) (N := 16) hx hb hts hi_dm_X11_advance_X11 hown hK hP 0 rfl rfl 9 (by decide) (hts (.fieldLink RX11 85 "TimeMachine$Timeline" "copies" "I") (List.mem_of_getElem? (i := 22) rfl)) (fun _ h9 => h9) rfl dX11_advance_70 ?_
    refine lv_iconst (v := 1) hx hb dX11_advance_73 (by decide) ?_
    refine lv_isub hx hb dX11_advance_74 ?_
    obtain ⟨i16, h⟩ := nd_ck_e h
    refine va_iald (i := ((sI s5.1 1) - 1)) hx hb hK hP 2 1 rfl rfl i16 dX11_advance_75 ?_
    refine lv_icmp_le (tgt := 112) hx hb dX11_advance_76 (by decide) (fun c17 => ?_) (fun c17 => ?_)
    · have h := nd_pos h c17
      exact (db_X11_advance_112 C K)  s5 _ _ _ h hP hD hS (lv_sub hl [0] rfl)
    · have h := nd_neg h c17
      refine lv_aload_n hx hb dX11_advance_79 rfl (lv_at hl 0 rfl) ?_
      refine va_get (D := (dC, dI)) (ci := 12) (v := .int (sI s5.1 1)) (C := RX11) (T := TX11) (N := 16) hx hb hts hi_dm_X11_advance_X11 hown hK hP 0 rfl rfl 9 (by decide) (hts (.fieldLink RX11 85 "TimeMachine$Timeline" "copies" "I") (List.mem_of_getElem? (i := 22) rfl)) (fun _ h9 => h9) rfl dX11_advance_80 ?_
      refine lv_bipush (v := 8) hx hb dX11_advance_83 (by decide) ?_
      refine lv_icmp_ne (tgt := 92) hx hb dX11_advance_85 (by decide) (fun c18 => ?_) (fun c18 => ?_)
      · have h := nd_neg h c18
        exact (db_X11_advance_92 C K)  s5 _ _ _ h hP hD hS (lv_sub hl [0] rfl)
      · have h := nd_pos h c18
        refine lv_aload_n hx hb dX11_advance_88 rfl (lv_at hl 0 rfl) ?_
        obtain ⟨s25, hq, h⟩ := nd_b1_e h
        have hPc := hP
        have hDc := hD
        have hKc := hK
        have hFc := nd_rs hD hS hA
        refine nd_cVv (As := []) (rest := []) (w' := dw_X11 a ac s25) ⟨hx, hb, hml, hown, hts⟩ (fun sz => dm_X11_thinOut l hlt dC dI a ac n  s5 hq sz) (cwV 0 hts gi_dm_X11_advance_4 rfl rfl rfl (by decide +kernel) ⟨Nat.le_of_ble_eq_true rfl, Nat.le_of_ble_eq_true rfl⟩) hPc hDc hKc hS hA hN (va_recv hKc hPc (ci := 12) (q0 := 0) rfl rfl) rfl hl.1 rfl (Nat.le_of_ble_eq_true rfl) dX11_advance_89 (fun H locs hP1 hD1 hk1 hS => ?_)
        have hP := hP1
        have hD := hD1.weaken (fun k q _ h => hFc q.1 h)
        exact (db_X11_advance_92 C K)  s25 _ _ _ h hP hD hS (lv_sub hl [0] rfl)
set_option maxHeartbeats 40000000 in
set_option maxRecDepth 100000 in
theorem db_X11_advance_0 {p : Program} {l : Launch} {e : Env} {s : State} {m : MethodId} {args : Array Value} {below : List Frame} {meth : Method} {c : Code} {Q : State → Prop} {A : Nat → Prop} {dC : Nat → ClassId} {dI : Nat → Nat → Nat} {a : Nat → Nat} {ac : Nat → ClassId} {n : Nat} {r : St × Rw × (St × (St × (St × (St)))) × (St) × (St) × (Nat → St) × (Nat → St) × (Nat → St × (St))} (C : nd_C p l s m args c A (dC, dI) cX11_advance 1 RX11 ow_dm_X11_advance (dk_X11 ac)) (K : nd_Kv p l e (headSpec ow_dm_X11_advance ({ frames := 7, cells := 0, slots := 0, locals := 162 })).room s m args below meth c Q A (dC, dI) cX11_advance (St × Rw × (St × (St × (St × (St)))) × (St) × (St) × (Nat → St) × (Nat → St) × (Nat → St × (St))) (dw_X11 a ac) r) : dj_X11_advance_0 p l e s m args below meth c Q A dC dI a ac (df_X11_advance_0 n) r := by
  obtain ⟨hlt, hx, hb, hml, hown, hts, hN, hA, hK⟩ := id C
  intro s0 H locs ls h hP hD hS hl
  unfold df_X11_advance_0 at h
  refine lv_aload_n hx hb dX11_advance_0 rfl (lv_at hl 0 rfl) ?_
  refine va_get (D := (dC, dI)) (ci := 12) (v := .ref (a 3)) (C := RX11) (T := TX11) (N := 16) hx hb hts hi_dm_X11_advance_X11 hown hK hP 0 rfl rfl 4 (by decide) (hts (.fieldLink RX11 39 "TimeMachine$Timeline" "kernel" "LTimeMachine$Kernel;") (List.mem_of_getElem? (i := 1) rfl)) (fun _ h9 => h9) rfl dX11_advance_1 ?_
  obtain ⟨s2, hq, h⟩ := nd_b1_e h
  have hPc := hP
  have hDc := hD
  have hKc := hK
  have hFc := nd_rs hD hS hA
  refine nd_cVv (As := []) (rest := []) (w' := dw_X11 a ac s2) ⟨hx, hb, hml, hown, hts⟩ (fun sz => dm_X5_tick l hlt dC dI a ac n  s0 hq sz) (cwV 0 hts gi_dm_X11_advance_0 rfl rfl rfl (by decide +kernel) ⟨Nat.le_of_ble_eq_true rfl, Nat.le_of_ble_eq_true rfl⟩) hPc hDc hKc hS hA hN (va_recv hKc hPc (ci := 6) (q0 := 3) rfl rfl) rfl hl.1 rfl (Nat.le_of_ble_eq_true rfl) dX11_advance_4 (fun H locs hP1 hD1 hk1 hS => ?_)
  have hP := hP1
  have hD := hD1.weaken (fun k q _ h => hFc q.1 h)
  refine lv_aload_n hx hb dX11_advance_7 rfl (lv_at hl 0 rfl) ?_
  refine va_get (D := (dC, dI)) (ci := 12) (v := .int (sI s2.1 3)) (C := RX11) (T := TX11) (N := 16) hx hb hts hi_dm_X11_advance_X11 hown hK hP 0 rfl rfl 11 (by decide) (hts (.fieldLink RX11 72 "TimeMachine$Timeline" "now" "I") (List.mem_of_getElem? (i := 6) rfl)) (fun _ h9 => h9) rfl dX11_advance_8 ?_
  refine lv_aload_n hx hb dX11_advance_11 rfl (lv_at hl 0 rfl) ?_
  refine va_get (D := (dC, dI)) (ci := 12) (v := .ref (a 1)) (C := RX11) (T := TX11) (N := 16) hx hb hts hi_dm_X11_advance_X11 hown hK hP 0 rfl rfl 5 (by decide) (hts (.fieldLink RX11 44 "TimeMachine$Timeline" "writes" "[I") (List.mem_of_getElem? (i := 7) rfl)) (fun _ h9 => h9) rfl dX11_advance_12 ?_
  refine va_alen (v := 60000) hx hb hK hP 1 0 rfl rfl (show Int32.ofNat 60000 = 60000 by decide) dX11_advance_15 ?_
  refine lv_icmp_ge (tgt := 35) hx hb dX11_advance_16 (by decide) (fun c4 => ?_) (fun c4 => ?_)
  · have h := nd_pos h c4
    exact (db_X11_advance_35 C K)  s2 _ _ _ h hP hD hS (lv_sub hl [0] rfl)
  · have h := nd_neg h c4
    refine lv_aload_n hx hb dX11_advance_19 rfl (lv_at hl 0 rfl) ?_
    refine va_get (D := (dC, dI)) (ci := 12) (v := .ref (a 1)) (C := RX11) (T := TX11) (N := 16) hx hb hts hi_dm_X11_advance_X11 hown hK hP 0 rfl rfl 5 (by decide) (hts (.fieldLink RX11 44 "TimeMachine$Timeline" "writes" "[I") (List.mem_of_getElem? (i := 7) rfl)) (fun _ h9 => h9) rfl dX11_advance_20 ?_
    refine lv_aload_n hx hb dX11_advance_23 rfl (lv_at hl 0 rfl) ?_
    refine va_get (D := (dC, dI)) (ci := 12) (v := .int (sI s2.1 3)) (C := RX11) (T := TX11) (N := 16) hx hb hts hi_dm_X11_advance_X11 hown hK hP 0 rfl rfl 11 (by decide) (hts (.fieldLink RX11 72 "TimeMachine$Timeline" "now" "I") (List.mem_of_getElem? (i := 6) rfl)) (fun _ h9 => h9) rfl dX11_advance_24 ?_
    refine lv_aload_n hx hb dX11_advance_27 rfl (lv_at hl 0 rfl) ?_
    refine va_get (D := (dC, dI)) (ci := 12) (v := .ref (a 7)) (C := RX11) (T := TX11) (N := 16) hx hb hts hi_dm_X11_advance_X11 hown hK hP 0 rfl rfl 3 (by decide) (hts (.fieldLink RX11 30 "TimeMachine$Timeline" "machine" "LTimeMachine$Machine;") (List.mem_of_getElem? (i := 29) rfl)) (fun _ h9 => h9) rfl dX11_advance_28 ?_
    refine va_get (D := (dC, dI)) (ci := 7) (v := .int (sI s2.2.2.1.2.2.1 7)) (C := RX6) (T := TX6) (N := 20) hx hb hts hi_dm_X11_advance_X6 hown hK hP 7 rfl rfl 19 (by decide) (hts (.fieldLink RX11 101 "TimeMachine$Machine" "written" "I") (List.mem_of_getElem? (i := 30) rfl)) (fun _ h9 => h9) rfl dX11_advance_31 ?_
    obtain ⟨i27, h⟩ := nd_ck_e h
    refine va_iast (i := (sI s2.1 3)) (x := (sI s2.2.2.1.2.2.1 7)) hx hb hK hP hD hS 1 0 rfl rfl i27 dX11_advance_34 (fun H locs hP hD hS => ?_)
    obtain ⟨s28, es28, h⟩ := nd_let_e h
    have hP : va_P (dC, dI) vwCl (dw_X11 a ac s28) H := by rw [es28]; exact hP
    have hD : va_D A (dw_X11 a ac s28) := by rw [es28]; exact hD
    exact (db_X11_advance_35 C K)  s28 _ _ _ h hP hD hS (lv_sub hl [0] rfl)
set_option maxHeartbeats 40000000 in
set_option maxRecDepth 100000 in
theorem dm_X11_advance (l : Launch) (hlt : l.stackTraces = false) (dC : Nat → ClassId) (dI : Nat → Nat → Nat) (a : Nat → Nat) (ac : Nat → ClassId) (n : Nat) (s0 : St × Rw × (St × (St × (St × (St)))) × (St) × (St) × (Nat → St) × (Nat → St) × (Nat → St × (St))) {r : St × Rw × (St × (St × (St × (St)))) × (St) × (St) × (Nat → St) × (Nat → St) × (Nat → St × (St))} (h : df_X11_advance n s0 = some r) (sz : Nat) : Met l yX11_advance ow_dm_X11_advance ({ frames := 7, cells := 0, slots := 0, locals := 162 }) (va_Pc [.ref (a 0)] (fun U => U.heap.size = sz ∧ va_P (dC, dI) vwCl (dw_X11 a ac s0) U.heap ∧ va_K (dC, dI) vwCl (dk_X11 ac) U ∧ va_D (fun _ => True) (dw_X11 a ac s0) ∧ nv_E (va_A (dw_X11 a ac s0) sz) U)) (va_Qv (fun _ => True) (fun (_ : Unit) t => va_P (dC, dI) vwCl (dw_X11 a ac r) t.heap ∧ va_K (dC, dI) vwCl (dk_X11 ac) t ∧ va_D (va_A (dw_X11 a ac s0) sz) (dw_X11 a ac r)) (va_A (dw_X11 a ac s0) sz)) 0 0 (va_A (dw_X11 a ac s0) sz) := by
  refine Met.ofW (cc := cX11_advance) (maxL := 1) (ret := none) (by decide) rfl ?_
  intro p e s m args below meth c s₁ B hml hv
  obtain ⟨rfl, hsz, hP, hK, hD0, hN⟩ := hv
  have hx := B.exec
  have hb := B.bytes
  have hr := B.returns
  have hts := atoms_spec (ws := ow_dm_X11_advance) B.pre
  have hown : s.vm.findClass RX11 = some m.cls := findClass_of_methodNamed B.named
  have hlocks := B.notSynchronized
  subst hsz
  have hD := hD0.self (sz := s.heap.size)
  generalize hAe : va_A (dw_X11 a ac s0) s.heap.size = A at hD hN ⊢
  have hA : ∀ q : Nat, s.heap.size ≤ q → A q := fun q h => by rw [← hAe]; exact Or.inr h
  have hl := lv_entry ([.ref (a 0)]) (n := 1) (Nat.le_of_ble_eq_true rfl)
  rw [lg_entry_eq]
  generalize (lg_sl ([.ref (a 0)]) ++ List.replicate (1 - (lg_sl ([.ref (a 0)])).length) Slot.unset).toArray = ls at hl ⊢
  have hl : lv_has ls 1 [(0, .ref (a 0))] := hl
  exact db_X11_advance_0 (dC := dC) (dI := dI) (a := a) (ac := ac) (n := n) (r := r) ⟨hlt, hx, hb, hml, hown, hts, hN, hA, hK⟩ (fun pc τ H locs ls d er hP hD hS => by subst er; exact W.vret hx hb hr (fun t ht hW => ⟨⟨(), rfl, trivial, by rw [ht]; exact hP, va_K.moved hW.alike hK, hD⟩, hS.F ht⟩) hS.2.2 d) s0 _ _ _ h hP hD va_S.rf (lv_sub hl [0] rfl)
def ow_dm_X11_come : List Cond := .code yX11_come cX11_come 5 (some .int) :: ([.fieldLink RX11 72 "TimeMachine$Timeline" "now" "I", .fieldLink RX11 76 "TimeMachine$Timeline" "end" "I", .fieldLink RX11 20 "TimeMachine$Timeline" "events" "LTimeMachine$Events;", .fieldLink RX11 116 "TimeMachine$Events" "recorded" "I", .fieldLink RX11 137 "TimeMachine$Events" "total" "I", .fieldLink RX11 39 "TimeMachine$Timeline" "kernel" "LTimeMachine$Kernel;", .methodLink RX11 133 yX5_come, .instanceMethod yX5_come, .selects RX5 yX5_come yX5_come, .initialized RX5, .methodLink RX11 140 yX3_add, .instanceMethod yX3_add, .selects RX3 yX3_add yX3_add, .initialized RX3, .fieldLink RX11 79 "TimeMachine$Timeline" "came" "I"] ++ (u_ws RX11 TX11 16 ++ (u_ws RX3 TX3 11 ++ (ow_dm_X5_come ++ (ow_dm_X3_add ++ [])))))
theorem gd_dm_X11_come : ∀ w ∈ ow_dm_X11_come, (w.onTables && w.keeps) = true ∨ ∃ ty, w = Cond.arrayClass ty := List.forall_mem_cons.mpr ⟨good_of_word rfl, List.forall_mem_append.mpr ⟨fun w h => good_of_word (List.all_eq_true.mp (by decide +kernel) w h), List.forall_mem_append.mpr ⟨gu_X11, List.forall_mem_append.mpr ⟨gu_X3, List.forall_mem_append.mpr ⟨gd_dm_X5_come, List.forall_mem_append.mpr ⟨gd_dm_X3_add, fun _ h => nomatch h⟩⟩⟩⟩⟩⟩
theorem hi_dm_X11_come_X11 : ∀ w ∈ u_ws RX11 TX11 16, w ∈ ow_dm_X11_come := fun w h => List.mem_cons_of_mem _ (List.mem_append_right _ (List.mem_append_left _ h))
theorem hi_dm_X11_come_X3 : ∀ w ∈ u_ws RX3 TX3 11, w ∈ ow_dm_X11_come := fun w h => List.mem_cons_of_mem _ (List.mem_append_right _ (List.mem_append_right _ (List.mem_append_left _ h)))
theorem gi_dm_X11_come_0 : GoodIn ow_dm_X11_come (wsV RX11 133 RX5 yX5_come ow_dm_X5_come) := goodIn_app (goodIn_of _ (by decide +kernel)) (fun w h => ⟨List.mem_cons_of_mem _ (List.mem_append_right _ (List.mem_append_right _ (List.mem_append_right _ (List.mem_append_left _ h)))), gd_dm_X5_come w h⟩)
theorem gi_dm_X11_come_1 : GoodIn ow_dm_X11_come (wsV RX11 140 RX3 yX3_add ow_dm_X3_add) := goodIn_app (goodIn_of _ (by decide +kernel)) (fun w h => ⟨List.mem_cons_of_mem _ (List.mem_append_right _ (List.mem_append_right _ (List.mem_append_right _ (List.mem_append_right _ (List.mem_append_left _ h))))), gd_dm_X3_add w h⟩)
def dj_X11_come_28 (p : Program) (l : Launch) (e : Env) (s : State) (m : MethodId) (args : Array Value) (below : List Frame) (meth : Method) (c : Code) (Q : State → Prop) (A : Nat → Prop) (dC : Nat → ClassId) (dI : Nat → Nat → Nat) (a : Nat → Nat) (ac : Nat → ClassId) (g : (St × Rw × (St × (St × (St × (St)))) × (St) × (St) × (Nat → St) × (Nat → St) × (Nat → St × (St))) → Option (Int32 × (St × Rw × (St × (St × (St × (St)))) × (St) × (St) × (Nat → St) × (Nat → St) × (Nat → St × (St))))) (r : Int32 × (St × Rw × (St × (St × (St × (St)))) × (St) × (St) × (Nat → St) × (Nat → St) × (Nat → St × (St)))) : Prop := ∀ (s0 : St × Rw × (St × (St × (St × (St)))) × (St) × (St) × (Nat → St) × (Nat → St) × (Nat → St × (St))) (H : Heap) (locs : List Loc) (ls : Array Slot), g s0 = some r → va_P (dC, dI) vwCl (dw_X11 a ac s0) H → va_D A (dw_X11 a ac s0) → va_S A s.heap H locs → lv_has ls 5 [] → W p l e (headSpec ow_dm_X11_come ({ frames := 4, cells := 0, slots := 0, locals := 95 })).room s m args below meth c H locs 0 0 Q (F0 m 28 ls [])
def dj_X11_come_0 (p : Program) (l : Launch) (e : Env) (s : State) (m : MethodId) (args : Array Value) (below : List Frame) (meth : Method) (c : Code) (Q : State → Prop) (A : Nat → Prop) (dC : Nat → ClassId) (dI : Nat → Nat → Nat) (a : Nat → Nat) (ac : Nat → ClassId) (g : Int32 → Int64 → Int32 → (St × Rw × (St × (St × (St × (St)))) × (St) × (St) × (Nat → St) × (Nat → St) × (Nat → St × (St))) → Option (Int32 × (St × Rw × (St × (St × (St × (St)))) × (St) × (St) × (Nat → St) × (Nat → St) × (Nat → St × (St))))) (r : Int32 × (St × Rw × (St × (St × (St × (St)))) × (St) × (St) × (Nat → St) × (Nat → St) × (Nat → St × (St)))) : Prop := ∀ (v0 : Int32) (v1 : Int64) (v2 : Int32) (s0 : St × Rw × (St × (St × (St × (St)))) × (St) × (St) × (Nat → St) × (Nat → St) × (Nat → St × (St))) (H : Heap) (locs : List Loc) (ls : Array Slot), g v0 v1 v2 s0 = some r → va_P (dC, dI) vwCl (dw_X11 a ac s0) H → va_D A (dw_X11 a ac s0) → va_S A s.heap H locs → lv_has ls 5 [(0, .ref (a 0)), (1, .int v0), (2, .long v1), (4, .int v2)] → W p l e (headSpec ow_dm_X11_come ({ frames := 4, cells := 0, slots := 0, locals := 95 })).room s m args below meth c H locs 0 0 Q (F0 m 0 ls [])
set_option maxHeartbeats 40000000 in
set_option maxRecDepth 100000 in
theorem db_X11_come_28 {p : Program} {l : Launch} {e : Env} {s : State} {m : MethodId} {args : Array Value} {below : List Frame} {meth : Method} {c : Code} {Q : State → Prop} {A : Nat → Prop} {dC : Nat → ClassId} {dI : Nat → Nat → Nat} {a : Nat → Nat} {ac : Nat → ClassId} {n : Nat} {r : Int32 × (St × Rw × (St × (St × (St × (St)))) × (St) × (St) × (Nat → St) × (Nat → St) × (Nat → St × (St)))} (C : nd_C p l s m args c A (dC, dI) cX11_come 5 RX11 ow_dm_X11_come (dk_X11 ac)) (K : nd_Ki p l e (headSpec ow_dm_X11_come ({ frames := 4, cells := 0, slots := 0, locals := 95 })).room s m args below meth c Q A (dC, dI) cX11_come .int (St × Rw × (St × (St × (St × (St)))) × (St) × (St) × (Nat → St) × (Nat → St) × (Nat → St × (St))) (dw_X11 a ac) r) : dj_X11_come_28 p l e s m args below meth c Q A dC dI a ac (df_X11_come_28 n) r := by
  obtain ⟨hlt, hx, hb, hml, hown, hts, hN, hA, hK⟩ := id C
  intro s0 H locs ls h hP hD hS hl
  unfold df_X11_come_28 at h
  refine lv_iconst (v := 2) hx hb dX11_come_28 (by decide) ?_
  exact K _ _ _ _ _ _ dX11_come_29 rfl (Option.some.inj h).symm hP hD hS
set_option maxHeartbeats 40000000 in
set_option maxRecDepth 100000 in
theorem db_X11_come_0 {p : Program} {l : Launch} {e : Env} {s : State} {m : MethodId} {args : Array Value} {below : List Frame} {meth : Method} {c : Code} {Q : State → Prop} {A : Nat → Prop} {dC : Nat → ClassId} {dI : Nat → Nat → Nat} {a : Nat → Nat} {ac : Nat → ClassId} {n : Nat} {r : Int32 × (St × Rw × (St × (St × (St × (St)))) × (St) × (St) × (Nat → St) × (Nat → St) × (Nat → St × (St)))} (C : nd_C p l s m args c A (dC, dI) cX11_come 5 RX11 ow_dm_X11_come (dk_X11 ac)) (K : nd_Ki p l e (headSpec ow_dm_X11_come ({ frames := 4, cells := 0, slots := 0, locals := 95 })).room s m args below meth c Q A (dC, dI) cX11_come .int (St × Rw × (St × (St × (St × (St)))) × (St) × (St) × (Nat → St) × (Nat → St) × (Nat → St × (St))) (dw_X11 a ac) r) : dj_X11_come_0 p l e s m args below meth c Q A dC dI a ac (df_X11_come_0 n) r := by
  obtain ⟨hlt, hx, hb, hml, hown, hts, hN, hA, hK⟩ := id C
  intro v0 v1 v2 s0 H locs ls h hP hD hS hl
  unfold df_X11_come_0 at h
  refine lv_aload_n hx hb dX11_come_0 rfl (lv_at hl 0 rfl) ?_
  refine va_get (D := (dC, dI)) (ci := 12) (v := .int (sI s0.1 3)) (C := RX11) (T := TX11) (N := 16) hx hb hts hi_dm_X11_come_X11 hown hK hP 0 rfl rfl 11 (by decide) (hts (.fieldLink RX11 72 "TimeMachine$Timeline" "now" "I") (List.mem_of_getElem? (i := 1) rfl)) (fun _ h9 => h9) rfl dX11_come_1 ?_
  refine lv_aload_n hx hb dX11_come_4 rfl (lv_at hl 0 rfl) ?_
  refine va_get (D := (dC, dI)) (ci := 12) (v := .int (sI s0.1 4)) (C := RX11) (T := TX11) (N := 16) hx hb hts hi_dm_X11_come_X11 hown hK hP 0 rfl rfl 12 (by decide) (hts (.fieldLink RX11 76 "TimeMachine$Timeline" "end" "I") (List.mem_of_getElem? (i := 2) rfl)) (fun _ h9 => h9) rfl dX11_come_5 ?_
  refine lv_icmp_ne (tgt := 28) hx hb dX11_come_8 (by decide) (fun c1 => ?_) (fun c1 => ?_)
  · have h := nd_neg h c1
    exact (db_X11_come_28 C K)  s0 _ _ _ h hP hD hS (lv_sub hl [] rfl)
  · have h := nd_pos h c1
    refine lv_aload_n hx hb dX11_come_11 rfl (lv_at hl 0 rfl) ?_
    by_cases o2 : sO s0.1 0 = some 27
    · have h := nd_pos h o2
      refine va_get (D := (dC, dI)) (ci := 12) (v := .ref (a 27)) (C := RX11) (T := TX11) (N := 16) hx hb hts hi_dm_X11_come_X11 hown hK hP 0 rfl rfl 1 (by decide) (hts (.fieldLink RX11 20 "TimeMachine$Timeline" "events" "LTimeMachine$Events;") (List.mem_of_getElem? (i := 3) rfl)) (fun _ h9 => h9) (congrArg (fun z => some (va_rf (Option.map a z))) o2) dX11_come_12 ?_
      refine va_get (D := (dC, dI)) (ci := 4) (v := .int (sI s0.2.2.2.1 0)) (C := RX3) (T := TX3) (N := 11) hx hb hts hi_dm_X11_come_X3 hown hK hP 27 rfl rfl 4 (by decide) (hts (.fieldLink RX11 116 "TimeMachine$Events" "recorded" "I") (List.mem_of_getElem? (i := 4) rfl)) (fun _ h9 => h9) rfl dX11_come_15 ?_
      refine lv_aload_n hx hb dX11_come_18 rfl (lv_at hl 0 rfl) ?_
      refine va_get (D := (dC, dI)) (ci := 12) (v := .ref (a 27)) (C := RX11) (T := TX11) (N := 16) hx hb hts hi_dm_X11_come_X11 hown hK hP 0 rfl rfl 1 (by decide) (hts (.fieldLink RX11 20 "TimeMachine$Timeline" "events" "LTimeMachine$Events;") (List.mem_of_getElem? (i := 3) rfl)) (fun _ h9 => h9) (congrArg (fun z => some (va_rf (Option.map a z))) o2) dX11_come_19 ?_
      refine va_get (D := (dC, dI)) (ci := 4) (v := .int (sI s0.2.2.2.1 1)) (C := RX3) (T := TX3) (N := 11) hx hb hts hi_dm_X11_come_X3 hown hK hP 27 rfl rfl 5 (by decide) (hts (.fieldLink RX11 137 "TimeMachine$Events" "total" "I") (List.mem_of_getElem? (i := 5) rfl)) (fun _ h9 => h9) rfl dX11_come_22 ?_
      refine lv_icmp_ge (tgt := 30) hx hb dX11_come_25 (by decide) (fun c3 => ?_) (fun c3 => ?_)
      · have h := nd_pos h c3
        refine lv_aload_n hx hb dX11_come_30 rfl (lv_at hl 0 rfl) ?_
        refine va_get (D := (dC, dI)) (ci := 12) (v := .ref (a 27)) (C := RX11) (T := TX11) (N := 16) hx hb hts hi_dm_X11_come_X11 hown hK hP 0 rfl rfl 1 (by decide) (hts (.fieldLink RX11 20 "TimeMachine$Timeline" "events" "LTimeMachine$Events;") (List.mem_of_getElem? (i := 3) rfl)) (fun _ h9 => h9) (congrArg (fun z => some (va_rf (Option.map a z))) o2) dX11_come_31 ?_
        refine va_get (D := (dC, dI)) (ci := 4) (v := .int (sI s0.2.2.2.1 0)) (C := RX3) (T := TX3) (N := 11) hx hb hts hi_dm_X11_come_X3 hown hK hP 27 rfl rfl 4 (by decide) (hts (.fieldLink RX11 116 "TimeMachine$Events" "recorded" "I") (List.mem_of_getElem? (i := 4) rfl)) (fun _ h9 => h9) rfl dX11_come_34 ?_
        refine lv_sipush (v := 2048) hx hb dX11_come_37 (by decide) ?_
        refine lv_icmp_lt (tgt := 45) hx hb dX11_come_40 (by decide) (fun c4 => ?_) (fun c4 => ?_)
        · have h := nd_pos h c4
          refine lv_aload_n hx hb dX11_come_45 rfl (lv_at hl 0 rfl) ?_
          refine va_get (D := (dC, dI)) (ci := 12) (v := .ref (a 3)) (C := RX11) (T := TX11) (N := 16) hx hb hts hi_dm_X11_come_X11 hown hK hP 0 rfl rfl 4 (by decide) (hts (.fieldLink RX11 39 "TimeMachine$Timeline" "kernel" "LTimeMachine$Kernel;") (List.mem_of_getElem? (i := 6) rfl)) (fun _ h9 => h9) rfl dX11_come_46 ?_
          refine lv_iload_n hx hb dX11_come_49 rfl (lv_at hl 1 rfl) ?_
          refine lv_lload_n hx hb dX11_come_50 rfl (lv_at hl 2 rfl) ?_
          refine lv_iload hx hb dX11_come_51 (lv_at hl 3 rfl) ?_
          obtain ⟨q5, s6, hq, h⟩ := nd_b2_e h
          have hPc := dp_wX11_X5_2 hP
          have hDc := dd_wX11_X5_2 hD
          have hKc := dy_wX11_X5_2 hK
          have hFc := nd_rs hDc hS hA
          have hzA : ∀ q : Nat, H.size ≤ q → A q := fun q h => hA q (Nat.le_trans hS.1 h)
          refine nd_cVi (As := [.int v0, .long v1, .int v2]) (rest := []) (q := q5) (w' := dw_X5 (fun k => a (k + 3)) (fun k => ac (k + 3)) s6) ⟨hx, hb, hml, hown, hts⟩ (fun sz => dm_X5_come l hlt dC dI (fun k => a (k + 3)) (fun k => ac (k + 3)) n (v0) (v1) (v2) s0.2.2.1 hq sz) (cwV 3 hts gi_dm_X11_come_0 rfl rfl rfl (by decide +kernel) ⟨Nat.le_of_ble_eq_true rfl, Nat.le_of_ble_eq_true rfl⟩) hPc hDc hKc hS hA hN (va_recv hKc hPc (ci := 6) (q0 := 0) rfl rfl) rfl hl.1 rfl (Nat.le_of_ble_eq_true rfl) dX11_come_53 (fun H locs hP1 hD1 hk1 hS => ?_)
          obtain ⟨hP, hD⟩ := dn_wX11_X5_2 hP hD hzA hk1 hP1 hD1
          obtain ⟨s8, es8, h⟩ := nd_let_e h
          have hP : va_P (dC, dI) vwCl (dw_X11 a ac s8) H := by rw [es8]; exact hP
          have hD : va_D A (dw_X11 a ac s8) := by rw [es8]; exact hD
          have o2 : sO s8.1 0 = some 27 := by rw [es8]; exact o2
          refine lv_if_ne (tgt := 61) hx hb dX11_come_56 (by decide) (fun c9 => ?_) (fun c9 => ?_)
          · have h := nd_neg h c9
            refine lv_aload_n hx hb dX11_come_61 rfl (lv_at hl 0 rfl) ?_
            refine va_get (D := (dC, dI)) (ci := 12) (v := .ref (a 27)) (C := RX11) (T := TX11) (N := 16) hx hb hts hi_dm_X11_come_X11 hown hK hP 0 rfl rfl 1 (by decide) (hts (.fieldLink RX11 20 "TimeMachine$Timeline" "events" "LTimeMachine$Events;") (List.mem_of_getElem? (i := 3) rfl)) (fun _ h9 => h9) (congrArg (fun z => some (va_rf (Option.map a z))) o2) dX11_come_62 ?_
            refine lv_iload_n hx hb dX11_come_65 rfl (lv_at hl 1 rfl) ?_
            refine lv_aload_n hx hb dX11_come_66 rfl (lv_at hl 0 rfl) ?_
            refine va_get (D := (dC, dI)) (ci := 12) (v := .int (sI s8.1 3)) (C := RX11) (T := TX11) (N := 16) hx hb hts hi_dm_X11_come_X11 hown hK hP 0 rfl rfl 11 (by decide) (hts (.fieldLink RX11 72 "TimeMachine$Timeline" "now" "I") (List.mem_of_getElem? (i := 1) rfl)) (fun _ h9 => h9) rfl dX11_come_67 ?_
            refine lv_i2l hx hb dX11_come_70 rfl ?_
            refine lv_lload_n hx hb dX11_come_71 rfl (lv_at hl 2 rfl) ?_
            refine lv_iload hx hb dX11_come_72 (lv_at hl 3 rfl) ?_
            obtain ⟨q10, s11, hq, h⟩ := nd_b2_e h
            have hPc := dp_wX11_X3c_5 hP
            have hDc := dd_wX11_X3c_5 hD
            have hKc := dy_wX11_X3c_5 hK
            have hFc := nd_rs hDc hS hA
            have hzA : ∀ q : Nat, H.size ≤ q → A q := fun q h => hA q (Nat.le_trans hS.1 h)
            refine nd_cVi (As := [.int v0, .long (((sI s8.1 3) : Int32).toInt64), .long v1, .int v2]) (rest := []) (q := q10) (w' := dw_X3c (fun k => a (k + 27)) (fun k => ac (k + 27)) s11) ⟨hx, hb, hml, hown, hts⟩ (fun sz => dm_X3_add l hlt dC dI (fun k => a (k + 27)) (fun k => ac (k + 27)) n (v0) ((((sI s8.1 3) : Int32).toInt64)) (v1) (v2) s8.2.2.2.1 hq sz) (cwV 4 hts gi_dm_X11_come_1 rfl rfl rfl (by decide +kernel) ⟨Nat.le_of_ble_eq_true rfl, Nat.le_of_ble_eq_true rfl⟩) hPc hDc hKc hS hA hN (va_recv hKc hPc (ci := 4) (q0 := 0) rfl rfl) rfl hl.1 rfl (Nat.le_of_ble_eq_true rfl) dX11_come_74 (fun H locs hP1 hD1 hk1 hS => ?_)
            obtain ⟨hP, hD⟩ := dn_wX11_X3c_5 hP hD hzA hk1 hP1 hD1
            obtain ⟨s13, es13, h⟩ := nd_let_e h
            have hP : va_P (dC, dI) vwCl (dw_X11 a ac s13) H := by rw [es13]; exact hP
            have hD : va_D A (dw_X11 a ac s13) := by rw [es13]; exact hD
            have o2 : sO s13.1 0 = some 27 := by rw [es13]; exact o2
            refine lv_pop hx hb dX11_come_77 rfl ?_
            refine lv_aload_n hx hb dX11_come_78 rfl (lv_at hl 0 rfl) ?_
            refine va_get (D := (dC, dI)) (ci := 12) (v := .ref (a 27)) (C := RX11) (T := TX11) (N := 16) hx hb hts hi_dm_X11_come_X11 hown hK hP 0 rfl rfl 1 (by decide) (hts (.fieldLink RX11 20 "TimeMachine$Timeline" "events" "LTimeMachine$Events;") (List.mem_of_getElem? (i := 3) rfl)) (fun _ h9 => h9) (congrArg (fun z => some (va_rf (Option.map a z))) o2) dX11_come_79 ?_
            refine lv_aload_n hx hb dX11_come_82 rfl (lv_at hl 0 rfl) ?_
            refine va_get (D := (dC, dI)) (ci := 12) (v := .ref (a 27)) (C := RX11) (T := TX11) (N := 16) hx hb hts hi_dm_X11_come_X11 hown hK hP 0 rfl rfl 1 (by decide) (hts (.fieldLink RX11 20 "TimeMachine$Timeline" "events" "LTimeMachine$Events;") (List.mem_of_getElem? (i := 3) rfl)) (fun _ h9 => h9) (congrArg (fun z => some (va_rf (Option.map a z))) o2) dX11_come_83 ?_
            refine va_get (D := (dC, dI)) (ci := 4) (v := .int (sI s13.2.2.2.1 1)) (C := RX3) (T := TX3) (N := 11) hx hb hts hi_dm_X11_come_X3 hown hK hP 27 rfl rfl 5 (by decide) (hts (.fieldLink RX11 137 "TimeMachine$Events" "total" "I") (List.mem_of_getElem? (i := 5) rfl)) (fun _ h9 => h9) rfl dX11_come_86 ?_
            refine va_put (D := (dC, dI)) (ci := 4) (v := .int (sI s13.2.2.2.1 1)) (ty := .int) (C := RX3) (T := TX3) (N := 11) hx hb hts hi_dm_X11_come_X3 tyX3 tyX3_ok nmX3 hown hK hP hD hS 27 rfl rfl 4 (by decide) (hts (.fieldLink RX11 116 "TimeMachine$Events" "recorded" "I") (List.mem_of_getElem? (i := 4) rfl)) (fun _ h9 => h9) rfl (by decide +kernel) rfl rfl (Nat.le_of_ble_eq_true rfl) dX11_come_89 (fun H locs hP hD hS => ?_)
            obtain ⟨s14, es14, h⟩ := nd_let_e h
            have hP : va_P (dC, dI) vwCl (dw_X11 a ac s14) H := by rw [es14]; exact hP
            have hD : va_D A (dw_X11 a ac s14) := by rw [es14]; exact hD
            have o2 : sO s14.1 0 = some 27 := by rw [es14]; exact o2
            refine lv_aload_n hx hb dX11_come_92 rfl (lv_at hl 0 rfl) ?_
            refine lv_aload_n hx hb dX11_come_93 rfl (lv_at hl 0 rfl) ?_
            refine va_get (D := (dC, dI)) (ci := 12) (v := .ref (a 27)) (C := RX11) (T := TX11) (N := 16) hx hb hts hi_dm_X11_come_X11 hown hK hP 0 rfl rfl 1 (by decide) (hts (.fieldLink RX11 20 "TimeMachine$Timeline" "events" "LTimeMachine$Events;") (List.mem_of_getElem? (i := 3) rfl)) (fun _ h9 => h9) (congrArg (fun z => some (va_rf (Option.map a z))) o2) dX11_come_94 ?_
            refine va_get (D := (dC, dI)) (ci := 4) (v := .int (sI s14.2.2.2.1 0)) (C := RX3) (T := TX3) (N := 11) hx hb hts hi_dm_X11_come_X3 hown hK hP 27 rfl rfl 4 (by decide) (hts (.fieldLink RX11 116 "TimeMachine$Events" "recorded" "I") (List.mem_of_getElem? (i := 4) rfl)) (fun _ h9 => h9) rfl dX11_come_97 ?_
            refine va_put (D := (dC, dI)) (ci := 12) (v := .int (sI s14.2.2.2.1 0)) (ty := .int) (C := RX11) (T := TX11) (N := 16) hx hb hts hi_dm_X11_come_X11 tyX11 tyX11_ok nmX11 hown hK hP hD hS 0 rfl rfl 13 (by decide) (hts (.fieldLink RX11 79 "TimeMachine$Timeline" "came" "I") (List.mem_of_getElem? (i := 15) rfl)) (fun _ h9 => h9) rfl (by decide +kernel) rfl rfl (Nat.le_of_ble_eq_true rfl) dX11_come_100 (fun H locs hP hD hS => ?_)
            obtain ⟨s15, es15, h⟩ := nd_let_e h
            have hP : va_P (dC, dI) vwCl (dw_X11 a ac s15) H := by rw [es15]; exact hP
            have hD : va_D A (dw_X11 a ac s15) := by rw [es15]; exact hD
            have o2 : sO s15.1 0 = some 27 := by rw [es15]; exact o2
            refine lv_iconst (v := 0) hx hb dX11_come_103 (by decide) ?_
            exact K _ _ _ _ _ _ dX11_come_104 rfl (Option.some.inj h).symm hP hD hS
          · have h := nd_pos h c9
            refine lv_iconst (v := 1) hx hb dX11_come_59 (by decide) ?_
            exact K _ _ _ _ _ _ dX11_come_60 rfl (Option.some.inj h).symm hP hD hS
        · have h := nd_neg h c4
          refine lv_iconst (v := 3) hx hb dX11_come_43 (by decide) ?_
          exact K _ _ _ _ _ _ dX11_come_44 rfl (Option.some.inj h).symm hP hD hS
      · have h := nd_neg h c3
        exact (db_X11_come_28 C K)  s0 _ _ _ h hP hD hS (lv_sub hl [] rfl)
    have h := nd_neg h o2
    by_cases o16 : sO s0.1 0 = some 32
    · have h := nd_pos h o16
      refine va_get (D := (dC, dI)) (ci := 12) (v := .ref (a 32)) (C := RX11) (T := TX11) (N := 16) hx hb hts hi_dm_X11_come_X11 hown hK hP 0 rfl rfl 1 (by decide) (hts (.fieldLink RX11 20 "TimeMachine$Timeline" "events" "LTimeMachine$Events;") (List.mem_of_getElem? (i := 3) rfl)) (fun _ h9 => h9) (congrArg (fun z => some (va_rf (Option.map a z))) o16) dX11_come_12 ?_
      refine va_get (D := (dC, dI)) (ci := 4) (v := .int (sI s0.2.2.2.2.1 0)) (C := RX3) (T := TX3) (N := 11) hx hb hts hi_dm_X11_come_X3 hown hK hP 32 rfl rfl 4 (by decide) (hts (.fieldLink RX11 116 "TimeMachine$Events" "recorded" "I") (List.mem_of_getElem? (i := 4) rfl)) (fun _ h9 => h9) rfl dX11_come_15 ?_
      refine lv_aload_n hx hb dX11_come_18 rfl (lv_at hl 0 rfl) ?_
      refine va_get (D := (dC, dI)) (ci := 12) (v := .ref (a 32)) (C := RX11) (T := TX11) (N := 16) hx hb hts hi_dm_X11_come_X11 hown hK hP 0 rfl rfl 1 (by decide) (hts (.fieldLink RX11 20 "TimeMachine$Timeline" "events" "LTimeMachine$Events;") (List.mem_of_getElem? (i := 3) rfl)) (fun _ h9 => h9) (congrArg (fun z => some (va_rf (Option.map a z))) o16) dX11_come_19 ?_
      refine va_get (D := (dC, dI)) (ci := 4) (v := .int (sI s0.2.2.2.2.1 1)) (C := RX3) (T := TX3) (N := 11) hx hb hts hi_dm_X11_come_X3 hown hK hP 32 rfl rfl 5 (by decide) (hts (.fieldLink RX11 137 "TimeMachine$Events" "total" "I") (List.mem_of_getElem? (i := 5) rfl)) (fun _ h9 => h9) rfl dX11_come_22 ?_
      refine lv_icmp_ge (tgt := 30) hx hb dX11_come_25 (by decide) (fun c17 => ?_) (fun c17 => ?_)
      · have h := nd_pos h c17
        refine lv_aload_n hx hb dX11_come_30 rfl (lv_at hl 0 rfl) ?_
        refine va_get (D := (dC, dI)) (ci := 12) (v := .ref (a 32)) (C := RX11) (T := TX11) (N := 16) hx hb hts hi_dm_X11_come_X11 hown hK hP 0 rfl rfl 1 (by decide) (hts (.fieldLink RX11 20 "TimeMachine$Timeline" "events" "LTimeMachine$Events;") (List.mem_of_getElem? (i := 3) rfl)) (fun _ h9 => h9) (congrArg (fun z => some (va_rf (Option.map a z))) o16) dX11_come_31 ?_
        refine va_get (D := (dC, dI)) (ci := 4) (v := .int (sI s0.2.2.2.2.1 0)) (C := RX3) (T := TX3) (N := 11) hx hb hts hi_dm_X11_come_X3 hown hK hP 32 rfl rfl 4 (by decide) (hts (.fieldLink RX11 116 "TimeMachine$Events" "recorded" "I") (List.mem_of_getElem? (i := 4) rfl)) (fun _ h9 => h9) rfl dX11_come_34 ?_
        refine lv_sipush (v := 2048) hx hb dX11_come_37 (by decide) ?_
        refine lv_icmp_lt (tgt := 45) hx hb dX11_come_40 (by decide) (fun c18 => ?_) (fun c18 => ?_)
        · have h := nd_pos h c18
          refine lv_aload_n hx hb dX11_come_45 rfl (lv_at hl 0 rfl) ?_
          refine va_get (D := (dC, dI)) (ci := 12) (v := .ref (a 3)) (C := RX11) (T := TX11) (N := 16) hx hb hts hi_dm_X11_come_X11 hown hK hP 0 rfl rfl 4 (by decide) (hts (.fieldLink RX11 39 "TimeMachine$Timeline" "kernel" "LTimeMachine$Kernel;") (List.mem_of_getElem? (i := 6) rfl)) (fun _ h9 => h9) rfl dX11_come_46 ?_
          refine lv_iload_n hx hb dX11_come_49 rfl (lv_at hl 1 rfl) ?_
          refine lv_lload_n hx hb dX11_come_50 rfl (lv_at hl 2 rfl) ?_
          refine lv_iload hx hb dX11_come_51 (lv_at hl 3 rfl) ?_
          obtain ⟨q19, s20, hq, h⟩ := nd_b2_e h
          have hPc := dp_wX11_X5_2 hP
          have hDc := dd_wX11_X5_2 hD
          have hKc := dy_wX11_X5_2 hK
          have hFc := nd_rs hDc hS hA
          have hzA : ∀ q : Nat, H.size ≤ q → A q := fun q h => hA q (Nat.le_trans hS.1 h)
          refine nd_cVi (As := [.int v0, .long v1, .int v2]) (rest := []) (q := q19) (w' := dw_X5 (fun k => a (k + 3)) (fun k => ac (k + 3)) s20) ⟨hx, hb, hml, hown, hts⟩ (fun sz => dm_X5_come l hlt dC dI (fun k => a (k + 3)) (fun k => ac (k + 3)) n (v0) (v1) (v2) s0.2.2.1 hq sz) (cwV 3 hts gi_dm_X11_come_0 rfl rfl rfl (by decide +kernel) ⟨Nat.le_of_ble_eq_true rfl, Nat.le_of_ble_eq_true rfl⟩) hPc hDc hKc hS hA hN (va_recv hKc hPc (ci := 6) (q0 := 0) rfl rfl) rfl hl.1 rfl (Nat.le_of_ble_eq_true rfl) dX11_come_53 (fun H locs hP1 hD1 hk1 hS => ?_)
          obtain ⟨hP, hD⟩ := dn_wX11_X5_2 hP hD hzA hk1 hP1 hD1
          obtain ⟨s22, es22, h⟩ := nd_let_e h
          have hP : va_P (dC, dI) vwCl (dw_X11 a ac s22) H := by rw [es22]; exact hP
          have hD : va_D A (dw_X11 a ac s22) := by rw [es22]; exact hD
          have o16 : sO s22.1 0 = some 32 := by rw [es22]; exact o16
          refine lv_if_ne (tgt := 61) hx hb dX11_come_56 (by decide) (fun c23 => ?_) (fun c23 => ?_)
          · have h := nd_neg h c23
            refine lv_aload_n hx hb dX11_come_61 rfl (lv_at hl 0 rfl) ?_
            refine va_get (D := (dC, dI)) (ci := 12) (v := .ref (a 32)) (C := RX11) (T := TX11) (N := 16) hx hb hts hi_dm_X11_come_X11 hown hK hP 0 rfl rfl 1 (by decide) (hts (.fieldLink RX11 20 "TimeMachine$Timeline" "events" "LTimeMachine$Events;") (List.mem_of_getElem? (i := 3) rfl)) (fun _ h9 => h9) (congrArg (fun z => some (va_rf (Option.map a z))) o16) dX11_come_62 ?_
            refine lv_iload_n hx hb dX11_come_65 rfl (lv_at hl 1 rfl) ?_
            refine lv_aload_n hx hb dX11_come_66 rfl (lv_at hl 0 rfl) ?_
            refine va_get (D := (dC, dI)) (ci := 12) (v := .int (sI s22.1 3)) (C := RX11) (T := TX11) (N := 16) hx hb hts hi_dm_X11_come_X11 hown hK hP 0 rfl rfl 11 (by decide) (hts (.fieldLink RX11 72 "TimeMachine$Timeline" "now" "I") (List.mem_of_getElem? (i := 1) rfl)) (fun _ h9 => h9) rfl dX11_come_67 ?_
            refine lv_i2l hx hb dX11_come_70 rfl ?_
            refine lv_lload_n hx hb dX11_come_71 rfl (lv_at hl 2 rfl) ?_
            refine lv_iload hx hb dX11_come_72 (lv_at hl 3 rfl) ?_
            obtain ⟨q24, s25, hq, h⟩ := nd_b2_e h
            have hPc := dp_wX11_X3c_7 hP
            have hDc := dd_wX11_X3c_7 hD
            have hKc := dy_wX11_X3c_7 hK
            have hFc := nd_rs hDc hS hA
            have hzA : ∀ q : Nat, H.size ≤ q → A q := fun q h => hA q (Nat.le_trans hS.1 h)
            refine nd_cVi (As := [.int v0, .long (((sI s22.1 3) : Int32).toInt64), .long v1, .int v2]) (rest := []) (q := q24) (w' := dw_X3c (fun k => a (k + 32)) (fun k => ac (k + 32)) s25) ⟨hx, hb, hml, hown, hts⟩ (fun sz => dm_X3_add l hlt dC dI (fun k => a (k + 32)) (fun k => ac (k + 32)) n (v0) ((((sI s22.1 3) : Int32).toInt64)) (v1) (v2) s22.2.2.2.2.1 hq sz) (cwV 4 hts gi_dm_X11_come_1 rfl rfl rfl (by decide +kernel) ⟨Nat.le_of_ble_eq_true rfl, Nat.le_of_ble_eq_true rfl⟩) hPc hDc hKc hS hA hN (va_recv hKc hPc (ci := 4) (q0 := 0) rfl rfl) rfl hl.1 rfl (Nat.le_of_ble_eq_true rfl) dX11_come_74 (fun H locs hP1 hD1 hk1 hS => ?_)
            obtain ⟨hP, hD⟩ := dn_wX11_X3c_7 hP hD hzA hk1 hP1 hD1
            obtain ⟨s27, es27, h⟩ := nd_let_e h
            have hP : va_P (dC, dI) vwCl (dw_X11 a ac s27) H := by rw [es27]; exact hP
            have hD : va_D A (dw_X11 a ac s27) := by rw [es27]; exact hD
            have o16 : sO s27.1 0 = some 32 := by rw [es27]; exact o16
            refine lv_pop hx hb dX11_come_77 rfl ?_
            refine lv_aload_n hx hb dX11_come_78 rfl (lv_at hl 0 rfl) ?_
            refine va_get (D := (dC, dI)) (ci := 12) (v := .ref (a 32)) (C := RX11) (T := TX11) (N := 16) hx hb hts hi_dm_X11_come_X11 hown hK hP 0 rfl rfl 1 (by decide) (hts (.fieldLink RX11 20 "TimeMachine$Timeline" "events" "LTimeMachine$Events;") (List.mem_of_getElem? (i := 3) rfl)) (fun _ h9 => h9) (congrArg (fun z => some (va_rf (Option.map a z))) o16) dX11_come_79 ?_
            refine lv_aload_n hx hb dX11_come_82 rfl (lv_at hl 0 rfl) ?_
            refine va_get (D := (dC, dI)) (ci := 12) (v := .ref (a 32)) (C := RX11) (T := TX11) (N := 16) hx hb hts hi_dm_X11_come_X11 hown hK hP 0 rfl rfl 1 (by decide) (hts (.fieldLink RX11 20 "TimeMachine$Timeline" "events" "LTimeMachine$Events;") (List.mem_of_getElem? (i := 3) rfl)) (fun _ h9 => h9) (congrArg (fun z => some (va_rf (Option.map a z))) o16) dX11_come_83 ?_
            refine va_get (D := (dC, dI)) (ci := 4) (v := .int (sI s27.2.2.2.2.1 1)) (C := RX3) (T := TX3) (N := 11) hx hb hts hi_dm_X11_come_X3 hown hK hP 32 rfl rfl 5 (by decide) (hts (.fieldLink RX11 137 "TimeMachine$Events" "total" "I") (List.mem_of_getElem? (i := 5) rfl)) (fun _ h9 => h9) rfl dX11_come_86 ?_
            refine va_put (D := (dC, dI)) (ci := 4) (v := .int (sI s27.2.2.2.2.1 1)) (ty := .int) (C := RX3) (T := TX3) (N := 11) hx hb hts hi_dm_X11_come_X3 tyX3 tyX3_ok nmX3 hown hK hP hD hS 32 rfl rfl 4 (by decide) (hts (.fieldLink RX11 116 "TimeMachine$Events" "recorded" "I") (List.mem_of_getElem? (i := 4) rfl)) (fun _ h9 => h9) rfl (by decide +kernel) rfl rfl (Nat.le_of_ble_eq_true rfl) dX11_come_89 (fun H locs hP hD hS => ?_)
            obtain ⟨s28, es28, h⟩ := nd_let_e h
            have hP : va_P (dC, dI) vwCl (dw_X11 a ac s28) H := by rw [es28]; exact hP
            have hD : va_D A (dw_X11 a ac s28) := by rw [es28]; exact hD
            have o16 : sO s28.1 0 = some 32 := by rw [es28]; exact o16
            refine lv_aload_n hx hb dX11_come_92 rfl (lv_at hl 0 rfl) ?_
            refine lv_aload_n hx hb dX11_come_93 rfl (lv_at hl 0 rfl) ?_
            refine va_get (D := (dC, dI)) (ci := 12) (v := .ref (a 32)) (C := RX11) (T := TX11) (N := 16) hx hb hts hi_dm_X11_come_X11 hown hK hP 0 rfl rfl 1 (by decide) (hts (.fieldLink RX11 20 "TimeMachine$Timeline" "events" "LTimeMachine$Events;") (List.mem_of_getElem? (i := 3) rfl)) (fun _ h9 => h9) (congrArg (fun z => some (va_rf (Option.map a z))) o16) dX11_come_94 ?_
            refine va_get (D := (dC, dI)) (ci := 4) (v := .int (sI s28.2.2.2.2.1 0)) (C := RX3) (T := TX3) (N := 11) hx hb hts hi_dm_X11_come_X3 hown hK hP 32 rfl rfl 4 (by decide) (hts (.fieldLink RX11 116 "TimeMachine$Events" "recorded" "I") (List.mem_of_getElem? (i := 4) rfl)) (fun _ h9 => h9) rfl dX11_come_97 ?_
            refine va_put (D := (dC, dI)) (ci := 12) (v := .int (sI s28.2.2.2.2.1 0)) (ty := .int) (C := RX11) (T := TX11) (N := 16) hx hb hts hi_dm_X11_come_X11 tyX11 tyX11_ok nmX11 hown hK hP hD hS 0 rfl rfl 13 (by decide) (hts (.fieldLink RX11 79 "TimeMachine$Timeline" "came" "I") (List.mem_of_getElem? (i := 15) rfl)) (fun _ h9 => h9) rfl (by decide +kernel) rfl rfl (Nat.le_of_ble_eq_true rfl) dX11_come_100 (fun H locs hP hD hS => ?_)
            obtain ⟨s29, es29, h⟩ := nd_let_e h
            have hP : va_P (dC, dI) vwCl (dw_X11 a ac s29) H := by rw [es29]; exact hP
            have hD : va_D A (dw_X11 a ac s29) := by rw [es29]; exact hD
            have o16 : sO s29.1 0 = some 32 := by rw [es29]; exact o16
            refine lv_iconst (v := 0) hx hb dX11_come_103 (by decide) ?_
            exact K _ _ _ _ _ _ dX11_come_104 rfl (Option.some.inj h).symm hP hD hS
          · have h := nd_pos h c23
            refine lv_iconst (v := 1) hx hb dX11_come_59 (by decide) ?_
            exact K _ _ _ _ _ _ dX11_come_60 rfl (Option.some.inj h).symm hP hD hS
        · have h := nd_neg h c18
          refine lv_iconst (v := 3) hx hb dX11_come_43 (by decide) ?_
          exact K _ _ _ _ _ _ dX11_come_44 rfl (Option.some.inj h).symm hP hD hS
      · have h := nd_neg h c17
        exact (db_X11_come_28 C K)  s0 _ _ _ h hP hD hS (lv_sub hl [] rfl)
    have h := nd_neg h o16
    exact nomatch h
set_option maxHeartbeats 40000000 in
set_option maxRecDepth 100000 in
theorem dm_X11_come (l : Launch) (hlt : l.stackTraces = false) (dC : Nat → ClassId) (dI : Nat → Nat → Nat) (a : Nat → Nat) (ac : Nat → ClassId) (n : Nat) (v0 : Int32) (v1 : Int64) (v2 : Int32) (s0 : St × Rw × (St × (St × (St × (St)))) × (St) × (St) × (Nat → St) × (Nat → St) × (Nat → St × (St))) {r : Int32 × (St × Rw × (St × (St × (St × (St)))) × (St) × (St) × (Nat → St) × (Nat → St) × (Nat → St × (St)))} (h : df_X11_come n v0 v1 v2 s0 = some r) (sz : Nat) : Met l yX11_come ow_dm_X11_come ({ frames := 4, cells := 0, slots := 0, locals := 95 }) (va_Pc [.ref (a 0), .int v0, .long v1, .int v2] (fun U => U.heap.size = sz ∧ va_P (dC, dI) vwCl (dw_X11 a ac s0) U.heap ∧ va_K (dC, dI) vwCl (dk_X11 ac) U ∧ va_D (fun _ => True) (dw_X11 a ac s0) ∧ nv_E (va_A (dw_X11 a ac s0) sz) U)) (va_Qi (fun x _ => x = r.1) (fun (_ : Unit) t => va_P (dC, dI) vwCl (dw_X11 a ac r.2) t.heap ∧ va_K (dC, dI) vwCl (dk_X11 ac) t ∧ va_D (va_A (dw_X11 a ac s0) sz) (dw_X11 a ac r.2)) (va_A (dw_X11 a ac s0) sz)) 0 0 (va_A (dw_X11 a ac s0) sz) := by
  refine Met.ofW (cc := cX11_come) (maxL := 5) (ret := (some .int)) (by decide) rfl ?_
  intro p e s m args below meth c s₁ B hml hv
  obtain ⟨rfl, hsz, hP, hK, hD0, hN⟩ := hv
  have hx := B.exec
  have hb := B.bytes
  have hr := B.returns
  have hts := atoms_spec (ws := ow_dm_X11_come) B.pre
  have hown : s.vm.findClass RX11 = some m.cls := findClass_of_methodNamed B.named
  have hlocks := B.notSynchronized
  subst hsz
  have hD := hD0.self (sz := s.heap.size)
  generalize hAe : va_A (dw_X11 a ac s0) s.heap.size = A at hD hN ⊢
  have hA : ∀ q : Nat, s.heap.size ≤ q → A q := fun q h => by rw [← hAe]; exact Or.inr h
  have hl := lv_entry ([.ref (a 0), .int v0, .long v1, .int v2]) (n := 5) (Nat.le_of_ble_eq_true rfl)
  rw [lg_entry_eq]
  generalize (lg_sl ([.ref (a 0), .int v0, .long v1, .int v2]) ++ List.replicate (5 - (lg_sl ([.ref (a 0), .int v0, .long v1, .int v2])).length) Slot.unset).toArray = ls at hl ⊢
  have hl : lv_has ls 5 [(0, .ref (a 0)), (1, .int v0), (2, .long v1), (4, .int v2)] := hl
  exact db_X11_come_0 (dC := dC) (dI := dI) (a := a) (ac := ac) (n := n) (r := r) ⟨hlt, hx, hb, hml, hown, hts, hN, hA, hK⟩ (fun pc v τ H locs ls d z er hP hD hS => by subst er; exact W.zret (v := v) hx hb hr z (fun t ht hW => ⟨⟨v, (), rfl, rfl, by rw [ht]; exact hP, va_K.moved hW.alike hK, hD⟩, hS.F ht⟩) hS.2.2 d) v0 v1 v2 s0 _ _ _ h hP hD va_S.rf (lv_sub hl [0, 1, 2, 3] rfl)
def ow_dm_X11_stops : List Cond := .code yX11_stops cX11_stops 1 (some .int) :: ([.fieldLink RX11 72 "TimeMachine$Timeline" "now" "I", .constant RX11 43 (60000), .fieldLink RX11 30 "TimeMachine$Timeline" "machine" "LTimeMachine$Machine;", .fieldLink RX11 162 "TimeMachine$Machine" "current" "I", .fieldLink RX11 165 "TimeMachine$Machine" "waiting" "I"] ++ (u_ws RX11 TX11 16 ++ (u_ws RX6 TX6 20 ++ [])))
theorem gd_dm_X11_stops : ∀ w ∈ ow_dm_X11_stops, (w.onTables && w.keeps) = true ∨ ∃ ty, w = Cond.arrayClass ty := List.forall_mem_cons.mpr ⟨good_of_word rfl, List.forall_mem_append.mpr ⟨fun w h => good_of_word (List.all_eq_true.mp (by decide +kernel) w h), List.forall_mem_append.mpr ⟨gu_X11, List.forall_mem_append.mpr ⟨gu_X6, fun _ h => nomatch h⟩⟩⟩⟩
theorem hi_dm_X11_stops_X11 : ∀ w ∈ u_ws RX11 TX11 16, w ∈ ow_dm_X11_stops := fun w h => List.mem_cons_of_mem _ (List.mem_append_right _ (List.mem_append_left _ h))
theorem hi_dm_X11_stops_X6 : ∀ w ∈ u_ws RX6 TX6 20, w ∈ ow_dm_X11_stops := fun w h => List.mem_cons_of_mem _ (List.mem_append_right _ (List.mem_append_right _ (List.mem_append_left _ h)))
def dj_X11_stops_38 (p : Program) (l : Launch) (e : Env) (s : State) (m : MethodId) (args : Array Value) (below : List Frame) (meth : Method) (c : Code) (Q : State → Prop) (A : Nat → Prop) (dC : Nat → ClassId) (dI : Nat → Nat → Nat) (a : Nat → Nat) (ac : Nat → ClassId) (g : Int32 → (St × Rw × (St × (St × (St × (St)))) × (St) × (St) × (Nat → St) × (Nat → St) × (Nat → St × (St))) → Option (Int32 × (St × Rw × (St × (St × (St × (St)))) × (St) × (St) × (Nat → St) × (Nat → St) × (Nat → St × (St))))) (r : Int32 × (St × Rw × (St × (St × (St × (St)))) × (St) × (St) × (Nat → St) × (Nat → St) × (Nat → St × (St)))) : Prop := ∀ (y0 : Int32) (s0 : St × Rw × (St × (St × (St × (St)))) × (St) × (St) × (Nat → St) × (Nat → St) × (Nat → St × (St))) (H : Heap) (locs : List Loc) (ls : Array Slot), g y0 s0 = some r → va_P (dC, dI) vwCl (dw_X11 a ac s0) H → va_D A (dw_X11 a ac s0) → va_S A s.heap H locs → lv_has ls 1 [] → W p l e (headSpec ow_dm_X11_stops ({ frames := 0, cells := 0, slots := 0, locals := 0 })).room s m args below meth c H locs 0 0 Q (F0 m 38 ls [.int y0])
def dj_X11_stops_0 (p : Program) (l : Launch) (e : Env) (s : State) (m : MethodId) (args : Array Value) (below : List Frame) (meth : Method) (c : Code) (Q : State → Prop) (A : Nat → Prop) (dC : Nat → ClassId) (dI : Nat → Nat → Nat) (a : Nat → Nat) (ac : Nat → ClassId) (g : (St × Rw × (St × (St × (St × (St)))) × (St) × (St) × (Nat → St) × (Nat → St) × (Nat → St × (St))) → Option (Int32 × (St × Rw × (St × (St × (St × (St)))) × (St) × (St) × (Nat → St) × (Nat → St) × (Nat → St × (St))))) (r : Int32 × (St × Rw × (St × (St × (St × (St)))) × (St) × (St) × (Nat → St) × (Nat → St) × (Nat → St × (St)))) : Prop := ∀ (s0 : St × Rw × (St × (St × (St × (St)))) × (St) × (St) × (Nat → St) × (Nat → St) × (Nat → St × (St))) (H : Heap) (locs : List Loc) (ls : Array Slot), g s0 = some r → va_P (dC, dI) vwCl (dw_X11 a ac s0) H → va_D A (dw_X11 a ac s0) → va_S A s.heap H locs → lv_has ls 1 [(0, .ref (a 0))] → W p l e (headSpec ow_dm_X11_stops ({ frames := 0, cells := 0, slots := 0, locals := 0 })).room s m args below meth c H locs 0 0 Q (F0 m 0 ls [])
set_option maxHeartbeats 40000000 in
set_option maxRecDepth 100000 in
theorem db_X11_stops_38 {p : Program} {l : Launch} {e : Env} {s : State} {m : MethodId} {args : Array Value} {below : List Frame} {meth : Method} {c : Code} {Q : State → Prop} {A : Nat → Prop} {dC : Nat → ClassId} {dI : Nat → Nat → Nat} {a : Nat → Nat} {ac : Nat → ClassId} {n : Nat} {r : Int32 × (St × Rw × (St × (St × (St × (St)))) × (St) × (St) × (Nat → St) × (Nat → St) × (Nat → St × (St)))} (C : nd_C p l s m args c A (dC, dI) cX11_stops 1 RX11 ow_dm_X11_stops (dk_X11 ac)) (K : nd_Ki p l e (headSpec ow_dm_X11_stops ({ frames := 0, cells := 0, slots := 0, locals := 0 })).room s m args below meth c Q A (dC, dI) cX11_stops .int (St × Rw × (St × (St × (St × (St)))) × (St) × (St) × (Nat → St) × (Nat → St) × (Nat → St × (St))) (dw_X11 a ac) r) : dj_X11_stops_38 p l e s m args below meth c Q A dC dI a ac (df_X11_stops_38 n) r := by
  obtain ⟨hlt, hx, hb, hml, hown, hts, hN, hA, hK⟩ := id C
  intro y0 s0 H locs ls h hP hD hS hl
  unfold df_X11_stops_38 at h
  exact K _ _ _ _ _ _ dX11_stops_38 rfl (Option.some.inj h).symm hP hD hS
set_option maxHeartbeats 40000000 in
set_option maxRecDepth 100000 in
theorem db_X11_stops_0 {p : Program} {l : Launch} {e : Env} {s : State} {m : MethodId} {args : Array Value} {below : List Frame} {meth : Method} {c : Code} {Q : State → Prop} {A : Nat → Prop} {dC : Nat → ClassId} {dI : Nat → Nat → Nat} {a : Nat → Nat} {ac : Nat → ClassId} {n : Nat} {r : Int32 × (St × Rw × (St × (St × (St × (St)))) × (St) × (St) × (Nat → St) × (Nat → St) × (Nat → St × (St)))} (C : nd_C p l s m args c A (dC, dI) cX11_stops 1 RX11 ow_dm_X11_stops (dk_X11 ac)) (K : nd_Ki p l e (headSpec ow_dm_X11_stops ({ frames := 0, cells := 0, slots := 0, locals := 0 })).room s m args below meth c Q A (dC, dI) cX11_stops .int (St × Rw × (St × (St × (St × (St)))) × (St) × (St) × (Nat → St) × (Nat → St) × (Nat → St × (St))) (dw_X11 a ac) r) : dj_X11_stops_0 p l e s m args below meth c Q A dC dI a ac (df_X11_stops_0 n) r := by
  obtain ⟨hlt, hx, hb, hml, hown, hts, hN, hA, hK⟩ := id C
  intro s0 H locs ls h hP hD hS hl
  unfold df_X11_stops_0 at h
  refine lv_aload_n hx hb dX11_stops_0 rfl (lv_at hl 0 rfl) ?_
  refine va_get (D := (dC, dI)) (ci := 12) (v := .int (sI s0.1 3)) (C := RX11) (T := TX11) (N := 16) hx hb hts hi_dm_X11_stops_X11 hown hK hP 0 rfl rfl 11 (by decide) (hts (.fieldLink RX11 72 "TimeMachine$Timeline" "now" "I") (List.mem_of_getElem? (i := 1) rfl)) (fun _ h9 => h9) rfl dX11_stops_1 ?_
  refine lv_ldc hx hb hown (hts (.constant RX11 43 (60000)) (List.mem_of_getElem? (i := 2) rfl)) dX11_stops_4 ?_
  refine lv_icmp_lt (tgt := 11) hx hb dX11_stops_6 (by decide) (fun c1 => ?_) (fun c1 => ?_)
  · have h := nd_pos h c1
    refine lv_aload_n hx hb dX11_stops_11 rfl (lv_at hl 0 rfl) ?_
    refine va_get (D := (dC, dI)) (ci := 12) (v := .ref (a 7)) (C := RX11) (T := TX11) (N := 16) hx hb hts hi_dm_X11_stops_X11 hown hK hP 0 rfl rfl 3 (by decide) (hts (.fieldLink RX11 30 "TimeMachine$Timeline" "machine" "LTimeMachine$Machine;") (List.mem_of_getElem? (i := 3) rfl)) (fun _ h9 => h9) rfl dX11_stops_12 ?_
    refine va_get (D := (dC, dI)) (ci := 7) (v := .int (sI s0.2.2.1.2.2.1 3)) (C := RX6) (T := TX6) (N := 20) hx hb hts hi_dm_X11_stops_X6 hown hK hP 7 rfl rfl 13 (by decide) (hts (.fieldLink RX11 162 "TimeMachine$Machine" "current" "I") (List.mem_of_getElem? (i := 4) rfl)) (fun _ h9 => h9) rfl dX11_stops_15 ?_
    refine lv_if_lt (tgt := 23) hx hb dX11_stops_18 (by decide) (fun c2 => ?_) (fun c2 => ?_)
    · have h := nd_pos h c2
      refine lv_aload_n hx hb dX11_stops_23 rfl (lv_at hl 0 rfl) ?_
      refine va_get (D := (dC, dI)) (ci := 12) (v := .ref (a 7)) (C := RX11) (T := TX11) (N := 16) hx hb hts hi_dm_X11_stops_X11 hown hK hP 0 rfl rfl 3 (by decide) (hts (.fieldLink RX11 30 "TimeMachine$Timeline" "machine" "LTimeMachine$Machine;") (List.mem_of_getElem? (i := 3) rfl)) (fun _ h9 => h9) rfl dX11_stops_24 ?_
      refine va_get (D := (dC, dI)) (ci := 7) (v := .int (sI s0.2.2.1.2.2.1 2)) (C := RX6) (T := TX6) (N := 20) hx hb hts hi_dm_X11_stops_X6 hown hK hP 7 rfl rfl 12 (by decide) (hts (.fieldLink RX11 165 "TimeMachine$Machine" "waiting" "I") (List.mem_of_getElem? (i := 5) rfl)) (fun _ h9 => h9) rfl dX11_stops_27 ?_
      refine lv_if_le (tgt := 37) hx hb dX11_stops_30 (by decide) (fun c3 => ?_) (fun c3 => ?_)
      · have h := nd_pos h c3
        refine lv_iconst (v := 2) hx hb dX11_stops_37 (by decide) ?_
        exact (db_X11_stops_38 C K) (2) s0 _ _ _ h hP hD hS (lv_sub hl [] rfl)
      · have h := nd_neg h c3
        refine lv_iconst (v := 1) hx hb dX11_stops_33 (by decide) ?_
        refine lv_goto (tgt := 38) hx hb dX11_stops_34 (by decide) ?_
        exact (db_X11_stops_38 C K) (1) s0 _ _ _ h hP hD hS (lv_sub hl [] rfl)
    · have h := nd_neg h c2
      refine lv_iconst (v := 0) hx hb dX11_stops_21 (by decide) ?_
      exact K _ _ _ _ _ _ dX11_stops_22 rfl (Option.some.inj h).symm hP hD hS
  · have h := nd_neg h c1
    refine lv_iconst (v := 4) hx hb dX11_stops_9 (by decide) ?_
    exact K _ _ _ _ _ _ dX11_stops_10 rfl (Option.some.inj h).symm hP hD hS
set_option maxHeartbeats 40000000 in
set_option maxRecDepth 100000 in
theorem dm_X11_stops (l : Launch) (hlt : l.stackTraces = false) (dC : Nat → ClassId) (dI : Nat → Nat → Nat) (a : Nat → Nat) (ac : Nat → ClassId) (n : Nat) (s0 : St × Rw × (St × (St × (St × (St)))) × (St) × (St) × (Nat → St) × (Nat → St) × (Nat → St × (St))) {r : Int32 × (St × Rw × (St × (St × (St × (St)))) × (St) × (St) × (Nat → St) × (Nat → St) × (Nat → St × (St)))} (h : df_X11_stops n s0 = some r) (sz : Nat) : Met l yX11_stops ow_dm_X11_stops ({ frames := 0, cells := 0, slots := 0, locals := 0 }) (va_Pc [.ref (a 0)] (fun U => U.heap.size = sz ∧ va_P (dC, dI) vwCl (dw_X11 a ac s0) U.heap ∧ va_K (dC, dI) vwCl (dk_X11 ac) U ∧ va_D (fun _ => True) (dw_X11 a ac s0) ∧ nv_E (va_A (dw_X11 a ac s0) sz) U)) (va_Qi (fun x _ => x = r.1) (fun (_ : Unit) t => va_P (dC, dI) vwCl (dw_X11 a ac r.2) t.heap ∧ va_K (dC, dI) vwCl (dk_X11 ac) t ∧ va_D (va_A (dw_X11 a ac s0) sz) (dw_X11 a ac r.2)) (va_A (dw_X11 a ac s0) sz)) 0 0 (va_A (dw_X11 a ac s0) sz) := by
  refine Met.ofW (cc := cX11_stops) (maxL := 1) (ret := (some .int)) (by decide) rfl ?_
  intro p e s m args below meth c s₁ B hml hv
  obtain ⟨rfl, hsz, hP, hK, hD0, hN⟩ := hv
  have hx := B.exec
  have hb := B.bytes
  have hr := B.returns
  have hts := atoms_spec (ws := ow_dm_X11_stops) B.pre
  have hown : s.vm.findClass RX11 = some m.cls := findClass_of_methodNamed B.named
  have hlocks := B.notSynchronized
  subst hsz
  have hD := hD0.self (sz := s.heap.size)
  generalize hAe : va_A (dw_X11 a ac s0) s.heap.size = A at hD hN ⊢
  have hA : ∀ q : Nat, s.heap.size ≤ q → A q := fun q h => by rw [← hAe]; exact Or.inr h
  have hl := lv_entry ([.ref (a 0)]) (n := 1) (Nat.le_of_ble_eq_true rfl)
  rw [lg_entry_eq]
  generalize (lg_sl ([.ref (a 0)]) ++ List.replicate (1 - (lg_sl ([.ref (a 0)])).length) Slot.unset).toArray = ls at hl ⊢
  have hl : lv_has ls 1 [(0, .ref (a 0))] := hl
  exact db_X11_stops_0 (dC := dC) (dI := dI) (a := a) (ac := ac) (n := n) (r := r) ⟨hlt, hx, hb, hml, hown, hts, hN, hA, hK⟩ (fun pc v τ H locs ls d z er hP hD hS => by subst er; exact W.zret (v := v) hx hb hr z (fun t ht hW => ⟨⟨v, (), rfl, rfl, by rw [ht]; exact hP, va_K.moved hW.alike hK, hD⟩, hS.F ht⟩) hS.2.2 d) s0 _ _ _ h hP hD va_S.rf (lv_sub hl [0] rfl)
set_option maxHeartbeats 40000000 in
set_option maxRecDepth 100000 in
theorem de_wX11_X2m_8 {a : Nat → Nat} {ac : Nat → ClassId} {j1 : Nat} {τ : St × (St) × (St × (St))} : ([dw_X2c (fun k => a (k + j1 * 9 + 86)) (fun k => ac (k + j1 * 9 + 86)) (τ.2.1), dwo_X6 (fun k => a (k + 7)) (fun k => ac (k + 7)) (τ.2.2.1), dw_X10 (fun k => a (k + 17)) (fun k => ac (k + 17)) (τ.2.2.2)] : List va_W).flatten = dw_X2m (fun k => a (if k < 9 then k - 0 + j1 * 9 + 86 else k - 9 + 7)) (fun k => ac (if k < 9 then k - 0 + j1 * 9 + 86 else k - 9 + 7)) τ := by
  first
  | (simp only [List.flatten_cons, List.flatten_nil, List.append_nil]; done)
  | (simp only [List.flatten_cons, List.flatten_nil, List.append_nil]; rfl)
set_option maxHeartbeats 40000000 in
set_option maxRecDepth 100000 in
theorem dp_wX11_X2m_8 {D : va_G} {H : Heap} {a : Nat → Nat} {ac : Nat → ClassId} {σ : St × Rw × (St × (St × (St × (St)))) × (St) × (St) × (Nat → St) × (Nat → St) × (Nat → St × (St))} {j1 : Nat} (hj1 : j1 < 9) (h : va_P D vwCl (dw_X11 a ac σ) H) : va_P D vwCl (dw_X2m (fun k => a (if k < 9 then k - 0 + j1 * 9 + 86 else k - 9 + 7)) (fun k => ac (if k < 9 then k - 0 + j1 * 9 + 86 else k - 9 + 7)) (nd_st0, (σ.2.2.2.2.2.2.1 j1), σ.2.2.1.2.2)) H := by
  have h2 := nd_vp (segs := dg_X11 a ac σ) (ix := [20 + j1, 3, 4]) (old := [dw_X2c (fun k => a (k + j1 * 9 + 86)) (fun k => ac (k + j1 * 9 + 86)) (σ.2.2.2.2.2.2.1 j1), dwo_X6 (fun k => a (k + 7)) (fun k => ac (k + 7)) (σ.2.2.1.2.2.1), dw_X10 (fun k => a (k + 17)) (fun k => ac (k + 17)) (σ.2.2.1.2.2.2)]) h (nd_co (dx_X11_K2 hj1) (nd_co rfl (nd_co rfl rfl)))
  have e := de_wX11_X2m_8 (a := a) (ac := ac) (j1 := j1) (τ := (nd_st0, (σ.2.2.2.2.2.2.1 j1), σ.2.2.1.2.2))
  exact e ▸ h2
set_option maxHeartbeats 40000000 in
set_option maxRecDepth 100000 in
theorem dd_wX11_X2m_8 {A : Nat → Prop} {a : Nat → Nat} {ac : Nat → ClassId} {σ : St × Rw × (St × (St × (St × (St)))) × (St) × (St) × (Nat → St) × (Nat → St) × (Nat → St × (St))} {j1 : Nat} (hj1 : j1 < 9) (h : va_D A (dw_X11 a ac σ)) : va_D A (dw_X2m (fun k => a (if k < 9 then k - 0 + j1 * 9 + 86 else k - 9 + 7)) (fun k => ac (if k < 9 then k - 0 + j1 * 9 + 86 else k - 9 + 7)) (nd_st0, (σ.2.2.2.2.2.2.1 j1), σ.2.2.1.2.2)) := by
  have h2 := nd_vd (segs := dg_X11 a ac σ) (ix := [20 + j1, 3, 4]) (old := [dw_X2c (fun k => a (k + j1 * 9 + 86)) (fun k => ac (k + j1 * 9 + 86)) (σ.2.2.2.2.2.2.1 j1), dwo_X6 (fun k => a (k + 7)) (fun k => ac (k + 7)) (σ.2.2.1.2.2.1), dw_X10 (fun k => a (k + 17)) (fun k => ac (k + 17)) (σ.2.2.1.2.2.2)]) h (nd_co (dx_X11_K2 hj1) (nd_co rfl (nd_co rfl rfl))) (by simp only [List.nodup_cons, List.mem_cons, List.not_mem_nil, List.nodup_nil, or_false, not_false_eq_true, and_true, true_and] <;> omega)
  have e := de_wX11_X2m_8 (a := a) (ac := ac) (j1 := j1) (τ := (nd_st0, (σ.2.2.2.2.2.2.1 j1), σ.2.2.1.2.2))
  exact e ▸ h2
set_option maxHeartbeats 40000000 in
set_option maxRecDepth 100000 in
theorem dy_wX11_X2m_8 {D : va_G} {U : State} {ac : Nat → ClassId} {j1 : Nat} (hj1 : j1 < 9) (h : va_K D vwCl (dk_X11 ac) U) : va_K D vwCl (dk_X2m (fun k => ac (if k < 9 then k - 0 + j1 * 9 + 86 else k - 9 + 7))) U := (va_K.app (nd_ks h (fun q hq => absurd hq List.not_mem_nil)) (va_K.app (dq_X11_K2 hj1 h) (h.sub [4, 5, 6, 7, 8, 9, 10, 11, 12, 13, 14, 15, 16, 17, 18, 19, 20, 21] rfl)))
