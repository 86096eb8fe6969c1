set_option maxHeartbeats 40000000 in
set_option maxRecDepth 100000 in
theorem db_X1_putAddress_0 {p : Program} {l : Launch} {e : Env} {s : State} {m : MethodId} {args : Array Value} {below : List Frame} {meth : Method} {c : Code} {Q : State → Prop} {A : Nat → Prop} {dC : Nat → ClassId} {dI : Nat → Nat → Nat} {a : Nat → Nat} {ac : Nat → ClassId} {n : Nat} {r : St × (St × (St)) × (St)} (C : nd_C p l s m args c A (dC, dI) cX1_putAddress 6 RX1 ow_dm_X1_putAddress (dk_X1p ac)) (K : nd_Kv p l e (headSpec ow_dm_X1_putAddress ({ frames := 4, cells := 0, slots := 0, locals := 87 })).room s m args below meth c Q A (dC, dI) cX1_putAddress (St × (St × (St)) × (St)) (dw_X1p a ac) r) : dj_X1_putAddress_0 p l e s m args below meth c Q A dC dI a ac (df_X1_putAddress_0 n) r := by
  obtain ⟨hlt, hx, hb, hml, hown, hts, hN, hA, hK⟩ := id C
  intro v1 s0 H locs ls h hP hD hS hl
  unfold df_X1_putAddress_0 at h
  refine lv_aload_n hx hb dX1_putAddress_0 rfl (lv_at hl 0 rfl) ?_
  refine va_get (D := (dC, dI)) (ci := 2) (v := .ref (a 6)) (C := RX1) (T := TX1) (N := 13) hx hb hts hi_dm_X1_putAddress_X1 hown hK hP 0 rfl rfl 1 (by decide) (hts (.fieldLink RX1 19 "TimeMachine$Assembler" "statement" "[I") (List.mem_of_getElem? (i := 1) rfl)) (fun _ h9 => h9) rfl dX1_putAddress_1 ?_
  refine lv_iload_n hx hb dX1_putAddress_4 rfl (lv_at hl 2 rfl) ?_
  refine lv_iconst (v := 2) hx hb dX1_putAddress_5 (by decide) ?_
  refine lv_iadd hx hb dX1_putAddress_6 ?_
  obtain ⟨i1, h⟩ := nd_ck_e h
  refine va_iald (i := (v1 + 2)) hx hb hK hP 1 0 rfl rfl i1 dX1_putAddress_7 ?_
  refine lv_topi (fun z2 ez2 => ?_)
  have h := nd_at h ez2
  refine lv_istore_n (lv' := [(3, .int z2), (0, .ref (a 5)), (1, .ref (a 0)), (2, .int v1)]) hx hb dX1_putAddress_8 rfl hl (by decide) rfl (fun ls hl => ?_)
  refine lv_aload_n hx hb dX1_putAddress_9 rfl (lv_at hl 1 rfl) ?_
  refine va_get (D := (dC, dI)) (ci := 2) (v := .ref (a 6)) (C := RX1) (T := TX1) (N := 13) hx hb hts hi_dm_X1_putAddress_X1 hown hK hP 0 rfl rfl 1 (by decide) (hts (.fieldLink RX1 19 "TimeMachine$Assembler" "statement" "[I") (List.mem_of_getElem? (i := 1) rfl)) (fun _ h9 => h9) rfl dX1_putAddress_10 ?_
  refine lv_iload_n hx hb dX1_putAddress_13 rfl (lv_at hl 3 rfl) ?_
  refine lv_iconst (v := 5) hx hb dX1_putAddress_14 (by decide) ?_
  refine lv_iadd hx hb dX1_putAddress_15 ?_
  obtain ⟨i3, h⟩ := nd_ck_e h
  refine va_iald (i := (v1 + 5)) hx hb hK hP 1 0 rfl rfl i3 dX1_putAddress_16 ?_
  refine lv_bipush (v := 7) hx hb dX1_putAddress_17 (by decide) ?_
  refine lv_ishr hx hb dX1_putAddress_19 ?_
  refine lv_bipush (v := 31) hx hb dX1_putAddress_20 (by decide) ?_
  refine lv_iand hx hb dX1_putAddress_22 ?_
  refine lv_topi (fun z4 ez4 => ?_)
  have h := nd_at h ez4
  refine lv_istore (lv' := [(4, .int z4), (3, .int z2), (0, .ref (a 5)), (1, .ref (a 0)), (2, .int v1)]) hx hb dX1_putAddress_23 hl (by decide) rfl (fun ls hl => ?_)
  refine lv_aload_n hx hb dX1_putAddress_25 rfl (lv_at hl 2 rfl) ?_
  refine lv_aload_n hx hb dX1_putAddress_26 rfl (lv_at hl 2 rfl) ?_
  refine va_get (D := (dC, dI)) (ci := 2) (v := .ref (a 6)) (C := RX1) (T := TX1) (N := 13) hx hb hts hi_dm_X1_putAddress_X1 hown hK hP 0 rfl rfl 1 (by decide) (hts (.fieldLink RX1 19 "TimeMachine$Assembler" "statement" "[I") (List.mem_of_getElem? (i := 1) rfl)) (fun _ h9 => h9) rfl dX1_putAddress_27 ?_
  refine lv_iload_n hx hb dX1_putAddress_30 rfl (lv_at hl 4 rfl) ?_
  refine lv_bipush (v := 6) hx hb dX1_putAddress_31 (by decide) ?_
  refine lv_iadd hx hb dX1_putAddress_33 ?_
  obtain ⟨i5, h⟩ := nd_ck_e h
  refine va_iald (i := (v1 + 6)) hx hb hK hP 1 0 rfl rfl i5 dX1_putAddress_34 ?_
  refine lv_iload_n hx hb dX1_putAddress_35 rfl (lv_at hl 1 rfl) ?_
  obtain ⟨q6, s7, hq, h⟩ := nd_b2_e h
  have hPc := dp_X1p_5 hP
  have hDc := dd_X1p_5 hD
  have hKc := dy_X1p_5 hK
  have hFc := nd_rs hDc hS hA
  have hzA : ∀ q : Nat, H.size ≤ q → A q := fun q h => hA q (Nat.le_trans hS.1 h)
  refine nd_cVi (As := [.int (sR s0.2.1.1 0 (Int32.toNatClampNeg (v1 + 6))), .int z2]) (rest := []) (q := q6) (w' := dw_X1 (fun k => a (k + 5)) (fun k => ac (k + 5)) s7) ⟨hx, hb, hml, hown, hts⟩ (fun sz => dm_X1_worked l hlt dC dI (fun k => a (k + 5)) (fun k => ac (k + 5)) n ((sR s0.2.1.1 0 (Int32.toNatClampNeg (v1 + 6)))) (z2) s0.2.1 hq sz) (cwV 2 hts gi_dm_X1_putAddress_0 rfl rfl rfl (by decide +kernel) ⟨Nat.le_of_ble_eq_true rfl, Nat.le_of_ble_eq_true rfl⟩) hPc hDc hKc hS hA hN (va_recv hKc hPc (ci := 2) (q0 := 0) rfl rfl) rfl hl.1 rfl (Nat.le_of_ble_eq_true rfl) dX1_putAddress_36 (fun H locs hP1 hD1 hk1 hS => ?_)
  obtain ⟨hP, hD⟩ := dn_X1p_5 hP hD hzA hk1 hP1 hD1
  obtain ⟨s9, es9, h⟩ := nd_let_e h
  have hP : va_P (dC, dI) vwCl (dw_X1p a ac s9) H := by rw [es9]; exact hP
  have hD : va_D A (dw_X1p a ac s9) := by rw [es9]; exact hD
  refine lv_iload_n hx hb dX1_putAddress_39 rfl (lv_at hl 1 rfl) ?_
  refine lv_isub hx hb dX1_putAddress_40 ?_
  refine lv_topi (fun z10 ez10 => ?_)
  have h := nd_at h ez10
  refine lv_istore (lv' := [(5, .int z10), (4, .int z4), (3, .int z2), (0, .ref (a 5)), (1, .ref (a 0)), (2, .int v1)]) hx hb dX1_putAddress_41 hl (by decide) rfl (fun ls hl => ?_)
  refine lv_aload_n hx hb dX1_putAddress_43 rfl (lv_at hl 3 rfl) ?_
  refine lv_aload_n hx hb dX1_putAddress_44 rfl (lv_at hl 4 rfl) ?_
  refine lv_iload_n hx hb dX1_putAddress_45 rfl (lv_at hl 2 rfl) ?_
  refine lv_iconst (v := 4) hx hb dX1_putAddress_46 (by decide) ?_
  refine lv_aload_n hx hb dX1_putAddress_47 rfl (lv_at hl 3 rfl) ?_
  refine va_get (D := (dC, dI)) (ci := 2) (v := .ref (a 6)) (C := RX1) (T := TX1) (N := 13) hx hb hts hi_dm_X1_putAddress_X1 hown hK hP 0 rfl rfl 1 (by decide) (hts (.fieldLink RX1 19 "TimeMachine$Assembler" "statement" "[I") (List.mem_of_getElem? (i := 1) rfl)) (fun _ h9 => h9) rfl dX1_putAddress_48 ?_
  refine lv_iload_n hx hb dX1_putAddress_51 rfl (lv_at hl 5 rfl) ?_
  refine lv_iconst (v := 5) hx hb dX1_putAddress_52 (by decide) ?_
  refine lv_iadd hx hb dX1_putAddress_53 ?_
  obtain ⟨i11, h⟩ := nd_ck_e h
  refine va_iald (i := (v1 + 5)) hx hb hK hP 1 0 rfl rfl i11 dX1_putAddress_54 ?_
  refine lv_bipush (v := 85) hx hb dX1_putAddress_55 (by decide) ?_
  refine lv_iload hx hb dX1_putAddress_57 (lv_at hl 0 rfl) ?_
  obtain ⟨q12, s13, hq, h⟩ := nd_b2_e h
  have hPc : va_P (dC, dI) vwCl (dw_P a ac ()) H := nd_p0
  have hDc : va_D A (dw_P a ac ()) := nd_d0
  have hKc : va_K (dC, dI) vwCl (dk_P ac) s := nd_y0 hK
  have hFc : ∀ q, va_A (dw_P a ac ()) H.size q → A q := nd_r0 hS hA
  refine nd_cSi (As := [.int z10]) (rest := [.int 85, .int (sR s9.2.1.1 0 (Int32.toNatClampNeg (v1 + 5))), .int 4, .int z2, .ref (a 0), .ref (a 5)]) (q := q12) (w' := dw_P a ac s13) ⟨hx, hb, hml, hown, hts⟩ (fun sz => dm_X9_high l hlt dC dI a ac n (z10) () hq sz) (va_cwS 1 hts gi_dm_X1_putAddress_1 rfl rfl rfl (by decide +kernel) ⟨Nat.le_of_ble_eq_true rfl, Nat.le_of_ble_eq_true rfl⟩) hPc hDc hKc hS hA hN rfl hl.1 rfl (Nat.le_of_ble_eq_true rfl) dX1_putAddress_59 (fun H locs hP1 hD1 hk1 hS => ?_)
  have hP := nd_n0 hP hk1
  obtain ⟨q15, s16, hq, h⟩ := nd_b2_e h
  have hPc : va_P (dC, dI) vwCl (dw_P a ac ()) H := nd_p0
  have hDc : va_D A (dw_P a ac ()) := nd_d0
  have hKc : va_K (dC, dI) vwCl (dk_P ac) s := nd_y0 hK
  have hFc : ∀ q, va_A (dw_P a ac ()) H.size q → A q := nd_r0 hS hA
  refine nd_cSi (As := [.int 85, .int q12]) (rest := [.int (sR s9.2.1.1 0 (Int32.toNatClampNeg (v1 + 5))), .int 4, .int z2, .ref (a 0), .ref (a 5)]) (q := q15) (w' := dw_P a ac s16) ⟨hx, hb, hml, hown, hts⟩ (fun sz => dm_X7_placed l hlt dC dI a ac n (85) (q12) () hq sz) (va_cwS 2 hts gi_dm_X1_putAddress_2 rfl rfl rfl (by decide +kernel) ⟨Nat.le_of_ble_eq_true rfl, Nat.le_of_ble_eq_true rfl⟩) hPc hDc hKc hS hA hN rfl hl.1 rfl (Nat.le_of_ble_eq_true rfl) dX1_putAddress_62 (fun H locs hP1 hD1 hk1 hS => ?_)
  have hP := nd_n0 hP hk1
  refine lv_ior hx hb dX1_putAddress_65 ?_
  obtain ⟨s19, hq, h⟩ := nd_b1_e h
  have hPc := hP
  have hDc := hD
  have hKc := hK
  have hFc := nd_rs hD hS hA
  refine nd_cVv (As := [.ref (a 0), .int z2, .int 4, .int ((sR s9.2.1.1 0 (Int32.toNatClampNeg (v1 + 5))) ||| q15)]) (rest := []) (w' := dw_X1p a ac s19) ⟨hx, hb, hml, hown, hts⟩ (fun sz => dm_X1_put l hlt dC dI a ac n (z2) (4) (((sR s9.2.1.1 0 (Int32.toNatClampNeg (v1 + 5))) ||| q15)) s9 hq sz) (cwV 4 hts gi_dm_X1_putAddress_3 rfl rfl rfl (by decide +kernel) ⟨Nat.le_of_ble_eq_true rfl, Nat.le_of_ble_eq_true rfl⟩) hPc hDc hKc hS hA hN (va_recv hKc hPc (ci := 2) (q0 := 0) rfl rfl) rfl hl.1 rfl (Nat.le_of_ble_eq_true rfl) dX1_putAddress_66 (fun H locs hP1 hD1 hk1 hS => ?_)
  have hP := hP1
  have hD := hD1.weaken (fun k q _ h => hFc q.1 h)
  refine lv_aload_n hx hb dX1_putAddress_69 rfl (lv_at hl 3 rfl) ?_
  refine lv_aload_n hx hb dX1_putAddress_70 rfl (lv_at hl 4 rfl) ?_
  refine lv_iload_n hx hb dX1_putAddress_71 rfl (lv_at hl 2 rfl) ?_
  refine lv_iconst (v := 4) hx hb dX1_putAddress_72 (by decide) ?_
  refine lv_iadd hx hb dX1_putAddress_73 ?_
  refine lv_iconst (v := 4) hx hb dX1_putAddress_74 (by decide) ?_
  refine lv_bipush (v := 19) hx hb dX1_putAddress_75 (by decide) ?_
  refine lv_iload hx hb dX1_putAddress_77 (lv_at hl 1 rfl) ?_
  refine lv_bipush (v := 7) hx hb dX1_putAddress_79 (by decide) ?_
  refine lv_ishl hx hb dX1_putAddress_81 ?_
  refine lv_ior hx hb dX1_putAddress_82 ?_
  refine lv_iload hx hb dX1_putAddress_83 (lv_at hl 1 rfl) ?_
  refine lv_bipush (v := 15) hx hb dX1_putAddress_85 (by decide) ?_
  refine lv_ishl hx hb dX1_putAddress_87 ?_
  refine lv_ior hx hb dX1_putAddress_88 ?_
  refine lv_bipush (v := 73) hx hb dX1_putAddress_89 (by decide) ?_
  refine lv_iload hx hb dX1_putAddress_91 (lv_at hl 0 rfl) ?_
  obtain ⟨q21, s22, hq, h⟩ := nd_b2_e h
  have hPc : va_P (dC, dI) vwCl (dw_P a ac ()) H := nd_p0
  have hDc : va_D A (dw_P a ac ()) := nd_d0
  have hKc : va_K (dC, dI) vwCl (dk_P ac) s := nd_y0 hK
  have hFc : ∀ q, va_A (dw_P a ac ()) H.size q → A q := nd_r0 hS hA
  refine nd_cSi (As := [.int z10]) (rest := [.int 73, .int ((19 ||| ((z4 : Int32) <<< ((7 : Int32) &&& 31))) ||| ((z4 : Int32) <<< ((15 : Int32) &&& 31))), .int 4, .int (z2 + 4), .ref (a 0), .ref (a 5)]) (q := q21) (w' := dw_P a ac s22) ⟨hx, hb, hml, hown, hts⟩ (fun sz => dm_X9_low l hlt dC dI a ac n (z10) () hq sz) (va_cwS 1 hts gi_dm_X1_putAddress_4 rfl rfl rfl (by decide +kernel) ⟨Nat.le_of_ble_eq_true rfl, Nat.le_of_ble_eq_true rfl⟩) hPc hDc hKc hS hA hN rfl hl.1 rfl (Nat.le_of_ble_eq_true rfl) dX1_putAddress_93 (fun H locs hP1 hD1 hk1 hS => ?_)
  have hP := nd_n0 hP hk1
  obtain ⟨q24, s25, hq, h⟩ := nd_b2_e h
  have hPc : va_P (dC, dI) vwCl (dw_P a ac ()) H := nd_p0
  have hDc : va_D A (dw_P a ac ()) := nd_d0
  have hKc : va_K (dC, dI) vwCl (dk_P ac) s := nd_y0 hK
  have hFc : ∀ q, va_A (dw_P a ac ()) H.size q → A q := nd_r0 hS hA
  refine nd_cSi (As := [.int 73, .int q21]) (rest := [.int ((19 ||| ((z4 : Int32) <<< ((7 : Int32) &&& 31))) ||| ((z4 : Int32) <<< ((15 : Int32) &&& 31))), .int 4, .int (z2 + 4), .ref (a 0), .ref (a 5)]) (q := q24) (w' := dw_P a ac s25) ⟨hx, hb, hml, hown, hts⟩ (fun sz => dm_X7_placed l hlt dC dI a ac n (73) (q21) () hq sz) (va_cwS 2 hts gi_dm_X1_putAddress_2 rfl rfl rfl (by decide +kernel) ⟨Nat.le_of_ble_eq_true rfl, Nat.le_of_ble_eq_true rfl⟩) hPc hDc hKc hS hA hN rfl hl.1 rfl (Nat.le_of_ble_eq_true rfl) dX1_putAddress_96 (fun H locs hP1 hD1 hk1 hS => ?_)
  have hP := nd_n0 hP hk1
  refine lv_ior hx hb dX1_putAddress_99 ?_
  obtain ⟨s28, hq, h⟩ := nd_b1_e h
  have hPc := hP
  have hDc := hD
  have hKc := hK
  have hFc := nd_rs hD hS hA
  refine nd_cVv (As := [.ref (a 0), .int (z2 + 4), .int 4, .int (((19 ||| ((z4 : Int32) <<< ((7 : Int32) &&& 31))) ||| ((z4 : Int32) <<< ((15 : Int32) &&& 31))) ||| q24)]) (rest := []) (w' := dw_X1p a ac s28) ⟨hx, hb, hml, hown, hts⟩ (fun sz => dm_X1_put l hlt dC dI a ac n ((z2 + 4)) (4) ((((19 ||| ((z4 : Int32) <<< ((7 : Int32) &&& 31))) ||| ((z4 : Int32) <<< ((15 : Int32) &&& 31))) ||| q24)) s19 hq sz) (cwV 4 hts gi_dm_X1_putAddress_3 rfl rfl rfl (by decide +kernel) ⟨Nat.le_of_ble_eq_true rfl, Nat.le_of_ble_eq_true rfl⟩) hPc hDc hKc hS hA hN (va_recv hKc hPc (ci := 2) (q0 := 0) rfl rfl) rfl hl.1 rfl (Nat.le_of_ble_eq_true rfl) dX1_putAddress_100 (fun H locs hP1 hD1 hk1 hS => ?_)
  have hP := hP1
  have hD := hD1.weaken (fun k q _ h => hFc q.1 h)
  exact K _ _ _ _ _ dX1_putAddress_103 (Option.some.inj h).symm hP hD hS
set_option maxHeartbeats 40000000 in
set_option maxRecDepth 100000 in
theorem dm_X1_putAddress (l : Launch) (hlt : l.stackTraces = false) (dC : Nat → ClassId) (dI : Nat → Nat → Nat) (a : Nat → Nat) (ac : Nat → ClassId) (n : Nat) (v1 : Int32) (s0 : St × (St × (St)) × (St)) {r : St × (St × (St)) × (St)} (h : df_X1_putAddress n v1 s0 = some r) (sz : Nat) : Met l yX1_putAddress ow_dm_X1_putAddress ({ frames := 4, cells := 0, slots := 0, locals := 87 }) (va_Pc [.ref (a 5), .ref (a 0), .int v1] (fun U => U.heap.size = sz ∧ va_P (dC, dI) vwCl (dw_X1p a ac s0) U.heap ∧ va_K (dC, dI) vwCl (dk_X1p ac) U ∧ va_D (fun _ => True) (dw_X1p a ac s0) ∧ nv_E dI (va_A (dw_X1p a ac s0) sz) U)) (va_Qv (fun _ => True) (fun (_ : Unit) t => va_P (dC, dI) vwCl (dw_X1p a ac r) t.heap ∧ va_K (dC, dI) vwCl (dk_X1p ac) t ∧ va_D (va_A (dw_X1p a ac s0) sz) (dw_X1p a ac r)) (va_A (dw_X1p a ac s0) sz)) 0 0 (va_A (dw_X1p a ac s0) sz) := by
  refine Met.ofW (cc := cX1_putAddress) (maxL := 6) (ret := none) (by decide) rfl ?_
  intro p e s m args below meth c s₁ B hml hv
  obtain ⟨rfl, hsz, hP, hK, hD0, hN⟩ := hv
  have hx := B.exec
  have hb := B.bytes
  have hr := B.returns
  have hts := atoms_spec (ws := ow_dm_X1_putAddress) B.pre
  have hown : s.vm.findClass RX1 = some m.cls := findClass_of_methodNamed B.named
  have hlocks := B.notSynchronized
  subst hsz
  have hD := hD0.self (sz := s.heap.size)
  generalize hAe : va_A (dw_X1p a ac s0) s.heap.size = A at hD hN ⊢
  have hA : ∀ q : Nat, s.heap.size ≤ q → A q := fun q h => by rw [← hAe]; exact Or.inr h
  have hl := lv_entry ([.ref (a 5), .ref (a 0), .int v1]) (n := 6) (Nat.le_of_ble_eq_true rfl)
  rw [lg_entry_eq]
  generalize (lg_sl ([.ref (a 5), .ref (a 0), .int v1]) ++ List.replicate (6 - (lg_sl ([.ref (a 5), .ref (a 0), .int v1])).length) Slot.unset).toArray = ls at hl ⊢
  have hl : lv_has ls 6 [(0, .ref (a 5)), (1, .ref (a 0)), (2, .int v1)] := hl
  exact db_X1_putAddress_0 (dC := dC) (dI := dI) (a := a) (ac := ac) (n := n) (r := r) ⟨hlt, hx, hb, hml, hown, hts, hN, hA, hK⟩ (fun pc τ H locs ls d er hP hD hS => by subst er; exact W.vret hx hb hr (fun t ht hW => ⟨⟨(), rfl, trivial, by rw [ht]; exact hP, va_K.moved hW.alike hK, hD⟩, hS.F ht⟩) hS.2.2 d) v1 s0 _ _ _ h hP hD va_S.rf (lv_sub hl [0, 1, 2] rfl)
def ow_dm_X1_putNumber : List Cond := Cond.code yX1_putNumber cX1_putNumber 7 none :: ([Cond.fieldLink RX1 19 "TimeMachine$Assembler" "statement" "[I", Cond.methodLink RX1 257 yX7_fits, Cond.static yX7_fits, Cond.initialized RX7, Cond.methodLink RX1 346 yX9_high, Cond.static yX9_high, Cond.initialized RX9, Cond.methodLink RX1 261 yX7_placed, Cond.static yX7_placed, Cond.methodLink RX1 340 yX1_put, Cond.instanceMethod yX1_put, Cond.selects RX1 yX1_put yX1_put, Cond.initialized RX1, Cond.methodLink RX1 265 yX9_low, Cond.static yX9_low] ++ (u_ws RX1 TX1 13 ++ (ow_dm_X7_fits ++ (ow_dm_X9_high ++ (ow_dm_X7_placed ++ (ow_dm_X1_put ++ (ow_dm_X9_low ++ [])))))))
theorem gd_dm_X1_putNumber : ∀ w ∈ ow_dm_X1_putNumber, (w.onTables && w.keeps) = true ∨ ∃ ty, w = Cond.arrayClass ty := List.forall_mem_cons.mpr ⟨good_of_word rfl, List.forall_mem_append.mpr ⟨fun w h => good_of_word (List.all_eq_true.mp (by decide +kernel) w h), List.forall_mem_append.mpr ⟨gu_X1, List.forall_mem_append.mpr ⟨gd_dm_X7_fits, List.forall_mem_append.mpr ⟨gd_dm_X9_high, List.forall_mem_append.mpr ⟨gd_dm_X7_placed, List.forall_mem_append.mpr ⟨gd_dm_X1_put, List.forall_mem_append.mpr ⟨gd_dm_X9_low, fun _ h => nomatch h⟩⟩⟩⟩⟩⟩⟩⟩
theorem hi_dm_X1_putNumber_X1 : ∀ w ∈ u_ws RX1 TX1 13, w ∈ ow_dm_X1_putNumber := fun w h => List.mem_cons_of_mem _ (List.mem_append_right _ (List.mem_append_left _ h))
theorem gi_dm_X1_putNumber_0 : GoodIn ow_dm_X1_putNumber (va_wsS RX1 257 yX7_fits ow_dm_X7_fits) := goodIn_app (goodIn_of _ (by decide +kernel)) (fun w h => ⟨List.mem_cons_of_mem _ (List.mem_append_right _ (List.mem_append_right _ (List.mem_append_left _ h))), gd_dm_X7_fits w h⟩)
theorem gi_dm_X1_putNumber_1 : GoodIn ow_dm_X1_putNumber (va_wsS RX1 346 yX9_high ow_dm_X9_high) := goodIn_app (goodIn_of _ (by decide +kernel)) (fun w h => ⟨List.mem_cons_of_mem _ (List.mem_append_right _ (List.mem_append_right _ (List.mem_append_right _ (List.mem_append_left _ h)))), gd_dm_X9_high w h⟩)
theorem gi_dm_X1_putNumber_2 : GoodIn ow_dm_X1_putNumber (va_wsS RX1 261 yX7_placed ow_dm_X7_placed) := goodIn_app (goodIn_of _ (by decide +kernel)) (fun w h => ⟨List.mem_cons_of_mem _ (List.mem_append_right _ (List.mem_append_right _ (List.mem_append_right _ (List.mem_append_right _ (List.mem_append_left _ h))))), gd_dm_X7_placed w h⟩)
theorem gi_dm_X1_putNumber_3 : GoodIn ow_dm_X1_putNumber (wsV RX1 340 RX1 yX1_put ow_dm_X1_put) := goodIn_app (goodIn_of _ (by decide +kernel)) (fun w h => ⟨List.mem_cons_of_mem _ (List.mem_append_right _ (List.mem_append_right _ (List.mem_append_right _ (List.mem_append_right _ (List.mem_append_right _ (List.mem_append_left _ h)))))), gd_dm_X1_put w h⟩)
theorem gi_dm_X1_putNumber_4 : GoodIn ow_dm_X1_putNumber (va_wsS RX1 265 yX9_low ow_dm_X9_low) := goodIn_app (goodIn_of _ (by decide +kernel)) (fun w h => ⟨List.mem_cons_of_mem _ (List.mem_append_right _ (List.mem_append_right _ (List.mem_append_right _ (List.mem_append_right _ (List.mem_append_right _ (List.mem_append_right _ (List.mem_append_left _ h))))))), gd_dm_X9_low w h⟩)
def dj_X1_putNumber_176 (p : Program) (l : Launch) (e : Env) (s : State) (m : MethodId) (args : Array Value) (below : List Frame) (meth : Method) (c : Code) (Q : State → Prop) (A : Nat → Prop) (dC : Nat → ClassId) (dI : Nat → Nat → Nat) (a : Nat → Nat) (ac : Nat → ClassId) (g : (St × (St × (St)) × (St)) → Option (St × (St × (St)) × (St))) (r : St × (St × (St)) × (St)) : Prop := ∀ (s0 : St × (St × (St)) × (St)) (H : Heap) (locs : List Loc) (ls : Array Slot), g s0 = some r → va_P (dC, dI) vwCl (dw_X1p a ac s0) H → va_D A (dw_X1p a ac s0) → va_S A s.heap H locs → lv_has ls 7 [] → W p l e (headSpec ow_dm_X1_putNumber ({ frames := 3, cells := 0, slots := 0, locals := 65 })).room s m args below meth c H locs 0 0 Q (F0 m 176 ls [])
def dj_X1_putNumber_0 (p : Program) (l : Launch) (e : Env) (s : State) (m : MethodId) (args : Array Value) (below : List Frame) (meth : Method) (c : Code) (Q : State → Prop) (A : Nat → Prop) (dC : Nat → ClassId) (dI : Nat → Nat → Nat) (a : Nat → Nat) (ac : Nat → ClassId) (g : Int32 → (St × (St × (St)) × (St)) → Option (St × (St × (St)) × (St))) (r : St × (St × (St)) × (St)) : Prop := ∀ (v1 : Int32) (s0 : St × (St × (St)) × (St)) (H : Heap) (locs : List Loc) (ls : Array Slot), g v1 s0 = some r → va_P (dC, dI) vwCl (dw_X1p a ac s0) H → va_D A (dw_X1p a ac s0) → va_S A s.heap H locs → lv_has ls 7 [(0, .ref (a 5)), (1, .ref (a 0)), (2, .int v1)] → W p l e (headSpec ow_dm_X1_putNumber ({ frames := 3, cells := 0, slots := 0, locals := 65 })).room s m args below meth c H locs 0 0 Q (F0 m 0 ls [])
set_option maxHeartbeats 40000000 in
set_option maxRecDepth 100000 in
theorem db_X1_putNumber_176 {p : Program} {l : Launch} {e : Env} {s : State} {m : MethodId} {args : Array Value} {below : List Frame} {meth : Method} {c : Code} {Q : State → Prop} {A : Nat → Prop} {dC : Nat → ClassId} {dI : Nat → Nat → Nat} {a : Nat → Nat} {ac : Nat → ClassId} {n : Nat} {r : St × (St × (St)) × (St)} (C : nd_C p l s m args c A (dC, dI) cX1_putNumber 7 RX1 ow_dm_X1_putNumber (dk_X1p ac)) (K : nd_Kv p l e (headSpec ow_dm_X1_putNumber ({ frames := 3, cells := 0, slots := 0, locals := 65 })).room s m args below meth c Q A (dC, dI) cX1_putNumber (St × (St × (St)) × (St)) (dw_X1p a ac) r) : dj_X1_putNumber_176 p l e s m args below meth c Q A dC dI a ac (df_X1_putNumber_176 n) r := by
  obtain ⟨hlt, hx, hb, hml, hown, hts, hN, hA, hK⟩ := id C
  intro s0 H locs ls h hP hD hS hl
  unfold df_X1_putNumber_176 at h
  exact K _ _ _ _ _ dX1_putNumber_176 (Option.some.inj h).symm hP hD hS
set_option maxHeartbeats 40000000 in
set_option maxRecDepth 100000 in
theorem db_X1_putNumber_0 {p : Program} {l : Launch} {e : Env} {s : State} {m : MethodId} {args : Array Value} {below : List Frame} {meth : Method} {c : Code} {Q : State → Prop} {A : Nat → Prop} {dC : Nat → ClassId} {dI : Nat → Nat → Nat} {a : Nat → Nat} {ac : Nat → ClassId} {n : Nat} {r : St × (St × (St)) × (St)} (C : nd_C p l s m args c A (dC, dI) cX1_putNumber 7 RX1 ow_dm_X1_putNumber (dk_X1p ac)) (K : nd_Kv p l e (headSpec ow_dm_X1_putNumber ({ frames := 3, cells := 0, slots := 0, locals := 65 })).room s m args below meth c Q A (dC, dI) cX1_putNumber (St × (St × (St)) × (St)) (dw_X1p a ac) r) : dj_X1_putNumber_0 p l e s m args below meth c Q A dC dI a ac (df_X1_putNumber_0 n) r := by
  obtain ⟨hlt, hx, hb, hml, hown, hts, hN, hA, hK⟩ := id C
  intro v1 s0 H locs ls h hP hD hS hl
  unfold df_X1_putNumber_0 at h
  refine lv_aload_n hx hb dX1_putNumber_0 rfl (lv_at hl 0 rfl) ?_
  refine va_get (D := (dC, dI)) (ci := 2) (v := .ref (a 6)) (C := RX1) (T := TX1) (N := 13) hx hb hts hi_dm_X1_putNumber_X1 hown hK hP 0 rfl rfl 1 (by decide) (hts (.fieldLink RX1 19 "TimeMachine$Assembler" "statement" "[I") (List.mem_of_getElem? (i := 1) rfl)) (fun _ h9 => h9) rfl dX1_putNumber_1 ?_
  refine lv_iload_n hx hb dX1_putNumber_4 rfl (lv_at hl 2 rfl) ?_
  refine lv_iconst (v := 2) hx hb dX1_putNumber_5 (by decide) ?_
  refine lv_iadd hx hb dX1_putNumber_6 ?_
  obtain ⟨i1, h⟩ := nd_ck_e h
  refine va_iald (i := (v1 + 2)) hx hb hK hP 1 0 rfl rfl i1 dX1_putNumber_7 ?_
  refine lv_topi (fun z2 ez2 => ?_)
  have h := nd_at h ez2
  refine lv_istore_n (lv' := [(3, .int z2), (0, .ref (a 5)), (1, .ref (a 0)), (2, .int v1)]) hx hb dX1_putNumber_8 rfl hl (by decide) rfl (fun ls hl => ?_)
  refine lv_aload_n hx hb dX1_putNumber_9 rfl (lv_at hl 1 rfl) ?_
  refine va_get (D := (dC, dI)) (ci := 2) (v := .ref (a 6)) (C := RX1) (T := TX1) (N := 13) hx hb hts hi_dm_X1_putNumber_X1 hown hK hP 0 rfl rfl 1 (by decide) (hts (.fieldLink RX1 19 "TimeMachine$Assembler" "statement" "[I") (List.mem_of_getElem? (i := 1) rfl)) (fun _ h9 => h9) rfl dX1_putNumber_10 ?_
  refine lv_iload_n hx hb dX1_putNumber_13 rfl (lv_at hl 3 rfl) ?_
  refine lv_iconst (v := 3) hx hb dX1_putNumber_14 (by decide) ?_
  refine lv_iadd hx hb dX1_putNumber_15 ?_
  obtain ⟨i3, h⟩ := nd_ck_e h
  refine va_iald (i := (v1 + 3)) hx hb hK hP 1 0 rfl rfl i3 dX1_putNumber_16 ?_
  refine lv_topi (fun z4 ez4 => ?_)
  have h := nd_at h ez4
  refine lv_istore (lv' := [(4, .int z4), (3, .int z2), (0, .ref (a 5)), (1, .ref (a 0)), (2, .int v1)]) hx hb dX1_putNumber_17 hl (by decide) rfl (fun ls hl => ?_)
  refine lv_aload_n hx hb dX1_putNumber_19 rfl (lv_at hl 2 rfl) ?_
  refine va_get (D := (dC, dI)) (ci := 2) (v := .ref (a 6)) (C := RX1) (T := TX1) (N := 13) hx hb hts hi_dm_X1_putNumber_X1 hown hK hP 0 rfl rfl 1 (by decide) (hts (.fieldLink RX1 19 "TimeMachine$Assembler" "statement" "[I") (List.mem_of_getElem? (i := 1) rfl)) (fun _ h9 => h9) rfl dX1_putNumber_20 ?_
  refine lv_iload_n hx hb dX1_putNumber_23 rfl (lv_at hl 4 rfl) ?_
  refine lv_iconst (v := 5) hx hb dX1_putNumber_24 (by decide) ?_
  refine lv_iadd hx hb dX1_putNumber_25 ?_
  obtain ⟨i5, h⟩ := nd_ck_e h
  refine va_iald (i := (v1 + 5)) hx hb hK hP 1 0 rfl rfl i5 dX1_putNumber_26 ?_
  refine lv_topi (fun z6 ez6 => ?_)
  have h := nd_at h ez6
  refine lv_istore (lv' := [(5, .int z6), (4, .int z4), (3, .int z2), (0, .ref (a 5)), (1, .ref (a 0)), (2, .int v1)]) hx hb dX1_putNumber_27 hl (by decide) rfl (fun ls hl => ?_)
  refine lv_aload_n hx hb dX1_putNumber_29 rfl (lv_at hl 3 rfl) ?_
  refine va_get (D := (dC, dI)) (ci := 2) (v := .ref (a 6)) (C := RX1) (T := TX1) (N := 13) hx hb hts hi_dm_X1_putNumber_X1 hown hK hP 0 rfl rfl 1 (by decide) (hts (.fieldLink RX1 19 "TimeMachine$Assembler" "statement" "[I") (List.mem_of_getElem? (i := 1) rfl)) (fun _ h9 => h9) rfl dX1_putNumber_30 ?_
  refine lv_iload_n hx hb dX1_putNumber_33 rfl (lv_at hl 5 rfl) ?_
  refine lv_bipush (v := 6) hx hb dX1_putNumber_34 (by decide) ?_
  refine lv_iadd hx hb dX1_putNumber_36 ?_
  obtain ⟨i7, h⟩ := nd_ck_e h
  refine va_iald (i := (v1 + 6)) hx hb hK hP 1 0 rfl rfl i7 dX1_putNumber_37 ?_
  refine lv_topi (fun z8 ez8 => ?_)
  have h := nd_at h ez8
  refine lv_istore (lv' := [(6, .int z8), (5, .int z6), (4, .int z4), (3, .int z2), (0, .ref (a 5)), (1, .ref (a 0)), (2, .int v1)]) hx hb dX1_putNumber_38 hl (by decide) rfl (fun ls hl => ?_)
  refine lv_iload hx hb dX1_putNumber_40 (lv_at hl 2 rfl) ?_
  refine lv_iconst (v := 2) hx hb dX1_putNumber_42 (by decide) ?_
  refine lv_icmp_ne (tgt := 73) hx hb dX1_putNumber_43 (by decide) (fun c9 => ?_) (fun c9 => ?_)
  · have h := nd_neg h c9
    refine lv_bipush (v := 73) hx hb dX1_putNumber_73 (by decide) ?_
    refine lv_iload hx hb dX1_putNumber_75 (lv_at hl 0 rfl) ?_
    obtain ⟨q10, s11, hq, h⟩ := nd_b2_e h
    have hPc : va_P (dC, dI) vwCl (dw_P a ac ()) H := nd_p0
    have hDc : va_D A (dw_P a ac ()) := nd_d0
    have hKc : va_K (dC, dI) vwCl (dk_P ac) s := nd_y0 hK
    have hFc : ∀ q, va_A (dw_P a ac ()) H.size q → A q := nd_r0 hS hA
    refine nd_cSi (As := [.int 73, .int z8]) (rest := []) (q := q10) (w' := dw_P a ac s11) ⟨hx, hb, hml, hown, hts⟩ (fun sz => dm_X7_fits l hlt dC dI a ac n (73) (z8) () hq sz) (va_cwS 2 hts gi_dm_X1_putNumber_0 rfl rfl rfl (by decide +kernel) ⟨Nat.le_of_ble_eq_true rfl, Nat.le_of_ble_eq_true rfl⟩) hPc hDc hKc hS hA hN rfl hl.1 rfl (Nat.le_of_ble_eq_true rfl) dX1_putNumber_77 (fun H locs hP1 hD1 hk1 hS => ?_)
    have hP := nd_n0 hP hk1
    refine lv_if_eq (tgt := 109) hx hb dX1_putNumber_80 (by decide) (fun c13 => ?_) (fun c13 => ?_)
    · have h := nd_pos h c13
      refine lv_aload_n hx hb dX1_putNumber_109 rfl (lv_at hl 4 rfl) ?_
      refine lv_aload_n hx hb dX1_putNumber_110 rfl (lv_at hl 5 rfl) ?_
      refine lv_iload_n hx hb dX1_putNumber_111 rfl (lv_at hl 3 rfl) ?_
      refine lv_iconst (v := 4) hx hb dX1_putNumber_112 (by decide) ?_
      refine lv_bipush (v := 55) hx hb dX1_putNumber_113 (by decide) ?_
      refine lv_iload hx hb dX1_putNumber_115 (lv_at hl 1 rfl) ?_
      refine lv_bipush (v := 7) hx hb dX1_putNumber_117 (by decide) ?_
      refine lv_ishl hx hb dX1_putNumber_119 ?_
      refine lv_ior hx hb dX1_putNumber_120 ?_
      refine lv_bipush (v := 85) hx hb dX1_putNumber_121 (by decide) ?_
      refine lv_iload hx hb dX1_putNumber_123 (lv_at hl 0 rfl) ?_
      obtain ⟨q14, s15, hq, h⟩ := nd_b2_e h
      have hPc : va_P (dC, dI) vwCl (dw_P a ac ()) H := nd_p0
      have hDc : va_D A (dw_P a ac ()) := nd_d0
      have hKc : va_K (dC, dI) vwCl (dk_P ac) s := nd_y0 hK
      have hFc : ∀ q, va_A (dw_P a ac ()) H.size q → A q := nd_r0 hS hA
      refine nd_cSi (As := [.int z8]) (rest := [.int 85, .int (55 ||| ((z6 : Int32) <<< ((7 : Int32) &&& 31))), .int 4, .int z2, .ref (a 0), .ref (a 5)]) (q := q14) (w' := dw_P a ac s15) ⟨hx, hb, hml, hown, hts⟩ (fun sz => dm_X9_high l hlt dC dI a ac n (z8) () hq sz) (va_cwS 1 hts gi_dm_X1_putNumber_1 rfl rfl rfl (by decide +kernel) ⟨Nat.le_of_ble_eq_true rfl, Nat.le_of_ble_eq_true rfl⟩) hPc hDc hKc hS hA hN rfl hl.1 rfl (Nat.le_of_ble_eq_true rfl) dX1_putNumber_125 (fun H locs hP1 hD1 hk1 hS => ?_)
      have hP := nd_n0 hP hk1
      obtain ⟨q17, s18, hq, h⟩ := nd_b2_e h
      have hPc : va_P (dC, dI) vwCl (dw_P a ac ()) H := nd_p0
      have hDc : va_D A (dw_P a ac ()) := nd_d0
      have hKc : va_K (dC, dI) vwCl (dk_P ac) s := nd_y0 hK
      have hFc : ∀ q, va_A (dw_P a ac ()) H.size q → A q := nd_r0 hS hA
      refine nd_cSi (As := [.int 85, .int q14]) (rest := [.int (55 ||| ((z6 : Int32) <<< ((7 : Int32) &&& 31))), .int 4, .int z2, .ref (a 0), .ref (a 5)]) (q := q17) (w' := dw_P a ac s18) ⟨hx, hb, hml, hown, hts⟩ (fun sz => dm_X7_placed l hlt dC dI a ac n (85) (q14) () hq sz) (va_cwS 2 hts gi_dm_X1_putNumber_2 rfl rfl rfl (by decide +kernel) ⟨Nat.le_of_ble_eq_true rfl, Nat.le_of_ble_eq_true rfl⟩) hPc hDc hKc hS hA hN rfl hl.1 rfl (Nat.le_of_ble_eq_true rfl) dX1_putNumber_128 (fun H locs hP1 hD1 hk1 hS => ?_)
      have hP := nd_n0 hP hk1
      refine lv_ior hx hb dX1_putNumber_131 ?_
      obtain ⟨s21, hq, h⟩ := nd_b1_e h
      have hPc := hP
      have hDc := hD
      have hKc := hK
      have hFc := nd_rs hD hS hA
      refine nd_cVv (As := [.ref (a 0), .int z2, .int 4, .int ((55 ||| ((z6 : Int32) <<< ((7 : Int32) &&& 31))) ||| q17)]) (rest := []) (w' := dw_X1p a ac s21) ⟨hx, hb, hml, hown, hts⟩ (fun sz => dm_X1_put l hlt dC dI a ac n (z2) (4) (((55 ||| ((z6 : Int32) <<< ((7 : Int32) &&& 31))) ||| q17)) s0 hq sz) (cwV 4 hts gi_dm_X1_putNumber_3 rfl rfl rfl (by decide +kernel) ⟨Nat.le_of_ble_eq_true rfl, Nat.le_of_ble_eq_true rfl⟩) hPc hDc hKc hS hA hN (va_recv hKc hPc (ci := 2) (q0 := 0) rfl rfl) rfl hl.1 rfl (Nat.le_of_ble_eq_true rfl) dX1_putNumber_132 (fun H locs hP1 hD1 hk1 hS => ?_)
      have hP := hP1
      have hD := hD1.weaken (fun k q _ h => hFc q.1 h)
      refine lv_iload hx hb dX1_putNumber_135 (lv_at hl 2 rfl) ?_
      refine lv_bipush (v := 8) hx hb dX1_putNumber_137 (by decide) ?_
      refine lv_icmp_ne (tgt := 176) hx hb dX1_putNumber_139 (by decide) (fun c23 => ?_) (fun c23 => ?_)
      · have h := nd_neg h c23
        exact (db_X1_putNumber_176 C K)  s21 _ _ _ h hP hD hS (lv_sub hl [] rfl)
      · have h := nd_pos h c23
        refine lv_aload_n hx hb dX1_putNumber_142 rfl (lv_at hl 4 rfl) ?_
        refine lv_aload_n hx hb dX1_putNumber_143 rfl (lv_at hl 5 rfl) ?_
        refine lv_iload_n hx hb dX1_putNumber_144 rfl (lv_at hl 3 rfl) ?_
        refine lv_iconst (v := 4) hx hb dX1_putNumber_145 (by decide) ?_
        refine lv_iadd hx hb dX1_putNumber_146 ?_
        refine lv_iconst (v := 4) hx hb dX1_putNumber_147 (by decide) ?_
        refine lv_bipush (v := 19) hx hb dX1_putNumber_148 (by decide) ?_
        refine lv_iload hx hb dX1_putNumber_150 (lv_at hl 1 rfl) ?_
        refine lv_bipush (v := 7) hx hb dX1_putNumber_152 (by decide) ?_
        refine lv_ishl hx hb dX1_putNumber_154 ?_
        refine lv_ior hx hb dX1_putNumber_155 ?_
        refine lv_iload hx hb dX1_putNumber_156 (lv_at hl 1 rfl) ?_
        refine lv_bipush (v := 15) hx hb dX1_putNumber_158 (by decide) ?_
        refine lv_ishl hx hb dX1_putNumber_160 ?_
        refine lv_ior hx hb dX1_putNumber_161 ?_
        refine lv_bipush (v := 73) hx hb dX1_putNumber_162 (by decide) ?_
        refine lv_iload hx hb dX1_putNumber_164 (lv_at hl 0 rfl) ?_
        obtain ⟨q24, s25, hq, h⟩ := nd_b2_e h
        have hPc : va_P (dC, dI) vwCl (dw_P a ac ()) H := nd_p0
        have hDc : va_D A (dw_P a ac ()) := nd_d0
        have hKc : va_K (dC, dI) vwCl (dk_P ac) s := nd_y0 hK
        have hFc : ∀ q, va_A (dw_P a ac ()) H.size q → A q := nd_r0 hS hA
        refine nd_cSi (As := [.int z8]) (rest := [.int 73, .int ((19 ||| ((z6 : Int32) <<< ((7 : Int32) &&& 31))) ||| ((z6 : Int32) <<< ((15 : Int32) &&& 31))), .int 4, .int (z2 + 4), .ref (a 0), .ref (a 5)]) (q := q24) (w' := dw_P a ac s25) ⟨hx, hb, hml, hown, hts⟩ (fun sz => dm_X9_low l hlt dC dI a ac n (z8) () hq sz) (va_cwS 1 hts gi_dm_X1_putNumber_4 rfl rfl rfl (by decide +kernel) ⟨Nat.le_of_ble_eq_true rfl, Nat.le_of_ble_eq_true rfl⟩) hPc hDc hKc hS hA hN rfl hl.1 rfl (Nat.le_of_ble_eq_true rfl) dX1_putNumber_166 (fun H locs hP1 hD1 hk1 hS => ?_)
        have hP := nd_n0 hP hk1
        obtain ⟨q27, s28, hq, h⟩ := nd_b2_e h
        have hPc : va_P (dC, dI) vwCl (dw_P a ac ()) H := nd_p0
        have hDc : va_D A (dw_P a ac ()) := nd_d0
        have hKc : va_K (dC, dI) vwCl (dk_P ac) s := nd_y0 hK
        have hFc : ∀ q, va_A (dw_P a ac ()) H.size q → A q := nd_r0 hS hA
        refine nd_cSi (As := [.int 73, .int q24]) (rest := [.int ((19 ||| ((z6 : Int32) <<< ((7 : Int32) &&& 31))) ||| ((z6 : Int32) <<< ((15 : Int32) &&& 31))), .int 4, .int (z2 + 4), .ref (a 0), .ref (a 5)]) (q := q27) (w' := dw_P a ac s28) ⟨hx, hb, hml, hown, hts⟩ (fun sz => dm_X7_placed l hlt dC dI a ac n (73) (q24) () hq sz) (va_cwS 2 hts gi_dm_X1_putNumber_2 rfl rfl rfl (by decide +kernel) ⟨Nat.le_of_ble_eq_true rfl, Nat.le_of_ble_eq_true rfl⟩) hPc hDc hKc hS hA hN rfl hl.1 rfl (Nat.le_of_ble_eq_true rfl) dX1_putNumber_169 (fun H locs hP1 hD1 hk1 hS => ?_)
        have hP := nd_n0 hP hk1
        refine lv_ior hx hb dX1_putNumber_172 ?_
        obtain ⟨s31, hq, h⟩ := nd_b1_e h
        have hPc := hP
        have hDc := hD
        have hKc := hK
        have hFc := nd_rs hD hS hA
        refine nd_cVv (As := [.ref (a 0), .int (z2 + 4), .int 4, .int (((19 ||| ((z6 : Int32) <<< ((7 : Int32) &&& 31))) ||| ((z6 : Int32) <<< ((15 : Int32) &&& 31))) ||| q27)]) (rest := []) (w' := dw_X1p a ac s31) ⟨hx, hb, hml, hown, hts⟩ (fun sz => dm_X1_put l hlt dC dI a ac n ((z2 + 4)) (4) ((((19 ||| ((z6 : Int32) <<< ((7 : Int32) &&& 31))) ||| ((z6 : Int32) <<< ((15 : Int32) &&& 31))) ||| q27)) s21 hq sz) (cwV 4 hts gi_dm_X1_putNumber_3 rfl rfl rfl (by decide +kernel) ⟨Nat.le_of_ble_eq_true rfl, Nat.le_of_ble_eq_true rfl⟩) hPc hDc hKc hS hA hN (va_recv hKc hPc (ci := 2) (q0 := 0) rfl rfl) rfl hl.1 rfl (Nat.le_of_ble_eq_true rfl) dX1_putNumber_173 (fun H locs hP1 hD1 hk1 hS => ?_)
        have hP := hP1
        have hD := hD1.weaken (fun k q _ h => hFc q.1 h)
        exact (db_X1_putNumber_176 C K)  s31 _ _ _ h hP hD hS (lv_sub hl [] rfl)
    · have h := nd_neg h c13
      refine lv_aload_n hx hb dX1_putNumber_83 rfl (lv_at hl 4 rfl) ?_
      refine lv_aload_n hx hb dX1_putNumber_84 rfl (lv_at hl 5 rfl) ?_
      refine lv_iload_n hx hb dX1_putNumber_85 rfl (lv_at hl 3 rfl) ?_
      refine lv_iconst (v := 4) hx hb dX1_putNumber_86 (by decide) ?_
      refine lv_bipush (v := 19) hx hb dX1_putNumber_87 (by decide) ?_
      refine lv_iload hx hb dX1_putNumber_89 (lv_at hl 1 rfl) ?_
      refine lv_bipush (v := 7) hx hb dX1_putNumber_91 (by decide) ?_
      refine lv_ishl hx hb dX1_putNumber_93 ?_
      refine lv_ior hx hb dX1_putNumber_94 ?_
      refine lv_bipush (v := 73) hx hb dX1_putNumber_95 (by decide) ?_
      refine lv_iload hx hb dX1_putNumber_97 (lv_at hl 0 rfl) ?_
      obtain ⟨q33, s34, hq, h⟩ := nd_b2_e h
      have hPc : va_P (dC, dI) vwCl (dw_P a ac ()) H := nd_p0
      have hDc : va_D A (dw_P a ac ()) := nd_d0
      have hKc : va_K (dC, dI) vwCl (dk_P ac) s := nd_y0 hK
      have hFc : ∀ q, va_A (dw_P a ac ()) H.size q → A q := nd_r0 hS hA
      refine nd_cSi (As := [.int 73, .int z8]) (rest := [.int (19 ||| ((z6 : Int32) <<< ((7 : Int32) &&& 31))), .int 4, .int z2, .ref (a 0), .ref (a 5)]) (q := q33) (w' := dw_P a ac s34) ⟨hx, hb, hml, hown, hts⟩ (fun sz => dm_X7_placed l hlt dC dI a ac n (73) (z8) () hq sz) (va_cwS 2 hts gi_dm_X1_putNumber_2 rfl rfl rfl (by decide +kernel) ⟨Nat.le_of_ble_eq_true rfl, Nat.le_of_ble_eq_true rfl⟩) hPc hDc hKc hS hA hN rfl hl.1 rfl (Nat.le_of_ble_eq_true rfl) dX1_putNumber_99 (fun H locs hP1 hD1 hk1 hS => ?_)
      have hP := nd_n0 hP hk1
      refine lv_ior hx hb dX1_putNumber_102 ?_
      obtain ⟨s37, hq, h⟩ := nd_b1_e h
      have hPc := hP
      have hDc := hD
      have hKc := hK
      have hFc := nd_rs hD hS hA
      refine nd_cVv (As := [.ref (a 0), .int z2, .int 4, .int ((19 ||| ((z6 : Int32) <<< ((7 : Int32) &&& 31))) ||| q33)]) (rest := []) (w' := dw_X1p a ac s37) ⟨hx, hb, hml, hown, hts⟩ (fun sz => dm_X1_put l hlt dC dI a ac n (z2) (4) (((19 ||| ((z6 : Int32) <<< ((7 : Int32) &&& 31))) ||| q33)) s0 hq sz) (cwV 4 hts gi_dm_X1_putNumber_3 rfl rfl rfl (by decide +kernel) ⟨Nat.le_of_ble_eq_true rfl, Nat.le_of_ble_eq_true rfl⟩) hPc hDc hKc hS hA hN (va_recv hKc hPc (ci := 2) (q0 := 0) rfl rfl) rfl hl.1 rfl (Nat.le_of_ble_eq_true rfl) dX1_putNumber_103 (fun H locs hP1 hD1 hk1 hS => ?_)
      have hP := hP1
      have hD := hD1.weaken (fun k q _ h => hFc q.1 h)
      refine lv_goto (tgt := 176) hx hb dX1_putNumber_106 (by decide) ?_
      exact (db_X1_putNumber_176 C K)  s37 _ _ _ h hP hD hS (lv_sub hl [] rfl)
  · have h := nd_pos h c9
    refine lv_aload_n hx hb dX1_putNumber_46 rfl (lv_at hl 4 rfl) ?_
    refine lv_aload_n hx hb dX1_putNumber_47 rfl (lv_at hl 5 rfl) ?_
    refine lv_iload_n hx hb dX1_putNumber_48 rfl (lv_at hl 3 rfl) ?_
    refine lv_iconst (v := 2) hx hb dX1_putNumber_49 (by decide) ?_
    refine lv_sipush (v := 16385) hx hb dX1_putNumber_50 (by decide) ?_
    refine lv_iload hx hb dX1_putNumber_53 (lv_at hl 1 rfl) ?_
    refine lv_bipush (v := 7) hx hb dX1_putNumber_55 (by decide) ?_
    refine lv_ishl hx hb dX1_putNumber_57 ?_
    refine lv_ior hx hb dX1_putNumber_58 ?_
    refine lv_bipush (v := 78) hx hb dX1_putNumber_59 (by decide) ?_
    refine lv_iload hx hb dX1_putNumber_61 (lv_at hl 0 rfl) ?_
    obtain ⟨q39, s40, hq, h⟩ := nd_b2_e h
    have hPc : va_P (dC, dI) vwCl (dw_P a ac ()) H := nd_p0
    have hDc : va_D A (dw_P a ac ()) := nd_d0
    have hKc : va_K (dC, dI) vwCl (dk_P ac) s := nd_y0 hK
    have hFc : ∀ q, va_A (dw_P a ac ()) H.size q → A q := nd_r0 hS hA
    refine nd_cSi (As := [.int 78, .int z8]) (rest := [.int (16385 ||| ((z6 : Int32) <<< ((7 : Int32) &&& 31))), .int 2, .int z2, .ref (a 0), .ref (a 5)]) (q := q39) (w' := dw_P a ac s40) ⟨hx, hb, hml, hown, hts⟩ (fun sz => dm_X7_placed l hlt dC dI a ac n (78) (z8) () hq sz) (va_cwS 2 hts gi_dm_X1_putNumber_2 rfl rfl rfl (by decide +kernel) ⟨Nat.le_of_ble_eq_true rfl, Nat.le_of_ble_eq_true rfl⟩) hPc hDc hKc hS hA hN rfl hl.1 rfl (Nat.le_of_ble_eq_true rfl) dX1_putNumber_63 (fun H locs hP1 hD1 hk1 hS => ?_)
    have hP := nd_n0 hP hk1
    refine lv_ior hx hb dX1_putNumber_66 ?_
    obtain ⟨s43, hq, h⟩ := nd_b1_e h
    have hPc := hP
    have hDc := hD
    have hKc := hK
    have hFc := nd_rs hD hS hA
    refine nd_cVv (As := [.ref (a 0), .int z2, .int 2, .int ((16385 ||| ((z6 : Int32) <<< ((7 : Int32) &&& 31))) ||| q39)]) (rest := []) (w' := dw_X1p a ac s43) ⟨hx, hb, hml, hown, hts⟩ (fun sz => dm_X1_put l hlt dC dI a ac n (z2) (2) (((16385 ||| ((z6 : Int32) <<< ((7 : Int32) &&& 31))) ||| q39)) s0 hq sz) (cwV 4 hts gi_dm_X1_putNumber_3 rfl rfl rfl (by decide +kernel) ⟨Nat.le_of_ble_eq_true rfl, Nat.le_of_ble_eq_true rfl⟩) hPc hDc hKc hS hA hN (va_recv hKc hPc (ci := 2) (q0 := 0) rfl rfl) rfl hl.1 rfl (Nat.le_of_ble_eq_true rfl) dX1_putNumber_67 (fun H locs hP1 hD1 hk1 hS => ?_)
    have hP := hP1
    have hD := hD1.weaken (fun k q _ h => hFc q.1 h)
    refine lv_goto (tgt := 176) hx hb dX1_putNumber_70 (by decide) ?_
    exact (db_X1_putNumber_176 C K)  s43 _ _ _ h hP hD hS (lv_sub hl [] rfl)
set_option maxHeartbeats 40000000 in
set_option maxRecDepth 100000 in
theorem dm_X1_putNumber (l : Launch) (hlt : l.stackTraces = false) (dC : Nat → ClassId) (dI : Nat → Nat → Nat) (a : Nat → Nat) (ac : Nat → ClassId) (n : Nat) (v1 : Int32) (s0 : St × (St × (St)) × (St)) {r : St × (St × (St)) × (St)} (h : df_X1_putNumber n v1 s0 = some r) (sz : Nat) : Met l yX1_putNumber ow_dm_X1_putNumber ({ frames := 3, cells := 0, slots := 0, locals := 65 }) (va_Pc [.ref (a 5), .ref (a 0), .int v1] (fun U => U.heap.size = sz ∧ va_P (dC, dI) vwCl (dw_X1p a ac s0) U.heap ∧ va_K (dC, dI) vwCl (dk_X1p ac) U ∧ va_D (fun _ => True) (dw_X1p a ac s0) ∧ nv_E dI (va_A (dw_X1p a ac s0) sz) U)) (va_Qv (fun _ => True) (fun (_ : Unit) t => va_P (dC, dI) vwCl (dw_X1p a ac r) t.heap ∧ va_K (dC, dI) vwCl (dk_X1p ac) t ∧ va_D (va_A (dw_X1p a ac s0) sz) (dw_X1p a ac r)) (va_A (dw_X1p a ac s0) sz)) 0 0 (va_A (dw_X1p a ac s0) sz) := by
  refine Met.ofW (cc := cX1_putNumber) (maxL := 7) (ret := none) (by decide) rfl ?_
  intro p e s m args below meth c s₁ B hml hv
  obtain ⟨rfl, hsz, hP, hK, hD0, hN⟩ := hv
  have hx := B.exec
  have hb := B.bytes
  have hr := B.returns
  have hts := atoms_spec (ws := ow_dm_X1_putNumber) B.pre
  have hown : s.vm.findClass RX1 = some m.cls := findClass_of_methodNamed B.named
  have hlocks := B.notSynchronized
  subst hsz
  have hD := hD0.self (sz := s.heap.size)
  generalize hAe : va_A (dw_X1p a ac s0) s.heap.size = A at hD hN ⊢
  have hA : ∀ q : Nat, s.heap.size ≤ q → A q := fun q h => by rw [← hAe]; exact Or.inr h
  have hl := lv_entry ([.ref (a 5), .ref (a 0), .int v1]) (n := 7) (Nat.le_of_ble_eq_true rfl)
  rw [lg_entry_eq]
  generalize (lg_sl ([.ref (a 5), .ref (a 0), .int v1]) ++ List.replicate (7 - (lg_sl ([.ref (a 5), .ref (a 0), .int v1])).length) Slot.unset).toArray = ls at hl ⊢
  have hl : lv_has ls 7 [(0, .ref (a 5)), (1, .ref (a 0)), (2, .int v1)] := hl
  exact db_X1_putNumber_0 (dC := dC) (dI := dI) (a := a) (ac := ac) (n := n) (r := r) ⟨hlt, hx, hb, hml, hown, hts, hN, hA, hK⟩ (fun pc τ H locs ls d er hP hD hS => by subst er; exact W.vret hx hb hr (fun t ht hW => ⟨⟨(), rfl, trivial, by rw [ht]; exact hP, va_K.moved hW.alike hK, hD⟩, hS.F ht⟩) hS.2.2 d) v1 s0 _ _ _ h hP hD va_S.rf (lv_sub hl [0, 1, 2] rfl)
def ow_dm_X9_behind : List Cond := Cond.code yX9_behind cX9_behind 3 (some .int) :: ([Cond.methodLink RX9 169 Lib.Math.max.name, Cond.static Lib.Math.max.name, Cond.initialized "java/lang/Math", Cond.code Lib.Math.max.name Lib.Math.max.code 2 (some .int), Cond.fieldLink RX9 39 "TimeMachine$Reader" "codes" "I", Cond.fieldLink RX9 16 "TimeMachine$Reader" "code" "[I"] ++ (u_ws RX9 TX9 20 ++ []))
theorem gd_dm_X9_behind : ∀ w ∈ ow_dm_X9_behind, (w.onTables && w.keeps) = true ∨ ∃ ty, w = Cond.arrayClass ty := List.forall_mem_cons.mpr ⟨good_of_word rfl, List.forall_mem_append.mpr ⟨fun w h => good_of_word (List.all_eq_true.mp (by decide +kernel) w h), List.forall_mem_append.mpr ⟨gu_X9, fun _ h => nomatch h⟩⟩⟩
theorem hi_dm_X9_behind_X9 : ∀ w ∈ u_ws RX9 TX9 20, w ∈ ow_dm_X9_behind := fun w h => List.mem_cons_of_mem _ (List.mem_append_right _ (List.mem_append_left _ h))
def dj_X9_behind_31 (p : Program) (l : Launch) (e : Env) (s : State) (m : MethodId) (args : Array Value) (below : List Frame) (meth : Method) (c : Code) (Q : State → Prop) (A : Nat → Prop) (dC : Nat → ClassId) (dI : Nat → Nat → Nat) (a : Nat → Nat) (ac : Nat → ClassId) (g : Int32 → (St) → Option (Int32 × (St))) (r : Int32 × (St)) : Prop := ∀ (x2 : Int32) (s0 : St) (H : Heap) (locs : List Loc) (ls : Array Slot), g x2 s0 = some r → va_P (dC, dI) vwCl (dw_X9 a ac s0) H → va_D A (dw_X9 a ac s0) → va_S A s.heap H locs → lv_has ls 3 [(2, .int x2)] → W p l e (headSpec ow_dm_X9_behind ({ frames := 1, cells := 0, slots := 0, locals := 13 })).room s m args below meth c H locs 0 0 Q (F0 m 31 ls [])
def dj_X9_behind_6 (p : Program) (l : Launch) (e : Env) (s : State) (m : MethodId) (args : Array Value) (below : List Frame) (meth : Method) (c : Code) (Q : State → Prop) (A : Nat → Prop) (dC : Nat → ClassId) (dI : Nat → Nat → Nat) (a : Nat → Nat) (ac : Nat → ClassId) (g : Int32 → (St) → Option (Int32 × (St))) (r : Int32 × (St)) : Prop := ∀ (x2 : Int32) (s0 : St) (H : Heap) (locs : List Loc) (ls : Array Slot), g x2 s0 = some r → va_P (dC, dI) vwCl (dw_X9 a ac s0) H → va_D A (dw_X9 a ac s0) → va_S A s.heap H locs → lv_has ls 3 [(0, .ref (a 0)), (2, .int x2)] → W p l e (headSpec ow_dm_X9_behind ({ frames := 1, cells := 0, slots := 0, locals := 13 })).room s m args below meth c H locs 0 0 Q (F0 m 6 ls [])
def dj_X9_behind_0 (p : Program) (l : Launch) (e : Env) (s : State) (m : MethodId) (args : Array Value) (below : List Frame) (meth : Method) (c : Code) (Q : State → Prop) (A : Nat → Prop) (dC : Nat → ClassId) (dI : Nat → Nat → Nat) (a : Nat → Nat) (ac : Nat → ClassId) (g : Int32 → (St) → Option (Int32 × (St))) (r : Int32 × (St)) : Prop := ∀ (v0 : Int32) (s0 : St) (H : Heap) (locs : List Loc) (ls : Array Slot), g v0 s0 = some r → va_P (dC, dI) vwCl (dw_X9 a ac s0) H → va_D A (dw_X9 a ac s0) → va_S A s.heap H locs → lv_has ls 3 [(0, .ref (a 0)), (1, .int v0)] → W p l e (headSpec ow_dm_X9_behind ({ frames := 1, cells := 0, slots := 0, locals := 13 })).room s m args below meth c H locs 0 0 Q (F0 m 0 ls [])
set_option maxHeartbeats 40000000 in
set_option maxRecDepth 100000 in
theorem db_X9_behind_31 {p : Program} {l : Launch} {e : Env} {s : State} {m : MethodId} {args : Array Value} {below : List Frame} {meth : Method} {c : Code} {Q : State → Prop} {A : Nat → Prop} {dC : Nat → ClassId} {dI : Nat → Nat → Nat} {a : Nat → Nat} {ac : Nat → ClassId} {n : Nat} {r : Int32 × (St)} (C : nd_C p l s m args c A (dC, dI) cX9_behind 3 RX9 ow_dm_X9_behind (dk_X9 ac)) (K : nd_Ki p l e (headSpec ow_dm_X9_behind ({ frames := 1, cells := 0, slots := 0, locals := 13 })).room s m args below meth c Q A (dC, dI) cX9_behind .int (St) (dw_X9 a ac) r) : dj_X9_behind_31 p l e s m args below meth c Q A dC dI a ac (df_X9_behind_31 n) r := by
  obtain ⟨hlt, hx, hb, hml, hown, hts, hN, hA, hK⟩ := id C
  intro x2 s0 H locs ls h hP hD hS hl
  unfold df_X9_behind_31 at h
  refine lv_iload_n hx hb dX9_behind_31 rfl (lv_at hl 0 rfl) ?_
  refine lv_iconst (v := 1) hx hb dX9_behind_32 (by decide) ?_
  refine lv_iadd hx hb dX9_behind_33 ?_
  exact K _ _ _ _ _ _ dX9_behind_34 rfl (Option.some.inj h).symm hP hD hS
set_option maxHeartbeats 40000000 in
set_option maxRecDepth 100000 in
theorem dB_X9_behind_6 {p : Program} {l : Launch} {e : Env} {s : State} {m : MethodId} {args : Array Value} {below : List Frame} {meth : Method} {c : Code} {Q : State → Prop} {A : Nat → Prop} {dC : Nat → ClassId} {dI : Nat → Nat → Nat} {a : Nat → Nat} {ac : Nat → ClassId} {n : Nat} {r : Int32 × (St)} (C : nd_C p l s m args c A (dC, dI) cX9_behind 3 RX9 ow_dm_X9_behind (dk_X9 ac)) (K : nd_Ki p l e (headSpec ow_dm_X9_behind ({ frames := 1, cells := 0, slots := 0, locals := 13 })).room s m args below meth c Q A (dC, dI) cX9_behind .int (St) (dw_X9 a ac) r) {g6 : Int32 → (St) → Option (Int32 × (St))} (J6 : dj_X9_behind_6 p l e s m args below meth c Q A dC dI a ac g6 r) : dj_X9_behind_6 p l e s m args below meth c Q A dC dI a ac (dF_X9_behind_6 n g6) r := by
  obtain ⟨hlt, hx, hb, hml, hown, hts, hN, hA, hK⟩ := id C
  intro x2 s0 H locs ls h hP hD hS hl
  unfold dF_X9_behind_6 at h
  refine lv_iload_n hx hb dX9_behind_6 rfl (lv_at hl 1 rfl) ?_
  refine lv_aload_n hx hb dX9_behind_7 rfl (lv_at hl 0 rfl) ?_
  refine va_get (D := (dC, dI)) (ci := 10) (v := .int (sI s0 5)) (C := RX9) (T := TX9) (N := 20) hx hb hts hi_dm_X9_behind_X9 hown hK hP 0 rfl rfl 8 (by decide) (hts (.fieldLink RX9 39 "TimeMachine$Reader" "codes" "I") (List.mem_of_getElem? (i := 5) rfl)) (fun _ h9 => h9) rfl dX9_behind_8 ?_
  refine lv_icmp_ge (tgt := 31) hx hb dX9_behind_11 (by decide) (fun c2 => ?_) (fun c2 => ?_)
  · have h := nd_pos h c2
    exact (db_X9_behind_31 C K) (x2) s0 _ _ _ h hP hD hS (lv_sub hl [1] rfl)
  · have h := nd_neg h c2
    refine lv_aload_n hx hb dX9_behind_14 rfl (lv_at hl 0 rfl) ?_
    refine va_get (D := (dC, dI)) (ci := 10) (v := .ref (a 1)) (C := RX9) (T := TX9) (N := 20) hx hb hts hi_dm_X9_behind_X9 hown hK hP 0 rfl rfl 6 (by decide) (hts (.fieldLink RX9 16 "TimeMachine$Reader" "code" "[I") (List.mem_of_getElem? (i := 6) rfl)) (fun _ h9 => h9) rfl dX9_behind_15 ?_
    refine lv_iload_n hx hb dX9_behind_18 rfl (lv_at hl 1 rfl) ?_
    obtain ⟨i3, h⟩ := nd_ck_e h
    refine va_iald (i := x2) hx hb hK hP 1 0 rfl rfl i3 dX9_behind_19 ?_
    refine lv_bipush (v := 21) hx hb dX9_behind_20 (by decide) ?_
    refine lv_icmp_eq (tgt := 31) hx hb dX9_behind_22 (by decide) (fun c4 => ?_) (fun c4 => ?_)
    · have h := nd_pos h c4
      exact (db_X9_behind_31 C K) (x2) s0 _ _ _ h hP hD hS (lv_sub hl [1] rfl)
    · have h := nd_neg h c4
      obtain ⟨z5, ez5, h⟩ := nd_let_e h
      refine lv_iinc (v := z5) (lv' := [(2, .int z5), (0, .ref (a 0))]) hx hb dX9_behind_25 hl (k := 1) rfl (by rw [ez5]) (by decide) rfl (fun ls hl => ?_)
      refine lv_goto (tgt := 6) hx hb dX9_behind_28 (by decide) ?_
      exact (J6) (z5) s0 _ _ _ h hP hD hS (lv_sub hl [1, 0] rfl)
set_option maxHeartbeats 40000000 in
set_option maxRecDepth 100000 in
theorem db_X9_behind_6 {p : Program} {l : Launch} {e : Env} {s : State} {m : MethodId} {args : Array Value} {below : List Frame} {meth : Method} {c : Code} {Q : State → Prop} {A : Nat → Prop} {dC : Nat → ClassId} {dI : Nat → Nat → Nat} {a : Nat → Nat} {ac : Nat → ClassId} {n : Nat} {r : Int32 × (St)} (C : nd_C p l s m args c A (dC, dI) cX9_behind 3 RX9 ow_dm_X9_behind (dk_X9 ac)) (K : nd_Ki p l e (headSpec ow_dm_X9_behind ({ frames := 1, cells := 0, slots := 0, locals := 13 })).room s m args below meth c Q A (dC, dI) cX9_behind .int (St) (dw_X9 a ac) r) (k : Nat) : dj_X9_behind_6 p l e s m args below meth c Q A dC dI a ac (df_X9_behind_6 n k) r := by
  induction k with
  | zero => intro x2 s0 H locs ls h; exact nomatch (show (none : Option (Int32 × (St))) = some r from h)
  | succ k ih => exact dB_X9_behind_6 C K ih
set_option maxHeartbeats 40000000 in
set_option maxRecDepth 100000 in
theorem db_X9_behind_0 {p : Program} {l : Launch} {e : Env} {s : State} {m : MethodId} {args : Array Value} {below : List Frame} {meth : Method} {c : Code} {Q : State → Prop} {A : Nat → Prop} {dC : Nat → ClassId} {dI : Nat → Nat → Nat} {a : Nat → Nat} {ac : Nat → ClassId} {n : Nat} {r : Int32 × (St)} (C : nd_C p l s m args c A (dC, dI) cX9_behind 3 RX9 ow_dm_X9_behind (dk_X9 ac)) (K : nd_Ki p l e (headSpec ow_dm_X9_behind ({ frames := 1, cells := 0, slots := 0, locals := 13 })).room s m args below meth c Q A (dC, dI) cX9_behind .int (St) (dw_X9 a ac) r) : dj_X9_behind_0 p l e s m args below meth c Q A dC dI a ac (df_X9_behind_0 n) r := by
  obtain ⟨hlt, hx, hb, hml, hown, hts, hN, hA, hK⟩ := id C
  intro v0 s0 H locs ls h hP hD hS hl
  unfold df_X9_behind_0 at h
  refine lv_iconst (v := 0) hx hb dX9_behind_0 (by decide) ?_
  refine lv_iload_n hx hb dX9_behind_1 rfl (lv_at hl 1 rfl) ?_
  refine va_mmax hx hb (by rw [hml]; exact hl.1.symm) hown (hts (.methodLink RX9 169 Lib.Math.max.name) (List.mem_of_getElem? (i := 1) rfl)) (hts (.static Lib.Math.max.name) (List.mem_of_getElem? (i := 2) rfl)) (hts (.initialized "java/lang/Math") (List.mem_of_getElem? (i := 3) rfl)) (hts (.code Lib.Math.max.name Lib.Math.max.code 2 (some .int)) (List.mem_of_getElem? (i := 4) rfl)) (Nat.le_of_ble_eq_true rfl) (Nat.le_of_ble_eq_true rfl) (by decide +kernel) (by decide +kernel) dX9_behind_2 ?_
  refine lv_topi (fun z1 ez1 => ?_)
  have h := nd_at h ez1
  refine lv_istore_n (lv' := [(2, .int z1), (0, .ref (a 0)), (1, .int v0)]) hx hb dX9_behind_5 rfl hl (by decide) rfl (fun ls hl => ?_)
  exact (db_X9_behind_6 C K n) (z1) s0 _ _ _ h hP hD hS (lv_sub hl [1, 0] rfl)
set_option maxHeartbeats 40000000 in
set_option maxRecDepth 100000 in
theorem dm_X9_behind (l : Launch) (hlt : l.stackTraces = false) (dC : Nat → ClassId) (dI : Nat → Nat → Nat) (a : Nat → Nat) (ac : Nat → ClassId) (n : Nat) (v0 : Int32) (s0 : St) {r : Int32 × (St)} (h : df_X9_behind n v0 s0 = some r) (sz : Nat) : Met l yX9_behind ow_dm_X9_behind ({ frames := 1, cells := 0, slots := 0, locals := 13 }) (va_Pc [.ref (a 0), .int v0] (fun U => U.heap.size = sz ∧ va_P (dC, dI) vwCl (dw_X9 a ac s0) U.heap ∧ va_K (dC, dI) vwCl (dk_X9 ac) U ∧ va_D (fun _ => True) (dw_X9 a ac s0) ∧ nv_E dI (va_A (dw_X9 a ac s0) sz) U)) (va_Qi (fun x _ => x = r.1) (fun (_ : Unit) t => va_P (dC, dI) vwCl (dw_X9 a ac r.2) t.heap ∧ va_K (dC, dI) vwCl (dk_X9 ac) t ∧ va_D (va_A (dw_X9 a ac s0) sz) (dw_X9 a ac r.2)) (va_A (dw_X9 a ac s0) sz)) 0 0 (va_A (dw_X9 a ac s0) sz) := by
  refine Met.ofW (cc := cX9_behind) (maxL := 3) (ret := (some .int)) (by decide) rfl ?_
  intro p e s m args below meth c s₁ B hml hv
  obtain ⟨rfl, hsz, hP, hK, hD0, hN⟩ := hv
  have hx := B.exec
  have hb := B.bytes
  have hr := B.returns
  have hts := atoms_spec (ws := ow_dm_X9_behind) B.pre
  have hown : s.vm.findClass RX9 = some m.cls := findClass_of_methodNamed B.named
  have hlocks := B.notSynchronized
  subst hsz
  have hD := hD0.self (sz := s.heap.size)
  generalize hAe : va_A (dw_X9 a ac s0) s.heap.size = A at hD hN ⊢
  have hA : ∀ q : Nat, s.heap.size ≤ q → A q := fun q h => by rw [← hAe]; exact Or.inr h
  have hl := lv_entry ([.ref (a 0), .int v0]) (n := 3) (Nat.le_of_ble_eq_true rfl)
  rw [lg_entry_eq]
  generalize (lg_sl ([.ref (a 0), .int v0]) ++ List.replicate (3 - (lg_sl ([.ref (a 0), .int v0])).length) Slot.unset).toArray = ls at hl ⊢
  have hl : lv_has ls 3 [(0, .ref (a 0)), (1, .int v0)] := hl
  exact db_X9_behind_0 (dC := dC) (dI := dI) (a := a) (ac := ac) (n := n) (r := r) ⟨hlt, hx, hb, hml, hown, hts, hN, hA, hK⟩ (fun pc v τ H locs ls d z er hP hD hS => by subst er; exact W.zret (v := v) hx hb hr z (fun t ht hW => ⟨⟨v, (), rfl, rfl, by rw [ht]; exact hP, va_K.moved hW.alike hK, hD⟩, hS.F ht⟩) hS.2.2 d) v0 s0 _ _ _ h hP hD va_S.rf (lv_sub hl [0, 1] rfl)
def ow_dm_X1_putList : List Cond := Cond.code yX1_putList cX1_putList 7 none :: ([Cond.fieldLink RX1 19 "TimeMachine$Assembler" "statement" "[I", Cond.fieldLink RX1 32 "TimeMachine$Assembler" "fault" "I", Cond.methodLink RX1 330 yX1_worked, Cond.instanceMethod yX1_worked, Cond.selects RX1 yX1_worked yX1_worked, Cond.initialized RX1, Cond.methodLink RX1 340 yX1_put, Cond.instanceMethod yX1_put, Cond.selects RX1 yX1_put yX1_put, Cond.fieldLink RX1 12 "TimeMachine$Assembler" "reader" "LTimeMachine$Reader;", Cond.methodLink RX1 349 yX9_behind, Cond.instanceMethod yX9_behind, Cond.selects RX9 yX9_behind yX9_behind, Cond.initialized RX9, Cond.methodLink RX1 352 Lib.Math.max.name, Cond.static Lib.Math.max.name, Cond.initialized "java/lang/Math", Cond.code Lib.Math.max.name Lib.Math.max.code 2 (some .int)] ++ (u_ws RX1 TX1 13 ++ (ow_dm_X1_worked ++ (ow_dm_X1_put ++ (ow_dm_X9_behind ++ [])))))
theorem gd_dm_X1_putList : ∀ w ∈ ow_dm_X1_putList, (w.onTables && w.keeps) = true ∨ ∃ ty, w = Cond.arrayClass ty := List.forall_mem_cons.mpr ⟨good_of_word rfl, List.forall_mem_append.mpr ⟨fun w h => good_of_word (List.all_eq_true.mp (by decide +kernel) w h), List.forall_mem_append.mpr ⟨gu_X1, List.forall_mem_append.mpr ⟨gd_dm_X1_worked, List.forall_mem_append.mpr ⟨gd_dm_X1_put, List.forall_mem_append.mpr ⟨gd_dm_X9_behind, fun _ h => nomatch h⟩⟩⟩⟩⟩⟩
theorem hi_dm_X1_putList_X1 : ∀ w ∈ u_ws RX1 TX1 13, w ∈ ow_dm_X1_putList := fun w h => List.mem_cons_of_mem _ (List.mem_append_right _ (List.mem_append_left _ h))
theorem gi_dm_X1_putList_0 : GoodIn ow_dm_X1_putList (wsV RX1 330 RX1 yX1_worked ow_dm_X1_worked) := goodIn_app (goodIn_of _ (by decide +kernel)) (fun w h => ⟨List.mem_cons_of_mem _ (List.mem_append_right _ (List.mem_append_right _ (List.mem_append_left _ h))), gd_dm_X1_worked w h⟩)
theorem gi_dm_X1_putList_1 : GoodIn ow_dm_X1_putList (wsV RX1 340 RX1 yX1_put ow_dm_X1_put) := goodIn_app (goodIn_of _ (by decide +kernel)) (fun w h => ⟨List.mem_cons_of_mem _ (List.mem_append_right _ (List.mem_append_right _ (List.mem_append_right _ (List.mem_append_left _ h)))), gd_dm_X1_put w h⟩)
theorem gi_dm_X1_putList_2 : GoodIn ow_dm_X1_putList (wsV RX1 349 RX9 yX9_behind ow_dm_X9_behind) := goodIn_app (goodIn_of _ (by decide +kernel)) (fun w h => ⟨List.mem_cons_of_mem _ (List.mem_append_right _ (List.mem_append_right _ (List.mem_append_right _ (List.mem_append_right _ (List.mem_append_left _ h))))), gd_dm_X9_behind w h⟩)
def dj_X1_putList_96 (p : Program) (l : Launch) (e : Env) (s : State) (m : MethodId) (args : Array Value) (below : List Frame) (meth : Method) (c : Code) (Q : State → Prop) (A : Nat → Prop) (dC : Nat → ClassId) (dI : Nat → Nat → Nat) (a : Nat → Nat) (ac : Nat → ClassId) (g : (St × (St × (St)) × (St)) → Option (St × (St × (St)) × (St))) (r : St × (St × (St)) × (St)) : Prop := ∀ (s0 : St × (St × (St)) × (St)) (H : Heap) (locs : List Loc) (ls : Array Slot), g s0 = some r → va_P (dC, dI) vwCl (dw_X1p a ac s0) H → va_D A (dw_X1p a ac s0) → va_S A s.heap H locs → lv_has ls 7 [] → W p l e (headSpec ow_dm_X1_putList ({ frames := 4, cells := 0, slots := 0, locals := 87 })).room s m args below meth c H locs 0 0 Q (F0 m 96 ls [])
def dj_X1_putList_33 (p : Program) (l : Launch) (e : Env) (s : State) (m : MethodId) (args : Array Value) (below : List Frame) (meth : Method) (c : Code) (Q : State → Prop) (A : Nat → Prop) (dC : Nat → ClassId) (dI : Nat → Nat → Nat) (a : Nat → Nat) (ac : Nat → ClassId) (g : Int32 → Int32 → Int32 → Int32 → Int32 → (St × (St × (St)) × (St)) → Option (St × (St × (St)) × (St))) (r : St × (St × (St)) × (St)) : Prop := ∀ (x2 : Int32) (x3 : Int32) (x4 : Int32) (x5 : Int32) (x6 : Int32) (s0 : St × (St × (St)) × (St)) (H : Heap) (locs : List Loc) (ls : Array Slot), g x2 x3 x4 x5 x6 s0 = some r → va_P (dC, dI) vwCl (dw_X1p a ac s0) H → va_D A (dw_X1p a ac s0) → va_S A s.heap H locs → lv_has ls 7 [(0, .ref (a 5)), (1, .ref (a 0)), (2, .int x2), (3, .int x3), (4, .int x4), (5, .int x5), (6, .int x6)] → W p l e (headSpec ow_dm_X1_putList ({ frames := 4, cells := 0, slots := 0, locals := 87 })).room s m args below meth c H locs 0 0 Q (F0 m 33 ls [])
def dj_X1_putList_0 (p : Program) (l : Launch) (e : Env) (s : State) (m : MethodId) (args : Array Value) (below : List Frame) (meth : Method) (c : Code) (Q : State → Prop) (A : Nat → Prop) (dC : Nat → ClassId) (dI : Nat → Nat → Nat) (a : Nat → Nat) (ac : Nat → ClassId) (g : Int32 → (St × (St × (St)) × (St)) → Option (St × (St × (St)) × (St))) (r : St × (St × (St)) × (St)) : Prop := ∀ (v1 : Int32) (s0 : St × (St × (St)) × (St)) (H : Heap) (locs : List Loc) (ls : Array Slot), g v1 s0 = some r → va_P (dC, dI) vwCl (dw_X1p a ac s0) H → va_D A (dw_X1p a ac s0) → va_S A s.heap H locs → lv_has ls 7 [(0, .ref (a 5)), (1, .ref (a 0)), (2, .int v1)] → W p l e (headSpec ow_dm_X1_putList ({ frames := 4, cells := 0, slots := 0, locals := 87 })).room s m args below meth c H locs 0 0 Q (F0 m 0 ls [])
set_option maxHeartbeats 40000000 in
set_option maxRecDepth 100000 in
theorem db_X1_putList_96 {p : Program} {l : Launch} {e : Env} {s : State} {m : MethodId} {args : Array Value} {below : List Frame} {meth : Method} {c : Code} {Q : State → Prop} {A : Nat → Prop} {dC : Nat → ClassId} {dI : Nat → Nat → Nat} {a : Nat → Nat} {ac : Nat → ClassId} {n : Nat} {r : St × (St × (St)) × (St)} (C : nd_C p l s m args c A (dC, dI) cX1_putList 7 RX1 ow_dm_X1_putList (dk_X1p ac)) (K : nd_Kv p l e (headSpec ow_dm_X1_putList ({ frames := 4, cells := 0, slots := 0, locals := 87 })).room s m args below meth c Q A (dC, dI) cX1_putList (St × (St × (St)) × (St)) (dw_X1p a ac) r) : dj_X1_putList_96 p l e s m args below meth c Q A dC dI a ac (df_X1_putList_96 n) r := by
  obtain ⟨hlt, hx, hb, hml, hown, hts, hN, hA, hK⟩ := id C
  intro s0 H locs ls h hP hD hS hl
  unfold df_X1_putList_96 at h
  exact K _ _ _ _ _ dX1_putList_96 (Option.some.inj h).symm hP hD hS
set_option maxHeartbeats 40000000 in
set_option maxRecDepth 100000 in
theorem dB_X1_putList_33 {p : Program} {l : Launch} {e : Env} {s : State} {m : MethodId} {args : Array Value} {below : List Frame} {meth : Method} {c : Code} {Q : State → Prop} {A : Nat → Prop} {dC : Nat → ClassId} {dI : Nat → Nat → Nat} {a : Nat → Nat} {ac : Nat → ClassId} {n : Nat} {r : St × (St × (St)) × (St)} (C : nd_C p l s m args c A (dC, dI) cX1_putList 7 RX1 ow_dm_X1_putList (dk_X1p ac)) (K : nd_Kv p l e (headSpec ow_dm_X1_putList ({ frames := 4, cells := 0, slots := 0, locals := 87 })).room s m args below meth c Q A (dC, dI) cX1_putList (St × (St × (St)) × (St)) (dw_X1p a ac) r) {g33 : Int32 → Int32 → Int32 → Int32 → Int32 → (St × (St × (St)) × (St)) → Option (St × (St × (St)) × (St))} (J33 : dj_X1_putList_33 p l e s m args below meth c Q A dC dI a ac g33 r) : dj_X1_putList_33 p l e s m args below meth c Q A dC dI a ac (dF_X1_putList_33 n g33) r := by
  obtain ⟨hlt, hx, hb, hml, hown, hts, hN, hA, hK⟩ := id C
  intro x2 x3 x4 x5 x6 s0 H locs ls h hP hD hS hl
  unfold dF_X1_putList_33 at h
  refine lv_iload hx hb dX1_putList_33 (lv_at hl 6 rfl) ?_
  refine lv_aload_n hx hb dX1_putList_35 rfl (lv_at hl 0 rfl) ?_
  refine va_get (D := (dC, dI)) (ci := 2) (v := .ref (a 6)) (C := RX1) (T := TX1) (N := 13) hx hb hts hi_dm_X1_putList_X1 hown hK hP 0 rfl rfl 1 (by decide) (hts (.fieldLink RX1 19 "TimeMachine$Assembler" "statement" "[I") (List.mem_of_getElem? (i := 1) rfl)) (fun _ h9 => h9) rfl dX1_putList_36 ?_
  refine lv_iload_n hx hb dX1_putList_39 rfl (lv_at hl 2 rfl) ?_
  refine lv_iconst (v := 3) hx hb dX1_putList_40 (by decide) ?_
  refine lv_iadd hx hb dX1_putList_41 ?_
  obtain ⟨i7, h⟩ := nd_ck_e h
  refine va_iald (i := (x2 + 3)) hx hb hK hP 1 0 rfl rfl i7 dX1_putList_42 ?_
  refine lv_icmp_ge (tgt := 96) hx hb dX1_putList_43 (by decide) (fun c8 => ?_) (fun c8 => ?_)
  · have h := nd_pos h c8
    exact (db_X1_putList_96 C K)  s0 _ _ _ h hP hD hS (lv_sub hl [] rfl)
  · have h := nd_neg h c8
    refine lv_aload_n hx hb dX1_putList_46 rfl (lv_at hl 0 rfl) ?_
    refine va_get (D := (dC, dI)) (ci := 2) (v := .int (sI s0.2.1.1 2)) (C := RX1) (T := TX1) (N := 13) hx hb hts hi_dm_X1_putList_X1 hown hK hP 0 rfl rfl 5 (by decide) (hts (.fieldLink RX1 32 "TimeMachine$Assembler" "fault" "I") (List.mem_of_getElem? (i := 2) rfl)) (fun _ h9 => h9) rfl dX1_putList_47 ?_
    refine lv_if_ne (tgt := 96) hx hb dX1_putList_50 (by decide) (fun c9 => ?_) (fun c9 => ?_)
    · have h := nd_neg h c9
      exact (db_X1_putList_96 C K)  s0 _ _ _ h hP hD hS (lv_sub hl [] rfl)
    · have h := nd_pos h c9
      refine lv_aload_n hx hb dX1_putList_53 rfl (lv_at hl 0 rfl) ?_
      refine lv_aload_n hx hb dX1_putList_54 rfl (lv_at hl 1 rfl) ?_
      refine lv_iload hx hb dX1_putList_55 (lv_at hl 5 rfl) ?_
      refine lv_iload hx hb dX1_putList_57 (lv_at hl 6 rfl) ?_
      refine lv_iadd hx hb dX1_putList_59 ?_
      refine lv_iload_n hx hb dX1_putList_60 rfl (lv_at hl 3 rfl) ?_
      refine lv_aload_n hx hb dX1_putList_61 rfl (lv_at hl 0 rfl) ?_
      refine lv_iload hx hb dX1_putList_62 (lv_at hl 4 rfl) ?_
      refine lv_iload hx hb dX1_putList_64 (lv_at hl 5 rfl) ?_
      obtain ⟨q10, s11, hq, h⟩ := nd_b2_e h
      have hPc := dp_X1p_5 hP
      have hDc := dd_X1p_5 hD
      have hKc := dy_X1p_5 hK
      have hFc := nd_rs hDc hS hA
      have hzA : ∀ q : Nat, H.size ≤ q → A q := fun q h => hA q (Nat.le_trans hS.1 h)
      refine nd_cVi (As := [.int x4, .int x5]) (rest := [.int x3, .int (x5 + x6), .ref (a 0), .ref (a 5)]) (q := q10) (w' := dw_X1 (fun k => a (k + 5)) (fun k => ac (k + 5)) s11) ⟨hx, hb, hml, hown, hts⟩ (fun sz => dm_X1_worked l hlt dC dI (fun k => a (k + 5)) (fun k => ac (k + 5)) n (x4) (x5) s0.2.1 hq sz) (cwV 2 hts gi_dm_X1_putList_0 rfl rfl rfl (by decide +kernel) ⟨Nat.le_of_ble_eq_true rfl, Nat.le_of_ble_eq_true rfl⟩) hPc hDc hKc hS hA hN (va_recv hKc hPc (ci := 2) (q0 := 0) rfl rfl) rfl hl.1 rfl (Nat.le_of_ble_eq_true rfl) dX1_putList_66 (fun H locs hP1 hD1 hk1 hS => ?_)
      obtain ⟨hP, hD⟩ := dn_X1p_5 hP hD hzA hk1 hP1 hD1
      obtain ⟨s13, es13, h⟩ := nd_let_e h
      have hP : va_P (dC, dI) vwCl (dw_X1p a ac s13) H := by rw [es13]; exact hP
      have hD : va_D A (dw_X1p a ac s13) := by rw [es13]; exact hD
      obtain ⟨s15, hq, h⟩ := nd_b1_e h
      have hPc := hP
      have hDc := hD
      have hKc := hK
      have hFc := nd_rs hD hS hA
      refine nd_cVv (As := [.ref (a 0), .int (x5 + x6), .int x3, .int q10]) (rest := []) (w' := dw_X1p a ac s15) ⟨hx, hb, hml, hown, hts⟩ (fun sz => dm_X1_put l hlt dC dI a ac n ((x5 + x6)) (x3) (q10) s13 hq sz) (cwV 4 hts gi_dm_X1_putList_1 rfl rfl rfl (by decide +kernel) ⟨Nat.le_of_ble_eq_true rfl, Nat.le_of_ble_eq_true rfl⟩) hPc hDc hKc hS hA hN (va_recv hKc hPc (ci := 2) (q0 := 0) rfl rfl) rfl hl.1 rfl (Nat.le_of_ble_eq_true rfl) dX1_putList_69 (fun H locs hP1 hD1 hk1 hS => ?_)
      have hP := hP1
      have hD := hD1.weaken (fun k q _ h => hFc q.1 h)
      refine lv_aload_n hx hb dX1_putList_72 rfl (lv_at hl 0 rfl) ?_
      refine va_get (D := (dC, dI)) (ci := 2) (v := .ref (a 8)) (C := RX1) (T := TX1) (N := 13) hx hb hts hi_dm_X1_putList_X1 hown hK hP 0 rfl rfl 0 (by decide) (hts (.fieldLink RX1 12 "TimeMachine$Assembler" "reader" "LTimeMachine$Reader;") (List.mem_of_getElem? (i := 10) rfl)) (fun _ h9 => h9) rfl dX1_putList_73 ?_
      refine lv_iload hx hb dX1_putList_76 (lv_at hl 4 rfl) ?_
      obtain ⟨q17, s18, hq, h⟩ := nd_b2_e h
      have hPc := dp_X1p_8 hP
      have hDc := dd_X1p_8 hD
      have hKc := dy_X1p_8 hK
      have hFc := nd_rs hDc hS hA
      have hzA : ∀ q : Nat, H.size ≤ q → A q := fun q h => hA q (Nat.le_trans hS.1 h)
      refine nd_cVi (As := [.int x4]) (rest := []) (q := q17) (w' := dw_X9 (fun k => a (k + 8)) (fun k => ac (k + 8)) s18) ⟨hx, hb, hml, hown, hts⟩ (fun sz => dm_X9_behind l hlt dC dI (fun k => a (k + 8)) (fun k => ac (k + 8)) n (x4) s15.2.1.2 hq sz) (cwV 1 hts gi_dm_X1_putList_2 rfl rfl rfl (by decide +kernel) ⟨Nat.le_of_ble_eq_true rfl, Nat.le_of_ble_eq_true rfl⟩) hPc hDc hKc hS hA hN (va_recv hKc hPc (ci := 10) (q0 := 0) rfl rfl) rfl hl.1 rfl (Nat.le_of_ble_eq_true rfl) dX1_putList_78 (fun H locs hP1 hD1 hk1 hS => ?_)
      obtain ⟨hP, hD⟩ := dn_X1p_8 hP hD hzA hk1 hP1 hD1
      obtain ⟨s20, es20, h⟩ := nd_let_e h
      have hP : va_P (dC, dI) vwCl (dw_X1p a ac s20) H := by rw [es20]; exact hP
      have hD : va_D A (dw_X1p a ac s20) := by rw [es20]; exact hD
      refine lv_istore (lv' := [(4, .int q17), (0, .ref (a 5)), (1, .ref (a 0)), (2, .int x2), (3, .int x3), (5, .int x5), (6, .int x6)]) hx hb dX1_putList_81 hl (by decide) rfl (fun ls hl => ?_)
      refine lv_iload hx hb dX1_putList_83 (lv_at hl 6 rfl) ?_
      refine lv_iconst (v := 1) hx hb dX1_putList_85 (by decide) ?_
      refine lv_iload_n hx hb dX1_putList_86 rfl (lv_at hl 4 rfl) ?_
      refine va_mmax hx hb (by rw [hml]; exact hl.1.symm) hown (hts (.methodLink RX1 352 Lib.Math.max.name) (List.mem_of_getElem? (i := 15) rfl)) (hts (.static Lib.Math.max.name) (List.mem_of_getElem? (i := 16) rfl)) (hts (.initialized "java/lang/Math") (List.mem_of_getElem? (i := 17) rfl)) (hts (.code Lib.Math.max.name Lib.Math.max.code 2 (some .int)) (List.mem_of_getElem? (i := 18) rfl)) (Nat.le_of_ble_eq_true rfl) (Nat.le_of_ble_eq_true rfl) (by decide +kernel) (by decide +kernel) dX1_putList_87 ?_
      refine lv_iadd hx hb dX1_putList_90 ?_
      refine lv_topi (fun z21 ez21 => ?_)
      have h := nd_at h ez21
      refine lv_istore (lv' := [(6, .int z21), (4, .int q17), (0, .ref (a 5)), (1, .ref (a 0)), (2, .int x2), (3, .int x3), (5, .int x5)]) hx hb dX1_putList_91 hl (by decide) rfl (fun ls hl => ?_)
      refine lv_goto (tgt := 33) hx hb dX1_putList_93 (by decide) ?_
      exact (J33) (x2) (x3) (q17) (x5) (z21) s20 _ _ _ h hP hD hS (lv_sub hl [2, 3, 4, 5, 1, 6, 0] rfl)
set_option maxHeartbeats 40000000 in
set_option maxRecDepth 100000 in
theorem db_X1_putList_33 {p : Program} {l : Launch} {e : Env} {s : State} {m : MethodId} {args : Array Value} {below : List Frame} {meth : Method} {c : Code} {Q : State → Prop} {A : Nat → Prop} {dC : Nat → ClassId} {dI : Nat → Nat → Nat} {a : Nat → Nat} {ac : Nat → ClassId} {n : Nat} {r : St × (St × (St)) × (St)} (C : nd_C p l s m args c A (dC, dI) cX1_putList 7 RX1 ow_dm_X1_putList (dk_X1p ac)) (K : nd_Kv p l e (headSpec ow_dm_X1_putList ({ frames := 4, cells := 0, slots := 0, locals := 87 })).room s m args below meth c Q A (dC, dI) cX1_putList (St × (St × (St)) × (St)) (dw_X1p a ac) r) (k : Nat) : dj_X1_putList_33 p l e s m args below meth c Q A dC dI a ac (df_X1_putList_33 n k) r := by
  induction k with
  | zero => intro x2 x3 x4 x5 x6 s0 H locs ls h; exact nomatch (show (none : Option (St × (St × (St)) × (St))) = some r from h)
  | succ k ih => exact dB_X1_putList_33 C K ih
set_option maxHeartbeats 40000000 in
set_option maxRecDepth 100000 in
theorem db_X1_putList_0 {p : Program} {l : Launch} {e : Env} {s : State} {m : MethodId} {args : Array Value} {below : List Frame} {meth : Method} {c : Code} {Q : State → Prop} {A : Nat → Prop} {dC : Nat → ClassId} {dI : Nat → Nat → Nat} {a : Nat → Nat} {ac : Nat → ClassId} {n : Nat} {r : St × (St × (St)) × (St)} (C : nd_C p l s m args c A (dC, dI) cX1_putList 7 RX1 ow_dm_X1_putList (dk_X1p ac)) (K : nd_Kv p l e (headSpec ow_dm_X1_putList ({ frames := 4, cells := 0, slots := 0, locals := 87 })).room s m args below meth c Q A (dC, dI) cX1_putList (St × (St × (St)) × (St)) (dw_X1p a ac) r) : dj_X1_putList_0 p l e s m args below meth c Q A dC dI a ac (df_X1_putList_0 n) r := by
  obtain ⟨hlt, hx, hb, hml, hown, hts, hN, hA, hK⟩ := id C
  intro v1 s0 H locs ls h hP hD hS hl
  unfold df_X1_putList_0 at h
  refine lv_aload_n hx hb dX1_putList_0 rfl (lv_at hl 0 rfl) ?_
  refine va_get (D := (dC, dI)) (ci := 2) (v := .ref (a 6)) (C := RX1) (T := TX1) (N := 13) hx hb hts hi_dm_X1_putList_X1 hown hK hP 0 rfl rfl 1 (by decide) (hts (.fieldLink RX1 19 "TimeMachine$Assembler" "statement" "[I") (List.mem_of_getElem? (i := 1) rfl)) (fun _ h9 => h9) rfl dX1_putList_1 ?_
  refine lv_iload_n hx hb dX1_putList_4 rfl (lv_at hl 2 rfl) ?_
  refine lv_iconst (v := 5) hx hb dX1_putList_5 (by decide) ?_
  refine lv_iadd hx hb dX1_putList_6 ?_
  obtain ⟨i1, h⟩ := nd_ck_e h
  refine va_iald (i := (v1 + 5)) hx hb hK hP 1 0 rfl rfl i1 dX1_putList_7 ?_
  refine lv_topi (fun z2 ez2 => ?_)
  have h := nd_at h ez2
  refine lv_istore_n (lv' := [(3, .int z2), (0, .ref (a 5)), (1, .ref (a 0)), (2, .int v1)]) hx hb dX1_putList_8 rfl hl (by decide) rfl (fun ls hl => ?_)
  refine lv_aload_n hx hb dX1_putList_9 rfl (lv_at hl 1 rfl) ?_
  refine va_get (D := (dC, dI)) (ci := 2) (v := .ref (a 6)) (C := RX1) (T := TX1) (N := 13) hx hb hts hi_dm_X1_putList_X1 hown hK hP 0 rfl rfl 1 (by decide) (hts (.fieldLink RX1 19 "TimeMachine$Assembler" "statement" "[I") (List.mem_of_getElem? (i := 1) rfl)) (fun _ h9 => h9) rfl dX1_putList_10 ?_
  refine lv_iload_n hx hb dX1_putList_13 rfl (lv_at hl 3 rfl) ?_
  refine lv_bipush (v := 6) hx hb dX1_putList_14 (by decide) ?_
  refine lv_iadd hx hb dX1_putList_16 ?_
  obtain ⟨i3, h⟩ := nd_ck_e h
  refine va_iald (i := (v1 + 6)) hx hb hK hP 1 0 rfl rfl i3 dX1_putList_17 ?_
  refine lv_topi (fun z4 ez4 => ?_)
  have h := nd_at h ez4
  refine lv_istore (lv' := [(4, .int z4), (3, .int z2), (0, .ref (a 5)), (1, .ref (a 0)), (2, .int v1)]) hx hb dX1_putList_18 hl (by decide) rfl (fun ls hl => ?_)
  refine lv_aload_n hx hb dX1_putList_20 rfl (lv_at hl 2 rfl) ?_
  refine va_get (D := (dC, dI)) (ci := 2) (v := .ref (a 6)) (C := RX1) (T := TX1) (N := 13) hx hb hts hi_dm_X1_putList_X1 hown hK hP 0 rfl rfl 1 (by decide) (hts (.fieldLink RX1 19 "TimeMachine$Assembler" "statement" "[I") (List.mem_of_getElem? (i := 1) rfl)) (fun _ h9 => h9) rfl dX1_putList_21 ?_
  refine lv_iload_n hx hb dX1_putList_24 rfl (lv_at hl 4 rfl) ?_
  refine lv_iconst (v := 2) hx hb dX1_putList_25 (by decide) ?_
  refine lv_iadd hx hb dX1_putList_26 ?_
  obtain ⟨i5, h⟩ := nd_ck_e h
  refine va_iald (i := (v1 + 2)) hx hb hK hP 1 0 rfl rfl i5 dX1_putList_27 ?_
  refine lv_topi (fun z6 ez6 => ?_)
  have h := nd_at h ez6
  refine lv_istore (lv' := [(5, .int z6), (4, .int z4), (3, .int z2), (0, .ref (a 5)), (1, .ref (a 0)), (2, .int v1)]) hx hb dX1_putList_28 hl (by decide) rfl (fun ls hl => ?_)
  refine lv_iconst (v := 0) hx hb dX1_putList_30 (by decide) ?_
  refine lv_istore (lv' := [(6, .int 0), (5, .int z6), (4, .int z4), (3, .int z2), (0, .ref (a 5)), (1, .ref (a 0)), (2, .int v1)]) hx hb dX1_putList_31 hl (by decide) rfl (fun ls hl => ?_)
  exact (db_X1_putList_33 C K n) (v1) (z2) (z4) (z6) (0) s0 _ _ _ h hP hD hS (lv_sub hl [4, 5, 6, 3, 2, 1, 0] rfl)
set_option maxHeartbeats 40000000 in
set_option maxRecDepth 100000 in
theorem dm_X1_putList (l : Launch) (hlt : l.stackTraces = false) (dC : Nat → ClassId) (dI : Nat → Nat → Nat) (a : Nat → Nat) (ac : Nat → ClassId) (n : Nat) (v1 : Int32) (s0 : St × (St × (St)) × (St)) {r : St × (St × (St)) × (St)} (h : df_X1_putList n v1 s0 = some r) (sz : Nat) : Met l yX1_putList ow_dm_X1_putList ({ frames := 4, cells := 0, slots := 0, locals := 87 }) (va_Pc [.ref (a 5), .ref (a 0), .int v1] (fun U => U.heap.size = sz ∧ va_P (dC, dI) vwCl (dw_X1p a ac s0) U.heap ∧ va_K (dC, dI) vwCl (dk_X1p ac) U ∧ va_D (fun _ => True) (dw_X1p a ac s0) ∧ nv_E dI (va_A (dw_X1p a ac s0) sz) U)) (va_Qv (fun _ => True) (fun (_ : Unit) t => va_P (dC, dI) vwCl (dw_X1p a ac r) t.heap ∧ va_K (dC, dI) vwCl (dk_X1p ac) t ∧ va_D (va_A (dw_X1p a ac s0) sz) (dw_X1p a ac r)) (va_A (dw_X1p a ac s0) sz)) 0 0 (va_A (dw_X1p a ac s0) sz) := by
  refine Met.ofW (cc := cX1_putList) (maxL := 7) (ret := none) (by decide) rfl ?_
  intro p e s m args below meth c s₁ B hml hv
  obtain ⟨rfl, hsz, hP, hK, hD0, hN⟩ := hv
  have hx := B.exec
  have hb := B.bytes
  have hr := B.returns
  have hts := atoms_spec (ws := ow_dm_X1_putList) B.pre
  have hown : s.vm.findClass RX1 = some m.cls := findClass_of_methodNamed B.named
  have hlocks := B.notSynchronized
  subst hsz
  have hD := hD0.self (sz := s.heap.size)
  generalize hAe : va_A (dw_X1p a ac s0) s.heap.size = A at hD hN ⊢
  have hA : ∀ q : Nat, s.heap.size ≤ q → A q := fun q h => by rw [← hAe]; exact Or.inr h
  have hl := lv_entry ([.ref (a 5), .ref (a 0), .int v1]) (n := 7) (Nat.le_of_ble_eq_true rfl)
  rw [lg_entry_eq]
  generalize (lg_sl ([.ref (a 5), .ref (a 0), .int v1]) ++ List.replicate (7 - (lg_sl ([.ref (a 5), .ref (a 0), .int v1])).length) Slot.unset).toArray = ls at hl ⊢
  have hl : lv_has ls 7 [(0, .ref (a 5)), (1, .ref (a 0)), (2, .int v1)] := hl
  exact db_X1_putList_0 (dC := dC) (dI := dI) (a := a) (ac := ac) (n := n) (r := r) ⟨hlt, hx, hb, hml, hown, hts, hN, hA, hK⟩ (fun pc τ H locs ls d er hP hD hS => by subst er; exact W.vret hx hb hr (fun t ht hW => ⟨⟨(), rfl, trivial, by rw [ht]; exact hP, va_K.moved hW.alike hK, hD⟩, hS.F ht⟩) hS.2.2 d) v1 s0 _ _ _ h hP hD va_S.rf (lv_sub hl [0, 1, 2] rfl)
def ow_dm_X1_putTexts : List Cond := Cond.code yX1_putTexts cX1_putTexts 5 none :: ([Cond.fieldLink RX1 19 "TimeMachine$Assembler" "statement" "[I", Cond.fieldLink RX1 24 "TimeMachine$Assembler" "letters" "[B", Cond.methodLink RX1 340 yX1_put, Cond.instanceMethod yX1_put, Cond.selects RX1 yX1_put yX1_put, Cond.initialized RX1] ++ (u_ws RX1 TX1 13 ++ (ow_dm_X1_put ++ [])))
theorem gd_dm_X1_putTexts : ∀ w ∈ ow_dm_X1_putTexts, (w.onTables && w.keeps) = true ∨ ∃ ty, w = Cond.arrayClass ty := List.forall_mem_cons.mpr ⟨good_of_word rfl, List.forall_mem_append.mpr ⟨fun w h => good_of_word (List.all_eq_true.mp (by decide +kernel) w h), List.forall_mem_append.mpr ⟨gu_X1, List.forall_mem_append.mpr ⟨gd_dm_X1_put, fun _ h => nomatch h⟩⟩⟩⟩
theorem hi_dm_X1_putTexts_X1 : ∀ w ∈ u_ws RX1 TX1 13, w ∈ ow_dm_X1_putTexts := fun w h => List.mem_cons_of_mem _ (List.mem_append_right _ (List.mem_append_left _ h))
theorem gi_dm_X1_putTexts_0 : GoodIn ow_dm_X1_putTexts (wsV RX1 340 RX1 yX1_put ow_dm_X1_put) := goodIn_app (goodIn_of _ (by decide +kernel)) (fun w h => ⟨List.mem_cons_of_mem _ (List.mem_append_right _ (List.mem_append_right _ (List.mem_append_left _ h))), gd_dm_X1_put w h⟩)
def dj_X1_putTexts_65 (p : Program) (l : Launch) (e : Env) (s : State) (m : MethodId) (args : Array Value) (below : List Frame) (meth : Method) (c : Code) (Q : State → Prop) (A : Nat → Prop) (dC : Nat → ClassId) (dI : Nat → Nat → Nat) (a : Nat → Nat) (ac : Nat → ClassId) (g : Int32 → Int32 → (St × (St × (St)) × (St)) → Option (St × (St × (St)) × (St))) (r : St × (St × (St)) × (St)) : Prop := ∀ (x2 : Int32) (x3 : Int32) (s0 : St × (St × (St)) × (St)) (H : Heap) (locs : List Loc) (ls : Array Slot), g x2 x3 s0 = some r → va_P (dC, dI) vwCl (dw_X1p a ac s0) H → va_D A (dw_X1p a ac s0) → va_S A s.heap H locs → lv_has ls 5 [(0, .ref (a 5)), (1, .ref (a 0)), (2, .int x2), (3, .int x3)] → W p l e (headSpec ow_dm_X1_putTexts ({ frames := 1, cells := 0, slots := 0, locals := 25 })).room s m args below meth c H locs 0 0 Q (F0 m 65 ls [])
def dj_X1_putTexts_2 (p : Program) (l : Launch) (e : Env) (s : State) (m : MethodId) (args : Array Value) (below : List Frame) (meth : Method) (c : Code) (Q : State → Prop) (A : Nat → Prop) (dC : Nat → ClassId) (dI : Nat → Nat → Nat) (a : Nat → Nat) (ac : Nat → ClassId) (g : Int32 → Int32 → (St × (St × (St)) × (St)) → Option (St × (St × (St)) × (St))) (r : St × (St × (St)) × (St)) : Prop := ∀ (x2 : Int32) (x3 : Int32) (s0 : St × (St × (St)) × (St)) (H : Heap) (locs : List Loc) (ls : Array Slot), g x2 x3 s0 = some r → va_P (dC, dI) vwCl (dw_X1p a ac s0) H → va_D A (dw_X1p a ac s0) → va_S A s.heap H locs → lv_has ls 5 [(0, .ref (a 5)), (1, .ref (a 0)), (2, .int x2), (3, .int x3)] → W p l e (headSpec ow_dm_X1_putTexts ({ frames := 1, cells := 0, slots := 0, locals := 25 })).room s m args below meth c H locs 0 0 Q (F0 m 2 ls [])
def dj_X1_putTexts_0 (p : Program) (l : Launch) (e : Env) (s : State) (m : MethodId) (args : Array Value) (below : List Frame) (meth : Method) (c : Code) (Q : State → Prop) (A : Nat → Prop) (dC : Nat → ClassId) (dI : Nat → Nat → Nat) (a : Nat → Nat) (ac : Nat → ClassId) (g : Int32 → (St × (St × (St)) × (St)) → Option (St × (St × (St)) × (St))) (r : St × (St × (St)) × (St)) : Prop := ∀ (v1 : Int32) (s0 : St × (St × (St)) × (St)) (H : Heap) (locs : List Loc) (ls : Array Slot), g v1 s0 = some r → va_P (dC, dI) vwCl (dw_X1p a ac s0) H → va_D A (dw_X1p a ac s0) → va_S A s.heap H locs → lv_has ls 5 [(0, .ref (a 5)), (1, .ref (a 0)), (2, .int v1)] → W p l e (headSpec ow_dm_X1_putTexts ({ frames := 1, cells := 0, slots := 0, locals := 25 })).room s m args below meth c H locs 0 0 Q (F0 m 0 ls [])
set_option maxHeartbeats 40000000 in
set_option maxRecDepth 100000 in
theorem db_X1_putTexts_65 {p : Program} {l : Launch} {e : Env} {s : State} {m : MethodId} {args : Array Value} {below : List Frame} {meth : Method} {c : Code} {Q : State → Prop} {A : Nat → Prop} {dC : Nat → ClassId} {dI : Nat → Nat → Nat} {a : Nat → Nat} {ac : Nat → ClassId} {n : Nat} {r : St × (St × (St)) × (St)} (C : nd_C p l s m args c A (dC, dI) cX1_putTexts 5 RX1 ow_dm_X1_putTexts (dk_X1p ac)) (K : nd_Kv p l e (headSpec ow_dm_X1_putTexts ({ frames := 1, cells := 0, slots := 0, locals := 25 })).room s m args below meth c Q A (dC, dI) cX1_putTexts (St × (St × (St)) × (St)) (dw_X1p a ac) r) {g2 : Int32 → Int32 → (St × (St × (St)) × (St)) → Option (St × (St × (St)) × (St))} (J2 : dj_X1_putTexts_2 p l e s m args below meth c Q A dC dI a ac g2 r) : dj_X1_putTexts_65 p l e s m args below meth c Q A dC dI a ac (df_X1_putTexts_65 n g2) r := by
  obtain ⟨hlt, hx, hb, hml, hown, hts, hN, hA, hK⟩ := id C
  intro x2 x3 s0 H locs ls h hP hD hS hl
  unfold df_X1_putTexts_65 at h
  obtain ⟨z6, ez6, h⟩ := nd_let_e h
  refine lv_iinc (v := z6) (lv' := [(3, .int z6), (0, .ref (a 5)), (1, .ref (a 0)), (2, .int x2)]) hx hb dX1_putTexts_65 hl (k := 3) rfl (by rw [ez6]) (by decide) rfl (fun ls hl => ?_)
  refine lv_goto (tgt := 2) hx hb dX1_putTexts_68 (by decide) ?_
  exact (J2) (x2) (z6) s0 _ _ _ h hP hD hS (lv_sub hl [1, 2, 3, 0] rfl)
set_option maxHeartbeats 40000000 in
set_option maxRecDepth 100000 in
theorem dB_X1_putTexts_2 {p : Program} {l : Launch} {e : Env} {s : State} {m : MethodId} {args : Array Value} {below : List Frame} {meth : Method} {c : Code} {Q : State → Prop} {A : Nat → Prop} {dC : Nat → ClassId} {dI : Nat → Nat → Nat} {a : Nat → Nat} {ac : Nat → ClassId} {n : Nat} {r : St × (St × (St)) × (St)} (C : nd_C p l s m args c A (dC, dI) cX1_putTexts 5 RX1 ow_dm_X1_putTexts (dk_X1p ac)) (K : nd_Kv p l e (headSpec ow_dm_X1_putTexts ({ frames := 1, cells := 0, slots := 0, locals := 25 })).room s m args below meth c Q A (dC, dI) cX1_putTexts (St × (St × (St)) × (St)) (dw_X1p a ac) r) {g2 : Int32 → Int32 → (St × (St × (St)) × (St)) → Option (St × (St × (St)) × (St))} (J2 : dj_X1_putTexts_2 p l e s m args below meth c Q A dC dI a ac g2 r) : dj_X1_putTexts_2 p l e s m args below meth c Q A dC dI a ac (dF_X1_putTexts_2 n g2) r := by
  obtain ⟨hlt, hx, hb, hml, hown, hts, hN, hA, hK⟩ := id C
  intro x2 x3 s0 H locs ls h hP hD hS hl
  unfold dF_X1_putTexts_2 at h
  refine lv_iload_n hx hb dX1_putTexts_2 rfl (lv_at hl 3 rfl) ?_
  refine lv_aload_n hx hb dX1_putTexts_3 rfl (lv_at hl 0 rfl) ?_
  refine va_get (D := (dC, dI)) (ci := 2) (v := .ref (a 6)) (C := RX1) (T := TX1) (N := 13) hx hb hts hi_dm_X1_putTexts_X1 hown hK hP 0 rfl rfl 1 (by decide) (hts (.fieldLink RX1 19 "TimeMachine$Assembler" "statement" "[I") (List.mem_of_getElem? (i := 1) rfl)) (fun _ h9 => h9) rfl dX1_putTexts_4 ?_
  refine lv_iload_n hx hb dX1_putTexts_7 rfl (lv_at hl 2 rfl) ?_
  refine lv_iconst (v := 3) hx hb dX1_putTexts_8 (by decide) ?_
  refine lv_iadd hx hb dX1_putTexts_9 ?_
  obtain ⟨i1, h⟩ := nd_ck_e h
  refine va_iald (i := (x2 + 3)) hx hb hK hP 1 0 rfl rfl i1 dX1_putTexts_10 ?_
  refine lv_icmp_ge (tgt := 71) hx hb dX1_putTexts_11 (by decide) (fun c2 => ?_) (fun c2 => ?_)
  · have h := nd_pos h c2
    exact K _ _ _ _ _ dX1_putTexts_71 (Option.some.inj h).symm hP hD hS
  · have h := nd_neg h c2
    refine lv_aload_n hx hb dX1_putTexts_14 rfl (lv_at hl 0 rfl) ?_
    refine va_get (D := (dC, dI)) (ci := 2) (v := .ref (a 6)) (C := RX1) (T := TX1) (N := 13) hx hb hts hi_dm_X1_putTexts_X1 hown hK hP 0 rfl rfl 1 (by decide) (hts (.fieldLink RX1 19 "TimeMachine$Assembler" "statement" "[I") (List.mem_of_getElem? (i := 1) rfl)) (fun _ h9 => h9) rfl dX1_putTexts_15 ?_
    refine lv_iload_n hx hb dX1_putTexts_18 rfl (lv_at hl 2 rfl) ?_
    refine lv_bipush (v := 6) hx hb dX1_putTexts_19 (by decide) ?_
    refine lv_iadd hx hb dX1_putTexts_21 ?_
    obtain ⟨i3, h⟩ := nd_ck_e h
    refine va_iald (i := (x2 + 6)) hx hb hK hP 1 0 rfl rfl i3 dX1_putTexts_22 ?_
    refine lv_iload_n hx hb dX1_putTexts_23 rfl (lv_at hl 3 rfl) ?_
    refine lv_iadd hx hb dX1_putTexts_24 ?_
    refine lv_topi (fun z4 ez4 => ?_)
    have h := nd_at h ez4
    refine lv_istore (lv' := [(4, .int z4), (0, .ref (a 5)), (1, .ref (a 0)), (2, .int x2), (3, .int x3)]) hx hb dX1_putTexts_25 hl (by decide) rfl (fun ls hl => ?_)
    refine lv_iload hx hb dX1_putTexts_27 (lv_at hl 0 rfl) ?_
    refine lv_if_lt (tgt := 65) hx hb dX1_putTexts_29 (by decide) (fun c5 => ?_) (fun c5 => ?_)
    · have h := nd_pos h c5
      exact (db_X1_putTexts_65 C K J2) (x2) (x3) s0 _ _ _ h hP hD hS (lv_sub hl [1, 2, 3, 4] rfl)
    · have h := nd_neg h c5
      refine lv_iload hx hb dX1_putTexts_32 (lv_at hl 0 rfl) ?_
      refine lv_aload_n hx hb dX1_putTexts_34 rfl (lv_at hl 1 rfl) ?_
      refine va_get (D := (dC, dI)) (ci := 2) (v := .ref (a 7)) (C := RX1) (T := TX1) (N := 13) hx hb hts hi_dm_X1_putTexts_X1 hown hK hP 0 rfl rfl 3 (by decide) (hts (.fieldLink RX1 24 "TimeMachine$Assembler" "letters" "[B") (List.mem_of_getElem? (i := 2) rfl)) (fun _ h9 => h9) rfl dX1_putTexts_35 ?_
      refine va_alen (v := 32832) hx hb hK hP 2 1 rfl rfl (show Int32.ofNat 32832 = 32832 by decide) dX1_putTexts_38 ?_
      refine lv_icmp_ge (tgt := 65) hx hb dX1_putTexts_39 (by decide) (fun c7 => ?_) (fun c7 => ?_)
      · have h := nd_pos h c7
        exact (db_X1_putTexts_65 C K J2) (x2) (x3) s0 _ _ _ h hP hD hS (lv_sub hl [1, 2, 3, 4] rfl)
      · have h := nd_neg h c7
        refine lv_aload_n hx hb dX1_putTexts_42 rfl (lv_at hl 1 rfl) ?_
        refine lv_aload_n hx hb dX1_putTexts_43 rfl (lv_at hl 2 rfl) ?_
        refine lv_aload_n hx hb dX1_putTexts_44 rfl (lv_at hl 1 rfl) ?_
        refine va_get (D := (dC, dI)) (ci := 2) (v := .ref (a 6)) (C := RX1) (T := TX1) (N := 13) hx hb hts hi_dm_X1_putTexts_X1 hown hK hP 0 rfl rfl 1 (by decide) (hts (.fieldLink RX1 19 "TimeMachine$Assembler" "statement" "[I") (List.mem_of_getElem? (i := 1) rfl)) (fun _ h9 => h9) rfl dX1_putTexts_45 ?_
        refine lv_iload_n hx hb dX1_putTexts_48 rfl (lv_at hl 3 rfl) ?_
        refine lv_iconst (v := 2) hx hb dX1_putTexts_49 (by decide) ?_
        refine lv_iadd hx hb dX1_putTexts_50 ?_
        obtain ⟨i8, h⟩ := nd_ck_e h
        refine va_iald (i := (x2 + 2)) hx hb hK hP 1 0 rfl rfl i8 dX1_putTexts_51 ?_
        refine lv_iload_n hx hb dX1_putTexts_52 rfl (lv_at hl 4 rfl) ?_
        refine lv_iadd hx hb dX1_putTexts_53 ?_
        refine lv_iconst (v := 1) hx hb dX1_putTexts_54 (by decide) ?_
        refine lv_aload_n hx hb dX1_putTexts_55 rfl (lv_at hl 1 rfl) ?_
        refine va_get (D := (dC, dI)) (ci := 2) (v := .ref (a 7)) (C := RX1) (T := TX1) (N := 13) hx hb hts hi_dm_X1_putTexts_X1 hown hK hP 0 rfl rfl 3 (by decide) (hts (.fieldLink RX1 24 "TimeMachine$Assembler" "letters" "[B") (List.mem_of_getElem? (i := 2) rfl)) (fun _ h9 => h9) rfl dX1_putTexts_56 ?_
        refine lv_iload hx hb dX1_putTexts_59 (lv_at hl 0 rfl) ?_
        obtain ⟨i9, h⟩ := nd_ck_e h
        refine va_bald (i := z4) hx hb hK hP 2 1 rfl rfl i9 dX1_putTexts_61 ?_
        obtain ⟨s11, hq, h⟩ := nd_b1_e h
        have hPc := hP
        have hDc := hD
        have hKc := hK
        have hFc := nd_rs hD hS hA
        refine nd_cVv (As := [.ref (a 0), .int ((sR s0.2.1.1 0 (Int32.toNatClampNeg (x2 + 2))) + x3), .int 1, .int (sR s0.2.1.1 1 (Int32.toNatClampNeg z4))]) (rest := []) (w' := dw_X1p a ac s11) ⟨hx, hb, hml, hown, hts⟩ (fun sz => dm_X1_put l hlt dC dI a ac n (((sR s0.2.1.1 0 (Int32.toNatClampNeg (x2 + 2))) + x3)) (1) ((sR s0.2.1.1 1 (Int32.toNatClampNeg z4))) s0 hq sz) (cwV 4 hts gi_dm_X1_putTexts_0 rfl rfl rfl (by decide +kernel) ⟨Nat.le_of_ble_eq_true rfl, Nat.le_of_ble_eq_true rfl⟩) hPc hDc hKc hS hA hN (va_recv hKc hPc (ci := 2) (q0 := 0) rfl rfl) rfl hl.1 rfl (Nat.le_of_ble_eq_true rfl) dX1_putTexts_62 (fun H locs hP1 hD1 hk1 hS => ?_)
        have hP := hP1
        have hD := hD1.weaken (fun k q _ h => hFc q.1 h)
        exact (db_X1_putTexts_65 C K J2) (x2) (x3) s11 _ _ _ h hP hD hS (lv_sub hl [1, 2, 3, 4] rfl)
set_option maxHeartbeats 40000000 in
set_option maxRecDepth 100000 in
theorem db_X1_putTexts_2 {p : Program} {l : Launch} {e : Env} {s : State} {m : MethodId} {args : Array Value} {below : List Frame} {meth : Method} {c : Code} {Q : State → Prop} {A : Nat → Prop} {dC : Nat → ClassId} {dI : Nat → Nat → Nat} {a : Nat → Nat} {ac : Nat → ClassId} {n : Nat} {r : St × (St × (St)) × (St)} (C : nd_C p l s m args c A (dC, dI) cX1_putTexts 5 RX1 ow_dm_X1_putTexts (dk_X1p ac)) (K : nd_Kv p l e (headSpec ow_dm_X1_putTexts ({ frames := 1, cells := 0, slots := 0, locals := 25 })).room s m args below meth c Q A (dC, dI) cX1_putTexts (St × (St × (St)) × (St)) (dw_X1p a ac) r) (k : Nat) : dj_X1_putTexts_2 p l e s m args below meth c Q A dC dI a ac (df_X1_putTexts_2 n k) r := by
  induction k with
  | zero => intro x2 x3 s0 H locs ls h; exact nomatch (show (none : Option (St × (St × (St)) × (St))) = some r from h)
  | succ k ih => exact dB_X1_putTexts_2 C K ih
set_option maxHeartbeats 40000000 in
set_option maxRecDepth 100000 in
theorem db_X1_putTexts_0 {p : Program} {l : Launch} {e : Env} {s : State} {m : MethodId} {args : Array Value} {below : List Frame} {meth : Method} {c : Code} {Q : State → Prop} {A : Nat → Prop} {dC : Nat → ClassId} {dI : Nat → Nat → Nat} {a : Nat → Nat} {ac : Nat → ClassId} {n : Nat} {r : St × (St × (St)) × (St)} (C : nd_C p l s m args c A (dC, dI) cX1_putTexts 5 RX1 ow_dm_X1_putTexts (dk_X1p ac)) (K : nd_Kv p l e (headSpec ow_dm_X1_putTexts ({ frames := 1, cells := 0, slots := 0, locals := 25 })).room s m args below meth c Q A (dC, dI) cX1_putTexts (St × (St × (St)) × (St)) (dw_X1p a ac) r) : dj_X1_putTexts_0 p l e s m args below meth c Q A dC dI a ac (df_X1_putTexts_0 n) r := by
  obtain ⟨hlt, hx, hb, hml, hown, hts, hN, hA, hK⟩ := id C
  intro v1 s0 H locs ls h hP hD hS hl
  unfold df_X1_putTexts_0 at h
  refine lv_iconst (v := 0) hx hb dX1_putTexts_0 (by decide) ?_
  refine lv_istore_n (lv' := [(3, .int 0), (0, .ref (a 5)), (1, .ref (a 0)), (2, .int v1)]) hx hb dX1_putTexts_1 rfl hl (by decide) rfl (fun ls hl => ?_)
  exact (db_X1_putTexts_2 C K n) (v1) (0) s0 _ _ _ h hP hD hS (lv_sub hl [1, 2, 3, 0] rfl)
set_option maxHeartbeats 40000000 in
set_option maxRecDepth 100000 in
theorem dm_X1_putTexts (l : Launch) (hlt : l.stackTraces = false) (dC : Nat → ClassId) (dI : Nat → Nat → Nat) (a : Nat → Nat) (ac : Nat → ClassId) (n : Nat) (v1 : Int32) (s0 : St × (St × (St)) × (St)) {r : St × (St × (St)) × (St)} (h : df_X1_putTexts n v1 s0 = some r) (sz : Nat) : Met l yX1_putTexts ow_dm_X1_putTexts ({ frames := 1, cells := 0, slots := 0, locals := 25 }) (va_Pc [.ref (a 5), .ref (a 0), .int v1] (fun U => U.heap.size = sz ∧ va_P (dC, dI) vwCl (dw_X1p a ac s0) U.heap ∧ va_K (dC, dI) vwCl (dk_X1p ac) U ∧ va_D (fun _ => True) (dw_X1p a ac s0) ∧ nv_E dI (va_A (dw_X1p a ac s0) sz) U)) (va_Qv (fun _ => True) (fun (_ : Unit) t => va_P (dC, dI) vwCl (dw_X1p a ac r) t.heap ∧ va_K (dC, dI) vwCl (dk_X1p ac) t ∧ va_D (va_A (dw_X1p a ac s0) sz) (dw_X1p a ac r)) (va_A (dw_X1p a ac s0) sz)) 0 0 (va_A (dw_X1p a ac s0) sz) := by
  refine Met.ofW (cc := cX1_putTexts) (maxL := 5) (ret := none) (by decide) rfl ?_
  intro p e s m args below meth c s₁ B hml hv
  obtain ⟨rfl, hsz, hP, hK, hD0, hN⟩ := hv
  have hx := B.exec
  have hb := B.bytes
  have hr := B.returns
  have hts := atoms_spec (ws := ow_dm_X1_putTexts) B.pre
  have hown : s.vm.findClass RX1 = some m.cls := findClass_of_methodNamed B.named
  have hlocks := B.notSynchronized
  subst hsz
  have hD := hD0.self (sz := s.heap.size)
  generalize hAe : va_A (dw_X1p a ac s0) s.heap.size = A at hD hN ⊢
  have hA : ∀ q : Nat, s.heap.size ≤ q → A q := fun q h => by rw [← hAe]; exact Or.inr h
  have hl := lv_entry ([.ref (a 5), .ref (a 0), .int v1]) (n := 5) (Nat.le_of_ble_eq_true rfl)
  rw [lg_entry_eq]
  generalize (lg_sl ([.ref (a 5), .ref (a 0), .int v1]) ++ List.replicate (5 - (lg_sl ([.ref (a 5), .ref (a 0), .int v1])).length) Slot.unset).toArray = ls at hl ⊢
  have hl : lv_has ls 5 [(0, .ref (a 5)), (1, .ref (a 0)), (2, .int v1)] := hl
  exact db_X1_putTexts_0 (dC := dC) (dI := dI) (a := a) (ac := ac) (n := n) (r := r) ⟨hlt, hx, hb, hml, hown, hts, hN, hA, hK⟩ (fun pc τ H locs ls d er hP hD hS => by subst er; exact W.vret hx hb hr (fun t ht hW => ⟨⟨(), rfl, trivial, by rw [ht]; exact hP, va_K.moved hW.alike hK, hD⟩, hS.F ht⟩) hS.2.2 d) v1 s0 _ _ _ h hP hD va_S.rf (lv_sub hl [0, 1, 2] rfl)
def ow_dm_X1_putAll : List Cond := Cond.code yX1_putAll cX1_putAll 4 none :: ([Cond.fieldLink RX1 300 "TimeMachine$Program" "image" "[B", Cond.methodLink RX1 305 yJ7_fill_031fb, Cond.static yJ7_fill_031fb, Cond.initialized RJ7, Cond.fieldLink RX1 65 "TimeMachine$Assembler" "statements" "I", Cond.fieldLink RX1 32 "TimeMachine$Assembler" "fault" "I", Cond.fieldLink RX1 19 "TimeMachine$Assembler" "statement" "[I", Cond.fieldLink RX1 36 "TimeMachine$Assembler" "line" "I", Cond.methodLink RX1 311 yX1_putPlain, Cond.instanceMethod yX1_putPlain, Cond.selects RX1 yX1_putPlain yX1_putPlain, Cond.initialized RX1, Cond.methodLink RX1 315 yX1_putGrown, Cond.instanceMethod yX1_putGrown, Cond.selects RX1 yX1_putGrown yX1_putGrown, Cond.methodLink RX1 318 yX1_putAddress, Cond.instanceMethod yX1_putAddress, Cond.selects RX1 yX1_putAddress yX1_putAddress, Cond.methodLink RX1 321 yX1_putNumber, Cond.instanceMethod yX1_putNumber, Cond.selects RX1 yX1_putNumber yX1_putNumber, Cond.methodLink RX1 324 yX1_putList, Cond.instanceMethod yX1_putList, Cond.selects RX1 yX1_putList yX1_putList, Cond.methodLink RX1 327 yX1_putTexts, Cond.instanceMethod yX1_putTexts, Cond.selects RX1 yX1_putTexts yX1_putTexts] ++ (u_ws RX8 TX8 10 ++ (u_ws RX1 TX1 13 ++ (ow_dm_J7_fill_031fb ++ (ow_dm_X1_putPlain ++ (ow_dm_X1_putGrown ++ (ow_dm_X1_putAddress ++ (ow_dm_X1_putNumber ++ (ow_dm_X1_putList ++ (ow_dm_X1_putTexts ++ []))))))))))
theorem gd_dm_X1_putAll : ∀ w ∈ ow_dm_X1_putAll, (w.onTables && w.keeps) = true ∨ ∃ ty, w = Cond.arrayClass ty := List.forall_mem_cons.mpr ⟨good_of_word rfl, List.forall_mem_append.mpr ⟨fun w h => good_of_word (List.all_eq_true.mp (by decide +kernel) w h), List.forall_mem_append.mpr ⟨gu_X8, List.forall_mem_append.mpr ⟨gu_X1, List.forall_mem_append.mpr ⟨gd_dm_J7_fill_031fb, List.forall_mem_append.mpr ⟨gd_dm_X1_putPlain, List.forall_mem_append.mpr ⟨gd_dm_X1_putGrown, List.forall_mem_append.mpr ⟨gd_dm_X1_putAddress, List.forall_mem_append.mpr ⟨gd_dm_X1_putNumber, List.forall_mem_append.mpr ⟨gd_dm_X1_putList, List.forall_mem_append.mpr ⟨gd_dm_X1_putTexts, fun _ h => nomatch h⟩⟩⟩⟩⟩⟩⟩⟩⟩⟩⟩
theorem hi_dm_X1_putAll_X8 : ∀ w ∈ u_ws RX8 TX8 10, w ∈ ow_dm_X1_putAll := fun w h => List.mem_cons_of_mem _ (List.mem_append_right _ (List.mem_append_left _ h))
theorem hi_dm_X1_putAll_X1 : ∀ w ∈ u_ws RX1 TX1 13, w ∈ ow_dm_X1_putAll := fun w h => List.mem_cons_of_mem _ (List.mem_append_right _ (List.mem_append_right _ (List.mem_append_left _ h)))
theorem gi_dm_X1_putAll_0 : GoodIn ow_dm_X1_putAll (va_wsS RX1 305 yJ7_fill_031fb ow_dm_J7_fill_031fb) := goodIn_app (goodIn_of _ (by decide +kernel)) (fun w h => ⟨List.mem_cons_of_mem _ (List.mem_append_right _ (List.mem_append_right _ (List.mem_append_right _ (List.mem_append_left _ h)))), gd_dm_J7_fill_031fb w h⟩)
theorem gi_dm_X1_putAll_1 : GoodIn ow_dm_X1_putAll (wsV RX1 311 RX1 yX1_putPlain ow_dm_X1_putPlain) := goodIn_app (goodIn_of _ (by decide +kernel)) (fun w h => ⟨List.mem_cons_of_mem _ (List.mem_append_right _ (List.mem_append_right _ (List.mem_append_right _ (List.mem_append_right _ (List.mem_append_left _ h))))), gd_dm_X1_putPlain w h⟩)
theorem gi_dm_X1_putAll_2 : GoodIn ow_dm_X1_putAll (wsV RX1 315 RX1 yX1_putGrown ow_dm_X1_putGrown) := goodIn_app (goodIn_of _ (by decide +kernel)) (fun w h => ⟨List.mem_cons_of_mem _ (List.mem_append_right _ (List.mem_append_right _ (List.mem_append_right _ (List.mem_append_right _ (List.mem_append_right _ (List.mem_append_left _ h)))))), gd_dm_X1_putGrown w h⟩)
theorem gi_dm_X1_putAll_3 : GoodIn ow_dm_X1_putAll (wsV RX1 318 RX1 yX1_putAddress ow_dm_X1_putAddress) := goodIn_app (goodIn_of _ (by decide +kernel)) (fun w h => ⟨List.mem_cons_of_mem _ (List.mem_append_right _ (List.mem_append_right _ (List.mem_append_right _ (List.mem_append_right _ (List.mem_append_right _ (List.mem_append_right _ (List.mem_append_left _ h))))))), gd_dm_X1_putAddress w h⟩)
theorem gi_dm_X1_putAll_4 : GoodIn ow_dm_X1_putAll (wsV RX1 321 RX1 yX1_putNumber ow_dm_X1_putNumber) := goodIn_app (goodIn_of _ (by decide +kernel)) (fun w h => ⟨List.mem_cons_of_mem _ (List.mem_append_right _ (List.mem_append_right _ (List.mem_append_right _ (List.mem_append_right _ (List.mem_append_right _ (List.mem_append_right _ (List.mem_append_right _ (List.mem_append_left _ h)))))))), gd_dm_X1_putNumber w h⟩)
theorem gi_dm_X1_putAll_5 : GoodIn ow_dm_X1_putAll (wsV RX1 324 RX1 yX1_putList ow_dm_X1_putList) := goodIn_app (goodIn_of _ (by decide +kernel)) (fun w h => ⟨List.mem_cons_of_mem _ (List.mem_append_right _ (List.mem_append_right _ (List.mem_append_right _ (List.mem_append_right _ (List.mem_append_right _ (List.mem_append_right _ (List.mem_append_right _ (List.mem_append_right _ (List.mem_append_left _ h))))))))), gd_dm_X1_putList w h⟩)
theorem gi_dm_X1_putAll_6 : GoodIn ow_dm_X1_putAll (wsV RX1 327 RX1 yX1_putTexts ow_dm_X1_putTexts) := goodIn_app (goodIn_of _ (by decide +kernel)) (fun w h => ⟨List.mem_cons_of_mem _ (List.mem_append_right _ (List.mem_append_right _ (List.mem_append_right _ (List.mem_append_right _ (List.mem_append_right _ (List.mem_append_right _ (List.mem_append_right _ (List.mem_append_right _ (List.mem_append_right _ (List.mem_append_left _ h)))))))))), gd_dm_X1_putTexts w h⟩)
def dj_X1_putAll_152 (p : Program) (l : Launch) (e : Env) (s : State) (m : MethodId) (args : Array Value) (below : List Frame) (meth : Method) (c : Code) (Q : State → Prop) (A : Nat → Prop) (dC : Nat → ClassId) (dI : Nat → Nat → Nat) (a : Nat → Nat) (ac : Nat → ClassId) (g : (St × (St × (St)) × (St)) → Option (St × (St × (St)) × (St))) (r : St × (St × (St)) × (St)) : Prop := ∀ (s0 : St × (St × (St)) × (St)) (H : Heap) (locs : List Loc) (ls : Array Slot), g s0 = some r → va_P (dC, dI) vwCl (dw_X1p a ac s0) H → va_D A (dw_X1p a ac s0) → va_S A s.heap H locs → lv_has ls 4 [] → W p l e (headSpec ow_dm_X1_putAll ({ frames := 5, cells := 0, slots := 0, locals := 114 })).room s m args below meth c H locs 0 0 Q (F0 m 152 ls [])
def dj_X1_putAll_146 (p : Program) (l : Launch) (e : Env) (s : State) (m : MethodId) (args : Array Value) (below : List Frame) (meth : Method) (c : Code) (Q : State → Prop) (A : Nat → Prop) (dC : Nat → ClassId) (dI : Nat → Nat → Nat) (a : Nat → Nat) (ac : Nat → ClassId) (g : Int32 → (St × (St × (St)) × (St)) → Option (St × (St × (St)) × (St))) (r : St × (St × (St)) × (St)) : Prop := ∀ (x2 : Int32) (s0 : St × (St × (St)) × (St)) (H : Heap) (locs : List Loc) (ls : Array Slot), g x2 s0 = some r → va_P (dC, dI) vwCl (dw_X1p a ac s0) H → va_D A (dw_X1p a ac s0) → va_S A s.heap H locs → lv_has ls 4 [(0, .ref (a 5)), (1, .ref (a 0)), (2, .int x2)] → W p l e (headSpec ow_dm_X1_putAll ({ frames := 5, cells := 0, slots := 0, locals := 114 })).room s m args below meth c H locs 0 0 Q (F0 m 146 ls [])
def dj_X1_putAll_101 (p : Program) (l : Launch) (e : Env) (s : State) (m : MethodId) (args : Array Value) (below : List Frame) (meth : Method) (c : Code) (Q : State → Prop) (A : Nat → Prop) (dC : Nat → ClassId) (dI : Nat → Nat → Nat) (a : Nat → Nat) (ac : Nat → ClassId) (g : Int32 → Int32 → (St × (St × (St)) × (St)) → Option (St × (St × (St)) × (St))) (r : St × (St × (St)) × (St)) : Prop := ∀ (x2 : Int32) (x3 : Int32) (s0 : St × (St × (St)) × (St)) (H : Heap) (locs : List Loc) (ls : Array Slot), g x2 x3 s0 = some r → va_P (dC, dI) vwCl (dw_X1p a ac s0) H → va_D A (dw_X1p a ac s0) → va_S A s.heap H locs → lv_has ls 4 [(0, .ref (a 5)), (1, .ref (a 0)), (2, .int x2), (3, .int x3)] → W p l e (headSpec ow_dm_X1_putAll ({ frames := 5, cells := 0, slots := 0, locals := 114 })).room s m args below meth c H locs 0 0 Q (F0 m 101 ls [])
def dj_X1_putAll_10 (p : Program) (l : Launch) (e : Env) (s : State) (m : MethodId) (args : Array Value) (below : List Frame) (meth : Method) (c : Code) (Q : State → Prop) (A : Nat → Prop) (dC : Nat → ClassId) (dI : Nat → Nat → Nat) (a : Nat → Nat) (ac : Nat → ClassId) (g : Int32 → (St × (St × (St)) × (St)) → Option (St × (St × (St)) × (St))) (r : St × (St × (St)) × (St)) : Prop := ∀ (x2 : Int32) (s0 : St × (St × (St)) × (St)) (H : Heap) (locs : List Loc) (ls : Array Slot), g x2 s0 = some r → va_P (dC, dI) vwCl (dw_X1p a ac s0) H → va_D A (dw_X1p a ac s0) → va_S A s.heap H locs → lv_has ls 4 [(0, .ref (a 5)), (1, .ref (a 0)), (2, .int x2)] → W p l e (headSpec ow_dm_X1_putAll ({ frames := 5, cells := 0, slots := 0, locals := 114 })).room s m args below meth c H locs 0 0 Q (F0 m 10 ls [])
def dj_X1_putAll_0 (p : Program) (l : Launch) (e : Env) (s : State) (m : MethodId) (args : Array Value) (below : List Frame) (meth : Method) (c : Code) (Q : State → Prop) (A : Nat → Prop) (dC : Nat → ClassId) (dI : Nat → Nat → Nat) (a : Nat → Nat) (ac : Nat → ClassId) (g : (St × (St × (St)) × (St)) → Option (St × (St × (St)) × (St))) (r : St × (St × (St)) × (St)) : Prop := ∀ (s0 : St × (St × (St)) × (St)) (H : Heap) (locs : List Loc) (ls : Array Slot), g s0 = some r → va_P (dC, dI) vwCl (dw_X1p a ac s0) H → va_D A (dw_X1p a ac s0) → va_S A s.heap H locs → lv_has ls 4 [(0, .ref (a 5)), (1, .ref (a 0))] → W p l e (headSpec ow_dm_X1_putAll ({ frames := 5, cells := 0, slots := 0, locals := 114 })).room s m args below meth c H locs 0 0 Q (F0 m 0 ls [])
set_option maxHeartbeats 40000000 in
set_option maxRecDepth 100000 in
theorem db_X1_putAll_152 {p : Program} {l : Launch} {e : Env} {s : State} {m : MethodId} {args : Array Value} {below : List Frame} {meth : Method} {c : Code} {Q : State → Prop} {A : Nat → Prop} {dC : Nat → ClassId} {dI : Nat → Nat → Nat} {a : Nat → Nat} {ac : Nat → ClassId} {n : Nat} {r : St × (St × (St)) × (St)} (C : nd_C p l s m args c A (dC, dI) cX1_putAll 4 RX1 ow_dm_X1_putAll (dk_X1p ac)) (K : nd_Kv p l e (headSpec ow_dm_X1_putAll ({ frames := 5, cells := 0, slots := 0, locals := 114 })).room s m args below meth c Q A (dC, dI) cX1_putAll (St × (St × (St)) × (St)) (dw_X1p a ac) r) : dj_X1_putAll_152 p l e s m args below meth c Q A dC dI a ac (df_X1_putAll_152 n) r := by
  obtain ⟨hlt, hx, hb, hml, hown, hts, hN, hA, hK⟩ := id C
  intro s0 H locs ls h hP hD hS hl
  unfold df_X1_putAll_152 at h
  exact K _ _ _ _ _ dX1_putAll_152 (Option.some.inj h).symm hP hD hS
set_option maxHeartbeats 40000000 in
set_option maxRecDepth 100000 in
theorem db_X1_putAll_146 {p : Program} {l : Launch} {e : Env} {s : State} {m : MethodId} {args : Array Value} {below : List Frame} {meth : Method} {c : Code} {Q : State → Prop} {A : Nat → Prop} {dC : Nat → ClassId} {dI : Nat → Nat → Nat} {a : Nat → Nat} {ac : Nat → ClassId} {n : Nat} {r : St × (St × (St)) × (St)} (C : nd_C p l s m args c A (dC, dI) cX1_putAll 4 RX1 ow_dm_X1_putAll (dk_X1p ac)) (K : nd_Kv p l e (headSpec ow_dm_X1_putAll ({ frames := 5, cells := 0, slots := 0, locals := 114 })).room s m args below meth c Q A (dC, dI) cX1_putAll (St × (St × (St)) × (St)) (dw_X1p a ac) r) {g10 : Int32 → (St × (St × (St)) × (St)) → Option (St × (St × (St)) × (St))} (J10 : dj_X1_putAll_10 p l e s m args below meth c Q A dC dI a ac g10 r) : dj_X1_putAll_146 p l e s m args below meth c Q A dC dI a ac (df_X1_putAll_146 n g10) r := by
  obtain ⟨hlt, hx, hb, hml, hown, hts, hN, hA, hK⟩ := id C
  intro x2 s0 H locs ls h hP hD hS hl
  unfold df_X1_putAll_146 at h
  obtain ⟨z12, ez12, h⟩ := nd_let_e h
  refine lv_iinc (v := z12) (lv' := [(2, .int z12), (0, .ref (a 5)), (1, .ref (a 0))]) hx hb dX1_putAll_146 hl (k := 2) rfl (by rw [ez12]) (by decide) rfl (fun ls hl => ?_)
  refine lv_goto (tgt := 10) hx hb dX1_putAll_149 (by decide) ?_
  exact (J10) (z12) s0 _ _ _ h hP hD hS (lv_sub hl [1, 2, 0] rfl)
set_option maxHeartbeats 40000000 in
set_option maxRecDepth 100000 in
theorem db_X1_putAll_101 {p : Program} {l : Launch} {e : Env} {s : State} {m : MethodId} {args : Array Value} {below : List Frame} {meth : Method} {c : Code} {Q : State → Prop} {A : Nat → Prop} {dC : Nat → ClassId} {dI : Nat → Nat → Nat} {a : Nat → Nat} {ac : Nat → ClassId} {n : Nat} {r : St × (St × (St)) × (St)} (C : nd_C p l s m args c A (dC, dI) cX1_putAll 4 RX1 ow_dm_X1_putAll (dk_X1p ac)) (K : nd_Kv p l e (headSpec ow_dm_X1_putAll ({ frames := 5, cells := 0, slots := 0, locals := 114 })).room s m args below meth c Q A (dC, dI) cX1_putAll (St × (St × (St)) × (St)) (dw_X1p a ac) r) {g10 : Int32 → (St × (St × (St)) × (St)) → Option (St × (St × (St)) × (St))} (J10 : dj_X1_putAll_10 p l e s m args below meth c Q A dC dI a ac g10 r) : dj_X1_putAll_101 p l e s m args below meth c Q A dC dI a ac (df_X1_putAll_101 n g10) r := by
  obtain ⟨hlt, hx, hb, hml, hown, hts, hN, hA, hK⟩ := id C
  intro x2 x3 s0 H locs ls h hP hD hS hl
  unfold df_X1_putAll_101 at h
  refine lv_aload_n hx hb dX1_putAll_101 rfl (lv_at hl 0 rfl) ?_
  refine lv_aload_n hx hb dX1_putAll_102 rfl (lv_at hl 1 rfl) ?_
  refine lv_iload_n hx hb dX1_putAll_103 rfl (lv_at hl 3 rfl) ?_
  obtain ⟨s15, hq, h⟩ := nd_b1_e h
  have hPc := hP
  have hDc := hD
  have hKc := hK
  have hFc := nd_rs hD hS hA
  refine nd_cVv (As := [.ref (a 0), .int x3]) (rest := []) (w' := dw_X1p a ac s15) ⟨hx, hb, hml, hown, hts⟩ (fun sz => dm_X1_putGrown l hlt dC dI a ac n (x3) s0 hq sz) (cwV 2 hts gi_dm_X1_putAll_2 rfl rfl rfl (by decide +kernel) ⟨Nat.le_of_ble_eq_true rfl, Nat.le_of_ble_eq_true rfl⟩) hPc hDc hKc hS hA hN (va_recv hKc hPc (ci := 2) (q0 := 0) rfl rfl) rfl hl.1 rfl (Nat.le_of_ble_eq_true rfl) dX1_putAll_104 (fun H locs hP1 hD1 hk1 hS => ?_)
  have hP := hP1
  have hD := hD1.weaken (fun k q _ h => hFc q.1 h)
  refine lv_goto (tgt := 146) hx hb dX1_putAll_107 (by decide) ?_
  exact (db_X1_putAll_146 C K J10) (x2) s15 _ _ _ h hP hD hS (lv_sub hl [0, 1, 2] rfl)
set_option maxHeartbeats 40000000 in
set_option maxRecDepth 100000 in
theorem dB_X1_putAll_10 {p : Program} {l : Launch} {e : Env} {s : State} {m : MethodId} {args : Array Value} {below : List Frame} {meth : Method} {c : Code} {Q : State → Prop} {A : Nat → Prop} {dC : Nat → ClassId} {dI : Nat → Nat → Nat} {a : Nat → Nat} {ac : Nat → ClassId} {n : Nat} {r : St × (St × (St)) × (St)} (C : nd_C p l s m args c A (dC, dI) cX1_putAll 4 RX1 ow_dm_X1_putAll (dk_X1p ac)) (K : nd_Kv p l e (headSpec ow_dm_X1_putAll ({ frames := 5, cells := 0, slots := 0, locals := 114 })).room s m args below meth c Q A (dC, dI) cX1_putAll (St × (St × (St)) × (St)) (dw_X1p a ac) r) {g10 : Int32 → (St × (St × (St)) × (St)) → Option (St × (St × (St)) × (St))} (J10 : dj_X1_putAll_10 p l e s m args below meth c Q A dC dI a ac g10 r) : dj_X1_putAll_10 p l e s m args below meth c Q A dC dI a ac (dF_X1_putAll_10 n g10) r := by
  obtain ⟨hlt, hx, hb, hml, hown, hts, hN, hA, hK⟩ := id C
  intro x2 s0 H locs ls h hP hD hS hl
  unfold dF_X1_putAll_10 at h
  refine lv_iload_n hx hb dX1_putAll_10 rfl (lv_at hl 2 rfl) ?_
  refine lv_aload_n hx hb dX1_putAll_11 rfl (lv_at hl 0 rfl) ?_
  refine va_get (D := (dC, dI)) (ci := 2) (v := .int (sI s0.2.1.1 0)) (C := RX1) (T := TX1) (N := 13) hx hb hts hi_dm_X1_putAll_X1 hown hK hP 0 rfl rfl 2 (by decide) (hts (.fieldLink RX1 65 "TimeMachine$Assembler" "statements" "I") (List.mem_of_getElem? (i := 5) rfl)) (fun _ h9 => h9) rfl dX1_putAll_12 ?_
  refine lv_icmp_ge (tgt := 152) hx hb dX1_putAll_15 (by decide) (fun c2 => ?_) (fun c2 => ?_)
  · have h := nd_pos h c2
    exact (db_X1_putAll_152 C K)  s0 _ _ _ h hP hD hS (lv_sub hl [] rfl)
  · have h := nd_neg h c2
    refine lv_aload_n hx hb dX1_putAll_18 rfl (lv_at hl 0 rfl) ?_
    refine va_get (D := (dC, dI)) (ci := 2) (v := .int (sI s0.2.1.1 2)) (C := RX1) (T := TX1) (N := 13) hx hb hts hi_dm_X1_putAll_X1 hown hK hP 0 rfl rfl 5 (by decide) (hts (.fieldLink RX1 32 "TimeMachine$Assembler" "fault" "I") (List.mem_of_getElem? (i := 6) rfl)) (fun _ h9 => h9) rfl dX1_putAll_19 ?_
    refine lv_if_ne (tgt := 152) hx hb dX1_putAll_22 (by decide) (fun c3 => ?_) (fun c3 => ?_)
    · have h := nd_neg h c3
      exact (db_X1_putAll_152 C K)  s0 _ _ _ h hP hD hS (lv_sub hl [] rfl)
    · have h := nd_pos h c3
      refine lv_iload_n hx hb dX1_putAll_25 rfl (lv_at hl 2 rfl) ?_
      refine lv_bipush (v := 8) hx hb dX1_putAll_26 (by decide) ?_
      refine lv_imul hx hb dX1_putAll_28 ?_
      refine lv_topi (fun z4 ez4 => ?_)
      have h := nd_at h ez4
      refine lv_istore_n (lv' := [(3, .int z4), (0, .ref (a 5)), (1, .ref (a 0)), (2, .int x2)]) hx hb dX1_putAll_29 rfl hl (by decide) rfl (fun ls hl => ?_)
      refine lv_aload_n hx hb dX1_putAll_30 rfl (lv_at hl 1 rfl) ?_
      refine lv_aload_n hx hb dX1_putAll_31 rfl (lv_at hl 1 rfl) ?_
      refine va_get (D := (dC, dI)) (ci := 2) (v := .ref (a 6)) (C := RX1) (T := TX1) (N := 13) hx hb hts hi_dm_X1_putAll_X1 hown hK hP 0 rfl rfl 1 (by decide) (hts (.fieldLink RX1 19 "TimeMachine$Assembler" "statement" "[I") (List.mem_of_getElem? (i := 7) rfl)) (fun _ h9 => h9) rfl dX1_putAll_32 ?_
      refine lv_iload_n hx hb dX1_putAll_35 rfl (lv_at hl 0 rfl) ?_
      refine lv_iconst (v := 0) hx hb dX1_putAll_36 (by decide) ?_
      refine lv_iadd hx hb dX1_putAll_37 ?_
      obtain ⟨i5, h⟩ := nd_ck_e h
      refine va_iald (i := (z4 + 0)) hx hb hK hP 1 0 rfl rfl i5 dX1_putAll_38 ?_
      refine va_put (D := (dC, dI)) (ci := 2) (v := .int (sR s0.2.1.1 0 (Int32.toNatClampNeg (z4 + 0)))) (ty := .int) (C := RX1) (T := TX1) (N := 13) hx hb hts hi_dm_X1_putAll_X1 tyX1 tyX1_ok nmX1 hown hK hP hD hS 0 rfl rfl 6 (by decide) (hts (.fieldLink RX1 36 "TimeMachine$Assembler" "line" "I") (List.mem_of_getElem? (i := 8) rfl)) (fun _ h9 => h9) rfl (by decide +kernel) rfl rfl (Nat.le_of_ble_eq_true rfl) dX1_putAll_39 (fun H locs hP hD hS => ?_)
      obtain ⟨s6, es6, h⟩ := nd_let_e h
      have hP : va_P (dC, dI) vwCl (dw_X1p a ac s6) H := by rw [es6]; exact hP
      have hD : va_D A (dw_X1p a ac s6) := by rw [es6]; exact hD
      refine lv_aload_n hx hb dX1_putAll_42 rfl (lv_at hl 1 rfl) ?_
      refine va_get (D := (dC, dI)) (ci := 2) (v := .ref (a 6)) (C := RX1) (T := TX1) (N := 13) hx hb hts hi_dm_X1_putAll_X1 hown hK hP 0 rfl rfl 1 (by decide) (hts (.fieldLink RX1 19 "TimeMachine$Assembler" "statement" "[I") (List.mem_of_getElem? (i := 7) rfl)) (fun _ h9 => h9) rfl dX1_putAll_43 ?_
      refine lv_iload_n hx hb dX1_putAll_46 rfl (lv_at hl 0 rfl) ?_
      refine lv_iconst (v := 4) hx hb dX1_putAll_47 (by decide) ?_
      refine lv_iadd hx hb dX1_putAll_48 ?_
      obtain ⟨i7, h⟩ := nd_ck_e h
      refine va_iald (i := (z4 + 4)) hx hb hK hP 1 0 rfl rfl i7 dX1_putAll_49 ?_
      by_cases c8 : (sR s6.2.1.1 0 (Int32.toNatClampNeg (z4 + 4))) = 0
      · have h := nd_pos h c8
        refine lv_tableIn (off := 42) (tgt := 92) hx hb dX1_putAll_50 (by rw [c8]; decide) (by rw [c8]; decide) (by rw [c8]; decide) (by decide) ?_
        refine lv_aload_n hx hb dX1_putAll_92 rfl (lv_at hl 1 rfl) ?_
        refine lv_aload_n hx hb dX1_putAll_93 rfl (lv_at hl 2 rfl) ?_
        refine lv_iload_n hx hb dX1_putAll_94 rfl (lv_at hl 0 rfl) ?_
        obtain ⟨s10, hq, h⟩ := nd_b1_e h
        have hPc := hP
        have hDc := hD
        have hKc := hK
        have hFc := nd_rs hD hS hA
        refine nd_cVv (As := [.ref (a 0), .int z4]) (rest := []) (w' := dw_X1p a ac s10) ⟨hx, hb, hml, hown, hts⟩ (fun sz => dm_X1_putPlain l hlt dC dI a ac n (z4) s6 hq sz) (cwV 2 hts gi_dm_X1_putAll_1 rfl rfl rfl (by decide +kernel) ⟨Nat.le_of_ble_eq_true rfl, Nat.le_of_ble_eq_true rfl⟩) hPc hDc hKc hS hA hN (va_recv hKc hPc (ci := 2) (q0 := 0) rfl rfl) rfl hl.1 rfl (Nat.le_of_ble_eq_true rfl) dX1_putAll_95 (fun H locs hP1 hD1 hk1 hS => ?_)
        have hP := hP1
        have hD := hD1.weaken (fun k q _ h => hFc q.1 h)
        refine lv_goto (tgt := 146) hx hb dX1_putAll_98 (by decide) ?_
        exact (db_X1_putAll_146 C K J10) (x2) s10 _ _ _ h hP hD hS (lv_sub hl [1, 2, 3] rfl)
      have h := nd_neg h c8
      by_cases c13 : (sR s6.2.1.1 0 (Int32.toNatClampNeg (z4 + 4))) = 1
      · have h := nd_pos h c13
        refine lv_tableIn (off := 51) (tgt := 101) hx hb dX1_putAll_50 (by rw [c13]; decide) (by rw [c13]; decide) (by rw [c13]; decide) (by decide) ?_
        exact (db_X1_putAll_101 C K J10) (x2) (z4) s6 _ _ _ h hP hD hS (lv_sub hl [1, 2, 3, 0] rfl)
      have h := nd_neg h c13
      by_cases c17 : (sR s6.2.1.1 0 (Int32.toNatClampNeg (z4 + 4))) = 2
      · have h := nd_pos h c17
        refine lv_tableIn (off := 51) (tgt := 101) hx hb dX1_putAll_50 (by rw [c17]; decide) (by rw [c17]; decide) (by rw [c17]; decide) (by decide) ?_
        exact (db_X1_putAll_101 C K J10) (x2) (z4) s6 _ _ _ h hP hD hS (lv_sub hl [1, 2, 3, 0] rfl)
      have h := nd_neg h c17
      by_cases c18 : (sR s6.2.1.1 0 (Int32.toNatClampNeg (z4 + 4))) = 3
      · have h := nd_pos h c18
        refine lv_tableIn (off := 60) (tgt := 110) hx hb dX1_putAll_50 (by rw [c18]; decide) (by rw [c18]; decide) (by rw [c18]; decide) (by decide) ?_
        refine lv_aload_n hx hb dX1_putAll_110 rfl (lv_at hl 1 rfl) ?_
        refine lv_aload_n hx hb dX1_putAll_111 rfl (lv_at hl 2 rfl) ?_
        refine lv_iload_n hx hb dX1_putAll_112 rfl (lv_at hl 0 rfl) ?_
        obtain ⟨s20, hq, h⟩ := nd_b1_e h
        have hPc := hP
        have hDc := hD
        have hKc := hK
        have hFc := nd_rs hD hS hA
        refine nd_cVv (As := [.ref (a 0), .int z4]) (rest := []) (w' := dw_X1p a ac s20) ⟨hx, hb, hml, hown, hts⟩ (fun sz => dm_X1_putAddress l hlt dC dI a ac n (z4) s6 hq sz) (cwV 2 hts gi_dm_X1_putAll_3 rfl rfl rfl (by decide +kernel) ⟨Nat.le_of_ble_eq_true rfl, Nat.le_of_ble_eq_true rfl⟩) hPc hDc hKc hS hA hN (va_recv hKc hPc (ci := 2) (q0 := 0) rfl rfl) rfl hl.1 rfl (Nat.le_of_ble_eq_true rfl) dX1_putAll_113 (fun H locs hP1 hD1 hk1 hS => ?_)
        have hP := hP1
        have hD := hD1.weaken (fun k q _ h => hFc q.1 h)
        refine lv_goto (tgt := 146) hx hb dX1_putAll_116 (by decide) ?_
        exact (db_X1_putAll_146 C K J10) (x2) s20 _ _ _ h hP hD hS (lv_sub hl [1, 2, 3] rfl)
      have h := nd_neg h c18
      by_cases c22 : (sR s6.2.1.1 0 (Int32.toNatClampNeg (z4 + 4))) = 4
      · have h := nd_pos h c22
        refine lv_tableIn (off := 69) (tgt := 119) hx hb dX1_putAll_50 (by rw [c22]; decide) (by rw [c22]; decide) (by rw [c22]; decide) (by decide) ?_
        refine lv_aload_n hx hb dX1_putAll_119 rfl (lv_at hl 1 rfl) ?_
        refine lv_aload_n hx hb dX1_putAll_120 rfl (lv_at hl 2 rfl) ?_
        refine lv_iload_n hx hb dX1_putAll_121 rfl (lv_at hl 0 rfl) ?_
        obtain ⟨s24, hq, h⟩ := nd_b1_e h
        have hPc := hP
        have hDc := hD
        have hKc := hK
        have hFc := nd_rs hD hS hA
        refine nd_cVv (As := [.ref (a 0), .int z4]) (rest := []) (w' := dw_X1p a ac s24) ⟨hx, hb, hml, hown, hts⟩ (fun sz => dm_X1_putNumber l hlt dC dI a ac n (z4) s6 hq sz) (cwV 2 hts gi_dm_X1_putAll_4 rfl rfl rfl (by decide +kernel) ⟨Nat.le_of_ble_eq_true rfl, Nat.le_of_ble_eq_true rfl⟩) hPc hDc hKc hS hA hN (va_recv hKc hPc (ci := 2) (q0 := 0) rfl rfl) rfl hl.1 rfl (Nat.le_of_ble_eq_true rfl) dX1_putAll_122 (fun H locs hP1 hD1 hk1 hS => ?_)
        have hP := hP1
        have hD := hD1.weaken (fun k q _ h => hFc q.1 h)
        refine lv_goto (tgt := 146) hx hb dX1_putAll_125 (by decide) ?_
        exact (db_X1_putAll_146 C K J10) (x2) s24 _ _ _ h hP hD hS (lv_sub hl [1, 2, 3] rfl)
      have h := nd_neg h c22
      by_cases c26 : (sR s6.2.1.1 0 (Int32.toNatClampNeg (z4 + 4))) = 5
      · have h := nd_pos h c26
        refine lv_tableIn (off := 78) (tgt := 128) hx hb dX1_putAll_50 (by rw [c26]; decide) (by rw [c26]; decide) (by rw [c26]; decide) (by decide) ?_
        refine lv_aload_n hx hb dX1_putAll_128 rfl (lv_at hl 1 rfl) ?_
        refine lv_aload_n hx hb dX1_putAll_129 rfl (lv_at hl 2 rfl) ?_
        refine lv_iload_n hx hb dX1_putAll_130 rfl (lv_at hl 0 rfl) ?_
        obtain ⟨s28, hq, h⟩ := nd_b1_e h
        have hPc := hP
        have hDc := hD
        have hKc := hK
        have hFc := nd_rs hD hS hA
        refine nd_cVv (As := [.ref (a 0), .int z4]) (rest := []) (w' := dw_X1p a ac s28) ⟨hx, hb, hml, hown, hts⟩ (fun sz => dm_X1_putList l hlt dC dI a ac n (z4) s6 hq sz) (cwV 2 hts gi_dm_X1_putAll_5 rfl rfl rfl (by decide +kernel) ⟨Nat.le_of_ble_eq_true rfl, Nat.le_of_ble_eq_true rfl⟩) hPc hDc hKc hS hA hN (va_recv hKc hPc (ci := 2) (q0 := 0) rfl rfl) rfl hl.1 rfl (Nat.le_of_ble_eq_true rfl) dX1_putAll_131 (fun H locs hP1 hD1 hk1 hS => ?_)
        have hP := hP1
        have hD := hD1.weaken (fun k q _ h => hFc q.1 h)
        refine lv_goto (tgt := 146) hx hb dX1_putAll_134 (by decide) ?_
        exact (db_X1_putAll_146 C K J10) (x2) s28 _ _ _ h hP hD hS (lv_sub hl [1, 2, 3] rfl)
      have h := nd_neg h c26
      by_cases c30 : (sR s6.2.1.1 0 (Int32.toNatClampNeg (z4 + 4))) = 6
      · have h := nd_pos h c30
        refine lv_tableIn (off := 87) (tgt := 137) hx hb dX1_putAll_50 (by rw [c30]; decide) (by rw [c30]; decide) (by rw [c30]; decide) (by decide) ?_
        refine lv_aload_n hx hb dX1_putAll_137 rfl (lv_at hl 1 rfl) ?_
        refine lv_aload_n hx hb dX1_putAll_138 rfl (lv_at hl 2 rfl) ?_
        refine lv_iload_n hx hb dX1_putAll_139 rfl (lv_at hl 0 rfl) ?_
        obtain ⟨s32, hq, h⟩ := nd_b1_e h
        have hPc := hP
        have hDc := hD
        have hKc := hK
        have hFc := nd_rs hD hS hA
        refine nd_cVv (As := [.ref (a 0), .int z4]) (rest := []) (w' := dw_X1p a ac s32) ⟨hx, hb, hml, hown, hts⟩ (fun sz => dm_X1_putTexts l hlt dC dI a ac n (z4) s6 hq sz) (cwV 2 hts gi_dm_X1_putAll_6 rfl rfl rfl (by decide +kernel) ⟨Nat.le_of_ble_eq_true rfl, Nat.le_of_ble_eq_true rfl⟩) hPc hDc hKc hS hA hN (va_recv hKc hPc (ci := 2) (q0 := 0) rfl rfl) rfl hl.1 rfl (Nat.le_of_ble_eq_true rfl) dX1_putAll_140 (fun H locs hP1 hD1 hk1 hS => ?_)
        have hP := hP1
        have hD := hD1.weaken (fun k q _ h => hFc q.1 h)
        refine lv_goto (tgt := 146) hx hb dX1_putAll_143 (by decide) ?_
        exact (db_X1_putAll_146 C K J10) (x2) s32 _ _ _ h hP hD hS (lv_sub hl [1, 2, 3] rfl)
      have h := nd_neg h c30
      refine lv_tableOut (tgt := 146) hx hb dX1_putAll_50 (by have g0 := nv_nei c8 (k := 0) (by decide); have g1 := nv_nei c13 (k := 1) (by decide); have g2 := nv_nei c17 (k := 2) (by decide); have g3 := nv_nei c18 (k := 3) (by decide); have g4 := nv_nei c22 (k := 4) (by decide); have g5 := nv_nei c26 (k := 5) (by decide); have g6 := nv_nei c30 (k := 6) (by decide); omega) (by decide) ?_
      exact (db_X1_putAll_146 C K J10) (x2) s6 _ _ _ h hP hD hS (lv_sub hl [1, 2, 3] rfl)
set_option maxHeartbeats 40000000 in
set_option maxRecDepth 100000 in
theorem db_X1_putAll_10 {p : Program} {l : Launch} {e : Env} {s : State} {m : MethodId} {args : Array Value} {below : List Frame} {meth : Method} {c : Code} {Q : State → Prop} {A : Nat → Prop} {dC : Nat → ClassId} {dI : Nat → Nat → Nat} {a : Nat → Nat} {ac : Nat → ClassId} {n : Nat} {r : St × (St × (St)) × (St)} (C : nd_C p l s m args c A (dC, dI) cX1_putAll 4 RX1 ow_dm_X1_putAll (dk_X1p ac)) (K : nd_Kv p l e (headSpec ow_dm_X1_putAll ({ frames := 5, cells := 0, slots := 0, locals := 114 })).room s m args below meth c Q A (dC, dI) cX1_putAll (St × (St × (St)) × (St)) (dw_X1p a ac) r) (k : Nat) : dj_X1_putAll_10 p l e s m args below meth c Q A dC dI a ac (df_X1_putAll_10 n k) r := by
  induction k with
  | zero => intro x2 s0 H locs ls h; exact nomatch (show (none : Option (St × (St × (St)) × (St))) = some r from h)
  | succ k ih => exact dB_X1_putAll_10 C K ih
set_option maxHeartbeats 40000000 in
set_option maxRecDepth 100000 in
theorem db_X1_putAll_0 {p : Program} {l : Launch} {e : Env} {s : State} {m : MethodId} {args : Array Value} {below : List Frame} {meth : Method} {c : Code} {Q : State → Prop} {A : Nat → Prop} {dC : Nat → ClassId} {dI : Nat → Nat → Nat} {a : Nat → Nat} {ac : Nat → ClassId} {n : Nat} {r : St × (St × (St)) × (St)} (C : nd_C p l s m args c A (dC, dI) cX1_putAll 4 RX1 ow_dm_X1_putAll (dk_X1p ac)) (K : nd_Kv p l e (headSpec ow_dm_X1_putAll ({ frames := 5, cells := 0, slots := 0, locals := 114 })).room s m args below meth c Q A (dC, dI) cX1_putAll (St × (St × (St)) × (St)) (dw_X1p a ac) r) : dj_X1_putAll_0 p l e s m args below meth c Q A dC dI a ac (df_X1_putAll_0 n) r := by
  obtain ⟨hlt, hx, hb, hml, hown, hts, hN, hA, hK⟩ := id C
  intro s0 H locs ls h hP hD hS hl
  unfold df_X1_putAll_0 at h
  refine lv_aload_n hx hb dX1_putAll_0 rfl (lv_at hl 1 rfl) ?_
  refine va_get (D := (dC, dI)) (ci := 9) (v := .ref (a 1)) (C := RX8) (T := TX8) (N := 10) hx hb hts hi_dm_X1_putAll_X8 hown hK hP 12 rfl rfl 0 (by decide) (hts (.fieldLink RX1 300 "TimeMachine$Program" "image" "[B") (List.mem_of_getElem? (i := 1) rfl)) (fun _ h9 => h9) rfl dX1_putAll_1 ?_
  refine lv_iconst (v := 0) hx hb dX1_putAll_4 (by decide) ?_
  have hcl : (dw_X1p a ac s0)[13]? = some ((a 1), .inl (ac 1, 32768, .inl (sR s0.2.2 0))) := rfl
  have hPc := nd_c1 hP hcl
  have hDc := nd_cd hD hcl
  have hKc : va_K (dC, dI) vwCl [(ac 1, .byte)] s := hK.sub [10] rfl
  have hFc := nd_rs hDc hS hA
  refine va_callv (va_runS (As := [.ref (a 1), .int 0]) (rest := []) ⟨hx, hb, hml, hown, hts⟩ (dm_J7_fill_031fb l hlt dC dI (a 1) (ac 1) 32768 (by decide) (sR s0.2.2 0) 0 _) (va_cwS 2 hts gi_dm_X1_putAll_0 rfl rfl rfl (by decide +kernel) ⟨Nat.le_of_ble_eq_true rfl, Nat.le_of_ble_eq_true rfl⟩) ⟨fun a U g mk q => by obtain ⟨q0, q1, qP, qK, qD, qN⟩ := q; exact ⟨q0, q1, qP, va_K.moved (u := U) (U := U.calling g mk a) (Vm.Alike.refl U.vm) qK, qD, nv_same rfl rfl qN⟩, fun U hU hW => ⟨rfl, by rw [hU], by rw [hU]; exact hPc, va_K.moved hW.alike hKc, hDc.weaken (fun _ _ _ _ => trivial), nv_call hS hFc hU hW hN⟩⟩ rfl rfl hl.1 rfl (lv_room (Nat.le_of_ble_eq_true rfl)) dX1_putAll_5 ⟨by decide +kernel, by decide +kernel⟩) hS (fun q _ h => hFc q h) hFc (fun u t H locs ht hvm hw hB hz1 hk1 hS => ?_)
  obtain ⟨hP1, -, hD1⟩ := hB
  rw [ht] at hP1
  have hP := nd_cs hP hD hcl hk1 hP1
  have hD := hD.set (e := .inl (ac 1, 32768, .inl (nd_fl 32768 (vp_nar .byte 0) (sR s0.2.2 0)))) hcl
  refine W.widen (k := 0) (n := 0) (Nat.le_refl _) (Nat.le_refl _) ?_
  obtain ⟨s1, es1, h⟩ := nd_let_e h
  have hP : va_P (dC, dI) vwCl (dw_X1p a ac s1) H := by rw [es1]; exact hP
  have hD : va_D A (dw_X1p a ac s1) := by rw [es1]; exact hD
  refine lv_iconst (v := 0) hx hb dX1_putAll_8 (by decide) ?_
  refine lv_istore_n (lv' := [(2, .int 0), (0, .ref (a 5)), (1, .ref (a 0))]) hx hb dX1_putAll_9 rfl hl (by decide) rfl (fun ls hl => ?_)
  exact (db_X1_putAll_10 C K n) (0) s1 _ _ _ h hP hD hS (lv_sub hl [1, 2, 0] rfl)
set_option maxHeartbeats 40000000 in
set_option maxRecDepth 100000 in
theorem dm_X1_putAll (l : Launch) (hlt : l.stackTraces = false) (dC : Nat → ClassId) (dI : Nat → Nat → Nat) (a : Nat → Nat) (ac : Nat → ClassId) (n : Nat) (s0 : St × (St × (St)) × (St)) {r : St × (St × (St)) × (St)} (h : df_X1_putAll n s0 = some r) (sz : Nat) : Met l yX1_putAll ow_dm_X1_putAll ({ frames := 5, cells := 0, slots := 0, locals := 114 }) (va_Pc [.ref (a 5), .ref (a 0)] (fun U => U.heap.size = sz ∧ va_P (dC, dI) vwCl (dw_X1p a ac s0) U.heap ∧ va_K (dC, dI) vwCl (dk_X1p ac) U ∧ va_D (fun _ => True) (dw_X1p a ac s0) ∧ nv_E dI (va_A (dw_X1p a ac s0) sz) U)) (va_Qv (fun _ => True) (fun (_ : Unit) t => va_P (dC, dI) vwCl (dw_X1p a ac r) t.heap ∧ va_K (dC, dI) vwCl (dk_X1p ac) t ∧ va_D (va_A (dw_X1p a ac s0) sz) (dw_X1p a ac r)) (va_A (dw_X1p a ac s0) sz)) 0 0 (va_A (dw_X1p a ac s0) sz) := by
  refine Met.ofW (cc := cX1_putAll) (maxL := 4) (ret := none) (by decide) rfl ?_
  intro p e s m args below meth c s₁ B hml hv
  obtain ⟨rfl, hsz, hP, hK, hD0, hN⟩ := hv
  have hx := B.exec
  have hb := B.bytes
  have hr := B.returns
  have hts := atoms_spec (ws := ow_dm_X1_putAll) B.pre
  have hown : s.vm.findClass RX1 = some m.cls := findClass_of_methodNamed B.named
  have hlocks := B.notSynchronized
  subst hsz
  have hD := hD0.self (sz := s.heap.size)
  generalize hAe : va_A (dw_X1p a ac s0) s.heap.size = A at hD hN ⊢
  have hA : ∀ q : Nat, s.heap.size ≤ q → A q := fun q h => by rw [← hAe]; exact Or.inr h
  have hl := lv_entry ([.ref (a 5), .ref (a 0)]) (n := 4) (Nat.le_of_ble_eq_true rfl)
  rw [lg_entry_eq]
  generalize (lg_sl ([.ref (a 5), .ref (a 0)]) ++ List.replicate (4 - (lg_sl ([.ref (a 5), .ref (a 0)])).length) Slot.unset).toArray = ls at hl ⊢
  have hl : lv_has ls 4 [(0, .ref (a 5)), (1, .ref (a 0))] := hl
  exact db_X1_putAll_0 (dC := dC) (dI := dI) (a := a) (ac := ac) (n := n) (r := r) ⟨hlt, hx, hb, hml, hown, hts, hN, hA, hK⟩ (fun pc τ H locs ls d er hP hD hS => by subst er; exact W.vret hx hb hr (fun t ht hW => ⟨⟨(), rfl, trivial, by rw [ht]; exact hP, va_K.moved hW.alike hK, hD⟩, hS.F ht⟩) hS.2.2 d) s0 _ _ _ h hP hD va_S.rf (lv_sub hl [0, 1] rfl)
def ow_dm_X9_readSign : List Cond := Cond.code yX9_readSign cX9_readSign 2 none :: ([Cond.fieldLink RX9 73 "TimeMachine$Reader" "kind" "I", Cond.fieldLink RX9 93 "TimeMachine$Reader" "number" "I", Cond.fieldLink RX9 55 "TimeMachine$Reader" "at" "I", Cond.fieldLink RX9 64 "TimeMachine$Reader" "stop" "I", Cond.methodLink RX9 58 Lib.Math.min.name, Cond.static Lib.Math.min.name, Cond.initialized "java/lang/Math", Cond.code Lib.Math.min.name Lib.Math.min.code 2 (some .int), Cond.fieldLink RX9 9 "TimeMachine$Reader" "source" "[B", Cond.methodLink RX9 107 yJ0_indexOf_0f7a4, Cond.instanceMethod yJ0_indexOf_0f7a4, Cond.selects RJ0 yJ0_indexOf_0f7a4 yJ0_indexOf_0f7a4, Cond.initialized RJ0] ++ (u_ws RX9 TX9 20 ++ (ow_dm_J0_indexOf_0f7a4 ++ [])))
theorem gd_dm_X9_readSign : ∀ w ∈ ow_dm_X9_readSign, (w.onTables && w.keeps) = true ∨ ∃ ty, w = Cond.arrayClass ty := List.forall_mem_cons.mpr ⟨good_of_word rfl, List.forall_mem_append.mpr ⟨fun w h => good_of_word (List.all_eq_true.mp (by decide +kernel) w h), List.forall_mem_append.mpr ⟨gu_X9, List.forall_mem_append.mpr ⟨gd_dm_J0_indexOf_0f7a4, fun _ h => nomatch h⟩⟩⟩⟩
theorem hi_dm_X9_readSign_X9 : ∀ w ∈ u_ws RX9 TX9 20, w ∈ ow_dm_X9_readSign := fun w h => List.mem_cons_of_mem _ (List.mem_append_right _ (List.mem_append_left _ h))
theorem gi_dm_X9_readSign_0 : GoodIn ow_dm_X9_readSign (wsV RX9 107 RJ0 yJ0_indexOf_0f7a4 ow_dm_J0_indexOf_0f7a4) := goodIn_app (goodIn_of _ (by decide +kernel)) (fun w h => ⟨List.mem_cons_of_mem _ (List.mem_append_right _ (List.mem_append_right _ (List.mem_append_left _ h))), gd_dm_J0_indexOf_0f7a4 w h⟩)
def dj_X9_readSign_121 (p : Program) (l : Launch) (e : Env) (s : State) (m : MethodId) (args : Array Value) (below : List Frame) (meth : Method) (c : Code) (Q : State → Prop) (A : Nat → Prop) (dC : Nat → ClassId) (dI : Nat → Nat → Nat) (a : Nat → Nat) (ac : Nat → ClassId) (g : (St) → Option (St)) (r : St) : Prop := ∀ (s0 : St) (H : Heap) (locs : List Loc) (ls : Array Slot), g s0 = some r → va_P (dC, dI) vwCl (dw_X9 a ac s0) H → va_D A (dw_X9 a ac s0) → va_S A s.heap H locs → lv_has ls 2 [] → W p l e (headSpec ow_dm_X9_readSign ({ frames := 4, cells := 0, slots := 0, locals := 91 })).room s m args below meth c H locs 0 0 Q (F0 m 121 ls [])
def dj_X9_readSign_82 (p : Program) (l : Launch) (e : Env) (s : State) (m : MethodId) (args : Array Value) (below : List Frame) (meth : Method) (c : Code) (Q : State → Prop) (A : Nat → Prop) (dC : Nat → ClassId) (dI : Nat → Nat → Nat) (a : Nat → Nat) (ac : Nat → ClassId) (g : Int32 → (St) → Option (St)) (r : St) : Prop := ∀ (y1 : Int32) (s0 : St) (H : Heap) (locs : List Loc) (ls : Array Slot), g y1 s0 = some r → va_P (dC, dI) vwCl (dw_X9 a ac s0) H → va_D A (dw_X9 a ac s0) → va_S A s.heap H locs → lv_has ls 2 [(0, .ref (a 0))] → W p l e (headSpec ow_dm_X9_readSign ({ frames := 4, cells := 0, slots := 0, locals := 91 })).room s m args below meth c H locs 0 0 Q (F0 m 82 ls [.int y1, .ref (a 0)])
def dj_X9_readSign_63 (p : Program) (l : Launch) (e : Env) (s : State) (m : MethodId) (args : Array Value) (below : List Frame) (meth : Method) (c : Code) (Q : State → Prop) (A : Nat → Prop) (dC : Nat → ClassId) (dI : Nat → Nat → Nat) (a : Nat → Nat) (ac : Nat → ClassId) (g : Int32 → Int32 → (St) → Option (St)) (r : St) : Prop := ∀ (x1 : Int32) (y1 : Int32) (s0 : St) (H : Heap) (locs : List Loc) (ls : Array Slot), g x1 y1 s0 = some r → va_P (dC, dI) vwCl (dw_X9 a ac s0) H → va_D A (dw_X9 a ac s0) → va_S A s.heap H locs → lv_has ls 2 [(0, .ref (a 0)), (1, .int x1)] → W p l e (headSpec ow_dm_X9_readSign ({ frames := 4, cells := 0, slots := 0, locals := 91 })).room s m args below meth c H locs 0 0 Q (F0 m 63 ls [.int y1, .ref (a 0)])
def dj_X9_readSign_61 (p : Program) (l : Launch) (e : Env) (s : State) (m : MethodId) (args : Array Value) (below : List Frame) (meth : Method) (c : Code) (Q : State → Prop) (A : Nat → Prop) (dC : Nat → ClassId) (dI : Nat → Nat → Nat) (a : Nat → Nat) (ac : Nat → ClassId) (g : Int32 → (St) → Option (St)) (r : St) : Prop := ∀ (x1 : Int32) (s0 : St) (H : Heap) (locs : List Loc) (ls : Array Slot), g x1 s0 = some r → va_P (dC, dI) vwCl (dw_X9 a ac s0) H → va_D A (dw_X9 a ac s0) → va_S A s.heap H locs → lv_has ls 2 [(0, .ref (a 0)), (1, .int x1)] → W p l e (headSpec ow_dm_X9_readSign ({ frames := 4, cells := 0, slots := 0, locals := 91 })).room s m args below meth c H locs 0 0 Q (F0 m 61 ls [.ref (a 0)])
def dj_X9_readSign_32 (p : Program) (l : Launch) (e : Env) (s : State) (m : MethodId) (args : Array Value) (below : List Frame) (meth : Method) (c : Code) (Q : State → Prop) (A : Nat → Prop) (dC : Nat → ClassId) (dI : Nat → Nat → Nat) (a : Nat → Nat) (ac : Nat → ClassId) (g : Int32 → (St) → Option (St)) (r : St) : Prop := ∀ (x1 : Int32) (s0 : St) (H : Heap) (locs : List Loc) (ls : Array Slot), g x1 s0 = some r → va_P (dC, dI) vwCl (dw_X9 a ac s0) H → va_D A (dw_X9 a ac s0) → va_S A s.heap H locs → lv_has ls 2 [(0, .ref (a 0)), (1, .int x1)] → W p l e (headSpec ow_dm_X9_readSign ({ frames := 4, cells := 0, slots := 0, locals := 91 })).room s m args below meth c H locs 0 0 Q (F0 m 32 ls [])
def dj_X9_readSign_0 (p : Program) (l : Launch) (e : Env) (s : State) (m : MethodId) (args : Array Value) (below : List Frame) (meth : Method) (c : Code) (Q : State → Prop) (A : Nat → Prop) (dC : Nat → ClassId) (dI : Nat → Nat → Nat) (a : Nat → Nat) (ac : Nat → ClassId) (g : Int32 → (St) → Option (St)) (r : St) : Prop := ∀ (v0 : Int32) (s0 : St) (H : Heap) (locs : List Loc) (ls : Array Slot), g v0 s0 = some r → va_P (dC, dI) vwCl (dw_X9 a ac s0) H → va_D A (dw_X9 a ac s0) → va_S A s.heap H locs → lv_has ls 2 [(0, .ref (a 0)), (1, .int v0)] → W p l e (headSpec ow_dm_X9_readSign ({ frames := 4, cells := 0, slots := 0, locals := 91 })).room s m args below meth c H locs 0 0 Q (F0 m 0 ls [])
set_option maxHeartbeats 40000000 in
set_option maxRecDepth 100000 in
theorem db_X9_readSign_121 {p : Program} {l : Launch} {e : Env} {s : State} {m : MethodId} {args : Array Value} {below : List Frame} {meth : Method} {c : Code} {Q : State → Prop} {A : Nat → Prop} {dC : Nat → ClassId} {dI : Nat → Nat → Nat} {a : Nat → Nat} {ac : Nat → ClassId} {n : Nat} {r : St} (C : nd_C p l s m args c A (dC, dI) cX9_readSign 2 RX9 ow_dm_X9_readSign (dk_X9 ac)) (K : nd_Kv p l e (headSpec ow_dm_X9_readSign ({ frames := 4, cells := 0, slots := 0, locals := 91 })).room s m args below meth c Q A (dC, dI) cX9_readSign (St) (dw_X9 a ac) r) : dj_X9_readSign_121 p l e s m args below meth c Q A dC dI a ac (df_X9_readSign_121 n) r := by
  obtain ⟨hlt, hx, hb, hml, hown, hts, hN, hA, hK⟩ := id C
  intro s0 H locs ls h hP hD hS hl
  unfold df_X9_readSign_121 at h
  exact K _ _ _ _ _ dX9_readSign_121 (Option.some.inj h).symm hP hD hS
set_option maxHeartbeats 40000000 in
set_option maxRecDepth 100000 in
theorem db_X9_readSign_82 {p : Program} {l : Launch} {e : Env} {s : State} {m : MethodId} {args : Array Value} {below : List Frame} {meth : Method} {c : Code} {Q : State → Prop} {A : Nat → Prop} {dC : Nat → ClassId} {dI : Nat → Nat → Nat} {a : Nat → Nat} {ac : Nat → ClassId} {n : Nat} {r : St} (C : nd_C p l s m args c A (dC, dI) cX9_readSign 2 RX9 ow_dm_X9_readSign (dk_X9 ac)) (K : nd_Kv p l e (headSpec ow_dm_X9_readSign ({ frames := 4, cells := 0, slots := 0, locals := 91 })).room s m args below meth c Q A (dC, dI) cX9_readSign (St) (dw_X9 a ac) r) : dj_X9_readSign_82 p l e s m args below meth c Q A dC dI a ac (df_X9_readSign_82 n) r := by
  obtain ⟨hlt, hx, hb, hml, hown, hts, hN, hA, hK⟩ := id C
  intro y1 s0 H locs ls h hP hD hS hl
  unfold df_X9_readSign_82 at h
  refine va_put (D := (dC, dI)) (ci := 10) (v := .int y1) (ty := .int) (C := RX9) (T := TX9) (N := 20) hx hb hts hi_dm_X9_readSign_X9 tyX9 tyX9_ok nmX9 hown hK hP hD hS 0 rfl rfl 5 (by decide) (hts (.fieldLink RX9 93 "TimeMachine$Reader" "number" "I") (List.mem_of_getElem? (i := 2) rfl)) (fun _ h9 => h9) rfl (by decide +kernel) rfl rfl (Nat.le_of_ble_eq_true rfl) dX9_readSign_82 (fun H locs hP hD hS => ?_)
  obtain ⟨s8, es8, h⟩ := nd_let_e h
  have hP : va_P (dC, dI) vwCl (dw_X9 a ac s8) H := by rw [es8]; exact hP
  have hD : va_D A (dw_X9 a ac s8) := by rw [es8]; exact hD
  refine lv_aload_n hx hb dX9_readSign_85 rfl (lv_at hl 0 rfl) ?_
  refine lv_aload_n hx hb dX9_readSign_86 rfl (lv_at hl 0 rfl) ?_
  refine va_get (D := (dC, dI)) (ci := 10) (v := .int (sI s8 0)) (C := RX9) (T := TX9) (N := 20) hx hb hts hi_dm_X9_readSign_X9 hown hK hP 0 rfl rfl 1 (by decide) (hts (.fieldLink RX9 55 "TimeMachine$Reader" "at" "I") (List.mem_of_getElem? (i := 3) rfl)) (fun _ h9 => h9) rfl dX9_readSign_87 ?_
  refine lv_iconst (v := 1) hx hb dX9_readSign_90 (by decide) ?_
  refine lv_iadd hx hb dX9_readSign_91 ?_
  refine lv_aload_n hx hb dX9_readSign_92 rfl (lv_at hl 0 rfl) ?_
  refine va_get (D := (dC, dI)) (ci := 10) (v := .int (sI s8 1)) (C := RX9) (T := TX9) (N := 20) hx hb hts hi_dm_X9_readSign_X9 hown hK hP 0 rfl rfl 2 (by decide) (hts (.fieldLink RX9 64 "TimeMachine$Reader" "stop" "I") (List.mem_of_getElem? (i := 4) rfl)) (fun _ h9 => h9) rfl dX9_readSign_93 ?_
  refine va_mmin hx hb (by rw [hml]; exact hl.1.symm) hown (hts (.methodLink RX9 58 Lib.Math.min.name) (List.mem_of_getElem? (i := 5) rfl)) (hts (.static Lib.Math.min.name) (List.mem_of_getElem? (i := 6) rfl)) (hts (.initialized "java/lang/Math") (List.mem_of_getElem? (i := 7) rfl)) (hts (.code Lib.Math.min.name Lib.Math.min.code 2 (some .int)) (List.mem_of_getElem? (i := 8) rfl)) (Nat.le_of_ble_eq_true rfl) (Nat.le_of_ble_eq_true rfl) (by decide +kernel) (by decide +kernel) dX9_readSign_96 ?_
  refine va_put (D := (dC, dI)) (ci := 10) (v := .int (if ((sI s8 1) : Int32) < ((sI s8 0) + 1) then (sI s8 1) else ((sI s8 0) + 1))) (ty := .int) (C := RX9) (T := TX9) (N := 20) hx hb hts hi_dm_X9_readSign_X9 tyX9 tyX9_ok nmX9 hown hK hP hD hS 0 rfl rfl 1 (by decide) (hts (.fieldLink RX9 55 "TimeMachine$Reader" "at" "I") (List.mem_of_getElem? (i := 3) rfl)) (fun _ h9 => h9) rfl (by decide +kernel) rfl rfl (Nat.le_of_ble_eq_true rfl) dX9_readSign_99 (fun H locs hP hD hS => ?_)
  obtain ⟨s9, es9, h⟩ := nd_let_e h
  have hP : va_P (dC, dI) vwCl (dw_X9 a ac s9) H := by rw [es9]; exact hP
  have hD : va_D A (dw_X9 a ac s9) := by rw [es9]; exact hD
  refine lv_goto (tgt := 121) hx hb dX9_readSign_102 (by decide) ?_
  exact (db_X9_readSign_121 C K)  s9 _ _ _ h hP hD hS (lv_sub hl [] rfl)
set_option maxHeartbeats 40000000 in
set_option maxRecDepth 100000 in
theorem db_X9_readSign_63 {p : Program} {l : Launch} {e : Env} {s : State} {m : MethodId} {args : Array Value} {below : List Frame} {meth : Method} {c : Code} {Q : State → Prop} {A : Nat → Prop} {dC : Nat → ClassId} {dI : Nat → Nat → Nat} {a : Nat → Nat} {ac : Nat → ClassId} {n : Nat} {r : St} (C : nd_C p l s m args c A (dC, dI) cX9_readSign 2 RX9 ow_dm_X9_readSign (dk_X9 ac)) (K : nd_Kv p l e (headSpec ow_dm_X9_readSign ({ frames := 4, cells := 0, slots := 0, locals := 91 })).room s m args below meth c Q A (dC, dI) cX9_readSign (St) (dw_X9 a ac) r) : dj_X9_readSign_63 p l e s m args below meth c Q A dC dI a ac (df_X9_readSign_63 n) r := by
  obtain ⟨hlt, hx, hb, hml, hown, hts, hN, hA, hK⟩ := id C
  intro x1 y1 s0 H locs ls h hP hD hS hl
  unfold df_X9_readSign_63 at h
  refine va_put (D := (dC, dI)) (ci := 10) (v := .int y1) (ty := .int) (C := RX9) (T := TX9) (N := 20) hx hb hts hi_dm_X9_readSign_X9 tyX9 tyX9_ok nmX9 hown hK hP hD hS 0 rfl rfl 3 (by decide) (hts (.fieldLink RX9 73 "TimeMachine$Reader" "kind" "I") (List.mem_of_getElem? (i := 1) rfl)) (fun _ h9 => h9) rfl (by decide +kernel) rfl rfl (Nat.le_of_ble_eq_true rfl) dX9_readSign_63 (fun H locs hP hD hS => ?_)
  obtain ⟨s6, es6, h⟩ := nd_let_e h
  have hP : va_P (dC, dI) vwCl (dw_X9 a ac s6) H := by rw [es6]; exact hP
  have hD : va_D A (dw_X9 a ac s6) := by rw [es6]; exact hD
  refine lv_aload_n hx hb dX9_readSign_66 rfl (lv_at hl 0 rfl) ?_
  refine lv_iload_n hx hb dX9_readSign_67 rfl (lv_at hl 1 rfl) ?_
  refine lv_bipush (v := 60) hx hb dX9_readSign_68 (by decide) ?_
  refine lv_icmp_ne (tgt := 79) hx hb dX9_readSign_70 (by decide) (fun c7 => ?_) (fun c7 => ?_)
  · have h := nd_neg h c7
    refine lv_sipush (v := 257) hx hb dX9_readSign_79 (by decide) ?_
    exact (db_X9_readSign_82 C K) (257) s6 _ _ _ h hP hD hS (lv_sub hl [0] rfl)
  · have h := nd_pos h c7
    refine lv_sipush (v := 256) hx hb dX9_readSign_73 (by decide) ?_
    refine lv_goto (tgt := 82) hx hb dX9_readSign_76 (by decide) ?_
    exact (db_X9_readSign_82 C K) (256) s6 _ _ _ h hP hD hS (lv_sub hl [0] rfl)
set_option maxHeartbeats 40000000 in
set_option maxRecDepth 100000 in
theorem db_X9_readSign_61 {p : Program} {l : Launch} {e : Env} {s : State} {m : MethodId} {args : Array Value} {below : List Frame} {meth : Method} {c : Code} {Q : State → Prop} {A : Nat → Prop} {dC : Nat → ClassId} {dI : Nat → Nat → Nat} {a : Nat → Nat} {ac : Nat → ClassId} {n : Nat} {r : St} (C : nd_C p l s m args c A (dC, dI) cX9_readSign 2 RX9 ow_dm_X9_readSign (dk_X9 ac)) (K : nd_Kv p l e (headSpec ow_dm_X9_readSign ({ frames := 4, cells := 0, slots := 0, locals := 91 })).room s m args below meth c Q A (dC, dI) cX9_readSign (St) (dw_X9 a ac) r) : dj_X9_readSign_61 p l e s m args below meth c Q A dC dI a ac (df_X9_readSign_61 n) r := by
  obtain ⟨hlt, hx, hb, hml, hown, hts, hN, hA, hK⟩ := id C
  intro x1 s0 H locs ls h hP hD hS hl
  unfold df_X9_readSign_61 at h
  refine lv_bipush (v := 6) hx hb dX9_readSign_61 (by decide) ?_
  exact (db_X9_readSign_63 C K) (x1) (6) s0 _ _ _ h hP hD hS (lv_sub hl [0, 1] rfl)
set_option maxHeartbeats 40000000 in
set_option maxRecDepth 100000 in
theorem db_X9_readSign_32 {p : Program} {l : Launch} {e : Env} {s : State} {m : MethodId} {args : Array Value} {below : List Frame} {meth : Method} {c : Code} {Q : State → Prop} {A : Nat → Prop} {dC : Nat → ClassId} {dI : Nat → Nat → Nat} {a : Nat → Nat} {ac : Nat → ClassId} {n : Nat} {r : St} (C : nd_C p l s m args c A (dC, dI) cX9_readSign 2 RX9 ow_dm_X9_readSign (dk_X9 ac)) (K : nd_Kv p l e (headSpec ow_dm_X9_readSign ({ frames := 4, cells := 0, slots := 0, locals := 91 })).room s m args below meth c Q A (dC, dI) cX9_readSign (St) (dw_X9 a ac) r) : dj_X9_readSign_32 p l e s m args below meth c Q A dC dI a ac (df_X9_readSign_32 n) r := by
  obtain ⟨hlt, hx, hb, hml, hown, hts, hN, hA, hK⟩ := id C
  intro x1 s0 H locs ls h hP hD hS hl
  unfold df_X9_readSign_32 at h
  refine lv_aload_n hx hb dX9_readSign_32 rfl (lv_at hl 0 rfl) ?_
  refine lv_aload_n hx hb dX9_readSign_33 rfl (lv_at hl 0 rfl) ?_
  refine va_get (D := (dC, dI)) (ci := 10) (v := .int (sI s0 0)) (C := RX9) (T := TX9) (N := 20) hx hb hts hi_dm_X9_readSign_X9 hown hK hP 0 rfl rfl 1 (by decide) (hts (.fieldLink RX9 55 "TimeMachine$Reader" "at" "I") (List.mem_of_getElem? (i := 3) rfl)) (fun _ h9 => h9) rfl dX9_readSign_34 ?_
  refine lv_aload_n hx hb dX9_readSign_37 rfl (lv_at hl 0 rfl) ?_
  refine va_get (D := (dC, dI)) (ci := 10) (v := .int (sI s0 1)) (C := RX9) (T := TX9) (N := 20) hx hb hts hi_dm_X9_readSign_X9 hown hK hP 0 rfl rfl 2 (by decide) (hts (.fieldLink RX9 64 "TimeMachine$Reader" "stop" "I") (List.mem_of_getElem? (i := 4) rfl)) (fun _ h9 => h9) rfl dX9_readSign_38 ?_
  refine lv_icmp_ge (tgt := 61) hx hb dX9_readSign_41 (by decide) (fun c5 => ?_) (fun c5 => ?_)
  · have h := nd_pos h c5
    exact (db_X9_readSign_61 C K) (x1) s0 _ _ _ h hP hD hS (lv_sub hl [0, 1] rfl)
  · have h := nd_neg h c5
    refine lv_aload_n hx hb dX9_readSign_44 rfl (lv_at hl 0 rfl) ?_
    obtain ⟨o10, h⟩ := nd_o_e h
    refine va_get (D := (dC, dI)) (ci := 10) (v := .ref (a 8)) (C := RX9) (T := TX9) (N := 20) hx hb hts hi_dm_X9_readSign_X9 hown hK hP 0 rfl rfl 0 (by decide) (hts (.fieldLink RX9 9 "TimeMachine$Reader" "source" "[B") (List.mem_of_getElem? (i := 9) rfl)) (fun _ h9 => h9) (congrArg (fun z => some (va_rf (Option.map a z))) o10) dX9_readSign_45 ?_
    refine lv_aload_n hx hb dX9_readSign_48 rfl (lv_at hl 0 rfl) ?_
    refine va_get (D := (dC, dI)) (ci := 10) (v := .int (sI s0 0)) (C := RX9) (T := TX9) (N := 20) hx hb hts hi_dm_X9_readSign_X9 hown hK hP 0 rfl rfl 1 (by decide) (hts (.fieldLink RX9 55 "TimeMachine$Reader" "at" "I") (List.mem_of_getElem? (i := 3) rfl)) (fun _ h9 => h9) rfl dX9_readSign_49 ?_
    obtain ⟨i11, h⟩ := nd_ck_e h
    refine va_bald (i := (sI s0 0)) hx hb hK hP 8 7 rfl rfl i11 dX9_readSign_52 ?_
    refine lv_iload_n hx hb dX9_readSign_53 rfl (lv_at hl 1 rfl) ?_
    refine lv_icmp_ne (tgt := 61) hx hb dX9_readSign_54 (by decide) (fun c12 => ?_) (fun c12 => ?_)
    · have h := nd_neg h c12
      exact (db_X9_readSign_61 C K) (x1) s0 _ _ _ h hP hD hS (lv_sub hl [0, 1] rfl)
    · have h := nd_pos h c12
      refine lv_iconst (v := 5) hx hb dX9_readSign_57 (by decide) ?_
      refine lv_goto (tgt := 63) hx hb dX9_readSign_58 (by decide) ?_
      exact (db_X9_readSign_63 C K) (x1) (5) s0 _ _ _ h hP hD hS (lv_sub hl [0, 1] rfl)
set_option maxHeartbeats 40000000 in
set_option maxRecDepth 100000 in
theorem db_X9_readSign_0 {p : Program} {l : Launch} {e : Env} {s : State} {m : MethodId} {args : Array Value} {below : List Frame} {meth : Method} {c : Code} {Q : State → Prop} {A : Nat → Prop} {dC : Nat → ClassId} {dI : Nat → Nat → Nat} {a : Nat → Nat} {ac : Nat → ClassId} {n : Nat} {r : St} (C : nd_C p l s m args c A (dC, dI) cX9_readSign 2 RX9 ow_dm_X9_readSign (dk_X9 ac)) (K : nd_Kv p l e (headSpec ow_dm_X9_readSign ({ frames := 4, cells := 0, slots := 0, locals := 91 })).room s m args below meth c Q A (dC, dI) cX9_readSign (St) (dw_X9 a ac) r) : dj_X9_readSign_0 p l e s m args below meth c Q A dC dI a ac (df_X9_readSign_0 n) r := by
  obtain ⟨hlt, hx, hb, hml, hown, hts, hN, hA, hK⟩ := id C
  intro v0 s0 H locs ls h hP hD hS hl
  unfold df_X9_readSign_0 at h
  refine lv_aload_n hx hb dX9_readSign_0 rfl (lv_at hl 0 rfl) ?_
  refine lv_iconst (v := 5) hx hb dX9_readSign_1 (by decide) ?_
  refine va_put (D := (dC, dI)) (ci := 10) (v := .int 5) (ty := .int) (C := RX9) (T := TX9) (N := 20) hx hb hts hi_dm_X9_readSign_X9 tyX9 tyX9_ok nmX9 hown hK hP hD hS 0 rfl rfl 3 (by decide) (hts (.fieldLink RX9 73 "TimeMachine$Reader" "kind" "I") (List.mem_of_getElem? (i := 1) rfl)) (fun _ h9 => h9) rfl (by decide +kernel) rfl rfl (Nat.le_of_ble_eq_true rfl) dX9_readSign_2 (fun H locs hP hD hS => ?_)
  obtain ⟨s1, es1, h⟩ := nd_let_e h
  have hP : va_P (dC, dI) vwCl (dw_X9 a ac s1) H := by rw [es1]; exact hP
  have hD : va_D A (dw_X9 a ac s1) := by rw [es1]; exact hD
  refine lv_aload_n hx hb dX9_readSign_5 rfl (lv_at hl 0 rfl) ?_
  refine lv_iload_n hx hb dX9_readSign_6 rfl (lv_at hl 1 rfl) ?_
  refine va_put (D := (dC, dI)) (ci := 10) (v := .int v0) (ty := .int) (C := RX9) (T := TX9) (N := 20) hx hb hts hi_dm_X9_readSign_X9 tyX9 tyX9_ok nmX9 hown hK hP hD hS 0 rfl rfl 5 (by decide) (hts (.fieldLink RX9 93 "TimeMachine$Reader" "number" "I") (List.mem_of_getElem? (i := 2) rfl)) (fun _ h9 => h9) rfl (by decide +kernel) rfl rfl (Nat.le_of_ble_eq_true rfl) dX9_readSign_7 (fun H locs hP hD hS => ?_)
  obtain ⟨s2, es2, h⟩ := nd_let_e h
  have hP : va_P (dC, dI) vwCl (dw_X9 a ac s2) H := by rw [es2]; exact hP
  have hD : va_D A (dw_X9 a ac s2) := by rw [es2]; exact hD
  refine lv_aload_n hx hb dX9_readSign_10 rfl (lv_at hl 0 rfl) ?_
  refine lv_dup hx hb dX9_readSign_11 rfl ?_
  refine va_get (D := (dC, dI)) (ci := 10) (v := .int (sI s2 0)) (C := RX9) (T := TX9) (N := 20) hx hb hts hi_dm_X9_readSign_X9 hown hK hP 0 rfl rfl 1 (by decide) (hts (.fieldLink RX9 55 "TimeMachine$Reader" "at" "I") (List.mem_of_getElem? (i := 3) rfl)) (fun _ h9 => h9) rfl dX9_readSign_12 ?_
  refine lv_iconst (v := 1) hx hb dX9_readSign_15 (by decide) ?_
  refine lv_iadd hx hb dX9_readSign_16 ?_
  refine va_put (D := (dC, dI)) (ci := 10) (v := .int ((sI s2 0) + 1)) (ty := .int) (C := RX9) (T := TX9) (N := 20) hx hb hts hi_dm_X9_readSign_X9 tyX9 tyX9_ok nmX9 hown hK hP hD hS 0 rfl rfl 1 (by decide) (hts (.fieldLink RX9 55 "TimeMachine$Reader" "at" "I") (List.mem_of_getElem? (i := 3) rfl)) (fun _ h9 => h9) rfl (by decide +kernel) rfl rfl (Nat.le_of_ble_eq_true rfl) dX9_readSign_17 (fun H locs hP hD hS => ?_)
  obtain ⟨s3, es3, h⟩ := nd_let_e h
  have hP : va_P (dC, dI) vwCl (dw_X9 a ac s3) H := by rw [es3]; exact hP
  have hD : va_D A (dw_X9 a ac s3) := by rw [es3]; exact hD
  refine lv_iload_n hx hb dX9_readSign_20 rfl (lv_at hl 1 rfl) ?_
  refine lv_bipush (v := 60) hx hb dX9_readSign_21 (by decide) ?_
  refine lv_icmp_eq (tgt := 32) hx hb dX9_readSign_23 (by decide) (fun c4 => ?_) (fun c4 => ?_)
  · have h := nd_pos h c4
    exact (db_X9_readSign_32 C K) (v0) s3 _ _ _ h hP hD hS (lv_sub hl [0, 1] rfl)
  · have h := nd_neg h c4
    refine lv_iload_n hx hb dX9_readSign_26 rfl (lv_at hl 1 rfl) ?_
    refine lv_bipush (v := 62) hx hb dX9_readSign_27 (by decide) ?_
    refine lv_icmp_ne (tgt := 105) hx hb dX9_readSign_29 (by decide) (fun c13 => ?_) (fun c13 => ?_)
    · have h := nd_neg h c13
      have z14 : vk_R RX9 105 ":,()+-*/%&|^~" (dI 1000 17) s := hN.2.2.2.2.2.2.2.2.2.2.2.2.1 17 (by decide)
      refine va_ldcS hx hb hown z14 dX9_readSign_105 ?_
      refine lv_iload_n hx hb dX9_readSign_107 rfl (lv_at hl 1 rfl) ?_
      refine lv_i2c hx hb dX9_readSign_108 rfl ?_
      obtain ⟨q15, s16, hq, h⟩ := nd_b2_e h
      have hPc : va_P (dC, dI) vwCl (dw_P a ac ()) H := nd_p0
      have hDc : va_D A (dw_P a ac ()) := nd_d0
      have hKc : va_K (dC, dI) vwCl (dk_P ac) s := nd_y0 hK
      have hFc : ∀ q, va_A (dw_P a ac ()) H.size q → A q := nd_r0 hS hA
      refine nd_cVi (As := [.int (v0.toUInt32.toUInt16.toUInt32.toInt32)]) (rest := []) (q := q15) (w' := dw_P a ac s16) ⟨hx, hb, hml, hown, hts⟩ (fun sz => dm_J0_indexOf_0f7a4 l hlt dC dI a ac n (17) ((v0.toUInt32.toUInt16.toUInt32.toInt32)) () hq sz) (cwV 1 hts gi_dm_X9_readSign_0 rfl rfl rfl (by decide +kernel) ⟨Nat.le_of_ble_eq_true rfl, Nat.le_of_ble_eq_true rfl⟩) hPc hDc hKc hS hA hN (nv_rcv hN.2.2.2.2.2.2.2.2.2.2.2 (by decide) hS) rfl hl.1 rfl (Nat.le_of_ble_eq_true rfl) dX9_readSign_109 (fun H locs hP1 hD1 hk1 hS => ?_)
      have hP := nd_n0 hP hk1
      refine lv_if_ge (tgt := 121) hx hb dX9_readSign_112 (by decide) (fun c18 => ?_) (fun c18 => ?_)
      · have h := nd_pos h c18
        exact (db_X9_readSign_121 C K)  s3 _ _ _ h hP hD hS (lv_sub hl [] rfl)
      · have h := nd_neg h c18
        refine lv_aload_n hx hb dX9_readSign_115 rfl (lv_at hl 0 rfl) ?_
        refine lv_bipush (v := 6) hx hb dX9_readSign_116 (by decide) ?_
        refine va_put (D := (dC, dI)) (ci := 10) (v := .int 6) (ty := .int) (C := RX9) (T := TX9) (N := 20) hx hb hts hi_dm_X9_readSign_X9 tyX9 tyX9_ok nmX9 hown hK hP hD hS 0 rfl rfl 3 (by decide) (hts (.fieldLink RX9 73 "TimeMachine$Reader" "kind" "I") (List.mem_of_getElem? (i := 1) rfl)) (fun _ h9 => h9) rfl (by decide +kernel) rfl rfl (Nat.le_of_ble_eq_true rfl) dX9_readSign_118 (fun H locs hP hD hS => ?_)
        obtain ⟨s19, es19, h⟩ := nd_let_e h
        have hP : va_P (dC, dI) vwCl (dw_X9 a ac s19) H := by rw [es19]; exact hP
        have hD : va_D A (dw_X9 a ac s19) := by rw [es19]; exact hD
        exact (db_X9_readSign_121 C K)  s19 _ _ _ h hP hD hS (lv_sub hl [] rfl)
    · have h := nd_pos h c13
      exact (db_X9_readSign_32 C K) (v0) s3 _ _ _ h hP hD hS (lv_sub hl [0, 1] rfl)
set_option maxHeartbeats 40000000 in
set_option maxRecDepth 100000 in
theorem dm_X9_readSign (l : Launch) (hlt : l.stackTraces = false) (dC : Nat → ClassId) (dI : Nat → Nat → Nat) (a : Nat → Nat) (ac : Nat → ClassId) (n : Nat) (v0 : Int32) (s0 : St) {r : St} (h : df_X9_readSign n v0 s0 = some r) (sz : Nat) : Met l yX9_readSign ow_dm_X9_readSign ({ frames := 4, cells := 0, slots := 0, locals := 91 }) (va_Pc [.ref (a 0), .int v0] (fun U => U.heap.size = sz ∧ va_P (dC, dI) vwCl (dw_X9 a ac s0) U.heap ∧ va_K (dC, dI) vwCl (dk_X9 ac) U ∧ va_D (fun _ => True) (dw_X9 a ac s0) ∧ nv_E dI (va_A (dw_X9 a ac s0) sz) U)) (va_Qv (fun _ => True) (fun (_ : Unit) t => va_P (dC, dI) vwCl (dw_X9 a ac r) t.heap ∧ va_K (dC, dI) vwCl (dk_X9 ac) t ∧ va_D (va_A (dw_X9 a ac s0) sz) (dw_X9 a ac r)) (va_A (dw_X9 a ac s0) sz)) 0 0 (va_A (dw_X9 a ac s0) sz) := by
  refine Met.ofW (cc := cX9_readSign) (maxL := 2) (ret := none) (by decide) rfl ?_
  intro p e s m args below meth c s₁ B hml hv
  obtain ⟨rfl, hsz, hP, hK, hD0, hN⟩ := hv
  have hx := B.exec
  have hb := B.bytes
  have hr := B.returns
  have hts := atoms_spec (ws := ow_dm_X9_readSign) B.pre
  have hown : s.vm.findClass RX9 = some m.cls := findClass_of_methodNamed B.named
  have hlocks := B.notSynchronized
  subst hsz
  have hD := hD0.self (sz := s.heap.size)
  generalize hAe : va_A (dw_X9 a ac s0) s.heap.size = A at hD hN ⊢
  have hA : ∀ q : Nat, s.heap.size ≤ q → A q := fun q h => by rw [← hAe]; exact Or.inr h
  have hl := lv_entry ([.ref (a 0), .int v0]) (n := 2) (Nat.le_of_ble_eq_true rfl)
  rw [lg_entry_eq]
  generalize (lg_sl ([.ref (a 0), .int v0]) ++ List.replicate (2 - (lg_sl ([.ref (a 0), .int v0])).length) Slot.unset).toArray = ls at hl ⊢
  have hl : lv_has ls 2 [(0, .ref (a 0)), (1, .int v0)] := hl
  exact db_X9_readSign_0 (dC := dC) (dI := dI) (a := a) (ac := ac) (n := n) (r := r) ⟨hlt, hx, hb, hml, hown, hts, hN, hA, hK⟩ (fun pc τ H locs ls d er hP hD hS => by subst er; exact W.vret hx hb hr (fun t ht hW => ⟨⟨(), rfl, trivial, by rw [ht]; exact hP, va_K.moved hW.alike hK, hD⟩, hS.F ht⟩) hS.2.2 d) v0 s0 _ _ _ h hP hD va_S.rf (lv_sub hl [0, 1] rfl)
def ow_dm_X9_character : List Cond := Cond.code yX9_character cX9_character 5 (some .int) :: ([Cond.fieldLink RX9 64 "TimeMachine$Reader" "stop" "I", Cond.fieldLink RX9 9 "TimeMachine$Reader" "source" "[B"] ++ (u_ws RX9 TX9 20 ++ []))
theorem gd_dm_X9_character : ∀ w ∈ ow_dm_X9_character, (w.onTables && w.keeps) = true ∨ ∃ ty, w = Cond.arrayClass ty := List.forall_mem_cons.mpr ⟨good_of_word rfl, List.forall_mem_append.mpr ⟨fun w h => good_of_word (List.all_eq_true.mp (by decide +kernel) w h), List.forall_mem_append.mpr ⟨gu_X9, fun _ h => nomatch h⟩⟩⟩
theorem hi_dm_X9_character_X9 : ∀ w ∈ u_ws RX9 TX9 20, w ∈ ow_dm_X9_character := fun w h => List.mem_cons_of_mem _ (List.mem_append_right _ (List.mem_append_left _ h))
def dj_X9_character_12 (p : Program) (l : Launch) (e : Env) (s : State) (m : MethodId) (args : Array Value) (below : List Frame) (meth : Method) (c : Code) (Q : State → Prop) (A : Nat → Prop) (dC : Nat → ClassId) (dI : Nat → Nat → Nat) (a : Nat → Nat) (ac : Nat → ClassId) (g : (St) → Option (Int32 × (St))) (r : Int32 × (St)) : Prop := ∀ (s0 : St) (H : Heap) (locs : List Loc) (ls : Array Slot), g s0 = some r → va_P (dC, dI) vwCl (dw_X9 a ac s0) H → va_D A (dw_X9 a ac s0) → va_S A s.heap H locs → lv_has ls 5 [] → W p l e (headSpec ow_dm_X9_character ({ frames := 0, cells := 0, slots := 0, locals := 0 })).room s m args below meth c H locs 0 0 Q (F0 m 12 ls [])
def dj_X9_character_132 (p : Program) (l : Launch) (e : Env) (s : State) (m : MethodId) (args : Array Value) (below : List Frame) (meth : Method) (c : Code) (Q : State → Prop) (A : Nat → Prop) (dC : Nat → ClassId) (dI : Nat → Nat → Nat) (a : Nat → Nat) (ac : Nat → ClassId) (g : Int32 → (St) → Option (Int32 × (St))) (r : Int32 × (St)) : Prop := ∀ (x4 : Int32) (s0 : St) (H : Heap) (locs : List Loc) (ls : Array Slot), g x4 s0 = some r → va_P (dC, dI) vwCl (dw_X9 a ac s0) H → va_D A (dw_X9 a ac s0) → va_S A s.heap H locs → lv_has ls 5 [(4, .int x4)] → W p l e (headSpec ow_dm_X9_character ({ frames := 0, cells := 0, slots := 0, locals := 0 })).room s m args below meth c H locs 0 0 Q (F0 m 132 ls [])
def dj_X9_character_60 (p : Program) (l : Launch) (e : Env) (s : State) (m : MethodId) (args : Array Value) (below : List Frame) (meth : Method) (c : Code) (Q : State → Prop) (A : Nat → Prop) (dC : Nat → ClassId) (dI : Nat → Nat → Nat) (a : Nat → Nat) (ac : Nat → ClassId) (g : Int32 → (St) → Option (Int32 × (St))) (r : Int32 × (St)) : Prop := ∀ (y0 : Int32) (s0 : St) (H : Heap) (locs : List Loc) (ls : Array Slot), g y0 s0 = some r → va_P (dC, dI) vwCl (dw_X9 a ac s0) H → va_D A (dw_X9 a ac s0) → va_S A s.heap H locs → lv_has ls 5 [] → W p l e (headSpec ow_dm_X9_character ({ frames := 0, cells := 0, slots := 0, locals := 0 })).room s m args below meth c H locs 0 0 Q (F0 m 60 ls [.int y0])
def dj_X9_character_37 (p : Program) (l : Launch) (e : Env) (s : State) (m : MethodId) (args : Array Value) (below : List Frame) (meth : Method) (c : Code) (Q : State → Prop) (A : Nat → Prop) (dC : Nat → ClassId) (dI : Nat → Nat → Nat) (a : Nat → Nat) (ac : Nat → ClassId) (g : Int32 → (St) → Option (Int32 × (St))) (r : Int32 × (St)) : Prop := ∀ (y0 : Int32) (s0 : St) (H : Heap) (locs : List Loc) (ls : Array Slot), g y0 s0 = some r → va_P (dC, dI) vwCl (dw_X9 a ac s0) H → va_D A (dw_X9 a ac s0) → va_S A s.heap H locs → lv_has ls 5 [] → W p l e (headSpec ow_dm_X9_character ({ frames := 0, cells := 0, slots := 0, locals := 0 })).room s m args below meth c H locs 0 0 Q (F0 m 37 ls [.int y0])
def dj_X9_character_0 (p : Program) (l : Launch) (e : Env) (s : State) (m : MethodId) (args : Array Value) (below : List Frame) (meth : Method) (c : Code) (Q : State → Prop) (A : Nat → Prop) (dC : Nat → ClassId) (dI : Nat → Nat → Nat) (a : Nat → Nat) (ac : Nat → ClassId) (g : Int32 → Int32 → (St) → Option (Int32 × (St))) (r : Int32 × (St)) : Prop := ∀ (v0 : Int32) (v1 : Int32) (s0 : St) (H : Heap) (locs : List Loc) (ls : Array Slot), g v0 v1 s0 = some r → va_P (dC, dI) vwCl (dw_X9 a ac s0) H → va_D A (dw_X9 a ac s0) → va_S A s.heap H locs → lv_has ls 5 [(0, .ref (a 0)), (1, .int v0), (2, .int v1)] → W p l e (headSpec ow_dm_X9_character ({ frames := 0, cells := 0, slots := 0, locals := 0 })).room s m args below meth c H locs 0 0 Q (F0 m 0 ls [])
set_option maxHeartbeats 40000000 in
set_option maxRecDepth 100000 in
theorem db_X9_character_12 {p : Program} {l : Launch} {e : Env} {s : State} {m : MethodId} {args : Array Value} {below : List Frame} {meth : Method} {c : Code} {Q : State → Prop} {A : Nat → Prop} {dC : Nat → ClassId} {dI : Nat → Nat → Nat} {a : Nat → Nat} {ac : Nat → ClassId} {n : Nat} {r : Int32 × (St)} (C : nd_C p l s m args c A (dC, dI) cX9_character 5 RX9 ow_dm_X9_character (dk_X9 ac)) (K : nd_Ki p l e (headSpec ow_dm_X9_character ({ frames := 0, cells := 0, slots := 0, locals := 0 })).room s m args below meth c Q A (dC, dI) cX9_character .int (St) (dw_X9 a ac) r) : dj_X9_character_12 p l e s m args below meth c Q A dC dI a ac (df_X9_character_12 n) r := by
  obtain ⟨hlt, hx, hb, hml, hown, hts, hN, hA, hK⟩ := id C
  intro s0 H locs ls h hP hD hS hl
  unfold df_X9_character_12 at h
  refine lv_iconst (v := (-1)) hx hb dX9_character_12 (by decide) ?_
  exact K _ _ _ _ _ _ dX9_character_13 rfl (Option.some.inj h).symm hP hD hS
set_option maxHeartbeats 40000000 in
set_option maxRecDepth 100000 in
theorem db_X9_character_132 {p : Program} {l : Launch} {e : Env} {s : State} {m : MethodId} {args : Array Value} {below : List Frame} {meth : Method} {c : Code} {Q : State → Prop} {A : Nat → Prop} {dC : Nat → ClassId} {dI : Nat → Nat → Nat} {a : Nat → Nat} {ac : Nat → ClassId} {n : Nat} {r : Int32 × (St)} (C : nd_C p l s m args c A (dC, dI) cX9_character 5 RX9 ow_dm_X9_character (dk_X9 ac)) (K : nd_Ki p l e (headSpec ow_dm_X9_character ({ frames := 0, cells := 0, slots := 0, locals := 0 })).room s m args below meth c Q A (dC, dI) cX9_character .int (St) (dw_X9 a ac) r) : dj_X9_character_132 p l e s m args below meth c Q A dC dI a ac (df_X9_character_132 n) r := by
  obtain ⟨hlt, hx, hb, hml, hown, hts, hN, hA, hK⟩ := id C
  intro x4 s0 H locs ls h hP hD hS hl
  unfold df_X9_character_132 at h
  refine lv_iload hx hb dX9_character_132 (lv_at hl 0 rfl) ?_
  exact K _ _ _ _ _ _ dX9_character_134 rfl (Option.some.inj h).symm hP hD hS
set_option maxHeartbeats 40000000 in
set_option maxRecDepth 100000 in
theorem db_X9_character_60 {p : Program} {l : Launch} {e : Env} {s : State} {m : MethodId} {args : Array Value} {below : List Frame} {meth : Method} {c : Code} {Q : State → Prop} {A : Nat → Prop} {dC : Nat → ClassId} {dI : Nat → Nat → Nat} {a : Nat → Nat} {ac : Nat → ClassId} {n : Nat} {r : Int32 × (St)} (C : nd_C p l s m args c A (dC, dI) cX9_character 5 RX9 ow_dm_X9_character (dk_X9 ac)) (K : nd_Ki p l e (headSpec ow_dm_X9_character ({ frames := 0, cells := 0, slots := 0, locals := 0 })).room s m args below meth c Q A (dC, dI) cX9_character .int (St) (dw_X9 a ac) r) : dj_X9_character_60 p l e s m args below meth c Q A dC dI a ac (df_X9_character_60 n) r := by
  obtain ⟨hlt, hx, hb, hml, hown, hts, hN, hA, hK⟩ := id C
  intro y0 s0 H locs ls h hP hD hS hl
  unfold df_X9_character_60 at h
  refine lv_istore (lv' := [(4, .int y0)]) hx hb dX9_character_60 hl (by decide) rfl (fun ls hl => ?_)
  refine lv_iload hx hb dX9_character_62 (lv_at hl 0 rfl) ?_
  by_cases c8 : y0 = 34
  · have h := nd_pos h c8
    refine lv_lookup (off := 68) (tgt := 132) hx hb dX9_character_64 (by decide) (by rw [c8]; decide) (by decide) ?_
    exact (db_X9_character_132 C K) (y0) s0 _ _ _ h hP hD hS (lv_sub hl [0] rfl)
  have h := nd_neg h c8
  by_cases c9 : y0 = 39
  · have h := nd_pos h c9
    refine lv_lookup (off := 68) (tgt := 132) hx hb dX9_character_64 (by decide) (by rw [c9]; decide) (by decide) ?_
    exact (db_X9_character_132 C K) (y0) s0 _ _ _ h hP hD hS (lv_sub hl [0] rfl)
  have h := nd_neg h c9
  by_cases c10 : y0 = 48
  · have h := nd_pos h c10
    refine lv_lookup (off := 66) (tgt := 130) hx hb dX9_character_64 (by decide) (by rw [c10]; decide) (by decide) ?_
    refine lv_iconst (v := 0) hx hb dX9_character_130 (by decide) ?_
    exact K _ _ _ _ _ _ dX9_character_131 rfl (Option.some.inj h).symm hP hD hS
  have h := nd_neg h c10
  by_cases c11 : y0 = 92
  · have h := nd_pos h c11
    refine lv_lookup (off := 68) (tgt := 132) hx hb dX9_character_64 (by decide) (by rw [c11]; decide) (by decide) ?_
    exact (db_X9_character_132 C K) (y0) s0 _ _ _ h hP hD hS (lv_sub hl [0] rfl)
  have h := nd_neg h c11
  by_cases c12 : y0 = 110
  · have h := nd_pos h c12
    refine lv_lookup (off := 60) (tgt := 124) hx hb dX9_character_64 (by decide) (by rw [c12]; decide) (by decide) ?_
    refine lv_bipush (v := 10) hx hb dX9_character_124 (by decide) ?_
    exact K _ _ _ _ _ _ dX9_character_126 rfl (Option.some.inj h).symm hP hD hS
  have h := nd_neg h c12
  by_cases c13 : y0 = 116
  · have h := nd_pos h c13
    refine lv_lookup (off := 63) (tgt := 127) hx hb dX9_character_64 (by decide) (by rw [c13]; decide) (by decide) ?_
    refine lv_bipush (v := 9) hx hb dX9_character_127 (by decide) ?_
    exact K _ _ _ _ _ _ dX9_character_129 rfl (Option.some.inj h).symm hP hD hS
  have h := nd_neg h c13
  refine lv_lookup (off := 71) (tgt := 135) hx hb dX9_character_64 (by decide) (show Op.lookupswitch.offset [(34, 68), (39, 68), (48, 66), (92, 68), (110, 60), (116, 63)] 71 (y0 : Int32).toInt = 71 by rw [lv_osw c8 (by decide), lv_osw c9 (by decide), lv_osw c10 (by decide), lv_osw c11 (by decide), lv_osw c12 (by decide), lv_osw c13 (by decide)] <;> rfl) (by decide) ?_
  refine lv_iconst (v := (-1)) hx hb dX9_character_135 (by decide) ?_
  exact K _ _ _ _ _ _ dX9_character_136 rfl (Option.some.inj h).symm hP hD hS
set_option maxHeartbeats 40000000 in
set_option maxRecDepth 100000 in
theorem db_X9_character_37 {p : Program} {l : Launch} {e : Env} {s : State} {m : MethodId} {args : Array Value} {below : List Frame} {meth : Method} {c : Code} {Q : State → Prop} {A : Nat → Prop} {dC : Nat → ClassId} {dI : Nat → Nat → Nat} {a : Nat → Nat} {ac : Nat → ClassId} {n : Nat} {r : Int32 × (St)} (C : nd_C p l s m args c A (dC, dI) cX9_character 5 RX9 ow_dm_X9_character (dk_X9 ac)) (K : nd_Ki p l e (headSpec ow_dm_X9_character ({ frames := 0, cells := 0, slots := 0, locals := 0 })).room s m args below meth c Q A (dC, dI) cX9_character .int (St) (dw_X9 a ac) r) : dj_X9_character_37 p l e s m args below meth c Q A dC dI a ac (df_X9_character_37 n) r := by
  obtain ⟨hlt, hx, hb, hml, hown, hts, hN, hA, hK⟩ := id C
  intro y0 s0 H locs ls h hP hD hS hl
  unfold df_X9_character_37 at h
  exact K _ _ _ _ _ _ dX9_character_37 rfl (Option.some.inj h).symm hP hD hS
set_option maxHeartbeats 40000000 in
set_option maxRecDepth 100000 in
theorem db_X9_character_0 {p : Program} {l : Launch} {e : Env} {s : State} {m : MethodId} {args : Array Value} {below : List Frame} {meth : Method} {c : Code} {Q : State → Prop} {A : Nat → Prop} {dC : Nat → ClassId} {dI : Nat → Nat → Nat} {a : Nat → Nat} {ac : Nat → ClassId} {n : Nat} {r : Int32 × (St)} (C : nd_C p l s m args c A (dC, dI) cX9_character 5 RX9 ow_dm_X9_character (dk_X9 ac)) (K : nd_Ki p l e (headSpec ow_dm_X9_character ({ frames := 0, cells := 0, slots := 0, locals := 0 })).room s m args below meth c Q A (dC, dI) cX9_character .int (St) (dw_X9 a ac) r) : dj_X9_character_0 p l e s m args below meth c Q A dC dI a ac (df_X9_character_0 n) r := by
  obtain ⟨hlt, hx, hb, hml, hown, hts, hN, hA, hK⟩ := id C
  intro v0 v1 s0 H locs ls h hP hD hS hl
  unfold df_X9_character_0 at h
  refine lv_iload_n hx hb dX9_character_0 rfl (lv_at hl 1 rfl) ?_
  refine lv_if_lt (tgt := 12) hx hb dX9_character_1 (by decide) (fun c1 => ?_) (fun c1 => ?_)
  · have h := nd_pos h c1
    exact (db_X9_character_12 C K)  s0 _ _ _ h hP hD hS (lv_sub hl [] rfl)
  · have h := nd_neg h c1
    refine lv_iload_n hx hb dX9_character_4 rfl (lv_at hl 1 rfl) ?_
    refine lv_aload_n hx hb dX9_character_5 rfl (lv_at hl 0 rfl) ?_
    refine va_get (D := (dC, dI)) (ci := 10) (v := .int (sI s0 1)) (C := RX9) (T := TX9) (N := 20) hx hb hts hi_dm_X9_character_X9 hown hK hP 0 rfl rfl 2 (by decide) (hts (.fieldLink RX9 64 "TimeMachine$Reader" "stop" "I") (List.mem_of_getElem? (i := 1) rfl)) (fun _ h9 => h9) rfl dX9_character_6 ?_
    refine lv_icmp_lt (tgt := 14) hx hb dX9_character_9 (by decide) (fun c2 => ?_) (fun c2 => ?_)
    · have h := nd_pos h c2
      refine lv_aload_n hx hb dX9_character_14 rfl (lv_at hl 0 rfl) ?_
      obtain ⟨o3, h⟩ := nd_o_e h
      refine va_get (D := (dC, dI)) (ci := 10) (v := .ref (a 8)) (C := RX9) (T := TX9) (N := 20) hx hb hts hi_dm_X9_character_X9 hown hK hP 0 rfl rfl 0 (by decide) (hts (.fieldLink RX9 9 "TimeMachine$Reader" "source" "[B") (List.mem_of_getElem? (i := 2) rfl)) (fun _ h9 => h9) (congrArg (fun z => some (va_rf (Option.map a z))) o3) dX9_character_15 ?_
      refine lv_iload_n hx hb dX9_character_18 rfl (lv_at hl 1 rfl) ?_
      obtain ⟨i4, h⟩ := nd_ck_e h
      refine va_bald (i := v0) hx hb hK hP 8 7 rfl rfl i4 dX9_character_19 ?_
      refine lv_topi (fun z5 ez5 => ?_)
      have h := nd_at h ez5
      refine lv_istore_n (lv' := [(3, .int z5), (0, .ref (a 0)), (1, .int v0), (2, .int v1)]) hx hb dX9_character_20 rfl hl (by decide) rfl (fun ls hl => ?_)
      refine lv_iload_n hx hb dX9_character_21 rfl (lv_at hl 0 rfl) ?_
      refine lv_bipush (v := 92) hx hb dX9_character_22 (by decide) ?_
      refine lv_icmp_eq (tgt := 38) hx hb dX9_character_24 (by decide) (fun c6 => ?_) (fun c6 => ?_)
      · have h := nd_pos h c6
        refine lv_iload_n hx hb dX9_character_38 rfl (lv_at hl 2 rfl) ?_
        refine lv_iconst (v := 1) hx hb dX9_character_39 (by decide) ?_
        refine lv_iadd hx hb dX9_character_40 ?_
        refine lv_aload_n hx hb dX9_character_41 rfl (lv_at hl 1 rfl) ?_
        refine va_get (D := (dC, dI)) (ci := 10) (v := .int (sI s0 1)) (C := RX9) (T := TX9) (N := 20) hx hb hts hi_dm_X9_character_X9 hown hK hP 0 rfl rfl 2 (by decide) (hts (.fieldLink RX9 64 "TimeMachine$Reader" "stop" "I") (List.mem_of_getElem? (i := 1) rfl)) (fun _ h9 => h9) rfl dX9_character_42 ?_
        refine lv_icmp_ge (tgt := 59) hx hb dX9_character_45 (by decide) (fun c7 => ?_) (fun c7 => ?_)
        · have h := nd_pos h c7
          refine lv_iconst (v := 0) hx hb dX9_character_59 (by decide) ?_
          exact (db_X9_character_60 C K) (0) s0 _ _ _ h hP hD hS (lv_sub hl [] rfl)
        · have h := nd_neg h c7
          refine lv_aload_n hx hb dX9_character_48 rfl (lv_at hl 1 rfl) ?_
          obtain ⟨o14, h⟩ := nd_o_e h
          refine va_get (D := (dC, dI)) (ci := 10) (v := .ref (a 8)) (C := RX9) (T := TX9) (N := 20) hx hb hts hi_dm_X9_character_X9 hown hK hP 0 rfl rfl 0 (by decide) (hts (.fieldLink RX9 9 "TimeMachine$Reader" "source" "[B") (List.mem_of_getElem? (i := 2) rfl)) (fun _ h9 => h9) (congrArg (fun z => some (va_rf (Option.map a z))) o14) dX9_character_49 ?_
          refine lv_iload_n hx hb dX9_character_52 rfl (lv_at hl 2 rfl) ?_
          refine lv_iconst (v := 1) hx hb dX9_character_53 (by decide) ?_
          refine lv_iadd hx hb dX9_character_54 ?_
          obtain ⟨i15, h⟩ := nd_ck_e h
          refine va_bald (i := (v0 + 1)) hx hb hK hP 8 7 rfl rfl i15 dX9_character_55 ?_
          refine lv_goto (tgt := 60) hx hb dX9_character_56 (by decide) ?_
          exact (db_X9_character_60 C K) ((sR s0 7 (Int32.toNatClampNeg (v0 + 1)))) s0 _ _ _ h hP hD hS (lv_sub hl [] rfl)
      · have h := nd_neg h c6
        refine lv_iload_n hx hb dX9_character_27 rfl (lv_at hl 0 rfl) ?_
        refine lv_iload_n hx hb dX9_character_28 rfl (lv_at hl 3 rfl) ?_
        refine lv_icmp_ne (tgt := 36) hx hb dX9_character_29 (by decide) (fun c16 => ?_) (fun c16 => ?_)
        · have h := nd_neg h c16
          refine lv_iload_n hx hb dX9_character_36 rfl (lv_at hl 0 rfl) ?_
          exact (db_X9_character_37 C K) (z5) s0 _ _ _ h hP hD hS (lv_sub hl [] rfl)
        · have h := nd_pos h c16
          refine lv_iconst (v := (-1)) hx hb dX9_character_32 (by decide) ?_
          refine lv_goto (tgt := 37) hx hb dX9_character_33 (by decide) ?_
          exact (db_X9_character_37 C K) ((-1)) s0 _ _ _ h hP hD hS (lv_sub hl [] rfl)
    · have h := nd_neg h c2
      exact (db_X9_character_12 C K)  s0 _ _ _ h hP hD hS (lv_sub hl [] rfl)
set_option maxHeartbeats 40000000 in
set_option maxRecDepth 100000 in
theorem dm_X9_character (l : Launch) (hlt : l.stackTraces = false) (dC : Nat → ClassId) (dI : Nat → Nat → Nat) (a : Nat → Nat) (ac : Nat → ClassId) (n : Nat) (v0 : Int32) (v1 : Int32) (s0 : St) {r : Int32 × (St)} (h : df_X9_character n v0 v1 s0 = some r) (sz : Nat) : Met l yX9_character ow_dm_X9_character ({ frames := 0, cells := 0, slots := 0, locals := 0 }) (va_Pc [.ref (a 0), .int v0, .int v1] (fun U => U.heap.size = sz ∧ va_P (dC, dI) vwCl (dw_X9 a ac s0) U.heap ∧ va_K (dC, dI) vwCl (dk_X9 ac) U ∧ va_D (fun _ => True) (dw_X9 a ac s0) ∧ nv_E dI (va_A (dw_X9 a ac s0) sz) U)) (va_Qi (fun x _ => x = r.1) (fun (_ : Unit) t => va_P (dC, dI) vwCl (dw_X9 a ac r.2) t.heap ∧ va_K (dC, dI) vwCl (dk_X9 ac) t ∧ va_D (va_A (dw_X9 a ac s0) sz) (dw_X9 a ac r.2)) (va_A (dw_X9 a ac s0) sz)) 0 0 (va_A (dw_X9 a ac s0) sz) := by
  refine Met.ofW (cc := cX9_character) (maxL := 5) (ret := (some .int)) (by decide) rfl ?_
  intro p e s m args below meth c s₁ B hml hv
  obtain ⟨rfl, hsz, hP, hK, hD0, hN⟩ := hv
  have hx := B.exec
  have hb := B.bytes
  have hr := B.returns
  have hts := atoms_spec (ws := ow_dm_X9_character) B.pre
  have hown : s.vm.findClass RX9 = some m.cls := findClass_of_methodNamed B.named
  have hlocks := B.notSynchronized
  subst hsz
  have hD := hD0.self (sz := s.heap.size)
  generalize hAe : va_A (dw_X9 a ac s0) s.heap.size = A at hD hN ⊢
  have hA : ∀ q : Nat, s.heap.size ≤ q → A q := fun q h => by rw [← hAe]; exact Or.inr h
  have hl := lv_entry ([.ref (a 0), .int v0, .int v1]) (n := 5) (Nat.le_of_ble_eq_true rfl)
  rw [lg_entry_eq]
  generalize (lg_sl ([.ref (a 0), .int v0, .int v1]) ++ List.replicate (5 - (lg_sl ([.ref (a 0), .int v0, .int v1])).length) Slot.unset).toArray = ls at hl ⊢
  have hl : lv_has ls 5 [(0, .ref (a 0)), (1, .int v0), (2, .int v1)] := hl
  exact db_X9_character_0 (dC := dC) (dI := dI) (a := a) (ac := ac) (n := n) (r := r) ⟨hlt, hx, hb, hml, hown, hts, hN, hA, hK⟩ (fun pc v τ H locs ls d z er hP hD hS => by subst er; exact W.zret (v := v) hx hb hr z (fun t ht hW => ⟨⟨v, (), rfl, rfl, by rw [ht]; exact hP, va_K.moved hW.alike hK, hD⟩, hS.F ht⟩) hS.2.2 d) v0 v1 s0 _ _ _ h hP hD va_S.rf (lv_sub hl [0, 1, 2] rfl)
def ow_dm_X9_width : List Cond := Cond.code yX9_width cX9_width 2 (some .int) :: ([Cond.fieldLink RX9 64 "TimeMachine$Reader" "stop" "I", Cond.fieldLink RX9 9 "TimeMachine$Reader" "source" "[B"] ++ (u_ws RX9 TX9 20 ++ []))
theorem gd_dm_X9_width : ∀ w ∈ ow_dm_X9_width, (w.onTables && w.keeps) = true ∨ ∃ ty, w = Cond.arrayClass ty := List.forall_mem_cons.mpr ⟨good_of_word rfl, List.forall_mem_append.mpr ⟨fun w h => good_of_word (List.all_eq_true.mp (by decide +kernel) w h), List.forall_mem_append.mpr ⟨gu_X9, fun _ h => nomatch h⟩⟩⟩
theorem hi_dm_X9_width_X9 : ∀ w ∈ u_ws RX9 TX9 20, w ∈ ow_dm_X9_width := fun w h => List.mem_cons_of_mem _ (List.mem_append_right _ (List.mem_append_left _ h))
def dj_X9_width_28 (p : Program) (l : Launch) (e : Env) (s : State) (m : MethodId) (args : Array Value) (below : List Frame) (meth : Method) (c : Code) (Q : State → Prop) (A : Nat → Prop) (dC : Nat → ClassId) (dI : Nat → Nat → Nat) (a : Nat → Nat) (ac : Nat → ClassId) (g : Int32 → (St) → Option (Int32 × (St))) (r : Int32 × (St)) : Prop := ∀ (y0 : Int32) (s0 : St) (H : Heap) (locs : List Loc) (ls : Array Slot), g y0 s0 = some r → va_P (dC, dI) vwCl (dw_X9 a ac s0) H → va_D A (dw_X9 a ac s0) → va_S A s.heap H locs → lv_has ls 2 [] → W p l e (headSpec ow_dm_X9_width ({ frames := 0, cells := 0, slots := 0, locals := 0 })).room s m args below meth c H locs 0 0 Q (F0 m 28 ls [.int y0])
def dj_X9_width_27 (p : Program) (l : Launch) (e : Env) (s : State) (m : MethodId) (args : Array Value) (below : List Frame) (meth : Method) (c : Code) (Q : State → Prop) (A : Nat → Prop) (dC : Nat → ClassId) (dI : Nat → Nat → Nat) (a : Nat → Nat) (ac : Nat → ClassId) (g : (St) → Option (Int32 × (St))) (r : Int32 × (St)) : Prop := ∀ (s0 : St) (H : Heap) (locs : List Loc) (ls : Array Slot), g s0 = some r → va_P (dC, dI) vwCl (dw_X9 a ac s0) H → va_D A (dw_X9 a ac s0) → va_S A s.heap H locs → lv_has ls 2 [] → W p l e (headSpec ow_dm_X9_width ({ frames := 0, cells := 0, slots := 0, locals := 0 })).room s m args below meth c H locs 0 0 Q (F0 m 27 ls [])
def dj_X9_width_0 (p : Program) (l : Launch) (e : Env) (s : State) (m : MethodId) (args : Array Value) (below : List Frame) (meth : Method) (c : Code) (Q : State → Prop) (A : Nat → Prop) (dC : Nat → ClassId) (dI : Nat → Nat → Nat) (a : Nat → Nat) (ac : Nat → ClassId) (g : Int32 → (St) → Option (Int32 × (St))) (r : Int32 × (St)) : Prop := ∀ (v0 : Int32) (s0 : St) (H : Heap) (locs : List Loc) (ls : Array Slot), g v0 s0 = some r → va_P (dC, dI) vwCl (dw_X9 a ac s0) H → va_D A (dw_X9 a ac s0) → va_S A s.heap H locs → lv_has ls 2 [(0, .ref (a 0)), (1, .int v0)] → W p l e (headSpec ow_dm_X9_width ({ frames := 0, cells := 0, slots := 0, locals := 0 })).room s m args below meth c H locs 0 0 Q (F0 m 0 ls [])
set_option maxHeartbeats 40000000 in
set_option maxRecDepth 100000 in
theorem db_X9_width_28 {p : Program} {l : Launch} {e : Env} {s : State} {m : MethodId} {args : Array Value} {below : List Frame} {meth : Method} {c : Code} {Q : State → Prop} {A : Nat → Prop} {dC : Nat → ClassId} {dI : Nat → Nat → Nat} {a : Nat → Nat} {ac : Nat → ClassId} {n : Nat} {r : Int32 × (St)} (C : nd_C p l s m args c A (dC, dI) cX9_width 2 RX9 ow_dm_X9_width (dk_X9 ac)) (K : nd_Ki p l e (headSpec ow_dm_X9_width ({ frames := 0, cells := 0, slots := 0, locals := 0 })).room s m args below meth c Q A (dC, dI) cX9_width .int (St) (dw_X9 a ac) r) : dj_X9_width_28 p l e s m args below meth c Q A dC dI a ac (df_X9_width_28 n) r := by
  obtain ⟨hlt, hx, hb, hml, hown, hts, hN, hA, hK⟩ := id C
  intro y0 s0 H locs ls h hP hD hS hl
  unfold df_X9_width_28 at h
  exact K _ _ _ _ _ _ dX9_width_28 rfl (Option.some.inj h).symm hP hD hS
set_option maxHeartbeats 40000000 in
set_option maxRecDepth 100000 in
theorem db_X9_width_27 {p : Program} {l : Launch} {e : Env} {s : State} {m : MethodId} {args : Array Value} {below : List Frame} {meth : Method} {c : Code} {Q : State → Prop} {A : Nat → Prop} {dC : Nat → ClassId} {dI : Nat → Nat → Nat} {a : Nat → Nat} {ac : Nat → ClassId} {n : Nat} {r : Int32 × (St)} (C : nd_C p l s m args c A (dC, dI) cX9_width 2 RX9 ow_dm_X9_width (dk_X9 ac)) (K : nd_Ki p l e (headSpec ow_dm_X9_width ({ frames := 0, cells := 0, slots := 0, locals := 0 })).room s m args below meth c Q A (dC, dI) cX9_width .int (St) (dw_X9 a ac) r) : dj_X9_width_27 p l e s m args below meth c Q A dC dI a ac (df_X9_width_27 n) r := by
  obtain ⟨hlt, hx, hb, hml, hown, hts, hN, hA, hK⟩ := id C
  intro s0 H locs ls h hP hD hS hl
  unfold df_X9_width_27 at h
  refine lv_iconst (v := 1) hx hb dX9_width_27 (by decide) ?_
  exact (db_X9_width_28 C K) (1) s0 _ _ _ h hP hD hS (lv_sub hl [] rfl)
set_option maxHeartbeats 40000000 in
set_option maxRecDepth 100000 in
theorem db_X9_width_0 {p : Program} {l : Launch} {e : Env} {s : State} {m : MethodId} {args : Array Value} {below : List Frame} {meth : Method} {c : Code} {Q : State → Prop} {A : Nat → Prop} {dC : Nat → ClassId} {dI : Nat → Nat → Nat} {a : Nat → Nat} {ac : Nat → ClassId} {n : Nat} {r : Int32 × (St)} (C : nd_C p l s m args c A (dC, dI) cX9_width 2 RX9 ow_dm_X9_width (dk_X9 ac)) (K : nd_Ki p l e (headSpec ow_dm_X9_width ({ frames := 0, cells := 0, slots := 0, locals := 0 })).room s m args below meth c Q A (dC, dI) cX9_width .int (St) (dw_X9 a ac) r) : dj_X9_width_0 p l e s m args below meth c Q A dC dI a ac (df_X9_width_0 n) r := by
  obtain ⟨hlt, hx, hb, hml, hown, hts, hN, hA, hK⟩ := id C
  intro v0 s0 H locs ls h hP hD hS hl
  unfold df_X9_width_0 at h
  refine lv_iload_n hx hb dX9_width_0 rfl (lv_at hl 1 rfl) ?_
  refine lv_if_lt (tgt := 27) hx hb dX9_width_1 (by decide) (fun c1 => ?_) (fun c1 => ?_)
  · have h := nd_pos h c1
    exact (db_X9_width_27 C K)  s0 _ _ _ h hP hD hS (lv_sub hl [] rfl)
  · have h := nd_neg h c1
    refine lv_iload_n hx hb dX9_width_4 rfl (lv_at hl 1 rfl) ?_
    refine lv_aload_n hx hb dX9_width_5 rfl (lv_at hl 0 rfl) ?_
    refine va_get (D := (dC, dI)) (ci := 10) (v := .int (sI s0 1)) (C := RX9) (T := TX9) (N := 20) hx hb hts hi_dm_X9_width_X9 hown hK hP 0 rfl rfl 2 (by decide) (hts (.fieldLink RX9 64 "TimeMachine$Reader" "stop" "I") (List.mem_of_getElem? (i := 1) rfl)) (fun _ h9 => h9) rfl dX9_width_6 ?_
    refine lv_icmp_ge (tgt := 27) hx hb dX9_width_9 (by decide) (fun c2 => ?_) (fun c2 => ?_)
    · have h := nd_pos h c2
      exact (db_X9_width_27 C K)  s0 _ _ _ h hP hD hS (lv_sub hl [] rfl)
    · have h := nd_neg h c2
      refine lv_aload_n hx hb dX9_width_12 rfl (lv_at hl 0 rfl) ?_
      obtain ⟨o3, h⟩ := nd_o_e h
      refine va_get (D := (dC, dI)) (ci := 10) (v := .ref (a 8)) (C := RX9) (T := TX9) (N := 20) hx hb hts hi_dm_X9_width_X9 hown hK hP 0 rfl rfl 0 (by decide) (hts (.fieldLink RX9 9 "TimeMachine$Reader" "source" "[B") (List.mem_of_getElem? (i := 2) rfl)) (fun _ h9 => h9) (congrArg (fun z => some (va_rf (Option.map a z))) o3) dX9_width_13 ?_
      refine lv_iload_n hx hb dX9_width_16 rfl (lv_at hl 1 rfl) ?_
      obtain ⟨i4, h⟩ := nd_ck_e h
      refine va_bald (i := v0) hx hb hK hP 8 7 rfl rfl i4 dX9_width_17 ?_
      refine lv_bipush (v := 92) hx hb dX9_width_18 (by decide) ?_
      refine lv_icmp_ne (tgt := 27) hx hb dX9_width_20 (by decide) (fun c5 => ?_) (fun c5 => ?_)
      · have h := nd_neg h c5
        exact (db_X9_width_27 C K)  s0 _ _ _ h hP hD hS (lv_sub hl [] rfl)
      · have h := nd_pos h c5
        refine lv_iconst (v := 2) hx hb dX9_width_23 (by decide) ?_
        refine lv_goto (tgt := 28) hx hb dX9_width_24 (by decide) ?_
        exact (db_X9_width_28 C K) (2) s0 _ _ _ h hP hD hS (lv_sub hl [] rfl)
set_option maxHeartbeats 40000000 in
set_option maxRecDepth 100000 in
theorem dm_X9_width (l : Launch) (hlt : l.stackTraces = false) (dC : Nat → ClassId) (dI : Nat → Nat → Nat) (a : Nat → Nat) (ac : Nat → ClassId) (n : Nat) (v0 : Int32) (s0 : St) {r : Int32 × (St)} (h : df_X9_width n v0 s0 = some r) (sz : Nat) : Met l yX9_width ow_dm_X9_width ({ frames := 0, cells := 0, slots := 0, locals := 0 }) (va_Pc [.ref (a 0), .int v0] (fun U => U.heap.size = sz ∧ va_P (dC, dI) vwCl (dw_X9 a ac s0) U.heap ∧ va_K (dC, dI) vwCl (dk_X9 ac) U ∧ va_D (fun _ => True) (dw_X9 a ac s0) ∧ nv_E dI (va_A (dw_X9 a ac s0) sz) U)) (va_Qi (fun x _ => x = r.1) (fun (_ : Unit) t => va_P (dC, dI) vwCl (dw_X9 a ac r.2) t.heap ∧ va_K (dC, dI) vwCl (dk_X9 ac) t ∧ va_D (va_A (dw_X9 a ac s0) sz) (dw_X9 a ac r.2)) (va_A (dw_X9 a ac s0) sz)) 0 0 (va_A (dw_X9 a ac s0) sz) := by
  refine Met.ofW (cc := cX9_width) (maxL := 2) (ret := (some .int)) (by decide) rfl ?_
  intro p e s m args below meth c s₁ B hml hv
  obtain ⟨rfl, hsz, hP, hK, hD0, hN⟩ := hv
  have hx := B.exec
  have hb := B.bytes
  have hr := B.returns
  have hts := atoms_spec (ws := ow_dm_X9_width) B.pre
  have hown : s.vm.findClass RX9 = some m.cls := findClass_of_methodNamed B.named
  have hlocks := B.notSynchronized
  subst hsz
  have hD := hD0.self (sz := s.heap.size)
  generalize hAe : va_A (dw_X9 a ac s0) s.heap.size = A at hD hN ⊢
  have hA : ∀ q : Nat, s.heap.size ≤ q → A q := fun q h => by rw [← hAe]; exact Or.inr h
  have hl := lv_entry ([.ref (a 0), .int v0]) (n := 2) (Nat.le_of_ble_eq_true rfl)
  rw [lg_entry_eq]
  generalize (lg_sl ([.ref (a 0), .int v0]) ++ List.replicate (2 - (lg_sl ([.ref (a 0), .int v0])).length) Slot.unset).toArray = ls at hl ⊢
  have hl : lv_has ls 2 [(0, .ref (a 0)), (1, .int v0)] := hl
  exact db_X9_width_0 (dC := dC) (dI := dI) (a := a) (ac := ac) (n := n) (r := r) ⟨hlt, hx, hb, hml, hown, hts, hN, hA, hK⟩ (fun pc v τ H locs ls d z er hP hD hS => by subst er; exact W.zret (v := v) hx hb hr z (fun t ht hW => ⟨⟨v, (), rfl, rfl, by rw [ht]; exact hP, va_K.moved hW.alike hK, hD⟩, hS.F ht⟩) hS.2.2 d) v0 s0 _ _ _ h hP hD va_S.rf (lv_sub hl [0, 1] rfl)
def ow_dm_X9_isInName : List Cond := Cond.code yX9_isInName cX9_isInName 1 (some .boolean) :: ([] ++ [])
theorem gd_dm_X9_isInName : ∀ w ∈ ow_dm_X9_isInName, (w.onTables && w.keeps) = true ∨ ∃ ty, w = Cond.arrayClass ty := List.forall_mem_cons.mpr ⟨good_of_word rfl, List.forall_mem_append.mpr ⟨fun w h => good_of_word (List.all_eq_true.mp (by decide +kernel) w h), fun _ h => nomatch h⟩⟩
def dj_X9_isInName_59 (p : Program) (l : Launch) (e : Env) (s : State) (m : MethodId) (args : Array Value) (below : List Frame) (meth : Method) (c : Code) (Q : State → Prop) (A : Nat → Prop) (dC : Nat → ClassId) (dI : Nat → Nat → Nat) (a : Nat → Nat) (ac : Nat → ClassId) (g : Int32 → (Unit) → Option (Int32 × (Unit))) (r : Int32 × (Unit)) : Prop := ∀ (y0 : Int32) (s0 : Unit) (H : Heap) (locs : List Loc) (ls : Array Slot), g y0 s0 = some r → va_P (dC, dI) vwCl (dw_P a ac s0) H → va_D A (dw_P a ac s0) → va_S A s.heap H locs → lv_has ls 1 [] → W p l e (headSpec ow_dm_X9_isInName ({ frames := 0, cells := 0, slots := 0, locals := 0 })).room s m args below meth c H locs 0 0 Q (F0 m 59 ls [.int y0])
def dj_X9_isInName_54 (p : Program) (l : Launch) (e : Env) (s : State) (m : MethodId) (args : Array Value) (below : List Frame) (meth : Method) (c : Code) (Q : State → Prop) (A : Nat → Prop) (dC : Nat → ClassId) (dI : Nat → Nat → Nat) (a : Nat → Nat) (ac : Nat → ClassId) (g : (Unit) → Option (Int32 × (Unit))) (r : Int32 × (Unit)) : Prop := ∀ (s0 : Unit) (H : Heap) (locs : List Loc) (ls : Array Slot), g s0 = some r → va_P (dC, dI) vwCl (dw_P a ac s0) H → va_D A (dw_P a ac s0) → va_S A s.heap H locs → lv_has ls 1 [] → W p l e (headSpec ow_dm_X9_isInName ({ frames := 0, cells := 0, slots := 0, locals := 0 })).room s m args below meth c H locs 0 0 Q (F0 m 54 ls [])
def dj_X9_isInName_36 (p : Program) (l : Launch) (e : Env) (s : State) (m : MethodId) (args : Array Value) (below : List Frame) (meth : Method) (c : Code) (Q : State → Prop) (A : Nat → Prop) (dC : Nat → ClassId) (dI : Nat → Nat → Nat) (a : Nat → Nat) (ac : Nat → ClassId) (g : Int32 → (Unit) → Option (Int32 × (Unit))) (r : Int32 × (Unit)) : Prop := ∀ (x0 : Int32) (s0 : Unit) (H : Heap) (locs : List Loc) (ls : Array Slot), g x0 s0 = some r → va_P (dC, dI) vwCl (dw_P a ac s0) H → va_D A (dw_P a ac s0) → va_S A s.heap H locs → lv_has ls 1 [(0, .int x0)] → W p l e (headSpec ow_dm_X9_isInName ({ frames := 0, cells := 0, slots := 0, locals := 0 })).room s m args below meth c H locs 0 0 Q (F0 m 36 ls [])
def dj_X9_isInName_24 (p : Program) (l : Launch) (e : Env) (s : State) (m : MethodId) (args : Array Value) (below : List Frame) (meth : Method) (c : Code) (Q : State → Prop) (A : Nat → Prop) (dC : Nat → ClassId) (dI : Nat → Nat → Nat) (a : Nat → Nat) (ac : Nat → ClassId) (g : Int32 → (Unit) → Option (Int32 × (Unit))) (r : Int32 × (Unit)) : Prop := ∀ (x0 : Int32) (s0 : Unit) (H : Heap) (locs : List Loc) (ls : Array Slot), g x0 s0 = some r → va_P (dC, dI) vwCl (dw_P a ac s0) H → va_D A (dw_P a ac s0) → va_S A s.heap H locs → lv_has ls 1 [(0, .int x0)] → W p l e (headSpec ow_dm_X9_isInName ({ frames := 0, cells := 0, slots := 0, locals := 0 })).room s m args below meth c H locs 0 0 Q (F0 m 24 ls [])
def dj_X9_isInName_12 (p : Program) (l : Launch) (e : Env) (s : State) (m : MethodId) (args : Array Value) (below : List Frame) (meth : Method) (c : Code) (Q : State → Prop) (A : Nat → Prop) (dC : Nat → ClassId) (dI : Nat → Nat → Nat) (a : Nat → Nat) (ac : Nat → ClassId) (g : Int32 → (Unit) → Option (Int32 × (Unit))) (r : Int32 × (Unit)) : Prop := ∀ (x0 : Int32) (s0 : Unit) (H : Heap) (locs : List Loc) (ls : Array Slot), g x0 s0 = some r → va_P (dC, dI) vwCl (dw_P a ac s0) H → va_D A (dw_P a ac s0) → va_S A s.heap H locs → lv_has ls 1 [(0, .int x0)] → W p l e (headSpec ow_dm_X9_isInName ({ frames := 0, cells := 0, slots := 0, locals := 0 })).room s m args below meth c H locs 0 0 Q (F0 m 12 ls [])
def dj_X9_isInName_0 (p : Program) (l : Launch) (e : Env) (s : State) (m : MethodId) (args : Array Value) (below : List Frame) (meth : Method) (c : Code) (Q : State → Prop) (A : Nat → Prop) (dC : Nat → ClassId) (dI : Nat → Nat → Nat) (a : Nat → Nat) (ac : Nat → ClassId) (g : Int32 → (Unit) → Option (Int32 × (Unit))) (r : Int32 × (Unit)) : Prop := ∀ (v0 : Int32) (s0 : Unit) (H : Heap) (locs : List Loc) (ls : Array Slot), g v0 s0 = some r → va_P (dC, dI) vwCl (dw_P a ac s0) H → va_D A (dw_P a ac s0) → va_S A s.heap H locs → lv_has ls 1 [(0, .int v0)] → W p l e (headSpec ow_dm_X9_isInName ({ frames := 0, cells := 0, slots := 0, locals := 0 })).room s m args below meth c H locs 0 0 Q (F0 m 0 ls [])
set_option maxHeartbeats 40000000 in
set_option maxRecDepth 100000 in
theorem db_X9_isInName_59 {p : Program} {l : Launch} {e : Env} {s : State} {m : MethodId} {args : Array Value} {below : List Frame} {meth : Method} {c : Code} {Q : State → Prop} {A : Nat → Prop} {dC : Nat → ClassId} {dI : Nat → Nat → Nat} {a : Nat → Nat} {ac : Nat → ClassId} {n : Nat} {r : Int32 × (Unit)} (C : nd_C p l s m args c A (dC, dI) cX9_isInName 1 RX9 ow_dm_X9_isInName (dk_P ac)) (K : nd_Ki p l e (headSpec ow_dm_X9_isInName ({ frames := 0, cells := 0, slots := 0, locals := 0 })).room s m args below meth c Q A (dC, dI) cX9_isInName .boolean (Unit) (dw_P a ac) r) : dj_X9_isInName_59 p l e s m args below meth c Q A dC dI a ac (df_X9_isInName_59 n) r := by
  obtain ⟨hlt, hx, hb, hml, hown, hts, hN, hA, hK⟩ := id C
  intro y0 s0 H locs ls h hP hD hS hl
  unfold df_X9_isInName_59 at h
  obtain ⟨n5, h⟩ := nd_z_e ⟨_, rfl⟩ h
  exact K _ _ _ _ _ _ dX9_isInName_59 n5 (Option.some.inj h).symm hP hD hS
set_option maxHeartbeats 40000000 in
set_option maxRecDepth 100000 in
theorem db_X9_isInName_54 {p : Program} {l : Launch} {e : Env} {s : State} {m : MethodId} {args : Array Value} {below : List Frame} {meth : Method} {c : Code} {Q : State → Prop} {A : Nat → Prop} {dC : Nat → ClassId} {dI : Nat → Nat → Nat} {a : Nat → Nat} {ac : Nat → ClassId} {n : Nat} {r : Int32 × (Unit)} (C : nd_C p l s m args c A (dC, dI) cX9_isInName 1 RX9 ow_dm_X9_isInName (dk_P ac)) (K : nd_Ki p l e (headSpec ow_dm_X9_isInName ({ frames := 0, cells := 0, slots := 0, locals := 0 })).room s m args below meth c Q A (dC, dI) cX9_isInName .boolean (Unit) (dw_P a ac) r) : dj_X9_isInName_54 p l e s m args below meth c Q A dC dI a ac (df_X9_isInName_54 n) r := by
  obtain ⟨hlt, hx, hb, hml, hown, hts, hN, hA, hK⟩ := id C
  intro s0 H locs ls h hP hD hS hl
  unfold df_X9_isInName_54 at h
  refine lv_iconst (v := 1) hx hb dX9_isInName_54 (by decide) ?_
  refine lv_goto (tgt := 59) hx hb dX9_isInName_55 (by decide) ?_
  exact (db_X9_isInName_59 C K) (1) s0 _ _ _ h hP hD hS (lv_sub hl [] rfl)
set_option maxHeartbeats 40000000 in
set_option maxRecDepth 100000 in
theorem db_X9_isInName_36 {p : Program} {l : Launch} {e : Env} {s : State} {m : MethodId} {args : Array Value} {below : List Frame} {meth : Method} {c : Code} {Q : State → Prop} {A : Nat → Prop} {dC : Nat → ClassId} {dI : Nat → Nat → Nat} {a : Nat → Nat} {ac : Nat → ClassId} {n : Nat} {r : Int32 × (Unit)} (C : nd_C p l s m args c A (dC, dI) cX9_isInName 1 RX9 ow_dm_X9_isInName (dk_P ac)) (K : nd_Ki p l e (headSpec ow_dm_X9_isInName ({ frames := 0, cells := 0, slots := 0, locals := 0 })).room s m args below meth c Q A (dC, dI) cX9_isInName .boolean (Unit) (dw_P a ac) r) : dj_X9_isInName_36 p l e s m args below meth c Q A dC dI a ac (df_X9_isInName_36 n) r := by
  obtain ⟨hlt, hx, hb, hml, hown, hts, hN, hA, hK⟩ := id C
  intro x0 s0 H locs ls h hP hD hS hl
  unfold df_X9_isInName_36 at h
  refine lv_iload_n hx hb dX9_isInName_36 rfl (lv_at hl 0 rfl) ?_
  refine lv_bipush (v := 95) hx hb dX9_isInName_37 (by decide) ?_
  refine lv_icmp_eq (tgt := 54) hx hb dX9_isInName_39 (by decide) (fun c4 => ?_) (fun c4 => ?_)
  · have h := nd_pos h c4
    exact (db_X9_isInName_54 C K)  s0 _ _ _ h hP hD hS (lv_sub hl [] rfl)
  · have h := nd_neg h c4
    refine lv_iload_n hx hb dX9_isInName_42 rfl (lv_at hl 0 rfl) ?_
    refine lv_bipush (v := 46) hx hb dX9_isInName_43 (by decide) ?_
    refine lv_icmp_eq (tgt := 54) hx hb dX9_isInName_45 (by decide) (fun c6 => ?_) (fun c6 => ?_)
    · have h := nd_pos h c6
      exact (db_X9_isInName_54 C K)  s0 _ _ _ h hP hD hS (lv_sub hl [] rfl)
    · have h := nd_neg h c6
      refine lv_iload_n hx hb dX9_isInName_48 rfl (lv_at hl 0 rfl) ?_
      refine lv_bipush (v := 36) hx hb dX9_isInName_49 (by decide) ?_
      refine lv_icmp_ne (tgt := 58) hx hb dX9_isInName_51 (by decide) (fun c7 => ?_) (fun c7 => ?_)
      · have h := nd_neg h c7
        refine lv_iconst (v := 0) hx hb dX9_isInName_58 (by decide) ?_
        exact (db_X9_isInName_59 C K) (0) s0 _ _ _ h hP hD hS (lv_sub hl [] rfl)
      · have h := nd_pos h c7
        exact (db_X9_isInName_54 C K)  s0 _ _ _ h hP hD hS (lv_sub hl [] rfl)
set_option maxHeartbeats 40000000 in
set_option maxRecDepth 100000 in
theorem db_X9_isInName_24 {p : Program} {l : Launch} {e : Env} {s : State} {m : MethodId} {args : Array Value} {below : List Frame} {meth : Method} {c : Code} {Q : State → Prop} {A : Nat → Prop} {dC : Nat → ClassId} {dI : Nat → Nat → Nat} {a : Nat → Nat} {ac : Nat → ClassId} {n : Nat} {r : Int32 × (Unit)} (C : nd_C p l s m args c A (dC, dI) cX9_isInName 1 RX9 ow_dm_X9_isInName (dk_P ac)) (K : nd_Ki p l e (headSpec ow_dm_X9_isInName ({ frames := 0, cells := 0, slots := 0, locals := 0 })).room s m args below meth c Q A (dC, dI) cX9_isInName .boolean (Unit) (dw_P a ac) r) : dj_X9_isInName_24 p l e s m args below meth c Q A dC dI a ac (df_X9_isInName_24 n) r := by
  obtain ⟨hlt, hx, hb, hml, hown, hts, hN, hA, hK⟩ := id C
  intro x0 s0 H locs ls h hP hD hS hl
  unfold df_X9_isInName_24 at h
  refine lv_iload_n hx hb dX9_isInName_24 rfl (lv_at hl 0 rfl) ?_
  refine lv_bipush (v := 48) hx hb dX9_isInName_25 (by decide) ?_
  refine lv_icmp_lt (tgt := 36) hx hb dX9_isInName_27 (by decide) (fun c3 => ?_) (fun c3 => ?_)
  · have h := nd_pos h c3
    exact (db_X9_isInName_36 C K) (x0) s0 _ _ _ h hP hD hS (lv_sub hl [0] rfl)
  · have h := nd_neg h c3
    refine lv_iload_n hx hb dX9_isInName_30 rfl (lv_at hl 0 rfl) ?_
    refine lv_bipush (v := 57) hx hb dX9_isInName_31 (by decide) ?_
    refine lv_icmp_le (tgt := 54) hx hb dX9_isInName_33 (by decide) (fun c8 => ?_) (fun c8 => ?_)
    · have h := nd_pos h c8
      exact (db_X9_isInName_54 C K)  s0 _ _ _ h hP hD hS (lv_sub hl [] rfl)
    · have h := nd_neg h c8
      exact (db_X9_isInName_36 C K) (x0) s0 _ _ _ h hP hD hS (lv_sub hl [0] rfl)
set_option maxHeartbeats 40000000 in
set_option maxRecDepth 100000 in
theorem db_X9_isInName_12 {p : Program} {l : Launch} {e : Env} {s : State} {m : MethodId} {args : Array Value} {below : List Frame} {meth : Method} {c : Code} {Q : State → Prop} {A : Nat → Prop} {dC : Nat → ClassId} {dI : Nat → Nat → Nat} {a : Nat → Nat} {ac : Nat → ClassId} {n : Nat} {r : Int32 × (Unit)} (C : nd_C p l s m args c A (dC, dI) cX9_isInName 1 RX9 ow_dm_X9_isInName (dk_P ac)) (K : nd_Ki p l e (headSpec ow_dm_X9_isInName ({ frames := 0, cells := 0, slots := 0, locals := 0 })).room s m args below meth c Q A (dC, dI) cX9_isInName .boolean (Unit) (dw_P a ac) r) : dj_X9_isInName_12 p l e s m args below meth c Q A dC dI a ac (df_X9_isInName_12 n) r := by
  obtain ⟨hlt, hx, hb, hml, hown, hts, hN, hA, hK⟩ := id C
  intro x0 s0 H locs ls h hP hD hS hl
  unfold df_X9_isInName_12 at h
  refine lv_iload_n hx hb dX9_isInName_12 rfl (lv_at hl 0 rfl) ?_
  refine lv_bipush (v := 65) hx hb dX9_isInName_13 (by decide) ?_
  refine lv_icmp_lt (tgt := 24) hx hb dX9_isInName_15 (by decide) (fun c2 => ?_) (fun c2 => ?_)
  · have h := nd_pos h c2
    exact (db_X9_isInName_24 C K) (x0) s0 _ _ _ h hP hD hS (lv_sub hl [0] rfl)
  · have h := nd_neg h c2
    refine lv_iload_n hx hb dX9_isInName_18 rfl (lv_at hl 0 rfl) ?_
    refine lv_bipush (v := 90) hx hb dX9_isInName_19 (by decide) ?_
    refine lv_icmp_le (tgt := 54) hx hb dX9_isInName_21 (by decide) (fun c9 => ?_) (fun c9 => ?_)
    · have h := nd_pos h c9
      exact (db_X9_isInName_54 C K)  s0 _ _ _ h hP hD hS (lv_sub hl [] rfl)
    · have h := nd_neg h c9
      exact (db_X9_isInName_24 C K) (x0) s0 _ _ _ h hP hD hS (lv_sub hl [0] rfl)
set_option maxHeartbeats 40000000 in
set_option maxRecDepth 100000 in
theorem db_X9_isInName_0 {p : Program} {l : Launch} {e : Env} {s : State} {m : MethodId} {args : Array Value} {below : List Frame} {meth : Method} {c : Code} {Q : State → Prop} {A : Nat → Prop} {dC : Nat → ClassId} {dI : Nat → Nat → Nat} {a : Nat → Nat} {ac : Nat → ClassId} {n : Nat} {r : Int32 × (Unit)} (C : nd_C p l s m args c A (dC, dI) cX9_isInName 1 RX9 ow_dm_X9_isInName (dk_P ac)) (K : nd_Ki p l e (headSpec ow_dm_X9_isInName ({ frames := 0, cells := 0, slots := 0, locals := 0 })).room s m args below meth c Q A (dC, dI) cX9_isInName .boolean (Unit) (dw_P a ac) r) : dj_X9_isInName_0 p l e s m args below meth c Q A dC dI a ac (df_X9_isInName_0 n) r := by
  obtain ⟨hlt, hx, hb, hml, hown, hts, hN, hA, hK⟩ := id C
  intro v0 s0 H locs ls h hP hD hS hl
  unfold df_X9_isInName_0 at h
  refine lv_iload_n hx hb dX9_isInName_0 rfl (lv_at hl 0 rfl) ?_
  refine lv_bipush (v := 97) hx hb dX9_isInName_1 (by decide) ?_
  refine lv_icmp_lt (tgt := 12) hx hb dX9_isInName_3 (by decide) (fun c1 => ?_) (fun c1 => ?_)
  · have h := nd_pos h c1
    exact (db_X9_isInName_12 C K) (v0) s0 _ _ _ h hP hD hS (lv_sub hl [0] rfl)
  · have h := nd_neg h c1
    refine lv_iload_n hx hb dX9_isInName_6 rfl (lv_at hl 0 rfl) ?_
    refine lv_bipush (v := 122) hx hb dX9_isInName_7 (by decide) ?_
    refine lv_icmp_le (tgt := 54) hx hb dX9_isInName_9 (by decide) (fun c10 => ?_) (fun c10 => ?_)
    · have h := nd_pos h c10
      exact (db_X9_isInName_54 C K)  s0 _ _ _ h hP hD hS (lv_sub hl [] rfl)
    · have h := nd_neg h c10
      exact (db_X9_isInName_12 C K) (v0) s0 _ _ _ h hP hD hS (lv_sub hl [0] rfl)
set_option maxHeartbeats 40000000 in
set_option maxRecDepth 100000 in
theorem dm_X9_isInName (l : Launch) (hlt : l.stackTraces = false) (dC : Nat → ClassId) (dI : Nat → Nat → Nat) (a : Nat → Nat) (ac : Nat → ClassId) (n : Nat) (v0 : Int32) (s0 : Unit) {r : Int32 × (Unit)} (h : df_X9_isInName n v0 s0 = some r) (sz : Nat) : Met l yX9_isInName ow_dm_X9_isInName ({ frames := 0, cells := 0, slots := 0, locals := 0 }) (va_Pc [.int v0] (fun U => U.heap.size = sz ∧ va_P (dC, dI) vwCl (dw_P a ac s0) U.heap ∧ va_K (dC, dI) vwCl (dk_P ac) U ∧ va_D (fun _ => True) (dw_P a ac s0) ∧ nv_E dI (va_A (dw_P a ac s0) sz) U)) (va_Qi (fun x _ => x = r.1) (fun (_ : Unit) t => va_P (dC, dI) vwCl (dw_P a ac r.2) t.heap ∧ va_K (dC, dI) vwCl (dk_P ac) t ∧ va_D (va_A (dw_P a ac s0) sz) (dw_P a ac r.2)) (va_A (dw_P a ac s0) sz)) 0 0 (va_A (dw_P a ac s0) sz) := by
  refine Met.ofW (cc := cX9_isInName) (maxL := 1) (ret := (some .boolean)) (by decide) rfl ?_
  intro p e s m args below meth c s₁ B hml hv
  obtain ⟨rfl, hsz, hP, hK, hD0, hN⟩ := hv
  have hx := B.exec
  have hb := B.bytes
  have hr := B.returns
  have hts := atoms_spec (ws := ow_dm_X9_isInName) B.pre
  have hown : s.vm.findClass RX9 = some m.cls := findClass_of_methodNamed B.named
  have hlocks := B.notSynchronized
  subst hsz
  have hD := hD0.self (sz := s.heap.size)
  generalize hAe : va_A (dw_P a ac s0) s.heap.size = A at hD hN ⊢
  have hA : ∀ q : Nat, s.heap.size ≤ q → A q := fun q h => by rw [← hAe]; exact Or.inr h
  have hl := lv_entry ([.int v0]) (n := 1) (Nat.le_of_ble_eq_true rfl)
  rw [lg_entry_eq]
  generalize (lg_sl ([.int v0]) ++ List.replicate (1 - (lg_sl ([.int v0])).length) Slot.unset).toArray = ls at hl ⊢
  have hl : lv_has ls 1 [(0, .int v0)] := hl
  exact db_X9_isInName_0 (dC := dC) (dI := dI) (a := a) (ac := ac) (n := n) (r := r) ⟨hlt, hx, hb, hml, hown, hts, hN, hA, hK⟩ (fun pc v τ H locs ls d z er hP hD hS => by subst er; exact W.zret (v := v) hx hb hr z (fun t ht hW => ⟨⟨v, (), rfl, rfl, by rw [ht]; exact hP, va_K.moved hW.alike hK, hD⟩, hS.F ht⟩) hS.2.2 d) v0 s0 _ _ _ h hP hD va_S.rf (lv_sub hl [0] rfl)
def ow_dm_X9_readCharacter : List Cond := Cond.code yX9_readCharacter cX9_readCharacter 5 none :: ([Cond.fieldLink RX9 70 "TimeMachine$Reader" "from" "I", Cond.methodLink RX9 98 yX9_character, Cond.instanceMethod yX9_character, Cond.selects RX9 yX9_character yX9_character, Cond.initialized RX9, Cond.methodLink RX9 101 yX9_width, Cond.instanceMethod yX9_width, Cond.selects RX9 yX9_width yX9_width, Cond.fieldLink RX9 64 "TimeMachine$Reader" "stop" "I", Cond.fieldLink RX9 73 "TimeMachine$Reader" "kind" "I", Cond.fieldLink RX9 93 "TimeMachine$Reader" "number" "I", Cond.methodLink RX9 58 Lib.Math.min.name, Cond.static Lib.Math.min.name, Cond.initialized "java/lang/Math", Cond.code Lib.Math.min.name Lib.Math.min.code 2 (some .int), Cond.fieldLink RX9 55 "TimeMachine$Reader" "at" "I", Cond.fieldLink RX9 9 "TimeMachine$Reader" "source" "[B", Cond.methodLink RX9 76 yX9_isInName, Cond.static yX9_isInName] ++ (u_ws RX9 TX9 20 ++ (ow_dm_X9_character ++ (ow_dm_X9_width ++ (ow_dm_X9_isInName ++ [])))))
theorem gd_dm_X9_readCharacter : ∀ w ∈ ow_dm_X9_readCharacter, (w.onTables && w.keeps) = true ∨ ∃ ty, w = Cond.arrayClass ty := List.forall_mem_cons.mpr ⟨good_of_word rfl, List.forall_mem_append.mpr ⟨fun w h => good_of_word (List.all_eq_true.mp (by decide +kernel) w h), List.forall_mem_append.mpr ⟨gu_X9, List.forall_mem_append.mpr ⟨gd_dm_X9_character, List.forall_mem_append.mpr ⟨gd_dm_X9_width, List.forall_mem_append.mpr ⟨gd_dm_X9_isInName, fun _ h => nomatch h⟩⟩⟩⟩⟩⟩
theorem hi_dm_X9_readCharacter_X9 : ∀ w ∈ u_ws RX9 TX9 20, w ∈ ow_dm_X9_readCharacter := fun w h => List.mem_cons_of_mem _ (List.mem_append_right _ (List.mem_append_left _ h))
theorem gi_dm_X9_readCharacter_0 : GoodIn ow_dm_X9_readCharacter (wsV RX9 98 RX9 yX9_character ow_dm_X9_character) := goodIn_app (goodIn_of _ (by decide +kernel)) (fun w h => ⟨List.mem_cons_of_mem _ (List.mem_append_right _ (List.mem_append_right _ (List.mem_append_left _ h))), gd_dm_X9_character w h⟩)
theorem gi_dm_X9_readCharacter_1 : GoodIn ow_dm_X9_readCharacter (wsV RX9 101 RX9 yX9_width ow_dm_X9_width) := goodIn_app (goodIn_of _ (by decide +kernel)) (fun w h => ⟨List.mem_cons_of_mem _ (List.mem_append_right _ (List.mem_append_right _ (List.mem_append_right _ (List.mem_append_left _ h)))), gd_dm_X9_width w h⟩)
theorem gi_dm_X9_readCharacter_2 : GoodIn ow_dm_X9_readCharacter (wsS RX9 76 yX9_isInName ow_dm_X9_isInName) := goodIn_app (goodIn_of _ (by decide +kernel)) (fun w h => ⟨List.mem_cons_of_mem _ (List.mem_append_right _ (List.mem_append_right _ (List.mem_append_right _ (List.mem_append_right _ (List.mem_append_left _ h))))), gd_dm_X9_isInName w h⟩)
def dj_X9_readCharacter_107 (p : Program) (l : Launch) (e : Env) (s : State) (m : MethodId) (args : Array Value) (below : List Frame) (meth : Method) (c : Code) (Q : State → Prop) (A : Nat → Prop) (dC : Nat → ClassId) (dI : Nat → Nat → Nat) (a : Nat → Nat) (ac : Nat → ClassId) (g : Int32 → Int32 → Int32 → (St) → Option (St)) (r : St) : Prop := ∀ (x1 : Int32) (x2 : Int32) (y1 : Int32) (s0 : St) (H : Heap) (locs : List Loc) (ls : Array Slot), g x1 x2 y1 s0 = some r → va_P (dC, dI) vwCl (dw_X9 a ac s0) H → va_D A (dw_X9 a ac s0) → va_S A s.heap H locs → lv_has ls 5 [(0, .ref (a 0)), (1, .int x1), (2, .int x2)] → W p l e (headSpec ow_dm_X9_readCharacter ({ frames := 1, cells := 0, slots := 0, locals := 24 })).room s m args below meth c H locs 0 0 Q (F0 m 107 ls [.int y1, .ref (a 0)])
def dj_X9_readCharacter_105 (p : Program) (l : Launch) (e : Env) (s : State) (m : MethodId) (args : Array Value) (below : List Frame) (meth : Method) (c : Code) (Q : State → Prop) (A : Nat → Prop) (dC : Nat → ClassId) (dI : Nat → Nat → Nat) (a : Nat → Nat) (ac : Nat → ClassId) (g : Int32 → Int32 → (St) → Option (St)) (r : St) : Prop := ∀ (x1 : Int32) (x2 : Int32) (s0 : St) (H : Heap) (locs : List Loc) (ls : Array Slot), g x1 x2 s0 = some r → va_P (dC, dI) vwCl (dw_X9 a ac s0) H → va_D A (dw_X9 a ac s0) → va_S A s.heap H locs → lv_has ls 5 [(0, .ref (a 0)), (1, .int x1), (2, .int x2)] → W p l e (headSpec ow_dm_X9_readCharacter ({ frames := 1, cells := 0, slots := 0, locals := 24 })).room s m args below meth c H locs 0 0 Q (F0 m 105 ls [.ref (a 0)])
def dj_X9_readCharacter_85 (p : Program) (l : Launch) (e : Env) (s : State) (m : MethodId) (args : Array Value) (below : List Frame) (meth : Method) (c : Code) (Q : State → Prop) (A : Nat → Prop) (dC : Nat → ClassId) (dI : Nat → Nat → Nat) (a : Nat → Nat) (ac : Nat → ClassId) (g : Int32 → Int32 → Int32 → Int32 → (St) → Option (St)) (r : St) : Prop := ∀ (x1 : Int32) (x2 : Int32) (x3 : Int32) (y0 : Int32) (s0 : St) (H : Heap) (locs : List Loc) (ls : Array Slot), g x1 x2 x3 y0 s0 = some r → va_P (dC, dI) vwCl (dw_X9 a ac s0) H → va_D A (dw_X9 a ac s0) → va_S A s.heap H locs → lv_has ls 5 [(0, .ref (a 0)), (1, .int x1), (2, .int x2), (3, .int x3)] → W p l e (headSpec ow_dm_X9_readCharacter ({ frames := 1, cells := 0, slots := 0, locals := 24 })).room s m args below meth c H locs 0 0 Q (F0 m 85 ls [.int y0])
def dj_X9_readCharacter_80 (p : Program) (l : Launch) (e : Env) (s : State) (m : MethodId) (args : Array Value) (below : List Frame) (meth : Method) (c : Code) (Q : State → Prop) (A : Nat → Prop) (dC : Nat → ClassId) (dI : Nat → Nat → Nat) (a : Nat → Nat) (ac : Nat → ClassId) (g : Int32 → Int32 → Int32 → (St) → Option (St)) (r : St) : Prop := ∀ (x1 : Int32) (x2 : Int32) (x3 : Int32) (s0 : St) (H : Heap) (locs : List Loc) (ls : Array Slot), g x1 x2 x3 s0 = some r → va_P (dC, dI) vwCl (dw_X9 a ac s0) H → va_D A (dw_X9 a ac s0) → va_S A s.heap H locs → lv_has ls 5 [(0, .ref (a 0)), (1, .int x1), (2, .int x2), (3, .int x3)] → W p l e (headSpec ow_dm_X9_readCharacter ({ frames := 1, cells := 0, slots := 0, locals := 24 })).room s m args below meth c H locs 0 0 Q (F0 m 80 ls [])
def dj_X9_readCharacter_55 (p : Program) (l : Launch) (e : Env) (s : State) (m : MethodId) (args : Array Value) (below : List Frame) (meth : Method) (c : Code) (Q : State → Prop) (A : Nat → Prop) (dC : Nat → ClassId) (dI : Nat → Nat → Nat) (a : Nat → Nat) (ac : Nat → ClassId) (g : Int32 → Int32 → Int32 → (St) → Option (St)) (r : St) : Prop := ∀ (x1 : Int32) (x2 : Int32) (y0 : Int32) (s0 : St) (H : Heap) (locs : List Loc) (ls : Array Slot), g x1 x2 y0 s0 = some r → va_P (dC, dI) vwCl (dw_X9 a ac s0) H → va_D A (dw_X9 a ac s0) → va_S A s.heap H locs → lv_has ls 5 [(0, .ref (a 0)), (1, .int x1), (2, .int x2)] → W p l e (headSpec ow_dm_X9_readCharacter ({ frames := 1, cells := 0, slots := 0, locals := 24 })).room s m args below meth c H locs 0 0 Q (F0 m 55 ls [.int y0])
def dj_X9_readCharacter_54 (p : Program) (l : Launch) (e : Env) (s : State) (m : MethodId) (args : Array Value) (below : List Frame) (meth : Method) (c : Code) (Q : State → Prop) (A : Nat → Prop) (dC : Nat → ClassId) (dI : Nat → Nat → Nat) (a : Nat → Nat) (ac : Nat → ClassId) (g : Int32 → Int32 → (St) → Option (St)) (r : St) : Prop := ∀ (x1 : Int32) (x2 : Int32) (s0 : St) (H : Heap) (locs : List Loc) (ls : Array Slot), g x1 x2 s0 = some r → va_P (dC, dI) vwCl (dw_X9 a ac s0) H → va_D A (dw_X9 a ac s0) → va_S A s.heap H locs → lv_has ls 5 [(0, .ref (a 0)), (1, .int x1), (2, .int x2)] → W p l e (headSpec ow_dm_X9_readCharacter ({ frames := 1, cells := 0, slots := 0, locals := 24 })).room s m args below meth c H locs 0 0 Q (F0 m 54 ls [])
def dj_X9_readCharacter_0 (p : Program) (l : Launch) (e : Env) (s : State) (m : MethodId) (args : Array Value) (below : List Frame) (meth : Method) (c : Code) (Q : State → Prop) (A : Nat → Prop) (dC : Nat → ClassId) (dI : Nat → Nat → Nat) (a : Nat → Nat) (ac : Nat → ClassId) (g : (St) → Option (St)) (r : St) : Prop := ∀ (s0 : St) (H : Heap) (locs : List Loc) (ls : Array Slot), g s0 = some r → va_P (dC, dI) vwCl (dw_X9 a ac s0) H → va_D A (dw_X9 a ac s0) → va_S A s.heap H locs → lv_has ls 5 [(0, .ref (a 0))] → W p l e (headSpec ow_dm_X9_readCharacter ({ frames := 1, cells := 0, slots := 0, locals := 24 })).room s m args below meth c H locs 0 0 Q (F0 m 0 ls [])
set_option maxHeartbeats 40000000 in
set_option maxRecDepth 100000 in
theorem db_X9_readCharacter_107 {p : Program} {l : Launch} {e : Env} {s : State} {m : MethodId} {args : Array Value} {below : List Frame} {meth : Method} {c : Code} {Q : State → Prop} {A : Nat → Prop} {dC : Nat → ClassId} {dI : Nat → Nat → Nat} {a : Nat → Nat} {ac : Nat → ClassId} {n : Nat} {r : St} (C : nd_C p l s m args c A (dC, dI) cX9_readCharacter 5 RX9 ow_dm_X9_readCharacter (dk_X9 ac)) (K : nd_Kv p l e (headSpec ow_dm_X9_readCharacter ({ frames := 1, cells := 0, slots := 0, locals := 24 })).room s m args below meth c Q A (dC, dI) cX9_readCharacter (St) (dw_X9 a ac) r) : dj_X9_readCharacter_107 p l e s m args below meth c Q A dC dI a ac (df_X9_readCharacter_107 n) r := by
  obtain ⟨hlt, hx, hb, hml, hown, hts, hN, hA, hK⟩ := id C
  intro x1 x2 y1 s0 H locs ls h hP hD hS hl
  unfold df_X9_readCharacter_107 at h
  refine va_put (D := (dC, dI)) (ci := 10) (v := .int y1) (ty := .int) (C := RX9) (T := TX9) (N := 20) hx hb hts hi_dm_X9_readCharacter_X9 tyX9 tyX9_ok nmX9 hown hK hP hD hS 0 rfl rfl 3 (by decide) (hts (.fieldLink RX9 73 "TimeMachine$Reader" "kind" "I") (List.mem_of_getElem? (i := 10) rfl)) (fun _ h9 => h9) rfl (by decide +kernel) rfl rfl (Nat.le_of_ble_eq_true rfl) dX9_readCharacter_107 (fun H locs hP hD hS => ?_)
  obtain ⟨s11, es11, h⟩ := nd_let_e h
  have hP : va_P (dC, dI) vwCl (dw_X9 a ac s11) H := by rw [es11]; exact hP
  have hD : va_D A (dw_X9 a ac s11) := by rw [es11]; exact hD
  refine lv_aload_n hx hb dX9_readCharacter_110 rfl (lv_at hl 0 rfl) ?_
  refine lv_iload_n hx hb dX9_readCharacter_111 rfl (lv_at hl 1 rfl) ?_
  refine va_put (D := (dC, dI)) (ci := 10) (v := .int x1) (ty := .int) (C := RX9) (T := TX9) (N := 20) hx hb hts hi_dm_X9_readCharacter_X9 tyX9 tyX9_ok nmX9 hown hK hP hD hS 0 rfl rfl 5 (by decide) (hts (.fieldLink RX9 93 "TimeMachine$Reader" "number" "I") (List.mem_of_getElem? (i := 11) rfl)) (fun _ h9 => h9) rfl (by decide +kernel) rfl rfl (Nat.le_of_ble_eq_true rfl) dX9_readCharacter_112 (fun H locs hP hD hS => ?_)
  obtain ⟨s12, es12, h⟩ := nd_let_e h
  have hP : va_P (dC, dI) vwCl (dw_X9 a ac s12) H := by rw [es12]; exact hP
  have hD : va_D A (dw_X9 a ac s12) := by rw [es12]; exact hD
  refine lv_aload_n hx hb dX9_readCharacter_115 rfl (lv_at hl 0 rfl) ?_
  refine lv_iload_n hx hb dX9_readCharacter_116 rfl (lv_at hl 2 rfl) ?_
  refine lv_iconst (v := 1) hx hb dX9_readCharacter_117 (by decide) ?_
  refine lv_iadd hx hb dX9_readCharacter_118 ?_
  refine lv_aload_n hx hb dX9_readCharacter_119 rfl (lv_at hl 0 rfl) ?_
  refine va_get (D := (dC, dI)) (ci := 10) (v := .int (sI s12 1)) (C := RX9) (T := TX9) (N := 20) hx hb hts hi_dm_X9_readCharacter_X9 hown hK hP 0 rfl rfl 2 (by decide) (hts (.fieldLink RX9 64 "TimeMachine$Reader" "stop" "I") (List.mem_of_getElem? (i := 9) rfl)) (fun _ h9 => h9) rfl dX9_readCharacter_120 ?_
  refine va_mmin hx hb (by rw [hml]; exact hl.1.symm) hown (hts (.methodLink RX9 58 Lib.Math.min.name) (List.mem_of_getElem? (i := 12) rfl)) (hts (.static Lib.Math.min.name) (List.mem_of_getElem? (i := 13) rfl)) (hts (.initialized "java/lang/Math") (List.mem_of_getElem? (i := 14) rfl)) (hts (.code Lib.Math.min.name Lib.Math.min.code 2 (some .int)) (List.mem_of_getElem? (i := 15) rfl)) (Nat.le_of_ble_eq_true rfl) (Nat.le_of_ble_eq_true rfl) (by decide +kernel) (by decide +kernel) dX9_readCharacter_123 ?_
  refine va_put (D := (dC, dI)) (ci := 10) (v := .int (if ((sI s12 1) : Int32) < (x2 + 1) then (sI s12 1) else (x2 + 1))) (ty := .int) (C := RX9) (T := TX9) (N := 20) hx hb hts hi_dm_X9_readCharacter_X9 tyX9 tyX9_ok nmX9 hown hK hP hD hS 0 rfl rfl 1 (by decide) (hts (.fieldLink RX9 55 "TimeMachine$Reader" "at" "I") (List.mem_of_getElem? (i := 16) rfl)) (fun _ h9 => h9) rfl (by decide +kernel) rfl rfl (Nat.le_of_ble_eq_true rfl) dX9_readCharacter_126 (fun H locs hP hD hS => ?_)
  obtain ⟨s13, es13, h⟩ := nd_let_e h
  have hP : va_P (dC, dI) vwCl (dw_X9 a ac s13) H := by rw [es13]; exact hP
  have hD : va_D A (dw_X9 a ac s13) := by rw [es13]; exact hD
  exact K _ _ _ _ _ dX9_readCharacter_129 (Option.some.inj h).symm hP hD hS
set_option maxHeartbeats 40000000 in
set_option maxRecDepth 100000 in
theorem db_X9_readCharacter_105 {p : Program} {l : Launch} {e : Env} {s : State} {m : MethodId} {args : Array Value} {below : List Frame} {meth : Method} {c : Code} {Q : State → Prop} {A : Nat → Prop} {dC : Nat → ClassId} {dI : Nat → Nat → Nat} {a : Nat → Nat} {ac : Nat → ClassId} {n : Nat} {r : St} (C : nd_C p l s m args c A (dC, dI) cX9_readCharacter 5 RX9 ow_dm_X9_readCharacter (dk_X9 ac)) (K : nd_Kv p l e (headSpec ow_dm_X9_readCharacter ({ frames := 1, cells := 0, slots := 0, locals := 24 })).room s m args below meth c Q A (dC, dI) cX9_readCharacter (St) (dw_X9 a ac) r) : dj_X9_readCharacter_105 p l e s m args below meth c Q A dC dI a ac (df_X9_readCharacter_105 n) r := by
  obtain ⟨hlt, hx, hb, hml, hown, hts, hN, hA, hK⟩ := id C
  intro x1 x2 s0 H locs ls h hP hD hS hl
  unfold df_X9_readCharacter_105 at h
  refine lv_bipush (v := 6) hx hb dX9_readCharacter_105 (by decide) ?_
  exact (db_X9_readCharacter_107 C K) (x1) (x2) (6) s0 _ _ _ h hP hD hS (lv_sub hl [0, 1, 2] rfl)
set_option maxHeartbeats 40000000 in
set_option maxRecDepth 100000 in
theorem db_X9_readCharacter_85 {p : Program} {l : Launch} {e : Env} {s : State} {m : MethodId} {args : Array Value} {below : List Frame} {meth : Method} {c : Code} {Q : State → Prop} {A : Nat → Prop} {dC : Nat → ClassId} {dI : Nat → Nat → Nat} {a : Nat → Nat} {ac : Nat → ClassId} {n : Nat} {r : St} (C : nd_C p l s m args c A (dC, dI) cX9_readCharacter 5 RX9 ow_dm_X9_readCharacter (dk_X9 ac)) (K : nd_Kv p l e (headSpec ow_dm_X9_readCharacter ({ frames := 1, cells := 0, slots := 0, locals := 24 })).room s m args below meth c Q A (dC, dI) cX9_readCharacter (St) (dw_X9 a ac) r) : dj_X9_readCharacter_85 p l e s m args below meth c Q A dC dI a ac (df_X9_readCharacter_85 n) r := by
  obtain ⟨hlt, hx, hb, hml, hown, hts, hN, hA, hK⟩ := id C
  intro x1 x2 x3 y0 s0 H locs ls h hP hD hS hl
  unfold df_X9_readCharacter_85 at h
  refine lv_istore (lv' := [(4, .int y0), (0, .ref (a 0)), (1, .int x1), (2, .int x2), (3, .int x3)]) hx hb dX9_readCharacter_85 hl (by decide) rfl (fun ls hl => ?_)
  refine lv_aload_n hx hb dX9_readCharacter_87 rfl (lv_at hl 1 rfl) ?_
  refine lv_iload_n hx hb dX9_readCharacter_88 rfl (lv_at hl 2 rfl) ?_
  refine lv_if_lt (tgt := 105) hx hb dX9_readCharacter_89 (by decide) (fun c10 => ?_) (fun c10 => ?_)
  · have h := nd_pos h c10
    exact (db_X9_readCharacter_105 C K) (x1) (x2) s0 _ _ _ h hP hD hS (lv_sub hl [1, 2, 3] rfl)
  · have h := nd_neg h c10
    refine lv_iload_n hx hb dX9_readCharacter_92 rfl (lv_at hl 4 rfl) ?_
    refine lv_if_eq (tgt := 105) hx hb dX9_readCharacter_93 (by decide) (fun c14 => ?_) (fun c14 => ?_)
    · have h := nd_pos h c14
      exact (db_X9_readCharacter_105 C K) (x1) (x2) s0 _ _ _ h hP hD hS (lv_sub hl [1, 2, 3] rfl)
    · have h := nd_neg h c14
      refine lv_iload hx hb dX9_readCharacter_96 (lv_at hl 0 rfl) ?_
      refine lv_if_eq (tgt := 105) hx hb dX9_readCharacter_98 (by decide) (fun c15 => ?_) (fun c15 => ?_)
      · have h := nd_pos h c15
        exact (db_X9_readCharacter_105 C K) (x1) (x2) s0 _ _ _ h hP hD hS (lv_sub hl [1, 2, 3] rfl)
      · have h := nd_neg h c15
        refine lv_iconst (v := 2) hx hb dX9_readCharacter_101 (by decide) ?_
        refine lv_goto (tgt := 107) hx hb dX9_readCharacter_102 (by decide) ?_
        exact (db_X9_readCharacter_107 C K) (x1) (x2) (2) s0 _ _ _ h hP hD hS (lv_sub hl [1, 2, 3] rfl)
set_option maxHeartbeats 40000000 in
set_option maxRecDepth 100000 in
theorem db_X9_readCharacter_80 {p : Program} {l : Launch} {e : Env} {s : State} {m : MethodId} {args : Array Value} {below : List Frame} {meth : Method} {c : Code} {Q : State → Prop} {A : Nat → Prop} {dC : Nat → ClassId} {dI : Nat → Nat → Nat} {a : Nat → Nat} {ac : Nat → ClassId} {n : Nat} {r : St} (C : nd_C p l s m args c A (dC, dI) cX9_readCharacter 5 RX9 ow_dm_X9_readCharacter (dk_X9 ac)) (K : nd_Kv p l e (headSpec ow_dm_X9_readCharacter ({ frames := 1, cells := 0, slots := 0, locals := 24 })).room s m args below meth c Q A (dC, dI) cX9_readCharacter (St) (dw_X9 a ac) r) : dj_X9_readCharacter_80 p l e s m args below meth c Q A dC dI a ac (df_X9_readCharacter_80 n) r := by
  obtain ⟨hlt, hx, hb, hml, hown, hts, hN, hA, hK⟩ := id C
  intro x1 x2 x3 s0 H locs ls h hP hD hS hl
  unfold df_X9_readCharacter_80 at h
  refine lv_iconst (v := 1) hx hb dX9_readCharacter_80 (by decide) ?_
  refine lv_goto (tgt := 85) hx hb dX9_readCharacter_81 (by decide) ?_
  exact (db_X9_readCharacter_85 C K) (x1) (x2) (x3) (1) s0 _ _ _ h hP hD hS (lv_sub hl [0, 1, 2, 3] rfl)
set_option maxHeartbeats 40000000 in
set_option maxRecDepth 100000 in
theorem db_X9_readCharacter_55 {p : Program} {l : Launch} {e : Env} {s : State} {m : MethodId} {args : Array Value} {below : List Frame} {meth : Method} {c : Code} {Q : State → Prop} {A : Nat → Prop} {dC : Nat → ClassId} {dI : Nat → Nat → Nat} {a : Nat → Nat} {ac : Nat → ClassId} {n : Nat} {r : St} (C : nd_C p l s m args c A (dC, dI) cX9_readCharacter 5 RX9 ow_dm_X9_readCharacter (dk_X9 ac)) (K : nd_Kv p l e (headSpec ow_dm_X9_readCharacter ({ frames := 1, cells := 0, slots := 0, locals := 24 })).room s m args below meth c Q A (dC, dI) cX9_readCharacter (St) (dw_X9 a ac) r) : dj_X9_readCharacter_55 p l e s m args below meth c Q A dC dI a ac (df_X9_readCharacter_55 n) r := by
  obtain ⟨hlt, hx, hb, hml, hown, hts, hN, hA, hK⟩ := id C
  intro x1 x2 y0 s0 H locs ls h hP hD hS hl
  unfold df_X9_readCharacter_55 at h
  refine lv_istore_n (lv' := [(3, .int y0), (0, .ref (a 0)), (1, .int x1), (2, .int x2)]) hx hb dX9_readCharacter_55 rfl hl (by decide) rfl (fun ls hl => ?_)
  refine lv_iload_n hx hb dX9_readCharacter_56 rfl (lv_at hl 3 rfl) ?_
  refine lv_iconst (v := 1) hx hb dX9_readCharacter_57 (by decide) ?_
  refine lv_iadd hx hb dX9_readCharacter_58 ?_
  refine lv_aload_n hx hb dX9_readCharacter_59 rfl (lv_at hl 1 rfl) ?_
  refine va_get (D := (dC, dI)) (ci := 10) (v := .int (sI s0 1)) (C := RX9) (T := TX9) (N := 20) hx hb hts hi_dm_X9_readCharacter_X9 hown hK hP 0 rfl rfl 2 (by decide) (hts (.fieldLink RX9 64 "TimeMachine$Reader" "stop" "I") (List.mem_of_getElem? (i := 9) rfl)) (fun _ h9 => h9) rfl dX9_readCharacter_60 ?_
  refine lv_icmp_ge (tgt := 80) hx hb dX9_readCharacter_63 (by decide) (fun c9 => ?_) (fun c9 => ?_)
  · have h := nd_pos h c9
    exact (db_X9_readCharacter_80 C K) (x1) (x2) (y0) s0 _ _ _ h hP hD hS (lv_sub hl [1, 2, 3, 0] rfl)
  · have h := nd_neg h c9
    refine lv_aload_n hx hb dX9_readCharacter_66 rfl (lv_at hl 1 rfl) ?_
    obtain ⟨o16, h⟩ := nd_o_e h
    refine va_get (D := (dC, dI)) (ci := 10) (v := .ref (a 8)) (C := RX9) (T := TX9) (N := 20) hx hb hts hi_dm_X9_readCharacter_X9 hown hK hP 0 rfl rfl 0 (by decide) (hts (.fieldLink RX9 9 "TimeMachine$Reader" "source" "[B") (List.mem_of_getElem? (i := 17) rfl)) (fun _ h9 => h9) (congrArg (fun z => some (va_rf (Option.map a z))) o16) dX9_readCharacter_67 ?_
    refine lv_iload_n hx hb dX9_readCharacter_70 rfl (lv_at hl 3 rfl) ?_
    refine lv_iconst (v := 1) hx hb dX9_readCharacter_71 (by decide) ?_
    refine lv_iadd hx hb dX9_readCharacter_72 ?_
    obtain ⟨i17, h⟩ := nd_ck_e h
    refine va_bald (i := (x2 + 1)) hx hb hK hP 8 7 rfl rfl i17 dX9_readCharacter_73 ?_
    obtain ⟨q18, s19, hq, h⟩ := nd_b2_e h
    have hPc : va_P (dC, dI) vwCl (dw_P a ac ()) H := nd_p0
    have hDc : va_D A (dw_P a ac ()) := nd_d0
    have hKc : va_K (dC, dI) vwCl (dk_P ac) s := nd_y0 hK
    have hFc : ∀ q, va_A (dw_P a ac ()) H.size q → A q := nd_r0 hS hA
    refine nd_cSi (As := [.int (sR s0 7 (Int32.toNatClampNeg (x2 + 1)))]) (rest := []) (q := q18) (w' := dw_P a ac s19) ⟨hx, hb, hml, hown, hts⟩ (fun sz => dm_X9_isInName l hlt dC dI a ac n ((sR s0 7 (Int32.toNatClampNeg (x2 + 1)))) () hq sz) (cwS 1 hts gi_dm_X9_readCharacter_2 rfl rfl rfl (by decide +kernel) ⟨Nat.le_of_ble_eq_true rfl, Nat.le_of_ble_eq_true rfl⟩) hPc hDc hKc hS hA hN rfl hl.1 rfl (Nat.le_of_ble_eq_true rfl) dX9_readCharacter_74 (fun H locs hP1 hD1 hk1 hS => ?_)
    have hP := nd_n0 hP hk1
    refine lv_if_ne (tgt := 84) hx hb dX9_readCharacter_77 (by decide) (fun c21 => ?_) (fun c21 => ?_)
    · have h := nd_neg h c21
      refine lv_iconst (v := 0) hx hb dX9_readCharacter_84 (by decide) ?_
      exact (db_X9_readCharacter_85 C K) (x1) (x2) (y0) (0) s0 _ _ _ h hP hD hS (lv_sub hl [1, 2, 3, 0] rfl)
    · have h := nd_pos h c21
      exact (db_X9_readCharacter_80 C K) (x1) (x2) (y0) s0 _ _ _ h hP hD hS (lv_sub hl [1, 2, 3, 0] rfl)
set_option maxHeartbeats 40000000 in
set_option maxRecDepth 100000 in
theorem db_X9_readCharacter_54 {p : Program} {l : Launch} {e : Env} {s : State} {m : MethodId} {args : Array Value} {below : List Frame} {meth : Method} {c : Code} {Q : State → Prop} {A : Nat → Prop} {dC : Nat → ClassId} {dI : Nat → Nat → Nat} {a : Nat → Nat} {ac : Nat → ClassId} {n : Nat} {r : St} (C : nd_C p l s m args c A (dC, dI) cX9_readCharacter 5 RX9 ow_dm_X9_readCharacter (dk_X9 ac)) (K : nd_Kv p l e (headSpec ow_dm_X9_readCharacter ({ frames := 1, cells := 0, slots := 0, locals := 24 })).room s m args below meth c Q A (dC, dI) cX9_readCharacter (St) (dw_X9 a ac) r) : dj_X9_readCharacter_54 p l e s m args below meth c Q A dC dI a ac (df_X9_readCharacter_54 n) r := by
  obtain ⟨hlt, hx, hb, hml, hown, hts, hN, hA, hK⟩ := id C
  intro x1 x2 s0 H locs ls h hP hD hS hl
  unfold df_X9_readCharacter_54 at h
  refine lv_iconst (v := 0) hx hb dX9_readCharacter_54 (by decide) ?_
  exact (db_X9_readCharacter_55 C K) (x1) (x2) (0) s0 _ _ _ h hP hD hS (lv_sub hl [0, 1, 2] rfl)
set_option maxHeartbeats 40000000 in
set_option maxRecDepth 100000 in
theorem db_X9_readCharacter_0 {p : Program} {l : Launch} {e : Env} {s : State} {m : MethodId} {args : Array Value} {below : List Frame} {meth : Method} {c : Code} {Q : State → Prop} {A : Nat → Prop} {dC : Nat → ClassId} {dI : Nat → Nat → Nat} {a : Nat → Nat} {ac : Nat → ClassId} {n : Nat} {r : St} (C : nd_C p l s m args c A (dC, dI) cX9_readCharacter 5 RX9 ow_dm_X9_readCharacter (dk_X9 ac)) (K : nd_Kv p l e (headSpec ow_dm_X9_readCharacter ({ frames := 1, cells := 0, slots := 0, locals := 24 })).room s m args below meth c Q A (dC, dI) cX9_readCharacter (St) (dw_X9 a ac) r) : dj_X9_readCharacter_0 p l e s m args below meth c Q A dC dI a ac (df_X9_readCharacter_0 n) r := by
  obtain ⟨hlt, hx, hb, hml, hown, hts, hN, hA, hK⟩ := id C
  intro s0 H locs ls h hP hD hS hl
  unfold df_X9_readCharacter_0 at h
  refine lv_aload_n hx hb dX9_readCharacter_0 rfl (lv_at hl 0 rfl) ?_
  refine lv_aload_n hx hb dX9_readCharacter_1 rfl (lv_at hl 0 rfl) ?_
  refine va_get (D := (dC, dI)) (ci := 10) (v := .int (sI s0 3)) (C := RX9) (T := TX9) (N := 20) hx hb hts hi_dm_X9_readCharacter_X9 hown hK hP 0 rfl rfl 4 (by decide) (hts (.fieldLink RX9 70 "TimeMachine$Reader" "from" "I") (List.mem_of_getElem? (i := 1) rfl)) (fun _ h9 => h9) rfl dX9_readCharacter_2 ?_
  refine lv_iconst (v := 1) hx hb dX9_readCharacter_5 (by decide) ?_
  refine lv_iadd hx hb dX9_readCharacter_6 ?_
  refine lv_bipush (v := 39) hx hb dX9_readCharacter_7 (by decide) ?_
  obtain ⟨q1, s2, hq, h⟩ := nd_b2_e h
  have hPc := hP
  have hDc := hD
  have hKc := hK
  have hFc := nd_rs hD hS hA
  refine nd_cVi (As := [.int ((sI s0 3) + 1), .int 39]) (rest := []) (q := q1) (w' := dw_X9 a ac s2) ⟨hx, hb, hml, hown, hts⟩ (fun sz => dm_X9_character l hlt dC dI a ac n (((sI s0 3) + 1)) (39) s0 hq sz) (cwV 2 hts gi_dm_X9_readCharacter_0 rfl rfl rfl (by decide +kernel) ⟨Nat.le_of_ble_eq_true rfl, Nat.le_of_ble_eq_true rfl⟩) hPc hDc hKc hS hA hN (va_recv hKc hPc (ci := 10) (q0 := 0) rfl rfl) rfl hl.1 rfl (Nat.le_of_ble_eq_true rfl) dX9_readCharacter_9 (fun H locs hP1 hD1 hk1 hS => ?_)
  have hP := hP1
  have hD := hD1.weaken (fun k q _ h => hFc q.1 h)
  refine lv_istore_n (lv' := [(1, .int q1), (0, .ref (a 0))]) hx hb dX9_readCharacter_12 rfl hl (by decide) rfl (fun ls hl => ?_)
  refine lv_aload_n hx hb dX9_readCharacter_13 rfl (lv_at hl 1 rfl) ?_
  refine va_get (D := (dC, dI)) (ci := 10) (v := .int (sI s2 3)) (C := RX9) (T := TX9) (N := 20) hx hb hts hi_dm_X9_readCharacter_X9 hown hK hP 0 rfl rfl 4 (by decide) (hts (.fieldLink RX9 70 "TimeMachine$Reader" "from" "I") (List.mem_of_getElem? (i := 1) rfl)) (fun _ h9 => h9) rfl dX9_readCharacter_14 ?_
  refine lv_iconst (v := 1) hx hb dX9_readCharacter_17 (by decide) ?_
  refine lv_iadd hx hb dX9_readCharacter_18 ?_
  refine lv_aload_n hx hb dX9_readCharacter_19 rfl (lv_at hl 1 rfl) ?_
  refine lv_aload_n hx hb dX9_readCharacter_20 rfl (lv_at hl 1 rfl) ?_
  refine va_get (D := (dC, dI)) (ci := 10) (v := .int (sI s2 3)) (C := RX9) (T := TX9) (N := 20) hx hb hts hi_dm_X9_readCharacter_X9 hown hK hP 0 rfl rfl 4 (by decide) (hts (.fieldLink RX9 70 "TimeMachine$Reader" "from" "I") (List.mem_of_getElem? (i := 1) rfl)) (fun _ h9 => h9) rfl dX9_readCharacter_21 ?_
  refine lv_iconst (v := 1) hx hb dX9_readCharacter_24 (by decide) ?_
  refine lv_iadd hx hb dX9_readCharacter_25 ?_
  obtain ⟨q4, s5, hq, h⟩ := nd_b2_e h
  have hPc := hP
  have hDc := hD
  have hKc := hK
  have hFc := nd_rs hD hS hA
  refine nd_cVi (As := [.int ((sI s2 3) + 1)]) (rest := [.int ((sI s2 3) + 1)]) (q := q4) (w' := dw_X9 a ac s5) ⟨hx, hb, hml, hown, hts⟩ (fun sz => dm_X9_width l hlt dC dI a ac n (((sI s2 3) + 1)) s2 hq sz) (cwV 1 hts gi_dm_X9_readCharacter_1 rfl rfl rfl (by decide +kernel) ⟨Nat.le_of_ble_eq_true rfl, Nat.le_of_ble_eq_true rfl⟩) hPc hDc hKc hS hA hN (va_recv hKc hPc (ci := 10) (q0 := 0) rfl rfl) rfl hl.1 rfl (Nat.le_of_ble_eq_true rfl) dX9_readCharacter_26 (fun H locs hP1 hD1 hk1 hS => ?_)
  have hP := hP1
  have hD := hD1.weaken (fun k q _ h => hFc q.1 h)
  refine lv_iadd hx hb dX9_readCharacter_29 ?_
  refine lv_topi (fun z7 ez7 => ?_)
  have h := nd_at h ez7
  refine lv_istore_n (lv' := [(2, .int z7), (1, .int q1), (0, .ref (a 0))]) hx hb dX9_readCharacter_30 rfl hl (by decide) rfl (fun ls hl => ?_)
  refine lv_iload_n hx hb dX9_readCharacter_31 rfl (lv_at hl 0 rfl) ?_
  refine lv_aload_n hx hb dX9_readCharacter_32 rfl (lv_at hl 2 rfl) ?_
  refine va_get (D := (dC, dI)) (ci := 10) (v := .int (sI s5 1)) (C := RX9) (T := TX9) (N := 20) hx hb hts hi_dm_X9_readCharacter_X9 hown hK hP 0 rfl rfl 2 (by decide) (hts (.fieldLink RX9 64 "TimeMachine$Reader" "stop" "I") (List.mem_of_getElem? (i := 9) rfl)) (fun _ h9 => h9) rfl dX9_readCharacter_33 ?_
  refine lv_icmp_ge (tgt := 54) hx hb dX9_readCharacter_36 (by decide) (fun c8 => ?_) (fun c8 => ?_)
  · have h := nd_pos h c8
    exact (db_X9_readCharacter_54 C K) (q1) (z7) s5 _ _ _ h hP hD hS (lv_sub hl [2, 1, 0] rfl)
  · have h := nd_neg h c8
    refine lv_aload_n hx hb dX9_readCharacter_39 rfl (lv_at hl 2 rfl) ?_
    obtain ⟨o22, h⟩ := nd_o_e h
    refine va_get (D := (dC, dI)) (ci := 10) (v := .ref (a 8)) (C := RX9) (T := TX9) (N := 20) hx hb hts hi_dm_X9_readCharacter_X9 hown hK hP 0 rfl rfl 0 (by decide) (hts (.fieldLink RX9 9 "TimeMachine$Reader" "source" "[B") (List.mem_of_getElem? (i := 17) rfl)) (fun _ h9 => h9) (congrArg (fun z => some (va_rf (Option.map a z))) o22) dX9_readCharacter_40 ?_
    refine lv_iload_n hx hb dX9_readCharacter_43 rfl (lv_at hl 0 rfl) ?_
    obtain ⟨i23, h⟩ := nd_ck_e h
    refine va_bald (i := z7) hx hb hK hP 8 7 rfl rfl i23 dX9_readCharacter_44 ?_
    refine lv_bipush (v := 39) hx hb dX9_readCharacter_45 (by decide) ?_
    refine lv_icmp_ne (tgt := 54) hx hb dX9_readCharacter_47 (by decide) (fun c24 => ?_) (fun c24 => ?_)
    · have h := nd_neg h c24
      exact (db_X9_readCharacter_54 C K) (q1) (z7) s5 _ _ _ h hP hD hS (lv_sub hl [2, 1, 0] rfl)
    · have h := nd_pos h c24
      refine lv_iconst (v := 1) hx hb dX9_readCharacter_50 (by decide) ?_
      refine lv_goto (tgt := 55) hx hb dX9_readCharacter_51 (by decide) ?_
      exact (db_X9_readCharacter_55 C K) (q1) (z7) (1) s5 _ _ _ h hP hD hS (lv_sub hl [2, 1, 0] rfl)
set_option maxHeartbeats 40000000 in
set_option maxRecDepth 100000 in
theorem dm_X9_readCharacter (l : Launch) (hlt : l.stackTraces = false) (dC : Nat → ClassId) (dI : Nat → Nat → Nat) (a : Nat → Nat) (ac : Nat → ClassId) (n : Nat) (s0 : St) {r : St} (h : df_X9_readCharacter n s0 = some r) (sz : Nat) : Met l yX9_readCharacter ow_dm_X9_readCharacter ({ frames := 1, cells := 0, slots := 0, locals := 24 }) (va_Pc [.ref (a 0)] (fun U => U.heap.size = sz ∧ va_P (dC, dI) vwCl (dw_X9 a ac s0) U.heap ∧ va_K (dC, dI) vwCl (dk_X9 ac) U ∧ va_D (fun _ => True) (dw_X9 a ac s0) ∧ nv_E dI (va_A (dw_X9 a ac s0) sz) U)) (va_Qv (fun _ => True) (fun (_ : Unit) t => va_P (dC, dI) vwCl (dw_X9 a ac r) t.heap ∧ va_K (dC, dI) vwCl (dk_X9 ac) t ∧ va_D (va_A (dw_X9 a ac s0) sz) (dw_X9 a ac r)) (va_A (dw_X9 a ac s0) sz)) 0 0 (va_A (dw_X9 a ac s0) sz) := by
  refine Met.ofW (cc := cX9_readCharacter) (maxL := 5) (ret := none) (by decide) rfl ?_
  intro p e s m args below meth c s₁ B hml hv
  obtain ⟨rfl, hsz, hP, hK, hD0, hN⟩ := hv
  have hx := B.exec
  have hb := B.bytes
  have hr := B.returns
  have hts := atoms_spec (ws := ow_dm_X9_readCharacter) B.pre
  have hown : s.vm.findClass RX9 = some m.cls := findClass_of_methodNamed B.named
  have hlocks := B.notSynchronized
  subst hsz
  have hD := hD0.self (sz := s.heap.size)
  generalize hAe : va_A (dw_X9 a ac s0) s.heap.size = A at hD hN ⊢
  have hA : ∀ q : Nat, s.heap.size ≤ q → A q := fun q h => by rw [← hAe]; exact Or.inr h
  have hl := lv_entry ([.ref (a 0)]) (n := 5) (Nat.le_of_ble_eq_true rfl)
  rw [lg_entry_eq]
  generalize (lg_sl ([.ref (a 0)]) ++ List.replicate (5 - (lg_sl ([.ref (a 0)])).length) Slot.unset).toArray = ls at hl ⊢
  have hl : lv_has ls 5 [(0, .ref (a 0))] := hl
  exact db_X9_readCharacter_0 (dC := dC) (dI := dI) (a := a) (ac := ac) (n := n) (r := r) ⟨hlt, hx, hb, hml, hown, hts, hN, hA, hK⟩ (fun pc τ H locs ls d er hP hD hS => by subst er; exact W.vret hx hb hr (fun t ht hW => ⟨⟨(), rfl, trivial, by rw [ht]; exact hP, va_K.moved hW.alike hK, hD⟩, hS.F ht⟩) hS.2.2 d) s0 _ _ _ h hP hD va_S.rf (lv_sub hl [0] rfl)
def ow_dm_X9_readText : List Cond := Cond.code yX9_readText cX9_readText 2 none :: ([Cond.fieldLink RX9 70 "TimeMachine$Reader" "from" "I", Cond.fieldLink RX9 64 "TimeMachine$Reader" "stop" "I", Cond.fieldLink RX9 73 "TimeMachine$Reader" "kind" "I", Cond.methodLink RX9 58 Lib.Math.min.name, Cond.static Lib.Math.min.name, Cond.initialized "java/lang/Math", Cond.code Lib.Math.min.name Lib.Math.min.code 2 (some .int), Cond.fieldLink RX9 55 "TimeMachine$Reader" "at" "I", Cond.fieldLink RX9 9 "TimeMachine$Reader" "source" "[B", Cond.methodLink RX9 98 yX9_character, Cond.instanceMethod yX9_character, Cond.selects RX9 yX9_character yX9_character, Cond.initialized RX9, Cond.methodLink RX9 101 yX9_width, Cond.instanceMethod yX9_width, Cond.selects RX9 yX9_width yX9_width] ++ (u_ws RX9 TX9 20 ++ (ow_dm_X9_character ++ (ow_dm_X9_width ++ []))))
theorem gd_dm_X9_readText : ∀ w ∈ ow_dm_X9_readText, (w.onTables && w.keeps) = true ∨ ∃ ty, w = Cond.arrayClass ty := List.forall_mem_cons.mpr ⟨good_of_word rfl, List.forall_mem_append.mpr ⟨fun w h => good_of_word (List.all_eq_true.mp (by decide +kernel) w h), List.forall_mem_append.mpr ⟨gu_X9, List.forall_mem_append.mpr ⟨gd_dm_X9_character, List.forall_mem_append.mpr ⟨gd_dm_X9_width, fun _ h => nomatch h⟩⟩⟩⟩⟩
theorem hi_dm_X9_readText_X9 : ∀ w ∈ u_ws RX9 TX9 20, w ∈ ow_dm_X9_readText := fun w h => List.mem_cons_of_mem _ (List.mem_append_right _ (List.mem_append_left _ h))
theorem gi_dm_X9_readText_0 : GoodIn ow_dm_X9_readText (wsV RX9 98 RX9 yX9_character ow_dm_X9_character) := goodIn_app (goodIn_of _ (by decide +kernel)) (fun w h => ⟨List.mem_cons_of_mem _ (List.mem_append_right _ (List.mem_append_right _ (List.mem_append_left _ h))), gd_dm_X9_character w h⟩)
theorem gi_dm_X9_readText_1 : GoodIn ow_dm_X9_readText (wsV RX9 101 RX9 yX9_width ow_dm_X9_width) := goodIn_app (goodIn_of _ (by decide +kernel)) (fun w h => ⟨List.mem_cons_of_mem _ (List.mem_append_right _ (List.mem_append_right _ (List.mem_append_right _ (List.mem_append_left _ h)))), gd_dm_X9_width w h⟩)
def dj_X9_readText_62 (p : Program) (l : Launch) (e : Env) (s : State) (m : MethodId) (args : Array Value) (below : List Frame) (meth : Method) (c : Code) (Q : State → Prop) (A : Nat → Prop) (dC : Nat → ClassId) (dI : Nat → Nat → Nat) (a : Nat → Nat) (ac : Nat → ClassId) (g : Int32 → Int32 → (St) → Option (St)) (r : St) : Prop := ∀ (x1 : Int32) (y1 : Int32) (s0 : St) (H : Heap) (locs : List Loc) (ls : Array Slot), g x1 y1 s0 = some r → va_P (dC, dI) vwCl (dw_X9 a ac s0) H → va_D A (dw_X9 a ac s0) → va_S A s.heap H locs → lv_has ls 2 [(0, .ref (a 0)), (1, .int x1)] → W p l e (headSpec ow_dm_X9_readText ({ frames := 1, cells := 0, slots := 0, locals := 24 })).room s m args below meth c H locs 0 0 Q (F0 m 62 ls [.int y1, .ref (a 0)])
def dj_X9_readText_60 (p : Program) (l : Launch) (e : Env) (s : State) (m : MethodId) (args : Array Value) (below : List Frame) (meth : Method) (c : Code) (Q : State → Prop) (A : Nat → Prop) (dC : Nat → ClassId) (dI : Nat → Nat → Nat) (a : Nat → Nat) (ac : Nat → ClassId) (g : Int32 → (St) → Option (St)) (r : St) : Prop := ∀ (x1 : Int32) (s0 : St) (H : Heap) (locs : List Loc) (ls : Array Slot), g x1 s0 = some r → va_P (dC, dI) vwCl (dw_X9 a ac s0) H → va_D A (dw_X9 a ac s0) → va_S A s.heap H locs → lv_has ls 2 [(0, .ref (a 0)), (1, .int x1)] → W p l e (headSpec ow_dm_X9_readText ({ frames := 1, cells := 0, slots := 0, locals := 24 })).room s m args below meth c H locs 0 0 Q (F0 m 60 ls [.ref (a 0)])
def dj_X9_readText_36 (p : Program) (l : Launch) (e : Env) (s : State) (m : MethodId) (args : Array Value) (below : List Frame) (meth : Method) (c : Code) (Q : State → Prop) (A : Nat → Prop) (dC : Nat → ClassId) (dI : Nat → Nat → Nat) (a : Nat → Nat) (ac : Nat → ClassId) (g : Int32 → (St) → Option (St)) (r : St) : Prop := ∀ (x1 : Int32) (s0 : St) (H : Heap) (locs : List Loc) (ls : Array Slot), g x1 s0 = some r → va_P (dC, dI) vwCl (dw_X9 a ac s0) H → va_D A (dw_X9 a ac s0) → va_S A s.heap H locs → lv_has ls 2 [(0, .ref (a 0)), (1, .int x1)] → W p l e (headSpec ow_dm_X9_readText ({ frames := 1, cells := 0, slots := 0, locals := 24 })).room s m args below meth c H locs 0 0 Q (F0 m 36 ls [])
def dj_X9_readText_7 (p : Program) (l : Launch) (e : Env) (s : State) (m : MethodId) (args : Array Value) (below : List Frame) (meth : Method) (c : Code) (Q : State → Prop) (A : Nat → Prop) (dC : Nat → ClassId) (dI : Nat → Nat → Nat) (a : Nat → Nat) (ac : Nat → ClassId) (g : Int32 → (St) → Option (St)) (r : St) : Prop := ∀ (x1 : Int32) (s0 : St) (H : Heap) (locs : List Loc) (ls : Array Slot), g x1 s0 = some r → va_P (dC, dI) vwCl (dw_X9 a ac s0) H → va_D A (dw_X9 a ac s0) → va_S A s.heap H locs → lv_has ls 2 [(0, .ref (a 0)), (1, .int x1)] → W p l e (headSpec ow_dm_X9_readText ({ frames := 1, cells := 0, slots := 0, locals := 24 })).room s m args below meth c H locs 0 0 Q (F0 m 7 ls [])
def dj_X9_readText_0 (p : Program) (l : Launch) (e : Env) (s : State) (m : MethodId) (args : Array Value) (below : List Frame) (meth : Method) (c : Code) (Q : State → Prop) (A : Nat → Prop) (dC : Nat → ClassId) (dI : Nat → Nat → Nat) (a : Nat → Nat) (ac : Nat → ClassId) (g : (St) → Option (St)) (r : St) : Prop := ∀ (s0 : St) (H : Heap) (locs : List Loc) (ls : Array Slot), g s0 = some r → va_P (dC, dI) vwCl (dw_X9 a ac s0) H → va_D A (dw_X9 a ac s0) → va_S A s.heap H locs → lv_has ls 2 [(0, .ref (a 0))] → W p l e (headSpec ow_dm_X9_readText ({ frames := 1, cells := 0, slots := 0, locals := 24 })).room s m args below meth c H locs 0 0 Q (F0 m 0 ls [])
set_option maxHeartbeats 40000000 in
set_option maxRecDepth 100000 in
theorem db_X9_readText_62 {p : Program} {l : Launch} {e : Env} {s : State} {m : MethodId} {args : Array Value} {below : List Frame} {meth : Method} {c : Code} {Q : State → Prop} {A : Nat → Prop} {dC : Nat → ClassId} {dI : Nat → Nat → Nat} {a : Nat → Nat} {ac : Nat → ClassId} {n : Nat} {r : St} (C : nd_C p l s m args c A (dC, dI) cX9_readText 2 RX9 ow_dm_X9_readText (dk_X9 ac)) (K : nd_Kv p l e (headSpec ow_dm_X9_readText ({ frames := 1, cells := 0, slots := 0, locals := 24 })).room s m args below meth c Q A (dC, dI) cX9_readText (St) (dw_X9 a ac) r) : dj_X9_readText_62 p l e s m args below meth c Q A dC dI a ac (df_X9_readText_62 n) r := by
  obtain ⟨hlt, hx, hb, hml, hown, hts, hN, hA, hK⟩ := id C
  intro x1 y1 s0 H locs ls h hP hD hS hl
  unfold df_X9_readText_62 at h
  refine va_put (D := (dC, dI)) (ci := 10) (v := .int y1) (ty := .int) (C := RX9) (T := TX9) (N := 20) hx hb hts hi_dm_X9_readText_X9 tyX9 tyX9_ok nmX9 hown hK hP hD hS 0 rfl rfl 3 (by decide) (hts (.fieldLink RX9 73 "TimeMachine$Reader" "kind" "I") (List.mem_of_getElem? (i := 3) rfl)) (fun _ h9 => h9) rfl (by decide +kernel) rfl rfl (Nat.le_of_ble_eq_true rfl) dX9_readText_62 (fun H locs hP hD hS => ?_)
  obtain ⟨s4, es4, h⟩ := nd_let_e h
  have hP : va_P (dC, dI) vwCl (dw_X9 a ac s4) H := by rw [es4]; exact hP
  have hD : va_D A (dw_X9 a ac s4) := by rw [es4]; exact hD
  refine lv_aload_n hx hb dX9_readText_65 rfl (lv_at hl 0 rfl) ?_
  refine lv_iload_n hx hb dX9_readText_66 rfl (lv_at hl 1 rfl) ?_
  refine lv_iconst (v := 1) hx hb dX9_readText_67 (by decide) ?_
  refine lv_iadd hx hb dX9_readText_68 ?_
  refine lv_aload_n hx hb dX9_readText_69 rfl (lv_at hl 0 rfl) ?_
  refine va_get (D := (dC, dI)) (ci := 10) (v := .int (sI s4 1)) (C := RX9) (T := TX9) (N := 20) hx hb hts hi_dm_X9_readText_X9 hown hK hP 0 rfl rfl 2 (by decide) (hts (.fieldLink RX9 64 "TimeMachine$Reader" "stop" "I") (List.mem_of_getElem? (i := 2) rfl)) (fun _ h9 => h9) rfl dX9_readText_70 ?_
  refine va_mmin hx hb (by rw [hml]; exact hl.1.symm) hown (hts (.methodLink RX9 58 Lib.Math.min.name) (List.mem_of_getElem? (i := 4) rfl)) (hts (.static Lib.Math.min.name) (List.mem_of_getElem? (i := 5) rfl)) (hts (.initialized "java/lang/Math") (List.mem_of_getElem? (i := 6) rfl)) (hts (.code Lib.Math.min.name Lib.Math.min.code 2 (some .int)) (List.mem_of_getElem? (i := 7) rfl)) (Nat.le_of_ble_eq_true rfl) (Nat.le_of_ble_eq_true rfl) (by decide +kernel) (by decide +kernel) dX9_readText_73 ?_
  refine va_put (D := (dC, dI)) (ci := 10) (v := .int (if ((sI s4 1) : Int32) < (x1 + 1) then (sI s4 1) else (x1 + 1))) (ty := .int) (C := RX9) (T := TX9) (N := 20) hx hb hts hi_dm_X9_readText_X9 tyX9 tyX9_ok nmX9 hown hK hP hD hS 0 rfl rfl 1 (by decide) (hts (.fieldLink RX9 55 "TimeMachine$Reader" "at" "I") (List.mem_of_getElem? (i := 8) rfl)) (fun _ h9 => h9) rfl (by decide +kernel) rfl rfl (Nat.le_of_ble_eq_true rfl) dX9_readText_76 (fun H locs hP hD hS => ?_)
  obtain ⟨s5, es5, h⟩ := nd_let_e h
  have hP : va_P (dC, dI) vwCl (dw_X9 a ac s5) H := by rw [es5]; exact hP
  have hD : va_D A (dw_X9 a ac s5) := by rw [es5]; exact hD
  exact K _ _ _ _ _ dX9_readText_79 (Option.some.inj h).symm hP hD hS
set_option maxHeartbeats 40000000 in
set_option maxRecDepth 100000 in
theorem db_X9_readText_60 {p : Program} {l : Launch} {e : Env} {s : State} {m : MethodId} {args : Array Value} {below : List Frame} {meth : Method} {c : Code} {Q : State → Prop} {A : Nat → Prop} {dC : Nat → ClassId} {dI : Nat → Nat → Nat} {a : Nat → Nat} {ac : Nat → ClassId} {n : Nat} {r : St} (C : nd_C p l s m args c A (dC, dI) cX9_readText 2 RX9 ow_dm_X9_readText (dk_X9 ac)) (K : nd_Kv p l e (headSpec ow_dm_X9_readText ({ frames := 1, cells := 0, slots := 0, locals := 24 })).room s m args below meth c Q A (dC, dI) cX9_readText (St) (dw_X9 a ac) r) : dj_X9_readText_60 p l e s m args below meth c Q A dC dI a ac (df_X9_readText_60 n) r := by
  obtain ⟨hlt, hx, hb, hml, hown, hts, hN, hA, hK⟩ := id C
  intro x1 s0 H locs ls h hP hD hS hl
  unfold df_X9_readText_60 at h
  refine lv_bipush (v := 6) hx hb dX9_readText_60 (by decide) ?_
  exact (db_X9_readText_62 C K) (x1) (6) s0 _ _ _ h hP hD hS (lv_sub hl [0, 1] rfl)
set_option maxHeartbeats 40000000 in
set_option maxRecDepth 100000 in
theorem db_X9_readText_36 {p : Program} {l : Launch} {e : Env} {s : State} {m : MethodId} {args : Array Value} {below : List Frame} {meth : Method} {c : Code} {Q : State → Prop} {A : Nat → Prop} {dC : Nat → ClassId} {dI : Nat → Nat → Nat} {a : Nat → Nat} {ac : Nat → ClassId} {n : Nat} {r : St} (C : nd_C p l s m args c A (dC, dI) cX9_readText 2 RX9 ow_dm_X9_readText (dk_X9 ac)) (K : nd_Kv p l e (headSpec ow_dm_X9_readText ({ frames := 1, cells := 0, slots := 0, locals := 24 })).room s m args below meth c Q A (dC, dI) cX9_readText (St) (dw_X9 a ac) r) : dj_X9_readText_36 p l e s m args below meth c Q A dC dI a ac (df_X9_readText_36 n) r := by
  obtain ⟨hlt, hx, hb, hml, hown, hts, hN, hA, hK⟩ := id C
  intro x1 s0 H locs ls h hP hD hS hl
  unfold df_X9_readText_36 at h
  refine lv_aload_n hx hb dX9_readText_36 rfl (lv_at hl 0 rfl) ?_
  refine lv_iload_n hx hb dX9_readText_37 rfl (lv_at hl 1 rfl) ?_
  refine lv_aload_n hx hb dX9_readText_38 rfl (lv_at hl 0 rfl) ?_
  refine va_get (D := (dC, dI)) (ci := 10) (v := .int (sI s0 1)) (C := RX9) (T := TX9) (N := 20) hx hb hts hi_dm_X9_readText_X9 hown hK hP 0 rfl rfl 2 (by decide) (hts (.fieldLink RX9 64 "TimeMachine$Reader" "stop" "I") (List.mem_of_getElem? (i := 2) rfl)) (fun _ h9 => h9) rfl dX9_readText_39 ?_
  refine lv_icmp_ge (tgt := 60) hx hb dX9_readText_42 (by decide) (fun c3 => ?_) (fun c3 => ?_)
  · have h := nd_pos h c3
    exact (db_X9_readText_60 C K) (x1) s0 _ _ _ h hP hD hS (lv_sub hl [0, 1] rfl)
  · have h := nd_neg h c3
    refine lv_aload_n hx hb dX9_readText_45 rfl (lv_at hl 0 rfl) ?_
    obtain ⟨o6, h⟩ := nd_o_e h
    refine va_get (D := (dC, dI)) (ci := 10) (v := .ref (a 8)) (C := RX9) (T := TX9) (N := 20) hx hb hts hi_dm_X9_readText_X9 hown hK hP 0 rfl rfl 0 (by decide) (hts (.fieldLink RX9 9 "TimeMachine$Reader" "source" "[B") (List.mem_of_getElem? (i := 9) rfl)) (fun _ h9 => h9) (congrArg (fun z => some (va_rf (Option.map a z))) o6) dX9_readText_46 ?_
    refine lv_iload_n hx hb dX9_readText_49 rfl (lv_at hl 1 rfl) ?_
    obtain ⟨i7, h⟩ := nd_ck_e h
    refine va_bald (i := x1) hx hb hK hP 8 7 rfl rfl i7 dX9_readText_50 ?_
    refine lv_bipush (v := 34) hx hb dX9_readText_51 (by decide) ?_
    refine lv_icmp_ne (tgt := 60) hx hb dX9_readText_53 (by decide) (fun c8 => ?_) (fun c8 => ?_)
    · have h := nd_neg h c8
      exact (db_X9_readText_60 C K) (x1) s0 _ _ _ h hP hD hS (lv_sub hl [0, 1] rfl)
    · have h := nd_pos h c8
      refine lv_iconst (v := 4) hx hb dX9_readText_56 (by decide) ?_
      refine lv_goto (tgt := 62) hx hb dX9_readText_57 (by decide) ?_
      exact (db_X9_readText_62 C K) (x1) (4) s0 _ _ _ h hP hD hS (lv_sub hl [0, 1] rfl)
set_option maxHeartbeats 40000000 in
set_option maxRecDepth 100000 in
theorem dB_X9_readText_7 {p : Program} {l : Launch} {e : Env} {s : State} {m : MethodId} {args : Array Value} {below : List Frame} {meth : Method} {c : Code} {Q : State → Prop} {A : Nat → Prop} {dC : Nat → ClassId} {dI : Nat → Nat → Nat} {a : Nat → Nat} {ac : Nat → ClassId} {n : Nat} {r : St} (C : nd_C p l s m args c A (dC, dI) cX9_readText 2 RX9 ow_dm_X9_readText (dk_X9 ac)) (K : nd_Kv p l e (headSpec ow_dm_X9_readText ({ frames := 1, cells := 0, slots := 0, locals := 24 })).room s m args below meth c Q A (dC, dI) cX9_readText (St) (dw_X9 a ac) r) {g7 : Int32 → (St) → Option (St)} (J7 : dj_X9_readText_7 p l e s m args below meth c Q A dC dI a ac g7 r) : dj_X9_readText_7 p l e s m args below meth c Q A dC dI a ac (dF_X9_readText_7 n g7) r := by
  obtain ⟨hlt, hx, hb, hml, hown, hts, hN, hA, hK⟩ := id C
  intro x1 s0 H locs ls h hP hD hS hl
  unfold dF_X9_readText_7 at h
  refine lv_iload_n hx hb dX9_readText_7 rfl (lv_at hl 1 rfl) ?_
  refine lv_aload_n hx hb dX9_readText_8 rfl (lv_at hl 0 rfl) ?_
  refine va_get (D := (dC, dI)) (ci := 10) (v := .int (sI s0 1)) (C := RX9) (T := TX9) (N := 20) hx hb hts hi_dm_X9_readText_X9 hown hK hP 0 rfl rfl 2 (by decide) (hts (.fieldLink RX9 64 "TimeMachine$Reader" "stop" "I") (List.mem_of_getElem? (i := 2) rfl)) (fun _ h9 => h9) rfl dX9_readText_9 ?_
  refine lv_icmp_ge (tgt := 36) hx hb dX9_readText_12 (by decide) (fun c2 => ?_) (fun c2 => ?_)
  · have h := nd_pos h c2
    exact (db_X9_readText_36 C K) (x1) s0 _ _ _ h hP hD hS (lv_sub hl [0, 1] rfl)
  · have h := nd_neg h c2
    refine lv_aload_n hx hb dX9_readText_15 rfl (lv_at hl 0 rfl) ?_
    refine lv_iload_n hx hb dX9_readText_16 rfl (lv_at hl 1 rfl) ?_
    refine lv_bipush (v := 34) hx hb dX9_readText_17 (by decide) ?_
    obtain ⟨q9, s10, hq, h⟩ := nd_b2_e h
    have hPc := hP
    have hDc := hD
    have hKc := hK
    have hFc := nd_rs hD hS hA
    refine nd_cVi (As := [.int x1, .int 34]) (rest := []) (q := q9) (w' := dw_X9 a ac s10) ⟨hx, hb, hml, hown, hts⟩ (fun sz => dm_X9_character l hlt dC dI a ac n (x1) (34) s0 hq sz) (cwV 2 hts gi_dm_X9_readText_0 rfl rfl rfl (by decide +kernel) ⟨Nat.le_of_ble_eq_true rfl, Nat.le_of_ble_eq_true rfl⟩) hPc hDc hKc hS hA hN (va_recv hKc hPc (ci := 10) (q0 := 0) rfl rfl) rfl hl.1 rfl (Nat.le_of_ble_eq_true rfl) dX9_readText_19 (fun H locs hP1 hD1 hk1 hS => ?_)
    have hP := hP1
    have hD := hD1.weaken (fun k q _ h => hFc q.1 h)
    refine lv_if_lt (tgt := 36) hx hb dX9_readText_22 (by decide) (fun c12 => ?_) (fun c12 => ?_)
    · have h := nd_pos h c12
      exact (db_X9_readText_36 C K) (x1) s10 _ _ _ h hP hD hS (lv_sub hl [0, 1] rfl)
    · have h := nd_neg h c12
      refine lv_iload_n hx hb dX9_readText_25 rfl (lv_at hl 1 rfl) ?_
      refine lv_aload_n hx hb dX9_readText_26 rfl (lv_at hl 0 rfl) ?_
      refine lv_iload_n hx hb dX9_readText_27 rfl (lv_at hl 1 rfl) ?_
      obtain ⟨q13, s14, hq, h⟩ := nd_b2_e h
      have hPc := hP
      have hDc := hD
      have hKc := hK
      have hFc := nd_rs hD hS hA
      refine nd_cVi (As := [.int x1]) (rest := [.int x1]) (q := q13) (w' := dw_X9 a ac s14) ⟨hx, hb, hml, hown, hts⟩ (fun sz => dm_X9_width l hlt dC dI a ac n (x1) s10 hq sz) (cwV 1 hts gi_dm_X9_readText_1 rfl rfl rfl (by decide +kernel) ⟨Nat.le_of_ble_eq_true rfl, Nat.le_of_ble_eq_true rfl⟩) hPc hDc hKc hS hA hN (va_recv hKc hPc (ci := 10) (q0 := 0) rfl rfl) rfl hl.1 rfl (Nat.le_of_ble_eq_true rfl) dX9_readText_28 (fun H locs hP1 hD1 hk1 hS => ?_)
      have hP := hP1
      have hD := hD1.weaken (fun k q _ h => hFc q.1 h)
      refine lv_iadd hx hb dX9_readText_31 ?_
      refine lv_topi (fun z16 ez16 => ?_)
      have h := nd_at h ez16
      refine lv_istore_n (lv' := [(1, .int z16), (0, .ref (a 0))]) hx hb dX9_readText_32 rfl hl (by decide) rfl (fun ls hl => ?_)
      refine lv_goto (tgt := 7) hx hb dX9_readText_33 (by decide) ?_
      exact (J7) (z16) s14 _ _ _ h hP hD hS (lv_sub hl [1, 0] rfl)
set_option maxHeartbeats 40000000 in
set_option maxRecDepth 100000 in
theorem db_X9_readText_7 {p : Program} {l : Launch} {e : Env} {s : State} {m : MethodId} {args : Array Value} {below : List Frame} {meth : Method} {c : Code} {Q : State → Prop} {A : Nat → Prop} {dC : Nat → ClassId} {dI : Nat → Nat → Nat} {a : Nat → Nat} {ac : Nat → ClassId} {n : Nat} {r : St} (C : nd_C p l s m args c A (dC, dI) cX9_readText 2 RX9 ow_dm_X9_readText (dk_X9 ac)) (K : nd_Kv p l e (headSpec ow_dm_X9_readText ({ frames := 1, cells := 0, slots := 0, locals := 24 })).room s m args below meth c Q A (dC, dI) cX9_readText (St) (dw_X9 a ac) r) (k : Nat) : dj_X9_readText_7 p l e s m args below meth c Q A dC dI a ac (df_X9_readText_7 n k) r := by
  induction k with
  | zero => intro x1 s0 H locs ls h; exact nomatch (show (none : Option (St)) = some r from h)
  | succ k ih => exact dB_X9_readText_7 C K ih
set_option maxHeartbeats 40000000 in
set_option maxRecDepth 100000 in
theorem db_X9_readText_0 {p : Program} {l : Launch} {e : Env} {s : State} {m : MethodId} {args : Array Value} {below : List Frame} {meth : Method} {c : Code} {Q : State → Prop} {A : Nat → Prop} {dC : Nat → ClassId} {dI : Nat → Nat → Nat} {a : Nat → Nat} {ac : Nat → ClassId} {n : Nat} {r : St} (C : nd_C p l s m args c A (dC, dI) cX9_readText 2 RX9 ow_dm_X9_readText (dk_X9 ac)) (K : nd_Kv p l e (headSpec ow_dm_X9_readText ({ frames := 1, cells := 0, slots := 0, locals := 24 })).room s m args below meth c Q A (dC, dI) cX9_readText (St) (dw_X9 a ac) r) : dj_X9_readText_0 p l e s m args below meth c Q A dC dI a ac (df_X9_readText_0 n) r := by
  obtain ⟨hlt, hx, hb, hml, hown, hts, hN, hA, hK⟩ := id C
  intro s0 H locs ls h hP hD hS hl
  unfold df_X9_readText_0 at h
  refine lv_aload_n hx hb dX9_readText_0 rfl (lv_at hl 0 rfl) ?_
  refine va_get (D := (dC, dI)) (ci := 10) (v := .int (sI s0 3)) (C := RX9) (T := TX9) (N := 20) hx hb hts hi_dm_X9_readText_X9 hown hK hP 0 rfl rfl 4 (by decide) (hts (.fieldLink RX9 70 "TimeMachine$Reader" "from" "I") (List.mem_of_getElem? (i := 1) rfl)) (fun _ h9 => h9) rfl dX9_readText_1 ?_
  refine lv_iconst (v := 1) hx hb dX9_readText_4 (by decide) ?_
  refine lv_iadd hx hb dX9_readText_5 ?_
  refine lv_topi (fun z1 ez1 => ?_)
  have h := nd_at h ez1
  refine lv_istore_n (lv' := [(1, .int z1), (0, .ref (a 0))]) hx hb dX9_readText_6 rfl hl (by decide) rfl (fun ls hl => ?_)
  exact (db_X9_readText_7 C K n) (z1) s0 _ _ _ h hP hD hS (lv_sub hl [1, 0] rfl)
set_option maxHeartbeats 40000000 in
set_option maxRecDepth 100000 in
theorem dm_X9_readText (l : Launch) (hlt : l.stackTraces = false) (dC : Nat → ClassId) (dI : Nat → Nat → Nat) (a : Nat → Nat) (ac : Nat → ClassId) (n : Nat) (s0 : St) {r : St} (h : df_X9_readText n s0 = some r) (sz : Nat) : Met l yX9_readText ow_dm_X9_readText ({ frames := 1, cells := 0, slots := 0, locals := 24 }) (va_Pc [.ref (a 0)] (fun U => U.heap.size = sz ∧ va_P (dC, dI) vwCl (dw_X9 a ac s0) U.heap ∧ va_K (dC, dI) vwCl (dk_X9 ac) U ∧ va_D (fun _ => True) (dw_X9 a ac s0) ∧ nv_E dI (va_A (dw_X9 a ac s0) sz) U)) (va_Qv (fun _ => True) (fun (_ : Unit) t => va_P (dC, dI) vwCl (dw_X9 a ac r) t.heap ∧ va_K (dC, dI) vwCl (dk_X9 ac) t ∧ va_D (va_A (dw_X9 a ac s0) sz) (dw_X9 a ac r)) (va_A (dw_X9 a ac s0) sz)) 0 0 (va_A (dw_X9 a ac s0) sz) := by
  refine Met.ofW (cc := cX9_readText) (maxL := 2) (ret := none) (by decide) rfl ?_
  intro p e s m args below meth c s₁ B hml hv
  obtain ⟨rfl, hsz, hP, hK, hD0, hN⟩ := hv
  have hx := B.exec
  have hb := B.bytes
  have hr := B.returns
  have hts := atoms_spec (ws := ow_dm_X9_readText) B.pre
  have hown : s.vm.findClass RX9 = some m.cls := findClass_of_methodNamed B.named
  have hlocks := B.notSynchronized
  subst hsz
  have hD := hD0.self (sz := s.heap.size)
  generalize hAe : va_A (dw_X9 a ac s0) s.heap.size = A at hD hN ⊢
  have hA : ∀ q : Nat, s.heap.size ≤ q → A q := fun q h => by rw [← hAe]; exact Or.inr h
  have hl := lv_entry ([.ref (a 0)]) (n := 2) (Nat.le_of_ble_eq_true rfl)
  rw [lg_entry_eq]
  generalize (lg_sl ([.ref (a 0)]) ++ List.replicate (2 - (lg_sl ([.ref (a 0)])).length) Slot.unset).toArray = ls at hl ⊢
  have hl : lv_has ls 2 [(0, .ref (a 0))] := hl
  exact db_X9_readText_0 (dC := dC) (dI := dI) (a := a) (ac := ac) (n := n) (r := r) ⟨hlt, hx, hb, hml, hown, hts, hN, hA, hK⟩ (fun pc τ H locs ls d er hP hD hS => by subst er; exact W.vret hx hb hr (fun t ht hW => ⟨⟨(), rfl, trivial, by rw [ht]; exact hP, va_K.moved hW.alike hK, hD⟩, hS.F ht⟩) hS.2.2 d) s0 _ _ _ h hP hD va_S.rf (lv_sub hl [0] rfl)
def ow_dm_X9_readNumber : List Cond := Cond.code yX9_readNumber cX9_readNumber 12 none :: ([Cond.fieldLink RX9 55 "TimeMachine$Reader" "at" "I", Cond.fieldLink RX9 70 "TimeMachine$Reader" "from" "I", Cond.fieldLink RX9 73 "TimeMachine$Reader" "kind" "I", Cond.fieldLink RX9 93 "TimeMachine$Reader" "number" "I", Cond.fieldLink RX9 9 "TimeMachine$Reader" "source" "[B", Cond.constantLong RX9 96 (4294967295)] ++ (u_ws RX9 TX9 20 ++ []))
theorem gd_dm_X9_readNumber : ∀ w ∈ ow_dm_X9_readNumber, (w.onTables && w.keeps) = true ∨ ∃ ty, w = Cond.arrayClass ty := List.forall_mem_cons.mpr ⟨good_of_word rfl, List.forall_mem_append.mpr ⟨fun w h => good_of_word (List.all_eq_true.mp (by decide +kernel) w h), List.forall_mem_append.mpr ⟨gu_X9, fun _ h => nomatch h⟩⟩⟩
theorem hi_dm_X9_readNumber_X9 : ∀ w ∈ u_ws RX9 TX9 20, w ∈ ow_dm_X9_readNumber := fun w h => List.mem_cons_of_mem _ (List.mem_append_right _ (List.mem_append_left _ h))
def dj_X9_readNumber_288 (p : Program) (l : Launch) (e : Env) (s : State) (m : MethodId) (args : Array Value) (below : List Frame) (meth : Method) (c : Code) (Q : State → Prop) (A : Nat → Prop) (dC : Nat → ClassId) (dI : Nat → Nat → Nat) (a : Nat → Nat) (ac : Nat → ClassId) (g : (St) → Option (St)) (r : St) : Prop := ∀ (s0 : St) (H : Heap) (locs : List Loc) (ls : Array Slot), g s0 = some r → va_P (dC, dI) vwCl (dw_X9 a ac s0) H → va_D A (dw_X9 a ac s0) → va_S A s.heap H locs → lv_has ls 12 [(0, .ref (a 0))] → W p l e (headSpec ow_dm_X9_readNumber ({ frames := 0, cells := 0, slots := 0, locals := 0 })).room s m args below meth c H locs 0 0 Q (F0 m 288 ls [])
def dj_X9_readNumber_255 (p : Program) (l : Launch) (e : Env) (s : State) (m : MethodId) (args : Array Value) (below : List Frame) (meth : Method) (c : Code) (Q : State → Prop) (A : Nat → Prop) (dC : Nat → ClassId) (dI : Nat → Nat → Nat) (a : Nat → Nat) (ac : Nat → ClassId) (g : Int32 → Int64 → Int32 → Int32 → (St) → Option (St)) (r : St) : Prop := ∀ (x5 : Int32) (x6 : Int64) (x8 : Int32) (x10 : Int32) (s0 : St) (H : Heap) (locs : List Loc) (ls : Array Slot), g x5 x6 x8 x10 s0 = some r → va_P (dC, dI) vwCl (dw_X9 a ac s0) H → va_D A (dw_X9 a ac s0) → va_S A s.heap H locs → lv_has ls 12 [(0, .ref (a 0)), (5, .int x5), (6, .long x6), (8, .int x8), (10, .int x10)] → W p l e (headSpec ow_dm_X9_readNumber ({ frames := 0, cells := 0, slots := 0, locals := 0 })).room s m args below meth c H locs 0 0 Q (F0 m 255 ls [])
def dj_X9_readNumber_253 (p : Program) (l : Launch) (e : Env) (s : State) (m : MethodId) (args : Array Value) (below : List Frame) (meth : Method) (c : Code) (Q : State → Prop) (A : Nat → Prop) (dC : Nat → ClassId) (dI : Nat → Nat → Nat) (a : Nat → Nat) (ac : Nat → ClassId) (g : Int32 → Int64 → Int32 → Int32 → (St) → Option (St)) (r : St) : Prop := ∀ (x5 : Int32) (x6 : Int64) (x8 : Int32) (y0 : Int32) (s0 : St) (H : Heap) (locs : List Loc) (ls : Array Slot), g x5 x6 x8 y0 s0 = some r → va_P (dC, dI) vwCl (dw_X9 a ac s0) H → va_D A (dw_X9 a ac s0) → va_S A s.heap H locs → lv_has ls 12 [(0, .ref (a 0)), (5, .int x5), (6, .long x6), (8, .int x8)] → W p l e (headSpec ow_dm_X9_readNumber ({ frames := 0, cells := 0, slots := 0, locals := 0 })).room s m args below meth c H locs 0 0 Q (F0 m 253 ls [.int y0])
def dj_X9_readNumber_251 (p : Program) (l : Launch) (e : Env) (s : State) (m : MethodId) (args : Array Value) (below : List Frame) (meth : Method) (c : Code) (Q : State → Prop) (A : Nat → Prop) (dC : Nat → ClassId) (dI : Nat → Nat → Nat) (a : Nat → Nat) (ac : Nat → ClassId) (g : Int32 → Int64 → Int32 → (St) → Option (St)) (r : St) : Prop := ∀ (x5 : Int32) (x6 : Int64) (x8 : Int32) (s0 : St) (H : Heap) (locs : List Loc) (ls : Array Slot), g x5 x6 x8 s0 = some r → va_P (dC, dI) vwCl (dw_X9 a ac s0) H → va_D A (dw_X9 a ac s0) → va_S A s.heap H locs → lv_has ls 12 [(0, .ref (a 0)), (5, .int x5), (6, .long x6), (8, .int x8)] → W p l e (headSpec ow_dm_X9_readNumber ({ frames := 0, cells := 0, slots := 0, locals := 0 })).room s m args below meth c H locs 0 0 Q (F0 m 251 ls [])
def dj_X9_readNumber_187 (p : Program) (l : Launch) (e : Env) (s : State) (m : MethodId) (args : Array Value) (below : List Frame) (meth : Method) (c : Code) (Q : State → Prop) (A : Nat → Prop) (dC : Nat → ClassId) (dI : Nat → Nat → Nat) (a : Nat → Nat) (ac : Nat → ClassId) (g : Int32 → Int64 → Int32 → (St) → Option (St)) (r : St) : Prop := ∀ (x5 : Int32) (x6 : Int64) (x8 : Int32) (s0 : St) (H : Heap) (locs : List Loc) (ls : Array Slot), g x5 x6 x8 s0 = some r → va_P (dC, dI) vwCl (dw_X9 a ac s0) H → va_D A (dw_X9 a ac s0) → va_S A s.heap H locs → lv_has ls 12 [(0, .ref (a 0)), (5, .int x5), (6, .long x6), (8, .int x8)] → W p l e (headSpec ow_dm_X9_readNumber ({ frames := 0, cells := 0, slots := 0, locals := 0 })).room s m args below meth c H locs 0 0 Q (F0 m 187 ls [])
def dj_X9_readNumber_185 (p : Program) (l : Launch) (e : Env) (s : State) (m : MethodId) (args : Array Value) (below : List Frame) (meth : Method) (c : Code) (Q : State → Prop) (A : Nat → Prop) (dC : Nat → ClassId) (dI : Nat → Nat → Nat) (a : Nat → Nat) (ac : Nat → ClassId) (g : Int32 → Int64 → Int32 → (St) → Option (St)) (r : St) : Prop := ∀ (x5 : Int32) (x6 : Int64) (y0 : Int32) (s0 : St) (H : Heap) (locs : List Loc) (ls : Array Slot), g x5 x6 y0 s0 = some r → va_P (dC, dI) vwCl (dw_X9 a ac s0) H → va_D A (dw_X9 a ac s0) → va_S A s.heap H locs → lv_has ls 12 [(0, .ref (a 0)), (5, .int x5), (6, .long x6)] → W p l e (headSpec ow_dm_X9_readNumber ({ frames := 0, cells := 0, slots := 0, locals := 0 })).room s m args below meth c H locs 0 0 Q (F0 m 185 ls [.int y0])
def dj_X9_readNumber_172 (p : Program) (l : Launch) (e : Env) (s : State) (m : MethodId) (args : Array Value) (below : List Frame) (meth : Method) (c : Code) (Q : State → Prop) (A : Nat → Prop) (dC : Nat → ClassId) (dI : Nat → Nat → Nat) (a : Nat → Nat) (ac : Nat → ClassId) (g : Int32 → Int64 → (St) → Option (St)) (r : St) : Prop := ∀ (x5 : Int32) (x6 : Int64) (s0 : St) (H : Heap) (locs : List Loc) (ls : Array Slot), g x5 x6 s0 = some r → va_P (dC, dI) vwCl (dw_X9 a ac s0) H → va_D A (dw_X9 a ac s0) → va_S A s.heap H locs → lv_has ls 12 [(0, .ref (a 0)), (5, .int x5), (6, .long x6)] → W p l e (headSpec ow_dm_X9_readNumber ({ frames := 0, cells := 0, slots := 0, locals := 0 })).room s m args below meth c H locs 0 0 Q (F0 m 172 ls [])
def dj_X9_readNumber_153 (p : Program) (l : Launch) (e : Env) (s : State) (m : MethodId) (args : Array Value) (below : List Frame) (meth : Method) (c : Code) (Q : State → Prop) (A : Nat → Prop) (dC : Nat → ClassId) (dI : Nat → Nat → Nat) (a : Nat → Nat) (ac : Nat → ClassId) (g : Int32 → Int32 → Int32 → (St) → Option (St)) (r : St) : Prop := ∀ (x3 : Int32) (x4 : Int32) (y0 : Int32) (s0 : St) (H : Heap) (locs : List Loc) (ls : Array Slot), g x3 x4 y0 s0 = some r → va_P (dC, dI) vwCl (dw_X9 a ac s0) H → va_D A (dw_X9 a ac s0) → va_S A s.heap H locs → lv_has ls 12 [(0, .ref (a 0)), (3, .int x3), (4, .int x4)] → W p l e (headSpec ow_dm_X9_readNumber ({ frames := 0, cells := 0, slots := 0, locals := 0 })).room s m args below meth c H locs 0 0 Q (F0 m 153 ls [.int y0])
def dj_X9_readNumber_131 (p : Program) (l : Launch) (e : Env) (s : State) (m : MethodId) (args : Array Value) (below : List Frame) (meth : Method) (c : Code) (Q : State → Prop) (A : Nat → Prop) (dC : Nat → ClassId) (dI : Nat → Nat → Nat) (a : Nat → Nat) (ac : Nat → ClassId) (g : Int32 → Int32 → (St) → Option (St)) (r : St) : Prop := ∀ (x3 : Int32) (y0 : Int32) (s0 : St) (H : Heap) (locs : List Loc) (ls : Array Slot), g x3 y0 s0 = some r → va_P (dC, dI) vwCl (dw_X9 a ac s0) H → va_D A (dw_X9 a ac s0) → va_S A s.heap H locs → lv_has ls 12 [(0, .ref (a 0)), (3, .int x3)] → W p l e (headSpec ow_dm_X9_readNumber ({ frames := 0, cells := 0, slots := 0, locals := 0 })).room s m args below meth c H locs 0 0 Q (F0 m 131 ls [.int y0])
def dj_X9_readNumber_130 (p : Program) (l : Launch) (e : Env) (s : State) (m : MethodId) (args : Array Value) (below : List Frame) (meth : Method) (c : Code) (Q : State → Prop) (A : Nat → Prop) (dC : Nat → ClassId) (dI : Nat → Nat → Nat) (a : Nat → Nat) (ac : Nat → ClassId) (g : Int32 → (St) → Option (St)) (r : St) : Prop := ∀ (x3 : Int32) (s0 : St) (H : Heap) (locs : List Loc) (ls : Array Slot), g x3 s0 = some r → va_P (dC, dI) vwCl (dw_X9 a ac s0) H → va_D A (dw_X9 a ac s0) → va_S A s.heap H locs → lv_has ls 12 [(0, .ref (a 0)), (3, .int x3)] → W p l e (headSpec ow_dm_X9_readNumber ({ frames := 0, cells := 0, slots := 0, locals := 0 })).room s m args below meth c H locs 0 0 Q (F0 m 130 ls [])
def dj_X9_readNumber_100 (p : Program) (l : Launch) (e : Env) (s : State) (m : MethodId) (args : Array Value) (below : List Frame) (meth : Method) (c : Code) (Q : State → Prop) (A : Nat → Prop) (dC : Nat → ClassId) (dI : Nat → Nat → Nat) (a : Nat → Nat) (ac : Nat → ClassId) (g : Int32 → Int32 → Int32 → (St) → Option (St)) (r : St) : Prop := ∀ (x1 : Int32) (x2 : Int32) (y0 : Int32) (s0 : St) (H : Heap) (locs : List Loc) (ls : Array Slot), g x1 x2 y0 s0 = some r → va_P (dC, dI) vwCl (dw_X9 a ac s0) H → va_D A (dw_X9 a ac s0) → va_S A s.heap H locs → lv_has ls 12 [(0, .ref (a 0)), (1, .int x1), (2, .int x2)] → W p l e (headSpec ow_dm_X9_readNumber ({ frames := 0, cells := 0, slots := 0, locals := 0 })).room s m args below meth c H locs 0 0 Q (F0 m 100 ls [.int y0])
def dj_X9_readNumber_99 (p : Program) (l : Launch) (e : Env) (s : State) (m : MethodId) (args : Array Value) (below : List Frame) (meth : Method) (c : Code) (Q : State → Prop) (A : Nat → Prop) (dC : Nat → ClassId) (dI : Nat → Nat → Nat) (a : Nat → Nat) (ac : Nat → ClassId) (g : Int32 → Int32 → (St) → Option (St)) (r : St) : Prop := ∀ (x1 : Int32) (x2 : Int32) (s0 : St) (H : Heap) (locs : List Loc) (ls : Array Slot), g x1 x2 s0 = some r → va_P (dC, dI) vwCl (dw_X9 a ac s0) H → va_D A (dw_X9 a ac s0) → va_S A s.heap H locs → lv_has ls 12 [(0, .ref (a 0)), (1, .int x1), (2, .int x2)] → W p l e (headSpec ow_dm_X9_readNumber ({ frames := 0, cells := 0, slots := 0, locals := 0 })).room s m args below meth c H locs 0 0 Q (F0 m 99 ls [])
def dj_X9_readNumber_70 (p : Program) (l : Launch) (e : Env) (s : State) (m : MethodId) (args : Array Value) (below : List Frame) (meth : Method) (c : Code) (Q : State → Prop) (A : Nat → Prop) (dC : Nat → ClassId) (dI : Nat → Nat → Nat) (a : Nat → Nat) (ac : Nat → ClassId) (g : Int32 → Int32 → (St) → Option (St)) (r : St) : Prop := ∀ (x1 : Int32) (x2 : Int32) (s0 : St) (H : Heap) (locs : List Loc) (ls : Array Slot), g x1 x2 s0 = some r → va_P (dC, dI) vwCl (dw_X9 a ac s0) H → va_D A (dw_X9 a ac s0) → va_S A s.heap H locs → lv_has ls 12 [(0, .ref (a 0)), (1, .int x1), (2, .int x2)] → W p l e (headSpec ow_dm_X9_readNumber ({ frames := 0, cells := 0, slots := 0, locals := 0 })).room s m args below meth c H locs 0 0 Q (F0 m 70 ls [])
def dj_X9_readNumber_48 (p : Program) (l : Launch) (e : Env) (s : State) (m : MethodId) (args : Array Value) (below : List Frame) (meth : Method) (c : Code) (Q : State → Prop) (A : Nat → Prop) (dC : Nat → ClassId) (dI : Nat → Nat → Nat) (a : Nat → Nat) (ac : Nat → ClassId) (g : (St) → Option (St)) (r : St) : Prop := ∀ (s0 : St) (H : Heap) (locs : List Loc) (ls : Array Slot), g s0 = some r → va_P (dC, dI) vwCl (dw_X9 a ac s0) H → va_D A (dw_X9 a ac s0) → va_S A s.heap H locs → lv_has ls 12 [(0, .ref (a 0))] → W p l e (headSpec ow_dm_X9_readNumber ({ frames := 0, cells := 0, slots := 0, locals := 0 })).room s m args below meth c H locs 0 0 Q (F0 m 48 ls [])
def dj_X9_readNumber_30 (p : Program) (l : Launch) (e : Env) (s : State) (m : MethodId) (args : Array Value) (below : List Frame) (meth : Method) (c : Code) (Q : State → Prop) (A : Nat → Prop) (dC : Nat → ClassId) (dI : Nat → Nat → Nat) (a : Nat → Nat) (ac : Nat → ClassId) (g : Int32 → Int32 → (St) → Option (St)) (r : St) : Prop := ∀ (x1 : Int32) (y0 : Int32) (s0 : St) (H : Heap) (locs : List Loc) (ls : Array Slot), g x1 y0 s0 = some r → va_P (dC, dI) vwCl (dw_X9 a ac s0) H → va_D A (dw_X9 a ac s0) → va_S A s.heap H locs → lv_has ls 12 [(0, .ref (a 0)), (1, .int x1)] → W p l e (headSpec ow_dm_X9_readNumber ({ frames := 0, cells := 0, slots := 0, locals := 0 })).room s m args below meth c H locs 0 0 Q (F0 m 30 ls [.int y0])
def dj_X9_readNumber_0 (p : Program) (l : Launch) (e : Env) (s : State) (m : MethodId) (args : Array Value) (below : List Frame) (meth : Method) (c : Code) (Q : State → Prop) (A : Nat → Prop) (dC : Nat → ClassId) (dI : Nat → Nat → Nat) (a : Nat → Nat) (ac : Nat → ClassId) (g : (St) → Option (St)) (r : St) : Prop := ∀ (s0 : St) (H : Heap) (locs : List Loc) (ls : Array Slot), g s0 = some r → va_P (dC, dI) vwCl (dw_X9 a ac s0) H → va_D A (dw_X9 a ac s0) → va_S A s.heap H locs → lv_has ls 12 [(0, .ref (a 0))] → W p l e (headSpec ow_dm_X9_readNumber ({ frames := 0, cells := 0, slots := 0, locals := 0 })).room s m args below meth c H locs 0 0 Q (F0 m 0 ls [])
set_option maxHeartbeats 40000000 in
set_option maxRecDepth 100000 in
theorem db_X9_readNumber_288 {p : Program} {l : Launch} {e : Env} {s : State} {m : MethodId} {args : Array Value} {below : List Frame} {meth : Method} {c : Code} {Q : State → Prop} {A : Nat → Prop} {dC : Nat → ClassId} {dI : Nat → Nat → Nat} {a : Nat → Nat} {ac : Nat → ClassId} {n : Nat} {r : St} (C : nd_C p l s m args c A (dC, dI) cX9_readNumber 12 RX9 ow_dm_X9_readNumber (dk_X9 ac)) (K : nd_Kv p l e (headSpec ow_dm_X9_readNumber ({ frames := 0, cells := 0, slots := 0, locals := 0 })).room s m args below meth c Q A (dC, dI) cX9_readNumber (St) (dw_X9 a ac) r) : dj_X9_readNumber_288 p l e s m args below meth c Q A dC dI a ac (df_X9_readNumber_288 n) r := by
  obtain ⟨hlt, hx, hb, hml, hown, hts, hN, hA, hK⟩ := id C
  intro s0 H locs ls h hP hD hS hl
  unfold df_X9_readNumber_288 at h
  refine lv_aload_n hx hb dX9_readNumber_288 rfl (lv_at hl 0 rfl) ?_
  refine lv_bipush (v := 6) hx hb dX9_readNumber_289 (by decide) ?_
  refine va_put (D := (dC, dI)) (ci := 10) (v := .int 6) (ty := .int) (C := RX9) (T := TX9) (N := 20) hx hb hts hi_dm_X9_readNumber_X9 tyX9 tyX9_ok nmX9 hown hK hP hD hS 0 rfl rfl 3 (by decide) (hts (.fieldLink RX9 73 "TimeMachine$Reader" "kind" "I") (List.mem_of_getElem? (i := 3) rfl)) (fun _ h9 => h9) rfl (by decide +kernel) rfl rfl (Nat.le_of_ble_eq_true rfl) dX9_readNumber_291 (fun H locs hP hD hS => ?_)
  obtain ⟨s19, es19, h⟩ := nd_let_e h
  have hP : va_P (dC, dI) vwCl (dw_X9 a ac s19) H := by rw [es19]; exact hP
  have hD : va_D A (dw_X9 a ac s19) := by rw [es19]; exact hD
  exact K _ _ _ _ _ dX9_readNumber_294 (Option.some.inj h).symm hP hD hS
set_option maxHeartbeats 40000000 in
set_option maxRecDepth 100000 in
theorem db_X9_readNumber_255 {p : Program} {l : Launch} {e : Env} {s : State} {m : MethodId} {args : Array Value} {below : List Frame} {meth : Method} {c : Code} {Q : State → Prop} {A : Nat → Prop} {dC : Nat → ClassId} {dI : Nat → Nat → Nat} {a : Nat → Nat} {ac : Nat → ClassId} {n : Nat} {r : St} (C : nd_C p l s m args c A (dC, dI) cX9_readNumber 12 RX9 ow_dm_X9_readNumber (dk_X9 ac)) (K : nd_Kv p l e (headSpec ow_dm_X9_readNumber ({ frames := 0, cells := 0, slots := 0, locals := 0 })).room s m args below meth c Q A (dC, dI) cX9_readNumber (St) (dw_X9 a ac) r) {g187 : Int32 → Int64 → Int32 → (St) → Option (St)} (J187 : dj_X9_readNumber_187 p l e s m args below meth c Q A dC dI a ac g187 r) : dj_X9_readNumber_255 p l e s m args below meth c Q A dC dI a ac (df_X9_readNumber_255 n g187) r := by
  obtain ⟨hlt, hx, hb, hml, hown, hts, hN, hA, hK⟩ := id C
  intro x5 x6 x8 x10 s0 H locs ls h hP hD hS hl
  unfold df_X9_readNumber_255 at h
  refine lv_lload hx hb dX9_readNumber_255 (lv_at hl 2 rfl) ?_
  refine lv_iload hx hb dX9_readNumber_257 (lv_at hl 1 rfl) ?_
  refine lv_i2l hx hb dX9_readNumber_259 rfl ?_
  refine lv_lmul hx hb dX9_readNumber_260 ?_
  refine lv_iload hx hb dX9_readNumber_261 (lv_at hl 4 rfl) ?_
  refine lv_i2l hx hb dX9_readNumber_263 rfl ?_
  refine lv_ladd hx hb dX9_readNumber_264 ?_
  refine lv_topl (fun z17 ez17 => ?_)
  have h := nd_at h ez17
  refine lv_lstore (lv' := [(6, .long z17), (0, .ref (a 0)), (5, .int x5), (8, .int x8), (10, .int x10)]) hx hb dX9_readNumber_265 hl (by decide) rfl (fun ls hl => ?_)
  refine lv_iload hx hb dX9_readNumber_267 (lv_at hl 4 rfl) ?_
  refine lv_if_lt (tgt := 288) hx hb dX9_readNumber_269 (by decide) (fun c18 => ?_) (fun c18 => ?_)
  · have h := nd_pos h c18
    exact (db_X9_readNumber_288 C K)  s0 _ _ _ h hP hD hS (lv_sub hl [1] rfl)
  · have h := nd_neg h c18
    refine lv_iload hx hb dX9_readNumber_272 (lv_at hl 4 rfl) ?_
    refine lv_iload hx hb dX9_readNumber_274 (lv_at hl 2 rfl) ?_
    refine lv_icmp_ge (tgt := 288) hx hb dX9_readNumber_276 (by decide) (fun c20 => ?_) (fun c20 => ?_)
    · have h := nd_pos h c20
      exact (db_X9_readNumber_288 C K)  s0 _ _ _ h hP hD hS (lv_sub hl [1] rfl)
    · have h := nd_neg h c20
      refine lv_lload hx hb dX9_readNumber_279 (lv_at hl 0 rfl) ?_
      refine lv_ldc2 hx hb hown (hts (.constantLong RX9 96 (4294967295)) (List.mem_of_getElem? (i := 6) rfl)) dX9_readNumber_281 ?_
      refine W.lcmp hx hb dX9_readNumber_284 ?_
      refine lv_if_le (tgt := 295) hx hb dX9_readNumber_285 (by decide) (fun c21 => ?_) (fun c21 => ?_)
      · have h := nd_pos h c21
        obtain ⟨z22, ez22, h⟩ := nd_let_e h
        refine lv_iinc (v := z22) (lv' := [(8, .int z22), (6, .long z17), (0, .ref (a 0)), (5, .int x5), (10, .int x10)]) hx hb dX9_readNumber_295 hl (k := 3) rfl (by rw [ez22]) (by decide) rfl (fun ls hl => ?_)
        refine lv_goto (tgt := 187) hx hb dX9_readNumber_298 (by decide) ?_
        exact (J187) (x5) (z17) (z22) s0 _ _ _ h hP hD hS (lv_sub hl [2, 3, 1, 0] rfl)
      · have h := nd_neg h c21
        exact (db_X9_readNumber_288 C K)  s0 _ _ _ h hP hD hS (lv_sub hl [1] rfl)
set_option maxHeartbeats 40000000 in
set_option maxRecDepth 100000 in
theorem db_X9_readNumber_253 {p : Program} {l : Launch} {e : Env} {s : State} {m : MethodId} {args : Array Value} {below : List Frame} {meth : Method} {c : Code} {Q : State → Prop} {A : Nat → Prop} {dC : Nat → ClassId} {dI : Nat → Nat → Nat} {a : Nat → Nat} {ac : Nat → ClassId} {n : Nat} {r : St} (C : nd_C p l s m args c A (dC, dI) cX9_readNumber 12 RX9 ow_dm_X9_readNumber (dk_X9 ac)) (K : nd_Kv p l e (headSpec ow_dm_X9_readNumber ({ frames := 0, cells := 0, slots := 0, locals := 0 })).room s m args below meth c Q A (dC, dI) cX9_readNumber (St) (dw_X9 a ac) r) {g187 : Int32 → Int64 → Int32 → (St) → Option (St)} (J187 : dj_X9_readNumber_187 p l e s m args below meth c Q A dC dI a ac g187 r) : dj_X9_readNumber_253 p l e s m args below meth c Q A dC dI a ac (df_X9_readNumber_253 n g187) r := by
  obtain ⟨hlt, hx, hb, hml, hown, hts, hN, hA, hK⟩ := id C
  intro x5 x6 x8 y0 s0 H locs ls h hP hD hS hl
  unfold df_X9_readNumber_253 at h
  refine lv_istore (lv' := [(10, .int y0), (0, .ref (a 0)), (5, .int x5), (6, .long x6), (8, .int x8)]) hx hb dX9_readNumber_253 hl (by decide) rfl (fun ls hl => ?_)
  exact (db_X9_readNumber_255 C K J187) (x5) (x6) (x8) (y0) s0 _ _ _ h hP hD hS (lv_sub hl [1, 2, 3, 4, 0] rfl)
set_option maxHeartbeats 40000000 in
set_option maxRecDepth 100000 in
theorem db_X9_readNumber_251 {p : Program} {l : Launch} {e : Env} {s : State} {m : MethodId} {args : Array Value} {below : List Frame} {meth : Method} {c : Code} {Q : State → Prop} {A : Nat → Prop} {dC : Nat → ClassId} {dI : Nat → Nat → Nat} {a : Nat → Nat} {ac : Nat → ClassId} {n : Nat} {r : St} (C : nd_C p l s m args c A (dC, dI) cX9_readNumber 12 RX9 ow_dm_X9_readNumber (dk_X9 ac)) (K : nd_Kv p l e (headSpec ow_dm_X9_readNumber ({ frames := 0, cells := 0, slots := 0, locals := 0 })).room s m args below meth c Q A (dC, dI) cX9_readNumber (St) (dw_X9 a ac) r) {g187 : Int32 → Int64 → Int32 → (St) → Option (St)} (J187 : dj_X9_readNumber_187 p l e s m args below meth c Q A dC dI a ac g187 r) : dj_X9_readNumber_251 p l e s m args below meth c Q A dC dI a ac (df_X9_readNumber_251 n g187) r := by
  obtain ⟨hlt, hx, hb, hml, hown, hts, hN, hA, hK⟩ := id C
  intro x5 x6 x8 s0 H locs ls h hP hD hS hl
  unfold df_X9_readNumber_251 at h
  refine lv_iload hx hb dX9_readNumber_251 (lv_at hl 1 rfl) ?_
  exact (db_X9_readNumber_253 C K J187) (x5) (x6) (x8) (x5) s0 _ _ _ h hP hD hS (lv_sub hl [0, 1, 2, 3] rfl)
set_option maxHeartbeats 40000000 in
set_option maxRecDepth 100000 in
theorem dB_X9_readNumber_187 {p : Program} {l : Launch} {e : Env} {s : State} {m : MethodId} {args : Array Value} {below : List Frame} {meth : Method} {c : Code} {Q : State → Prop} {A : Nat → Prop} {dC : Nat → ClassId} {dI : Nat → Nat → Nat} {a : Nat → Nat} {ac : Nat → ClassId} {n : Nat} {r : St} (C : nd_C p l s m args c A (dC, dI) cX9_readNumber 12 RX9 ow_dm_X9_readNumber (dk_X9 ac)) (K : nd_Kv p l e (headSpec ow_dm_X9_readNumber ({ frames := 0, cells := 0, slots := 0, locals := 0 })).room s m args below meth c Q A (dC, dI) cX9_readNumber (St) (dw_X9 a ac) r) {g187 : Int32 → Int64 → Int32 → (St) → Option (St)} (J187 : dj_X9_readNumber_187 p l e s m args below meth c Q A dC dI a ac g187 r) : dj_X9_readNumber_187 p l e s m args below meth c Q A dC dI a ac (dF_X9_readNumber_187 n g187) r := by
  obtain ⟨hlt, hx, hb, hml, hown, hts, hN, hA, hK⟩ := id C
  intro x5 x6 x8 s0 H locs ls h hP hD hS hl
  unfold dF_X9_readNumber_187 at h
  refine lv_iload hx hb dX9_readNumber_187 (lv_at hl 3 rfl) ?_
  refine lv_aload_n hx hb dX9_readNumber_189 rfl (lv_at hl 0 rfl) ?_
  refine va_get (D := (dC, dI)) (ci := 10) (v := .int (sI s0 0)) (C := RX9) (T := TX9) (N := 20) hx hb hts hi_dm_X9_readNumber_X9 hown hK hP 0 rfl rfl 1 (by decide) (hts (.fieldLink RX9 55 "TimeMachine$Reader" "at" "I") (List.mem_of_getElem? (i := 1) rfl)) (fun _ h9 => h9) rfl dX9_readNumber_190 ?_
  refine lv_icmp_ge (tgt := 301) hx hb dX9_readNumber_193 (by decide) (fun c10 => ?_) (fun c10 => ?_)
  · have h := nd_pos h c10
    refine lv_aload_n hx hb dX9_readNumber_301 rfl (lv_at hl 0 rfl) ?_
    refine lv_lload hx hb dX9_readNumber_302 (lv_at hl 2 rfl) ?_
    refine lv_l2i hx hb dX9_readNumber_304 rfl ?_
    refine va_put (D := (dC, dI)) (ci := 10) (v := .int (x6.toInt32)) (ty := .int) (C := RX9) (T := TX9) (N := 20) hx hb hts hi_dm_X9_readNumber_X9 tyX9 tyX9_ok nmX9 hown hK hP hD hS 0 rfl rfl 5 (by decide) (hts (.fieldLink RX9 93 "TimeMachine$Reader" "number" "I") (List.mem_of_getElem? (i := 4) rfl)) (fun _ h9 => h9) rfl (by decide +kernel) rfl rfl (Nat.le_of_ble_eq_true rfl) dX9_readNumber_305 (fun H locs hP hD hS => ?_)
    obtain ⟨s11, es11, h⟩ := nd_let_e h
    have hP : va_P (dC, dI) vwCl (dw_X9 a ac s11) H := by rw [es11]; exact hP
    have hD : va_D A (dw_X9 a ac s11) := by rw [es11]; exact hD
    exact K _ _ _ _ _ dX9_readNumber_308 (Option.some.inj h).symm hP hD hS
  · have h := nd_neg h c10
    refine lv_aload_n hx hb dX9_readNumber_196 rfl (lv_at hl 0 rfl) ?_
    obtain ⟨o12, h⟩ := nd_o_e h
    refine va_get (D := (dC, dI)) (ci := 10) (v := .ref (a 8)) (C := RX9) (T := TX9) (N := 20) hx hb hts hi_dm_X9_readNumber_X9 hown hK hP 0 rfl rfl 0 (by decide) (hts (.fieldLink RX9 9 "TimeMachine$Reader" "source" "[B") (List.mem_of_getElem? (i := 5) rfl)) (fun _ h9 => h9) (congrArg (fun z => some (va_rf (Option.map a z))) o12) dX9_readNumber_197 ?_
    refine lv_iload hx hb dX9_readNumber_200 (lv_at hl 3 rfl) ?_
    obtain ⟨i13, h⟩ := nd_ck_e h
    refine va_bald (i := x8) hx hb hK hP 8 7 rfl rfl i13 dX9_readNumber_202 ?_
    refine lv_topi (fun z14 ez14 => ?_)
    have h := nd_at h ez14
    refine lv_istore (lv' := [(9, .int z14), (0, .ref (a 0)), (5, .int x5), (6, .long x6), (8, .int x8)]) hx hb dX9_readNumber_203 hl (by decide) rfl (fun ls hl => ?_)
    refine lv_iload hx hb dX9_readNumber_205 (lv_at hl 0 rfl) ?_
    refine lv_bipush (v := 48) hx hb dX9_readNumber_207 (by decide) ?_
    refine lv_isub hx hb dX9_readNumber_209 ?_
    refine lv_topi (fun z15 ez15 => ?_)
    have h := nd_at h ez15
    refine lv_istore (lv' := [(10, .int z15), (9, .int z14), (0, .ref (a 0)), (5, .int x5), (6, .long x6), (8, .int x8)]) hx hb dX9_readNumber_210 hl (by decide) rfl (fun ls hl => ?_)
    refine lv_iload hx hb dX9_readNumber_212 (lv_at hl 1 rfl) ?_
    refine lv_bipush (v := 57) hx hb dX9_readNumber_214 (by decide) ?_
    refine lv_icmp_le (tgt := 255) hx hb dX9_readNumber_216 (by decide) (fun c16 => ?_) (fun c16 => ?_)
    · have h := nd_pos h c16
      exact (db_X9_readNumber_255 C K J187) (x5) (x6) (x8) (z15) s0 _ _ _ h hP hD hS (lv_sub hl [2, 3, 4, 5, 0] rfl)
    · have h := nd_neg h c16
      refine lv_iload hx hb dX9_readNumber_219 (lv_at hl 1 rfl) ?_
      refine lv_bipush (v := 32) hx hb dX9_readNumber_221 (by decide) ?_
      refine lv_ior hx hb dX9_readNumber_223 ?_
      refine lv_topi (fun z23 ez23 => ?_)
      have h := nd_at h ez23
      refine lv_istore (lv' := [(11, .int z23), (10, .int z15), (9, .int z14), (0, .ref (a 0)), (5, .int x5), (6, .long x6), (8, .int x8)]) hx hb dX9_readNumber_224 hl (by decide) rfl (fun ls hl => ?_)
      refine lv_iload hx hb dX9_readNumber_226 (lv_at hl 0 rfl) ?_
      refine lv_bipush (v := 97) hx hb dX9_readNumber_228 (by decide) ?_
      refine lv_icmp_lt (tgt := 251) hx hb dX9_readNumber_230 (by decide) (fun c24 => ?_) (fun c24 => ?_)
      · have h := nd_pos h c24
        exact (db_X9_readNumber_251 C K J187) (x5) (x6) (x8) s0 _ _ _ h hP hD hS (lv_sub hl [3, 4, 5, 6] rfl)
      · have h := nd_neg h c24
        refine lv_iload hx hb dX9_readNumber_233 (lv_at hl 0 rfl) ?_
        refine lv_bipush (v := 102) hx hb dX9_readNumber_235 (by decide) ?_
        refine lv_icmp_gt (tgt := 251) hx hb dX9_readNumber_237 (by decide) (fun c25 => ?_) (fun c25 => ?_)
        · have h := nd_pos h c25
          exact (db_X9_readNumber_251 C K J187) (x5) (x6) (x8) s0 _ _ _ h hP hD hS (lv_sub hl [3, 4, 5, 6] rfl)
        · have h := nd_neg h c25
          refine lv_iload hx hb dX9_readNumber_240 (lv_at hl 0 rfl) ?_
          refine lv_bipush (v := 97) hx hb dX9_readNumber_242 (by decide) ?_
          refine lv_isub hx hb dX9_readNumber_244 ?_
          refine lv_bipush (v := 10) hx hb dX9_readNumber_245 (by decide) ?_
          refine lv_iadd hx hb dX9_readNumber_247 ?_
          refine lv_goto (tgt := 253) hx hb dX9_readNumber_248 (by decide) ?_
          exact (db_X9_readNumber_253 C K J187) (x5) (x6) (x8) (((z23 - 97) + 10)) s0 _ _ _ h hP hD hS (lv_sub hl [3, 4, 5, 6] rfl)
set_option maxHeartbeats 40000000 in
set_option maxRecDepth 100000 in
theorem db_X9_readNumber_187 {p : Program} {l : Launch} {e : Env} {s : State} {m : MethodId} {args : Array Value} {below : List Frame} {meth : Method} {c : Code} {Q : State → Prop} {A : Nat → Prop} {dC : Nat → ClassId} {dI : Nat → Nat → Nat} {a : Nat → Nat} {ac : Nat → ClassId} {n : Nat} {r : St} (C : nd_C p l s m args c A (dC, dI) cX9_readNumber 12 RX9 ow_dm_X9_readNumber (dk_X9 ac)) (K : nd_Kv p l e (headSpec ow_dm_X9_readNumber ({ frames := 0, cells := 0, slots := 0, locals := 0 })).room s m args below meth c Q A (dC, dI) cX9_readNumber (St) (dw_X9 a ac) r) (k : Nat) : dj_X9_readNumber_187 p l e s m args below meth c Q A dC dI a ac (df_X9_readNumber_187 n k) r := by
  induction k with
  | zero => intro x5 x6 x8 s0 H locs ls h; exact nomatch (show (none : Option (St)) = some r from h)
  | succ k ih => exact dB_X9_readNumber_187 C K ih
set_option maxHeartbeats 40000000 in
set_option maxRecDepth 100000 in
theorem db_X9_readNumber_185 {p : Program} {l : Launch} {e : Env} {s : State} {m : MethodId} {args : Array Value} {below : List Frame} {meth : Method} {c : Code} {Q : State → Prop} {A : Nat → Prop} {dC : Nat → ClassId} {dI : Nat → Nat → Nat} {a : Nat → Nat} {ac : Nat → ClassId} {n : Nat} {r : St} (C : nd_C p l s m args c A (dC, dI) cX9_readNumber 12 RX9 ow_dm_X9_readNumber (dk_X9 ac)) (K : nd_Kv p l e (headSpec ow_dm_X9_readNumber ({ frames := 0, cells := 0, slots := 0, locals := 0 })).room s m args below meth c Q A (dC, dI) cX9_readNumber (St) (dw_X9 a ac) r) : dj_X9_readNumber_185 p l e s m args below meth c Q A dC dI a ac (df_X9_readNumber_185 n) r := by
  obtain ⟨hlt, hx, hb, hml, hown, hts, hN, hA, hK⟩ := id C
  intro x5 x6 y0 s0 H locs ls h hP hD hS hl
  unfold df_X9_readNumber_185 at h
  refine lv_istore (lv' := [(8, .int y0), (0, .ref (a 0)), (5, .int x5), (6, .long x6)]) hx hb dX9_readNumber_185 hl (by decide) rfl (fun ls hl => ?_)
  exact (db_X9_readNumber_187 C K n) (x5) (x6) (y0) s0 _ _ _ h hP hD hS (lv_sub hl [1, 2, 3, 0] rfl)
set_option maxHeartbeats 40000000 in
set_option maxRecDepth 100000 in
theorem db_X9_readNumber_172 {p : Program} {l : Launch} {e : Env} {s : State} {m : MethodId} {args : Array Value} {below : List Frame} {meth : Method} {c : Code} {Q : State → Prop} {A : Nat → Prop} {dC : Nat → ClassId} {dI : Nat → Nat → Nat} {a : Nat → Nat} {ac : Nat → ClassId} {n : Nat} {r : St} (C : nd_C p l s m args c A (dC, dI) cX9_readNumber 12 RX9 ow_dm_X9_readNumber (dk_X9 ac)) (K : nd_Kv p l e (headSpec ow_dm_X9_readNumber ({ frames := 0, cells := 0, slots := 0, locals := 0 })).room s m args below meth c Q A (dC, dI) cX9_readNumber (St) (dw_X9 a ac) r) : dj_X9_readNumber_172 p l e s m args below meth c Q A dC dI a ac (df_X9_readNumber_172 n) r := by
  obtain ⟨hlt, hx, hb, hml, hown, hts, hN, hA, hK⟩ := id C
  intro x5 x6 s0 H locs ls h hP hD hS hl
  unfold df_X9_readNumber_172 at h
  refine lv_aload_n hx hb dX9_readNumber_172 rfl (lv_at hl 0 rfl) ?_
  refine va_get (D := (dC, dI)) (ci := 10) (v := .int (sI s0 3)) (C := RX9) (T := TX9) (N := 20) hx hb hts hi_dm_X9_readNumber_X9 hown hK hP 0 rfl rfl 4 (by decide) (hts (.fieldLink RX9 70 "TimeMachine$Reader" "from" "I") (List.mem_of_getElem? (i := 2) rfl)) (fun _ h9 => h9) rfl dX9_readNumber_173 ?_
  refine lv_iconst (v := 2) hx hb dX9_readNumber_176 (by decide) ?_
  refine lv_iadd hx hb dX9_readNumber_177 ?_
  refine lv_goto (tgt := 185) hx hb dX9_readNumber_178 (by decide) ?_
  exact (db_X9_readNumber_185 C K) (x5) (x6) (((sI s0 3) + 2)) s0 _ _ _ h hP hD hS (lv_sub hl [0, 1, 2] rfl)
set_option maxHeartbeats 40000000 in
set_option maxRecDepth 100000 in
theorem db_X9_readNumber_153 {p : Program} {l : Launch} {e : Env} {s : State} {m : MethodId} {args : Array Value} {below : List Frame} {meth : Method} {c : Code} {Q : State → Prop} {A : Nat → Prop} {dC : Nat → ClassId} {dI : Nat → Nat → Nat} {a : Nat → Nat} {ac : Nat → ClassId} {n : Nat} {r : St} (C : nd_C p l s m args c A (dC, dI) cX9_readNumber 12 RX9 ow_dm_X9_readNumber (dk_X9 ac)) (K : nd_Kv p l e (headSpec ow_dm_X9_readNumber ({ frames := 0, cells := 0, slots := 0, locals := 0 })).room s m args below meth c Q A (dC, dI) cX9_readNumber (St) (dw_X9 a ac) r) : dj_X9_readNumber_153 p l e s m args below meth c Q A dC dI a ac (df_X9_readNumber_153 n) r := by
  obtain ⟨hlt, hx, hb, hml, hown, hts, hN, hA, hK⟩ := id C
  intro x3 x4 y0 s0 H locs ls h hP hD hS hl
  unfold df_X9_readNumber_153 at h
  refine lv_istore (lv' := [(5, .int y0), (0, .ref (a 0)), (3, .int x3), (4, .int x4)]) hx hb dX9_readNumber_153 hl (by decide) rfl (fun ls hl => ?_)
  refine lv_lconst (v := 0) hx hb dX9_readNumber_155 (by decide) ?_
  refine lv_lstore (lv' := [(6, .long 0), (5, .int y0), (0, .ref (a 0)), (3, .int x3), (4, .int x4)]) hx hb dX9_readNumber_156 hl (by decide) rfl (fun ls hl => ?_)
  refine lv_aload_n hx hb dX9_readNumber_158 rfl (lv_at hl 2 rfl) ?_
  refine lv_iconst (v := 2) hx hb dX9_readNumber_159 (by decide) ?_
  refine va_put (D := (dC, dI)) (ci := 10) (v := .int 2) (ty := .int) (C := RX9) (T := TX9) (N := 20) hx hb hts hi_dm_X9_readNumber_X9 tyX9 tyX9_ok nmX9 hown hK hP hD hS 0 rfl rfl 3 (by decide) (hts (.fieldLink RX9 73 "TimeMachine$Reader" "kind" "I") (List.mem_of_getElem? (i := 3) rfl)) (fun _ h9 => h9) rfl (by decide +kernel) rfl rfl (Nat.le_of_ble_eq_true rfl) dX9_readNumber_160 (fun H locs hP hD hS => ?_)
  obtain ⟨s8, es8, h⟩ := nd_let_e h
  have hP : va_P (dC, dI) vwCl (dw_X9 a ac s8) H := by rw [es8]; exact hP
  have hD : va_D A (dw_X9 a ac s8) := by rw [es8]; exact hD
  refine lv_iload_n hx hb dX9_readNumber_163 rfl (lv_at hl 3 rfl) ?_
  refine lv_if_ne (tgt := 172) hx hb dX9_readNumber_164 (by decide) (fun c9 => ?_) (fun c9 => ?_)
  · have h := nd_neg h c9
    exact (db_X9_readNumber_172 C K) (y0) (0) s8 _ _ _ h hP hD hS (lv_sub hl [2, 1, 0] rfl)
  · have h := nd_pos h c9
    refine lv_iload hx hb dX9_readNumber_167 (lv_at hl 4 rfl) ?_
    refine lv_if_eq (tgt := 181) hx hb dX9_readNumber_169 (by decide) (fun c26 => ?_) (fun c26 => ?_)
    · have h := nd_pos h c26
      refine lv_aload_n hx hb dX9_readNumber_181 rfl (lv_at hl 2 rfl) ?_
      refine va_get (D := (dC, dI)) (ci := 10) (v := .int (sI s8 3)) (C := RX9) (T := TX9) (N := 20) hx hb hts hi_dm_X9_readNumber_X9 hown hK hP 0 rfl rfl 4 (by decide) (hts (.fieldLink RX9 70 "TimeMachine$Reader" "from" "I") (List.mem_of_getElem? (i := 2) rfl)) (fun _ h9 => h9) rfl dX9_readNumber_182 ?_
      exact (db_X9_readNumber_185 C K) (y0) (0) ((sI s8 3)) s8 _ _ _ h hP hD hS (lv_sub hl [2, 1, 0] rfl)
    · have h := nd_neg h c26
      exact (db_X9_readNumber_172 C K) (y0) (0) s8 _ _ _ h hP hD hS (lv_sub hl [2, 1, 0] rfl)
set_option maxHeartbeats 40000000 in
set_option maxRecDepth 100000 in
theorem db_X9_readNumber_131 {p : Program} {l : Launch} {e : Env} {s : State} {m : MethodId} {args : Array Value} {below : List Frame} {meth : Method} {c : Code} {Q : State → Prop} {A : Nat → Prop} {dC : Nat → ClassId} {dI : Nat → Nat → Nat} {a : Nat → Nat} {ac : Nat → ClassId} {n : Nat} {r : St} (C : nd_C p l s m args c A (dC, dI) cX9_readNumber 12 RX9 ow_dm_X9_readNumber (dk_X9 ac)) (K : nd_Kv p l e (headSpec ow_dm_X9_readNumber ({ frames := 0, cells := 0, slots := 0, locals := 0 })).room s m args below meth c Q A (dC, dI) cX9_readNumber (St) (dw_X9 a ac) r) : dj_X9_readNumber_131 p l e s m args below meth c Q A dC dI a ac (df_X9_readNumber_131 n) r := by
  obtain ⟨hlt, hx, hb, hml, hown, hts, hN, hA, hK⟩ := id C
  intro x3 y0 s0 H locs ls h hP hD hS hl
  unfold df_X9_readNumber_131 at h
  refine lv_istore (lv' := [(4, .int y0), (0, .ref (a 0)), (3, .int x3)]) hx hb dX9_readNumber_131 hl (by decide) rfl (fun ls hl => ?_)
  refine lv_iload_n hx hb dX9_readNumber_133 rfl (lv_at hl 2 rfl) ?_
  refine lv_if_eq (tgt := 142) hx hb dX9_readNumber_134 (by decide) (fun c6 => ?_) (fun c6 => ?_)
  · have h := nd_pos h c6
    refine lv_iload hx hb dX9_readNumber_142 (lv_at hl 0 rfl) ?_
    refine lv_if_eq (tgt := 151) hx hb dX9_readNumber_144 (by decide) (fun c7 => ?_) (fun c7 => ?_)
    · have h := nd_pos h c7
      refine lv_bipush (v := 10) hx hb dX9_readNumber_151 (by decide) ?_
      exact (db_X9_readNumber_153 C K) (x3) (y0) (10) s0 _ _ _ h hP hD hS (lv_sub hl [1, 2, 0] rfl)
    · have h := nd_neg h c7
      refine lv_iconst (v := 2) hx hb dX9_readNumber_147 (by decide) ?_
      refine lv_goto (tgt := 153) hx hb dX9_readNumber_148 (by decide) ?_
      exact (db_X9_readNumber_153 C K) (x3) (y0) (2) s0 _ _ _ h hP hD hS (lv_sub hl [1, 2, 0] rfl)
  · have h := nd_neg h c6
    refine lv_bipush (v := 16) hx hb dX9_readNumber_137 (by decide) ?_
    refine lv_goto (tgt := 153) hx hb dX9_readNumber_139 (by decide) ?_
    exact (db_X9_readNumber_153 C K) (x3) (y0) (16) s0 _ _ _ h hP hD hS (lv_sub hl [1, 2, 0] rfl)
set_option maxHeartbeats 40000000 in
set_option maxRecDepth 100000 in
theorem db_X9_readNumber_130 {p : Program} {l : Launch} {e : Env} {s : State} {m : MethodId} {args : Array Value} {below : List Frame} {meth : Method} {c : Code} {Q : State → Prop} {A : Nat → Prop} {dC : Nat → ClassId} {dI : Nat → Nat → Nat} {a : Nat → Nat} {ac : Nat → ClassId} {n : Nat} {r : St} (C : nd_C p l s m args c A (dC, dI) cX9_readNumber 12 RX9 ow_dm_X9_readNumber (dk_X9 ac)) (K : nd_Kv p l e (headSpec ow_dm_X9_readNumber ({ frames := 0, cells := 0, slots := 0, locals := 0 })).room s m args below meth c Q A (dC, dI) cX9_readNumber (St) (dw_X9 a ac) r) : dj_X9_readNumber_130 p l e s m args below meth c Q A dC dI a ac (df_X9_readNumber_130 n) r := by
  obtain ⟨hlt, hx, hb, hml, hown, hts, hN, hA, hK⟩ := id C
  intro x3 s0 H locs ls h hP hD hS hl
  unfold df_X9_readNumber_130 at h
  refine lv_iconst (v := 0) hx hb dX9_readNumber_130 (by decide) ?_
  exact (db_X9_readNumber_131 C K) (x3) (0) s0 _ _ _ h hP hD hS (lv_sub hl [0, 1] rfl)
set_option maxHeartbeats 40000000 in
set_option maxRecDepth 100000 in
theorem db_X9_readNumber_100 {p : Program} {l : Launch} {e : Env} {s : State} {m : MethodId} {args : Array Value} {below : List Frame} {meth : Method} {c : Code} {Q : State → Prop} {A : Nat → Prop} {dC : Nat → ClassId} {dI : Nat → Nat → Nat} {a : Nat → Nat} {ac : Nat → ClassId} {n : Nat} {r : St} (C : nd_C p l s m args c A (dC, dI) cX9_readNumber 12 RX9 ow_dm_X9_readNumber (dk_X9 ac)) (K : nd_Kv p l e (headSpec ow_dm_X9_readNumber ({ frames := 0, cells := 0, slots := 0, locals := 0 })).room s m args below meth c Q A (dC, dI) cX9_readNumber (St) (dw_X9 a ac) r) : dj_X9_readNumber_100 p l e s m args below meth c Q A dC dI a ac (df_X9_readNumber_100 n) r := by
  obtain ⟨hlt, hx, hb, hml, hown, hts, hN, hA, hK⟩ := id C
  intro x1 x2 y0 s0 H locs ls h hP hD hS hl
  unfold df_X9_readNumber_100 at h
  refine lv_istore_n (lv' := [(3, .int y0), (0, .ref (a 0)), (1, .int x1), (2, .int x2)]) hx hb dX9_readNumber_100 rfl hl (by decide) rfl (fun ls hl => ?_)
  refine lv_iload_n hx hb dX9_readNumber_101 rfl (lv_at hl 2 rfl) ?_
  refine lv_iconst (v := 2) hx hb dX9_readNumber_102 (by decide) ?_
  refine lv_icmp_le (tgt := 130) hx hb dX9_readNumber_103 (by decide) (fun c5 => ?_) (fun c5 => ?_)
  · have h := nd_pos h c5
    exact (db_X9_readNumber_130 C K) (y0) s0 _ _ _ h hP hD hS (lv_sub hl [1, 0] rfl)
  · have h := nd_neg h c5
    refine lv_aload_n hx hb dX9_readNumber_106 rfl (lv_at hl 1 rfl) ?_
    obtain ⟨o27, h⟩ := nd_o_e h
    refine va_get (D := (dC, dI)) (ci := 10) (v := .ref (a 8)) (C := RX9) (T := TX9) (N := 20) hx hb hts hi_dm_X9_readNumber_X9 hown hK hP 0 rfl rfl 0 (by decide) (hts (.fieldLink RX9 9 "TimeMachine$Reader" "source" "[B") (List.mem_of_getElem? (i := 5) rfl)) (fun _ h9 => h9) (congrArg (fun z => some (va_rf (Option.map a z))) o27) dX9_readNumber_107 ?_
    refine lv_aload_n hx hb dX9_readNumber_110 rfl (lv_at hl 1 rfl) ?_
    refine va_get (D := (dC, dI)) (ci := 10) (v := .int (sI s0 3)) (C := RX9) (T := TX9) (N := 20) hx hb hts hi_dm_X9_readNumber_X9 hown hK hP 0 rfl rfl 4 (by decide) (hts (.fieldLink RX9 70 "TimeMachine$Reader" "from" "I") (List.mem_of_getElem? (i := 2) rfl)) (fun _ h9 => h9) rfl dX9_readNumber_111 ?_
    obtain ⟨i28, h⟩ := nd_ck_e h
    refine va_bald (i := (sI s0 3)) hx hb hK hP 8 7 rfl rfl i28 dX9_readNumber_114 ?_
    refine lv_bipush (v := 48) hx hb dX9_readNumber_115 (by decide) ?_
    refine lv_icmp_ne (tgt := 130) hx hb dX9_readNumber_117 (by decide) (fun c29 => ?_) (fun c29 => ?_)
    · have h := nd_neg h c29
      exact (db_X9_readNumber_130 C K) (y0) s0 _ _ _ h hP hD hS (lv_sub hl [1, 0] rfl)
    · have h := nd_pos h c29
      refine lv_iload_n hx hb dX9_readNumber_120 rfl (lv_at hl 3 rfl) ?_
      refine lv_bipush (v := 98) hx hb dX9_readNumber_121 (by decide) ?_
      refine lv_icmp_ne (tgt := 130) hx hb dX9_readNumber_123 (by decide) (fun c30 => ?_) (fun c30 => ?_)
      · have h := nd_neg h c30
        exact (db_X9_readNumber_130 C K) (y0) s0 _ _ _ h hP hD hS (lv_sub hl [1, 0] rfl)
      · have h := nd_pos h c30
        refine lv_iconst (v := 1) hx hb dX9_readNumber_126 (by decide) ?_
        refine lv_goto (tgt := 131) hx hb dX9_readNumber_127 (by decide) ?_
        exact (db_X9_readNumber_131 C K) (y0) (1) s0 _ _ _ h hP hD hS (lv_sub hl [1, 0] rfl)
set_option maxHeartbeats 40000000 in
set_option maxRecDepth 100000 in
theorem db_X9_readNumber_99 {p : Program} {l : Launch} {e : Env} {s : State} {m : MethodId} {args : Array Value} {below : List Frame} {meth : Method} {c : Code} {Q : State → Prop} {A : Nat → Prop} {dC : Nat → ClassId} {dI : Nat → Nat → Nat} {a : Nat → Nat} {ac : Nat → ClassId} {n : Nat} {r : St} (C : nd_C p l s m args c A (dC, dI) cX9_readNumber 12 RX9 ow_dm_X9_readNumber (dk_X9 ac)) (K : nd_Kv p l e (headSpec ow_dm_X9_readNumber ({ frames := 0, cells := 0, slots := 0, locals := 0 })).room s m args below meth c Q A (dC, dI) cX9_readNumber (St) (dw_X9 a ac) r) : dj_X9_readNumber_99 p l e s m args below meth c Q A dC dI a ac (df_X9_readNumber_99 n) r := by
  obtain ⟨hlt, hx, hb, hml, hown, hts, hN, hA, hK⟩ := id C
  intro x1 x2 s0 H locs ls h hP hD hS hl
  unfold df_X9_readNumber_99 at h
  refine lv_iconst (v := 0) hx hb dX9_readNumber_99 (by decide) ?_
  exact (db_X9_readNumber_100 C K) (x1) (x2) (0) s0 _ _ _ h hP hD hS (lv_sub hl [0, 1, 2] rfl)
set_option maxHeartbeats 40000000 in
set_option maxRecDepth 100000 in
theorem db_X9_readNumber_70 {p : Program} {l : Launch} {e : Env} {s : State} {m : MethodId} {args : Array Value} {below : List Frame} {meth : Method} {c : Code} {Q : State → Prop} {A : Nat → Prop} {dC : Nat → ClassId} {dI : Nat → Nat → Nat} {a : Nat → Nat} {ac : Nat → ClassId} {n : Nat} {r : St} (C : nd_C p l s m args c A (dC, dI) cX9_readNumber 12 RX9 ow_dm_X9_readNumber (dk_X9 ac)) (K : nd_Kv p l e (headSpec ow_dm_X9_readNumber ({ frames := 0, cells := 0, slots := 0, locals := 0 })).room s m args below meth c Q A (dC, dI) cX9_readNumber (St) (dw_X9 a ac) r) : dj_X9_readNumber_70 p l e s m args below meth c Q A dC dI a ac (df_X9_readNumber_70 n) r := by
  obtain ⟨hlt, hx, hb, hml, hown, hts, hN, hA, hK⟩ := id C
  intro x1 x2 s0 H locs ls h hP hD hS hl
  unfold df_X9_readNumber_70 at h
  refine lv_iload_n hx hb dX9_readNumber_70 rfl (lv_at hl 1 rfl) ?_
  refine lv_iconst (v := 2) hx hb dX9_readNumber_71 (by decide) ?_
  refine lv_icmp_le (tgt := 99) hx hb dX9_readNumber_72 (by decide) (fun c4 => ?_) (fun c4 => ?_)
  · have h := nd_pos h c4
    exact (db_X9_readNumber_99 C K) (x1) (x2) s0 _ _ _ h hP hD hS (lv_sub hl [0, 1, 2] rfl)
  · have h := nd_neg h c4
    refine lv_aload_n hx hb dX9_readNumber_75 rfl (lv_at hl 0 rfl) ?_
    obtain ⟨o31, h⟩ := nd_o_e h
    refine va_get (D := (dC, dI)) (ci := 10) (v := .ref (a 8)) (C := RX9) (T := TX9) (N := 20) hx hb hts hi_dm_X9_readNumber_X9 hown hK hP 0 rfl rfl 0 (by decide) (hts (.fieldLink RX9 9 "TimeMachine$Reader" "source" "[B") (List.mem_of_getElem? (i := 5) rfl)) (fun _ h9 => h9) (congrArg (fun z => some (va_rf (Option.map a z))) o31) dX9_readNumber_76 ?_
    refine lv_aload_n hx hb dX9_readNumber_79 rfl (lv_at hl 0 rfl) ?_
    refine va_get (D := (dC, dI)) (ci := 10) (v := .int (sI s0 3)) (C := RX9) (T := TX9) (N := 20) hx hb hts hi_dm_X9_readNumber_X9 hown hK hP 0 rfl rfl 4 (by decide) (hts (.fieldLink RX9 70 "TimeMachine$Reader" "from" "I") (List.mem_of_getElem? (i := 2) rfl)) (fun _ h9 => h9) rfl dX9_readNumber_80 ?_
    obtain ⟨i32, h⟩ := nd_ck_e h
    refine va_bald (i := (sI s0 3)) hx hb hK hP 8 7 rfl rfl i32 dX9_readNumber_83 ?_
    refine lv_bipush (v := 48) hx hb dX9_readNumber_84 (by decide) ?_
    refine lv_icmp_ne (tgt := 99) hx hb dX9_readNumber_86 (by decide) (fun c33 => ?_) (fun c33 => ?_)
    · have h := nd_neg h c33
      exact (db_X9_readNumber_99 C K) (x1) (x2) s0 _ _ _ h hP hD hS (lv_sub hl [0, 1, 2] rfl)
    · have h := nd_pos h c33
      refine lv_iload_n hx hb dX9_readNumber_89 rfl (lv_at hl 2 rfl) ?_
      refine lv_bipush (v := 120) hx hb dX9_readNumber_90 (by decide) ?_
      refine lv_icmp_ne (tgt := 99) hx hb dX9_readNumber_92 (by decide) (fun c34 => ?_) (fun c34 => ?_)
      · have h := nd_neg h c34
        exact (db_X9_readNumber_99 C K) (x1) (x2) s0 _ _ _ h hP hD hS (lv_sub hl [0, 1, 2] rfl)
      · have h := nd_pos h c34
        refine lv_iconst (v := 1) hx hb dX9_readNumber_95 (by decide) ?_
        refine lv_goto (tgt := 100) hx hb dX9_readNumber_96 (by decide) ?_
        exact (db_X9_readNumber_100 C K) (x1) (x2) (1) s0 _ _ _ h hP hD hS (lv_sub hl [0, 1, 2] rfl)
set_option maxHeartbeats 40000000 in
set_option maxRecDepth 100000 in
theorem db_X9_readNumber_48 {p : Program} {l : Launch} {e : Env} {s : State} {m : MethodId} {args : Array Value} {below : List Frame} {meth : Method} {c : Code} {Q : State → Prop} {A : Nat → Prop} {dC : Nat → ClassId} {dI : Nat → Nat → Nat} {a : Nat → Nat} {ac : Nat → ClassId} {n : Nat} {r : St} (C : nd_C p l s m args c A (dC, dI) cX9_readNumber 12 RX9 ow_dm_X9_readNumber (dk_X9 ac)) (K : nd_Kv p l e (headSpec ow_dm_X9_readNumber ({ frames := 0, cells := 0, slots := 0, locals := 0 })).room s m args below meth c Q A (dC, dI) cX9_readNumber (St) (dw_X9 a ac) r) : dj_X9_readNumber_48 p l e s m args below meth c Q A dC dI a ac (df_X9_readNumber_48 n) r := by
  obtain ⟨hlt, hx, hb, hml, hown, hts, hN, hA, hK⟩ := id C
  intro s0 H locs ls h hP hD hS hl
  unfold df_X9_readNumber_48 at h
  refine lv_aload_n hx hb dX9_readNumber_48 rfl (lv_at hl 0 rfl) ?_
  refine lv_iconst (v := 3) hx hb dX9_readNumber_49 (by decide) ?_
  refine va_put (D := (dC, dI)) (ci := 10) (v := .int 3) (ty := .int) (C := RX9) (T := TX9) (N := 20) hx hb hts hi_dm_X9_readNumber_X9 tyX9 tyX9_ok nmX9 hown hK hP hD hS 0 rfl rfl 3 (by decide) (hts (.fieldLink RX9 73 "TimeMachine$Reader" "kind" "I") (List.mem_of_getElem? (i := 3) rfl)) (fun _ h9 => h9) rfl (by decide +kernel) rfl rfl (Nat.le_of_ble_eq_true rfl) dX9_readNumber_50 (fun H locs hP hD hS => ?_)
  obtain ⟨s36, es36, h⟩ := nd_let_e h
  have hP : va_P (dC, dI) vwCl (dw_X9 a ac s36) H := by rw [es36]; exact hP
  have hD : va_D A (dw_X9 a ac s36) := by rw [es36]; exact hD
  refine lv_aload_n hx hb dX9_readNumber_53 rfl (lv_at hl 0 rfl) ?_
  refine lv_aload_n hx hb dX9_readNumber_54 rfl (lv_at hl 0 rfl) ?_
  obtain ⟨o37, h⟩ := nd_o_e h
  refine va_get (D := (dC, dI)) (ci := 10) (v := .ref (a 8)) (C := RX9) (T := TX9) (N := 20) hx hb hts hi_dm_X9_readNumber_X9 hown hK hP 0 rfl rfl 0 (by decide) (hts (.fieldLink RX9 9 "TimeMachine$Reader" "source" "[B") (List.mem_of_getElem? (i := 5) rfl)) (fun _ h9 => h9) (congrArg (fun z => some (va_rf (Option.map a z))) o37) dX9_readNumber_55 ?_
  refine lv_aload_n hx hb dX9_readNumber_58 rfl (lv_at hl 0 rfl) ?_
  refine va_get (D := (dC, dI)) (ci := 10) (v := .int (sI s36 3)) (C := RX9) (T := TX9) (N := 20) hx hb hts hi_dm_X9_readNumber_X9 hown hK hP 0 rfl rfl 4 (by decide) (hts (.fieldLink RX9 70 "TimeMachine$Reader" "from" "I") (List.mem_of_getElem? (i := 2) rfl)) (fun _ h9 => h9) rfl dX9_readNumber_59 ?_
  obtain ⟨i38, h⟩ := nd_ck_e h
  refine va_bald (i := (sI s36 3)) hx hb hK hP 8 7 rfl rfl i38 dX9_readNumber_62 ?_
  refine lv_bipush (v := 48) hx hb dX9_readNumber_63 (by decide) ?_
  refine lv_isub hx hb dX9_readNumber_65 ?_
  refine va_put (D := (dC, dI)) (ci := 10) (v := .int ((sR s36 7 (Int32.toNatClampNeg (sI s36 3))) - 48)) (ty := .int) (C := RX9) (T := TX9) (N := 20) hx hb hts hi_dm_X9_readNumber_X9 tyX9 tyX9_ok nmX9 hown hK hP hD hS 0 rfl rfl 5 (by decide) (hts (.fieldLink RX9 93 "TimeMachine$Reader" "number" "I") (List.mem_of_getElem? (i := 4) rfl)) (fun _ h9 => h9) rfl (by decide +kernel) rfl rfl (Nat.le_of_ble_eq_true rfl) dX9_readNumber_66 (fun H locs hP hD hS => ?_)
  obtain ⟨s39, es39, h⟩ := nd_let_e h
  have hP : va_P (dC, dI) vwCl (dw_X9 a ac s39) H := by rw [es39]; exact hP
  have hD : va_D A (dw_X9 a ac s39) := by rw [es39]; exact hD
  exact K _ _ _ _ _ dX9_readNumber_69 (Option.some.inj h).symm hP hD hS
set_option maxHeartbeats 40000000 in
set_option maxRecDepth 100000 in
theorem db_X9_readNumber_30 {p : Program} {l : Launch} {e : Env} {s : State} {m : MethodId} {args : Array Value} {below : List Frame} {meth : Method} {c : Code} {Q : State → Prop} {A : Nat → Prop} {dC : Nat → ClassId} {dI : Nat → Nat → Nat} {a : Nat → Nat} {ac : Nat → ClassId} {n : Nat} {r : St} (C : nd_C p l s m args c A (dC, dI) cX9_readNumber 12 RX9 ow_dm_X9_readNumber (dk_X9 ac)) (K : nd_Kv p l e (headSpec ow_dm_X9_readNumber ({ frames := 0, cells := 0, slots := 0, locals := 0 })).room s m args below meth c Q A (dC, dI) cX9_readNumber (St) (dw_X9 a ac) r) : dj_X9_readNumber_30 p l e s m args below meth c Q A dC dI a ac (df_X9_readNumber_30 n) r := by
  obtain ⟨hlt, hx, hb, hml, hown, hts, hN, hA, hK⟩ := id C
  intro x1 y0 s0 H locs ls h hP hD hS hl
  unfold df_X9_readNumber_30 at h
  refine lv_istore_n (lv' := [(2, .int y0), (0, .ref (a 0)), (1, .int x1)]) hx hb dX9_readNumber_30 rfl hl (by decide) rfl (fun ls hl => ?_)
  refine lv_iload_n hx hb dX9_readNumber_31 rfl (lv_at hl 2 rfl) ?_
  refine lv_iconst (v := 2) hx hb dX9_readNumber_32 (by decide) ?_
  refine lv_icmp_ne (tgt := 70) hx hb dX9_readNumber_33 (by decide) (fun c3 => ?_) (fun c3 => ?_)
  · have h := nd_neg h c3
    exact (db_X9_readNumber_70 C K) (x1) (y0) s0 _ _ _ h hP hD hS (lv_sub hl [1, 2, 0] rfl)
  · have h := nd_pos h c3
    refine lv_iload_n hx hb dX9_readNumber_36 rfl (lv_at hl 0 rfl) ?_
    refine lv_bipush (v := 102) hx hb dX9_readNumber_37 (by decide) ?_
    refine lv_icmp_eq (tgt := 48) hx hb dX9_readNumber_39 (by decide) (fun c35 => ?_) (fun c35 => ?_)
    · have h := nd_pos h c35
      exact (db_X9_readNumber_48 C K)  s0 _ _ _ h hP hD hS (lv_sub hl [1] rfl)
    · have h := nd_neg h c35
      refine lv_iload_n hx hb dX9_readNumber_42 rfl (lv_at hl 0 rfl) ?_
      refine lv_bipush (v := 98) hx hb dX9_readNumber_43 (by decide) ?_
      refine lv_icmp_ne (tgt := 70) hx hb dX9_readNumber_45 (by decide) (fun c40 => ?_) (fun c40 => ?_)
      · have h := nd_neg h c40
        exact (db_X9_readNumber_70 C K) (x1) (y0) s0 _ _ _ h hP hD hS (lv_sub hl [1, 2, 0] rfl)
      · have h := nd_pos h c40
        exact (db_X9_readNumber_48 C K)  s0 _ _ _ h hP hD hS (lv_sub hl [1] rfl)
set_option maxHeartbeats 40000000 in
set_option maxRecDepth 100000 in
theorem db_X9_readNumber_0 {p : Program} {l : Launch} {e : Env} {s : State} {m : MethodId} {args : Array Value} {below : List Frame} {meth : Method} {c : Code} {Q : State → Prop} {A : Nat → Prop} {dC : Nat → ClassId} {dI : Nat → Nat → Nat} {a : Nat → Nat} {ac : Nat → ClassId} {n : Nat} {r : St} (C : nd_C p l s m args c A (dC, dI) cX9_readNumber 12 RX9 ow_dm_X9_readNumber (dk_X9 ac)) (K : nd_Kv p l e (headSpec ow_dm_X9_readNumber ({ frames := 0, cells := 0, slots := 0, locals := 0 })).room s m args below meth c Q A (dC, dI) cX9_readNumber (St) (dw_X9 a ac) r) : dj_X9_readNumber_0 p l e s m args below meth c Q A dC dI a ac (df_X9_readNumber_0 n) r := by
  obtain ⟨hlt, hx, hb, hml, hown, hts, hN, hA, hK⟩ := id C
  intro s0 H locs ls h hP hD hS hl
  unfold df_X9_readNumber_0 at h
  refine lv_aload_n hx hb dX9_readNumber_0 rfl (lv_at hl 0 rfl) ?_
  refine va_get (D := (dC, dI)) (ci := 10) (v := .int (sI s0 0)) (C := RX9) (T := TX9) (N := 20) hx hb hts hi_dm_X9_readNumber_X9 hown hK hP 0 rfl rfl 1 (by decide) (hts (.fieldLink RX9 55 "TimeMachine$Reader" "at" "I") (List.mem_of_getElem? (i := 1) rfl)) (fun _ h9 => h9) rfl dX9_readNumber_1 ?_
  refine lv_aload_n hx hb dX9_readNumber_4 rfl (lv_at hl 0 rfl) ?_
  refine va_get (D := (dC, dI)) (ci := 10) (v := .int (sI s0 3)) (C := RX9) (T := TX9) (N := 20) hx hb hts hi_dm_X9_readNumber_X9 hown hK hP 0 rfl rfl 4 (by decide) (hts (.fieldLink RX9 70 "TimeMachine$Reader" "from" "I") (List.mem_of_getElem? (i := 2) rfl)) (fun _ h9 => h9) rfl dX9_readNumber_5 ?_
  refine lv_isub hx hb dX9_readNumber_8 ?_
  refine lv_topi (fun z1 ez1 => ?_)
  have h := nd_at h ez1
  refine lv_istore_n (lv' := [(1, .int z1), (0, .ref (a 0))]) hx hb dX9_readNumber_9 rfl hl (by decide) rfl (fun ls hl => ?_)
  refine lv_iload_n hx hb dX9_readNumber_10 rfl (lv_at hl 0 rfl) ?_
  refine lv_iconst (v := 1) hx hb dX9_readNumber_11 (by decide) ?_
  refine lv_icmp_le (tgt := 29) hx hb dX9_readNumber_12 (by decide) (fun c2 => ?_) (fun c2 => ?_)
  · have h := nd_pos h c2
    refine lv_iconst (v := 0) hx hb dX9_readNumber_29 (by decide) ?_
    exact (db_X9_readNumber_30 C K) (z1) (0) s0 _ _ _ h hP hD hS (lv_sub hl [1, 0] rfl)
  · have h := nd_neg h c2
    refine lv_aload_n hx hb dX9_readNumber_15 rfl (lv_at hl 1 rfl) ?_
    obtain ⟨o41, h⟩ := nd_o_e h
    refine va_get (D := (dC, dI)) (ci := 10) (v := .ref (a 8)) (C := RX9) (T := TX9) (N := 20) hx hb hts hi_dm_X9_readNumber_X9 hown hK hP 0 rfl rfl 0 (by decide) (hts (.fieldLink RX9 9 "TimeMachine$Reader" "source" "[B") (List.mem_of_getElem? (i := 5) rfl)) (fun _ h9 => h9) (congrArg (fun z => some (va_rf (Option.map a z))) o41) dX9_readNumber_16 ?_
    refine lv_aload_n hx hb dX9_readNumber_19 rfl (lv_at hl 1 rfl) ?_
    refine va_get (D := (dC, dI)) (ci := 10) (v := .int (sI s0 3)) (C := RX9) (T := TX9) (N := 20) hx hb hts hi_dm_X9_readNumber_X9 hown hK hP 0 rfl rfl 4 (by decide) (hts (.fieldLink RX9 70 "TimeMachine$Reader" "from" "I") (List.mem_of_getElem? (i := 2) rfl)) (fun _ h9 => h9) rfl dX9_readNumber_20 ?_
    refine lv_iconst (v := 1) hx hb dX9_readNumber_23 (by decide) ?_
    refine lv_iadd hx hb dX9_readNumber_24 ?_
    obtain ⟨i42, h⟩ := nd_ck_e h
    refine va_bald (i := ((sI s0 3) + 1)) hx hb hK hP 8 7 rfl rfl i42 dX9_readNumber_25 ?_
    refine lv_goto (tgt := 30) hx hb dX9_readNumber_26 (by decide) ?_
    exact (db_X9_readNumber_30 C K) (z1) ((sR s0 7 (Int32.toNatClampNeg ((sI s0 3) + 1)))) s0 _ _ _ h hP hD hS (lv_sub hl [1, 0] rfl)
set_option maxHeartbeats 40000000 in
set_option maxRecDepth 100000 in
theorem dm_X9_readNumber (l : Launch) (hlt : l.stackTraces = false) (dC : Nat → ClassId) (dI : Nat → Nat → Nat) (a : Nat → Nat) (ac : Nat → ClassId) (n : Nat) (s0 : St) {r : St} (h : df_X9_readNumber n s0 = some r) (sz : Nat) : Met l yX9_readNumber ow_dm_X9_readNumber ({ frames := 0, cells := 0, slots := 0, locals := 0 }) (va_Pc [.ref (a 0)] (fun U => U.heap.size = sz ∧ va_P (dC, dI) vwCl (dw_X9 a ac s0) U.heap ∧ va_K (dC, dI) vwCl (dk_X9 ac) U ∧ va_D (fun _ => True) (dw_X9 a ac s0) ∧ nv_E dI (va_A (dw_X9 a ac s0) sz) U)) (va_Qv (fun _ => True) (fun (_ : Unit) t => va_P (dC, dI) vwCl (dw_X9 a ac r) t.heap ∧ va_K (dC, dI) vwCl (dk_X9 ac) t ∧ va_D (va_A (dw_X9 a ac s0) sz) (dw_X9 a ac r)) (va_A (dw_X9 a ac s0) sz)) 0 0 (va_A (dw_X9 a ac s0) sz) := by
  refine Met.ofW (cc := cX9_readNumber) (maxL := 12) (ret := none) (by decide) rfl ?_
  intro p e s m args below meth c s₁ B hml hv
  obtain ⟨rfl, hsz, hP, hK, hD0, hN⟩ := hv
  have hx := B.exec
  have hb := B.bytes
  have hr := B.returns
  have hts := atoms_spec (ws := ow_dm_X9_readNumber) B.pre
  have hown : s.vm.findClass RX9 = some m.cls := findClass_of_methodNamed B.named
  have hlocks := B.notSynchronized
  subst hsz
  have hD := hD0.self (sz := s.heap.size)
  generalize hAe : va_A (dw_X9 a ac s0) s.heap.size = A at hD hN ⊢
  have hA : ∀ q : Nat, s.heap.size ≤ q → A q := fun q h => by rw [← hAe]; exact Or.inr h
  have hl := lv_entry ([.ref (a 0)]) (n := 12) (Nat.le_of_ble_eq_true rfl)
  rw [lg_entry_eq]
  generalize (lg_sl ([.ref (a 0)]) ++ List.replicate (12 - (lg_sl ([.ref (a 0)])).length) Slot.unset).toArray = ls at hl ⊢
  have hl : lv_has ls 12 [(0, .ref (a 0))] := hl
  exact db_X9_readNumber_0 (dC := dC) (dI := dI) (a := a) (ac := ac) (n := n) (r := r) ⟨hlt, hx, hb, hml, hown, hts, hN, hA, hK⟩ (fun pc τ H locs ls d er hP hD hS => by subst er; exact W.vret hx hb hr (fun t ht hW => ⟨⟨(), rfl, trivial, by rw [ht]; exact hP, va_K.moved hW.alike hK, hD⟩, hS.F ht⟩) hS.2.2 d) s0 _ _ _ h hP hD va_S.rf (lv_sub hl [0] rfl)
def ow_dm_X9_next : List Cond := Cond.code yX9_next cX9_next 2 none :: ([Cond.fieldLink RX9 55 "TimeMachine$Reader" "at" "I", Cond.fieldLink RX9 64 "TimeMachine$Reader" "stop" "I", Cond.fieldLink RX9 70 "TimeMachine$Reader" "from" "I", Cond.fieldLink RX9 73 "TimeMachine$Reader" "kind" "I", Cond.fieldLink RX9 9 "TimeMachine$Reader" "source" "[B", Cond.methodLink RX9 89 yX9_readSign, Cond.instanceMethod yX9_readSign, Cond.selects RX9 yX9_readSign yX9_readSign, Cond.initialized RX9, Cond.methodLink RX9 86 yX9_readCharacter, Cond.instanceMethod yX9_readCharacter, Cond.selects RX9 yX9_readCharacter yX9_readCharacter, Cond.methodLink RX9 83 yX9_readText, Cond.instanceMethod yX9_readText, Cond.selects RX9 yX9_readText yX9_readText, Cond.methodLink RX9 80 yX9_readNumber, Cond.instanceMethod yX9_readNumber, Cond.selects RX9 yX9_readNumber yX9_readNumber, Cond.methodLink RX9 76 yX9_isInName, Cond.static yX9_isInName] ++ (u_ws RX9 TX9 20 ++ (ow_dm_X9_readSign ++ (ow_dm_X9_readCharacter ++ (ow_dm_X9_readText ++ (ow_dm_X9_readNumber ++ (ow_dm_X9_isInName ++ [])))))))
theorem gd_dm_X9_next : ∀ w ∈ ow_dm_X9_next, (w.onTables && w.keeps) = true ∨ ∃ ty, w = Cond.arrayClass ty := List.forall_mem_cons.mpr ⟨good_of_word rfl, List.forall_mem_append.mpr ⟨fun w h => good_of_word (List.all_eq_true.mp (by decide +kernel) w h), List.forall_mem_append.mpr ⟨gu_X9, List.forall_mem_append.mpr ⟨gd_dm_X9_readSign, List.forall_mem_append.mpr ⟨gd_dm_X9_readCharacter, List.forall_mem_append.mpr ⟨gd_dm_X9_readText, List.forall_mem_append.mpr ⟨gd_dm_X9_readNumber, List.forall_mem_append.mpr ⟨gd_dm_X9_isInName, fun _ h => nomatch h⟩⟩⟩⟩⟩⟩⟩⟩
theorem hi_dm_X9_next_X9 : ∀ w ∈ u_ws RX9 TX9 20, w ∈ ow_dm_X9_next := fun w h => List.mem_cons_of_mem _ (List.mem_append_right _ (List.mem_append_left _ h))
theorem gi_dm_X9_next_0 : GoodIn ow_dm_X9_next (wsV RX9 89 RX9 yX9_readSign ow_dm_X9_readSign) := goodIn_app (goodIn_of _ (by decide +kernel)) (fun w h => ⟨List.mem_cons_of_mem _ (List.mem_append_right _ (List.mem_append_right _ (List.mem_append_left _ h))), gd_dm_X9_readSign w h⟩)
theorem gi_dm_X9_next_1 : GoodIn ow_dm_X9_next (wsV RX9 86 RX9 yX9_readCharacter ow_dm_X9_readCharacter) := goodIn_app (goodIn_of _ (by decide +kernel)) (fun w h => ⟨List.mem_cons_of_mem _ (List.mem_append_right _ (List.mem_append_right _ (List.mem_append_right _ (List.mem_append_left _ h)))), gd_dm_X9_readCharacter w h⟩)
theorem gi_dm_X9_next_2 : GoodIn ow_dm_X9_next (wsV RX9 83 RX9 yX9_readText ow_dm_X9_readText) := goodIn_app (goodIn_of _ (by decide +kernel)) (fun w h => ⟨List.mem_cons_of_mem _ (List.mem_append_right _ (List.mem_append_right _ (List.mem_append_right _ (List.mem_append_right _ (List.mem_append_left _ h))))), gd_dm_X9_readText w h⟩)
theorem gi_dm_X9_next_3 : GoodIn ow_dm_X9_next (wsV RX9 80 RX9 yX9_readNumber ow_dm_X9_readNumber) := goodIn_app (goodIn_of _ (by decide +kernel)) (fun w h => ⟨List.mem_cons_of_mem _ (List.mem_append_right _ (List.mem_append_right _ (List.mem_append_right _ (List.mem_append_right _ (List.mem_append_right _ (List.mem_append_left _ h)))))), gd_dm_X9_readNumber w h⟩)
theorem gi_dm_X9_next_4 : GoodIn ow_dm_X9_next (wsS RX9 76 yX9_isInName ow_dm_X9_isInName) := goodIn_app (goodIn_of _ (by decide +kernel)) (fun w h => ⟨List.mem_cons_of_mem _ (List.mem_append_right _ (List.mem_append_right _ (List.mem_append_right _ (List.mem_append_right _ (List.mem_append_right _ (List.mem_append_right _ (List.mem_append_left _ h))))))), gd_dm_X9_isInName w h⟩)
def dj_X9_next_85 (p : Program) (l : Launch) (e : Env) (s : State) (m : MethodId) (args : Array Value) (below : List Frame) (meth : Method) (c : Code) (Q : State → Prop) (A : Nat → Prop) (dC : Nat → ClassId) (dI : Nat → Nat → Nat) (a : Nat → Nat) (ac : Nat → ClassId) (g : (St) → Option (St)) (r : St) : Prop := ∀ (s0 : St) (H : Heap) (locs : List Loc) (ls : Array Slot), g s0 = some r → va_P (dC, dI) vwCl (dw_X9 a ac s0) H → va_D A (dw_X9 a ac s0) → va_S A s.heap H locs → lv_has ls 2 [(0, .ref (a 0))] → W p l e (headSpec ow_dm_X9_next ({ frames := 5, cells := 0, slots := 0, locals := 112 })).room s m args below meth c H locs 0 0 Q (F0 m 85 ls [])
def dj_X9_next_228 (p : Program) (l : Launch) (e : Env) (s : State) (m : MethodId) (args : Array Value) (below : List Frame) (meth : Method) (c : Code) (Q : State → Prop) (A : Nat → Prop) (dC : Nat → ClassId) (dI : Nat → Nat → Nat) (a : Nat → Nat) (ac : Nat → ClassId) (g : (St) → Option (St)) (r : St) : Prop := ∀ (s0 : St) (H : Heap) (locs : List Loc) (ls : Array Slot), g s0 = some r → va_P (dC, dI) vwCl (dw_X9 a ac s0) H → va_D A (dw_X9 a ac s0) → va_S A s.heap H locs → lv_has ls 2 [] → W p l e (headSpec ow_dm_X9_next ({ frames := 5, cells := 0, slots := 0, locals := 112 })).room s m args below meth c H locs 0 0 Q (F0 m 228 ls [])
def dj_X9_next_191 (p : Program) (l : Launch) (e : Env) (s : State) (m : MethodId) (args : Array Value) (below : List Frame) (meth : Method) (c : Code) (Q : State → Prop) (A : Nat → Prop) (dC : Nat → ClassId) (dI : Nat → Nat → Nat) (a : Nat → Nat) (ac : Nat → ClassId) (g : Int32 → (St) → Option (St)) (r : St) : Prop := ∀ (y1 : Int32) (s0 : St) (H : Heap) (locs : List Loc) (ls : Array Slot), g y1 s0 = some r → va_P (dC, dI) vwCl (dw_X9 a ac s0) H → va_D A (dw_X9 a ac s0) → va_S A s.heap H locs → lv_has ls 2 [] → W p l e (headSpec ow_dm_X9_next ({ frames := 5, cells := 0, slots := 0, locals := 112 })).room s m args below meth c H locs 0 0 Q (F0 m 191 ls [.int y1, .ref (a 0)])
def dj_X9_next_159 (p : Program) (l : Launch) (e : Env) (s : State) (m : MethodId) (args : Array Value) (below : List Frame) (meth : Method) (c : Code) (Q : State → Prop) (A : Nat → Prop) (dC : Nat → ClassId) (dI : Nat → Nat → Nat) (a : Nat → Nat) (ac : Nat → ClassId) (g : Int32 → (St) → Option (St)) (r : St) : Prop := ∀ (x1 : Int32) (s0 : St) (H : Heap) (locs : List Loc) (ls : Array Slot), g x1 s0 = some r → va_P (dC, dI) vwCl (dw_X9 a ac s0) H → va_D A (dw_X9 a ac s0) → va_S A s.heap H locs → lv_has ls 2 [(0, .ref (a 0)), (1, .int x1)] → W p l e (headSpec ow_dm_X9_next ({ frames := 5, cells := 0, slots := 0, locals := 112 })).room s m args below meth c H locs 0 0 Q (F0 m 159 ls [])
def dj_X9_next_140 (p : Program) (l : Launch) (e : Env) (s : State) (m : MethodId) (args : Array Value) (below : List Frame) (meth : Method) (c : Code) (Q : State → Prop) (A : Nat → Prop) (dC : Nat → ClassId) (dI : Nat → Nat → Nat) (a : Nat → Nat) (ac : Nat → ClassId) (g : Int32 → (St) → Option (St)) (r : St) : Prop := ∀ (x1 : Int32) (s0 : St) (H : Heap) (locs : List Loc) (ls : Array Slot), g x1 s0 = some r → va_P (dC, dI) vwCl (dw_X9 a ac s0) H → va_D A (dw_X9 a ac s0) → va_S A s.heap H locs → lv_has ls 2 [(0, .ref (a 0)), (1, .int x1)] → W p l e (headSpec ow_dm_X9_next ({ frames := 5, cells := 0, slots := 0, locals := 112 })).room s m args below meth c H locs 0 0 Q (F0 m 140 ls [])
def dj_X9_next_101 (p : Program) (l : Launch) (e : Env) (s : State) (m : MethodId) (args : Array Value) (below : List Frame) (meth : Method) (c : Code) (Q : State → Prop) (A : Nat → Prop) (dC : Nat → ClassId) (dI : Nat → Nat → Nat) (a : Nat → Nat) (ac : Nat → ClassId) (g : Int32 → (St) → Option (St)) (r : St) : Prop := ∀ (x1 : Int32) (s0 : St) (H : Heap) (locs : List Loc) (ls : Array Slot), g x1 s0 = some r → va_P (dC, dI) vwCl (dw_X9 a ac s0) H → va_D A (dw_X9 a ac s0) → va_S A s.heap H locs → lv_has ls 2 [(0, .ref (a 0)), (1, .int x1)] → W p l e (headSpec ow_dm_X9_next ({ frames := 5, cells := 0, slots := 0, locals := 112 })).room s m args below meth c H locs 0 0 Q (F0 m 101 ls [])
def dj_X9_next_52 (p : Program) (l : Launch) (e : Env) (s : State) (m : MethodId) (args : Array Value) (below : List Frame) (meth : Method) (c : Code) (Q : State → Prop) (A : Nat → Prop) (dC : Nat → ClassId) (dI : Nat → Nat → Nat) (a : Nat → Nat) (ac : Nat → ClassId) (g : (St) → Option (St)) (r : St) : Prop := ∀ (s0 : St) (H : Heap) (locs : List Loc) (ls : Array Slot), g s0 = some r → va_P (dC, dI) vwCl (dw_X9 a ac s0) H → va_D A (dw_X9 a ac s0) → va_S A s.heap H locs → lv_has ls 2 [(0, .ref (a 0))] → W p l e (headSpec ow_dm_X9_next ({ frames := 5, cells := 0, slots := 0, locals := 112 })).room s m args below meth c H locs 0 0 Q (F0 m 52 ls [])
def dj_X9_next_39 (p : Program) (l : Launch) (e : Env) (s : State) (m : MethodId) (args : Array Value) (below : List Frame) (meth : Method) (c : Code) (Q : State → Prop) (A : Nat → Prop) (dC : Nat → ClassId) (dI : Nat → Nat → Nat) (a : Nat → Nat) (ac : Nat → ClassId) (g : (St) → Option (St)) (r : St) : Prop := ∀ (s0 : St) (H : Heap) (locs : List Loc) (ls : Array Slot), g s0 = some r → va_P (dC, dI) vwCl (dw_X9 a ac s0) H → va_D A (dw_X9 a ac s0) → va_S A s.heap H locs → lv_has ls 2 [(0, .ref (a 0))] → W p l e (headSpec ow_dm_X9_next ({ frames := 5, cells := 0, slots := 0, locals := 112 })).room s m args below meth c H locs 0 0 Q (F0 m 39 ls [])
def dj_X9_next_0 (p : Program) (l : Launch) (e : Env) (s : State) (m : MethodId) (args : Array Value) (below : List Frame) (meth : Method) (c : Code) (Q : State → Prop) (A : Nat → Prop) (dC : Nat → ClassId) (dI : Nat → Nat → Nat) (a : Nat → Nat) (ac : Nat → ClassId) (g : (St) → Option (St)) (r : St) : Prop := ∀ (s0 : St) (H : Heap) (locs : List Loc) (ls : Array Slot), g s0 = some r → va_P (dC, dI) vwCl (dw_X9 a ac s0) H → va_D A (dw_X9 a ac s0) → va_S A s.heap H locs → lv_has ls 2 [(0, .ref (a 0))] → W p l e (headSpec ow_dm_X9_next ({ frames := 5, cells := 0, slots := 0, locals := 112 })).room s m args below meth c H locs 0 0 Q (F0 m 0 ls [])
set_option maxHeartbeats 40000000 in
set_option maxRecDepth 100000 in
theorem db_X9_next_85 {p : Program} {l : Launch} {e : Env} {s : State} {m : MethodId} {args : Array Value} {below : List Frame} {meth : Method} {c : Code} {Q : State → Prop} {A : Nat → Prop} {dC : Nat → ClassId} {dI : Nat → Nat → Nat} {a : Nat → Nat} {ac : Nat → ClassId} {n : Nat} {r : St} (C : nd_C p l s m args c A (dC, dI) cX9_next 2 RX9 ow_dm_X9_next (dk_X9 ac)) (K : nd_Kv p l e (headSpec ow_dm_X9_next ({ frames := 5, cells := 0, slots := 0, locals := 112 })).room s m args below meth c Q A (dC, dI) cX9_next (St) (dw_X9 a ac) r) : dj_X9_next_85 p l e s m args below meth c Q A dC dI a ac (df_X9_next_85 n) r := by
  obtain ⟨hlt, hx, hb, hml, hown, hts, hN, hA, hK⟩ := id C
  intro s0 H locs ls h hP hD hS hl
  unfold df_X9_next_85 at h
  refine lv_aload_n hx hb dX9_next_85 rfl (lv_at hl 0 rfl) ?_
  refine lv_iconst (v := 0) hx hb dX9_next_86 (by decide) ?_
  refine va_put (D := (dC, dI)) (ci := 10) (v := .int 0) (ty := .int) (C := RX9) (T := TX9) (N := 20) hx hb hts hi_dm_X9_next_X9 tyX9 tyX9_ok nmX9 hown hK hP hD hS 0 rfl rfl 3 (by decide) (hts (.fieldLink RX9 73 "TimeMachine$Reader" "kind" "I") (List.mem_of_getElem? (i := 4) rfl)) (fun _ h9 => h9) rfl (by decide +kernel) rfl rfl (Nat.le_of_ble_eq_true rfl) dX9_next_87 (fun H locs hP hD hS => ?_)
  obtain ⟨s4, es4, h⟩ := nd_let_e h
  have hP : va_P (dC, dI) vwCl (dw_X9 a ac s4) H := by rw [es4]; exact hP
  have hD : va_D A (dw_X9 a ac s4) := by rw [es4]; exact hD
  exact K _ _ _ _ _ dX9_next_90 (Option.some.inj h).symm hP hD hS
set_option maxHeartbeats 40000000 in
set_option maxRecDepth 100000 in
theorem db_X9_next_228 {p : Program} {l : Launch} {e : Env} {s : State} {m : MethodId} {args : Array Value} {below : List Frame} {meth : Method} {c : Code} {Q : State → Prop} {A : Nat → Prop} {dC : Nat → ClassId} {dI : Nat → Nat → Nat} {a : Nat → Nat} {ac : Nat → ClassId} {n : Nat} {r : St} (C : nd_C p l s m args c A (dC, dI) cX9_next 2 RX9 ow_dm_X9_next (dk_X9 ac)) (K : nd_Kv p l e (headSpec ow_dm_X9_next ({ frames := 5, cells := 0, slots := 0, locals := 112 })).room s m args below meth c Q A (dC, dI) cX9_next (St) (dw_X9 a ac) r) : dj_X9_next_228 p l e s m args below meth c Q A dC dI a ac (df_X9_next_228 n) r := by
  obtain ⟨hlt, hx, hb, hml, hown, hts, hN, hA, hK⟩ := id C
  intro s0 H locs ls h hP hD hS hl
  unfold df_X9_next_228 at h
  exact K _ _ _ _ _ dX9_next_228 (Option.some.inj h).symm hP hD hS
set_option maxHeartbeats 40000000 in
set_option maxRecDepth 100000 in
theorem db_X9_next_191 {p : Program} {l : Launch} {e : Env} {s : State} {m : MethodId} {args : Array Value} {below : List Frame} {meth : Method} {c : Code} {Q : State → Prop} {A : Nat → Prop} {dC : Nat → ClassId} {dI : Nat → Nat → Nat} {a : Nat → Nat} {ac : Nat → ClassId} {n : Nat} {r : St} (C : nd_C p l s m args c A (dC, dI) cX9_next 2 RX9 ow_dm_X9_next (dk_X9 ac)) (K : nd_Kv p l e (headSpec ow_dm_X9_next ({ frames := 5, cells := 0, slots := 0, locals := 112 })).room s m args below meth c Q A (dC, dI) cX9_next (St) (dw_X9 a ac) r) : dj_X9_next_191 p l e s m args below meth c Q A dC dI a ac (df_X9_next_191 n) r := by
  obtain ⟨hlt, hx, hb, hml, hown, hts, hN, hA, hK⟩ := id C
  intro y1 s0 H locs ls h hP hD hS hl
  unfold df_X9_next_191 at h
  refine va_put (D := (dC, dI)) (ci := 10) (v := .int y1) (ty := .int) (C := RX9) (T := TX9) (N := 20) hx hb hts hi_dm_X9_next_X9 tyX9 tyX9_ok nmX9 hown hK hP hD hS 0 rfl rfl 3 (by decide) (hts (.fieldLink RX9 73 "TimeMachine$Reader" "kind" "I") (List.mem_of_getElem? (i := 4) rfl)) (fun _ h9 => h9) rfl (by decide +kernel) rfl rfl (Nat.le_of_ble_eq_true rfl) dX9_next_191 (fun H locs hP hD hS => ?_)
  obtain ⟨s26, es26, h⟩ := nd_let_e h
  have hP : va_P (dC, dI) vwCl (dw_X9 a ac s26) H := by rw [es26]; exact hP
  have hD : va_D A (dw_X9 a ac s26) := by rw [es26]; exact hD
  refine lv_goto (tgt := 228) hx hb dX9_next_194 (by decide) ?_
  exact (db_X9_next_228 C K)  s26 _ _ _ h hP hD hS (lv_sub hl [] rfl)
set_option maxHeartbeats 40000000 in
set_option maxRecDepth 100000 in
theorem db_X9_next_159 {p : Program} {l : Launch} {e : Env} {s : State} {m : MethodId} {args : Array Value} {below : List Frame} {meth : Method} {c : Code} {Q : State → Prop} {A : Nat → Prop} {dC : Nat → ClassId} {dI : Nat → Nat → Nat} {a : Nat → Nat} {ac : Nat → ClassId} {n : Nat} {r : St} (C : nd_C p l s m args c A (dC, dI) cX9_next 2 RX9 ow_dm_X9_next (dk_X9 ac)) (K : nd_Kv p l e (headSpec ow_dm_X9_next ({ frames := 5, cells := 0, slots := 0, locals := 112 })).room s m args below meth c Q A (dC, dI) cX9_next (St) (dw_X9 a ac) r) : dj_X9_next_159 p l e s m args below meth c Q A dC dI a ac (df_X9_next_159 n) r := by
  obtain ⟨hlt, hx, hb, hml, hown, hts, hN, hA, hK⟩ := id C
  intro x1 s0 H locs ls h hP hD hS hl
  unfold df_X9_next_159 at h
  refine lv_aload_n hx hb dX9_next_159 rfl (lv_at hl 0 rfl) ?_
  refine va_get (D := (dC, dI)) (ci := 10) (v := .int (sI s0 0)) (C := RX9) (T := TX9) (N := 20) hx hb hts hi_dm_X9_next_X9 hown hK hP 0 rfl rfl 1 (by decide) (hts (.fieldLink RX9 55 "TimeMachine$Reader" "at" "I") (List.mem_of_getElem? (i := 1) rfl)) (fun _ h9 => h9) rfl dX9_next_160 ?_
  refine lv_aload_n hx hb dX9_next_163 rfl (lv_at hl 0 rfl) ?_
  refine va_get (D := (dC, dI)) (ci := 10) (v := .int (sI s0 3)) (C := RX9) (T := TX9) (N := 20) hx hb hts hi_dm_X9_next_X9 hown hK hP 0 rfl rfl 4 (by decide) (hts (.fieldLink RX9 70 "TimeMachine$Reader" "from" "I") (List.mem_of_getElem? (i := 3) rfl)) (fun _ h9 => h9) rfl dX9_next_164 ?_
  refine lv_icmp_le (tgt := 197) hx hb dX9_next_167 (by decide) (fun c13 => ?_) (fun c13 => ?_)
  · have h := nd_pos h c13
    refine lv_iload_n hx hb dX9_next_197 rfl (lv_at hl 1 rfl) ?_
    refine lv_bipush (v := 34) hx hb dX9_next_198 (by decide) ?_
    refine lv_icmp_ne (tgt := 210) hx hb dX9_next_200 (by decide) (fun c14 => ?_) (fun c14 => ?_)
    · have h := nd_neg h c14
      refine lv_iload_n hx hb dX9_next_210 rfl (lv_at hl 1 rfl) ?_
      refine lv_bipush (v := 39) hx hb dX9_next_211 (by decide) ?_
      refine lv_icmp_ne (tgt := 223) hx hb dX9_next_213 (by decide) (fun c15 => ?_) (fun c15 => ?_)
      · have h := nd_neg h c15
        refine lv_aload_n hx hb dX9_next_223 rfl (lv_at hl 0 rfl) ?_
        refine lv_iload_n hx hb dX9_next_224 rfl (lv_at hl 1 rfl) ?_
        obtain ⟨s17, hq, h⟩ := nd_b1_e h
        have hPc := hP
        have hDc := hD
        have hKc := hK
        have hFc := nd_rs hD hS hA
        refine nd_cVv (As := [.int x1]) (rest := []) (w' := dw_X9 a ac s17) ⟨hx, hb, hml, hown, hts⟩ (fun sz => dm_X9_readSign l hlt dC dI a ac n (x1) s0 hq sz) (cwV 1 hts gi_dm_X9_next_0 rfl rfl rfl (by decide +kernel) ⟨Nat.le_of_ble_eq_true rfl, Nat.le_of_ble_eq_true rfl⟩) hPc hDc hKc hS hA hN (va_recv hKc hPc (ci := 10) (q0 := 0) rfl rfl) rfl hl.1 rfl (Nat.le_of_ble_eq_true rfl) dX9_next_225 (fun H locs hP1 hD1 hk1 hS => ?_)
        have hP := hP1
        have hD := hD1.weaken (fun k q _ h => hFc q.1 h)
        exact (db_X9_next_228 C K)  s17 _ _ _ h hP hD hS (lv_sub hl [] rfl)
      · have h := nd_pos h c15
        refine lv_aload_n hx hb dX9_next_216 rfl (lv_at hl 0 rfl) ?_
        obtain ⟨s20, hq, h⟩ := nd_b1_e h
        have hPc := hP
        have hDc := hD
        have hKc := hK
        have hFc := nd_rs hD hS hA
        refine nd_cVv (As := []) (rest := []) (w' := dw_X9 a ac s20) ⟨hx, hb, hml, hown, hts⟩ (fun sz => dm_X9_readCharacter l hlt dC dI a ac n  s0 hq sz) (cwV 0 hts gi_dm_X9_next_1 rfl rfl rfl (by decide +kernel) ⟨Nat.le_of_ble_eq_true rfl, Nat.le_of_ble_eq_true rfl⟩) hPc hDc hKc hS hA hN (va_recv hKc hPc (ci := 10) (q0 := 0) rfl rfl) rfl hl.1 rfl (Nat.le_of_ble_eq_true rfl) dX9_next_217 (fun H locs hP1 hD1 hk1 hS => ?_)
        have hP := hP1
        have hD := hD1.weaken (fun k q _ h => hFc q.1 h)
        refine lv_goto (tgt := 228) hx hb dX9_next_220 (by decide) ?_
        exact (db_X9_next_228 C K)  s20 _ _ _ h hP hD hS (lv_sub hl [] rfl)
    · have h := nd_pos h c14
      refine lv_aload_n hx hb dX9_next_203 rfl (lv_at hl 0 rfl) ?_
      obtain ⟨s23, hq, h⟩ := nd_b1_e h
      have hPc := hP
      have hDc := hD
      have hKc := hK
      have hFc := nd_rs hD hS hA
      refine nd_cVv (As := []) (rest := []) (w' := dw_X9 a ac s23) ⟨hx, hb, hml, hown, hts⟩ (fun sz => dm_X9_readText l hlt dC dI a ac n  s0 hq sz) (cwV 0 hts gi_dm_X9_next_2 rfl rfl rfl (by decide +kernel) ⟨Nat.le_of_ble_eq_true rfl, Nat.le_of_ble_eq_true rfl⟩) hPc hDc hKc hS hA hN (va_recv hKc hPc (ci := 10) (q0 := 0) rfl rfl) rfl hl.1 rfl (Nat.le_of_ble_eq_true rfl) dX9_next_204 (fun H locs hP1 hD1 hk1 hS => ?_)
      have hP := hP1
      have hD := hD1.weaken (fun k q _ h => hFc q.1 h)
      refine lv_goto (tgt := 228) hx hb dX9_next_207 (by decide) ?_
      exact (db_X9_next_228 C K)  s23 _ _ _ h hP hD hS (lv_sub hl [] rfl)
  · have h := nd_neg h c13
    refine lv_aload_n hx hb dX9_next_170 rfl (lv_at hl 0 rfl) ?_
    refine lv_aload_n hx hb dX9_next_171 rfl (lv_at hl 0 rfl) ?_
    refine va_get (D := (dC, dI)) (ci := 10) (v := .int (sI s0 0)) (C := RX9) (T := TX9) (N := 20) hx hb hts hi_dm_X9_next_X9 hown hK hP 0 rfl rfl 1 (by decide) (hts (.fieldLink RX9 55 "TimeMachine$Reader" "at" "I") (List.mem_of_getElem? (i := 1) rfl)) (fun _ h9 => h9) rfl dX9_next_172 ?_
    refine lv_aload_n hx hb dX9_next_175 rfl (lv_at hl 0 rfl) ?_
    refine va_get (D := (dC, dI)) (ci := 10) (v := .int (sI s0 3)) (C := RX9) (T := TX9) (N := 20) hx hb hts hi_dm_X9_next_X9 hown hK hP 0 rfl rfl 4 (by decide) (hts (.fieldLink RX9 70 "TimeMachine$Reader" "from" "I") (List.mem_of_getElem? (i := 3) rfl)) (fun _ h9 => h9) rfl dX9_next_176 ?_
    refine lv_isub hx hb dX9_next_179 ?_
    refine lv_bipush (v := 31) hx hb dX9_next_180 (by decide) ?_
    refine lv_icmp_gt (tgt := 189) hx hb dX9_next_182 (by decide) (fun c25 => ?_) (fun c25 => ?_)
    · have h := nd_pos h c25
      refine lv_bipush (v := 6) hx hb dX9_next_189 (by decide) ?_
      exact (db_X9_next_191 C K) (6) s0 _ _ _ h hP hD hS (lv_sub hl [] rfl)
    · have h := nd_neg h c25
      refine lv_iconst (v := 1) hx hb dX9_next_185 (by decide) ?_
      refine lv_goto (tgt := 191) hx hb dX9_next_186 (by decide) ?_
      exact (db_X9_next_191 C K) (1) s0 _ _ _ h hP hD hS (lv_sub hl [] rfl)
set_option maxHeartbeats 40000000 in
set_option maxRecDepth 100000 in
theorem db_X9_next_140 {p : Program} {l : Launch} {e : Env} {s : State} {m : MethodId} {args : Array Value} {below : List Frame} {meth : Method} {c : Code} {Q : State → Prop} {A : Nat → Prop} {dC : Nat → ClassId} {dI : Nat → Nat → Nat} {a : Nat → Nat} {ac : Nat → ClassId} {n : Nat} {r : St} (C : nd_C p l s m args c A (dC, dI) cX9_next 2 RX9 ow_dm_X9_next (dk_X9 ac)) (K : nd_Kv p l e (headSpec ow_dm_X9_next ({ frames := 5, cells := 0, slots := 0, locals := 112 })).room s m args below meth c Q A (dC, dI) cX9_next (St) (dw_X9 a ac) r) : dj_X9_next_140 p l e s m args below meth c Q A dC dI a ac (df_X9_next_140 n) r := by
  obtain ⟨hlt, hx, hb, hml, hown, hts, hN, hA, hK⟩ := id C
  intro x1 s0 H locs ls h hP hD hS hl
  unfold df_X9_next_140 at h
  refine lv_iload_n hx hb dX9_next_140 rfl (lv_at hl 1 rfl) ?_
  refine lv_bipush (v := 48) hx hb dX9_next_141 (by decide) ?_
  refine lv_icmp_lt (tgt := 159) hx hb dX9_next_143 (by decide) (fun c12 => ?_) (fun c12 => ?_)
  · have h := nd_pos h c12
    exact (db_X9_next_159 C K) (x1) s0 _ _ _ h hP hD hS (lv_sub hl [0, 1] rfl)
  · have h := nd_neg h c12
    refine lv_iload_n hx hb dX9_next_146 rfl (lv_at hl 1 rfl) ?_
    refine lv_bipush (v := 57) hx hb dX9_next_147 (by decide) ?_
    refine lv_icmp_gt (tgt := 159) hx hb dX9_next_149 (by decide) (fun c27 => ?_) (fun c27 => ?_)
    · have h := nd_pos h c27
      exact (db_X9_next_159 C K) (x1) s0 _ _ _ h hP hD hS (lv_sub hl [0, 1] rfl)
    · have h := nd_neg h c27
      refine lv_aload_n hx hb dX9_next_152 rfl (lv_at hl 0 rfl) ?_
      obtain ⟨s29, hq, h⟩ := nd_b1_e h
      have hPc := hP
      have hDc := hD
      have hKc := hK
      have hFc := nd_rs hD hS hA
      refine nd_cVv (As := []) (rest := []) (w' := dw_X9 a ac s29) ⟨hx, hb, hml, hown, hts⟩ (fun sz => dm_X9_readNumber l hlt dC dI a ac n  s0 hq sz) (cwV 0 hts gi_dm_X9_next_3 rfl rfl rfl (by decide +kernel) ⟨Nat.le_of_ble_eq_true rfl, Nat.le_of_ble_eq_true rfl⟩) hPc hDc hKc hS hA hN (va_recv hKc hPc (ci := 10) (q0 := 0) rfl rfl) rfl hl.1 rfl (Nat.le_of_ble_eq_true rfl) dX9_next_153 (fun H locs hP1 hD1 hk1 hS => ?_)
      have hP := hP1
      have hD := hD1.weaken (fun k q _ h => hFc q.1 h)
      refine lv_goto (tgt := 228) hx hb dX9_next_156 (by decide) ?_
      exact (db_X9_next_228 C K)  s29 _ _ _ h hP hD hS (lv_sub hl [] rfl)
set_option maxHeartbeats 40000000 in
set_option maxRecDepth 100000 in
theorem dB_X9_next_101 {p : Program} {l : Launch} {e : Env} {s : State} {m : MethodId} {args : Array Value} {below : List Frame} {meth : Method} {c : Code} {Q : State → Prop} {A : Nat → Prop} {dC : Nat → ClassId} {dI : Nat → Nat → Nat} {a : Nat → Nat} {ac : Nat → ClassId} {n : Nat} {r : St} (C : nd_C p l s m args c A (dC, dI) cX9_next 2 RX9 ow_dm_X9_next (dk_X9 ac)) (K : nd_Kv p l e (headSpec ow_dm_X9_next ({ frames := 5, cells := 0, slots := 0, locals := 112 })).room s m args below meth c Q A (dC, dI) cX9_next (St) (dw_X9 a ac) r) {g101 : Int32 → (St) → Option (St)} (J101 : dj_X9_next_101 p l e s m args below meth c Q A dC dI a ac g101 r) : dj_X9_next_101 p l e s m args below meth c Q A dC dI a ac (dF_X9_next_101 n g101) r := by
  obtain ⟨hlt, hx, hb, hml, hown, hts, hN, hA, hK⟩ := id C
  intro x1 s0 H locs ls h hP hD hS hl
  unfold dF_X9_next_101 at h
  refine lv_aload_n hx hb dX9_next_101 rfl (lv_at hl 0 rfl) ?_
  refine va_get (D := (dC, dI)) (ci := 10) (v := .int (sI s0 0)) (C := RX9) (T := TX9) (N := 20) hx hb hts hi_dm_X9_next_X9 hown hK hP 0 rfl rfl 1 (by decide) (hts (.fieldLink RX9 55 "TimeMachine$Reader" "at" "I") (List.mem_of_getElem? (i := 1) rfl)) (fun _ h9 => h9) rfl dX9_next_102 ?_
  refine lv_aload_n hx hb dX9_next_105 rfl (lv_at hl 0 rfl) ?_
  refine va_get (D := (dC, dI)) (ci := 10) (v := .int (sI s0 1)) (C := RX9) (T := TX9) (N := 20) hx hb hts hi_dm_X9_next_X9 hown hK hP 0 rfl rfl 2 (by decide) (hts (.fieldLink RX9 64 "TimeMachine$Reader" "stop" "I") (List.mem_of_getElem? (i := 2) rfl)) (fun _ h9 => h9) rfl dX9_next_106 ?_
  refine lv_icmp_ge (tgt := 140) hx hb dX9_next_109 (by decide) (fun c11 => ?_) (fun c11 => ?_)
  · have h := nd_pos h c11
    exact (db_X9_next_140 C K) (x1) s0 _ _ _ h hP hD hS (lv_sub hl [0, 1] rfl)
  · have h := nd_neg h c11
    refine lv_aload_n hx hb dX9_next_112 rfl (lv_at hl 0 rfl) ?_
    obtain ⟨o31, h⟩ := nd_o_e h
    refine va_get (D := (dC, dI)) (ci := 10) (v := .ref (a 8)) (C := RX9) (T := TX9) (N := 20) hx hb hts hi_dm_X9_next_X9 hown hK hP 0 rfl rfl 0 (by decide) (hts (.fieldLink RX9 9 "TimeMachine$Reader" "source" "[B") (List.mem_of_getElem? (i := 5) rfl)) (fun _ h9 => h9) (congrArg (fun z => some (va_rf (Option.map a z))) o31) dX9_next_113 ?_
    refine lv_aload_n hx hb dX9_next_116 rfl (lv_at hl 0 rfl) ?_
    refine va_get (D := (dC, dI)) (ci := 10) (v := .int (sI s0 0)) (C := RX9) (T := TX9) (N := 20) hx hb hts hi_dm_X9_next_X9 hown hK hP 0 rfl rfl 1 (by decide) (hts (.fieldLink RX9 55 "TimeMachine$Reader" "at" "I") (List.mem_of_getElem? (i := 1) rfl)) (fun _ h9 => h9) rfl dX9_next_117 ?_
    obtain ⟨i32, h⟩ := nd_ck_e h
    refine va_bald (i := (sI s0 0)) hx hb hK hP 8 7 rfl rfl i32 dX9_next_120 ?_
    obtain ⟨q33, s34, hq, h⟩ := nd_b2_e h
    have hPc : va_P (dC, dI) vwCl (dw_P a ac ()) H := nd_p0
    have hDc : va_D A (dw_P a ac ()) := nd_d0
    have hKc : va_K (dC, dI) vwCl (dk_P ac) s := nd_y0 hK
    have hFc : ∀ q, va_A (dw_P a ac ()) H.size q → A q := nd_r0 hS hA
    refine nd_cSi (As := [.int (sR s0 7 (Int32.toNatClampNeg (sI s0 0)))]) (rest := []) (q := q33) (w' := dw_P a ac s34) ⟨hx, hb, hml, hown, hts⟩ (fun sz => dm_X9_isInName l hlt dC dI a ac n ((sR s0 7 (Int32.toNatClampNeg (sI s0 0)))) () hq sz) (cwS 1 hts gi_dm_X9_next_4 rfl rfl rfl (by decide +kernel) ⟨Nat.le_of_ble_eq_true rfl, Nat.le_of_ble_eq_true rfl⟩) hPc hDc hKc hS hA hN rfl hl.1 rfl (Nat.le_of_ble_eq_true rfl) dX9_next_121 (fun H locs hP1 hD1 hk1 hS => ?_)
    have hP := nd_n0 hP hk1
    refine lv_if_eq (tgt := 140) hx hb dX9_next_124 (by decide) (fun c36 => ?_) (fun c36 => ?_)
    · have h := nd_pos h c36
      exact (db_X9_next_140 C K) (x1) s0 _ _ _ h hP hD hS (lv_sub hl [0, 1] rfl)
    · have h := nd_neg h c36
      refine lv_aload_n hx hb dX9_next_127 rfl (lv_at hl 0 rfl) ?_
      refine lv_dup hx hb dX9_next_128 rfl ?_
      refine va_get (D := (dC, dI)) (ci := 10) (v := .int (sI s0 0)) (C := RX9) (T := TX9) (N := 20) hx hb hts hi_dm_X9_next_X9 hown hK hP 0 rfl rfl 1 (by decide) (hts (.fieldLink RX9 55 "TimeMachine$Reader" "at" "I") (List.mem_of_getElem? (i := 1) rfl)) (fun _ h9 => h9) rfl dX9_next_129 ?_
      refine lv_iconst (v := 1) hx hb dX9_next_132 (by decide) ?_
      refine lv_iadd hx hb dX9_next_133 ?_
      refine va_put (D := (dC, dI)) (ci := 10) (v := .int ((sI s0 0) + 1)) (ty := .int) (C := RX9) (T := TX9) (N := 20) hx hb hts hi_dm_X9_next_X9 tyX9 tyX9_ok nmX9 hown hK hP hD hS 0 rfl rfl 1 (by decide) (hts (.fieldLink RX9 55 "TimeMachine$Reader" "at" "I") (List.mem_of_getElem? (i := 1) rfl)) (fun _ h9 => h9) rfl (by decide +kernel) rfl rfl (Nat.le_of_ble_eq_true rfl) dX9_next_134 (fun H locs hP hD hS => ?_)
      obtain ⟨s37, es37, h⟩ := nd_let_e h
      have hP : va_P (dC, dI) vwCl (dw_X9 a ac s37) H := by rw [es37]; exact hP
      have hD : va_D A (dw_X9 a ac s37) := by rw [es37]; exact hD
      refine lv_goto (tgt := 101) hx hb dX9_next_137 (by decide) ?_
      exact (J101) (x1) s37 _ _ _ h hP hD hS (lv_sub hl [0, 1] rfl)
set_option maxHeartbeats 40000000 in
set_option maxRecDepth 100000 in
theorem db_X9_next_101 {p : Program} {l : Launch} {e : Env} {s : State} {m : MethodId} {args : Array Value} {below : List Frame} {meth : Method} {c : Code} {Q : State → Prop} {A : Nat → Prop} {dC : Nat → ClassId} {dI : Nat → Nat → Nat} {a : Nat → Nat} {ac : Nat → ClassId} {n : Nat} {r : St} (C : nd_C p l s m args c A (dC, dI) cX9_next 2 RX9 ow_dm_X9_next (dk_X9 ac)) (K : nd_Kv p l e (headSpec ow_dm_X9_next ({ frames := 5, cells := 0, slots := 0, locals := 112 })).room s m args below meth c Q A (dC, dI) cX9_next (St) (dw_X9 a ac) r) (k : Nat) : dj_X9_next_101 p l e s m args below meth c Q A dC dI a ac (df_X9_next_101 n k) r := by
  induction k with
  | zero => intro x1 s0 H locs ls h; exact nomatch (show (none : Option (St)) = some r from h)
  | succ k ih => exact dB_X9_next_101 C K ih
set_option maxHeartbeats 40000000 in
set_option maxRecDepth 100000 in
theorem db_X9_next_52 {p : Program} {l : Launch} {e : Env} {s : State} {m : MethodId} {args : Array Value} {below : List Frame} {meth : Method} {c : Code} {Q : State → Prop} {A : Nat → Prop} {dC : Nat → ClassId} {dI : Nat → Nat → Nat} {a : Nat → Nat} {ac : Nat → ClassId} {n : Nat} {r : St} (C : nd_C p l s m args c A (dC, dI) cX9_next 2 RX9 ow_dm_X9_next (dk_X9 ac)) (K : nd_Kv p l e (headSpec ow_dm_X9_next ({ frames := 5, cells := 0, slots := 0, locals := 112 })).room s m args below meth c Q A (dC, dI) cX9_next (St) (dw_X9 a ac) r) : dj_X9_next_52 p l e s m args below meth c Q A dC dI a ac (df_X9_next_52 n) r := by
  obtain ⟨hlt, hx, hb, hml, hown, hts, hN, hA, hK⟩ := id C
  intro s0 H locs ls h hP hD hS hl
  unfold df_X9_next_52 at h
  refine lv_aload_n hx hb dX9_next_52 rfl (lv_at hl 0 rfl) ?_
  refine lv_aload_n hx hb dX9_next_53 rfl (lv_at hl 0 rfl) ?_
  refine va_get (D := (dC, dI)) (ci := 10) (v := .int (sI s0 0)) (C := RX9) (T := TX9) (N := 20) hx hb hts hi_dm_X9_next_X9 hown hK hP 0 rfl rfl 1 (by decide) (hts (.fieldLink RX9 55 "TimeMachine$Reader" "at" "I") (List.mem_of_getElem? (i := 1) rfl)) (fun _ h9 => h9) rfl dX9_next_54 ?_
  refine va_put (D := (dC, dI)) (ci := 10) (v := .int (sI s0 0)) (ty := .int) (C := RX9) (T := TX9) (N := 20) hx hb hts hi_dm_X9_next_X9 tyX9 tyX9_ok nmX9 hown hK hP hD hS 0 rfl rfl 4 (by decide) (hts (.fieldLink RX9 70 "TimeMachine$Reader" "from" "I") (List.mem_of_getElem? (i := 3) rfl)) (fun _ h9 => h9) rfl (by decide +kernel) rfl rfl (Nat.le_of_ble_eq_true rfl) dX9_next_57 (fun H locs hP hD hS => ?_)
  obtain ⟨s2, es2, h⟩ := nd_let_e h
  have hP : va_P (dC, dI) vwCl (dw_X9 a ac s2) H := by rw [es2]; exact hP
  have hD : va_D A (dw_X9 a ac s2) := by rw [es2]; exact hD
  refine lv_aload_n hx hb dX9_next_60 rfl (lv_at hl 0 rfl) ?_
  refine va_get (D := (dC, dI)) (ci := 10) (v := .int (sI s2 0)) (C := RX9) (T := TX9) (N := 20) hx hb hts hi_dm_X9_next_X9 hown hK hP 0 rfl rfl 1 (by decide) (hts (.fieldLink RX9 55 "TimeMachine$Reader" "at" "I") (List.mem_of_getElem? (i := 1) rfl)) (fun _ h9 => h9) rfl dX9_next_61 ?_
  refine lv_aload_n hx hb dX9_next_64 rfl (lv_at hl 0 rfl) ?_
  refine va_get (D := (dC, dI)) (ci := 10) (v := .int (sI s2 1)) (C := RX9) (T := TX9) (N := 20) hx hb hts hi_dm_X9_next_X9 hown hK hP 0 rfl rfl 2 (by decide) (hts (.fieldLink RX9 64 "TimeMachine$Reader" "stop" "I") (List.mem_of_getElem? (i := 2) rfl)) (fun _ h9 => h9) rfl dX9_next_65 ?_
  refine lv_icmp_ge (tgt := 85) hx hb dX9_next_68 (by decide) (fun c3 => ?_) (fun c3 => ?_)
  · have h := nd_pos h c3
    exact (db_X9_next_85 C K)  s2 _ _ _ h hP hD hS (lv_sub hl [0] rfl)
  · have h := nd_neg h c3
    refine lv_aload_n hx hb dX9_next_71 rfl (lv_at hl 0 rfl) ?_
    obtain ⟨o5, h⟩ := nd_o_e h
    refine va_get (D := (dC, dI)) (ci := 10) (v := .ref (a 8)) (C := RX9) (T := TX9) (N := 20) hx hb hts hi_dm_X9_next_X9 hown hK hP 0 rfl rfl 0 (by decide) (hts (.fieldLink RX9 9 "TimeMachine$Reader" "source" "[B") (List.mem_of_getElem? (i := 5) rfl)) (fun _ h9 => h9) (congrArg (fun z => some (va_rf (Option.map a z))) o5) dX9_next_72 ?_
    refine lv_aload_n hx hb dX9_next_75 rfl (lv_at hl 0 rfl) ?_
    refine va_get (D := (dC, dI)) (ci := 10) (v := .int (sI s2 0)) (C := RX9) (T := TX9) (N := 20) hx hb hts hi_dm_X9_next_X9 hown hK hP 0 rfl rfl 1 (by decide) (hts (.fieldLink RX9 55 "TimeMachine$Reader" "at" "I") (List.mem_of_getElem? (i := 1) rfl)) (fun _ h9 => h9) rfl dX9_next_76 ?_
    obtain ⟨i6, h⟩ := nd_ck_e h
    refine va_bald (i := (sI s2 0)) hx hb hK hP 8 7 rfl rfl i6 dX9_next_79 ?_
    refine lv_bipush (v := 35) hx hb dX9_next_80 (by decide) ?_
    refine lv_icmp_ne (tgt := 91) hx hb dX9_next_82 (by decide) (fun c7 => ?_) (fun c7 => ?_)
    · have h := nd_neg h c7
      refine lv_aload_n hx hb dX9_next_91 rfl (lv_at hl 0 rfl) ?_
      obtain ⟨o8, h⟩ := nd_o_e h
      refine va_get (D := (dC, dI)) (ci := 10) (v := .ref (a 8)) (C := RX9) (T := TX9) (N := 20) hx hb hts hi_dm_X9_next_X9 hown hK hP 0 rfl rfl 0 (by decide) (hts (.fieldLink RX9 9 "TimeMachine$Reader" "source" "[B") (List.mem_of_getElem? (i := 5) rfl)) (fun _ h9 => h9) (congrArg (fun z => some (va_rf (Option.map a z))) o8) dX9_next_92 ?_
      refine lv_aload_n hx hb dX9_next_95 rfl (lv_at hl 0 rfl) ?_
      refine va_get (D := (dC, dI)) (ci := 10) (v := .int (sI s2 0)) (C := RX9) (T := TX9) (N := 20) hx hb hts hi_dm_X9_next_X9 hown hK hP 0 rfl rfl 1 (by decide) (hts (.fieldLink RX9 55 "TimeMachine$Reader" "at" "I") (List.mem_of_getElem? (i := 1) rfl)) (fun _ h9 => h9) rfl dX9_next_96 ?_
      obtain ⟨i9, h⟩ := nd_ck_e h
      refine va_bald (i := (sI s2 0)) hx hb hK hP 8 7 rfl rfl i9 dX9_next_99 ?_
      refine lv_topi (fun z10 ez10 => ?_)
      have h := nd_at h ez10
      refine lv_istore_n (lv' := [(1, .int z10), (0, .ref (a 0))]) hx hb dX9_next_100 rfl hl (by decide) rfl (fun ls hl => ?_)
      exact (db_X9_next_101 C K n) (z10) s2 _ _ _ h hP hD hS (lv_sub hl [1, 0] rfl)
    · have h := nd_pos h c7
      exact (db_X9_next_85 C K)  s2 _ _ _ h hP hD hS (lv_sub hl [0] rfl)
set_option maxHeartbeats 40000000 in
set_option maxRecDepth 100000 in
theorem db_X9_next_39 {p : Program} {l : Launch} {e : Env} {s : State} {m : MethodId} {args : Array Value} {below : List Frame} {meth : Method} {c : Code} {Q : State → Prop} {A : Nat → Prop} {dC : Nat → ClassId} {dI : Nat → Nat → Nat} {a : Nat → Nat} {ac : Nat → ClassId} {n : Nat} {r : St} (C : nd_C p l s m args c A (dC, dI) cX9_next 2 RX9 ow_dm_X9_next (dk_X9 ac)) (K : nd_Kv p l e (headSpec ow_dm_X9_next ({ frames := 5, cells := 0, slots := 0, locals := 112 })).room s m args below meth c Q A (dC, dI) cX9_next (St) (dw_X9 a ac) r) {g0 : (St) → Option (St)} (J0 : dj_X9_next_0 p l e s m args below meth c Q A dC dI a ac g0 r) : dj_X9_next_39 p l e s m args below meth c Q A dC dI a ac (df_X9_next_39 n g0) r := by
  obtain ⟨hlt, hx, hb, hml, hown, hts, hN, hA, hK⟩ := id C
  intro s0 H locs ls h hP hD hS hl
  unfold df_X9_next_39 at h
  refine lv_aload_n hx hb dX9_next_39 rfl (lv_at hl 0 rfl) ?_
  refine lv_dup hx hb dX9_next_40 rfl ?_
  refine va_get (D := (dC, dI)) (ci := 10) (v := .int (sI s0 0)) (C := RX9) (T := TX9) (N := 20) hx hb hts hi_dm_X9_next_X9 hown hK hP 0 rfl rfl 1 (by decide) (hts (.fieldLink RX9 55 "TimeMachine$Reader" "at" "I") (List.mem_of_getElem? (i := 1) rfl)) (fun _ h9 => h9) rfl dX9_next_41 ?_
  refine lv_iconst (v := 1) hx hb dX9_next_44 (by decide) ?_
  refine lv_iadd hx hb dX9_next_45 ?_
  refine va_put (D := (dC, dI)) (ci := 10) (v := .int ((sI s0 0) + 1)) (ty := .int) (C := RX9) (T := TX9) (N := 20) hx hb hts hi_dm_X9_next_X9 tyX9 tyX9_ok nmX9 hown hK hP hD hS 0 rfl rfl 1 (by decide) (hts (.fieldLink RX9 55 "TimeMachine$Reader" "at" "I") (List.mem_of_getElem? (i := 1) rfl)) (fun _ h9 => h9) rfl (by decide +kernel) rfl rfl (Nat.le_of_ble_eq_true rfl) dX9_next_46 (fun H locs hP hD hS => ?_)
  obtain ⟨s41, es41, h⟩ := nd_let_e h
  have hP : va_P (dC, dI) vwCl (dw_X9 a ac s41) H := by rw [es41]; exact hP
  have hD : va_D A (dw_X9 a ac s41) := by rw [es41]; exact hD
  refine lv_goto (tgt := 0) hx hb dX9_next_49 (by decide) ?_
  exact (J0)  s41 _ _ _ h hP hD hS (lv_sub hl [0] rfl)
set_option maxHeartbeats 40000000 in
set_option maxRecDepth 100000 in
theorem dB_X9_next_0 {p : Program} {l : Launch} {e : Env} {s : State} {m : MethodId} {args : Array Value} {below : List Frame} {meth : Method} {c : Code} {Q : State → Prop} {A : Nat → Prop} {dC : Nat → ClassId} {dI : Nat → Nat → Nat} {a : Nat → Nat} {ac : Nat → ClassId} {n : Nat} {r : St} (C : nd_C p l s m args c A (dC, dI) cX9_next 2 RX9 ow_dm_X9_next (dk_X9 ac)) (K : nd_Kv p l e (headSpec ow_dm_X9_next ({ frames := 5, cells := 0, slots := 0, locals := 112 })).room s m args below meth c Q A (dC, dI) cX9_next (St) (dw_X9 a ac) r) {g0 : (St) → Option (St)} (J0 : dj_X9_next_0 p l e s m args below meth c Q A dC dI a ac g0 r) : dj_X9_next_0 p l e s m args below meth c Q A dC dI a ac (dF_X9_next_0 n g0) r := by
  obtain ⟨hlt, hx, hb, hml, hown, hts, hN, hA, hK⟩ := id C
  intro s0 H locs ls h hP hD hS hl
  unfold dF_X9_next_0 at h
  refine lv_aload_n hx hb dX9_next_0 rfl (lv_at hl 0 rfl) ?_
  refine va_get (D := (dC, dI)) (ci := 10) (v := .int (sI s0 0)) (C := RX9) (T := TX9) (N := 20) hx hb hts hi_dm_X9_next_X9 hown hK hP 0 rfl rfl 1 (by decide) (hts (.fieldLink RX9 55 "TimeMachine$Reader" "at" "I") (List.mem_of_getElem? (i := 1) rfl)) (fun _ h9 => h9) rfl dX9_next_1 ?_
  refine lv_aload_n hx hb dX9_next_4 rfl (lv_at hl 0 rfl) ?_
  refine va_get (D := (dC, dI)) (ci := 10) (v := .int (sI s0 1)) (C := RX9) (T := TX9) (N := 20) hx hb hts hi_dm_X9_next_X9 hown hK hP 0 rfl rfl 2 (by decide) (hts (.fieldLink RX9 64 "TimeMachine$Reader" "stop" "I") (List.mem_of_getElem? (i := 2) rfl)) (fun _ h9 => h9) rfl dX9_next_5 ?_
  refine lv_icmp_ge (tgt := 52) hx hb dX9_next_8 (by decide) (fun c1 => ?_) (fun c1 => ?_)
  · have h := nd_pos h c1
    exact (db_X9_next_52 C K)  s0 _ _ _ h hP hD hS (lv_sub hl [0] rfl)
  · have h := nd_neg h c1
    refine lv_aload_n hx hb dX9_next_11 rfl (lv_at hl 0 rfl) ?_
    obtain ⟨o38, h⟩ := nd_o_e h
    refine va_get (D := (dC, dI)) (ci := 10) (v := .ref (a 8)) (C := RX9) (T := TX9) (N := 20) hx hb hts hi_dm_X9_next_X9 hown hK hP 0 rfl rfl 0 (by decide) (hts (.fieldLink RX9 9 "TimeMachine$Reader" "source" "[B") (List.mem_of_getElem? (i := 5) rfl)) (fun _ h9 => h9) (congrArg (fun z => some (va_rf (Option.map a z))) o38) dX9_next_12 ?_
    refine lv_aload_n hx hb dX9_next_15 rfl (lv_at hl 0 rfl) ?_
    refine va_get (D := (dC, dI)) (ci := 10) (v := .int (sI s0 0)) (C := RX9) (T := TX9) (N := 20) hx hb hts hi_dm_X9_next_X9 hown hK hP 0 rfl rfl 1 (by decide) (hts (.fieldLink RX9 55 "TimeMachine$Reader" "at" "I") (List.mem_of_getElem? (i := 1) rfl)) (fun _ h9 => h9) rfl dX9_next_16 ?_
    obtain ⟨i39, h⟩ := nd_ck_e h
    refine va_bald (i := (sI s0 0)) hx hb hK hP 8 7 rfl rfl i39 dX9_next_19 ?_
    refine lv_bipush (v := 32) hx hb dX9_next_20 (by decide) ?_
    refine lv_icmp_eq (tgt := 39) hx hb dX9_next_22 (by decide) (fun c40 => ?_) (fun c40 => ?_)
    · have h := nd_pos h c40
      exact (db_X9_next_39 C K J0)  s0 _ _ _ h hP hD hS (lv_sub hl [0] rfl)
    · have h := nd_neg h c40
      refine lv_aload_n hx hb dX9_next_25 rfl (lv_at hl 0 rfl) ?_
      obtain ⟨o42, h⟩ := nd_o_e h
      refine va_get (D := (dC, dI)) (ci := 10) (v := .ref (a 8)) (C := RX9) (T := TX9) (N := 20) hx hb hts hi_dm_X9_next_X9 hown hK hP 0 rfl rfl 0 (by decide) (hts (.fieldLink RX9 9 "TimeMachine$Reader" "source" "[B") (List.mem_of_getElem? (i := 5) rfl)) (fun _ h9 => h9) (congrArg (fun z => some (va_rf (Option.map a z))) o42) dX9_next_26 ?_
      refine lv_aload_n hx hb dX9_next_29 rfl (lv_at hl 0 rfl) ?_
      refine va_get (D := (dC, dI)) (ci := 10) (v := .int (sI s0 0)) (C := RX9) (T := TX9) (N := 20) hx hb hts hi_dm_X9_next_X9 hown hK hP 0 rfl rfl 1 (by decide) (hts (.fieldLink RX9 55 "TimeMachine$Reader" "at" "I") (List.mem_of_getElem? (i := 1) rfl)) (fun _ h9 => h9) rfl dX9_next_30 ?_
      obtain ⟨i43, h⟩ := nd_ck_e h
      refine va_bald (i := (sI s0 0)) hx hb hK hP 8 7 rfl rfl i43 dX9_next_33 ?_
      refine lv_bipush (v := 9) hx hb dX9_next_34 (by decide) ?_
      refine lv_icmp_ne (tgt := 52) hx hb dX9_next_36 (by decide) (fun c44 => ?_) (fun c44 => ?_)
      · have h := nd_neg h c44
        exact (db_X9_next_52 C K)  s0 _ _ _ h hP hD hS (lv_sub hl [0] rfl)
      · have h := nd_pos h c44
        exact (db_X9_next_39 C K J0)  s0 _ _ _ h hP hD hS (lv_sub hl [0] rfl)
set_option maxHeartbeats 40000000 in
set_option maxRecDepth 100000 in
theorem db_X9_next_0 {p : Program} {l : Launch} {e : Env} {s : State} {m : MethodId} {args : Array Value} {below : List Frame} {meth : Method} {c : Code} {Q : State → Prop} {A : Nat → Prop} {dC : Nat → ClassId} {dI : Nat → Nat → Nat} {a : Nat → Nat} {ac : Nat → ClassId} {n : Nat} {r : St} (C : nd_C p l s m args c A (dC, dI) cX9_next 2 RX9 ow_dm_X9_next (dk_X9 ac)) (K : nd_Kv p l e (headSpec ow_dm_X9_next ({ frames := 5, cells := 0, slots := 0, locals := 112 })).room s m args below meth c Q A (dC, dI) cX9_next (St) (dw_X9 a ac) r) (k : Nat) : dj_X9_next_0 p l e s m args below meth c Q A dC dI a ac (df_X9_next_0 n k) r := by
  induction k with
  | zero => intro s0 H locs ls h; exact nomatch (show (none : Option (St)) = some r from h)
  | succ k ih => exact dB_X9_next_0 C K ih
set_option maxHeartbeats 40000000 in
set_option maxRecDepth 100000 in
theorem dm_X9_next (l : Launch) (hlt : l.stackTraces = false) (dC : Nat → ClassId) (dI : Nat → Nat → Nat) (a : Nat → Nat) (ac : Nat → ClassId) (n : Nat) (s0 : St) {r : St} (h : df_X9_next n s0 = some r) (sz : Nat) : Met l yX9_next ow_dm_X9_next ({ frames := 5, cells := 0, slots := 0, locals := 112 }) (va_Pc [.ref (a 0)] (fun U => U.heap.size = sz ∧ va_P (dC, dI) vwCl (dw_X9 a ac s0) U.heap ∧ va_K (dC, dI) vwCl (dk_X9 ac) U ∧ va_D (fun _ => True) (dw_X9 a ac s0) ∧ nv_E dI (va_A (dw_X9 a ac s0) sz) U)) (va_Qv (fun _ => True) (fun (_ : Unit) t => va_P (dC, dI) vwCl (dw_X9 a ac r) t.heap ∧ va_K (dC, dI) vwCl (dk_X9 ac) t ∧ va_D (va_A (dw_X9 a ac s0) sz) (dw_X9 a ac r)) (va_A (dw_X9 a ac s0) sz)) 0 0 (va_A (dw_X9 a ac s0) sz) := by
  refine Met.ofW (cc := cX9_next) (maxL := 2) (ret := none) (by decide) rfl ?_
  intro p e s m args below meth c s₁ B hml hv
  obtain ⟨rfl, hsz, hP, hK, hD0, hN⟩ := hv
  have hx := B.exec
  have hb := B.bytes
  have hr := B.returns
  have hts := atoms_spec (ws := ow_dm_X9_next) B.pre
  have hown : s.vm.findClass RX9 = some m.cls := findClass_of_methodNamed B.named
  have hlocks := B.notSynchronized
  subst hsz
  have hD := hD0.self (sz := s.heap.size)
  generalize hAe : va_A (dw_X9 a ac s0) s.heap.size = A at hD hN ⊢
  have hA : ∀ q : Nat, s.heap.size ≤ q → A q := fun q h => by rw [← hAe]; exact Or.inr h
  have hl := lv_entry ([.ref (a 0)]) (n := 2) (Nat.le_of_ble_eq_true rfl)
  rw [lg_entry_eq]
  generalize (lg_sl ([.ref (a 0)]) ++ List.replicate (2 - (lg_sl ([.ref (a 0)])).length) Slot.unset).toArray = ls at hl ⊢
  have hl : lv_has ls 2 [(0, .ref (a 0))] := hl
  exact db_X9_next_0 (dC := dC) (dI := dI) (a := a) (ac := ac) (n := n) (r := r) ⟨hlt, hx, hb, hml, hown, hts, hN, hA, hK⟩ (fun pc τ H locs ls d er hP hD hS => by subst er; exact W.vret hx hb hr (fun t ht hW => ⟨⟨(), rfl, trivial, by rw [ht]; exact hP, va_K.moved hW.alike hK, hD⟩, hS.F ht⟩) hS.2.2 d) n s0 _ _ _ h hP hD va_S.rf (lv_sub hl [0] rfl)
def ow_dm_X9_startLine : List Cond := Cond.code yX9_startLine cX9_startLine 3 none :: ([Cond.fieldLink RX9 55 "TimeMachine$Reader" "at" "I", Cond.fieldLink RX9 9 "TimeMachine$Reader" "source" "[B", Cond.methodLink RX9 58 Lib.Math.min.name, Cond.static Lib.Math.min.name, Cond.initialized "java/lang/Math", Cond.code Lib.Math.min.name Lib.Math.min.code 2 (some .int), Cond.fieldLink RX9 64 "TimeMachine$Reader" "stop" "I", Cond.methodLink RX9 67 yX9_next, Cond.instanceMethod yX9_next, Cond.selects RX9 yX9_next yX9_next, Cond.initialized RX9] ++ (u_ws RX9 TX9 20 ++ (ow_dm_X9_next ++ [])))
theorem gd_dm_X9_startLine : ∀ w ∈ ow_dm_X9_startLine, (w.onTables && w.keeps) = true ∨ ∃ ty, w = Cond.arrayClass ty := List.forall_mem_cons.mpr ⟨good_of_word rfl, List.forall_mem_append.mpr ⟨fun w h => good_of_word (List.all_eq_true.mp (by decide +kernel) w h), List.forall_mem_append.mpr ⟨gu_X9, List.forall_mem_append.mpr ⟨gd_dm_X9_next, fun _ h => nomatch h⟩⟩⟩⟩
theorem hi_dm_X9_startLine_X9 : ∀ w ∈ u_ws RX9 TX9 20, w ∈ ow_dm_X9_startLine := fun w h => List.mem_cons_of_mem _ (List.mem_append_right _ (List.mem_append_left _ h))
theorem gi_dm_X9_startLine_0 : GoodIn ow_dm_X9_startLine (wsV RX9 67 RX9 yX9_next ow_dm_X9_next) := goodIn_app (goodIn_of _ (by decide +kernel)) (fun w h => ⟨List.mem_cons_of_mem _ (List.mem_append_right _ (List.mem_append_right _ (List.mem_append_left _ h))), gd_dm_X9_next w h⟩)
def dj_X9_startLine_0 (p : Program) (l : Launch) (e : Env) (s : State) (m : MethodId) (args : Array Value) (below : List Frame) (meth : Method) (c : Code) (Q : State → Prop) (A : Nat → Prop) (dC : Nat → ClassId) (dI : Nat → Nat → Nat) (a : Nat → Nat) (ac : Nat → ClassId) (g : Int32 → Int32 → (St) → Option (St)) (r : St) : Prop := ∀ (v0 : Int32) (v1 : Int32) (s0 : St) (H : Heap) (locs : List Loc) (ls : Array Slot), g v0 v1 s0 = some r → va_P (dC, dI) vwCl (dw_X9 a ac s0) H → va_D A (dw_X9 a ac s0) → va_S A s.heap H locs → lv_has ls 3 [(0, .ref (a 0)), (1, .int v0), (2, .int v1)] → W p l e (headSpec ow_dm_X9_startLine ({ frames := 6, cells := 0, slots := 0, locals := 133 })).room s m args below meth c H locs 0 0 Q (F0 m 0 ls [])
set_option maxHeartbeats 40000000 in
set_option maxRecDepth 100000 in
theorem db_X9_startLine_0 {p : Program} {l : Launch} {e : Env} {s : State} {m : MethodId} {args : Array Value} {below : List Frame} {meth : Method} {c : Code} {Q : State → Prop} {A : Nat → Prop} {dC : Nat → ClassId} {dI : Nat → Nat → Nat} {a : Nat → Nat} {ac : Nat → ClassId} {n : Nat} {r : St} (C : nd_C p l s m args c A (dC, dI) cX9_startLine 3 RX9 ow_dm_X9_startLine (dk_X9 ac)) (K : nd_Kv p l e (headSpec ow_dm_X9_startLine ({ frames := 6, cells := 0, slots := 0, locals := 133 })).room s m args below meth c Q A (dC, dI) cX9_startLine (St) (dw_X9 a ac) r) : dj_X9_startLine_0 p l e s m args below meth c Q A dC dI a ac (df_X9_startLine_0 n) r := by
  obtain ⟨hlt, hx, hb, hml, hown, hts, hN, hA, hK⟩ := id C
  intro v0 v1 s0 H locs ls h hP hD hS hl
  unfold df_X9_startLine_0 at h
  refine lv_aload_n hx hb dX9_startLine_0 rfl (lv_at hl 0 rfl) ?_
  refine lv_iload_n hx hb dX9_startLine_1 rfl (lv_at hl 1 rfl) ?_
  refine va_put (D := (dC, dI)) (ci := 10) (v := .int v0) (ty := .int) (C := RX9) (T := TX9) (N := 20) hx hb hts hi_dm_X9_startLine_X9 tyX9 tyX9_ok nmX9 hown hK hP hD hS 0 rfl rfl 1 (by decide) (hts (.fieldLink RX9 55 "TimeMachine$Reader" "at" "I") (List.mem_of_getElem? (i := 1) rfl)) (fun _ h9 => h9) rfl (by decide +kernel) rfl rfl (Nat.le_of_ble_eq_true rfl) dX9_startLine_2 (fun H locs hP hD hS => ?_)
  obtain ⟨s1, es1, h⟩ := nd_let_e h
  have hP : va_P (dC, dI) vwCl (dw_X9 a ac s1) H := by rw [es1]; exact hP
  have hD : va_D A (dw_X9 a ac s1) := by rw [es1]; exact hD
  refine lv_aload_n hx hb dX9_startLine_5 rfl (lv_at hl 0 rfl) ?_
  refine lv_iload_n hx hb dX9_startLine_6 rfl (lv_at hl 2 rfl) ?_
  refine lv_aload_n hx hb dX9_startLine_7 rfl (lv_at hl 0 rfl) ?_
  obtain ⟨o2, h⟩ := nd_o_e h
  refine va_get (D := (dC, dI)) (ci := 10) (v := .ref (a 8)) (C := RX9) (T := TX9) (N := 20) hx hb hts hi_dm_X9_startLine_X9 hown hK hP 0 rfl rfl 0 (by decide) (hts (.fieldLink RX9 9 "TimeMachine$Reader" "source" "[B") (List.mem_of_getElem? (i := 2) rfl)) (fun _ h9 => h9) (congrArg (fun z => some (va_rf (Option.map a z))) o2) dX9_startLine_8 ?_
  refine va_alen (v := 32768) hx hb hK hP 8 7 rfl rfl (show Int32.ofNat 32768 = 32768 by decide) dX9_startLine_11 ?_
  refine va_mmin hx hb (by rw [hml]; exact hl.1.symm) hown (hts (.methodLink RX9 58 Lib.Math.min.name) (List.mem_of_getElem? (i := 3) rfl)) (hts (.static Lib.Math.min.name) (List.mem_of_getElem? (i := 4) rfl)) (hts (.initialized "java/lang/Math") (List.mem_of_getElem? (i := 5) rfl)) (hts (.code Lib.Math.min.name Lib.Math.min.code 2 (some .int)) (List.mem_of_getElem? (i := 6) rfl)) (Nat.le_of_ble_eq_true rfl) (Nat.le_of_ble_eq_true rfl) (by decide +kernel) (by decide +kernel) dX9_startLine_12 ?_
  refine va_put (D := (dC, dI)) (ci := 10) (v := .int (if (32768 : Int32) < v1 then 32768 else v1)) (ty := .int) (C := RX9) (T := TX9) (N := 20) hx hb hts hi_dm_X9_startLine_X9 tyX9 tyX9_ok nmX9 hown hK hP hD hS 0 rfl rfl 2 (by decide) (hts (.fieldLink RX9 64 "TimeMachine$Reader" "stop" "I") (List.mem_of_getElem? (i := 7) rfl)) (fun _ h9 => h9) rfl (by decide +kernel) rfl rfl (Nat.le_of_ble_eq_true rfl) dX9_startLine_15 (fun H locs hP hD hS => ?_)
  obtain ⟨s3, es3, h⟩ := nd_let_e h
  have hP : va_P (dC, dI) vwCl (dw_X9 a ac s3) H := by rw [es3]; exact hP
  have hD : va_D A (dw_X9 a ac s3) := by rw [es3]; exact hD
  refine lv_aload_n hx hb dX9_startLine_18 rfl (lv_at hl 0 rfl) ?_
  obtain ⟨s5, hq, h⟩ := nd_b1_e h
  have hPc := hP
  have hDc := hD
  have hKc := hK
  have hFc := nd_rs hD hS hA
  refine nd_cVv (As := []) (rest := []) (w' := dw_X9 a ac s5) ⟨hx, hb, hml, hown, hts⟩ (fun sz => dm_X9_next l hlt dC dI a ac n  s3 hq sz) (cwV 0 hts gi_dm_X9_startLine_0 rfl rfl rfl (by decide +kernel) ⟨Nat.le_of_ble_eq_true rfl, Nat.le_of_ble_eq_true rfl⟩) hPc hDc hKc hS hA hN (va_recv hKc hPc (ci := 10) (q0 := 0) rfl rfl) rfl hl.1 rfl (Nat.le_of_ble_eq_true rfl) dX9_startLine_19 (fun H locs hP1 hD1 hk1 hS => ?_)
  have hP := hP1
  have hD := hD1.weaken (fun k q _ h => hFc q.1 h)
  exact K _ _ _ _ _ dX9_startLine_22 (Option.some.inj h).symm hP hD hS
set_option maxHeartbeats 40000000 in
set_option maxRecDepth 100000 in
theorem dm_X9_startLine (l : Launch) (hlt : l.stackTraces = false) (dC : Nat → ClassId) (dI : Nat → Nat → Nat) (a : Nat → Nat) (ac : Nat → ClassId) (n : Nat) (v0 : Int32) (v1 : Int32) (s0 : St) {r : St} (h : df_X9_startLine n v0 v1 s0 = some r) (sz : Nat) : Met l yX9_startLine ow_dm_X9_startLine ({ frames := 6, cells := 0, slots := 0, locals := 133 }) (va_Pc [.ref (a 0), .int v0, .int v1] (fun U => U.heap.size = sz ∧ va_P (dC, dI) vwCl (dw_X9 a ac s0) U.heap ∧ va_K (dC, dI) vwCl (dk_X9 ac) U ∧ va_D (fun _ => True) (dw_X9 a ac s0) ∧ nv_E dI (va_A (dw_X9 a ac s0) sz) U)) (va_Qv (fun _ => True) (fun (_ : Unit) t => va_P (dC, dI) vwCl (dw_X9 a ac r) t.heap ∧ va_K (dC, dI) vwCl (dk_X9 ac) t ∧ va_D (va_A (dw_X9 a ac s0) sz) (dw_X9 a ac r)) (va_A (dw_X9 a ac s0) sz)) 0 0 (va_A (dw_X9 a ac s0) sz) := by
  refine Met.ofW (cc := cX9_startLine) (maxL := 3) (ret := none) (by decide) rfl ?_
  intro p e s m args below meth c s₁ B hml hv
  obtain ⟨rfl, hsz, hP, hK, hD0, hN⟩ := hv
  have hx := B.exec
  have hb := B.bytes
  have hr := B.returns
  have hts := atoms_spec (ws := ow_dm_X9_startLine) B.pre
  have hown : s.vm.findClass RX9 = some m.cls := findClass_of_methodNamed B.named
  have hlocks := B.notSynchronized
  subst hsz
  have hD := hD0.self (sz := s.heap.size)
  generalize hAe : va_A (dw_X9 a ac s0) s.heap.size = A at hD hN ⊢
  have hA : ∀ q : Nat, s.heap.size ≤ q → A q := fun q h => by rw [← hAe]; exact Or.inr h
  have hl := lv_entry ([.ref (a 0), .int v0, .int v1]) (n := 3) (Nat.le_of_ble_eq_true rfl)
  rw [lg_entry_eq]
  generalize (lg_sl ([.ref (a 0), .int v0, .int v1]) ++ List.replicate (3 - (lg_sl ([.ref (a 0), .int v0, .int v1])).length) Slot.unset).toArray = ls at hl ⊢
  have hl : lv_has ls 3 [(0, .ref (a 0)), (1, .int v0), (2, .int v1)] := hl
  exact db_X9_startLine_0 (dC := dC) (dI := dI) (a := a) (ac := ac) (n := n) (r := r) ⟨hlt, hx, hb, hml, hown, hts, hN, hA, hK⟩ (fun pc τ H locs ls d er hP hD hS => by subst er; exact W.vret hx hb hr (fun t ht hW => ⟨⟨(), rfl, trivial, by rw [ht]; exact hP, va_K.moved hW.alike hK, hD⟩, hS.F ht⟩) hS.2.2 d) v0 v1 s0 _ _ _ h hP hD va_S.rf (lv_sub hl [0, 1, 2] rfl)
def ow_dm_X9_isSign : List Cond := Cond.code yX9_isSign cX9_isSign 2 (some .boolean) :: ([Cond.fieldLink RX9 73 "TimeMachine$Reader" "kind" "I", Cond.fieldLink RX9 93 "TimeMachine$Reader" "number" "I"] ++ (u_ws RX9 TX9 20 ++ []))
theorem gd_dm_X9_isSign : ∀ w ∈ ow_dm_X9_isSign, (w.onTables && w.keeps) = true ∨ ∃ ty, w = Cond.arrayClass ty := List.forall_mem_cons.mpr ⟨good_of_word rfl, List.forall_mem_append.mpr ⟨fun w h => good_of_word (List.all_eq_true.mp (by decide +kernel) w h), List.forall_mem_append.mpr ⟨gu_X9, fun _ h => nomatch h⟩⟩⟩
theorem hi_dm_X9_isSign_X9 : ∀ w ∈ u_ws RX9 TX9 20, w ∈ ow_dm_X9_isSign := fun w h => List.mem_cons_of_mem _ (List.mem_append_right _ (List.mem_append_left _ h))
def dj_X9_isSign_21 (p : Program) (l : Launch) (e : Env) (s : State) (m : MethodId) (args : Array Value) (below : List Frame) (meth : Method) (c : Code) (Q : State → Prop) (A : Nat → Prop) (dC : Nat → ClassId) (dI : Nat → Nat → Nat) (a : Nat → Nat) (ac : Nat → ClassId) (g : Int32 → (St) → Option (Int32 × (St))) (r : Int32 × (St)) : Prop := ∀ (y0 : Int32) (s0 : St) (H : Heap) (locs : List Loc) (ls : Array Slot), g y0 s0 = some r → va_P (dC, dI) vwCl (dw_X9 a ac s0) H → va_D A (dw_X9 a ac s0) → va_S A s.heap H locs → lv_has ls 2 [] → W p l e (headSpec ow_dm_X9_isSign ({ frames := 0, cells := 0, slots := 0, locals := 0 })).room s m args below meth c H locs 0 0 Q (F0 m 21 ls [.int y0])
def dj_X9_isSign_20 (p : Program) (l : Launch) (e : Env) (s : State) (m : MethodId) (args : Array Value) (below : List Frame) (meth : Method) (c : Code) (Q : State → Prop) (A : Nat → Prop) (dC : Nat → ClassId) (dI : Nat → Nat → Nat) (a : Nat → Nat) (ac : Nat → ClassId) (g : (St) → Option (Int32 × (St))) (r : Int32 × (St)) : Prop := ∀ (s0 : St) (H : Heap) (locs : List Loc) (ls : Array Slot), g s0 = some r → va_P (dC, dI) vwCl (dw_X9 a ac s0) H → va_D A (dw_X9 a ac s0) → va_S A s.heap H locs → lv_has ls 2 [] → W p l e (headSpec ow_dm_X9_isSign ({ frames := 0, cells := 0, slots := 0, locals := 0 })).room s m args below meth c H locs 0 0 Q (F0 m 20 ls [])
def dj_X9_isSign_0 (p : Program) (l : Launch) (e : Env) (s : State) (m : MethodId) (args : Array Value) (below : List Frame) (meth : Method) (c : Code) (Q : State → Prop) (A : Nat → Prop) (dC : Nat → ClassId) (dI : Nat → Nat → Nat) (a : Nat → Nat) (ac : Nat → ClassId) (g : Int32 → (St) → Option (Int32 × (St))) (r : Int32 × (St)) : Prop := ∀ (v0 : Int32) (s0 : St) (H : Heap) (locs : List Loc) (ls : Array Slot), g v0 s0 = some r → va_P (dC, dI) vwCl (dw_X9 a ac s0) H → va_D A (dw_X9 a ac s0) → va_S A s.heap H locs → lv_has ls 2 [(0, .ref (a 0)), (1, .int v0)] → W p l e (headSpec ow_dm_X9_isSign ({ frames := 0, cells := 0, slots := 0, locals := 0 })).room s m args below meth c H locs 0 0 Q (F0 m 0 ls [])
set_option maxHeartbeats 40000000 in
set_option maxRecDepth 100000 in
theorem db_X9_isSign_21 {p : Program} {l : Launch} {e : Env} {s : State} {m : MethodId} {args : Array Value} {below : List Frame} {meth : Method} {c : Code} {Q : State → Prop} {A : Nat → Prop} {dC : Nat → ClassId} {dI : Nat → Nat → Nat} {a : Nat → Nat} {ac : Nat → ClassId} {n : Nat} {r : Int32 × (St)} (C : nd_C p l s m args c A (dC, dI) cX9_isSign 2 RX9 ow_dm_X9_isSign (dk_X9 ac)) (K : nd_Ki p l e (headSpec ow_dm_X9_isSign ({ frames := 0, cells := 0, slots := 0, locals := 0 })).room s m args below meth c Q A (dC, dI) cX9_isSign .boolean (St) (dw_X9 a ac) r) : dj_X9_isSign_21 p l e s m args below meth c Q A dC dI a ac (df_X9_isSign_21 n) r := by
  obtain ⟨hlt, hx, hb, hml, hown, hts, hN, hA, hK⟩ := id C
  intro y0 s0 H locs ls h hP hD hS hl
  unfold df_X9_isSign_21 at h
  obtain ⟨n2, h⟩ := nd_z_e ⟨_, rfl⟩ h
  exact K _ _ _ _ _ _ dX9_isSign_21 n2 (Option.some.inj h).symm hP hD hS
set_option maxHeartbeats 40000000 in
set_option maxRecDepth 100000 in
theorem db_X9_isSign_20 {p : Program} {l : Launch} {e : Env} {s : State} {m : MethodId} {args : Array Value} {below : List Frame} {meth : Method} {c : Code} {Q : State → Prop} {A : Nat → Prop} {dC : Nat → ClassId} {dI : Nat → Nat → Nat} {a : Nat → Nat} {ac : Nat → ClassId} {n : Nat} {r : Int32 × (St)} (C : nd_C p l s m args c A (dC, dI) cX9_isSign 2 RX9 ow_dm_X9_isSign (dk_X9 ac)) (K : nd_Ki p l e (headSpec ow_dm_X9_isSign ({ frames := 0, cells := 0, slots := 0, locals := 0 })).room s m args below meth c Q A (dC, dI) cX9_isSign .boolean (St) (dw_X9 a ac) r) : dj_X9_isSign_20 p l e s m args below meth c Q A dC dI a ac (df_X9_isSign_20 n) r := by
  obtain ⟨hlt, hx, hb, hml, hown, hts, hN, hA, hK⟩ := id C
  intro s0 H locs ls h hP hD hS hl
  unfold df_X9_isSign_20 at h
  refine lv_iconst (v := 0) hx hb dX9_isSign_20 (by decide) ?_
  exact (db_X9_isSign_21 C K) (0) s0 _ _ _ h hP hD hS (lv_sub hl [] rfl)
set_option maxHeartbeats 40000000 in
set_option maxRecDepth 100000 in
theorem db_X9_isSign_0 {p : Program} {l : Launch} {e : Env} {s : State} {m : MethodId} {args : Array Value} {below : List Frame} {meth : Method} {c : Code} {Q : State → Prop} {A : Nat → Prop} {dC : Nat → ClassId} {dI : Nat → Nat → Nat} {a : Nat → Nat} {ac : Nat → ClassId} {n : Nat} {r : Int32 × (St)} (C : nd_C p l s m args c A (dC, dI) cX9_isSign 2 RX9 ow_dm_X9_isSign (dk_X9 ac)) (K : nd_Ki p l e (headSpec ow_dm_X9_isSign ({ frames := 0, cells := 0, slots := 0, locals := 0 })).room s m args below meth c Q A (dC, dI) cX9_isSign .boolean (St) (dw_X9 a ac) r) : dj_X9_isSign_0 p l e s m args below meth c Q A dC dI a ac (df_X9_isSign_0 n) r := by
  obtain ⟨hlt, hx, hb, hml, hown, hts, hN, hA, hK⟩ := id C
  intro v0 s0 H locs ls h hP hD hS hl
  unfold df_X9_isSign_0 at h
  refine lv_aload_n hx hb dX9_isSign_0 rfl (lv_at hl 0 rfl) ?_
  refine va_get (D := (dC, dI)) (ci := 10) (v := .int (sI s0 2)) (C := RX9) (T := TX9) (N := 20) hx hb hts hi_dm_X9_isSign_X9 hown hK hP 0 rfl rfl 3 (by decide) (hts (.fieldLink RX9 73 "TimeMachine$Reader" "kind" "I") (List.mem_of_getElem? (i := 1) rfl)) (fun _ h9 => h9) rfl dX9_isSign_1 ?_
  refine lv_iconst (v := 5) hx hb dX9_isSign_4 (by decide) ?_
  refine lv_icmp_ne (tgt := 20) hx hb dX9_isSign_5 (by decide) (fun c1 => ?_) (fun c1 => ?_)
  · have h := nd_neg h c1
    exact (db_X9_isSign_20 C K)  s0 _ _ _ h hP hD hS (lv_sub hl [] rfl)
  · have h := nd_pos h c1
    refine lv_aload_n hx hb dX9_isSign_8 rfl (lv_at hl 0 rfl) ?_
    refine va_get (D := (dC, dI)) (ci := 10) (v := .int (sI s0 4)) (C := RX9) (T := TX9) (N := 20) hx hb hts hi_dm_X9_isSign_X9 hown hK hP 0 rfl rfl 5 (by decide) (hts (.fieldLink RX9 93 "TimeMachine$Reader" "number" "I") (List.mem_of_getElem? (i := 2) rfl)) (fun _ h9 => h9) rfl dX9_isSign_9 ?_
    refine lv_iload_n hx hb dX9_isSign_12 rfl (lv_at hl 1 rfl) ?_
    refine lv_icmp_ne (tgt := 20) hx hb dX9_isSign_13 (by decide) (fun c3 => ?_) (fun c3 => ?_)
    · have h := nd_neg h c3
      exact (db_X9_isSign_20 C K)  s0 _ _ _ h hP hD hS (lv_sub hl [] rfl)
    · have h := nd_pos h c3
      refine lv_iconst (v := 1) hx hb dX9_isSign_16 (by decide) ?_
      refine lv_goto (tgt := 21) hx hb dX9_isSign_17 (by decide) ?_
      exact (db_X9_isSign_21 C K) (1) s0 _ _ _ h hP hD hS (lv_sub hl [] rfl)
set_option maxHeartbeats 40000000 in
set_option maxRecDepth 100000 in
theorem dm_X9_isSign (l : Launch) (hlt : l.stackTraces = false) (dC : Nat → ClassId) (dI : Nat → Nat → Nat) (a : Nat → Nat) (ac : Nat → ClassId) (n : Nat) (v0 : Int32) (s0 : St) {r : Int32 × (St)} (h : df_X9_isSign n v0 s0 = some r) (sz : Nat) : Met l yX9_isSign ow_dm_X9_isSign ({ frames := 0, cells := 0, slots := 0, locals := 0 }) (va_Pc [.ref (a 0), .int v0] (fun U => U.heap.size = sz ∧ va_P (dC, dI) vwCl (dw_X9 a ac s0) U.heap ∧ va_K (dC, dI) vwCl (dk_X9 ac) U ∧ va_D (fun _ => True) (dw_X9 a ac s0) ∧ nv_E dI (va_A (dw_X9 a ac s0) sz) U)) (va_Qi (fun x _ => x = r.1) (fun (_ : Unit) t => va_P (dC, dI) vwCl (dw_X9 a ac r.2) t.heap ∧ va_K (dC, dI) vwCl (dk_X9 ac) t ∧ va_D (va_A (dw_X9 a ac s0) sz) (dw_X9 a ac r.2)) (va_A (dw_X9 a ac s0) sz)) 0 0 (va_A (dw_X9 a ac s0) sz) := by
  refine Met.ofW (cc := cX9_isSign) (maxL := 2) (ret := (some .boolean)) (by decide) rfl ?_
  intro p e s m args below meth c s₁ B hml hv
  obtain ⟨rfl, hsz, hP, hK, hD0, hN⟩ := hv
  have hx := B.exec
  have hb := B.bytes
  have hr := B.returns
  have hts := atoms_spec (ws := ow_dm_X9_isSign) B.pre
  have hown : s.vm.findClass RX9 = some m.cls := findClass_of_methodNamed B.named
  have hlocks := B.notSynchronized
  subst hsz
  have hD := hD0.self (sz := s.heap.size)
  generalize hAe : va_A (dw_X9 a ac s0) s.heap.size = A at hD hN ⊢
  have hA : ∀ q : Nat, s.heap.size ≤ q → A q := fun q h => by rw [← hAe]; exact Or.inr h
  have hl := lv_entry ([.ref (a 0), .int v0]) (n := 2) (Nat.le_of_ble_eq_true rfl)
  rw [lg_entry_eq]
  generalize (lg_sl ([.ref (a 0), .int v0]) ++ List.replicate (2 - (lg_sl ([.ref (a 0), .int v0])).length) Slot.unset).toArray = ls at hl ⊢
  have hl : lv_has ls 2 [(0, .ref (a 0)), (1, .int v0)] := hl
  exact db_X9_isSign_0 (dC := dC) (dI := dI) (a := a) (ac := ac) (n := n) (r := r) ⟨hlt, hx, hb, hml, hown, hts, hN, hA, hK⟩ (fun pc v τ H locs ls d z er hP hD hS => by subst er; exact W.zret (v := v) hx hb hr z (fun t ht hW => ⟨⟨v, (), rfl, rfl, by rw [ht]; exact hP, va_K.moved hW.alike hK, hD⟩, hS.F ht⟩) hS.2.2 d) v0 s0 _ _ _ h hP hD va_S.rf (lv_sub hl [0, 1] rfl)
def ow_dm_X9_nameAt : List Cond := Cond.code yX9_nameAt cX9_nameAt 9 (some .int) :: ([Cond.fieldLink RX9 30 "TimeMachine$Reader" "bucket" "[I", Cond.fieldLink RX9 43 "TimeMachine$Reader" "names" "I", Cond.fieldLink RX9 27 "TimeMachine$Reader" "name" "[I", Cond.fieldLink RX9 9 "TimeMachine$Reader" "source" "[B"] ++ (u_ws RX9 TX9 20 ++ []))
theorem gd_dm_X9_nameAt : ∀ w ∈ ow_dm_X9_nameAt, (w.onTables && w.keeps) = true ∨ ∃ ty, w = Cond.arrayClass ty := List.forall_mem_cons.mpr ⟨good_of_word rfl, List.forall_mem_append.mpr ⟨fun w h => good_of_word (List.all_eq_true.mp (by decide +kernel) w h), List.forall_mem_append.mpr ⟨gu_X9, fun _ h => nomatch h⟩⟩⟩
theorem hi_dm_X9_nameAt_X9 : ∀ w ∈ u_ws RX9 TX9 20, w ∈ ow_dm_X9_nameAt := fun w h => List.mem_cons_of_mem _ (List.mem_append_right _ (List.mem_append_left _ h))
def dj_X9_nameAt_214 (p : Program) (l : Launch) (e : Env) (s : State) (m : MethodId) (args : Array Value) (below : List Frame) (meth : Method) (c : Code) (Q : State → Prop) (A : Nat → Prop) (dC : Nat → ClassId) (dI : Nat → Nat → Nat) (a : Nat → Nat) (ac : Nat → ClassId) (g : Int32 → Int32 → Int32 → (St) → Option (Int32 × (St))) (r : Int32 × (St)) : Prop := ∀ (x1 : Int32) (x2 : Int32) (x3 : Int32) (s0 : St) (H : Heap) (locs : List Loc) (ls : Array Slot), g x1 x2 x3 s0 = some r → va_P (dC, dI) vwCl (dw_X9 a ac s0) H → va_D A (dw_X9 a ac s0) → va_S A s.heap H locs → lv_has ls 9 [(0, .ref (a 0)), (1, .int x1), (2, .int x2), (3, .int x3)] → W p l e (headSpec ow_dm_X9_nameAt ({ frames := 0, cells := 0, slots := 0, locals := 0 })).room s m args below meth c H locs 0 0 Q (F0 m 214 ls [])
def dj_X9_nameAt_194 (p : Program) (l : Launch) (e : Env) (s : State) (m : MethodId) (args : Array Value) (below : List Frame) (meth : Method) (c : Code) (Q : State → Prop) (A : Nat → Prop) (dC : Nat → ClassId) (dI : Nat → Nat → Nat) (a : Nat → Nat) (ac : Nat → ClassId) (g : Int32 → Int32 → Int32 → (St) → Option (Int32 × (St))) (r : Int32 × (St)) : Prop := ∀ (x1 : Int32) (x2 : Int32) (x3 : Int32) (s0 : St) (H : Heap) (locs : List Loc) (ls : Array Slot), g x1 x2 x3 s0 = some r → va_P (dC, dI) vwCl (dw_X9 a ac s0) H → va_D A (dw_X9 a ac s0) → va_S A s.heap H locs → lv_has ls 9 [(0, .ref (a 0)), (1, .int x1), (2, .int x2), (3, .int x3)] → W p l e (headSpec ow_dm_X9_nameAt ({ frames := 0, cells := 0, slots := 0, locals := 0 })).room s m args below meth c H locs 0 0 Q (F0 m 194 ls [])
def dj_X9_nameAt_165 (p : Program) (l : Launch) (e : Env) (s : State) (m : MethodId) (args : Array Value) (below : List Frame) (meth : Method) (c : Code) (Q : State → Prop) (A : Nat → Prop) (dC : Nat → ClassId) (dI : Nat → Nat → Nat) (a : Nat → Nat) (ac : Nat → ClassId) (g : Int32 → Int32 → Int32 → Int32 → Int32 → Int32 → (St) → Option (Int32 × (St))) (r : Int32 × (St)) : Prop := ∀ (x1 : Int32) (x2 : Int32) (x3 : Int32) (x4 : Int32) (x5 : Int32) (x7 : Int32) (s0 : St) (H : Heap) (locs : List Loc) (ls : Array Slot), g x1 x2 x3 x4 x5 x7 s0 = some r → va_P (dC, dI) vwCl (dw_X9 a ac s0) H → va_D A (dw_X9 a ac s0) → va_S A s.heap H locs → lv_has ls 9 [(0, .ref (a 0)), (1, .int x1), (2, .int x2), (3, .int x3), (4, .int x4), (5, .int x5), (7, .int x7)] → W p l e (headSpec ow_dm_X9_nameAt ({ frames := 0, cells := 0, slots := 0, locals := 0 })).room s m args below meth c H locs 0 0 Q (F0 m 165 ls [])
def dj_X9_nameAt_157 (p : Program) (l : Launch) (e : Env) (s : State) (m : MethodId) (args : Array Value) (below : List Frame) (meth : Method) (c : Code) (Q : State → Prop) (A : Nat → Prop) (dC : Nat → ClassId) (dI : Nat → Nat → Nat) (a : Nat → Nat) (ac : Nat → ClassId) (g : Int32 → Int32 → Int32 → Int32 → Int32 → Int32 → Int32 → Int32 → (St) → Option (Int32 × (St))) (r : Int32 × (St)) : Prop := ∀ (x1 : Int32) (x2 : Int32) (x3 : Int32) (x4 : Int32) (x5 : Int32) (x6 : Int32) (x8 : Int32) (y0 : Int32) (s0 : St) (H : Heap) (locs : List Loc) (ls : Array Slot), g x1 x2 x3 x4 x5 x6 x8 y0 s0 = some r → va_P (dC, dI) vwCl (dw_X9 a ac s0) H → va_D A (dw_X9 a ac s0) → va_S A s.heap H locs → lv_has ls 9 [(0, .ref (a 0)), (1, .int x1), (2, .int x2), (3, .int x3), (4, .int x4), (5, .int x5), (6, .int x6), (8, .int x8)] → W p l e (headSpec ow_dm_X9_nameAt ({ frames := 0, cells := 0, slots := 0, locals := 0 })).room s m args below meth c H locs 0 0 Q (F0 m 157 ls [.int y0])
def dj_X9_nameAt_119 (p : Program) (l : Launch) (e : Env) (s : State) (m : MethodId) (args : Array Value) (below : List Frame) (meth : Method) (c : Code) (Q : State → Prop) (A : Nat → Prop) (dC : Nat → ClassId) (dI : Nat → Nat → Nat) (a : Nat → Nat) (ac : Nat → ClassId) (g : Int32 → Int32 → Int32 → Int32 → Int32 → Int32 → Int32 → Int32 → (St) → Option (Int32 × (St))) (r : Int32 × (St)) : Prop := ∀ (x1 : Int32) (x2 : Int32) (x3 : Int32) (x4 : Int32) (x5 : Int32) (x6 : Int32) (x7 : Int32) (x8 : Int32) (s0 : St) (H : Heap) (locs : List Loc) (ls : Array Slot), g x1 x2 x3 x4 x5 x6 x7 x8 s0 = some r → va_P (dC, dI) vwCl (dw_X9 a ac s0) H → va_D A (dw_X9 a ac s0) → va_S A s.heap H locs → lv_has ls 9 [(0, .ref (a 0)), (1, .int x1), (2, .int x2), (3, .int x3), (4, .int x4), (5, .int x5), (6, .int x6), (7, .int x7), (8, .int x8)] → W p l e (headSpec ow_dm_X9_nameAt ({ frames := 0, cells := 0, slots := 0, locals := 0 })).room s m args below meth c H locs 0 0 Q (F0 m 119 ls [])
def dj_X9_nameAt_114 (p : Program) (l : Launch) (e : Env) (s : State) (m : MethodId) (args : Array Value) (below : List Frame) (meth : Method) (c : Code) (Q : State → Prop) (A : Nat → Prop) (dC : Nat → ClassId) (dI : Nat → Nat → Nat) (a : Nat → Nat) (ac : Nat → ClassId) (g : Int32 → Int32 → Int32 → Int32 → Int32 → Int32 → Int32 → (St) → Option (Int32 × (St))) (r : Int32 × (St)) : Prop := ∀ (x1 : Int32) (x2 : Int32) (x3 : Int32) (x4 : Int32) (x5 : Int32) (x6 : Int32) (y0 : Int32) (s0 : St) (H : Heap) (locs : List Loc) (ls : Array Slot), g x1 x2 x3 x4 x5 x6 y0 s0 = some r → va_P (dC, dI) vwCl (dw_X9 a ac s0) H → va_D A (dw_X9 a ac s0) → va_S A s.heap H locs → lv_has ls 9 [(0, .ref (a 0)), (1, .int x1), (2, .int x2), (3, .int x3), (4, .int x4), (5, .int x5), (6, .int x6)] → W p l e (headSpec ow_dm_X9_nameAt ({ frames := 0, cells := 0, slots := 0, locals := 0 })).room s m args below meth c H locs 0 0 Q (F0 m 114 ls [.int y0])
def dj_X9_nameAt_71 (p : Program) (l : Launch) (e : Env) (s : State) (m : MethodId) (args : Array Value) (below : List Frame) (meth : Method) (c : Code) (Q : State → Prop) (A : Nat → Prop) (dC : Nat → ClassId) (dI : Nat → Nat → Nat) (a : Nat → Nat) (ac : Nat → ClassId) (g : Int32 → Int32 → Int32 → Int32 → Int32 → (St) → Option (Int32 × (St))) (r : Int32 × (St)) : Prop := ∀ (x1 : Int32) (x2 : Int32) (x3 : Int32) (x4 : Int32) (x5 : Int32) (s0 : St) (H : Heap) (locs : List Loc) (ls : Array Slot), g x1 x2 x3 x4 x5 s0 = some r → va_P (dC, dI) vwCl (dw_X9 a ac s0) H → va_D A (dw_X9 a ac s0) → va_S A s.heap H locs → lv_has ls 9 [(0, .ref (a 0)), (1, .int x1), (2, .int x2), (3, .int x3), (4, .int x4), (5, .int x5)] → W p l e (headSpec ow_dm_X9_nameAt ({ frames := 0, cells := 0, slots := 0, locals := 0 })).room s m args below meth c H locs 0 0 Q (F0 m 71 ls [])
def dj_X9_nameAt_44 (p : Program) (l : Launch) (e : Env) (s : State) (m : MethodId) (args : Array Value) (below : List Frame) (meth : Method) (c : Code) (Q : State → Prop) (A : Nat → Prop) (dC : Nat → ClassId) (dI : Nat → Nat → Nat) (a : Nat → Nat) (ac : Nat → ClassId) (g : Int32 → Int32 → Int32 → (St) → Option (Int32 × (St))) (r : Int32 × (St)) : Prop := ∀ (x1 : Int32) (x2 : Int32) (x3 : Int32) (s0 : St) (H : Heap) (locs : List Loc) (ls : Array Slot), g x1 x2 x3 s0 = some r → va_P (dC, dI) vwCl (dw_X9 a ac s0) H → va_D A (dw_X9 a ac s0) → va_S A s.heap H locs → lv_has ls 9 [(0, .ref (a 0)), (1, .int x1), (2, .int x2), (3, .int x3)] → W p l e (headSpec ow_dm_X9_nameAt ({ frames := 0, cells := 0, slots := 0, locals := 0 })).room s m args below meth c H locs 0 0 Q (F0 m 44 ls [])
def dj_X9_nameAt_5 (p : Program) (l : Launch) (e : Env) (s : State) (m : MethodId) (args : Array Value) (below : List Frame) (meth : Method) (c : Code) (Q : State → Prop) (A : Nat → Prop) (dC : Nat → ClassId) (dI : Nat → Nat → Nat) (a : Nat → Nat) (ac : Nat → ClassId) (g : Int32 → Int32 → Int32 → Int32 → (St) → Option (Int32 × (St))) (r : Int32 × (St)) : Prop := ∀ (x1 : Int32) (x2 : Int32) (x3 : Int32) (x4 : Int32) (s0 : St) (H : Heap) (locs : List Loc) (ls : Array Slot), g x1 x2 x3 x4 s0 = some r → va_P (dC, dI) vwCl (dw_X9 a ac s0) H → va_D A (dw_X9 a ac s0) → va_S A s.heap H locs → lv_has ls 9 [(0, .ref (a 0)), (1, .int x1), (2, .int x2), (3, .int x3), (4, .int x4)] → W p l e (headSpec ow_dm_X9_nameAt ({ frames := 0, cells := 0, slots := 0, locals := 0 })).room s m args below meth c H locs 0 0 Q (F0 m 5 ls [])
def dj_X9_nameAt_0 (p : Program) (l : Launch) (e : Env) (s : State) (m : MethodId) (args : Array Value) (below : List Frame) (meth : Method) (c : Code) (Q : State → Prop) (A : Nat → Prop) (dC : Nat → ClassId) (dI : Nat → Nat → Nat) (a : Nat → Nat) (ac : Nat → ClassId) (g : Int32 → Int32 → (St) → Option (Int32 × (St))) (r : Int32 × (St)) : Prop := ∀ (v0 : Int32) (v1 : Int32) (s0 : St) (H : Heap) (locs : List Loc) (ls : Array Slot), g v0 v1 s0 = some r → va_P (dC, dI) vwCl (dw_X9 a ac s0) H → va_D A (dw_X9 a ac s0) → va_S A s.heap H locs → lv_has ls 9 [(0, .ref (a 0)), (1, .int v0), (2, .int v1)] → W p l e (headSpec ow_dm_X9_nameAt ({ frames := 0, cells := 0, slots := 0, locals := 0 })).room s m args below meth c H locs 0 0 Q (F0 m 0 ls [])
set_option maxHeartbeats 40000000 in
set_option maxRecDepth 100000 in
theorem db_X9_nameAt_214 {p : Program} {l : Launch} {e : Env} {s : State} {m : MethodId} {args : Array Value} {below : List Frame} {meth : Method} {c : Code} {Q : State → Prop} {A : Nat → Prop} {dC : Nat → ClassId} {dI : Nat → Nat → Nat} {a : Nat → Nat} {ac : Nat → ClassId} {n : Nat} {r : Int32 × (St)} (C : nd_C p l s m args c A (dC, dI) cX9_nameAt 9 RX9 ow_dm_X9_nameAt (dk_X9 ac)) (K : nd_Ki p l e (headSpec ow_dm_X9_nameAt ({ frames := 0, cells := 0, slots := 0, locals := 0 })).room s m args below meth c Q A (dC, dI) cX9_nameAt .int (St) (dw_X9 a ac) r) : dj_X9_nameAt_214 p l e s m args below meth c Q A dC dI a ac (df_X9_nameAt_214 n) r := by
  obtain ⟨hlt, hx, hb, hml, hown, hts, hN, hA, hK⟩ := id C
  intro x1 x2 x3 s0 H locs ls h hP hD hS hl
  unfold df_X9_nameAt_214 at h
  refine lv_aload_n hx hb dX9_nameAt_214 rfl (lv_at hl 0 rfl) ?_
  refine va_get (D := (dC, dI)) (ci := 10) (v := .int (sI s0 8)) (C := RX9) (T := TX9) (N := 20) hx hb hts hi_dm_X9_nameAt_X9 hown hK hP 0 rfl rfl 13 (by decide) (hts (.fieldLink RX9 43 "TimeMachine$Reader" "names" "I") (List.mem_of_getElem? (i := 2) rfl)) (fun _ h9 => h9) rfl dX9_nameAt_215 ?_
  refine lv_iconst (v := 1) hx hb dX9_nameAt_218 (by decide) ?_
  refine lv_isub hx hb dX9_nameAt_219 ?_
  refine lv_topi (fun z8 ez8 => ?_)
  have h := nd_at h ez8
  refine lv_istore (lv' := [(4, .int z8), (0, .ref (a 0)), (1, .int x1), (2, .int x2), (3, .int x3)]) hx hb dX9_nameAt_220 hl (by decide) rfl (fun ls hl => ?_)
  refine lv_aload_n hx hb dX9_nameAt_222 rfl (lv_at hl 1 rfl) ?_
  refine va_get (D := (dC, dI)) (ci := 10) (v := .ref (a 4)) (C := RX9) (T := TX9) (N := 20) hx hb hts hi_dm_X9_nameAt_X9 hown hK hP 0 rfl rfl 12 (by decide) (hts (.fieldLink RX9 27 "TimeMachine$Reader" "name" "[I") (List.mem_of_getElem? (i := 3) rfl)) (fun _ h9 => h9) rfl dX9_nameAt_223 ?_
  refine lv_iload hx hb dX9_nameAt_226 (lv_at hl 0 rfl) ?_
  refine lv_iconst (v := 5) hx hb dX9_nameAt_228 (by decide) ?_
  refine lv_imul hx hb dX9_nameAt_229 ?_
  refine lv_iconst (v := 0) hx hb dX9_nameAt_230 (by decide) ?_
  refine lv_iadd hx hb dX9_nameAt_231 ?_
  refine lv_iload_n hx hb dX9_nameAt_232 rfl (lv_at hl 2 rfl) ?_
  obtain ⟨i9, h⟩ := nd_ck_e h
  refine va_iast (i := ((z8 * 5) + 0)) (x := x1) hx hb hK hP hD hS 4 3 rfl rfl i9 dX9_nameAt_233 (fun H locs hP hD hS => ?_)
  obtain ⟨s10, es10, h⟩ := nd_let_e h
  have hP : va_P (dC, dI) vwCl (dw_X9 a ac s10) H := by rw [es10]; exact hP
  have hD : va_D A (dw_X9 a ac s10) := by rw [es10]; exact hD
  refine lv_aload_n hx hb dX9_nameAt_234 rfl (lv_at hl 1 rfl) ?_
  refine va_get (D := (dC, dI)) (ci := 10) (v := .ref (a 4)) (C := RX9) (T := TX9) (N := 20) hx hb hts hi_dm_X9_nameAt_X9 hown hK hP 0 rfl rfl 12 (by decide) (hts (.fieldLink RX9 27 "TimeMachine$Reader" "name" "[I") (List.mem_of_getElem? (i := 3) rfl)) (fun _ h9 => h9) rfl dX9_nameAt_235 ?_
  refine lv_iload hx hb dX9_nameAt_238 (lv_at hl 0 rfl) ?_
  refine lv_iconst (v := 5) hx hb dX9_nameAt_240 (by decide) ?_
  refine lv_imul hx hb dX9_nameAt_241 ?_
  refine lv_iconst (v := 1) hx hb dX9_nameAt_242 (by decide) ?_
  refine lv_iadd hx hb dX9_nameAt_243 ?_
  refine lv_iload_n hx hb dX9_nameAt_244 rfl (lv_at hl 3 rfl) ?_
  obtain ⟨i11, h⟩ := nd_ck_e h
  refine va_iast (i := ((z8 * 5) + 1)) (x := x2) hx hb hK hP hD hS 4 3 rfl rfl i11 dX9_nameAt_245 (fun H locs hP hD hS => ?_)
  obtain ⟨s12, es12, h⟩ := nd_let_e h
  have hP : va_P (dC, dI) vwCl (dw_X9 a ac s12) H := by rw [es12]; exact hP
  have hD : va_D A (dw_X9 a ac s12) := by rw [es12]; exact hD
  refine lv_aload_n hx hb dX9_nameAt_246 rfl (lv_at hl 1 rfl) ?_
  refine va_get (D := (dC, dI)) (ci := 10) (v := .ref (a 4)) (C := RX9) (T := TX9) (N := 20) hx hb hts hi_dm_X9_nameAt_X9 hown hK hP 0 rfl rfl 12 (by decide) (hts (.fieldLink RX9 27 "TimeMachine$Reader" "name" "[I") (List.mem_of_getElem? (i := 3) rfl)) (fun _ h9 => h9) rfl dX9_nameAt_247 ?_
  refine lv_iload hx hb dX9_nameAt_250 (lv_at hl 0 rfl) ?_
  refine lv_iconst (v := 5) hx hb dX9_nameAt_252 (by decide) ?_
  refine lv_imul hx hb dX9_nameAt_253 ?_
  refine lv_iconst (v := 2) hx hb dX9_nameAt_254 (by decide) ?_
  refine lv_iadd hx hb dX9_nameAt_255 ?_
  refine lv_iconst (v := 0) hx hb dX9_nameAt_256 (by decide) ?_
  obtain ⟨i13, h⟩ := nd_ck_e h
  refine va_iast (i := ((z8 * 5) + 2)) (x := 0) hx hb hK hP hD hS 4 3 rfl rfl i13 dX9_nameAt_257 (fun H locs hP hD hS => ?_)
  obtain ⟨s14, es14, h⟩ := nd_let_e h
  have hP : va_P (dC, dI) vwCl (dw_X9 a ac s14) H := by rw [es14]; exact hP
  have hD : va_D A (dw_X9 a ac s14) := by rw [es14]; exact hD
  refine lv_aload_n hx hb dX9_nameAt_258 rfl (lv_at hl 1 rfl) ?_
  refine va_get (D := (dC, dI)) (ci := 10) (v := .ref (a 4)) (C := RX9) (T := TX9) (N := 20) hx hb hts hi_dm_X9_nameAt_X9 hown hK hP 0 rfl rfl 12 (by decide) (hts (.fieldLink RX9 27 "TimeMachine$Reader" "name" "[I") (List.mem_of_getElem? (i := 3) rfl)) (fun _ h9 => h9) rfl dX9_nameAt_259 ?_
  refine lv_iload hx hb dX9_nameAt_262 (lv_at hl 0 rfl) ?_
  refine lv_iconst (v := 5) hx hb dX9_nameAt_264 (by decide) ?_
  refine lv_imul hx hb dX9_nameAt_265 ?_
  refine lv_iconst (v := 4) hx hb dX9_nameAt_266 (by decide) ?_
  refine lv_iadd hx hb dX9_nameAt_267 ?_
  refine lv_aload_n hx hb dX9_nameAt_268 rfl (lv_at hl 1 rfl) ?_
  refine va_get (D := (dC, dI)) (ci := 10) (v := .ref (a 5)) (C := RX9) (T := TX9) (N := 20) hx hb hts hi_dm_X9_nameAt_X9 hown hK hP 0 rfl rfl 14 (by decide) (hts (.fieldLink RX9 30 "TimeMachine$Reader" "bucket" "[I") (List.mem_of_getElem? (i := 1) rfl)) (fun _ h9 => h9) rfl dX9_nameAt_269 ?_
  refine lv_iload_n hx hb dX9_nameAt_272 rfl (lv_at hl 4 rfl) ?_
  obtain ⟨i15, h⟩ := nd_ck_e h
  refine va_iald (i := x3) hx hb hK hP 5 4 rfl rfl i15 dX9_nameAt_273 ?_
  obtain ⟨i16, h⟩ := nd_ck_e h
  refine va_iast (i := ((z8 * 5) + 4)) (x := (sR s14 4 (Int32.toNatClampNeg x3))) hx hb hK hP hD hS 4 3 rfl rfl i16 dX9_nameAt_274 (fun H locs hP hD hS => ?_)
  obtain ⟨s17, es17, h⟩ := nd_let_e h
  have hP : va_P (dC, dI) vwCl (dw_X9 a ac s17) H := by rw [es17]; exact hP
  have hD : va_D A (dw_X9 a ac s17) := by rw [es17]; exact hD
  refine lv_aload_n hx hb dX9_nameAt_275 rfl (lv_at hl 1 rfl) ?_
  refine va_get (D := (dC, dI)) (ci := 10) (v := .ref (a 5)) (C := RX9) (T := TX9) (N := 20) hx hb hts hi_dm_X9_nameAt_X9 hown hK hP 0 rfl rfl 14 (by decide) (hts (.fieldLink RX9 30 "TimeMachine$Reader" "bucket" "[I") (List.mem_of_getElem? (i := 1) rfl)) (fun _ h9 => h9) rfl dX9_nameAt_276 ?_
  refine lv_iload_n hx hb dX9_nameAt_279 rfl (lv_at hl 4 rfl) ?_
  refine lv_iload hx hb dX9_nameAt_280 (lv_at hl 0 rfl) ?_
  refine lv_iconst (v := 1) hx hb dX9_nameAt_282 (by decide) ?_
  refine lv_iadd hx hb dX9_nameAt_283 ?_
  obtain ⟨i18, h⟩ := nd_ck_e h
  refine va_iast (i := x3) (x := (z8 + 1)) hx hb hK hP hD hS 5 4 rfl rfl i18 dX9_nameAt_284 (fun H locs hP hD hS => ?_)
  obtain ⟨s19, es19, h⟩ := nd_let_e h
  have hP : va_P (dC, dI) vwCl (dw_X9 a ac s19) H := by rw [es19]; exact hP
  have hD : va_D A (dw_X9 a ac s19) := by rw [es19]; exact hD
  refine lv_iload hx hb dX9_nameAt_285 (lv_at hl 0 rfl) ?_
  exact K _ _ _ _ _ _ dX9_nameAt_287 rfl (Option.some.inj h).symm hP hD hS
set_option maxHeartbeats 40000000 in
set_option maxRecDepth 100000 in
theorem db_X9_nameAt_194 {p : Program} {l : Launch} {e : Env} {s : State} {m : MethodId} {args : Array Value} {below : List Frame} {meth : Method} {c : Code} {Q : State → Prop} {A : Nat → Prop} {dC : Nat → ClassId} {dI : Nat → Nat → Nat} {a : Nat → Nat} {ac : Nat → ClassId} {n : Nat} {r : Int32 × (St)} (C : nd_C p l s m args c A (dC, dI) cX9_nameAt 9 RX9 ow_dm_X9_nameAt (dk_X9 ac)) (K : nd_Ki p l e (headSpec ow_dm_X9_nameAt ({ frames := 0, cells := 0, slots := 0, locals := 0 })).room s m args below meth c Q A (dC, dI) cX9_nameAt .int (St) (dw_X9 a ac) r) : dj_X9_nameAt_194 p l e s m args below meth c Q A dC dI a ac (df_X9_nameAt_194 n) r := by
  obtain ⟨hlt, hx, hb, hml, hown, hts, hN, hA, hK⟩ := id C
  intro x1 x2 x3 s0 H locs ls h hP hD hS hl
  unfold df_X9_nameAt_194 at h
  refine lv_aload_n hx hb dX9_nameAt_194 rfl (lv_at hl 0 rfl) ?_
  refine va_get (D := (dC, dI)) (ci := 10) (v := .int (sI s0 8)) (C := RX9) (T := TX9) (N := 20) hx hb hts hi_dm_X9_nameAt_X9 hown hK hP 0 rfl rfl 13 (by decide) (hts (.fieldLink RX9 43 "TimeMachine$Reader" "names" "I") (List.mem_of_getElem? (i := 2) rfl)) (fun _ h9 => h9) rfl dX9_nameAt_195 ?_
  refine lv_sipush (v := 16384) hx hb dX9_nameAt_198 (by decide) ?_
  refine lv_icmp_ge (tgt := 214) hx hb dX9_nameAt_201 (by decide) (fun c7 => ?_) (fun c7 => ?_)
  · have h := nd_pos h c7
    exact (db_X9_nameAt_214 C K) (x1) (x2) (x3) s0 _ _ _ h hP hD hS (lv_sub hl [0, 1, 2, 3] rfl)
  · have h := nd_neg h c7
    refine lv_aload_n hx hb dX9_nameAt_204 rfl (lv_at hl 0 rfl) ?_
    refine lv_dup hx hb dX9_nameAt_205 rfl ?_
    refine va_get (D := (dC, dI)) (ci := 10) (v := .int (sI s0 8)) (C := RX9) (T := TX9) (N := 20) hx hb hts hi_dm_X9_nameAt_X9 hown hK hP 0 rfl rfl 13 (by decide) (hts (.fieldLink RX9 43 "TimeMachine$Reader" "names" "I") (List.mem_of_getElem? (i := 2) rfl)) (fun _ h9 => h9) rfl dX9_nameAt_206 ?_
    refine lv_iconst (v := 1) hx hb dX9_nameAt_209 (by decide) ?_
    refine lv_iadd hx hb dX9_nameAt_210 ?_
    refine va_put (D := (dC, dI)) (ci := 10) (v := .int ((sI s0 8) + 1)) (ty := .int) (C := RX9) (T := TX9) (N := 20) hx hb hts hi_dm_X9_nameAt_X9 tyX9 tyX9_ok nmX9 hown hK hP hD hS 0 rfl rfl 13 (by decide) (hts (.fieldLink RX9 43 "TimeMachine$Reader" "names" "I") (List.mem_of_getElem? (i := 2) rfl)) (fun _ h9 => h9) rfl (by decide +kernel) rfl rfl (Nat.le_of_ble_eq_true rfl) dX9_nameAt_211 (fun H locs hP hD hS => ?_)
    obtain ⟨s20, es20, h⟩ := nd_let_e h
    have hP : va_P (dC, dI) vwCl (dw_X9 a ac s20) H := by rw [es20]; exact hP
    have hD : va_D A (dw_X9 a ac s20) := by rw [es20]; exact hD
    exact (db_X9_nameAt_214 C K) (x1) (x2) (x3) s20 _ _ _ h hP hD hS (lv_sub hl [0, 1, 2, 3] rfl)
set_option maxHeartbeats 40000000 in
set_option maxRecDepth 100000 in
theorem db_X9_nameAt_165 {p : Program} {l : Launch} {e : Env} {s : State} {m : MethodId} {args : Array Value} {below : List Frame} {meth : Method} {c : Code} {Q : State → Prop} {A : Nat → Prop} {dC : Nat → ClassId} {dI : Nat → Nat → Nat} {a : Nat → Nat} {ac : Nat → ClassId} {n : Nat} {r : Int32 × (St)} (C : nd_C p l s m args c A (dC, dI) cX9_nameAt 9 RX9 ow_dm_X9_nameAt (dk_X9 ac)) (K : nd_Ki p l e (headSpec ow_dm_X9_nameAt ({ frames := 0, cells := 0, slots := 0, locals := 0 })).room s m args below meth c Q A (dC, dI) cX9_nameAt .int (St) (dw_X9 a ac) r) {g71 : Int32 → Int32 → Int32 → Int32 → Int32 → (St) → Option (Int32 × (St))} (J71 : dj_X9_nameAt_71 p l e s m args below meth c Q A dC dI a ac g71 r) : dj_X9_nameAt_165 p l e s m args below meth c Q A dC dI a ac (df_X9_nameAt_165 n g71) r := by
  obtain ⟨hlt, hx, hb, hml, hown, hts, hN, hA, hK⟩ := id C
  intro x1 x2 x3 x4 x5 x7 s0 H locs ls h hP hD hS hl
  unfold df_X9_nameAt_165 at h
  refine lv_iload hx hb dX9_nameAt_165 (lv_at hl 6 rfl) ?_
  refine lv_if_eq (tgt := 173) hx hb dX9_nameAt_167 (by decide) (fun c27 => ?_) (fun c27 => ?_)
  · have h := nd_pos h c27
    refine lv_aload_n hx hb dX9_nameAt_173 rfl (lv_at hl 0 rfl) ?_
    refine va_get (D := (dC, dI)) (ci := 10) (v := .ref (a 4)) (C := RX9) (T := TX9) (N := 20) hx hb hts hi_dm_X9_nameAt_X9 hown hK hP 0 rfl rfl 12 (by decide) (hts (.fieldLink RX9 27 "TimeMachine$Reader" "name" "[I") (List.mem_of_getElem? (i := 3) rfl)) (fun _ h9 => h9) rfl dX9_nameAt_174 ?_
    refine lv_iload hx hb dX9_nameAt_177 (lv_at hl 4 rfl) ?_
    refine lv_iconst (v := 5) hx hb dX9_nameAt_179 (by decide) ?_
    refine lv_imul hx hb dX9_nameAt_180 ?_
    refine lv_iconst (v := 4) hx hb dX9_nameAt_181 (by decide) ?_
    refine lv_iadd hx hb dX9_nameAt_182 ?_
    obtain ⟨i28, h⟩ := nd_ck_e h
    refine va_iald (i := ((x4 * 5) + 4)) hx hb hK hP 4 3 rfl rfl i28 dX9_nameAt_183 ?_
    refine lv_iconst (v := 1) hx hb dX9_nameAt_184 (by decide) ?_
    refine lv_isub hx hb dX9_nameAt_185 ?_
    refine lv_topi (fun z29 ez29 => ?_)
    have h := nd_at h ez29
    refine lv_istore (lv' := [(4, .int z29), (0, .ref (a 0)), (1, .int x1), (2, .int x2), (3, .int x3), (5, .int x5), (7, .int x7)]) hx hb dX9_nameAt_186 hl (by decide) rfl (fun ls hl => ?_)
    obtain ⟨z30, ez30, h⟩ := nd_let_e h
    refine lv_iinc (v := z30) (lv' := [(5, .int z30), (4, .int z29), (0, .ref (a 0)), (1, .int x1), (2, .int x2), (3, .int x3), (7, .int x7)]) hx hb dX9_nameAt_188 hl (k := 5) rfl (by rw [ez30]) (by decide) rfl (fun ls hl => ?_)
    refine lv_goto (tgt := 71) hx hb dX9_nameAt_191 (by decide) ?_
    exact (J71) (x1) (x2) (x3) (z29) (z30) s0 _ _ _ h hP hD hS (lv_sub hl [2, 3, 4, 5, 1, 0] rfl)
  · have h := nd_neg h c27
    refine lv_iload hx hb dX9_nameAt_170 (lv_at hl 4 rfl) ?_
    exact K _ _ _ _ _ _ dX9_nameAt_172 rfl (Option.some.inj h).symm hP hD hS
set_option maxHeartbeats 40000000 in
set_option maxRecDepth 100000 in
theorem db_X9_nameAt_157 {p : Program} {l : Launch} {e : Env} {s : State} {m : MethodId} {args : Array Value} {below : List Frame} {meth : Method} {c : Code} {Q : State → Prop} {A : Nat → Prop} {dC : Nat → ClassId} {dI : Nat → Nat → Nat} {a : Nat → Nat} {ac : Nat → ClassId} {n : Nat} {r : Int32 × (St)} (C : nd_C p l s m args c A (dC, dI) cX9_nameAt 9 RX9 ow_dm_X9_nameAt (dk_X9 ac)) (K : nd_Ki p l e (headSpec ow_dm_X9_nameAt ({ frames := 0, cells := 0, slots := 0, locals := 0 })).room s m args below meth c Q A (dC, dI) cX9_nameAt .int (St) (dw_X9 a ac) r) {g71 : Int32 → Int32 → Int32 → Int32 → Int32 → (St) → Option (Int32 × (St))} {g119 : Int32 → Int32 → Int32 → Int32 → Int32 → Int32 → Int32 → Int32 → (St) → Option (Int32 × (St))} (J71 : dj_X9_nameAt_71 p l e s m args below meth c Q A dC dI a ac g71 r) (J119 : dj_X9_nameAt_119 p l e s m args below meth c Q A dC dI a ac g119 r) : dj_X9_nameAt_157 p l e s m args below meth c Q A dC dI a ac (df_X9_nameAt_157 n g71 g119) r := by
  obtain ⟨hlt, hx, hb, hml, hown, hts, hN, hA, hK⟩ := id C
  intro x1 x2 x3 x4 x5 x6 x8 y0 s0 H locs ls h hP hD hS hl
  unfold df_X9_nameAt_157 at h
  refine lv_istore (lv' := [(7, .int y0), (0, .ref (a 0)), (1, .int x1), (2, .int x2), (3, .int x3), (4, .int x4), (5, .int x5), (6, .int x6), (8, .int x8)]) hx hb dX9_nameAt_157 hl (by decide) rfl (fun ls hl => ?_)
  obtain ⟨z37, ez37, h⟩ := nd_let_e h
  refine lv_iinc (v := z37) (lv' := [(8, .int z37), (7, .int y0), (0, .ref (a 0)), (1, .int x1), (2, .int x2), (3, .int x3), (4, .int x4), (5, .int x5), (6, .int x6)]) hx hb dX9_nameAt_159 hl (k := 8) rfl (by rw [ez37]) (by decide) rfl (fun ls hl => ?_)
  refine lv_goto (tgt := 119) hx hb dX9_nameAt_162 (by decide) ?_
  exact (J119) (x1) (x2) (x3) (x4) (x5) (x6) (y0) (z37) s0 _ _ _ h hP hD hS (lv_sub hl [2, 3, 4, 5, 6, 7, 8, 1, 0] rfl)
set_option maxHeartbeats 40000000 in
set_option maxRecDepth 100000 in
theorem dB_X9_nameAt_119 {p : Program} {l : Launch} {e : Env} {s : State} {m : MethodId} {args : Array Value} {below : List Frame} {meth : Method} {c : Code} {Q : State → Prop} {A : Nat → Prop} {dC : Nat → ClassId} {dI : Nat → Nat → Nat} {a : Nat → Nat} {ac : Nat → ClassId} {n : Nat} {r : Int32 × (St)} (C : nd_C p l s m args c A (dC, dI) cX9_nameAt 9 RX9 ow_dm_X9_nameAt (dk_X9 ac)) (K : nd_Ki p l e (headSpec ow_dm_X9_nameAt ({ frames := 0, cells := 0, slots := 0, locals := 0 })).room s m args below meth c Q A (dC, dI) cX9_nameAt .int (St) (dw_X9 a ac) r) {g71 : Int32 → Int32 → Int32 → Int32 → Int32 → (St) → Option (Int32 × (St))} (J71 : dj_X9_nameAt_71 p l e s m args below meth c Q A dC dI a ac g71 r) {g119 : Int32 → Int32 → Int32 → Int32 → Int32 → Int32 → Int32 → Int32 → (St) → Option (Int32 × (St))} (J119 : dj_X9_nameAt_119 p l e s m args below meth c Q A dC dI a ac g119 r) : dj_X9_nameAt_119 p l e s m args below meth c Q A dC dI a ac (dF_X9_nameAt_119 n g71 g119) r := by
  obtain ⟨hlt, hx, hb, hml, hown, hts, hN, hA, hK⟩ := id C
  intro x1 x2 x3 x4 x5 x6 x7 x8 s0 H locs ls h hP hD hS hl
  unfold dF_X9_nameAt_119 at h
  refine lv_iload hx hb dX9_nameAt_119 (lv_at hl 7 rfl) ?_
  refine lv_if_eq (tgt := 165) hx hb dX9_nameAt_121 (by decide) (fun c26 => ?_) (fun c26 => ?_)
  · have h := nd_pos h c26
    exact (db_X9_nameAt_165 C K J71) (x1) (x2) (x3) (x4) (x5) (x7) s0 _ _ _ h hP hD hS (lv_sub hl [0, 1, 2, 3, 4, 5, 7] rfl)
  · have h := nd_neg h c26
    refine lv_iload hx hb dX9_nameAt_124 (lv_at hl 8 rfl) ?_
    refine lv_iload_n hx hb dX9_nameAt_126 rfl (lv_at hl 2 rfl) ?_
    refine lv_icmp_ge (tgt := 165) hx hb dX9_nameAt_127 (by decide) (fun c31 => ?_) (fun c31 => ?_)
    · have h := nd_pos h c31
      exact (db_X9_nameAt_165 C K J71) (x1) (x2) (x3) (x4) (x5) (x7) s0 _ _ _ h hP hD hS (lv_sub hl [0, 1, 2, 3, 4, 5, 7] rfl)
    · have h := nd_neg h c31
      refine lv_aload_n hx hb dX9_nameAt_130 rfl (lv_at hl 0 rfl) ?_
      obtain ⟨o32, h⟩ := nd_o_e h
      refine va_get (D := (dC, dI)) (ci := 10) (v := .ref (a 8)) (C := RX9) (T := TX9) (N := 20) hx hb hts hi_dm_X9_nameAt_X9 hown hK hP 0 rfl rfl 0 (by decide) (hts (.fieldLink RX9 9 "TimeMachine$Reader" "source" "[B") (List.mem_of_getElem? (i := 4) rfl)) (fun _ h9 => h9) (congrArg (fun z => some (va_rf (Option.map a z))) o32) dX9_nameAt_131 ?_
      refine lv_iload hx hb dX9_nameAt_134 (lv_at hl 6 rfl) ?_
      refine lv_iload hx hb dX9_nameAt_136 (lv_at hl 8 rfl) ?_
      refine lv_iadd hx hb dX9_nameAt_138 ?_
      obtain ⟨i33, h⟩ := nd_ck_e h
      refine va_bald (i := (x6 + x8)) hx hb hK hP 8 7 rfl rfl i33 dX9_nameAt_139 ?_
      refine lv_aload_n hx hb dX9_nameAt_140 rfl (lv_at hl 0 rfl) ?_
      obtain ⟨o34, h⟩ := nd_o_e h
      refine va_get (D := (dC, dI)) (ci := 10) (v := .ref (a 8)) (C := RX9) (T := TX9) (N := 20) hx hb hts hi_dm_X9_nameAt_X9 hown hK hP 0 rfl rfl 0 (by decide) (hts (.fieldLink RX9 9 "TimeMachine$Reader" "source" "[B") (List.mem_of_getElem? (i := 4) rfl)) (fun _ h9 => h9) (congrArg (fun z => some (va_rf (Option.map a z))) o34) dX9_nameAt_141 ?_
      refine lv_iload_n hx hb dX9_nameAt_144 rfl (lv_at hl 1 rfl) ?_
      refine lv_iload hx hb dX9_nameAt_145 (lv_at hl 8 rfl) ?_
      refine lv_iadd hx hb dX9_nameAt_147 ?_
      obtain ⟨i35, h⟩ := nd_ck_e h
      refine va_bald (i := (x1 + x8)) hx hb hK hP 8 7 rfl rfl i35 dX9_nameAt_148 ?_
      refine lv_icmp_ne (tgt := 156) hx hb dX9_nameAt_149 (by decide) (fun c36 => ?_) (fun c36 => ?_)
      · have h := nd_neg h c36
        refine lv_iconst (v := 0) hx hb dX9_nameAt_156 (by decide) ?_
        exact (db_X9_nameAt_157 C K J71 J119) (x1) (x2) (x3) (x4) (x5) (x6) (x8) (0) s0 _ _ _ h hP hD hS (lv_sub hl [0, 1, 2, 3, 4, 5, 6, 8] rfl)
      · have h := nd_pos h c36
        refine lv_iconst (v := 1) hx hb dX9_nameAt_152 (by decide) ?_
        refine lv_goto (tgt := 157) hx hb dX9_nameAt_153 (by decide) ?_
        exact (db_X9_nameAt_157 C K J71 J119) (x1) (x2) (x3) (x4) (x5) (x6) (x8) (1) s0 _ _ _ h hP hD hS (lv_sub hl [0, 1, 2, 3, 4, 5, 6, 8] rfl)
set_option maxHeartbeats 40000000 in
set_option maxRecDepth 100000 in
theorem db_X9_nameAt_119 {p : Program} {l : Launch} {e : Env} {s : State} {m : MethodId} {args : Array Value} {below : List Frame} {meth : Method} {c : Code} {Q : State → Prop} {A : Nat → Prop} {dC : Nat → ClassId} {dI : Nat → Nat → Nat} {a : Nat → Nat} {ac : Nat → ClassId} {n : Nat} {r : Int32 × (St)} (C : nd_C p l s m args c A (dC, dI) cX9_nameAt 9 RX9 ow_dm_X9_nameAt (dk_X9 ac)) (K : nd_Ki p l e (headSpec ow_dm_X9_nameAt ({ frames := 0, cells := 0, slots := 0, locals := 0 })).room s m args below meth c Q A (dC, dI) cX9_nameAt .int (St) (dw_X9 a ac) r) {g71 : Int32 → Int32 → Int32 → Int32 → Int32 → (St) → Option (Int32 × (St))} (J71 : dj_X9_nameAt_71 p l e s m args below meth c Q A dC dI a ac g71 r) (k : Nat) : dj_X9_nameAt_119 p l e s m args below meth c Q A dC dI a ac (df_X9_nameAt_119 n g71 k) r := by
  induction k with
  | zero => intro x1 x2 x3 x4 x5 x6 x7 x8 s0 H locs ls h; exact nomatch (show (none : Option (Int32 × (St))) = some r from h)
  | succ k ih => exact dB_X9_nameAt_119 C K J71 ih
set_option maxHeartbeats 40000000 in
set_option maxRecDepth 100000 in
theorem db_X9_nameAt_114 {p : Program} {l : Launch} {e : Env} {s : State} {m : MethodId} {args : Array Value} {below : List Frame} {meth : Method} {c : Code} {Q : State → Prop} {A : Nat → Prop} {dC : Nat → ClassId} {dI : Nat → Nat → Nat} {a : Nat → Nat} {ac : Nat → ClassId} {n : Nat} {r : Int32 × (St)} (C : nd_C p l s m args c A (dC, dI) cX9_nameAt 9 RX9 ow_dm_X9_nameAt (dk_X9 ac)) (K : nd_Ki p l e (headSpec ow_dm_X9_nameAt ({ frames := 0, cells := 0, slots := 0, locals := 0 })).room s m args below meth c Q A (dC, dI) cX9_nameAt .int (St) (dw_X9 a ac) r) {g71 : Int32 → Int32 → Int32 → Int32 → Int32 → (St) → Option (Int32 × (St))} (J71 : dj_X9_nameAt_71 p l e s m args below meth c Q A dC dI a ac g71 r) : dj_X9_nameAt_114 p l e s m args below meth c Q A dC dI a ac (df_X9_nameAt_114 n g71) r := by
  obtain ⟨hlt, hx, hb, hml, hown, hts, hN, hA, hK⟩ := id C
  intro x1 x2 x3 x4 x5 x6 y0 s0 H locs ls h hP hD hS hl
  unfold df_X9_nameAt_114 at h
  refine lv_istore (lv' := [(7, .int y0), (0, .ref (a 0)), (1, .int x1), (2, .int x2), (3, .int x3), (4, .int x4), (5, .int x5), (6, .int x6)]) hx hb dX9_nameAt_114 hl (by decide) rfl (fun ls hl => ?_)
  refine lv_iconst (v := 0) hx hb dX9_nameAt_116 (by decide) ?_
  refine lv_istore (lv' := [(8, .int 0), (7, .int y0), (0, .ref (a 0)), (1, .int x1), (2, .int x2), (3, .int x3), (4, .int x4), (5, .int x5), (6, .int x6)]) hx hb dX9_nameAt_117 hl (by decide) rfl (fun ls hl => ?_)
  exact (db_X9_nameAt_119 C K J71 n) (x1) (x2) (x3) (x4) (x5) (x6) (y0) (0) s0 _ _ _ h hP hD hS (lv_sub hl [2, 3, 4, 5, 6, 7, 8, 1, 0] rfl)
set_option maxHeartbeats 40000000 in
set_option maxRecDepth 100000 in
theorem dB_X9_nameAt_71 {p : Program} {l : Launch} {e : Env} {s : State} {m : MethodId} {args : Array Value} {below : List Frame} {meth : Method} {c : Code} {Q : State → Prop} {A : Nat → Prop} {dC : Nat → ClassId} {dI : Nat → Nat → Nat} {a : Nat → Nat} {ac : Nat → ClassId} {n : Nat} {r : Int32 × (St)} (C : nd_C p l s m args c A (dC, dI) cX9_nameAt 9 RX9 ow_dm_X9_nameAt (dk_X9 ac)) (K : nd_Ki p l e (headSpec ow_dm_X9_nameAt ({ frames := 0, cells := 0, slots := 0, locals := 0 })).room s m args below meth c Q A (dC, dI) cX9_nameAt .int (St) (dw_X9 a ac) r) {g71 : Int32 → Int32 → Int32 → Int32 → Int32 → (St) → Option (Int32 × (St))} (J71 : dj_X9_nameAt_71 p l e s m args below meth c Q A dC dI a ac g71 r) : dj_X9_nameAt_71 p l e s m args below meth c Q A dC dI a ac (dF_X9_nameAt_71 n g71) r := by
  obtain ⟨hlt, hx, hb, hml, hown, hts, hN, hA, hK⟩ := id C
  intro x1 x2 x3 x4 x5 s0 H locs ls h hP hD hS hl
  unfold dF_X9_nameAt_71 at h
  refine lv_iload hx hb dX9_nameAt_71 (lv_at hl 5 rfl) ?_
  refine lv_if_le (tgt := 194) hx hb dX9_nameAt_73 (by decide) (fun c6 => ?_) (fun c6 => ?_)
  · have h := nd_pos h c6
    exact (db_X9_nameAt_194 C K) (x1) (x2) (x3) s0 _ _ _ h hP hD hS (lv_sub hl [0, 1, 2, 3] rfl)
  · have h := nd_neg h c6
    refine lv_iload hx hb dX9_nameAt_76 (lv_at hl 4 rfl) ?_
    refine lv_if_lt (tgt := 194) hx hb dX9_nameAt_78 (by decide) (fun c21 => ?_) (fun c21 => ?_)
    · have h := nd_pos h c21
      exact (db_X9_nameAt_194 C K) (x1) (x2) (x3) s0 _ _ _ h hP hD hS (lv_sub hl [0, 1, 2, 3] rfl)
    · have h := nd_neg h c21
      refine lv_aload_n hx hb dX9_nameAt_81 rfl (lv_at hl 0 rfl) ?_
      refine va_get (D := (dC, dI)) (ci := 10) (v := .ref (a 4)) (C := RX9) (T := TX9) (N := 20) hx hb hts hi_dm_X9_nameAt_X9 hown hK hP 0 rfl rfl 12 (by decide) (hts (.fieldLink RX9 27 "TimeMachine$Reader" "name" "[I") (List.mem_of_getElem? (i := 3) rfl)) (fun _ h9 => h9) rfl dX9_nameAt_82 ?_
      refine lv_iload hx hb dX9_nameAt_85 (lv_at hl 4 rfl) ?_
      refine lv_iconst (v := 5) hx hb dX9_nameAt_87 (by decide) ?_
      refine lv_imul hx hb dX9_nameAt_88 ?_
      refine lv_iconst (v := 0) hx hb dX9_nameAt_89 (by decide) ?_
      refine lv_iadd hx hb dX9_nameAt_90 ?_
      obtain ⟨i22, h⟩ := nd_ck_e h
      refine va_iald (i := ((x4 * 5) + 0)) hx hb hK hP 4 3 rfl rfl i22 dX9_nameAt_91 ?_
      refine lv_topi (fun z23 ez23 => ?_)
      have h := nd_at h ez23
      refine lv_istore (lv' := [(6, .int z23), (0, .ref (a 0)), (1, .int x1), (2, .int x2), (3, .int x3), (4, .int x4), (5, .int x5)]) hx hb dX9_nameAt_92 hl (by decide) rfl (fun ls hl => ?_)
      refine lv_aload_n hx hb dX9_nameAt_94 rfl (lv_at hl 1 rfl) ?_
      refine va_get (D := (dC, dI)) (ci := 10) (v := .ref (a 4)) (C := RX9) (T := TX9) (N := 20) hx hb hts hi_dm_X9_nameAt_X9 hown hK hP 0 rfl rfl 12 (by decide) (hts (.fieldLink RX9 27 "TimeMachine$Reader" "name" "[I") (List.mem_of_getElem? (i := 3) rfl)) (fun _ h9 => h9) rfl dX9_nameAt_95 ?_
      refine lv_iload hx hb dX9_nameAt_98 (lv_at hl 5 rfl) ?_
      refine lv_iconst (v := 5) hx hb dX9_nameAt_100 (by decide) ?_
      refine lv_imul hx hb dX9_nameAt_101 ?_
      refine lv_iconst (v := 1) hx hb dX9_nameAt_102 (by decide) ?_
      refine lv_iadd hx hb dX9_nameAt_103 ?_
      obtain ⟨i24, h⟩ := nd_ck_e h
      refine va_iald (i := ((x4 * 5) + 1)) hx hb hK hP 4 3 rfl rfl i24 dX9_nameAt_104 ?_
      refine lv_iload_n hx hb dX9_nameAt_105 rfl (lv_at hl 3 rfl) ?_
      refine lv_icmp_ne (tgt := 113) hx hb dX9_nameAt_106 (by decide) (fun c25 => ?_) (fun c25 => ?_)
      · have h := nd_neg h c25
        refine lv_iconst (v := 0) hx hb dX9_nameAt_113 (by decide) ?_
        exact (db_X9_nameAt_114 C K J71) (x1) (x2) (x3) (x4) (x5) (z23) (0) s0 _ _ _ h hP hD hS (lv_sub hl [1, 2, 3, 4, 5, 6, 0] rfl)
      · have h := nd_pos h c25
        refine lv_iconst (v := 1) hx hb dX9_nameAt_109 (by decide) ?_
        refine lv_goto (tgt := 114) hx hb dX9_nameAt_110 (by decide) ?_
        exact (db_X9_nameAt_114 C K J71) (x1) (x2) (x3) (x4) (x5) (z23) (1) s0 _ _ _ h hP hD hS (lv_sub hl [1, 2, 3, 4, 5, 6, 0] rfl)
set_option maxHeartbeats 40000000 in
set_option maxRecDepth 100000 in
theorem db_X9_nameAt_71 {p : Program} {l : Launch} {e : Env} {s : State} {m : MethodId} {args : Array Value} {below : List Frame} {meth : Method} {c : Code} {Q : State → Prop} {A : Nat → Prop} {dC : Nat → ClassId} {dI : Nat → Nat → Nat} {a : Nat → Nat} {ac : Nat → ClassId} {n : Nat} {r : Int32 × (St)} (C : nd_C p l s m args c A (dC, dI) cX9_nameAt 9 RX9 ow_dm_X9_nameAt (dk_X9 ac)) (K : nd_Ki p l e (headSpec ow_dm_X9_nameAt ({ frames := 0, cells := 0, slots := 0, locals := 0 })).room s m args below meth c Q A (dC, dI) cX9_nameAt .int (St) (dw_X9 a ac) r) (k : Nat) : dj_X9_nameAt_71 p l e s m args below meth c Q A dC dI a ac (df_X9_nameAt_71 n k) r := by
  induction k with
  | zero => intro x1 x2 x3 x4 x5 s0 H locs ls h; exact nomatch (show (none : Option (Int32 × (St))) = some r from h)
  | succ k ih => exact dB_X9_nameAt_71 C K ih
set_option maxHeartbeats 40000000 in
set_option maxRecDepth 100000 in
theorem db_X9_nameAt_44 {p : Program} {l : Launch} {e : Env} {s : State} {m : MethodId} {args : Array Value} {below : List Frame} {meth : Method} {c : Code} {Q : State → Prop} {A : Nat → Prop} {dC : Nat → ClassId} {dI : Nat → Nat → Nat} {a : Nat → Nat} {ac : Nat → ClassId} {n : Nat} {r : Int32 × (St)} (C : nd_C p l s m args c A (dC, dI) cX9_nameAt 9 RX9 ow_dm_X9_nameAt (dk_X9 ac)) (K : nd_Ki p l e (headSpec ow_dm_X9_nameAt ({ frames := 0, cells := 0, slots := 0, locals := 0 })).room s m args below meth c Q A (dC, dI) cX9_nameAt .int (St) (dw_X9 a ac) r) : dj_X9_nameAt_44 p l e s m args below meth c Q A dC dI a ac (df_X9_nameAt_44 n) r := by
  obtain ⟨hlt, hx, hb, hml, hown, hts, hN, hA, hK⟩ := id C
  intro x1 x2 x3 s0 H locs ls h hP hD hS hl
  unfold df_X9_nameAt_44 at h
  refine lv_iload_n hx hb dX9_nameAt_44 rfl (lv_at hl 3 rfl) ?_
  refine lv_iload_n hx hb dX9_nameAt_45 rfl (lv_at hl 3 rfl) ?_
  refine lv_bipush (v := 8) hx hb dX9_nameAt_46 (by decide) ?_
  refine lv_ishr hx hb dX9_nameAt_48 ?_
  refine lv_ixor hx hb dX9_nameAt_49 ?_
  refine lv_sipush (v := 255) hx hb dX9_nameAt_50 (by decide) ?_
  refine lv_iand hx hb dX9_nameAt_53 ?_
  refine lv_topi (fun z2 ez2 => ?_)
  have h := nd_at h ez2
  refine lv_istore_n (lv' := [(3, .int z2), (0, .ref (a 0)), (1, .int x1), (2, .int x2)]) hx hb dX9_nameAt_54 rfl hl (by decide) rfl (fun ls hl => ?_)
  refine lv_aload_n hx hb dX9_nameAt_55 rfl (lv_at hl 1 rfl) ?_
  refine va_get (D := (dC, dI)) (ci := 10) (v := .ref (a 5)) (C := RX9) (T := TX9) (N := 20) hx hb hts hi_dm_X9_nameAt_X9 hown hK hP 0 rfl rfl 14 (by decide) (hts (.fieldLink RX9 30 "TimeMachine$Reader" "bucket" "[I") (List.mem_of_getElem? (i := 1) rfl)) (fun _ h9 => h9) rfl dX9_nameAt_56 ?_
  refine lv_iload_n hx hb dX9_nameAt_59 rfl (lv_at hl 0 rfl) ?_
  obtain ⟨i3, h⟩ := nd_ck_e h
  refine va_iald (i := z2) hx hb hK hP 5 4 rfl rfl i3 dX9_nameAt_60 ?_
  refine lv_iconst (v := 1) hx hb dX9_nameAt_61 (by decide) ?_
  refine lv_isub hx hb dX9_nameAt_62 ?_
  refine lv_topi (fun z4 ez4 => ?_)
  have h := nd_at h ez4
  refine lv_istore (lv' := [(4, .int z4), (3, .int z2), (0, .ref (a 0)), (1, .int x1), (2, .int x2)]) hx hb dX9_nameAt_63 hl (by decide) rfl (fun ls hl => ?_)
  refine lv_aload_n hx hb dX9_nameAt_65 rfl (lv_at hl 2 rfl) ?_
  refine va_get (D := (dC, dI)) (ci := 10) (v := .int (sI s0 8)) (C := RX9) (T := TX9) (N := 20) hx hb hts hi_dm_X9_nameAt_X9 hown hK hP 0 rfl rfl 13 (by decide) (hts (.fieldLink RX9 43 "TimeMachine$Reader" "names" "I") (List.mem_of_getElem? (i := 2) rfl)) (fun _ h9 => h9) rfl dX9_nameAt_66 ?_
  refine lv_topi (fun z5 ez5 => ?_)
  have h := nd_at h ez5
  refine lv_istore (lv' := [(5, .int z5), (4, .int z4), (3, .int z2), (0, .ref (a 0)), (1, .int x1), (2, .int x2)]) hx hb dX9_nameAt_69 hl (by decide) rfl (fun ls hl => ?_)
  exact (db_X9_nameAt_71 C K n) (x1) (x2) (z2) (z4) (z5) s0 _ _ _ h hP hD hS (lv_sub hl [3, 4, 5, 2, 1, 0] rfl)
set_option maxHeartbeats 40000000 in
set_option maxRecDepth 100000 in
theorem dB_X9_nameAt_5 {p : Program} {l : Launch} {e : Env} {s : State} {m : MethodId} {args : Array Value} {below : List Frame} {meth : Method} {c : Code} {Q : State → Prop} {A : Nat → Prop} {dC : Nat → ClassId} {dI : Nat → Nat → Nat} {a : Nat → Nat} {ac : Nat → ClassId} {n : Nat} {r : Int32 × (St)} (C : nd_C p l s m args c A (dC, dI) cX9_nameAt 9 RX9 ow_dm_X9_nameAt (dk_X9 ac)) (K : nd_Ki p l e (headSpec ow_dm_X9_nameAt ({ frames := 0, cells := 0, slots := 0, locals := 0 })).room s m args below meth c Q A (dC, dI) cX9_nameAt .int (St) (dw_X9 a ac) r) {g5 : Int32 → Int32 → Int32 → Int32 → (St) → Option (Int32 × (St))} (J5 : dj_X9_nameAt_5 p l e s m args below meth c Q A dC dI a ac g5 r) : dj_X9_nameAt_5 p l e s m args below meth c Q A dC dI a ac (dF_X9_nameAt_5 n g5) r := by
  obtain ⟨hlt, hx, hb, hml, hown, hts, hN, hA, hK⟩ := id C
  intro x1 x2 x3 x4 s0 H locs ls h hP hD hS hl
  unfold dF_X9_nameAt_5 at h
  refine lv_iload hx hb dX9_nameAt_5 (lv_at hl 4 rfl) ?_
  refine lv_iload_n hx hb dX9_nameAt_7 rfl (lv_at hl 2 rfl) ?_
  refine lv_icmp_ge (tgt := 44) hx hb dX9_nameAt_8 (by decide) (fun c1 => ?_) (fun c1 => ?_)
  · have h := nd_pos h c1
    exact (db_X9_nameAt_44 C K) (x1) (x2) (x3) s0 _ _ _ h hP hD hS (lv_sub hl [0, 1, 2, 3] rfl)
  · have h := nd_neg h c1
    refine lv_iload_n hx hb dX9_nameAt_11 rfl (lv_at hl 1 rfl) ?_
    refine lv_iload hx hb dX9_nameAt_12 (lv_at hl 4 rfl) ?_
    refine lv_iadd hx hb dX9_nameAt_14 ?_
    refine lv_aload_n hx hb dX9_nameAt_15 rfl (lv_at hl 0 rfl) ?_
    obtain ⟨o38, h⟩ := nd_o_e h
    refine va_get (D := (dC, dI)) (ci := 10) (v := .ref (a 8)) (C := RX9) (T := TX9) (N := 20) hx hb hts hi_dm_X9_nameAt_X9 hown hK hP 0 rfl rfl 0 (by decide) (hts (.fieldLink RX9 9 "TimeMachine$Reader" "source" "[B") (List.mem_of_getElem? (i := 4) rfl)) (fun _ h9 => h9) (congrArg (fun z => some (va_rf (Option.map a z))) o38) dX9_nameAt_16 ?_
    refine va_alen (v := 32768) hx hb hK hP 8 7 rfl rfl (show Int32.ofNat 32768 = 32768 by decide) dX9_nameAt_19 ?_
    refine lv_icmp_ge (tgt := 44) hx hb dX9_nameAt_20 (by decide) (fun c39 => ?_) (fun c39 => ?_)
    · have h := nd_pos h c39
      exact (db_X9_nameAt_44 C K) (x1) (x2) (x3) s0 _ _ _ h hP hD hS (lv_sub hl [0, 1, 2, 3] rfl)
    · have h := nd_neg h c39
      refine lv_iload_n hx hb dX9_nameAt_23 rfl (lv_at hl 3 rfl) ?_
      refine lv_bipush (v := 31) hx hb dX9_nameAt_24 (by decide) ?_
      refine lv_imul hx hb dX9_nameAt_26 ?_
      refine lv_aload_n hx hb dX9_nameAt_27 rfl (lv_at hl 0 rfl) ?_
      obtain ⟨o40, h⟩ := nd_o_e h
      refine va_get (D := (dC, dI)) (ci := 10) (v := .ref (a 8)) (C := RX9) (T := TX9) (N := 20) hx hb hts hi_dm_X9_nameAt_X9 hown hK hP 0 rfl rfl 0 (by decide) (hts (.fieldLink RX9 9 "TimeMachine$Reader" "source" "[B") (List.mem_of_getElem? (i := 4) rfl)) (fun _ h9 => h9) (congrArg (fun z => some (va_rf (Option.map a z))) o40) dX9_nameAt_28 ?_
      refine lv_iload_n hx hb dX9_nameAt_31 rfl (lv_at hl 1 rfl) ?_
      refine lv_iload hx hb dX9_nameAt_32 (lv_at hl 4 rfl) ?_
      refine lv_iadd hx hb dX9_nameAt_34 ?_
      obtain ⟨i41, h⟩ := nd_ck_e h
      refine va_bald (i := (x1 + x4)) hx hb hK hP 8 7 rfl rfl i41 dX9_nameAt_35 ?_
      refine lv_iadd hx hb dX9_nameAt_36 ?_
      refine lv_topi (fun z42 ez42 => ?_)
      have h := nd_at h ez42
      refine lv_istore_n (lv' := [(3, .int z42), (0, .ref (a 0)), (1, .int x1), (2, .int x2), (4, .int x4)]) hx hb dX9_nameAt_37 rfl hl (by decide) rfl (fun ls hl => ?_)
      obtain ⟨z43, ez43, h⟩ := nd_let_e h
      refine lv_iinc (v := z43) (lv' := [(4, .int z43), (3, .int z42), (0, .ref (a 0)), (1, .int x1), (2, .int x2)]) hx hb dX9_nameAt_38 hl (k := 4) rfl (by rw [ez43]) (by decide) rfl (fun ls hl => ?_)
      refine lv_goto (tgt := 5) hx hb dX9_nameAt_41 (by decide) ?_
      exact (J5) (x1) (x2) (z42) (z43) s0 _ _ _ h hP hD hS (lv_sub hl [2, 3, 4, 1, 0] rfl)
set_option maxHeartbeats 40000000 in
set_option maxRecDepth 100000 in
theorem db_X9_nameAt_5 {p : Program} {l : Launch} {e : Env} {s : State} {m : MethodId} {args : Array Value} {below : List Frame} {meth : Method} {c : Code} {Q : State → Prop} {A : Nat → Prop} {dC : Nat → ClassId} {dI : Nat → Nat → Nat} {a : Nat → Nat} {ac : Nat → ClassId} {n : Nat} {r : Int32 × (St)} (C : nd_C p l s m args c A (dC, dI) cX9_nameAt 9 RX9 ow_dm_X9_nameAt (dk_X9 ac)) (K : nd_Ki p l e (headSpec ow_dm_X9_nameAt ({ frames := 0, cells := 0, slots := 0, locals := 0 })).room s m args below meth c Q A (dC, dI) cX9_nameAt .int (St) (dw_X9 a ac) r) (k : Nat) : dj_X9_nameAt_5 p l e s m args below meth c Q A dC dI a ac (df_X9_nameAt_5 n k) r := by
  induction k with
  | zero => intro x1 x2 x3 x4 s0 H locs ls h; exact nomatch (show (none : Option (Int32 × (St))) = some r from h)
  | succ k ih => exact dB_X9_nameAt_5 C K ih

