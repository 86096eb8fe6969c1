def dw_HO (ao : Nat) (co : ClassId) (o : Nat → Int64) (a : Nat → Nat) (ac : Nat → ClassId) (σ : S12) : va_W := ([(ao, .inl (co, 1, .inr (.inl o)))] : va_W) ++ dw_X12 a ac σ
def dk_HO (co : ClassId) (ac : Nat → ClassId) : List (ClassId × FieldType) := ([(co, .long)] : List (ClassId × FieldType)) ++ dk_X12 ac
abbrev cL_assemble : ByteArray := method_3_code
def yL_assemble : MethodName := ⟨RL, "assemble", "(LTimeMachine;I[J)I"⟩
theorem dL_assemble_0 : decode cL_assemble 0 = .ok (.aload_n 2, 1) := by decide +kernel
theorem dL_assemble_1 : decode cL_assemble 1 = .ok (.iconst 0, 1) := by decide +kernel
theorem dL_assemble_2 : decode cL_assemble 2 = .ok (.aload_n 0, 1) := by decide +kernel
theorem dL_assemble_3 : decode cL_assemble 3 = .ok (.iload_n 1, 1) := by decide +kernel
theorem dL_assemble_4 : decode cL_assemble 4 = .ok (.invokevirtual 7, 3) := by decide +kernel
theorem dL_assemble_7 : decode cL_assemble 7 = .ok (.i2l, 1) := by decide +kernel
theorem dL_assemble_8 : decode cL_assemble 8 = .ok (.lastore, 1) := by decide +kernel
theorem dL_assemble_9 : decode cL_assemble 9 = .ok (.goto 6, 3) := by decide +kernel
theorem dL_assemble_12 : decode cL_assemble 12 = .ok (.astore_n 3, 1) := by decide +kernel
theorem dL_assemble_13 : decode cL_assemble 13 = .ok (.iconst 1, 1) := by decide +kernel
theorem dL_assemble_14 : decode cL_assemble 14 = .ok (.ireturn, 1) := by decide +kernel
theorem dL_assemble_15 : decode cL_assemble 15 = .ok (.iconst 0, 1) := by decide +kernel
theorem dL_assemble_16 : decode cL_assemble 16 = .ok (.ireturn, 1) := by decide +kernel
def ow_dm_L_assemble : List Cond := Cond.codeWith yL_assemble cL_assemble 4 (some .int) [(0, 9, 12, 13)] :: ([Cond.methodLink RL 7 yX12_assemble, Cond.instanceMethod yX12_assemble, Cond.selects RX12 yX12_assemble yX12_assemble, Cond.initialized RX12, Cond.classLink RL 13 "java/lang/IllegalArgumentException"] ++ (ow_dm_X12_assemble ++ []))
theorem gd_dm_L_assemble : ∀ w ∈ ow_dm_L_assemble, (w.onTables && w.keeps) = true ∨ ∃ ty, w = Cond.arrayClass ty := List.forall_mem_cons.mpr ⟨good_of_word rfl, List.forall_mem_append.mpr ⟨fun w h => good_of_word (List.all_eq_true.mp (by decide +kernel) w h), List.forall_mem_append.mpr ⟨gd_dm_X12_assemble, fun _ h => nomatch h⟩⟩⟩
theorem gi_dm_L_assemble_0 : GoodIn ow_dm_L_assemble (wsV RL 7 RX12 yX12_assemble ow_dm_X12_assemble) := goodIn_app (goodIn_of _ (by decide +kernel)) (fun w h => ⟨List.mem_cons_of_mem _ (List.mem_append_right _ (List.mem_append_left _ h)), gd_dm_X12_assemble w h⟩)
set_option maxHeartbeats 40000000 in
set_option maxRecDepth 100000 in
theorem dm_L_assemble (l : Launch) (hlt : l.stackTraces = false) (dC : Nat → ClassId) (dI : Nat → Nat → Nat) (a : Nat → Nat) (ac : Nat → ClassId) (n : Nat) (ao : Nat) (co : ClassId) (v0 : Int32) (s0 : S12) (o : Nat → Int64) {r : (Int32 × S12) ⊕ (String × S12)} (h : df_X12_assemble n (a 15) (a 3) v0 s0 = some r) {k : Int32} {u : S12} {o' : Nat → Int64} (hr0 : lw_R1 Int32.toInt64 r k u o o') (sz : Nat) : Met l yL_assemble ow_dm_L_assemble ({ frames := 11, cells := 1, slots := 6, locals := 252 }) (va_Pc [.ref (a 0), .int v0, .ref ao] (fun U => U.heap.size = sz ∧ va_P (dC, dI) vwCl (dw_HO ao co o a ac s0) U.heap ∧ va_K (dC, dI) vwCl (dk_HO co ac) U ∧ va_D (fun _ => True) (dw_HO ao co o a ac s0) ∧ nv_E dI (va_A (dw_HO ao co o a ac s0) sz) U ∧ nv_Dc U)) (va_Qi (fun x _ => x = k) (fun (_ : Unit) t => va_P (dC, dI) vwCl (dw_HO ao co o' a ac u) t.heap ∧ va_K (dC, dI) vwCl (dk_HO co ac) t ∧ va_D (va_A (dw_HO ao co o a ac s0) sz) (dw_HO ao co o' a ac u)) (va_A (dw_HO ao co o a ac s0) sz)) 1 6 (va_A (dw_HO ao co o a ac s0) sz) := by
  refine va_MetW (hh := [(0, 9, 12, 13)]) (cc := cL_assemble) (maxL := 4) (ret := (some .int)) (by decide) rfl ?_
  intro p e s m args below meth c s₁ B hml hv
  obtain ⟨rfl, hsz, hP, hK, hD0, hN, hDe⟩ := hv
  have hx := B.exec
  have hb := B.bytes
  have hr := B.returns
  have hts := atoms_spec (ws := ow_dm_L_assemble) B.pre
  have hown : s.vm.findClass RL = some m.cls := findClass_of_methodNamed B.named
  have hlocks := B.notSynchronized
  have htab : c.exceptionTable.toList = tableOf [(0, 9, 12, 13)] := vx_table (x := yL_assemble) B (hts _ List.mem_cons_self)
  subst hsz
  have hD := hD0.self (sz := s.heap.size)
  generalize hAe : va_A (dw_HO ao co o a ac s0) s.heap.size = A at hD hN ⊢
  have hA : ∀ q : Nat, s.heap.size ≤ q → A q := fun q h => by rw [← hAe]; exact Or.inr h
  have hS : va_S A s.heap s.heap [] := va_S.rf
  have hl := lv_entry ([.ref (a 0), .int v0, .ref ao]) (n := 4) (Nat.le_of_ble_eq_true rfl)
  rw [lg_entry_eq]
  generalize (lg_sl ([.ref (a 0), .int v0, .ref ao]) ++ List.replicate (4 - (lg_sl ([.ref (a 0), .int v0, .ref ao])).length) Slot.unset).toArray = ls at hl ⊢
  have hl : lv_has ls 4 [(0, .ref (a 0)), (1, .int v0), (2, .ref ao)] := hl
  refine lv_aload_n hx hb dL_assemble_0 rfl (lv_at hl 2 rfl) ?_
  refine lv_iconst (v := 0) hx hb dL_assemble_1 (by decide) ?_
  refine lv_aload_n hx hb dL_assemble_2 rfl (lv_at hl 0 rfl) ?_
  refine lv_iload_n hx hb dL_assemble_3 rfl (lv_at hl 1 rfl) ?_
  have hPc : va_P (dC, dI) vwCl (dw_X12 a ac s0) s.heap := nd_pr hP
  have hDc : va_D A (dw_X12 a ac s0) := nd_dr hD
  have hKc : va_K (dC, dI) vwCl (dk_X12 ac) s := nd_yr hK
  have hFc := nd_rs hDc hS hA
  refine vx_calli (vx_runV (As := [.int v0]) (rest := [.int 0, .ref ao]) ⟨hx, hb, hml, hown, hts⟩ (dm_X12_assemble l hlt dC dI a ac n v0 s0 h s.heap.size) (cwV 1 hts gi_dm_L_assemble_0 rfl rfl rfl (by decide +kernel) ⟨Nat.le_of_ble_eq_true rfl, Nat.le_of_ble_eq_true rfl⟩) ⟨fun a U g mk q => by obtain ⟨q0, q1, qP, qK, qD, qN, qE⟩ := q; exact ⟨q0, q1, qP, va_K.moved (u := U) (U := U.calling g mk a) (Vm.Alike.refl U.vm) qK, qD, nv_same rfl rfl qN, nv_Dsame rfl qE⟩, va_recv hKc hPc (ci := 13) (q0 := 0) rfl rfl, fun U hU hW => ⟨rfl, by rw [hU], by rw [hU]; exact hPc, va_K.moved hW.alike hKc, hDc.weaken (fun _ _ _ _ => trivial), nv_call hS hFc hU hW hN, nv_Dcall hW hDe⟩⟩ rfl rfl hl.1 rfl (lv_room (Nat.le_of_ble_eq_true rfl)) dL_assemble_4 ⟨by decide +kernel, by decide +kernel⟩) hS (fun q _ h => hFc q h) hFc (fun q _ h => hFc q h) (fun E9 ce q9 ux t H1 locs ht hvm _ hw _ hk1 hS hce hcv hcl => ?_) (fun r1 u1 t H1 locs ht hvm hw hB hz1 hk1 hS => ?_)
  · obtain ⟨e9, hP1, hD1⟩ := hw
    rw [ht] at hP1
    obtain ⟨hP2, hD2, -⟩ := nd_stepR hP hD hk1 hP1 hD1
    have hD2 := hD2.weaken (fun k q _ h => nd_rq hD hA q.1 h)
    rcases hr0 with ⟨v, z1, z2, z3⟩ | ⟨z1, z2, z3⟩
    · cases e9.symm.trans z1
    · obtain ⟨ez, eu⟩ := Prod.mk.inj (Sum.inr.inj (e9.symm.trans z1))
      subst ez
      subst eu
      subst z3
      refine nw_catch (own := RL) (name := "java/lang/IllegalArgumentException") hown [] ⟨0, 9, 12, 13⟩ [] (htab.trans rfl) (fun z h9 => absurd h9 List.not_mem_nil) (by decide) (by decide) (hts (.classLink RL 13 "java/lang/IllegalArgumentException") (List.mem_of_getElem? (i := 5) rfl)) (va_Nw.use rfl hN.2.2.2.2.2.2.2.1) hce hcv hcl ?_
      refine W.eq (g2 := F0 m 12 ls [.ref q9]) rfl ?_
      refine W.widen (k := 1) (n := 6) (by decide +kernel) (by decide +kernel) ?_
      refine lv_astore_n (lv' := [(3, .ref q9), (0, .ref (a 0)), (1, .int v0), (2, .ref ao)]) hx hb dL_assemble_12 rfl hl (by decide) rfl (fun ls hl => ?_)
      refine lv_iconst (v := 1) hx hb dL_assemble_13 (by decide) ?_
      exact W.iret (v := 1) hx hb hr (fun t ht hW => ⟨⟨1, (), rfl, z2.symm, by rw [ht]; exact hP2, va_K.moved hW.alike hK, hD2⟩, hS.F ht⟩) hS.2.2 dL_assemble_14
  obtain ⟨hP1, -, hD1⟩ := hB
  rw [ht] at hP1
  obtain ⟨hP2, hD2, -⟩ := nd_stepR hP hD hk1 hP1 hD1
  have hD2 := hD2.weaken (fun k q _ h => nd_rq hD hA q.1 h)
  rcases hr0 with ⟨v, z1, z2, z3⟩ | ⟨z1, z2, z3⟩
  · obtain ⟨ez, eu⟩ := Prod.mk.inj (Sum.inl.inj (hw.symm.trans z1))
    subst ez
    subst eu
    subst z3
    refine W.widen (k := 1) (n := 6) (by decide +kernel) (by decide +kernel) ?_
    refine lv_i2l hx hb dL_assemble_7 rfl ?_
    refine va_last (i := 0) (x := Int32.toInt64 r1) hx hb hK hP2 hD2 hS 0 0 rfl rfl (vp_in_iff.mpr ⟨by decide, by decide⟩) dL_assemble_8 (fun H locs hP hD hS => ?_)
    refine lv_goto (tgt := 15) hx hb dL_assemble_9 (by decide) ?_
    refine lv_iconst (v := 0) hx hb dL_assemble_15 (by decide) ?_
    exact W.iret (v := 0) hx hb hr (fun t ht hW => ⟨⟨0, (), rfl, z2.symm, by rw [ht]; exact hP, va_K.moved hW.alike hK, hD⟩, hS.F ht⟩) hS.2.2 dL_assemble_16
  · cases hw.symm.trans z1
abbrev cL_boot : ByteArray := method_4_code
def yL_boot : MethodName := ⟨RL, "boot", "(LTimeMachine;I)I"⟩
theorem dL_boot_0 : decode cL_boot 0 = .ok (.aload_n 0, 1) := by decide +kernel
theorem dL_boot_1 : decode cL_boot 1 = .ok (.iload_n 1, 1) := by decide +kernel
theorem dL_boot_2 : decode cL_boot 2 = .ok (.invokevirtual 15, 3) := by decide +kernel
theorem dL_boot_5 : decode cL_boot 5 = .ok (.goto 9, 3) := by decide +kernel
theorem dL_boot_8 : decode cL_boot 8 = .ok (.astore_n 2, 1) := by decide +kernel
theorem dL_boot_9 : decode cL_boot 9 = .ok (.iconst 1, 1) := by decide +kernel
theorem dL_boot_10 : decode cL_boot 10 = .ok (.ireturn, 1) := by decide +kernel
theorem dL_boot_11 : decode cL_boot 11 = .ok (.astore_n 2, 1) := by decide +kernel
theorem dL_boot_12 : decode cL_boot 12 = .ok (.iconst 2, 1) := by decide +kernel
theorem dL_boot_13 : decode cL_boot 13 = .ok (.ireturn, 1) := by decide +kernel
theorem dL_boot_14 : decode cL_boot 14 = .ok (.iconst 0, 1) := by decide +kernel
theorem dL_boot_15 : decode cL_boot 15 = .ok (.ireturn, 1) := by decide +kernel
def ow_dm_L_boot : List Cond := Cond.codeWith yL_boot cL_boot 3 (some .int) [(0, 5, 8, 13), (0, 5, 11, 19)] :: ([Cond.methodLink RL 15 yX12_boot, Cond.instanceMethod yX12_boot, Cond.selects RX12 yX12_boot yX12_boot, Cond.initialized RX12, Cond.classLink RL 13 "java/lang/IllegalArgumentException", Cond.classLink RL 19 "java/lang/IllegalStateException"] ++ (ow_dm_X12_boot ++ []))
theorem gd_dm_L_boot : ∀ w ∈ ow_dm_L_boot, (w.onTables && w.keeps) = true ∨ ∃ ty, w = Cond.arrayClass ty := List.forall_mem_cons.mpr ⟨good_of_word rfl, List.forall_mem_append.mpr ⟨fun w h => good_of_word (List.all_eq_true.mp (by decide +kernel) w h), List.forall_mem_append.mpr ⟨gd_dm_X12_boot, fun _ h => nomatch h⟩⟩⟩
theorem gi_dm_L_boot_0 : GoodIn ow_dm_L_boot (wsV RL 15 RX12 yX12_boot ow_dm_X12_boot) := goodIn_app (goodIn_of _ (by decide +kernel)) (fun w h => ⟨List.mem_cons_of_mem _ (List.mem_append_right _ (List.mem_append_left _ h)), gd_dm_X12_boot w h⟩)
set_option maxHeartbeats 40000000 in
set_option maxRecDepth 100000 in
theorem dm_L_boot (l : Launch) (hlt : l.stackTraces = false) (dC : Nat → ClassId) (dI : Nat → Nat → Nat) (a : Nat → Nat) (ac : Nat → ClassId) (n : Nat) (v0 : Int32) (s0 : S12) {r : S12 ⊕ (String × S12)} (h : df_X12_boot n (a 15) (a 3) v0 s0 = some r) {k : Int32} {u : S12} (hr0 : lw_V2 r k u) (sz : Nat) : Met l yL_boot ow_dm_L_boot ({ frames := 7, cells := 1, slots := 6, locals := 169 }) (va_Pc [.ref (a 0), .int v0] (fun U => U.heap.size = sz ∧ va_P (dC, dI) vwCl (dw_X12 a ac s0) U.heap ∧ va_K (dC, dI) vwCl (dk_X12 ac) U ∧ va_D (fun _ => True) (dw_X12 a ac s0) ∧ nv_E dI (va_A (dw_X12 a ac s0) sz) U ∧ nv_Dc U)) (va_Qi (fun x _ => x = k) (fun (_ : Unit) t => va_P (dC, dI) vwCl (dw_X12 a ac u) t.heap ∧ va_K (dC, dI) vwCl (dk_X12 ac) t ∧ va_D (va_A (dw_X12 a ac s0) sz) (dw_X12 a ac u)) (va_A (dw_X12 a ac s0) sz)) 1 6 (va_A (dw_X12 a ac s0) sz) := by
  refine va_MetW (hh := [(0, 5, 8, 13), (0, 5, 11, 19)]) (cc := cL_boot) (maxL := 3) (ret := (some .int)) (by decide) rfl ?_
  intro p e s m args below meth c s₁ B hml hv
  obtain ⟨rfl, hsz, hP, hK, hD0, hN, hDe⟩ := hv
  have hx := B.exec
  have hb := B.bytes
  have hr := B.returns
  have hts := atoms_spec (ws := ow_dm_L_boot) B.pre
  have hown : s.vm.findClass RL = some m.cls := findClass_of_methodNamed B.named
  have hlocks := B.notSynchronized
  have htab : c.exceptionTable.toList = tableOf [(0, 5, 8, 13), (0, 5, 11, 19)] := vx_table (x := yL_boot) B (hts _ List.mem_cons_self)
  subst hsz
  have hD := hD0.self (sz := s.heap.size)
  generalize hAe : va_A (dw_X12 a ac s0) s.heap.size = A at hD hN ⊢
  have hA : ∀ q : Nat, s.heap.size ≤ q → A q := fun q h => by rw [← hAe]; exact Or.inr h
  have hS : va_S A s.heap s.heap [] := va_S.rf
  have hl := lv_entry ([.ref (a 0), .int v0]) (n := 3) (Nat.le_of_ble_eq_true rfl)
  rw [lg_entry_eq]
  generalize (lg_sl ([.ref (a 0), .int v0]) ++ List.replicate (3 - (lg_sl ([.ref (a 0), .int v0])).length) Slot.unset).toArray = ls at hl ⊢
  have hl : lv_has ls 3 [(0, .ref (a 0)), (1, .int v0)] := hl
  refine lv_aload_n hx hb dL_boot_0 rfl (lv_at hl 0 rfl) ?_
  refine lv_iload_n hx hb dL_boot_1 rfl (lv_at hl 1 rfl) ?_
  have hPc : va_P (dC, dI) vwCl (dw_X12 a ac s0) s.heap := hP
  have hDc : va_D A (dw_X12 a ac s0) := hD
  have hKc : va_K (dC, dI) vwCl (dk_X12 ac) s := hK
  have hFc := nd_rs hDc hS hA
  refine vx_callv (vx_runV (As := [.int v0]) (rest := []) ⟨hx, hb, hml, hown, hts⟩ (dm_X12_boot l hlt dC dI a ac n v0 s0 h s.heap.size) (cwV 1 hts gi_dm_L_boot_0 rfl rfl rfl (by decide +kernel) ⟨Nat.le_of_ble_eq_true rfl, Nat.le_of_ble_eq_true rfl⟩) ⟨fun a U g mk q => by obtain ⟨q0, q1, qP, qK, qD, qN, qE⟩ := q; exact ⟨q0, q1, qP, va_K.moved (u := U) (U := U.calling g mk a) (Vm.Alike.refl U.vm) qK, qD, nv_same rfl rfl qN, nv_Dsame rfl qE⟩, va_recv hKc hPc (ci := 13) (q0 := 0) rfl rfl, fun U hU hW => ⟨rfl, by rw [hU], by rw [hU]; exact hPc, va_K.moved hW.alike hKc, hDc.weaken (fun _ _ _ _ => trivial), nv_call hS hFc hU hW hN, nv_Dcall hW hDe⟩⟩ rfl rfl hl.1 rfl (lv_room (Nat.le_of_ble_eq_true rfl)) dL_boot_2 ⟨by decide +kernel, by decide +kernel⟩) hS (fun q _ h => hFc q h) hFc (fun q _ h => hFc q h) (fun E9 ce q9 ux t H1 locs ht hvm _ hw _ hk1 hS hce hcv hcl => ?_) (fun u1 t H1 locs ht hvm hw hB hz1 hk1 hS => ?_)
  · obtain ⟨e9, hP1, hD1⟩ := hw
    rw [ht] at hP1
    have hP2 := hP1
    have hD2 := hD1.weaken (fun k q _ h => nd_rq hDc hA q.1 h)
    rcases hr0 with ⟨z1, z2⟩ | ⟨z1, z2⟩ | ⟨z1, z2⟩
    · cases e9.symm.trans z1
    · obtain ⟨ez, eu⟩ := Prod.mk.inj (Sum.inr.inj (e9.symm.trans z1))
      subst ez
      subst eu
      refine nw_catch (own := RL) (name := "java/lang/IllegalArgumentException") hown [] ⟨0, 5, 8, 13⟩ [⟨0, 5, 11, 19⟩] (htab.trans rfl) (fun z h9 => absurd h9 List.not_mem_nil) (by decide) (by decide) (hts (.classLink RL 13 "java/lang/IllegalArgumentException") (List.mem_of_getElem? (i := 5) rfl)) (va_Nw.use rfl hN.2.2.2.2.2.2.2.1) hce hcv hcl ?_
      refine W.eq (g2 := F0 m 8 ls [.ref q9]) rfl ?_
      refine W.widen (k := 1) (n := 6) (by decide +kernel) (by decide +kernel) ?_
      refine lv_astore_n (lv' := [(2, .ref q9), (0, .ref (a 0)), (1, .int v0)]) hx hb dL_boot_8 rfl hl (by decide) rfl (fun ls hl => ?_)
      refine lv_iconst (v := 1) hx hb dL_boot_9 (by decide) ?_
      exact W.iret (v := 1) hx hb hr (fun t ht hW => ⟨⟨1, (), rfl, z2.symm, by rw [ht]; exact hP2, va_K.moved hW.alike hK, hD2⟩, hS.F ht⟩) hS.2.2 dL_boot_10
    · obtain ⟨ez, eu⟩ := Prod.mk.inj (Sum.inr.inj (e9.symm.trans z1))
      subst ez
      subst eu
      refine nw_catch (own := RL) (name := "java/lang/IllegalStateException") hown [⟨0, 5, 8, 13⟩] ⟨0, 5, 11, 19⟩ [] (htab.trans rfl) (fun z h9 => by rcases List.mem_singleton.mp h9 with rfl; exact Or.inr ⟨by decide, _, (hts (.classLink RL 13 "java/lang/IllegalArgumentException") (List.mem_of_getElem? (i := 5) rfl)), hN.2.2.2.2.2.2.2.2.2.1⟩) (by decide) (by decide) (hts (.classLink RL 19 "java/lang/IllegalStateException") (List.mem_of_getElem? (i := 6) rfl)) (va_Nw.use rfl hN.2.2.2.2.2.2.2.2.1) hce hcv hcl ?_
      refine W.eq (g2 := F0 m 11 ls [.ref q9]) rfl ?_
      refine W.widen (k := 1) (n := 6) (by decide +kernel) (by decide +kernel) ?_
      refine lv_astore_n (lv' := [(2, .ref q9), (0, .ref (a 0)), (1, .int v0)]) hx hb dL_boot_11 rfl hl (by decide) rfl (fun ls hl => ?_)
      refine lv_iconst (v := 2) hx hb dL_boot_12 (by decide) ?_
      exact W.iret (v := 2) hx hb hr (fun t ht hW => ⟨⟨2, (), rfl, z2.symm, by rw [ht]; exact hP2, va_K.moved hW.alike hK, hD2⟩, hS.F ht⟩) hS.2.2 dL_boot_13
  obtain ⟨hP1, -, hD1⟩ := hB
  rw [ht] at hP1
  have hP2 := hP1
  have hD2 := hD1.weaken (fun k q _ h => nd_rq hDc hA q.1 h)
  rcases hr0 with ⟨z1, z2⟩ | ⟨z1, z2⟩ | ⟨z1, z2⟩
  · obtain rfl := Sum.inl.inj (hw.symm.trans z1)
    refine W.widen (k := 1) (n := 6) (by decide +kernel) (by decide +kernel) ?_
    refine lv_goto (tgt := 14) hx hb dL_boot_5 (by decide) ?_
    refine lv_iconst (v := 0) hx hb dL_boot_14 (by decide) ?_
    exact W.iret (v := 0) hx hb hr (fun t ht hW => ⟨⟨0, (), rfl, z2.symm, by rw [ht]; exact hP2, va_K.moved hW.alike hK, hD2⟩, hS.F ht⟩) hS.2.2 dL_boot_15
  · cases hw.symm.trans z1
  · cases hw.symm.trans z1
abbrev cL_replay : ByteArray := method_5_code
def yL_replay : MethodName := ⟨RL, "replay", "(LTimeMachine;I[J)I"⟩
theorem dL_replay_0 : decode cL_replay 0 = .ok (.aload_n 2, 1) := by decide +kernel
theorem dL_replay_1 : decode cL_replay 1 = .ok (.iconst 0, 1) := by decide +kernel
theorem dL_replay_2 : decode cL_replay 2 = .ok (.aload_n 0, 1) := by decide +kernel
theorem dL_replay_3 : decode cL_replay 3 = .ok (.iload_n 1, 1) := by decide +kernel
theorem dL_replay_4 : decode cL_replay 4 = .ok (.invokevirtual 21, 3) := by decide +kernel
theorem dL_replay_7 : decode cL_replay 7 = .ok (.i2l, 1) := by decide +kernel
theorem dL_replay_8 : decode cL_replay 8 = .ok (.lastore, 1) := by decide +kernel
theorem dL_replay_9 : decode cL_replay 9 = .ok (.goto 9, 3) := by decide +kernel
theorem dL_replay_12 : decode cL_replay 12 = .ok (.astore_n 3, 1) := by decide +kernel
theorem dL_replay_13 : decode cL_replay 13 = .ok (.iconst 1, 1) := by decide +kernel
theorem dL_replay_14 : decode cL_replay 14 = .ok (.ireturn, 1) := by decide +kernel
theorem dL_replay_15 : decode cL_replay 15 = .ok (.astore_n 3, 1) := by decide +kernel
theorem dL_replay_16 : decode cL_replay 16 = .ok (.iconst 2, 1) := by decide +kernel
theorem dL_replay_17 : decode cL_replay 17 = .ok (.ireturn, 1) := by decide +kernel
theorem dL_replay_18 : decode cL_replay 18 = .ok (.iconst 0, 1) := by decide +kernel
theorem dL_replay_19 : decode cL_replay 19 = .ok (.ireturn, 1) := by decide +kernel
def ow_dm_L_replay : List Cond := Cond.codeWith yL_replay cL_replay 4 (some .int) [(0, 9, 12, 13), (0, 9, 15, 19)] :: ([Cond.methodLink RL 21 yX12_replay, Cond.instanceMethod yX12_replay, Cond.selects RX12 yX12_replay yX12_replay, Cond.initialized RX12, Cond.classLink RL 13 "java/lang/IllegalArgumentException", Cond.classLink RL 19 "java/lang/IllegalStateException"] ++ (ow_dm_X12_replay ++ []))
theorem gd_dm_L_replay : ∀ w ∈ ow_dm_L_replay, (w.onTables && w.keeps) = true ∨ ∃ ty, w = Cond.arrayClass ty := List.forall_mem_cons.mpr ⟨good_of_word rfl, List.forall_mem_append.mpr ⟨fun w h => good_of_word (List.all_eq_true.mp (by decide +kernel) w h), List.forall_mem_append.mpr ⟨gd_dm_X12_replay, fun _ h => nomatch h⟩⟩⟩
theorem gi_dm_L_replay_0 : GoodIn ow_dm_L_replay (wsV RL 21 RX12 yX12_replay ow_dm_X12_replay) := goodIn_app (goodIn_of _ (by decide +kernel)) (fun w h => ⟨List.mem_cons_of_mem _ (List.mem_append_right _ (List.mem_append_left _ h)), gd_dm_X12_replay w h⟩)
set_option maxHeartbeats 40000000 in
set_option maxRecDepth 100000 in
theorem dm_L_replay (l : Launch) (hlt : l.stackTraces = false) (dC : Nat → ClassId) (dI : Nat → Nat → Nat) (a : Nat → Nat) (ac : Nat → ClassId) (n : Nat) (ao : Nat) (co : ClassId) (v0 : Int32) (s0 : S12) (o : Nat → Int64) {r : (Int32 × S12) ⊕ (String × S12)} (h : df_X12_replay n (a 15) (a 3) v0 s0 = some r) {k : Int32} {u : S12} {o' : Nat → Int64} (hr0 : lw_R2 Int32.toInt64 r k u o o') (sz : Nat) : Met l yL_replay ow_dm_L_replay ({ frames := 7, cells := 1, slots := 6, locals := 174 }) (va_Pc [.ref (a 0), .int v0, .ref ao] (fun U => U.heap.size = sz ∧ va_P (dC, dI) vwCl (dw_HO ao co o a ac s0) U.heap ∧ va_K (dC, dI) vwCl (dk_HO co ac) U ∧ va_D (fun _ => True) (dw_HO ao co o a ac s0) ∧ nv_E dI (va_A (dw_HO ao co o a ac s0) sz) U ∧ nv_Dc U)) (va_Qi (fun x _ => x = k) (fun (_ : Unit) t => va_P (dC, dI) vwCl (dw_HO ao co o' a ac u) t.heap ∧ va_K (dC, dI) vwCl (dk_HO co ac) t ∧ va_D (va_A (dw_HO ao co o a ac s0) sz) (dw_HO ao co o' a ac u)) (va_A (dw_HO ao co o a ac s0) sz)) 1 6 (va_A (dw_HO ao co o a ac s0) sz) := by
  refine va_MetW (hh := [(0, 9, 12, 13), (0, 9, 15, 19)]) (cc := cL_replay) (maxL := 4) (ret := (some .int)) (by decide) rfl ?_
  intro p e s m args below meth c s₁ B hml hv
  obtain ⟨rfl, hsz, hP, hK, hD0, hN, hDe⟩ := hv
  have hx := B.exec
  have hb := B.bytes
  have hr := B.returns
  have hts := atoms_spec (ws := ow_dm_L_replay) B.pre
  have hown : s.vm.findClass RL = some m.cls := findClass_of_methodNamed B.named
  have hlocks := B.notSynchronized
  have htab : c.exceptionTable.toList = tableOf [(0, 9, 12, 13), (0, 9, 15, 19)] := vx_table (x := yL_replay) B (hts _ List.mem_cons_self)
  subst hsz
  have hD := hD0.self (sz := s.heap.size)
  generalize hAe : va_A (dw_HO ao co o a ac s0) s.heap.size = A at hD hN ⊢
  have hA : ∀ q : Nat, s.heap.size ≤ q → A q := fun q h => by rw [← hAe]; exact Or.inr h
  have hS : va_S A s.heap s.heap [] := va_S.rf
  have hl := lv_entry ([.ref (a 0), .int v0, .ref ao]) (n := 4) (Nat.le_of_ble_eq_true rfl)
  rw [lg_entry_eq]
  generalize (lg_sl ([.ref (a 0), .int v0, .ref ao]) ++ List.replicate (4 - (lg_sl ([.ref (a 0), .int v0, .ref ao])).length) Slot.unset).toArray = ls at hl ⊢
  have hl : lv_has ls 4 [(0, .ref (a 0)), (1, .int v0), (2, .ref ao)] := hl
  refine lv_aload_n hx hb dL_replay_0 rfl (lv_at hl 2 rfl) ?_
  refine lv_iconst (v := 0) hx hb dL_replay_1 (by decide) ?_
  refine lv_aload_n hx hb dL_replay_2 rfl (lv_at hl 0 rfl) ?_
  refine lv_iload_n hx hb dL_replay_3 rfl (lv_at hl 1 rfl) ?_
  have hPc : va_P (dC, dI) vwCl (dw_X12 a ac s0) s.heap := nd_pr hP
  have hDc : va_D A (dw_X12 a ac s0) := nd_dr hD
  have hKc : va_K (dC, dI) vwCl (dk_X12 ac) s := nd_yr hK
  have hFc := nd_rs hDc hS hA
  refine vx_calli (vx_runV (As := [.int v0]) (rest := [.int 0, .ref ao]) ⟨hx, hb, hml, hown, hts⟩ (dm_X12_replay l hlt dC dI a ac n v0 s0 h s.heap.size) (cwV 1 hts gi_dm_L_replay_0 rfl rfl rfl (by decide +kernel) ⟨Nat.le_of_ble_eq_true rfl, Nat.le_of_ble_eq_true rfl⟩) ⟨fun a U g mk q => by obtain ⟨q0, q1, qP, qK, qD, qN, qE⟩ := q; exact ⟨q0, q1, qP, va_K.moved (u := U) (U := U.calling g mk a) (Vm.Alike.refl U.vm) qK, qD, nv_same rfl rfl qN, nv_Dsame rfl qE⟩, va_recv hKc hPc (ci := 13) (q0 := 0) rfl rfl, fun U hU hW => ⟨rfl, by rw [hU], by rw [hU]; exact hPc, va_K.moved hW.alike hKc, hDc.weaken (fun _ _ _ _ => trivial), nv_call hS hFc hU hW hN, nv_Dcall hW hDe⟩⟩ rfl rfl hl.1 rfl (lv_room (Nat.le_of_ble_eq_true rfl)) dL_replay_4 ⟨by decide +kernel, by decide +kernel⟩) hS (fun q _ h => hFc q h) hFc (fun q _ h => hFc q h) (fun E9 ce q9 ux t H1 locs ht hvm _ hw _ hk1 hS hce hcv hcl => ?_) (fun r1 u1 t H1 locs ht hvm hw hB hz1 hk1 hS => ?_)
  · obtain ⟨e9, hP1, hD1⟩ := hw
    rw [ht] at hP1
    obtain ⟨hP2, hD2, -⟩ := nd_stepR hP hD hk1 hP1 hD1
    have hD2 := hD2.weaken (fun k q _ h => nd_rq hD hA q.1 h)
    rcases hr0 with ⟨v, z1, z2, z3⟩ | ⟨z1, z2, z3⟩ | ⟨z1, z2, z3⟩
    · cases e9.symm.trans z1
    · obtain ⟨ez, eu⟩ := Prod.mk.inj (Sum.inr.inj (e9.symm.trans z1))
      subst ez
      subst eu
      subst z3
      refine nw_catch (own := RL) (name := "java/lang/IllegalArgumentException") hown [] ⟨0, 9, 12, 13⟩ [⟨0, 9, 15, 19⟩] (htab.trans rfl) (fun z h9 => absurd h9 List.not_mem_nil) (by decide) (by decide) (hts (.classLink RL 13 "java/lang/IllegalArgumentException") (List.mem_of_getElem? (i := 5) rfl)) (va_Nw.use rfl hN.2.2.2.2.2.2.2.1) hce hcv hcl ?_
      refine W.eq (g2 := F0 m 12 ls [.ref q9]) rfl ?_
      refine W.widen (k := 1) (n := 6) (by decide +kernel) (by decide +kernel) ?_
      refine lv_astore_n (lv' := [(3, .ref q9), (0, .ref (a 0)), (1, .int v0), (2, .ref ao)]) hx hb dL_replay_12 rfl hl (by decide) rfl (fun ls hl => ?_)
      refine lv_iconst (v := 1) hx hb dL_replay_13 (by decide) ?_
      exact W.iret (v := 1) hx hb hr (fun t ht hW => ⟨⟨1, (), rfl, z2.symm, by rw [ht]; exact hP2, va_K.moved hW.alike hK, hD2⟩, hS.F ht⟩) hS.2.2 dL_replay_14
    · obtain ⟨ez, eu⟩ := Prod.mk.inj (Sum.inr.inj (e9.symm.trans z1))
      subst ez
      subst eu
      subst z3
      refine nw_catch (own := RL) (name := "java/lang/IllegalStateException") hown [⟨0, 9, 12, 13⟩] ⟨0, 9, 15, 19⟩ [] (htab.trans rfl) (fun z h9 => by rcases List.mem_singleton.mp h9 with rfl; exact Or.inr ⟨by decide, _, (hts (.classLink RL 13 "java/lang/IllegalArgumentException") (List.mem_of_getElem? (i := 5) rfl)), hN.2.2.2.2.2.2.2.2.2.1⟩) (by decide) (by decide) (hts (.classLink RL 19 "java/lang/IllegalStateException") (List.mem_of_getElem? (i := 6) rfl)) (va_Nw.use rfl hN.2.2.2.2.2.2.2.2.1) hce hcv hcl ?_
      refine W.eq (g2 := F0 m 15 ls [.ref q9]) rfl ?_
      refine W.widen (k := 1) (n := 6) (by decide +kernel) (by decide +kernel) ?_
      refine lv_astore_n (lv' := [(3, .ref q9), (0, .ref (a 0)), (1, .int v0), (2, .ref ao)]) hx hb dL_replay_15 rfl hl (by decide) rfl (fun ls hl => ?_)
      refine lv_iconst (v := 2) hx hb dL_replay_16 (by decide) ?_
      exact W.iret (v := 2) hx hb hr (fun t ht hW => ⟨⟨2, (), rfl, z2.symm, by rw [ht]; exact hP2, va_K.moved hW.alike hK, hD2⟩, hS.F ht⟩) hS.2.2 dL_replay_17
  obtain ⟨hP1, -, hD1⟩ := hB
  rw [ht] at hP1
  obtain ⟨hP2, hD2, -⟩ := nd_stepR hP hD hk1 hP1 hD1
  have hD2 := hD2.weaken (fun k q _ h => nd_rq hD hA q.1 h)
  rcases hr0 with ⟨v, z1, z2, z3⟩ | ⟨z1, z2, z3⟩ | ⟨z1, z2, z3⟩
  · obtain ⟨ez, eu⟩ := Prod.mk.inj (Sum.inl.inj (hw.symm.trans z1))
    subst ez
    subst eu
    subst z3
    refine W.widen (k := 1) (n := 6) (by decide +kernel) (by decide +kernel) ?_
    refine lv_i2l hx hb dL_replay_7 rfl ?_
    refine va_last (i := 0) (x := Int32.toInt64 r1) hx hb hK hP2 hD2 hS 0 0 rfl rfl (vp_in_iff.mpr ⟨by decide, by decide⟩) dL_replay_8 (fun H locs hP hD hS => ?_)
    refine lv_goto (tgt := 18) hx hb dL_replay_9 (by decide) ?_
    refine lv_iconst (v := 0) hx hb dL_replay_18 (by decide) ?_
    exact W.iret (v := 0) hx hb hr (fun t ht hW => ⟨⟨0, (), rfl, z2.symm, by rw [ht]; exact hP, va_K.moved hW.alike hK, hD⟩, hS.F ht⟩) hS.2.2 dL_replay_19
  · cases hw.symm.trans z1
  · cases hw.symm.trans z1
abbrev cL_outside : ByteArray := method_6_code
def yL_outside : MethodName := ⟨RL, "outside", "(LTimeMachine;IJI[J)I"⟩
theorem dL_outside_0 : decode cL_outside 0 = .ok (.aload 5, 2) := by decide +kernel
theorem dL_outside_2 : decode cL_outside 2 = .ok (.iconst 0, 1) := by decide +kernel
theorem dL_outside_3 : decode cL_outside 3 = .ok (.aload_n 0, 1) := by decide +kernel
theorem dL_outside_4 : decode cL_outside 4 = .ok (.iload_n 1, 1) := by decide +kernel
theorem dL_outside_5 : decode cL_outside 5 = .ok (.lload_n 2, 1) := by decide +kernel
theorem dL_outside_6 : decode cL_outside 6 = .ok (.iload 4, 2) := by decide +kernel
theorem dL_outside_8 : decode cL_outside 8 = .ok (.invokevirtual 24, 3) := by decide +kernel
theorem dL_outside_11 : decode cL_outside 11 = .ok (.i2l, 1) := by decide +kernel
theorem dL_outside_12 : decode cL_outside 12 = .ok (.lastore, 1) := by decide +kernel
theorem dL_outside_13 : decode cL_outside 13 = .ok (.goto 11, 3) := by decide +kernel
theorem dL_outside_16 : decode cL_outside 16 = .ok (.astore 6, 2) := by decide +kernel
theorem dL_outside_18 : decode cL_outside 18 = .ok (.iconst 1, 1) := by decide +kernel
theorem dL_outside_19 : decode cL_outside 19 = .ok (.ireturn, 1) := by decide +kernel
theorem dL_outside_20 : decode cL_outside 20 = .ok (.astore 6, 2) := by decide +kernel
theorem dL_outside_22 : decode cL_outside 22 = .ok (.iconst 2, 1) := by decide +kernel
theorem dL_outside_23 : decode cL_outside 23 = .ok (.ireturn, 1) := by decide +kernel
theorem dL_outside_24 : decode cL_outside 24 = .ok (.iconst 0, 1) := by decide +kernel
theorem dL_outside_25 : decode cL_outside 25 = .ok (.ireturn, 1) := by decide +kernel
def ow_dm_L_outside : List Cond := Cond.codeWith yL_outside cL_outside 7 (some .int) [(0, 13, 16, 13), (0, 13, 20, 19)] :: ([Cond.methodLink RL 24 yX12_outside, Cond.instanceMethod yX12_outside, Cond.selects RX12 yX12_outside yX12_outside, Cond.initialized RX12, Cond.classLink RL 13 "java/lang/IllegalArgumentException", Cond.classLink RL 19 "java/lang/IllegalStateException"] ++ (ow_dm_X12_outside ++ []))
theorem gd_dm_L_outside : ∀ w ∈ ow_dm_L_outside, (w.onTables && w.keeps) = true ∨ ∃ ty, w = Cond.arrayClass ty := List.forall_mem_cons.mpr ⟨good_of_word rfl, List.forall_mem_append.mpr ⟨fun w h => good_of_word (List.all_eq_true.mp (by decide +kernel) w h), List.forall_mem_append.mpr ⟨gd_dm_X12_outside, fun _ h => nomatch h⟩⟩⟩
theorem gi_dm_L_outside_0 : GoodIn ow_dm_L_outside (wsV RL 24 RX12 yX12_outside ow_dm_X12_outside) := goodIn_app (goodIn_of _ (by decide +kernel)) (fun w h => ⟨List.mem_cons_of_mem _ (List.mem_append_right _ (List.mem_append_left _ h)), gd_dm_X12_outside w h⟩)
set_option maxHeartbeats 40000000 in
set_option maxRecDepth 100000 in
theorem dm_L_outside (l : Launch) (hlt : l.stackTraces = false) (dC : Nat → ClassId) (dI : Nat → Nat → Nat) (a : Nat → Nat) (ac : Nat → ClassId) (n : Nat) (ao : Nat) (co : ClassId) (v0 : Int32) (v1 : Int64) (v2 : Int32) (s0 : S12) (o : Nat → Int64) {r : (Int32 × S12) ⊕ (String × S12)} (h : df_X12_outside n (a 15) (a 3) v0 v1 v2 s0 = some r) {k : Int32} {u : S12} {o' : Nat → Int64} (hr0 : lw_R2 Int32.toInt64 r k u o o') (sz : Nat) : Met l yL_outside ow_dm_L_outside ({ frames := 7, cells := 1, slots := 6, locals := 143 }) (va_Pc [.ref (a 0), .int v0, .long v1, .int v2, .ref ao] (fun U => U.heap.size = sz ∧ va_P (dC, dI) vwCl (dw_HO ao co o a ac s0) U.heap ∧ va_K (dC, dI) vwCl (dk_HO co ac) U ∧ va_D (fun _ => True) (dw_HO ao co o a ac s0) ∧ nv_E dI (va_A (dw_HO ao co o a ac s0) sz) U ∧ nv_Dc U)) (va_Qi (fun x _ => x = k) (fun (_ : Unit) t => va_P (dC, dI) vwCl (dw_HO ao co o' a ac u) t.heap ∧ va_K (dC, dI) vwCl (dk_HO co ac) t ∧ va_D (va_A (dw_HO ao co o a ac s0) sz) (dw_HO ao co o' a ac u)) (va_A (dw_HO ao co o a ac s0) sz)) 1 6 (va_A (dw_HO ao co o a ac s0) sz) := by
  refine va_MetW (hh := [(0, 13, 16, 13), (0, 13, 20, 19)]) (cc := cL_outside) (maxL := 7) (ret := (some .int)) (by decide) rfl ?_
  intro p e s m args below meth c s₁ B hml hv
  obtain ⟨rfl, hsz, hP, hK, hD0, hN, hDe⟩ := hv
  have hx := B.exec
  have hb := B.bytes
  have hr := B.returns
  have hts := atoms_spec (ws := ow_dm_L_outside) B.pre
  have hown : s.vm.findClass RL = some m.cls := findClass_of_methodNamed B.named
  have hlocks := B.notSynchronized
  have htab : c.exceptionTable.toList = tableOf [(0, 13, 16, 13), (0, 13, 20, 19)] := vx_table (x := yL_outside) B (hts _ List.mem_cons_self)
  subst hsz
  have hD := hD0.self (sz := s.heap.size)
  generalize hAe : va_A (dw_HO ao co o a ac s0) s.heap.size = A at hD hN ⊢
  have hA : ∀ q : Nat, s.heap.size ≤ q → A q := fun q h => by rw [← hAe]; exact Or.inr h
  have hS : va_S A s.heap s.heap [] := va_S.rf
  have hl := lv_entry ([.ref (a 0), .int v0, .long v1, .int v2, .ref ao]) (n := 7) (Nat.le_of_ble_eq_true rfl)
  rw [lg_entry_eq]
  generalize (lg_sl ([.ref (a 0), .int v0, .long v1, .int v2, .ref ao]) ++ List.replicate (7 - (lg_sl ([.ref (a 0), .int v0, .long v1, .int v2, .ref ao])).length) Slot.unset).toArray = ls at hl ⊢
  have hl : lv_has ls 7 [(0, .ref (a 0)), (1, .int v0), (2, .long v1), (4, .int v2), (5, .ref ao)] := hl
  refine lv_aload hx hb dL_outside_0 (lv_at hl 4 rfl) ?_
  refine lv_iconst (v := 0) hx hb dL_outside_2 (by decide) ?_
  refine lv_aload_n hx hb dL_outside_3 rfl (lv_at hl 0 rfl) ?_
  refine lv_iload_n hx hb dL_outside_4 rfl (lv_at hl 1 rfl) ?_
  refine lv_lload_n hx hb dL_outside_5 rfl (lv_at hl 2 rfl) ?_
  refine lv_iload hx hb dL_outside_6 (lv_at hl 3 rfl) ?_
  have hPc : va_P (dC, dI) vwCl (dw_X12 a ac s0) s.heap := nd_pr hP
  have hDc : va_D A (dw_X12 a ac s0) := nd_dr hD
  have hKc : va_K (dC, dI) vwCl (dk_X12 ac) s := nd_yr hK
  have hFc := nd_rs hDc hS hA
  refine vx_calli (vx_runV (As := [.int v0, .long v1, .int v2]) (rest := [.int 0, .ref ao]) ⟨hx, hb, hml, hown, hts⟩ (dm_X12_outside l hlt dC dI a ac n v0 v1 v2 s0 h s.heap.size) (cwV 3 hts gi_dm_L_outside_0 rfl rfl rfl (by decide +kernel) ⟨Nat.le_of_ble_eq_true rfl, Nat.le_of_ble_eq_true rfl⟩) ⟨fun a U g mk q => by obtain ⟨q0, q1, qP, qK, qD, qN, qE⟩ := q; exact ⟨q0, q1, qP, va_K.moved (u := U) (U := U.calling g mk a) (Vm.Alike.refl U.vm) qK, qD, nv_same rfl rfl qN, nv_Dsame rfl qE⟩, va_recv hKc hPc (ci := 13) (q0 := 0) rfl rfl, fun U hU hW => ⟨rfl, by rw [hU], by rw [hU]; exact hPc, va_K.moved hW.alike hKc, hDc.weaken (fun _ _ _ _ => trivial), nv_call hS hFc hU hW hN, nv_Dcall hW hDe⟩⟩ rfl rfl hl.1 rfl (lv_room (Nat.le_of_ble_eq_true rfl)) dL_outside_8 ⟨by decide +kernel, by decide +kernel⟩) hS (fun q _ h => hFc q h) hFc (fun q _ h => hFc q h) (fun E9 ce q9 ux t H1 locs ht hvm _ hw _ hk1 hS hce hcv hcl => ?_) (fun r1 u1 t H1 locs ht hvm hw hB hz1 hk1 hS => ?_)
  · obtain ⟨e9, hP1, hD1⟩ := hw
    rw [ht] at hP1
    obtain ⟨hP2, hD2, -⟩ := nd_stepR hP hD hk1 hP1 hD1
    have hD2 := hD2.weaken (fun k q _ h => nd_rq hD hA q.1 h)
    rcases hr0 with ⟨v, z1, z2, z3⟩ | ⟨z1, z2, z3⟩ | ⟨z1, z2, z3⟩
    · cases e9.symm.trans z1
    · obtain ⟨ez, eu⟩ := Prod.mk.inj (Sum.inr.inj (e9.symm.trans z1))
      subst ez
      subst eu
      subst z3
      refine nw_catch (own := RL) (name := "java/lang/IllegalArgumentException") hown [] ⟨0, 13, 16, 13⟩ [⟨0, 13, 20, 19⟩] (htab.trans rfl) (fun z h9 => absurd h9 List.not_mem_nil) (by decide) (by decide) (hts (.classLink RL 13 "java/lang/IllegalArgumentException") (List.mem_of_getElem? (i := 5) rfl)) (va_Nw.use rfl hN.2.2.2.2.2.2.2.1) hce hcv hcl ?_
      refine W.eq (g2 := F0 m 16 ls [.ref q9]) rfl ?_
      refine W.widen (k := 1) (n := 6) (by decide +kernel) (by decide +kernel) ?_
      refine lv_astore (lv' := [(6, .ref q9), (0, .ref (a 0)), (1, .int v0), (2, .long v1), (4, .int v2), (5, .ref ao)]) hx hb dL_outside_16 hl (by decide) rfl (fun ls hl => ?_)
      refine lv_iconst (v := 1) hx hb dL_outside_18 (by decide) ?_
      exact W.iret (v := 1) hx hb hr (fun t ht hW => ⟨⟨1, (), rfl, z2.symm, by rw [ht]; exact hP2, va_K.moved hW.alike hK, hD2⟩, hS.F ht⟩) hS.2.2 dL_outside_19
    · obtain ⟨ez, eu⟩ := Prod.mk.inj (Sum.inr.inj (e9.symm.trans z1))
      subst ez
      subst eu
      subst z3
      refine nw_catch (own := RL) (name := "java/lang/IllegalStateException") hown [⟨0, 13, 16, 13⟩] ⟨0, 13, 20, 19⟩ [] (htab.trans rfl) (fun z h9 => by rcases List.mem_singleton.mp h9 with rfl; exact Or.inr ⟨by decide, _, (hts (.classLink RL 13 "java/lang/IllegalArgumentException") (List.mem_of_getElem? (i := 5) rfl)), hN.2.2.2.2.2.2.2.2.2.1⟩) (by decide) (by decide) (hts (.classLink RL 19 "java/lang/IllegalStateException") (List.mem_of_getElem? (i := 6) rfl)) (va_Nw.use rfl hN.2.2.2.2.2.2.2.2.1) hce hcv hcl ?_
      refine W.eq (g2 := F0 m 20 ls [.ref q9]) rfl ?_
      refine W.widen (k := 1) (n := 6) (by decide +kernel) (by decide +kernel) ?_
      refine lv_astore (lv' := [(6, .ref q9), (0, .ref (a 0)), (1, .int v0), (2, .long v1), (4, .int v2), (5, .ref ao)]) hx hb dL_outside_20 hl (by decide) rfl (fun ls hl => ?_)
      refine lv_iconst (v := 2) hx hb dL_outside_22 (by decide) ?_
      exact W.iret (v := 2) hx hb hr (fun t ht hW => ⟨⟨2, (), rfl, z2.symm, by rw [ht]; exact hP2, va_K.moved hW.alike hK, hD2⟩, hS.F ht⟩) hS.2.2 dL_outside_23
  obtain ⟨hP1, -, hD1⟩ := hB
  rw [ht] at hP1
  obtain ⟨hP2, hD2, -⟩ := nd_stepR hP hD hk1 hP1 hD1
  have hD2 := hD2.weaken (fun k q _ h => nd_rq hD hA q.1 h)
  rcases hr0 with ⟨v, z1, z2, z3⟩ | ⟨z1, z2, z3⟩ | ⟨z1, z2, z3⟩
  · obtain ⟨ez, eu⟩ := Prod.mk.inj (Sum.inl.inj (hw.symm.trans z1))
    subst ez
    subst eu
    subst z3
    refine W.widen (k := 1) (n := 6) (by decide +kernel) (by decide +kernel) ?_
    refine lv_i2l hx hb dL_outside_11 rfl ?_
    refine va_last (i := 0) (x := Int32.toInt64 r1) hx hb hK hP2 hD2 hS 0 0 rfl rfl (vp_in_iff.mpr ⟨by decide, by decide⟩) dL_outside_12 (fun H locs hP hD hS => ?_)
    refine lv_goto (tgt := 24) hx hb dL_outside_13 (by decide) ?_
    refine lv_iconst (v := 0) hx hb dL_outside_24 (by decide) ?_
    exact W.iret (v := 0) hx hb hr (fun t ht hW => ⟨⟨0, (), rfl, z2.symm, by rw [ht]; exact hP, va_K.moved hW.alike hK, hD⟩, hS.F ht⟩) hS.2.2 dL_outside_25
  · cases hw.symm.trans z1
  · cases hw.symm.trans z1
abbrev cL_run : ByteArray := method_7_code
def yL_run : MethodName := ⟨RL, "run", "(LTimeMachine;I[J)I"⟩
theorem dL_run_0 : decode cL_run 0 = .ok (.aload_n 2, 1) := by decide +kernel
theorem dL_run_1 : decode cL_run 1 = .ok (.iconst 0, 1) := by decide +kernel
theorem dL_run_2 : decode cL_run 2 = .ok (.aload_n 0, 1) := by decide +kernel
theorem dL_run_3 : decode cL_run 3 = .ok (.iload_n 1, 1) := by decide +kernel
theorem dL_run_4 : decode cL_run 4 = .ok (.invokevirtual 28, 3) := by decide +kernel
theorem dL_run_7 : decode cL_run 7 = .ok (.i2l, 1) := by decide +kernel
theorem dL_run_8 : decode cL_run 8 = .ok (.lastore, 1) := by decide +kernel
theorem dL_run_9 : decode cL_run 9 = .ok (.goto 9, 3) := by decide +kernel
theorem dL_run_12 : decode cL_run 12 = .ok (.astore_n 3, 1) := by decide +kernel
theorem dL_run_13 : decode cL_run 13 = .ok (.iconst 1, 1) := by decide +kernel
theorem dL_run_14 : decode cL_run 14 = .ok (.ireturn, 1) := by decide +kernel
theorem dL_run_15 : decode cL_run 15 = .ok (.astore_n 3, 1) := by decide +kernel
theorem dL_run_16 : decode cL_run 16 = .ok (.iconst 2, 1) := by decide +kernel
theorem dL_run_17 : decode cL_run 17 = .ok (.ireturn, 1) := by decide +kernel
theorem dL_run_18 : decode cL_run 18 = .ok (.iconst 0, 1) := by decide +kernel
theorem dL_run_19 : decode cL_run 19 = .ok (.ireturn, 1) := by decide +kernel
def ow_dm_L_run : List Cond := Cond.codeWith yL_run cL_run 4 (some .int) [(0, 9, 12, 13), (0, 9, 15, 19)] :: ([Cond.methodLink RL 28 yX12_run, Cond.instanceMethod yX12_run, Cond.selects RX12 yX12_run yX12_run, Cond.initialized RX12, Cond.classLink RL 13 "java/lang/IllegalArgumentException", Cond.classLink RL 19 "java/lang/IllegalStateException"] ++ (ow_dm_X12_run ++ []))
theorem gd_dm_L_run : ∀ w ∈ ow_dm_L_run, (w.onTables && w.keeps) = true ∨ ∃ ty, w = Cond.arrayClass ty := List.forall_mem_cons.mpr ⟨good_of_word rfl, List.forall_mem_append.mpr ⟨fun w h => good_of_word (List.all_eq_true.mp (by decide +kernel) w h), List.forall_mem_append.mpr ⟨gd_dm_X12_run, fun _ h => nomatch h⟩⟩⟩
theorem gi_dm_L_run_0 : GoodIn ow_dm_L_run (wsV RL 28 RX12 yX12_run ow_dm_X12_run) := goodIn_app (goodIn_of _ (by decide +kernel)) (fun w h => ⟨List.mem_cons_of_mem _ (List.mem_append_right _ (List.mem_append_left _ h)), gd_dm_X12_run w h⟩)
set_option maxHeartbeats 40000000 in
set_option maxRecDepth 100000 in
theorem dm_L_run (l : Launch) (hlt : l.stackTraces = false) (dC : Nat → ClassId) (dI : Nat → Nat → Nat) (a : Nat → Nat) (ac : Nat → ClassId) (n : Nat) (ao : Nat) (co : ClassId) (v0 : Int32) (s0 : S12) (o : Nat → Int64) {r : (Int32 × S12) ⊕ (String × S12)} (h : df_X12_run n (a 15) (a 3) v0 s0 = some r) {k : Int32} {u : S12} {o' : Nat → Int64} (hr0 : lw_R2 Int32.toInt64 r k u o o') (sz : Nat) : Met l yL_run ow_dm_L_run ({ frames := 10, cells := 1, slots := 6, locals := 226 }) (va_Pc [.ref (a 0), .int v0, .ref ao] (fun U => U.heap.size = sz ∧ va_P (dC, dI) vwCl (dw_HO ao co o a ac s0) U.heap ∧ va_K (dC, dI) vwCl (dk_HO co ac) U ∧ va_D (fun _ => True) (dw_HO ao co o a ac s0) ∧ nv_E dI (va_A (dw_HO ao co o a ac s0) sz) U ∧ nv_Dc U)) (va_Qi (fun x _ => x = k) (fun (_ : Unit) t => va_P (dC, dI) vwCl (dw_HO ao co o' a ac u) t.heap ∧ va_K (dC, dI) vwCl (dk_HO co ac) t ∧ va_D (va_A (dw_HO ao co o a ac s0) sz) (dw_HO ao co o' a ac u)) (va_A (dw_HO ao co o a ac s0) sz)) 1 6 (va_A (dw_HO ao co o a ac s0) sz) := by
  refine va_MetW (hh := [(0, 9, 12, 13), (0, 9, 15, 19)]) (cc := cL_run) (maxL := 4) (ret := (some .int)) (by decide) rfl ?_
  intro p e s m args below meth c s₁ B hml hv
  obtain ⟨rfl, hsz, hP, hK, hD0, hN, hDe⟩ := hv
  have hx := B.exec
  have hb := B.bytes
  have hr := B.returns
  have hts := atoms_spec (ws := ow_dm_L_run) B.pre
  have hown : s.vm.findClass RL = some m.cls := findClass_of_methodNamed B.named
  have hlocks := B.notSynchronized
  have htab : c.exceptionTable.toList = tableOf [(0, 9, 12, 13), (0, 9, 15, 19)] := vx_table (x := yL_run) B (hts _ List.mem_cons_self)
  subst hsz
  have hD := hD0.self (sz := s.heap.size)
  generalize hAe : va_A (dw_HO ao co o a ac s0) s.heap.size = A at hD hN ⊢
  have hA : ∀ q : Nat, s.heap.size ≤ q → A q := fun q h => by rw [← hAe]; exact Or.inr h
  have hS : va_S A s.heap s.heap [] := va_S.rf
  have hl := lv_entry ([.ref (a 0), .int v0, .ref ao]) (n := 4) (Nat.le_of_ble_eq_true rfl)
  rw [lg_entry_eq]
  generalize (lg_sl ([.ref (a 0), .int v0, .ref ao]) ++ List.replicate (4 - (lg_sl ([.ref (a 0), .int v0, .ref ao])).length) Slot.unset).toArray = ls at hl ⊢
  have hl : lv_has ls 4 [(0, .ref (a 0)), (1, .int v0), (2, .ref ao)] := hl
  refine lv_aload_n hx hb dL_run_0 rfl (lv_at hl 2 rfl) ?_
  refine lv_iconst (v := 0) hx hb dL_run_1 (by decide) ?_
  refine lv_aload_n hx hb dL_run_2 rfl (lv_at hl 0 rfl) ?_
  refine lv_iload_n hx hb dL_run_3 rfl (lv_at hl 1 rfl) ?_
  have hPc : va_P (dC, dI) vwCl (dw_X12 a ac s0) s.heap := nd_pr hP
  have hDc : va_D A (dw_X12 a ac s0) := nd_dr hD
  have hKc : va_K (dC, dI) vwCl (dk_X12 ac) s := nd_yr hK
  have hFc := nd_rs hDc hS hA
  refine vx_calli (vx_runV (As := [.int v0]) (rest := [.int 0, .ref ao]) ⟨hx, hb, hml, hown, hts⟩ (dm_X12_run l hlt dC dI a ac n v0 s0 h s.heap.size) (cwV 1 hts gi_dm_L_run_0 rfl rfl rfl (by decide +kernel) ⟨Nat.le_of_ble_eq_true rfl, Nat.le_of_ble_eq_true rfl⟩) ⟨fun a U g mk q => by obtain ⟨q0, q1, qP, qK, qD, qN, qE⟩ := q; exact ⟨q0, q1, qP, va_K.moved (u := U) (U := U.calling g mk a) (Vm.Alike.refl U.vm) qK, qD, nv_same rfl rfl qN, nv_Dsame rfl qE⟩, va_recv hKc hPc (ci := 13) (q0 := 0) rfl rfl, fun U hU hW => ⟨rfl, by rw [hU], by rw [hU]; exact hPc, va_K.moved hW.alike hKc, hDc.weaken (fun _ _ _ _ => trivial), nv_call hS hFc hU hW hN, nv_Dcall hW hDe⟩⟩ rfl rfl hl.1 rfl (lv_room (Nat.le_of_ble_eq_true rfl)) dL_run_4 ⟨by decide +kernel, by decide +kernel⟩) hS (fun q _ h => hFc q h) hFc (fun q _ h => hFc q h) (fun E9 ce q9 ux t H1 locs ht hvm _ hw _ hk1 hS hce hcv hcl => ?_) (fun r1 u1 t H1 locs ht hvm hw hB hz1 hk1 hS => ?_)
  · obtain ⟨e9, hP1, hD1⟩ := hw
    rw [ht] at hP1
    obtain ⟨hP2, hD2, -⟩ := nd_stepR hP hD hk1 hP1 hD1
    have hD2 := hD2.weaken (fun k q _ h => nd_rq hD hA q.1 h)
    rcases hr0 with ⟨v, z1, z2, z3⟩ | ⟨z1, z2, z3⟩ | ⟨z1, z2, z3⟩
    · cases e9.symm.trans z1
    · obtain ⟨ez, eu⟩ := Prod.mk.inj (Sum.inr.inj (e9.symm.trans z1))
      subst ez
      subst eu
      subst z3
      refine nw_catch (own := RL) (name := "java/lang/IllegalArgumentException") hown [] ⟨0, 9, 12, 13⟩ [⟨0, 9, 15, 19⟩] (htab.trans rfl) (fun z h9 => absurd h9 List.not_mem_nil) (by decide) (by decide) (hts (.classLink RL 13 "java/lang/IllegalArgumentException") (List.mem_of_getElem? (i := 5) rfl)) (va_Nw.use rfl hN.2.2.2.2.2.2.2.1) hce hcv hcl ?_
      refine W.eq (g2 := F0 m 12 ls [.ref q9]) rfl ?_
      refine W.widen (k := 1) (n := 6) (by decide +kernel) (by decide +kernel) ?_
      refine lv_astore_n (lv' := [(3, .ref q9), (0, .ref (a 0)), (1, .int v0), (2, .ref ao)]) hx hb dL_run_12 rfl hl (by decide) rfl (fun ls hl => ?_)
      refine lv_iconst (v := 1) hx hb dL_run_13 (by decide) ?_
      exact W.iret (v := 1) hx hb hr (fun t ht hW => ⟨⟨1, (), rfl, z2.symm, by rw [ht]; exact hP2, va_K.moved hW.alike hK, hD2⟩, hS.F ht⟩) hS.2.2 dL_run_14
    · obtain ⟨ez, eu⟩ := Prod.mk.inj (Sum.inr.inj (e9.symm.trans z1))
      subst ez
      subst eu
      subst z3
      refine nw_catch (own := RL) (name := "java/lang/IllegalStateException") hown [⟨0, 9, 12, 13⟩] ⟨0, 9, 15, 19⟩ [] (htab.trans rfl) (fun z h9 => by rcases List.mem_singleton.mp h9 with rfl; exact Or.inr ⟨by decide, _, (hts (.classLink RL 13 "java/lang/IllegalArgumentException") (List.mem_of_getElem? (i := 5) rfl)), hN.2.2.2.2.2.2.2.2.2.1⟩) (by decide) (by decide) (hts (.classLink RL 19 "java/lang/IllegalStateException") (List.mem_of_getElem? (i := 6) rfl)) (va_Nw.use rfl hN.2.2.2.2.2.2.2.2.1) hce hcv hcl ?_
      refine W.eq (g2 := F0 m 15 ls [.ref q9]) rfl ?_
      refine W.widen (k := 1) (n := 6) (by decide +kernel) (by decide +kernel) ?_
      refine lv_astore_n (lv' := [(3, .ref q9), (0, .ref (a 0)), (1, .int v0), (2, .ref ao)]) hx hb dL_run_15 rfl hl (by decide) rfl (fun ls hl => ?_)
      refine lv_iconst (v := 2) hx hb dL_run_16 (by decide) ?_
      exact W.iret (v := 2) hx hb hr (fun t ht hW => ⟨⟨2, (), rfl, z2.symm, by rw [ht]; exact hP2, va_K.moved hW.alike hK, hD2⟩, hS.F ht⟩) hS.2.2 dL_run_17
  obtain ⟨hP1, -, hD1⟩ := hB
  rw [ht] at hP1
  obtain ⟨hP2, hD2, -⟩ := nd_stepR hP hD hk1 hP1 hD1
  have hD2 := hD2.weaken (fun k q _ h => nd_rq hD hA q.1 h)
  rcases hr0 with ⟨v, z1, z2, z3⟩ | ⟨z1, z2, z3⟩ | ⟨z1, z2, z3⟩
  · obtain ⟨ez, eu⟩ := Prod.mk.inj (Sum.inl.inj (hw.symm.trans z1))
    subst ez
    subst eu
    subst z3
    refine W.widen (k := 1) (n := 6) (by decide +kernel) (by decide +kernel) ?_
    refine lv_i2l hx hb dL_run_7 rfl ?_
    refine va_last (i := 0) (x := Int32.toInt64 r1) hx hb hK hP2 hD2 hS 0 0 rfl rfl (vp_in_iff.mpr ⟨by decide, by decide⟩) dL_run_8 (fun H locs hP hD hS => ?_)
    refine lv_goto (tgt := 18) hx hb dL_run_9 (by decide) ?_
    refine lv_iconst (v := 0) hx hb dL_run_18 (by decide) ?_
    exact W.iret (v := 0) hx hb hr (fun t ht hW => ⟨⟨0, (), rfl, z2.symm, by rw [ht]; exact hP, va_K.moved hW.alike hK, hD⟩, hS.F ht⟩) hS.2.2 dL_run_19
  · cases hw.symm.trans z1
  · cases hw.symm.trans z1
abbrev cL_go : ByteArray := method_8_code
def yL_go : MethodName := ⟨RL, "go", "(LTimeMachine;I)I"⟩
theorem dL_go_0 : decode cL_go 0 = .ok (.aload_n 0, 1) := by decide +kernel
theorem dL_go_1 : decode cL_go 1 = .ok (.iload_n 1, 1) := by decide +kernel
theorem dL_go_2 : decode cL_go 2 = .ok (.invokevirtual 31, 3) := by decide +kernel
theorem dL_go_5 : decode cL_go 5 = .ok (.goto 6, 3) := by decide +kernel
theorem dL_go_8 : decode cL_go 8 = .ok (.astore_n 2, 1) := by decide +kernel
theorem dL_go_9 : decode cL_go 9 = .ok (.iconst 1, 1) := by decide +kernel
theorem dL_go_10 : decode cL_go 10 = .ok (.ireturn, 1) := by decide +kernel
theorem dL_go_11 : decode cL_go 11 = .ok (.iconst 0, 1) := by decide +kernel
theorem dL_go_12 : decode cL_go 12 = .ok (.ireturn, 1) := by decide +kernel
def ow_dm_L_go : List Cond := Cond.codeWith yL_go cL_go 3 (some .int) [(0, 5, 8, 13)] :: ([Cond.methodLink RL 31 yX12_go, Cond.instanceMethod yX12_go, Cond.selects RX12 yX12_go yX12_go, Cond.initialized RX12, Cond.classLink RL 13 "java/lang/IllegalArgumentException"] ++ (ow_dm_X12_go ++ []))
theorem gd_dm_L_go : ∀ w ∈ ow_dm_L_go, (w.onTables && w.keeps) = true ∨ ∃ ty, w = Cond.arrayClass ty := List.forall_mem_cons.mpr ⟨good_of_word rfl, List.forall_mem_append.mpr ⟨fun w h => good_of_word (List.all_eq_true.mp (by decide +kernel) w h), List.forall_mem_append.mpr ⟨gd_dm_X12_go, fun _ h => nomatch h⟩⟩⟩
theorem gi_dm_L_go_0 : GoodIn ow_dm_L_go (wsV RL 31 RX12 yX12_go ow_dm_X12_go) := goodIn_app (goodIn_of _ (by decide +kernel)) (fun w h => ⟨List.mem_cons_of_mem _ (List.mem_append_right _ (List.mem_append_left _ h)), gd_dm_X12_go w h⟩)
set_option maxHeartbeats 40000000 in
set_option maxRecDepth 100000 in
theorem dm_L_go (l : Launch) (hlt : l.stackTraces = false) (dC : Nat → ClassId) (dI : Nat → Nat → Nat) (a : Nat → Nat) (ac : Nat → ClassId) (n : Nat) (v0 : Int32) (s0 : S12) {r : S12 ⊕ (String × S12)} (h : df_X12_go n (a 15) (a 3) v0 s0 = some r) {k : Int32} {u : S12} (hr0 : lw_V1 r k u) (sz : Nat) : Met l yL_go ow_dm_L_go ({ frames := 10, cells := 1, slots := 6, locals := 226 }) (va_Pc [.ref (a 0), .int v0] (fun U => U.heap.size = sz ∧ va_P (dC, dI) vwCl (dw_X12 a ac s0) U.heap ∧ va_K (dC, dI) vwCl (dk_X12 ac) U ∧ va_D (fun _ => True) (dw_X12 a ac s0) ∧ nv_E dI (va_A (dw_X12 a ac s0) sz) U ∧ nv_Dc U)) (va_Qi (fun x _ => x = k) (fun (_ : Unit) t => va_P (dC, dI) vwCl (dw_X12 a ac u) t.heap ∧ va_K (dC, dI) vwCl (dk_X12 ac) t ∧ va_D (va_A (dw_X12 a ac s0) sz) (dw_X12 a ac u)) (va_A (dw_X12 a ac s0) sz)) 1 6 (va_A (dw_X12 a ac s0) sz) := by
  refine va_MetW (hh := [(0, 5, 8, 13)]) (cc := cL_go) (maxL := 3) (ret := (some .int)) (by decide) rfl ?_
  intro p e s m args below meth c s₁ B hml hv
  obtain ⟨rfl, hsz, hP, hK, hD0, hN, hDe⟩ := hv
  have hx := B.exec
  have hb := B.bytes
  have hr := B.returns
  have hts := atoms_spec (ws := ow_dm_L_go) B.pre
  have hown : s.vm.findClass RL = some m.cls := findClass_of_methodNamed B.named
  have hlocks := B.notSynchronized
  have htab : c.exceptionTable.toList = tableOf [(0, 5, 8, 13)] := vx_table (x := yL_go) B (hts _ List.mem_cons_self)
  subst hsz
  have hD := hD0.self (sz := s.heap.size)
  generalize hAe : va_A (dw_X12 a ac s0) s.heap.size = A at hD hN ⊢
  have hA : ∀ q : Nat, s.heap.size ≤ q → A q := fun q h => by rw [← hAe]; exact Or.inr h
  have hS : va_S A s.heap s.heap [] := va_S.rf
  have hl := lv_entry ([.ref (a 0), .int v0]) (n := 3) (Nat.le_of_ble_eq_true rfl)
  rw [lg_entry_eq]
  generalize (lg_sl ([.ref (a 0), .int v0]) ++ List.replicate (3 - (lg_sl ([.ref (a 0), .int v0])).length) Slot.unset).toArray = ls at hl ⊢
  have hl : lv_has ls 3 [(0, .ref (a 0)), (1, .int v0)] := hl
  refine lv_aload_n hx hb dL_go_0 rfl (lv_at hl 0 rfl) ?_
  refine lv_iload_n hx hb dL_go_1 rfl (lv_at hl 1 rfl) ?_
  have hPc : va_P (dC, dI) vwCl (dw_X12 a ac s0) s.heap := hP
  have hDc : va_D A (dw_X12 a ac s0) := hD
  have hKc : va_K (dC, dI) vwCl (dk_X12 ac) s := hK
  have hFc := nd_rs hDc hS hA
  refine vx_callv (vx_runV (As := [.int v0]) (rest := []) ⟨hx, hb, hml, hown, hts⟩ (dm_X12_go l hlt dC dI a ac n v0 s0 h s.heap.size) (cwV 1 hts gi_dm_L_go_0 rfl rfl rfl (by decide +kernel) ⟨Nat.le_of_ble_eq_true rfl, Nat.le_of_ble_eq_true rfl⟩) ⟨fun a U g mk q => by obtain ⟨q0, q1, qP, qK, qD, qN, qE⟩ := q; exact ⟨q0, q1, qP, va_K.moved (u := U) (U := U.calling g mk a) (Vm.Alike.refl U.vm) qK, qD, nv_same rfl rfl qN, nv_Dsame rfl qE⟩, va_recv hKc hPc (ci := 13) (q0 := 0) rfl rfl, fun U hU hW => ⟨rfl, by rw [hU], by rw [hU]; exact hPc, va_K.moved hW.alike hKc, hDc.weaken (fun _ _ _ _ => trivial), nv_call hS hFc hU hW hN, nv_Dcall hW hDe⟩⟩ rfl rfl hl.1 rfl (lv_room (Nat.le_of_ble_eq_true rfl)) dL_go_2 ⟨by decide +kernel, by decide +kernel⟩) hS (fun q _ h => hFc q h) hFc (fun q _ h => hFc q h) (fun E9 ce q9 ux t H1 locs ht hvm _ hw _ hk1 hS hce hcv hcl => ?_) (fun u1 t H1 locs ht hvm hw hB hz1 hk1 hS => ?_)
  · obtain ⟨e9, hP1, hD1⟩ := hw
    rw [ht] at hP1
    have hP2 := hP1
    have hD2 := hD1.weaken (fun k q _ h => nd_rq hDc hA q.1 h)
    rcases hr0 with ⟨z1, z2⟩ | ⟨z1, z2⟩
    · cases e9.symm.trans z1
    · obtain ⟨ez, eu⟩ := Prod.mk.inj (Sum.inr.inj (e9.symm.trans z1))
      subst ez
      subst eu
      refine nw_catch (own := RL) (name := "java/lang/IllegalArgumentException") hown [] ⟨0, 5, 8, 13⟩ [] (htab.trans rfl) (fun z h9 => absurd h9 List.not_mem_nil) (by decide) (by decide) (hts (.classLink RL 13 "java/lang/IllegalArgumentException") (List.mem_of_getElem? (i := 5) rfl)) (va_Nw.use rfl hN.2.2.2.2.2.2.2.1) hce hcv hcl ?_
      refine W.eq (g2 := F0 m 8 ls [.ref q9]) rfl ?_
      refine W.widen (k := 1) (n := 6) (by decide +kernel) (by decide +kernel) ?_
      refine lv_astore_n (lv' := [(2, .ref q9), (0, .ref (a 0)), (1, .int v0)]) hx hb dL_go_8 rfl hl (by decide) rfl (fun ls hl => ?_)
      refine lv_iconst (v := 1) hx hb dL_go_9 (by decide) ?_
      exact W.iret (v := 1) hx hb hr (fun t ht hW => ⟨⟨1, (), rfl, z2.symm, by rw [ht]; exact hP2, va_K.moved hW.alike hK, hD2⟩, hS.F ht⟩) hS.2.2 dL_go_10
  obtain ⟨hP1, -, hD1⟩ := hB
  rw [ht] at hP1
  have hP2 := hP1
  have hD2 := hD1.weaken (fun k q _ h => nd_rq hDc hA q.1 h)
  rcases hr0 with ⟨z1, z2⟩ | ⟨z1, z2⟩
  · obtain rfl := Sum.inl.inj (hw.symm.trans z1)
    refine W.widen (k := 1) (n := 6) (by decide +kernel) (by decide +kernel) ?_
    refine lv_goto (tgt := 11) hx hb dL_go_5 (by decide) ?_
    refine lv_iconst (v := 0) hx hb dL_go_11 (by decide) ?_
    exact W.iret (v := 0) hx hb hr (fun t ht hW => ⟨⟨0, (), rfl, z2.symm, by rw [ht]; exact hP2, va_K.moved hW.alike hK, hD2⟩, hS.F ht⟩) hS.2.2 dL_go_12
  · cases hw.symm.trans z1
abbrev cL_watch : ByteArray := method_9_code
def yL_watch : MethodName := ⟨RL, "watch", "(LTimeMachine;I[J)I"⟩
theorem dL_watch_0 : decode cL_watch 0 = .ok (.aload_n 2, 1) := by decide +kernel
theorem dL_watch_1 : decode cL_watch 1 = .ok (.iconst 0, 1) := by decide +kernel
theorem dL_watch_2 : decode cL_watch 2 = .ok (.aload_n 0, 1) := by decide +kernel
theorem dL_watch_3 : decode cL_watch 3 = .ok (.iload_n 1, 1) := by decide +kernel
theorem dL_watch_4 : decode cL_watch 4 = .ok (.invokevirtual 34, 3) := by decide +kernel
theorem dL_watch_7 : decode cL_watch 7 = .ok (.i2l, 1) := by decide +kernel
theorem dL_watch_8 : decode cL_watch 8 = .ok (.lastore, 1) := by decide +kernel
theorem dL_watch_9 : decode cL_watch 9 = .ok (.goto 6, 3) := by decide +kernel
theorem dL_watch_12 : decode cL_watch 12 = .ok (.astore_n 3, 1) := by decide +kernel
theorem dL_watch_13 : decode cL_watch 13 = .ok (.iconst 1, 1) := by decide +kernel
theorem dL_watch_14 : decode cL_watch 14 = .ok (.ireturn, 1) := by decide +kernel
theorem dL_watch_15 : decode cL_watch 15 = .ok (.iconst 0, 1) := by decide +kernel
theorem dL_watch_16 : decode cL_watch 16 = .ok (.ireturn, 1) := by decide +kernel
def ow_dm_L_watch : List Cond := Cond.codeWith yL_watch cL_watch 4 (some .int) [(0, 9, 12, 13)] :: ([Cond.methodLink RL 34 yX12_watch, Cond.instanceMethod yX12_watch, Cond.selects RX12 yX12_watch yX12_watch, Cond.initialized RX12, Cond.classLink RL 13 "java/lang/IllegalArgumentException"] ++ (ow_dm_X12_watch ++ []))
theorem gd_dm_L_watch : ∀ w ∈ ow_dm_L_watch, (w.onTables && w.keeps) = true ∨ ∃ ty, w = Cond.arrayClass ty := List.forall_mem_cons.mpr ⟨good_of_word rfl, List.forall_mem_append.mpr ⟨fun w h => good_of_word (List.all_eq_true.mp (by decide +kernel) w h), List.forall_mem_append.mpr ⟨gd_dm_X12_watch, fun _ h => nomatch h⟩⟩⟩
theorem gi_dm_L_watch_0 : GoodIn ow_dm_L_watch (wsV RL 34 RX12 yX12_watch ow_dm_X12_watch) := goodIn_app (goodIn_of _ (by decide +kernel)) (fun w h => ⟨List.mem_cons_of_mem _ (List.mem_append_right _ (List.mem_append_left _ h)), gd_dm_X12_watch w h⟩)
set_option maxHeartbeats 40000000 in
set_option maxRecDepth 100000 in
theorem dm_L_watch (l : Launch) (hlt : l.stackTraces = false) (dC : Nat → ClassId) (dI : Nat → Nat → Nat) (a : Nat → Nat) (ac : Nat → ClassId) (n : Nat) (ao : Nat) (co : ClassId) (v0 : Int32) (s0 : S12) (o : Nat → Int64) {r : (Int32 × S12) ⊕ (String × S12)} (h : df_X12_watch n (a 15) (a 3) v0 s0 = some r) {k : Int32} {u : S12} {o' : Nat → Int64} (hr0 : lw_R1 Int32.toInt64 r k u o o') (sz : Nat) : Met l yL_watch ow_dm_L_watch ({ frames := 12, cells := 1, slots := 6, locals := 265 }) (va_Pc [.ref (a 0), .int v0, .ref ao] (fun U => U.heap.size = sz ∧ va_P (dC, dI) vwCl (dw_HO ao co o a ac s0) U.heap ∧ va_K (dC, dI) vwCl (dk_HO co ac) U ∧ va_D (fun _ => True) (dw_HO ao co o a ac s0) ∧ nv_E dI (va_A (dw_HO ao co o a ac s0) sz) U ∧ nv_Dc U)) (va_Qi (fun x _ => x = k) (fun (_ : Unit) t => va_P (dC, dI) vwCl (dw_HO ao co o' a ac u) t.heap ∧ va_K (dC, dI) vwCl (dk_HO co ac) t ∧ va_D (va_A (dw_HO ao co o a ac s0) sz) (dw_HO ao co o' a ac u)) (va_A (dw_HO ao co o a ac s0) sz)) 1 6 (va_A (dw_HO ao co o a ac s0) sz) := by
  refine va_MetW (hh := [(0, 9, 12, 13)]) (cc := cL_watch) (maxL := 4) (ret := (some .int)) (by decide) rfl ?_
  intro p e s m args below meth c s₁ B hml hv
  obtain ⟨rfl, hsz, hP, hK, hD0, hN, hDe⟩ := hv
  have hx := B.exec
  have hb := B.bytes
  have hr := B.returns
  have hts := atoms_spec (ws := ow_dm_L_watch) B.pre
  have hown : s.vm.findClass RL = some m.cls := findClass_of_methodNamed B.named
  have hlocks := B.notSynchronized
  have htab : c.exceptionTable.toList = tableOf [(0, 9, 12, 13)] := vx_table (x := yL_watch) B (hts _ List.mem_cons_self)
  subst hsz
  have hD := hD0.self (sz := s.heap.size)
  generalize hAe : va_A (dw_HO ao co o a ac s0) s.heap.size = A at hD hN ⊢
  have hA : ∀ q : Nat, s.heap.size ≤ q → A q := fun q h => by rw [← hAe]; exact Or.inr h
  have hS : va_S A s.heap s.heap [] := va_S.rf
  have hl := lv_entry ([.ref (a 0), .int v0, .ref ao]) (n := 4) (Nat.le_of_ble_eq_true rfl)
  rw [lg_entry_eq]
  generalize (lg_sl ([.ref (a 0), .int v0, .ref ao]) ++ List.replicate (4 - (lg_sl ([.ref (a 0), .int v0, .ref ao])).length) Slot.unset).toArray = ls at hl ⊢
  have hl : lv_has ls 4 [(0, .ref (a 0)), (1, .int v0), (2, .ref ao)] := hl
  refine lv_aload_n hx hb dL_watch_0 rfl (lv_at hl 2 rfl) ?_
  refine lv_iconst (v := 0) hx hb dL_watch_1 (by decide) ?_
  refine lv_aload_n hx hb dL_watch_2 rfl (lv_at hl 0 rfl) ?_
  refine lv_iload_n hx hb dL_watch_3 rfl (lv_at hl 1 rfl) ?_
  have hPc : va_P (dC, dI) vwCl (dw_X12 a ac s0) s.heap := nd_pr hP
  have hDc : va_D A (dw_X12 a ac s0) := nd_dr hD
  have hKc : va_K (dC, dI) vwCl (dk_X12 ac) s := nd_yr hK
  have hFc := nd_rs hDc hS hA
  refine vx_calli (vx_runV (As := [.int v0]) (rest := [.int 0, .ref ao]) ⟨hx, hb, hml, hown, hts⟩ (dm_X12_watch l hlt dC dI a ac n v0 s0 h s.heap.size) (cwV 1 hts gi_dm_L_watch_0 rfl rfl rfl (by decide +kernel) ⟨Nat.le_of_ble_eq_true rfl, Nat.le_of_ble_eq_true rfl⟩) ⟨fun a U g mk q => by obtain ⟨q0, q1, qP, qK, qD, qN, qE⟩ := q; exact ⟨q0, q1, qP, va_K.moved (u := U) (U := U.calling g mk a) (Vm.Alike.refl U.vm) qK, qD, nv_same rfl rfl qN, nv_Dsame rfl qE⟩, va_recv hKc hPc (ci := 13) (q0 := 0) rfl rfl, fun U hU hW => ⟨rfl, by rw [hU], by rw [hU]; exact hPc, va_K.moved hW.alike hKc, hDc.weaken (fun _ _ _ _ => trivial), nv_call hS hFc hU hW hN, nv_Dcall hW hDe⟩⟩ rfl rfl hl.1 rfl (lv_room (Nat.le_of_ble_eq_true rfl)) dL_watch_4 ⟨by decide +kernel, by decide +kernel⟩) hS (fun q _ h => hFc q h) hFc (fun q _ h => hFc q h) (fun E9 ce q9 ux t H1 locs ht hvm _ hw _ hk1 hS hce hcv hcl => ?_) (fun r1 u1 t H1 locs ht hvm hw hB hz1 hk1 hS => ?_)
  · obtain ⟨e9, hP1, hD1⟩ := hw
    rw [ht] at hP1
    obtain ⟨hP2, hD2, -⟩ := nd_stepR hP hD hk1 hP1 hD1
    have hD2 := hD2.weaken (fun k q _ h => nd_rq hD hA q.1 h)
    rcases hr0 with ⟨v, z1, z2, z3⟩ | ⟨z1, z2, z3⟩
    · cases e9.symm.trans z1
    · obtain ⟨ez, eu⟩ := Prod.mk.inj (Sum.inr.inj (e9.symm.trans z1))
      subst ez
      subst eu
      subst z3
      refine nw_catch (own := RL) (name := "java/lang/IllegalArgumentException") hown [] ⟨0, 9, 12, 13⟩ [] (htab.trans rfl) (fun z h9 => absurd h9 List.not_mem_nil) (by decide) (by decide) (hts (.classLink RL 13 "java/lang/IllegalArgumentException") (List.mem_of_getElem? (i := 5) rfl)) (va_Nw.use rfl hN.2.2.2.2.2.2.2.1) hce hcv hcl ?_
      refine W.eq (g2 := F0 m 12 ls [.ref q9]) rfl ?_
      refine W.widen (k := 1) (n := 6) (by decide +kernel) (by decide +kernel) ?_
      refine lv_astore_n (lv' := [(3, .ref q9), (0, .ref (a 0)), (1, .int v0), (2, .ref ao)]) hx hb dL_watch_12 rfl hl (by decide) rfl (fun ls hl => ?_)
      refine lv_iconst (v := 1) hx hb dL_watch_13 (by decide) ?_
      exact W.iret (v := 1) hx hb hr (fun t ht hW => ⟨⟨1, (), rfl, z2.symm, by rw [ht]; exact hP2, va_K.moved hW.alike hK, hD2⟩, hS.F ht⟩) hS.2.2 dL_watch_14
  obtain ⟨hP1, -, hD1⟩ := hB
  rw [ht] at hP1
  obtain ⟨hP2, hD2, -⟩ := nd_stepR hP hD hk1 hP1 hD1
  have hD2 := hD2.weaken (fun k q _ h => nd_rq hD hA q.1 h)
  rcases hr0 with ⟨v, z1, z2, z3⟩ | ⟨z1, z2, z3⟩
  · obtain ⟨ez, eu⟩ := Prod.mk.inj (Sum.inl.inj (hw.symm.trans z1))
    subst ez
    subst eu
    subst z3
    refine W.widen (k := 1) (n := 6) (by decide +kernel) (by decide +kernel) ?_
    refine lv_i2l hx hb dL_watch_7 rfl ?_
    refine va_last (i := 0) (x := Int32.toInt64 r1) hx hb hK hP2 hD2 hS 0 0 rfl rfl (vp_in_iff.mpr ⟨by decide, by decide⟩) dL_watch_8 (fun H locs hP hD hS => ?_)
    refine lv_goto (tgt := 15) hx hb dL_watch_9 (by decide) ?_
    refine lv_iconst (v := 0) hx hb dL_watch_15 (by decide) ?_
    exact W.iret (v := 0) hx hb hr (fun t ht hW => ⟨⟨0, (), rfl, z2.symm, by rw [ht]; exact hP, va_K.moved hW.alike hK, hD⟩, hS.F ht⟩) hS.2.2 dL_watch_16
  · cases hw.symm.trans z1
abbrev cL_drop : ByteArray := method_10_code
def yL_drop : MethodName := ⟨RL, "drop", "(LTimeMachine;I[J)I"⟩
theorem dL_drop_0 : decode cL_drop 0 = .ok (.aload_n 2, 1) := by decide +kernel
theorem dL_drop_1 : decode cL_drop 1 = .ok (.iconst 0, 1) := by decide +kernel
theorem dL_drop_2 : decode cL_drop 2 = .ok (.aload_n 0, 1) := by decide +kernel
theorem dL_drop_3 : decode cL_drop 3 = .ok (.iload_n 1, 1) := by decide +kernel
theorem dL_drop_4 : decode cL_drop 4 = .ok (.invokevirtual 37, 3) := by decide +kernel
theorem dL_drop_7 : decode cL_drop 7 = .ok (.ifCond .eq 7, 3) := by decide +kernel
theorem dL_drop_10 : decode cL_drop 10 = .ok (.lconst 1, 1) := by decide +kernel
theorem dL_drop_11 : decode cL_drop 11 = .ok (.goto 4, 3) := by decide +kernel
theorem dL_drop_14 : decode cL_drop 14 = .ok (.lconst 0, 1) := by decide +kernel
theorem dL_drop_15 : decode cL_drop 15 = .ok (.lastore, 1) := by decide +kernel
theorem dL_drop_16 : decode cL_drop 16 = .ok (.goto 6, 3) := by decide +kernel
theorem dL_drop_19 : decode cL_drop 19 = .ok (.astore_n 3, 1) := by decide +kernel
theorem dL_drop_20 : decode cL_drop 20 = .ok (.iconst 1, 1) := by decide +kernel
theorem dL_drop_21 : decode cL_drop 21 = .ok (.ireturn, 1) := by decide +kernel
theorem dL_drop_22 : decode cL_drop 22 = .ok (.iconst 0, 1) := by decide +kernel
theorem dL_drop_23 : decode cL_drop 23 = .ok (.ireturn, 1) := by decide +kernel
def ow_dm_L_drop : List Cond := Cond.codeWith yL_drop cL_drop 4 (some .int) [(0, 16, 19, 13)] :: ([Cond.methodLink RL 37 yX12_drop, Cond.instanceMethod yX12_drop, Cond.selects RX12 yX12_drop yX12_drop, Cond.initialized RX12, Cond.classLink RL 13 "java/lang/IllegalArgumentException"] ++ (ow_dm_X12_drop ++ []))
theorem gd_dm_L_drop : ∀ w ∈ ow_dm_L_drop, (w.onTables && w.keeps) = true ∨ ∃ ty, w = Cond.arrayClass ty := List.forall_mem_cons.mpr ⟨good_of_word rfl, List.forall_mem_append.mpr ⟨fun w h => good_of_word (List.all_eq_true.mp (by decide +kernel) w h), List.forall_mem_append.mpr ⟨gd_dm_X12_drop, fun _ h => nomatch h⟩⟩⟩
theorem gi_dm_L_drop_0 : GoodIn ow_dm_L_drop (wsV RL 37 RX12 yX12_drop ow_dm_X12_drop) := goodIn_app (goodIn_of _ (by decide +kernel)) (fun w h => ⟨List.mem_cons_of_mem _ (List.mem_append_right _ (List.mem_append_left _ h)), gd_dm_X12_drop w h⟩)
set_option maxHeartbeats 40000000 in
set_option maxRecDepth 100000 in
theorem dm_L_drop (l : Launch) (hlt : l.stackTraces = false) (dC : Nat → ClassId) (dI : Nat → Nat → Nat) (a : Nat → Nat) (ac : Nat → ClassId) (n : Nat) (ao : Nat) (co : ClassId) (v0 : Int32) (s0 : S12) (o : Nat → Int64) {r : (Int32 × S12) ⊕ (String × S12)} (h : df_X12_drop n (a 15) (a 3) v0 s0 = some r) {k : Int32} {u : S12} {o' : Nat → Int64} (hr0 : lw_R1 lw_b r k u o o') (sz : Nat) : Met l yL_drop ow_dm_L_drop ({ frames := 7, cells := 1, slots := 6, locals := 103 }) (va_Pc [.ref (a 0), .int v0, .ref ao] (fun U => U.heap.size = sz ∧ va_P (dC, dI) vwCl (dw_HO ao co o a ac s0) U.heap ∧ va_K (dC, dI) vwCl (dk_HO co ac) U ∧ va_D (fun _ => True) (dw_HO ao co o a ac s0) ∧ nv_E dI (va_A (dw_HO ao co o a ac s0) sz) U ∧ nv_Dc U)) (va_Qi (fun x _ => x = k) (fun (_ : Unit) t => va_P (dC, dI) vwCl (dw_HO ao co o' a ac u) t.heap ∧ va_K (dC, dI) vwCl (dk_HO co ac) t ∧ va_D (va_A (dw_HO ao co o a ac s0) sz) (dw_HO ao co o' a ac u)) (va_A (dw_HO ao co o a ac s0) sz)) 1 6 (va_A (dw_HO ao co o a ac s0) sz) := by
  refine va_MetW (hh := [(0, 16, 19, 13)]) (cc := cL_drop) (maxL := 4) (ret := (some .int)) (by decide) rfl ?_
  intro p e s m args below meth c s₁ B hml hv
  obtain ⟨rfl, hsz, hP, hK, hD0, hN, hDe⟩ := hv
  have hx := B.exec
  have hb := B.bytes
  have hr := B.returns
  have hts := atoms_spec (ws := ow_dm_L_drop) B.pre
  have hown : s.vm.findClass RL = some m.cls := findClass_of_methodNamed B.named
  have hlocks := B.notSynchronized
  have htab : c.exceptionTable.toList = tableOf [(0, 16, 19, 13)] := vx_table (x := yL_drop) B (hts _ List.mem_cons_self)
  subst hsz
  have hD := hD0.self (sz := s.heap.size)
  generalize hAe : va_A (dw_HO ao co o a ac s0) s.heap.size = A at hD hN ⊢
  have hA : ∀ q : Nat, s.heap.size ≤ q → A q := fun q h => by rw [← hAe]; exact Or.inr h
  have hS : va_S A s.heap s.heap [] := va_S.rf
  have hl := lv_entry ([.ref (a 0), .int v0, .ref ao]) (n := 4) (Nat.le_of_ble_eq_true rfl)
  rw [lg_entry_eq]
  generalize (lg_sl ([.ref (a 0), .int v0, .ref ao]) ++ List.replicate (4 - (lg_sl ([.ref (a 0), .int v0, .ref ao])).length) Slot.unset).toArray = ls at hl ⊢
  have hl : lv_has ls 4 [(0, .ref (a 0)), (1, .int v0), (2, .ref ao)] := hl
  refine lv_aload_n hx hb dL_drop_0 rfl (lv_at hl 2 rfl) ?_
  refine lv_iconst (v := 0) hx hb dL_drop_1 (by decide) ?_
  refine lv_aload_n hx hb dL_drop_2 rfl (lv_at hl 0 rfl) ?_
  refine lv_iload_n hx hb dL_drop_3 rfl (lv_at hl 1 rfl) ?_
  have hPc : va_P (dC, dI) vwCl (dw_X12 a ac s0) s.heap := nd_pr hP
  have hDc : va_D A (dw_X12 a ac s0) := nd_dr hD
  have hKc : va_K (dC, dI) vwCl (dk_X12 ac) s := nd_yr hK
  have hFc := nd_rs hDc hS hA
  refine vx_calli (vx_runV (As := [.int v0]) (rest := [.int 0, .ref ao]) ⟨hx, hb, hml, hown, hts⟩ (dm_X12_drop l hlt dC dI a ac n v0 s0 h s.heap.size) (cwV 1 hts gi_dm_L_drop_0 rfl rfl rfl (by decide +kernel) ⟨Nat.le_of_ble_eq_true rfl, Nat.le_of_ble_eq_true rfl⟩) ⟨fun a U g mk q => by obtain ⟨q0, q1, qP, qK, qD, qN, qE⟩ := q; exact ⟨q0, q1, qP, va_K.moved (u := U) (U := U.calling g mk a) (Vm.Alike.refl U.vm) qK, qD, nv_same rfl rfl qN, nv_Dsame rfl qE⟩, va_recv hKc hPc (ci := 13) (q0 := 0) rfl rfl, fun U hU hW => ⟨rfl, by rw [hU], by rw [hU]; exact hPc, va_K.moved hW.alike hKc, hDc.weaken (fun _ _ _ _ => trivial), nv_call hS hFc hU hW hN, nv_Dcall hW hDe⟩⟩ rfl rfl hl.1 rfl (lv_room (Nat.le_of_ble_eq_true rfl)) dL_drop_4 ⟨by decide +kernel, by decide +kernel⟩) hS (fun q _ h => hFc q h) hFc (fun q _ h => hFc q h) (fun E9 ce q9 ux t H1 locs ht hvm _ hw _ hk1 hS hce hcv hcl => ?_) (fun r1 u1 t H1 locs ht hvm hw hB hz1 hk1 hS => ?_)
  · obtain ⟨e9, hP1, hD1⟩ := hw
    rw [ht] at hP1
    obtain ⟨hP2, hD2, -⟩ := nd_stepR hP hD hk1 hP1 hD1
    have hD2 := hD2.weaken (fun k q _ h => nd_rq hD hA q.1 h)
    rcases hr0 with ⟨v, z1, z2, z3⟩ | ⟨z1, z2, z3⟩
    · cases e9.symm.trans z1
    · obtain ⟨ez, eu⟩ := Prod.mk.inj (Sum.inr.inj (e9.symm.trans z1))
      subst ez
      subst eu
      subst z3
      refine nw_catch (own := RL) (name := "java/lang/IllegalArgumentException") hown [] ⟨0, 16, 19, 13⟩ [] (htab.trans rfl) (fun z h9 => absurd h9 List.not_mem_nil) (by decide) (by decide) (hts (.classLink RL 13 "java/lang/IllegalArgumentException") (List.mem_of_getElem? (i := 5) rfl)) (va_Nw.use rfl hN.2.2.2.2.2.2.2.1) hce hcv hcl ?_
      refine W.eq (g2 := F0 m 19 ls [.ref q9]) rfl ?_
      refine W.widen (k := 1) (n := 6) (by decide +kernel) (by decide +kernel) ?_
      refine lv_astore_n (lv' := [(3, .ref q9), (0, .ref (a 0)), (1, .int v0), (2, .ref ao)]) hx hb dL_drop_19 rfl hl (by decide) rfl (fun ls hl => ?_)
      refine lv_iconst (v := 1) hx hb dL_drop_20 (by decide) ?_
      exact W.iret (v := 1) hx hb hr (fun t ht hW => ⟨⟨1, (), rfl, z2.symm, by rw [ht]; exact hP2, va_K.moved hW.alike hK, hD2⟩, hS.F ht⟩) hS.2.2 dL_drop_21
  obtain ⟨hP1, -, hD1⟩ := hB
  rw [ht] at hP1
  obtain ⟨hP2, hD2, -⟩ := nd_stepR hP hD hk1 hP1 hD1
  have hD2 := hD2.weaken (fun k q _ h => nd_rq hD hA q.1 h)
  rcases hr0 with ⟨v, z1, z2, z3⟩ | ⟨z1, z2, z3⟩
  · obtain ⟨ez, eu⟩ := Prod.mk.inj (Sum.inl.inj (hw.symm.trans z1))
    subst ez
    subst eu
    subst z3
    refine W.widen (k := 1) (n := 6) (by decide +kernel) (by decide +kernel) ?_
    refine lv_if_eq (tgt := 14) hx hb dL_drop_7 (by decide) (fun c1 => ?_) (fun c1 => ?_)
    · refine lv_lconst (v := 0) hx hb dL_drop_14 (by decide) ?_
      refine va_last (i := 0) (x := 0) hx hb hK hP2 hD2 hS 0 0 rfl rfl (vp_in_iff.mpr ⟨by decide, by decide⟩) dL_drop_15 (fun H locs hP hD hS => ?_)
      refine lv_goto (tgt := 22) hx hb dL_drop_16 (by decide) ?_
      refine lv_iconst (v := 0) hx hb dL_drop_22 (by decide) ?_
      have eb : lw_b r1 = 0 := if_pos c1
      rw [eb]
      exact W.iret (v := 0) hx hb hr (fun t ht hW => ⟨⟨0, (), rfl, z2.symm, by rw [ht]; exact hP, va_K.moved hW.alike hK, hD⟩, hS.F ht⟩) hS.2.2 dL_drop_23
    · refine lv_lconst (v := 1) hx hb dL_drop_10 (by decide) ?_
      refine lv_goto (tgt := 15) hx hb dL_drop_11 (by decide) ?_
      refine va_last (i := 0) (x := 1) hx hb hK hP2 hD2 hS 0 0 rfl rfl (vp_in_iff.mpr ⟨by decide, by decide⟩) dL_drop_15 (fun H locs hP hD hS => ?_)
      refine lv_goto (tgt := 22) hx hb dL_drop_16 (by decide) ?_
      refine lv_iconst (v := 0) hx hb dL_drop_22 (by decide) ?_
      have eb : lw_b r1 = 1 := if_neg c1
      rw [eb]
      exact W.iret (v := 0) hx hb hr (fun t ht hW => ⟨⟨0, (), rfl, z2.symm, by rw [ht]; exact hP, va_K.moved hW.alike hK, hD⟩, hS.F ht⟩) hS.2.2 dL_drop_23
  · cases hw.symm.trans z1
abbrev cL_value : ByteArray := method_11_code
def yL_value : MethodName := ⟨RL, "value", "(LTimeMachine;I[J)I"⟩
theorem dL_value_0 : decode cL_value 0 = .ok (.aload_n 2, 1) := by decide +kernel
theorem dL_value_1 : decode cL_value 1 = .ok (.iconst 0, 1) := by decide +kernel
theorem dL_value_2 : decode cL_value 2 = .ok (.aload_n 0, 1) := by decide +kernel
theorem dL_value_3 : decode cL_value 3 = .ok (.iload_n 1, 1) := by decide +kernel
theorem dL_value_4 : decode cL_value 4 = .ok (.invokevirtual 41, 3) := by decide +kernel
theorem dL_value_7 : decode cL_value 7 = .ok (.lastore, 1) := by decide +kernel
theorem dL_value_8 : decode cL_value 8 = .ok (.goto 9, 3) := by decide +kernel
theorem dL_value_11 : decode cL_value 11 = .ok (.astore_n 3, 1) := by decide +kernel
theorem dL_value_12 : decode cL_value 12 = .ok (.iconst 1, 1) := by decide +kernel
theorem dL_value_13 : decode cL_value 13 = .ok (.ireturn, 1) := by decide +kernel
theorem dL_value_14 : decode cL_value 14 = .ok (.astore_n 3, 1) := by decide +kernel
theorem dL_value_15 : decode cL_value 15 = .ok (.iconst 2, 1) := by decide +kernel
theorem dL_value_16 : decode cL_value 16 = .ok (.ireturn, 1) := by decide +kernel
theorem dL_value_17 : decode cL_value 17 = .ok (.iconst 0, 1) := by decide +kernel
theorem dL_value_18 : decode cL_value 18 = .ok (.ireturn, 1) := by decide +kernel
def ow_dm_L_value : List Cond := Cond.codeWith yL_value cL_value 4 (some .int) [(0, 8, 11, 13), (0, 8, 14, 19)] :: ([Cond.methodLink RL 41 yX12_value, Cond.instanceMethod yX12_value, Cond.selects RX12 yX12_value yX12_value, Cond.initialized RX12, Cond.classLink RL 13 "java/lang/IllegalArgumentException", Cond.classLink RL 19 "java/lang/IllegalStateException"] ++ (ow_dm_X12_value ++ []))
theorem gd_dm_L_value : ∀ w ∈ ow_dm_L_value, (w.onTables && w.keeps) = true ∨ ∃ ty, w = Cond.arrayClass ty := List.forall_mem_cons.mpr ⟨good_of_word rfl, List.forall_mem_append.mpr ⟨fun w h => good_of_word (List.all_eq_true.mp (by decide +kernel) w h), List.forall_mem_append.mpr ⟨gd_dm_X12_value, fun _ h => nomatch h⟩⟩⟩
theorem gi_dm_L_value_0 : GoodIn ow_dm_L_value (wsV RL 41 RX12 yX12_value ow_dm_X12_value) := goodIn_app (goodIn_of _ (by decide +kernel)) (fun w h => ⟨List.mem_cons_of_mem _ (List.mem_append_right _ (List.mem_append_left _ h)), gd_dm_X12_value w h⟩)
set_option maxHeartbeats 40000000 in
set_option maxRecDepth 100000 in
theorem dm_L_value (l : Launch) (hlt : l.stackTraces = false) (dC : Nat → ClassId) (dI : Nat → Nat → Nat) (a : Nat → Nat) (ac : Nat → ClassId) (n : Nat) (ao : Nat) (co : ClassId) (v0 : Int32) (s0 : S12) (o : Nat → Int64) {r : (Int64 × S12) ⊕ (String × S12)} (h : df_X12_value n (a 15) (a 3) v0 s0 = some r) {k : Int32} {u : S12} {o' : Nat → Int64} (hr0 : lw_R2 (fun v : Int64 => v) r k u o o') (sz : Nat) : Met l yL_value ow_dm_L_value ({ frames := 10, cells := 1, slots := 6, locals := 228 }) (va_Pc [.ref (a 0), .int v0, .ref ao] (fun U => U.heap.size = sz ∧ va_P (dC, dI) vwCl (dw_HO ao co o a ac s0) U.heap ∧ va_K (dC, dI) vwCl (dk_HO co ac) U ∧ va_D (fun _ => True) (dw_HO ao co o a ac s0) ∧ nv_E dI (va_A (dw_HO ao co o a ac s0) sz) U ∧ nv_Dc U)) (va_Qi (fun x _ => x = k) (fun (_ : Unit) t => va_P (dC, dI) vwCl (dw_HO ao co o' a ac u) t.heap ∧ va_K (dC, dI) vwCl (dk_HO co ac) t ∧ va_D (va_A (dw_HO ao co o a ac s0) sz) (dw_HO ao co o' a ac u)) (va_A (dw_HO ao co o a ac s0) sz)) 1 6 (va_A (dw_HO ao co o a ac s0) sz) := by
  refine va_MetW (hh := [(0, 8, 11, 13), (0, 8, 14, 19)]) (cc := cL_value) (maxL := 4) (ret := (some .int)) (by decide) rfl ?_
  intro p e s m args below meth c s₁ B hml hv
  obtain ⟨rfl, hsz, hP, hK, hD0, hN, hDe⟩ := hv
  have hx := B.exec
  have hb := B.bytes
  have hr := B.returns
  have hts := atoms_spec (ws := ow_dm_L_value) B.pre
  have hown : s.vm.findClass RL = some m.cls := findClass_of_methodNamed B.named
  have hlocks := B.notSynchronized
  have htab : c.exceptionTable.toList = tableOf [(0, 8, 11, 13), (0, 8, 14, 19)] := vx_table (x := yL_value) B (hts _ List.mem_cons_self)
  subst hsz
  have hD := hD0.self (sz := s.heap.size)
  generalize hAe : va_A (dw_HO ao co o a ac s0) s.heap.size = A at hD hN ⊢
  have hA : ∀ q : Nat, s.heap.size ≤ q → A q := fun q h => by rw [← hAe]; exact Or.inr h
  have hS : va_S A s.heap s.heap [] := va_S.rf
  have hl := lv_entry ([.ref (a 0), .int v0, .ref ao]) (n := 4) (Nat.le_of_ble_eq_true rfl)
  rw [lg_entry_eq]
  generalize (lg_sl ([.ref (a 0), .int v0, .ref ao]) ++ List.replicate (4 - (lg_sl ([.ref (a 0), .int v0, .ref ao])).length) Slot.unset).toArray = ls at hl ⊢
  have hl : lv_has ls 4 [(0, .ref (a 0)), (1, .int v0), (2, .ref ao)] := hl
  refine lv_aload_n hx hb dL_value_0 rfl (lv_at hl 2 rfl) ?_
  refine lv_iconst (v := 0) hx hb dL_value_1 (by decide) ?_
  refine lv_aload_n hx hb dL_value_2 rfl (lv_at hl 0 rfl) ?_
  refine lv_iload_n hx hb dL_value_3 rfl (lv_at hl 1 rfl) ?_
  have hPc : va_P (dC, dI) vwCl (dw_X12 a ac s0) s.heap := nd_pr hP
  have hDc : va_D A (dw_X12 a ac s0) := nd_dr hD
  have hKc : va_K (dC, dI) vwCl (dk_X12 ac) s := nd_yr hK
  have hFc := nd_rs hDc hS hA
  refine vx_calll (vx_runV (As := [.int v0]) (rest := [.int 0, .ref ao]) ⟨hx, hb, hml, hown, hts⟩ (dm_X12_value l hlt dC dI a ac n v0 s0 h s.heap.size) (cwV 1 hts gi_dm_L_value_0 rfl rfl rfl (by decide +kernel) ⟨Nat.le_of_ble_eq_true rfl, Nat.le_of_ble_eq_true rfl⟩) ⟨fun a U g mk q => by obtain ⟨q0, q1, qP, qK, qD, qN, qE⟩ := q; exact ⟨q0, q1, qP, va_K.moved (u := U) (U := U.calling g mk a) (Vm.Alike.refl U.vm) qK, qD, nv_same rfl rfl qN, nv_Dsame rfl qE⟩, va_recv hKc hPc (ci := 13) (q0 := 0) rfl rfl, fun U hU hW => ⟨rfl, by rw [hU], by rw [hU]; exact hPc, va_K.moved hW.alike hKc, hDc.weaken (fun _ _ _ _ => trivial), nv_call hS hFc hU hW hN, nv_Dcall hW hDe⟩⟩ rfl rfl hl.1 rfl (lv_room (Nat.le_of_ble_eq_true rfl)) dL_value_4 ⟨by decide +kernel, by decide +kernel⟩) hS (fun q _ h => hFc q h) hFc (fun q _ h => hFc q h) (fun E9 ce q9 ux t H1 locs ht hvm _ hw _ hk1 hS hce hcv hcl => ?_) (fun r1 u1 t H1 locs ht hvm hw hB hz1 hk1 hS => ?_)
  · obtain ⟨e9, hP1, hD1⟩ := hw
    rw [ht] at hP1
    obtain ⟨hP2, hD2, -⟩ := nd_stepR hP hD hk1 hP1 hD1
    have hD2 := hD2.weaken (fun k q _ h => nd_rq hD hA q.1 h)
    rcases hr0 with ⟨v, z1, z2, z3⟩ | ⟨z1, z2, z3⟩ | ⟨z1, z2, z3⟩
    · cases e9.symm.trans z1
    · obtain ⟨ez, eu⟩ := Prod.mk.inj (Sum.inr.inj (e9.symm.trans z1))
      subst ez
      subst eu
      subst z3
      refine nw_catch (own := RL) (name := "java/lang/IllegalArgumentException") hown [] ⟨0, 8, 11, 13⟩ [⟨0, 8, 14, 19⟩] (htab.trans rfl) (fun z h9 => absurd h9 List.not_mem_nil) (by decide) (by decide) (hts (.classLink RL 13 "java/lang/IllegalArgumentException") (List.mem_of_getElem? (i := 5) rfl)) (va_Nw.use rfl hN.2.2.2.2.2.2.2.1) hce hcv hcl ?_
      refine W.eq (g2 := F0 m 11 ls [.ref q9]) rfl ?_
      refine W.widen (k := 1) (n := 6) (by decide +kernel) (by decide +kernel) ?_
      refine lv_astore_n (lv' := [(3, .ref q9), (0, .ref (a 0)), (1, .int v0), (2, .ref ao)]) hx hb dL_value_11 rfl hl (by decide) rfl (fun ls hl => ?_)
      refine lv_iconst (v := 1) hx hb dL_value_12 (by decide) ?_
      exact W.iret (v := 1) hx hb hr (fun t ht hW => ⟨⟨1, (), rfl, z2.symm, by rw [ht]; exact hP2, va_K.moved hW.alike hK, hD2⟩, hS.F ht⟩) hS.2.2 dL_value_13
    · obtain ⟨ez, eu⟩ := Prod.mk.inj (Sum.inr.inj (e9.symm.trans z1))
      subst ez
      subst eu
      subst z3
      refine nw_catch (own := RL) (name := "java/lang/IllegalStateException") hown [⟨0, 8, 11, 13⟩] ⟨0, 8, 14, 19⟩ [] (htab.trans rfl) (fun z h9 => by rcases List.mem_singleton.mp h9 with rfl; exact Or.inr ⟨by decide, _, (hts (.classLink RL 13 "java/lang/IllegalArgumentException") (List.mem_of_getElem? (i := 5) rfl)), hN.2.2.2.2.2.2.2.2.2.1⟩) (by decide) (by decide) (hts (.classLink RL 19 "java/lang/IllegalStateException") (List.mem_of_getElem? (i := 6) rfl)) (va_Nw.use rfl hN.2.2.2.2.2.2.2.2.1) hce hcv hcl ?_
      refine W.eq (g2 := F0 m 14 ls [.ref q9]) rfl ?_
      refine W.widen (k := 1) (n := 6) (by decide +kernel) (by decide +kernel) ?_
      refine lv_astore_n (lv' := [(3, .ref q9), (0, .ref (a 0)), (1, .int v0), (2, .ref ao)]) hx hb dL_value_14 rfl hl (by decide) rfl (fun ls hl => ?_)
      refine lv_iconst (v := 2) hx hb dL_value_15 (by decide) ?_
      exact W.iret (v := 2) hx hb hr (fun t ht hW => ⟨⟨2, (), rfl, z2.symm, by rw [ht]; exact hP2, va_K.moved hW.alike hK, hD2⟩, hS.F ht⟩) hS.2.2 dL_value_16
  obtain ⟨hP1, -, hD1⟩ := hB
  rw [ht] at hP1
  obtain ⟨hP2, hD2, -⟩ := nd_stepR hP hD hk1 hP1 hD1
  have hD2 := hD2.weaken (fun k q _ h => nd_rq hD hA q.1 h)
  rcases hr0 with ⟨v, z1, z2, z3⟩ | ⟨z1, z2, z3⟩ | ⟨z1, z2, z3⟩
  · obtain ⟨ez, eu⟩ := Prod.mk.inj (Sum.inl.inj (hw.symm.trans z1))
    subst ez
    subst eu
    subst z3
    refine W.widen (k := 1) (n := 6) (by decide +kernel) (by decide +kernel) ?_
    refine va_last (i := 0) (x := r1) hx hb hK hP2 hD2 hS 0 0 rfl rfl (vp_in_iff.mpr ⟨by decide, by decide⟩) dL_value_7 (fun H locs hP hD hS => ?_)
    refine lv_goto (tgt := 17) hx hb dL_value_8 (by decide) ?_
    refine lv_iconst (v := 0) hx hb dL_value_17 (by decide) ?_
    exact W.iret (v := 0) hx hb hr (fun t ht hW => ⟨⟨0, (), rfl, z2.symm, by rw [ht]; exact hP, va_K.moved hW.alike hK, hD⟩, hS.F ht⟩) hS.2.2 dL_value_18
  · cases hw.symm.trans z1
  · cases hw.symm.trans z1
abbrev cL_backTo : ByteArray := method_12_code
def yL_backTo : MethodName := ⟨RL, "backTo", "(LTimeMachine;I[J)I"⟩
theorem dL_backTo_0 : decode cL_backTo 0 = .ok (.aload_n 2, 1) := by decide +kernel
theorem dL_backTo_1 : decode cL_backTo 1 = .ok (.iconst 0, 1) := by decide +kernel
theorem dL_backTo_2 : decode cL_backTo 2 = .ok (.aload_n 0, 1) := by decide +kernel
theorem dL_backTo_3 : decode cL_backTo 3 = .ok (.iload_n 1, 1) := by decide +kernel
theorem dL_backTo_4 : decode cL_backTo 4 = .ok (.invokevirtual 45, 3) := by decide +kernel
theorem dL_backTo_7 : decode cL_backTo 7 = .ok (.i2l, 1) := by decide +kernel
theorem dL_backTo_8 : decode cL_backTo 8 = .ok (.lastore, 1) := by decide +kernel
theorem dL_backTo_9 : decode cL_backTo 9 = .ok (.goto 9, 3) := by decide +kernel
theorem dL_backTo_12 : decode cL_backTo 12 = .ok (.astore_n 3, 1) := by decide +kernel
theorem dL_backTo_13 : decode cL_backTo 13 = .ok (.iconst 1, 1) := by decide +kernel
theorem dL_backTo_14 : decode cL_backTo 14 = .ok (.ireturn, 1) := by decide +kernel
theorem dL_backTo_15 : decode cL_backTo 15 = .ok (.astore_n 3, 1) := by decide +kernel
theorem dL_backTo_16 : decode cL_backTo 16 = .ok (.iconst 2, 1) := by decide +kernel
theorem dL_backTo_17 : decode cL_backTo 17 = .ok (.ireturn, 1) := by decide +kernel
theorem dL_backTo_18 : decode cL_backTo 18 = .ok (.iconst 0, 1) := by decide +kernel
theorem dL_backTo_19 : decode cL_backTo 19 = .ok (.ireturn, 1) := by decide +kernel
def ow_dm_L_backTo : List Cond := Cond.codeWith yL_backTo cL_backTo 4 (some .int) [(0, 9, 12, 13), (0, 9, 15, 19)] :: ([Cond.methodLink RL 45 yX12_backTo, Cond.instanceMethod yX12_backTo, Cond.selects RX12 yX12_backTo yX12_backTo, Cond.initialized RX12, Cond.classLink RL 13 "java/lang/IllegalArgumentException", Cond.classLink RL 19 "java/lang/IllegalStateException"] ++ (ow_dm_X12_backTo ++ []))
theorem gd_dm_L_backTo : ∀ w ∈ ow_dm_L_backTo, (w.onTables && w.keeps) = true ∨ ∃ ty, w = Cond.arrayClass ty := List.forall_mem_cons.mpr ⟨good_of_word rfl, List.forall_mem_append.mpr ⟨fun w h => good_of_word (List.all_eq_true.mp (by decide +kernel) w h), List.forall_mem_append.mpr ⟨gd_dm_X12_backTo, fun _ h => nomatch h⟩⟩⟩
theorem gi_dm_L_backTo_0 : GoodIn ow_dm_L_backTo (wsV RL 45 RX12 yX12_backTo ow_dm_X12_backTo) := goodIn_app (goodIn_of _ (by decide +kernel)) (fun w h => ⟨List.mem_cons_of_mem _ (List.mem_append_right _ (List.mem_append_left _ h)), gd_dm_X12_backTo w h⟩)
set_option maxHeartbeats 40000000 in
set_option maxRecDepth 100000 in
theorem dm_L_backTo (l : Launch) (hlt : l.stackTraces = false) (dC : Nat → ClassId) (dI : Nat → Nat → Nat) (a : Nat → Nat) (ac : Nat → ClassId) (n : Nat) (ao : Nat) (co : ClassId) (v0 : Int32) (s0 : S12) (o : Nat → Int64) {r : (Int32 × S12) ⊕ (String × S12)} (h : df_X12_backTo n (a 15) (a 3) v0 s0 = some r) {k : Int32} {u : S12} {o' : Nat → Int64} (hr0 : lw_R2 Int32.toInt64 r k u o o') (sz : Nat) : Met l yL_backTo ow_dm_L_backTo ({ frames := 10, cells := 1, slots := 6, locals := 233 }) (va_Pc [.ref (a 0), .int v0, .ref ao] (fun U => U.heap.size = sz ∧ va_P (dC, dI) vwCl (dw_HO ao co o a ac s0) U.heap ∧ va_K (dC, dI) vwCl (dk_HO co ac) U ∧ va_D (fun _ => True) (dw_HO ao co o a ac s0) ∧ nv_E dI (va_A (dw_HO ao co o a ac s0) sz) U ∧ nv_Dc U)) (va_Qi (fun x _ => x = k) (fun (_ : Unit) t => va_P (dC, dI) vwCl (dw_HO ao co o' a ac u) t.heap ∧ va_K (dC, dI) vwCl (dk_HO co ac) t ∧ va_D (va_A (dw_HO ao co o a ac s0) sz) (dw_HO ao co o' a ac u)) (va_A (dw_HO ao co o a ac s0) sz)) 1 6 (va_A (dw_HO ao co o a ac s0) sz) := by
  refine va_MetW (hh := [(0, 9, 12, 13), (0, 9, 15, 19)]) (cc := cL_backTo) (maxL := 4) (ret := (some .int)) (by decide) rfl ?_
  intro p e s m args below meth c s₁ B hml hv
  obtain ⟨rfl, hsz, hP, hK, hD0, hN, hDe⟩ := hv
  have hx := B.exec
  have hb := B.bytes
  have hr := B.returns
  have hts := atoms_spec (ws := ow_dm_L_backTo) B.pre
  have hown : s.vm.findClass RL = some m.cls := findClass_of_methodNamed B.named
  have hlocks := B.notSynchronized
  have htab : c.exceptionTable.toList = tableOf [(0, 9, 12, 13), (0, 9, 15, 19)] := vx_table (x := yL_backTo) B (hts _ List.mem_cons_self)
  subst hsz
  have hD := hD0.self (sz := s.heap.size)
  generalize hAe : va_A (dw_HO ao co o a ac s0) s.heap.size = A at hD hN ⊢
  have hA : ∀ q : Nat, s.heap.size ≤ q → A q := fun q h => by rw [← hAe]; exact Or.inr h
  have hS : va_S A s.heap s.heap [] := va_S.rf
  have hl := lv_entry ([.ref (a 0), .int v0, .ref ao]) (n := 4) (Nat.le_of_ble_eq_true rfl)
  rw [lg_entry_eq]
  generalize (lg_sl ([.ref (a 0), .int v0, .ref ao]) ++ List.replicate (4 - (lg_sl ([.ref (a 0), .int v0, .ref ao])).length) Slot.unset).toArray = ls at hl ⊢
  have hl : lv_has ls 4 [(0, .ref (a 0)), (1, .int v0), (2, .ref ao)] := hl
  refine lv_aload_n hx hb dL_backTo_0 rfl (lv_at hl 2 rfl) ?_
  refine lv_iconst (v := 0) hx hb dL_backTo_1 (by decide) ?_
  refine lv_aload_n hx hb dL_backTo_2 rfl (lv_at hl 0 rfl) ?_
  refine lv_iload_n hx hb dL_backTo_3 rfl (lv_at hl 1 rfl) ?_
  have hPc : va_P (dC, dI) vwCl (dw_X12 a ac s0) s.heap := nd_pr hP
  have hDc : va_D A (dw_X12 a ac s0) := nd_dr hD
  have hKc : va_K (dC, dI) vwCl (dk_X12 ac) s := nd_yr hK
  have hFc := nd_rs hDc hS hA
  refine vx_calli (vx_runV (As := [.int v0]) (rest := [.int 0, .ref ao]) ⟨hx, hb, hml, hown, hts⟩ (dm_X12_backTo l hlt dC dI a ac n v0 s0 h s.heap.size) (cwV 1 hts gi_dm_L_backTo_0 rfl rfl rfl (by decide +kernel) ⟨Nat.le_of_ble_eq_true rfl, Nat.le_of_ble_eq_true rfl⟩) ⟨fun a U g mk q => by obtain ⟨q0, q1, qP, qK, qD, qN, qE⟩ := q; exact ⟨q0, q1, qP, va_K.moved (u := U) (U := U.calling g mk a) (Vm.Alike.refl U.vm) qK, qD, nv_same rfl rfl qN, nv_Dsame rfl qE⟩, va_recv hKc hPc (ci := 13) (q0 := 0) rfl rfl, fun U hU hW => ⟨rfl, by rw [hU], by rw [hU]; exact hPc, va_K.moved hW.alike hKc, hDc.weaken (fun _ _ _ _ => trivial), nv_call hS hFc hU hW hN, nv_Dcall hW hDe⟩⟩ rfl rfl hl.1 rfl (lv_room (Nat.le_of_ble_eq_true rfl)) dL_backTo_4 ⟨by decide +kernel, by decide +kernel⟩) hS (fun q _ h => hFc q h) hFc (fun q _ h => hFc q h) (fun E9 ce q9 ux t H1 locs ht hvm _ hw _ hk1 hS hce hcv hcl => ?_) (fun r1 u1 t H1 locs ht hvm hw hB hz1 hk1 hS => ?_)
  · obtain ⟨e9, hP1, hD1⟩ := hw
    rw [ht] at hP1
    obtain ⟨hP2, hD2, -⟩ := nd_stepR hP hD hk1 hP1 hD1
    have hD2 := hD2.weaken (fun k q _ h => nd_rq hD hA q.1 h)
    rcases hr0 with ⟨v, z1, z2, z3⟩ | ⟨z1, z2, z3⟩ | ⟨z1, z2, z3⟩
    · cases e9.symm.trans z1
    · obtain ⟨ez, eu⟩ := Prod.mk.inj (Sum.inr.inj (e9.symm.trans z1))
      subst ez
      subst eu
      subst z3
      refine nw_catch (own := RL) (name := "java/lang/IllegalArgumentException") hown [] ⟨0, 9, 12, 13⟩ [⟨0, 9, 15, 19⟩] (htab.trans rfl) (fun z h9 => absurd h9 List.not_mem_nil) (by decide) (by decide) (hts (.classLink RL 13 "java/lang/IllegalArgumentException") (List.mem_of_getElem? (i := 5) rfl)) (va_Nw.use rfl hN.2.2.2.2.2.2.2.1) hce hcv hcl ?_
      refine W.eq (g2 := F0 m 12 ls [.ref q9]) rfl ?_
      refine W.widen (k := 1) (n := 6) (by decide +kernel) (by decide +kernel) ?_
      refine lv_astore_n (lv' := [(3, .ref q9), (0, .ref (a 0)), (1, .int v0), (2, .ref ao)]) hx hb dL_backTo_12 rfl hl (by decide) rfl (fun ls hl => ?_)
      refine lv_iconst (v := 1) hx hb dL_backTo_13 (by decide) ?_
      exact W.iret (v := 1) hx hb hr (fun t ht hW => ⟨⟨1, (), rfl, z2.symm, by rw [ht]; exact hP2, va_K.moved hW.alike hK, hD2⟩, hS.F ht⟩) hS.2.2 dL_backTo_14
    · obtain ⟨ez, eu⟩ := Prod.mk.inj (Sum.inr.inj (e9.symm.trans z1))
      subst ez
      subst eu
      subst z3
      refine nw_catch (own := RL) (name := "java/lang/IllegalStateException") hown [⟨0, 9, 12, 13⟩] ⟨0, 9, 15, 19⟩ [] (htab.trans rfl) (fun z h9 => by rcases List.mem_singleton.mp h9 with rfl; exact Or.inr ⟨by decide, _, (hts (.classLink RL 13 "java/lang/IllegalArgumentException") (List.mem_of_getElem? (i := 5) rfl)), hN.2.2.2.2.2.2.2.2.2.1⟩) (by decide) (by decide) (hts (.classLink RL 19 "java/lang/IllegalStateException") (List.mem_of_getElem? (i := 6) rfl)) (va_Nw.use rfl hN.2.2.2.2.2.2.2.2.1) hce hcv hcl ?_
      refine W.eq (g2 := F0 m 15 ls [.ref q9]) rfl ?_
      refine W.widen (k := 1) (n := 6) (by decide +kernel) (by decide +kernel) ?_
      refine lv_astore_n (lv' := [(3, .ref q9), (0, .ref (a 0)), (1, .int v0), (2, .ref ao)]) hx hb dL_backTo_15 rfl hl (by decide) rfl (fun ls hl => ?_)
      refine lv_iconst (v := 2) hx hb dL_backTo_16 (by decide) ?_
      exact W.iret (v := 2) hx hb hr (fun t ht hW => ⟨⟨2, (), rfl, z2.symm, by rw [ht]; exact hP2, va_K.moved hW.alike hK, hD2⟩, hS.F ht⟩) hS.2.2 dL_backTo_17
  obtain ⟨hP1, -, hD1⟩ := hB
  rw [ht] at hP1
  obtain ⟨hP2, hD2, -⟩ := nd_stepR hP hD hk1 hP1 hD1
  have hD2 := hD2.weaken (fun k q _ h => nd_rq hD hA q.1 h)
  rcases hr0 with ⟨v, z1, z2, z3⟩ | ⟨z1, z2, z3⟩ | ⟨z1, z2, z3⟩
  · obtain ⟨ez, eu⟩ := Prod.mk.inj (Sum.inl.inj (hw.symm.trans z1))
    subst ez
    subst eu
    subst z3
    refine W.widen (k := 1) (n := 6) (by decide +kernel) (by decide +kernel) ?_
    refine lv_i2l hx hb dL_backTo_7 rfl ?_
    refine va_last (i := 0) (x := Int32.toInt64 r1) hx hb hK hP2 hD2 hS 0 0 rfl rfl (vp_in_iff.mpr ⟨by decide, by decide⟩) dL_backTo_8 (fun H locs hP hD hS => ?_)
    refine lv_goto (tgt := 18) hx hb dL_backTo_9 (by decide) ?_
    refine lv_iconst (v := 0) hx hb dL_backTo_18 (by decide) ?_
    exact W.iret (v := 0) hx hb hr (fun t ht hW => ⟨⟨0, (), rfl, z2.symm, by rw [ht]; exact hP, va_K.moved hW.alike hK, hD⟩, hS.F ht⟩) hS.2.2 dL_backTo_19
  · cases hw.symm.trans z1
  · cases hw.symm.trans z1

