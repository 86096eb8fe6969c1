def ow_dm_X19_program : List Cond := Cond.code yX19_program cX19_program 3 (some .int) :: ([Cond.fieldLink RX19 113 "TimeMachineModel" "code" "I", Cond.methodLink RX19 172 yX19_isProgram, Cond.instanceMethod yX19_isProgram, Cond.selects RX19 yX19_isProgram yX19_isProgram, Cond.initialized RX19, Cond.fieldLink RX19 27 "TimeMachineModel" "constants" "[I", Cond.fieldLink RX19 35 "TimeMachineModel" "labels" "[[I", Cond.fieldLink RX19 24 "TimeMachineModel" "ends" "[I", Cond.fieldLink RX19 21 "TimeMachineModel" "data" "[I", Cond.fieldLink RX19 18 "TimeMachineModel" "text" "[I"] ++ (u_ws RX19 TX19 36 ++ (ow_dm_X19_isProgram ++ [])))
theorem gd_dm_X19_program : ∀ w ∈ ow_dm_X19_program, (w.onTables && w.keeps) = true ∨ ∃ ty, w = Cond.arrayClass ty := List.forall_mem_cons.mpr ⟨good_of_word rfl, List.forall_mem_append.mpr ⟨fun w h => good_of_word (List.all_eq_true.mp (by decide +kernel) w h), List.forall_mem_append.mpr ⟨gu_X19, List.forall_mem_append.mpr ⟨gd_dm_X19_isProgram, fun _ h => nomatch h⟩⟩⟩⟩
theorem hi_dm_X19_program_X19 : ∀ w ∈ u_ws RX19 TX19 36, w ∈ ow_dm_X19_program := fun w h => List.mem_cons_of_mem _ (List.mem_append_right _ (List.mem_append_left _ h))
theorem gi_dm_X19_program_0 : GoodIn ow_dm_X19_program (wsV RX19 172 RX19 yX19_isProgram ow_dm_X19_isProgram) := goodIn_app (goodIn_of _ (by decide +kernel)) (fun w h => ⟨List.mem_cons_of_mem _ (List.mem_append_right _ (List.mem_append_right _ (List.mem_append_left _ h))), gd_dm_X19_isProgram w h⟩)
def dj_X19_program_86 (p : Program) (l : Launch) (e : Env) (s : State) (m : MethodId) (args : Array Value) (below : List Frame) (meth : Method) (c : Code) (Q : State → Prop) (A : Nat → Prop) (dC : Nat → ClassId) (dI : Nat → Nat → Nat) (a : Nat → Nat) (ac : Nat → ClassId) (g : Int32 → ((St × (St) × (St × (St × (St))) × (St) × (St)) × Lb) → Option (Int32 × ((St × (St) × (St × (St × (St))) × (St) × (St)) × Lb))) (r : Int32 × ((St × (St) × (St × (St × (St))) × (St) × (St)) × Lb)) : Prop := ∀ (y0 : Int32) (s0 : (St × (St) × (St × (St × (St))) × (St) × (St)) × Lb) (H : Heap) (locs : List Loc) (ls : Array Slot), g y0 s0 = some r → va_P (dC, dI) vwCl (dw_X19L a ac s0) H → va_D A (dw_X19L a ac s0) → va_S A s.heap H locs → lv_has ls 3 [] → W p l e (headSpec ow_dm_X19_program ({ frames := 2, cells := 0, slots := 0, locals := 46 })).room s m args below meth c H locs 0 0 Q (F0 m 86 ls [.int y0])
def dj_X19_program_0 (p : Program) (l : Launch) (e : Env) (s : State) (m : MethodId) (args : Array Value) (below : List Frame) (meth : Method) (c : Code) (Q : State → Prop) (A : Nat → Prop) (dC : Nat → ClassId) (dI : Nat → Nat → Nat) (a : Nat → Nat) (ac : Nat → ClassId) (g : Int32 → Int32 → ((St × (St) × (St × (St × (St))) × (St) × (St)) × Lb) → Option (Int32 × ((St × (St) × (St × (St × (St))) × (St) × (St)) × Lb))) (r : Int32 × ((St × (St) × (St × (St × (St))) × (St) × (St)) × Lb)) : Prop := ∀ (v0 : Int32) (v1 : Int32) (s0 : (St × (St) × (St × (St × (St))) × (St) × (St)) × Lb) (H : Heap) (locs : List Loc) (ls : Array Slot), g v0 v1 s0 = some r → va_P (dC, dI) vwCl (dw_X19L a ac s0) H → va_D A (dw_X19L a ac s0) → va_S A s.heap H locs → lv_has ls 3 [(0, .ref (a 0)), (1, .int v0), (2, .int v1)] → W p l e (headSpec ow_dm_X19_program ({ frames := 2, cells := 0, slots := 0, locals := 46 })).room s m args below meth c H locs 0 0 Q (F0 m 0 ls [])
set_option maxHeartbeats 40000000 in
set_option maxRecDepth 100000 in
theorem db_X19_program_86 {p : Program} {l : Launch} {e : Env} {s : State} {m : MethodId} {args : Array Value} {below : List Frame} {meth : Method} {c : Code} {Q : State → Prop} {A : Nat → Prop} {dC : Nat → ClassId} {dI : Nat → Nat → Nat} {a : Nat → Nat} {ac : Nat → ClassId} {n : Nat} {r : Int32 × ((St × (St) × (St × (St × (St))) × (St) × (St)) × Lb)} (C : nd_C p l s m args c A (dC, dI) cX19_program 3 RX19 ow_dm_X19_program (dk_X19L ac)) (K : nd_Ki p l e (headSpec ow_dm_X19_program ({ frames := 2, cells := 0, slots := 0, locals := 46 })).room s m args below meth c Q A (dC, dI) cX19_program .int ((St × (St) × (St × (St × (St))) × (St) × (St)) × Lb) (dw_X19L a ac) r) : dj_X19_program_86 p l e s m args below meth c Q A dC dI a ac (df_X19_program_86 n) r := by
  obtain ⟨hlt, hx, hb, hml, hown, hts, hN, hA, hK⟩ := id C
  intro y0 s0 H locs ls h hP hD hS hl
  unfold df_X19_program_86 at h
  exact K _ _ _ _ _ _ dX19_program_86 rfl (Option.some.inj h).symm hP hD hS
set_option maxHeartbeats 40000000 in
set_option maxRecDepth 100000 in
theorem db_X19_program_0 {p : Program} {l : Launch} {e : Env} {s : State} {m : MethodId} {args : Array Value} {below : List Frame} {meth : Method} {c : Code} {Q : State → Prop} {A : Nat → Prop} {dC : Nat → ClassId} {dI : Nat → Nat → Nat} {a : Nat → Nat} {ac : Nat → ClassId} {n : Nat} {r : Int32 × ((St × (St) × (St × (St × (St))) × (St) × (St)) × Lb)} (C : nd_C p l s m args c A (dC, dI) cX19_program 3 RX19 ow_dm_X19_program (dk_X19L ac)) (K : nd_Ki p l e (headSpec ow_dm_X19_program ({ frames := 2, cells := 0, slots := 0, locals := 46 })).room s m args below meth c Q A (dC, dI) cX19_program .int ((St × (St) × (St × (St × (St))) × (St) × (St)) × Lb) (dw_X19L a ac) r) : dj_X19_program_0 p l e s m args below meth c Q A dC dI a ac (df_X19_program_0 n) r := by
  obtain ⟨hlt, hx, hb, hml, hown, hts, hN, hA, hK⟩ := id C
  intro v0 v1 s0 H locs ls h hP hD hS hl
  unfold df_X19_program_0 at h
  refine lv_aload_n hx hb dX19_program_0 rfl (lv_at hl 0 rfl) ?_
  refine lv_iconst (v := 0) hx hb dX19_program_1 (by decide) ?_
  refine va_put (D := (dC, dI)) (ci := 20) (v := .int 0) (ty := .int) (C := RX19) (T := TX19) (N := 36) hx hb hts hi_dm_X19_program_X19 tyX19 tyX19_ok nmX19 hown hK hP hD hS 0 rfl rfl 0 (by decide) (hts (.fieldLink RX19 113 "TimeMachineModel" "code" "I") (List.mem_of_getElem? (i := 1) rfl)) (fun _ h9 => h9) rfl (by decide +kernel) rfl rfl (Nat.le_of_ble_eq_true rfl) dX19_program_2 (fun H locs hP hD hS => ?_)
  obtain ⟨s1, es1, h⟩ := nd_let_e h
  have hP : va_P (dC, dI) vwCl (dw_X19L a ac s1) H := by rw [es1]; exact hP
  have hD : va_D A (dw_X19L a ac s1) := by rw [es1]; exact hD
  refine lv_aload_n hx hb dX19_program_5 rfl (lv_at hl 0 rfl) ?_
  refine lv_iload_n hx hb dX19_program_6 rfl (lv_at hl 1 rfl) ?_
  obtain ⟨q2, s3, hq, h⟩ := nd_b2_e h
  have hPc := dp_X19L_0 hP
  have hDc := dd_X19L_0 hD
  have hKc := dy_X19L_0 hK
  have hFc := nd_rs hDc hS hA
  have hzA : ∀ q : Nat, H.size ≤ q → A q := fun q h => hA q (Nat.le_trans hS.1 h)
  refine nd_cVi (As := [.int v0]) (rest := []) (q := q2) (w' := dw_X19 (fun k => a (k + 0)) (fun k => ac (k + 0)) s3) ⟨hx, hb, hml, hown, hts⟩ (fun sz => dm_X19_isProgram l hlt dC dI (fun k => a (k + 0)) (fun k => ac (k + 0)) n (v0) s1.1 hq sz) (cwV 1 hts gi_dm_X19_program_0 rfl rfl rfl (by decide +kernel) ⟨Nat.le_of_ble_eq_true rfl, Nat.le_of_ble_eq_true rfl⟩) hPc hDc hKc hS hA hN (va_recv hKc hPc (ci := 20) (q0 := 0) rfl rfl) rfl hl.1 rfl (Nat.le_of_ble_eq_true rfl) dX19_program_7 (fun H locs hP1 hD1 hk1 hS => ?_)
  obtain ⟨hP, hD⟩ := dn_X19L_0 hP hD hzA hk1 hP1 hD1
  obtain ⟨s5, es5, h⟩ := nd_let_e h
  have hP : va_P (dC, dI) vwCl (dw_X19L a ac s5) H := by rw [es5]; exact hP
  have hD : va_D A (dw_X19L a ac s5) := by rw [es5]; exact hD
  refine lv_if_ne (tgt := 15) hx hb dX19_program_10 (by decide) (fun c6 => ?_) (fun c6 => ?_)
  · have h := nd_neg h c6
    refine lv_iload_n hx hb dX19_program_15 rfl (lv_at hl 2 rfl) ?_
    refine lv_if_ne (tgt := 28) hx hb dX19_program_16 (by decide) (fun c7 => ?_) (fun c7 => ?_)
    · have h := nd_neg h c7
      refine lv_iload_n hx hb dX19_program_28 rfl (lv_at hl 2 rfl) ?_
      refine lv_iconst (v := 1) hx hb dX19_program_29 (by decide) ?_
      refine lv_icmp_ne (tgt := 42) hx hb dX19_program_30 (by decide) (fun c8 => ?_) (fun c8 => ?_)
      · have h := nd_neg h c8
        refine lv_iload_n hx hb dX19_program_42 rfl (lv_at hl 2 rfl) ?_
        refine lv_iconst (v := 2) hx hb dX19_program_43 (by decide) ?_
        refine lv_icmp_ne (tgt := 56) hx hb dX19_program_44 (by decide) (fun c9 => ?_) (fun c9 => ?_)
        · have h := nd_neg h c9
          refine lv_iload_n hx hb dX19_program_56 rfl (lv_at hl 2 rfl) ?_
          refine lv_iconst (v := 3) hx hb dX19_program_57 (by decide) ?_
          refine lv_icmp_ne (tgt := 71) hx hb dX19_program_58 (by decide) (fun c10 => ?_) (fun c10 => ?_)
          · have h := nd_neg h c10
            refine lv_iload_n hx hb dX19_program_71 rfl (lv_at hl 2 rfl) ?_
            refine lv_iconst (v := 4) hx hb dX19_program_72 (by decide) ?_
            refine lv_icmp_ne (tgt := 85) hx hb dX19_program_73 (by decide) (fun c11 => ?_) (fun c11 => ?_)
            · have h := nd_neg h c11
              refine lv_iconst (v := (-1)) hx hb dX19_program_85 (by decide) ?_
              exact (db_X19_program_86 C K) ((-1)) s5 _ _ _ h hP hD hS (lv_sub hl [] rfl)
            · have h := nd_pos h c11
              refine lv_aload_n hx hb dX19_program_76 rfl (lv_at hl 0 rfl) ?_
              refine va_get (D := (dC, dI)) (ci := 20) (v := .ref (a 5)) (C := RX19) (T := TX19) (N := 36) hx hb hts hi_dm_X19_program_X19 hown hK hP 0 rfl rfl 8 (by decide) (hts (.fieldLink RX19 27 "TimeMachineModel" "constants" "[I") (List.mem_of_getElem? (i := 6) rfl)) (fun _ h9 => h9) rfl dX19_program_77 ?_
              refine lv_iload_n hx hb dX19_program_80 rfl (lv_at hl 1 rfl) ?_
              obtain ⟨i12, h⟩ := nd_ck_e h
              refine va_iald (i := v0) hx hb hK hP 5 4 rfl rfl i12 dX19_program_81 ?_
              refine lv_goto (tgt := 86) hx hb dX19_program_82 (by decide) ?_
              exact (db_X19_program_86 C K) ((sR s5.1.1 4 (Int32.toNatClampNeg v0))) s5 _ _ _ h hP hD hS (lv_sub hl [] rfl)
          · have h := nd_pos h c10
            refine lv_aload_n hx hb dX19_program_61 rfl (lv_at hl 0 rfl) ?_
            obtain ⟨o13, h⟩ := nd_o_e h
            refine va_get (D := (dC, dI)) (ci := 20) (v := .ref (a 96)) (C := RX19) (T := TX19) (N := 36) hx hb hts hi_dm_X19_program_X19 hown hK hP 0 rfl rfl 10 (by decide) (hts (.fieldLink RX19 35 "TimeMachineModel" "labels" "[[I") (List.mem_of_getElem? (i := 7) rfl)) (fun _ h9 => h9) (congrArg (fun z => some (va_rf (Option.map a z))) o13) dX19_program_62 ?_
            refine lv_iload_n hx hb dX19_program_65 rfl (lv_at hl 1 rfl) ?_
            obtain ⟨i14, h⟩ := nd_ck_e h
            obtain ⟨x15, hx15, h⟩ := nd_l_e h
            refine nv_aldg (i := v0) hx hb hK hP 96 89 rfl rfl i14 dX19_program_66 ?_
            refine W.eq (g2 := F0 m 67 ls [.ref x15.1]) (by show F0 m _ ls (va_rf (Option.map (fun x => x.1) (s5.2 (Int32.toNatClampNeg v0))) :: _) = _; rw [hx15]; rfl) ?_
            refine va_alen (v := Int32.ofNat x15.2.1) hx hb (hK.sub [1] rfl) (dlab hP hx15 (Nat.not_le.mp fun q9 => i14 (Or.inr q9))) 0 0 rfl rfl rfl dX19_program_67 ?_
            refine lv_goto (tgt := 86) hx hb dX19_program_68 (by decide) ?_
            exact (db_X19_program_86 C K) ((Int32.ofNat x15.2.1)) s5 _ _ _ h hP hD hS (lv_sub hl [] rfl)
        · have h := nd_pos h c9
          refine lv_aload_n hx hb dX19_program_47 rfl (lv_at hl 0 rfl) ?_
          refine va_get (D := (dC, dI)) (ci := 20) (v := .ref (a 4)) (C := RX19) (T := TX19) (N := 36) hx hb hts hi_dm_X19_program_X19 hown hK hP 0 rfl rfl 7 (by decide) (hts (.fieldLink RX19 24 "TimeMachineModel" "ends" "[I") (List.mem_of_getElem? (i := 8) rfl)) (fun _ h9 => h9) rfl dX19_program_48 ?_
          refine lv_iload_n hx hb dX19_program_51 rfl (lv_at hl 1 rfl) ?_
          obtain ⟨i16, h⟩ := nd_ck_e h
          refine va_iald (i := v0) hx hb hK hP 4 3 rfl rfl i16 dX19_program_52 ?_
          refine lv_goto (tgt := 86) hx hb dX19_program_53 (by decide) ?_
          exact (db_X19_program_86 C K) ((sR s5.1.1 3 (Int32.toNatClampNeg v0))) s5 _ _ _ h hP hD hS (lv_sub hl [] rfl)
      · have h := nd_pos h c8
        refine lv_aload_n hx hb dX19_program_33 rfl (lv_at hl 0 rfl) ?_
        refine va_get (D := (dC, dI)) (ci := 20) (v := .ref (a 3)) (C := RX19) (T := TX19) (N := 36) hx hb hts hi_dm_X19_program_X19 hown hK hP 0 rfl rfl 6 (by decide) (hts (.fieldLink RX19 21 "TimeMachineModel" "data" "[I") (List.mem_of_getElem? (i := 9) rfl)) (fun _ h9 => h9) rfl dX19_program_34 ?_
        refine lv_iload_n hx hb dX19_program_37 rfl (lv_at hl 1 rfl) ?_
        obtain ⟨i17, h⟩ := nd_ck_e h
        refine va_iald (i := v0) hx hb hK hP 3 2 rfl rfl i17 dX19_program_38 ?_
        refine lv_goto (tgt := 86) hx hb dX19_program_39 (by decide) ?_
        exact (db_X19_program_86 C K) ((sR s5.1.1 2 (Int32.toNatClampNeg v0))) s5 _ _ _ h hP hD hS (lv_sub hl [] rfl)
    · have h := nd_pos h c7
      refine lv_aload_n hx hb dX19_program_19 rfl (lv_at hl 0 rfl) ?_
      refine va_get (D := (dC, dI)) (ci := 20) (v := .ref (a 2)) (C := RX19) (T := TX19) (N := 36) hx hb hts hi_dm_X19_program_X19 hown hK hP 0 rfl rfl 5 (by decide) (hts (.fieldLink RX19 18 "TimeMachineModel" "text" "[I") (List.mem_of_getElem? (i := 10) rfl)) (fun _ h9 => h9) rfl dX19_program_20 ?_
      refine lv_iload_n hx hb dX19_program_23 rfl (lv_at hl 1 rfl) ?_
      obtain ⟨i18, h⟩ := nd_ck_e h
      refine va_iald (i := v0) hx hb hK hP 2 1 rfl rfl i18 dX19_program_24 ?_
      refine lv_goto (tgt := 86) hx hb dX19_program_25 (by decide) ?_
      exact (db_X19_program_86 C K) ((sR s5.1.1 1 (Int32.toNatClampNeg v0))) s5 _ _ _ h hP hD hS (lv_sub hl [] rfl)
  · have h := nd_pos h c6
    refine lv_iconst (v := (-1)) hx hb dX19_program_13 (by decide) ?_
    exact K _ _ _ _ _ _ dX19_program_14 rfl (Option.some.inj h).symm hP hD hS
set_option maxHeartbeats 40000000 in
set_option maxRecDepth 100000 in
theorem dm_X19_program (l : Launch) (hlt : l.stackTraces = false) (dC : Nat → ClassId) (dI : Nat → Nat → Nat) (a : Nat → Nat) (ac : Nat → ClassId) (n : Nat) (v0 : Int32) (v1 : Int32) (s0 : (St × (St) × (St × (St × (St))) × (St) × (St)) × Lb) {r : Int32 × ((St × (St) × (St × (St × (St))) × (St) × (St)) × Lb)} (h : df_X19_program n v0 v1 s0 = some r) (sz : Nat) : Met l yX19_program ow_dm_X19_program ({ frames := 2, cells := 0, slots := 0, locals := 46 }) (va_Pc [.ref (a 0), .int v0, .int v1] (fun U => U.heap.size = sz ∧ va_P (dC, dI) vwCl (dw_X19L a ac s0) U.heap ∧ va_K (dC, dI) vwCl (dk_X19L ac) U ∧ va_D (fun _ => True) (dw_X19L a ac s0) ∧ nv_E dI (va_A (dw_X19L a ac s0) sz) U)) (va_Qi (fun x _ => x = r.1) (fun (_ : Unit) t => va_P (dC, dI) vwCl (dw_X19L a ac r.2) t.heap ∧ va_K (dC, dI) vwCl (dk_X19L ac) t ∧ va_D (va_A (dw_X19L a ac s0) sz) (dw_X19L a ac r.2)) (va_A (dw_X19L a ac s0) sz)) 0 0 (va_A (dw_X19L a ac s0) sz) := by
  refine Met.ofW (cc := cX19_program) (maxL := 3) (ret := (some .int)) (by decide) rfl ?_
  intro p e s m args below meth c s₁ B hml hv
  obtain ⟨rfl, hsz, hP, hK, hD0, hN⟩ := hv
  have hx := B.exec
  have hb := B.bytes
  have hr := B.returns
  have hts := atoms_spec (ws := ow_dm_X19_program) B.pre
  have hown : s.vm.findClass RX19 = some m.cls := findClass_of_methodNamed B.named
  have hlocks := B.notSynchronized
  subst hsz
  have hD := hD0.self (sz := s.heap.size)
  generalize hAe : va_A (dw_X19L a ac s0) s.heap.size = A at hD hN ⊢
  have hA : ∀ q : Nat, s.heap.size ≤ q → A q := fun q h => by rw [← hAe]; exact Or.inr h
  have hl := lv_entry ([.ref (a 0), .int v0, .int v1]) (n := 3) (Nat.le_of_ble_eq_true rfl)
  rw [lg_entry_eq]
  generalize (lg_sl ([.ref (a 0), .int v0, .int v1]) ++ List.replicate (3 - (lg_sl ([.ref (a 0), .int v0, .int v1])).length) Slot.unset).toArray = ls at hl ⊢
  have hl : lv_has ls 3 [(0, .ref (a 0)), (1, .int v0), (2, .int v1)] := hl
  exact db_X19_program_0 (dC := dC) (dI := dI) (a := a) (ac := ac) (n := n) (r := r) ⟨hlt, hx, hb, hml, hown, hts, hN, hA, hK⟩ (fun pc v τ H locs ls d z er hP hD hS => by subst er; exact W.zret (v := v) hx hb hr z (fun t ht hW => ⟨⟨v, (), rfl, rfl, by rw [ht]; exact hP, va_K.moved hW.alike hK, hD⟩, hS.F ht⟩) hS.2.2 d) v0 v1 s0 _ _ _ h hP hD va_S.rf (lv_sub hl [0, 1, 2] rfl)
def ow_dm_X19_label : List Cond := Cond.code yX19_label cX19_label 3 (some .int) :: ([Cond.fieldLink RX19 113 "TimeMachineModel" "code" "I", Cond.methodLink RX19 172 yX19_isProgram, Cond.instanceMethod yX19_isProgram, Cond.selects RX19 yX19_isProgram yX19_isProgram, Cond.initialized RX19, Cond.fieldLink RX19 35 "TimeMachineModel" "labels" "[[I"] ++ (u_ws RX19 TX19 36 ++ (ow_dm_X19_isProgram ++ [])))
theorem gd_dm_X19_label : ∀ w ∈ ow_dm_X19_label, (w.onTables && w.keeps) = true ∨ ∃ ty, w = Cond.arrayClass ty := List.forall_mem_cons.mpr ⟨good_of_word rfl, List.forall_mem_append.mpr ⟨fun w h => good_of_word (List.all_eq_true.mp (by decide +kernel) w h), List.forall_mem_append.mpr ⟨gu_X19, List.forall_mem_append.mpr ⟨gd_dm_X19_isProgram, fun _ h => nomatch h⟩⟩⟩⟩
theorem hi_dm_X19_label_X19 : ∀ w ∈ u_ws RX19 TX19 36, w ∈ ow_dm_X19_label := fun w h => List.mem_cons_of_mem _ (List.mem_append_right _ (List.mem_append_left _ h))
theorem gi_dm_X19_label_0 : GoodIn ow_dm_X19_label (wsV RX19 172 RX19 yX19_isProgram ow_dm_X19_isProgram) := goodIn_app (goodIn_of _ (by decide +kernel)) (fun w h => ⟨List.mem_cons_of_mem _ (List.mem_append_right _ (List.mem_append_right _ (List.mem_append_left _ h))), gd_dm_X19_isProgram w h⟩)
def dj_X19_label_40 (p : Program) (l : Launch) (e : Env) (s : State) (m : MethodId) (args : Array Value) (below : List Frame) (meth : Method) (c : Code) (Q : State → Prop) (A : Nat → Prop) (dC : Nat → ClassId) (dI : Nat → Nat → Nat) (a : Nat → Nat) (ac : Nat → ClassId) (g : Int32 → ((St × (St) × (St × (St × (St))) × (St) × (St)) × Lb) → Option (Int32 × ((St × (St) × (St × (St × (St))) × (St) × (St)) × Lb))) (r : Int32 × ((St × (St) × (St × (St × (St))) × (St) × (St)) × Lb)) : Prop := ∀ (y0 : Int32) (s0 : (St × (St) × (St × (St × (St))) × (St) × (St)) × Lb) (H : Heap) (locs : List Loc) (ls : Array Slot), g y0 s0 = some r → va_P (dC, dI) vwCl (dw_X19L a ac s0) H → va_D A (dw_X19L a ac s0) → va_S A s.heap H locs → lv_has ls 3 [] → W p l e (headSpec ow_dm_X19_label ({ frames := 2, cells := 0, slots := 0, locals := 46 })).room s m args below meth c H locs 0 0 Q (F0 m 40 ls [.int y0])
def dj_X19_label_39 (p : Program) (l : Launch) (e : Env) (s : State) (m : MethodId) (args : Array Value) (below : List Frame) (meth : Method) (c : Code) (Q : State → Prop) (A : Nat → Prop) (dC : Nat → ClassId) (dI : Nat → Nat → Nat) (a : Nat → Nat) (ac : Nat → ClassId) (g : ((St × (St) × (St × (St × (St))) × (St) × (St)) × Lb) → Option (Int32 × ((St × (St) × (St × (St × (St))) × (St) × (St)) × Lb))) (r : Int32 × ((St × (St) × (St × (St × (St))) × (St) × (St)) × Lb)) : Prop := ∀ (s0 : (St × (St) × (St × (St × (St))) × (St) × (St)) × Lb) (H : Heap) (locs : List Loc) (ls : Array Slot), g s0 = some r → va_P (dC, dI) vwCl (dw_X19L a ac s0) H → va_D A (dw_X19L a ac s0) → va_S A s.heap H locs → lv_has ls 3 [] → W p l e (headSpec ow_dm_X19_label ({ frames := 2, cells := 0, slots := 0, locals := 46 })).room s m args below meth c H locs 0 0 Q (F0 m 39 ls [])
def dj_X19_label_0 (p : Program) (l : Launch) (e : Env) (s : State) (m : MethodId) (args : Array Value) (below : List Frame) (meth : Method) (c : Code) (Q : State → Prop) (A : Nat → Prop) (dC : Nat → ClassId) (dI : Nat → Nat → Nat) (a : Nat → Nat) (ac : Nat → ClassId) (g : Int32 → Int32 → ((St × (St) × (St × (St × (St))) × (St) × (St)) × Lb) → Option (Int32 × ((St × (St) × (St × (St × (St))) × (St) × (St)) × Lb))) (r : Int32 × ((St × (St) × (St × (St × (St))) × (St) × (St)) × Lb)) : Prop := ∀ (v0 : Int32) (v1 : Int32) (s0 : (St × (St) × (St × (St × (St))) × (St) × (St)) × Lb) (H : Heap) (locs : List Loc) (ls : Array Slot), g v0 v1 s0 = some r → va_P (dC, dI) vwCl (dw_X19L a ac s0) H → va_D A (dw_X19L a ac s0) → va_S A s.heap H locs → lv_has ls 3 [(0, .ref (a 0)), (1, .int v0), (2, .int v1)] → W p l e (headSpec ow_dm_X19_label ({ frames := 2, cells := 0, slots := 0, locals := 46 })).room s m args below meth c H locs 0 0 Q (F0 m 0 ls [])
set_option maxHeartbeats 40000000 in
set_option maxRecDepth 100000 in
theorem db_X19_label_40 {p : Program} {l : Launch} {e : Env} {s : State} {m : MethodId} {args : Array Value} {below : List Frame} {meth : Method} {c : Code} {Q : State → Prop} {A : Nat → Prop} {dC : Nat → ClassId} {dI : Nat → Nat → Nat} {a : Nat → Nat} {ac : Nat → ClassId} {n : Nat} {r : Int32 × ((St × (St) × (St × (St × (St))) × (St) × (St)) × Lb)} (C : nd_C p l s m args c A (dC, dI) cX19_label 3 RX19 ow_dm_X19_label (dk_X19L ac)) (K : nd_Ki p l e (headSpec ow_dm_X19_label ({ frames := 2, cells := 0, slots := 0, locals := 46 })).room s m args below meth c Q A (dC, dI) cX19_label .int ((St × (St) × (St × (St × (St))) × (St) × (St)) × Lb) (dw_X19L a ac) r) : dj_X19_label_40 p l e s m args below meth c Q A dC dI a ac (df_X19_label_40 n) r := by
  obtain ⟨hlt, hx, hb, hml, hown, hts, hN, hA, hK⟩ := id C
  intro y0 s0 H locs ls h hP hD hS hl
  unfold df_X19_label_40 at h
  exact K _ _ _ _ _ _ dX19_label_40 rfl (Option.some.inj h).symm hP hD hS
set_option maxHeartbeats 40000000 in
set_option maxRecDepth 100000 in
theorem db_X19_label_39 {p : Program} {l : Launch} {e : Env} {s : State} {m : MethodId} {args : Array Value} {below : List Frame} {meth : Method} {c : Code} {Q : State → Prop} {A : Nat → Prop} {dC : Nat → ClassId} {dI : Nat → Nat → Nat} {a : Nat → Nat} {ac : Nat → ClassId} {n : Nat} {r : Int32 × ((St × (St) × (St × (St × (St))) × (St) × (St)) × Lb)} (C : nd_C p l s m args c A (dC, dI) cX19_label 3 RX19 ow_dm_X19_label (dk_X19L ac)) (K : nd_Ki p l e (headSpec ow_dm_X19_label ({ frames := 2, cells := 0, slots := 0, locals := 46 })).room s m args below meth c Q A (dC, dI) cX19_label .int ((St × (St) × (St × (St × (St))) × (St) × (St)) × Lb) (dw_X19L a ac) r) : dj_X19_label_39 p l e s m args below meth c Q A dC dI a ac (df_X19_label_39 n) r := by
  obtain ⟨hlt, hx, hb, hml, hown, hts, hN, hA, hK⟩ := id C
  intro s0 H locs ls h hP hD hS hl
  unfold df_X19_label_39 at h
  refine lv_iconst (v := (-1)) hx hb dX19_label_39 (by decide) ?_
  exact (db_X19_label_40 C K) ((-1)) s0 _ _ _ h hP hD hS (lv_sub hl [] rfl)
set_option maxHeartbeats 40000000 in
set_option maxRecDepth 100000 in
theorem db_X19_label_0 {p : Program} {l : Launch} {e : Env} {s : State} {m : MethodId} {args : Array Value} {below : List Frame} {meth : Method} {c : Code} {Q : State → Prop} {A : Nat → Prop} {dC : Nat → ClassId} {dI : Nat → Nat → Nat} {a : Nat → Nat} {ac : Nat → ClassId} {n : Nat} {r : Int32 × ((St × (St) × (St × (St × (St))) × (St) × (St)) × Lb)} (C : nd_C p l s m args c A (dC, dI) cX19_label 3 RX19 ow_dm_X19_label (dk_X19L ac)) (K : nd_Ki p l e (headSpec ow_dm_X19_label ({ frames := 2, cells := 0, slots := 0, locals := 46 })).room s m args below meth c Q A (dC, dI) cX19_label .int ((St × (St) × (St × (St × (St))) × (St) × (St)) × Lb) (dw_X19L a ac) r) : dj_X19_label_0 p l e s m args below meth c Q A dC dI a ac (df_X19_label_0 n) r := by
  obtain ⟨hlt, hx, hb, hml, hown, hts, hN, hA, hK⟩ := id C
  intro v0 v1 s0 H locs ls h hP hD hS hl
  unfold df_X19_label_0 at h
  refine lv_aload_n hx hb dX19_label_0 rfl (lv_at hl 0 rfl) ?_
  refine lv_iconst (v := 0) hx hb dX19_label_1 (by decide) ?_
  refine va_put (D := (dC, dI)) (ci := 20) (v := .int 0) (ty := .int) (C := RX19) (T := TX19) (N := 36) hx hb hts hi_dm_X19_label_X19 tyX19 tyX19_ok nmX19 hown hK hP hD hS 0 rfl rfl 0 (by decide) (hts (.fieldLink RX19 113 "TimeMachineModel" "code" "I") (List.mem_of_getElem? (i := 1) rfl)) (fun _ h9 => h9) rfl (by decide +kernel) rfl rfl (Nat.le_of_ble_eq_true rfl) dX19_label_2 (fun H locs hP hD hS => ?_)
  obtain ⟨s1, es1, h⟩ := nd_let_e h
  have hP : va_P (dC, dI) vwCl (dw_X19L a ac s1) H := by rw [es1]; exact hP
  have hD : va_D A (dw_X19L a ac s1) := by rw [es1]; exact hD
  refine lv_aload_n hx hb dX19_label_5 rfl (lv_at hl 0 rfl) ?_
  refine lv_iload_n hx hb dX19_label_6 rfl (lv_at hl 1 rfl) ?_
  obtain ⟨q2, s3, hq, h⟩ := nd_b2_e h
  have hPc := dp_X19L_0 hP
  have hDc := dd_X19L_0 hD
  have hKc := dy_X19L_0 hK
  have hFc := nd_rs hDc hS hA
  have hzA : ∀ q : Nat, H.size ≤ q → A q := fun q h => hA q (Nat.le_trans hS.1 h)
  refine nd_cVi (As := [.int v0]) (rest := []) (q := q2) (w' := dw_X19 (fun k => a (k + 0)) (fun k => ac (k + 0)) s3) ⟨hx, hb, hml, hown, hts⟩ (fun sz => dm_X19_isProgram l hlt dC dI (fun k => a (k + 0)) (fun k => ac (k + 0)) n (v0) s1.1 hq sz) (cwV 1 hts gi_dm_X19_label_0 rfl rfl rfl (by decide +kernel) ⟨Nat.le_of_ble_eq_true rfl, Nat.le_of_ble_eq_true rfl⟩) hPc hDc hKc hS hA hN (va_recv hKc hPc (ci := 20) (q0 := 0) rfl rfl) rfl hl.1 rfl (Nat.le_of_ble_eq_true rfl) dX19_label_7 (fun H locs hP1 hD1 hk1 hS => ?_)
  obtain ⟨hP, hD⟩ := dn_X19L_0 hP hD hzA hk1 hP1 hD1
  obtain ⟨s5, es5, h⟩ := nd_let_e h
  have hP : va_P (dC, dI) vwCl (dw_X19L a ac s5) H := by rw [es5]; exact hP
  have hD : va_D A (dw_X19L a ac s5) := by rw [es5]; exact hD
  refine lv_if_eq (tgt := 39) hx hb dX19_label_10 (by decide) (fun c6 => ?_) (fun c6 => ?_)
  · have h := nd_pos h c6
    exact (db_X19_label_39 C K)  s5 _ _ _ h hP hD hS (lv_sub hl [] rfl)
  · have h := nd_neg h c6
    refine lv_iload_n hx hb dX19_label_13 rfl (lv_at hl 2 rfl) ?_
    refine lv_if_lt (tgt := 39) hx hb dX19_label_14 (by decide) (fun c7 => ?_) (fun c7 => ?_)
    · have h := nd_pos h c7
      exact (db_X19_label_39 C K)  s5 _ _ _ h hP hD hS (lv_sub hl [] rfl)
    · have h := nd_neg h c7
      refine lv_iload_n hx hb dX19_label_17 rfl (lv_at hl 2 rfl) ?_
      refine lv_aload_n hx hb dX19_label_18 rfl (lv_at hl 0 rfl) ?_
      obtain ⟨o8, h⟩ := nd_o_e h
      refine va_get (D := (dC, dI)) (ci := 20) (v := .ref (a 96)) (C := RX19) (T := TX19) (N := 36) hx hb hts hi_dm_X19_label_X19 hown hK hP 0 rfl rfl 10 (by decide) (hts (.fieldLink RX19 35 "TimeMachineModel" "labels" "[[I") (List.mem_of_getElem? (i := 6) rfl)) (fun _ h9 => h9) (congrArg (fun z => some (va_rf (Option.map a z))) o8) dX19_label_19 ?_
      refine lv_iload_n hx hb dX19_label_22 rfl (lv_at hl 1 rfl) ?_
      obtain ⟨i9, h⟩ := nd_ck_e h
      obtain ⟨x10, hx10, h⟩ := nd_l_e h
      refine nv_aldg (i := v0) hx hb hK hP 96 89 rfl rfl i9 dX19_label_23 ?_
      refine W.eq (g2 := F0 m 24 ls [.ref x10.1, .int v1]) (by show F0 m _ ls (va_rf (Option.map (fun x => x.1) (s5.2 (Int32.toNatClampNeg v0))) :: _) = _; rw [hx10]; rfl) ?_
      refine va_alen (v := Int32.ofNat x10.2.1) hx hb (hK.sub [1] rfl) (dlab hP hx10 (Nat.not_le.mp fun q9 => i9 (Or.inr q9))) 0 0 rfl rfl rfl dX19_label_24 ?_
      refine lv_icmp_ge (tgt := 39) hx hb dX19_label_25 (by decide) (fun c11 => ?_) (fun c11 => ?_)
      · have h := nd_pos h c11
        exact (db_X19_label_39 C K)  s5 _ _ _ h hP hD hS (lv_sub hl [] rfl)
      · have h := nd_neg h c11
        refine lv_aload_n hx hb dX19_label_28 rfl (lv_at hl 0 rfl) ?_
        obtain ⟨o12, h⟩ := nd_o_e h
        refine va_get (D := (dC, dI)) (ci := 20) (v := .ref (a 96)) (C := RX19) (T := TX19) (N := 36) hx hb hts hi_dm_X19_label_X19 hown hK hP 0 rfl rfl 10 (by decide) (hts (.fieldLink RX19 35 "TimeMachineModel" "labels" "[[I") (List.mem_of_getElem? (i := 6) rfl)) (fun _ h9 => h9) (congrArg (fun z => some (va_rf (Option.map a z))) o12) dX19_label_29 ?_
        refine lv_iload_n hx hb dX19_label_32 rfl (lv_at hl 1 rfl) ?_
        obtain ⟨i13, h⟩ := nd_ck_e h
        obtain ⟨x14, hx14, h⟩ := nd_l_e h
        refine nv_aldg (i := v0) hx hb hK hP 96 89 rfl rfl i13 dX19_label_33 ?_
        refine W.eq (g2 := F0 m 34 ls [.ref x14.1]) (by show F0 m _ ls (va_rf (Option.map (fun x => x.1) (s5.2 (Int32.toNatClampNeg v0))) :: _) = _; rw [hx14]; rfl) ?_
        refine lv_iload_n hx hb dX19_label_34 rfl (lv_at hl 2 rfl) ?_
        obtain ⟨i15, h⟩ := nd_ck_e h
        refine va_iald (i := v1) hx hb (hK.sub [1] rfl) (dlab hP hx14 (Nat.not_le.mp fun q9 => i13 (Or.inr q9))) 0 0 rfl rfl i15 dX19_label_35 ?_
        refine lv_goto (tgt := 40) hx hb dX19_label_36 (by decide) ?_
        exact (db_X19_label_40 C K) ((x14.2.2 (Int32.toNatClampNeg v1))) s5 _ _ _ h hP hD hS (lv_sub hl [] rfl)
set_option maxHeartbeats 40000000 in
set_option maxRecDepth 100000 in
theorem dm_X19_label (l : Launch) (hlt : l.stackTraces = false) (dC : Nat → ClassId) (dI : Nat → Nat → Nat) (a : Nat → Nat) (ac : Nat → ClassId) (n : Nat) (v0 : Int32) (v1 : Int32) (s0 : (St × (St) × (St × (St × (St))) × (St) × (St)) × Lb) {r : Int32 × ((St × (St) × (St × (St × (St))) × (St) × (St)) × Lb)} (h : df_X19_label n v0 v1 s0 = some r) (sz : Nat) : Met l yX19_label ow_dm_X19_label ({ frames := 2, cells := 0, slots := 0, locals := 46 }) (va_Pc [.ref (a 0), .int v0, .int v1] (fun U => U.heap.size = sz ∧ va_P (dC, dI) vwCl (dw_X19L a ac s0) U.heap ∧ va_K (dC, dI) vwCl (dk_X19L ac) U ∧ va_D (fun _ => True) (dw_X19L a ac s0) ∧ nv_E dI (va_A (dw_X19L a ac s0) sz) U)) (va_Qi (fun x _ => x = r.1) (fun (_ : Unit) t => va_P (dC, dI) vwCl (dw_X19L a ac r.2) t.heap ∧ va_K (dC, dI) vwCl (dk_X19L ac) t ∧ va_D (va_A (dw_X19L a ac s0) sz) (dw_X19L a ac r.2)) (va_A (dw_X19L a ac s0) sz)) 0 0 (va_A (dw_X19L a ac s0) sz) := by
  refine Met.ofW (cc := cX19_label) (maxL := 3) (ret := (some .int)) (by decide) rfl ?_
  intro p e s m args below meth c s₁ B hml hv
  obtain ⟨rfl, hsz, hP, hK, hD0, hN⟩ := hv
  have hx := B.exec
  have hb := B.bytes
  have hr := B.returns
  have hts := atoms_spec (ws := ow_dm_X19_label) B.pre
  have hown : s.vm.findClass RX19 = some m.cls := findClass_of_methodNamed B.named
  have hlocks := B.notSynchronized
  subst hsz
  have hD := hD0.self (sz := s.heap.size)
  generalize hAe : va_A (dw_X19L a ac s0) s.heap.size = A at hD hN ⊢
  have hA : ∀ q : Nat, s.heap.size ≤ q → A q := fun q h => by rw [← hAe]; exact Or.inr h
  have hl := lv_entry ([.ref (a 0), .int v0, .int v1]) (n := 3) (Nat.le_of_ble_eq_true rfl)
  rw [lg_entry_eq]
  generalize (lg_sl ([.ref (a 0), .int v0, .int v1]) ++ List.replicate (3 - (lg_sl ([.ref (a 0), .int v0, .int v1])).length) Slot.unset).toArray = ls at hl ⊢
  have hl : lv_has ls 3 [(0, .ref (a 0)), (1, .int v0), (2, .int v1)] := hl
  exact db_X19_label_0 (dC := dC) (dI := dI) (a := a) (ac := ac) (n := n) (r := r) ⟨hlt, hx, hb, hml, hown, hts, hN, hA, hK⟩ (fun pc v τ H locs ls d z er hP hD hS => by subst er; exact W.zret (v := v) hx hb hr z (fun t ht hW => ⟨⟨v, (), rfl, rfl, by rw [ht]; exact hP, va_K.moved hW.alike hK, hD⟩, hS.F ht⟩) hS.2.2 d) v0 v1 s0 _ _ _ h hP hD va_S.rf (lv_sub hl [0, 1, 2] rfl)
def ow_dm_X19_before : List Cond := Cond.code yX19_before cX19_before 5 (some .int) :: ([Cond.fieldLink RX19 113 "TimeMachineModel" "code" "I", Cond.methodLink RX19 172 yX19_isProgram, Cond.instanceMethod yX19_isProgram, Cond.selects RX19 yX19_isProgram yX19_isProgram, Cond.initialized RX19, Cond.fieldLink RX19 35 "TimeMachineModel" "labels" "[[I"] ++ (u_ws RX19 TX19 36 ++ (ow_dm_X19_isProgram ++ [])))
theorem gd_dm_X19_before : ∀ w ∈ ow_dm_X19_before, (w.onTables && w.keeps) = true ∨ ∃ ty, w = Cond.arrayClass ty := List.forall_mem_cons.mpr ⟨good_of_word rfl, List.forall_mem_append.mpr ⟨fun w h => good_of_word (List.all_eq_true.mp (by decide +kernel) w h), List.forall_mem_append.mpr ⟨gu_X19, List.forall_mem_append.mpr ⟨gd_dm_X19_isProgram, fun _ h => nomatch h⟩⟩⟩⟩
theorem hi_dm_X19_before_X19 : ∀ w ∈ u_ws RX19 TX19 36, w ∈ ow_dm_X19_before := fun w h => List.mem_cons_of_mem _ (List.mem_append_right _ (List.mem_append_left _ h))
theorem gi_dm_X19_before_0 : GoodIn ow_dm_X19_before (wsV RX19 172 RX19 yX19_isProgram ow_dm_X19_isProgram) := goodIn_app (goodIn_of _ (by decide +kernel)) (fun w h => ⟨List.mem_cons_of_mem _ (List.mem_append_right _ (List.mem_append_right _ (List.mem_append_left _ h))), gd_dm_X19_isProgram w h⟩)
def dj_X19_before_81 (p : Program) (l : Launch) (e : Env) (s : State) (m : MethodId) (args : Array Value) (below : List Frame) (meth : Method) (c : Code) (Q : State → Prop) (A : Nat → Prop) (dC : Nat → ClassId) (dI : Nat → Nat → Nat) (a : Nat → Nat) (ac : Nat → ClassId) (g : Int32 → ((St × (St) × (St × (St × (St))) × (St) × (St)) × Lb) → Option (Int32 × ((St × (St) × (St × (St × (St))) × (St) × (St)) × Lb))) (r : Int32 × ((St × (St) × (St × (St × (St))) × (St) × (St)) × Lb)) : Prop := ∀ (x3 : Int32) (s0 : (St × (St) × (St × (St × (St))) × (St) × (St)) × Lb) (H : Heap) (locs : List Loc) (ls : Array Slot), g x3 s0 = some r → va_P (dC, dI) vwCl (dw_X19L a ac s0) H → va_D A (dw_X19L a ac s0) → va_S A s.heap H locs → lv_has ls 5 [(3, .int x3)] → W p l e (headSpec ow_dm_X19_before ({ frames := 2, cells := 0, slots := 0, locals := 46 })).room s m args below meth c H locs 0 0 Q (F0 m 81 ls [])
def dj_X19_before_74 (p : Program) (l : Launch) (e : Env) (s : State) (m : MethodId) (args : Array Value) (below : List Frame) (meth : Method) (c : Code) (Q : State → Prop) (A : Nat → Prop) (dC : Nat → ClassId) (dI : Nat → Nat → Nat) (a : Nat → Nat) (ac : Nat → ClassId) (g : Int32 → Int32 → Int32 → Int32 → ((St × (St) × (St × (St × (St))) × (St) × (St)) × Lb) → Option (Int32 × ((St × (St) × (St × (St × (St))) × (St) × (St)) × Lb))) (r : Int32 × ((St × (St) × (St × (St × (St))) × (St) × (St)) × Lb)) : Prop := ∀ (x1 : Int32) (x2 : Int32) (x4 : Int32) (y0 : Int32) (s0 : (St × (St) × (St × (St × (St))) × (St) × (St)) × Lb) (H : Heap) (locs : List Loc) (ls : Array Slot), g x1 x2 x4 y0 s0 = some r → va_P (dC, dI) vwCl (dw_X19L a ac s0) H → va_D A (dw_X19L a ac s0) → va_S A s.heap H locs → lv_has ls 5 [(0, .ref (a 0)), (1, .int x1), (2, .int x2), (4, .int x4)] → W p l e (headSpec ow_dm_X19_before ({ frames := 2, cells := 0, slots := 0, locals := 46 })).room s m args below meth c H locs 0 0 Q (F0 m 74 ls [.int y0])
def dj_X19_before_73 (p : Program) (l : Launch) (e : Env) (s : State) (m : MethodId) (args : Array Value) (below : List Frame) (meth : Method) (c : Code) (Q : State → Prop) (A : Nat → Prop) (dC : Nat → ClassId) (dI : Nat → Nat → Nat) (a : Nat → Nat) (ac : Nat → ClassId) (g : Int32 → Int32 → Int32 → Int32 → ((St × (St) × (St × (St × (St))) × (St) × (St)) × Lb) → Option (Int32 × ((St × (St) × (St × (St × (St))) × (St) × (St)) × Lb))) (r : Int32 × ((St × (St) × (St × (St × (St))) × (St) × (St)) × Lb)) : Prop := ∀ (x1 : Int32) (x2 : Int32) (x3 : Int32) (x4 : Int32) (s0 : (St × (St) × (St × (St × (St))) × (St) × (St)) × Lb) (H : Heap) (locs : List Loc) (ls : Array Slot), g x1 x2 x3 x4 s0 = some r → va_P (dC, dI) vwCl (dw_X19L a ac s0) H → va_D A (dw_X19L a ac s0) → va_S A s.heap H locs → lv_has ls 5 [(0, .ref (a 0)), (1, .int x1), (2, .int x2), (3, .int x3), (4, .int x4)] → W p l e (headSpec ow_dm_X19_before ({ frames := 2, cells := 0, slots := 0, locals := 46 })).room s m args below meth c H locs 0 0 Q (F0 m 73 ls [])
def dj_X19_before_68 (p : Program) (l : Launch) (e : Env) (s : State) (m : MethodId) (args : Array Value) (below : List Frame) (meth : Method) (c : Code) (Q : State → Prop) (A : Nat → Prop) (dC : Nat → ClassId) (dI : Nat → Nat → Nat) (a : Nat → Nat) (ac : Nat → ClassId) (g : Int32 → Int32 → Int32 → ((St × (St) × (St × (St × (St))) × (St) × (St)) × Lb) → Option (Int32 × ((St × (St) × (St × (St × (St))) × (St) × (St)) × Lb))) (r : Int32 × ((St × (St) × (St × (St × (St))) × (St) × (St)) × Lb)) : Prop := ∀ (x1 : Int32) (x2 : Int32) (x4 : Int32) (s0 : (St × (St) × (St × (St × (St))) × (St) × (St)) × Lb) (H : Heap) (locs : List Loc) (ls : Array Slot), g x1 x2 x4 s0 = some r → va_P (dC, dI) vwCl (dw_X19L a ac s0) H → va_D A (dw_X19L a ac s0) → va_S A s.heap H locs → lv_has ls 5 [(0, .ref (a 0)), (1, .int x1), (2, .int x2), (4, .int x4)] → W p l e (headSpec ow_dm_X19_before ({ frames := 2, cells := 0, slots := 0, locals := 46 })).room s m args below meth c H locs 0 0 Q (F0 m 68 ls [])
def dj_X19_before_10 (p : Program) (l : Launch) (e : Env) (s : State) (m : MethodId) (args : Array Value) (below : List Frame) (meth : Method) (c : Code) (Q : State → Prop) (A : Nat → Prop) (dC : Nat → ClassId) (dI : Nat → Nat → Nat) (a : Nat → Nat) (ac : Nat → ClassId) (g : Int32 → Int32 → Int32 → Int32 → ((St × (St) × (St × (St × (St))) × (St) × (St)) × Lb) → Option (Int32 × ((St × (St) × (St × (St × (St))) × (St) × (St)) × Lb))) (r : Int32 × ((St × (St) × (St × (St × (St))) × (St) × (St)) × Lb)) : Prop := ∀ (x1 : Int32) (x2 : Int32) (x3 : Int32) (x4 : Int32) (s0 : (St × (St) × (St × (St × (St))) × (St) × (St)) × Lb) (H : Heap) (locs : List Loc) (ls : Array Slot), g x1 x2 x3 x4 s0 = some r → va_P (dC, dI) vwCl (dw_X19L a ac s0) H → va_D A (dw_X19L a ac s0) → va_S A s.heap H locs → lv_has ls 5 [(0, .ref (a 0)), (1, .int x1), (2, .int x2), (3, .int x3), (4, .int x4)] → W p l e (headSpec ow_dm_X19_before ({ frames := 2, cells := 0, slots := 0, locals := 46 })).room s m args below meth c H locs 0 0 Q (F0 m 10 ls [])
def dj_X19_before_0 (p : Program) (l : Launch) (e : Env) (s : State) (m : MethodId) (args : Array Value) (below : List Frame) (meth : Method) (c : Code) (Q : State → Prop) (A : Nat → Prop) (dC : Nat → ClassId) (dI : Nat → Nat → Nat) (a : Nat → Nat) (ac : Nat → ClassId) (g : Int32 → Int32 → ((St × (St) × (St × (St × (St))) × (St) × (St)) × Lb) → Option (Int32 × ((St × (St) × (St × (St × (St))) × (St) × (St)) × Lb))) (r : Int32 × ((St × (St) × (St × (St × (St))) × (St) × (St)) × Lb)) : Prop := ∀ (v0 : Int32) (v1 : Int32) (s0 : (St × (St) × (St × (St × (St))) × (St) × (St)) × Lb) (H : Heap) (locs : List Loc) (ls : Array Slot), g v0 v1 s0 = some r → va_P (dC, dI) vwCl (dw_X19L a ac s0) H → va_D A (dw_X19L a ac s0) → va_S A s.heap H locs → lv_has ls 5 [(0, .ref (a 0)), (1, .int v0), (2, .int v1)] → W p l e (headSpec ow_dm_X19_before ({ frames := 2, cells := 0, slots := 0, locals := 46 })).room s m args below meth c H locs 0 0 Q (F0 m 0 ls [])
set_option maxHeartbeats 40000000 in
set_option maxRecDepth 100000 in
theorem db_X19_before_81 {p : Program} {l : Launch} {e : Env} {s : State} {m : MethodId} {args : Array Value} {below : List Frame} {meth : Method} {c : Code} {Q : State → Prop} {A : Nat → Prop} {dC : Nat → ClassId} {dI : Nat → Nat → Nat} {a : Nat → Nat} {ac : Nat → ClassId} {n : Nat} {r : Int32 × ((St × (St) × (St × (St × (St))) × (St) × (St)) × Lb)} (C : nd_C p l s m args c A (dC, dI) cX19_before 5 RX19 ow_dm_X19_before (dk_X19L ac)) (K : nd_Ki p l e (headSpec ow_dm_X19_before ({ frames := 2, cells := 0, slots := 0, locals := 46 })).room s m args below meth c Q A (dC, dI) cX19_before .int ((St × (St) × (St × (St × (St))) × (St) × (St)) × Lb) (dw_X19L a ac) r) : dj_X19_before_81 p l e s m args below meth c Q A dC dI a ac (df_X19_before_81 n) r := by
  obtain ⟨hlt, hx, hb, hml, hown, hts, hN, hA, hK⟩ := id C
  intro x3 s0 H locs ls h hP hD hS hl
  unfold df_X19_before_81 at h
  refine lv_iload_n hx hb dX19_before_81 rfl (lv_at hl 0 rfl) ?_
  exact K _ _ _ _ _ _ dX19_before_82 rfl (Option.some.inj h).symm hP hD hS
set_option maxHeartbeats 40000000 in
set_option maxRecDepth 100000 in
theorem db_X19_before_74 {p : Program} {l : Launch} {e : Env} {s : State} {m : MethodId} {args : Array Value} {below : List Frame} {meth : Method} {c : Code} {Q : State → Prop} {A : Nat → Prop} {dC : Nat → ClassId} {dI : Nat → Nat → Nat} {a : Nat → Nat} {ac : Nat → ClassId} {n : Nat} {r : Int32 × ((St × (St) × (St × (St × (St))) × (St) × (St)) × Lb)} (C : nd_C p l s m args c A (dC, dI) cX19_before 5 RX19 ow_dm_X19_before (dk_X19L ac)) (K : nd_Ki p l e (headSpec ow_dm_X19_before ({ frames := 2, cells := 0, slots := 0, locals := 46 })).room s m args below meth c Q A (dC, dI) cX19_before .int ((St × (St) × (St × (St × (St))) × (St) × (St)) × Lb) (dw_X19L a ac) r) {g10 : Int32 → Int32 → Int32 → Int32 → ((St × (St) × (St × (St × (St))) × (St) × (St)) × Lb) → Option (Int32 × ((St × (St) × (St × (St × (St))) × (St) × (St)) × Lb))} (J10 : dj_X19_before_10 p l e s m args below meth c Q A dC dI a ac g10 r) : dj_X19_before_74 p l e s m args below meth c Q A dC dI a ac (df_X19_before_74 n g10) r := by
  obtain ⟨hlt, hx, hb, hml, hown, hts, hN, hA, hK⟩ := id C
  intro x1 x2 x4 y0 s0 H locs ls h hP hD hS hl
  unfold df_X19_before_74 at h
  refine lv_istore_n (lv' := [(3, .int y0), (0, .ref (a 0)), (1, .int x1), (2, .int x2), (4, .int x4)]) hx hb dX19_before_74 rfl hl (by decide) rfl (fun ls hl => ?_)
  obtain ⟨z16, ez16, h⟩ := nd_let_e h
  refine lv_iinc (v := z16) (lv' := [(4, .int z16), (3, .int y0), (0, .ref (a 0)), (1, .int x1), (2, .int x2)]) hx hb dX19_before_75 hl (k := 4) rfl (by rw [ez16]) (by decide) rfl (fun ls hl => ?_)
  refine lv_goto (tgt := 10) hx hb dX19_before_78 (by decide) ?_
  exact (J10) (x1) (x2) (y0) (z16) s0 _ _ _ h hP hD hS (lv_sub hl [2, 3, 4, 1, 0] rfl)
set_option maxHeartbeats 40000000 in
set_option maxRecDepth 100000 in
theorem db_X19_before_73 {p : Program} {l : Launch} {e : Env} {s : State} {m : MethodId} {args : Array Value} {below : List Frame} {meth : Method} {c : Code} {Q : State → Prop} {A : Nat → Prop} {dC : Nat → ClassId} {dI : Nat → Nat → Nat} {a : Nat → Nat} {ac : Nat → ClassId} {n : Nat} {r : Int32 × ((St × (St) × (St × (St × (St))) × (St) × (St)) × Lb)} (C : nd_C p l s m args c A (dC, dI) cX19_before 5 RX19 ow_dm_X19_before (dk_X19L ac)) (K : nd_Ki p l e (headSpec ow_dm_X19_before ({ frames := 2, cells := 0, slots := 0, locals := 46 })).room s m args below meth c Q A (dC, dI) cX19_before .int ((St × (St) × (St × (St × (St))) × (St) × (St)) × Lb) (dw_X19L a ac) r) {g10 : Int32 → Int32 → Int32 → Int32 → ((St × (St) × (St × (St × (St))) × (St) × (St)) × Lb) → Option (Int32 × ((St × (St) × (St × (St × (St))) × (St) × (St)) × Lb))} (J10 : dj_X19_before_10 p l e s m args below meth c Q A dC dI a ac g10 r) : dj_X19_before_73 p l e s m args below meth c Q A dC dI a ac (df_X19_before_73 n g10) r := by
  obtain ⟨hlt, hx, hb, hml, hown, hts, hN, hA, hK⟩ := id C
  intro x1 x2 x3 x4 s0 H locs ls h hP hD hS hl
  unfold df_X19_before_73 at h
  refine lv_iload_n hx hb dX19_before_73 rfl (lv_at hl 3 rfl) ?_
  exact (db_X19_before_74 C K J10) (x1) (x2) (x4) (x3) s0 _ _ _ h hP hD hS (lv_sub hl [0, 1, 2, 4] rfl)
set_option maxHeartbeats 40000000 in
set_option maxRecDepth 100000 in
theorem db_X19_before_68 {p : Program} {l : Launch} {e : Env} {s : State} {m : MethodId} {args : Array Value} {below : List Frame} {meth : Method} {c : Code} {Q : State → Prop} {A : Nat → Prop} {dC : Nat → ClassId} {dI : Nat → Nat → Nat} {a : Nat → Nat} {ac : Nat → ClassId} {n : Nat} {r : Int32 × ((St × (St) × (St × (St × (St))) × (St) × (St)) × Lb)} (C : nd_C p l s m args c A (dC, dI) cX19_before 5 RX19 ow_dm_X19_before (dk_X19L ac)) (K : nd_Ki p l e (headSpec ow_dm_X19_before ({ frames := 2, cells := 0, slots := 0, locals := 46 })).room s m args below meth c Q A (dC, dI) cX19_before .int ((St × (St) × (St × (St × (St))) × (St) × (St)) × Lb) (dw_X19L a ac) r) {g10 : Int32 → Int32 → Int32 → Int32 → ((St × (St) × (St × (St × (St))) × (St) × (St)) × Lb) → Option (Int32 × ((St × (St) × (St × (St × (St))) × (St) × (St)) × Lb))} (J10 : dj_X19_before_10 p l e s m args below meth c Q A dC dI a ac g10 r) : dj_X19_before_68 p l e s m args below meth c Q A dC dI a ac (df_X19_before_68 n g10) r := by
  obtain ⟨hlt, hx, hb, hml, hown, hts, hN, hA, hK⟩ := id C
  intro x1 x2 x4 s0 H locs ls h hP hD hS hl
  unfold df_X19_before_68 at h
  refine lv_iload hx hb dX19_before_68 (lv_at hl 3 rfl) ?_
  refine lv_goto (tgt := 74) hx hb dX19_before_70 (by decide) ?_
  exact (db_X19_before_74 C K J10) (x1) (x2) (x4) (x4) s0 _ _ _ h hP hD hS (lv_sub hl [0, 1, 2, 3] rfl)
set_option maxHeartbeats 40000000 in
set_option maxRecDepth 100000 in
theorem dB_X19_before_10 {p : Program} {l : Launch} {e : Env} {s : State} {m : MethodId} {args : Array Value} {below : List Frame} {meth : Method} {c : Code} {Q : State → Prop} {A : Nat → Prop} {dC : Nat → ClassId} {dI : Nat → Nat → Nat} {a : Nat → Nat} {ac : Nat → ClassId} {n : Nat} {r : Int32 × ((St × (St) × (St × (St × (St))) × (St) × (St)) × Lb)} (C : nd_C p l s m args c A (dC, dI) cX19_before 5 RX19 ow_dm_X19_before (dk_X19L ac)) (K : nd_Ki p l e (headSpec ow_dm_X19_before ({ frames := 2, cells := 0, slots := 0, locals := 46 })).room s m args below meth c Q A (dC, dI) cX19_before .int ((St × (St) × (St × (St × (St))) × (St) × (St)) × Lb) (dw_X19L a ac) r) {g10 : Int32 → Int32 → Int32 → Int32 → ((St × (St) × (St × (St × (St))) × (St) × (St)) × Lb) → Option (Int32 × ((St × (St) × (St × (St × (St))) × (St) × (St)) × Lb))} (J10 : dj_X19_before_10 p l e s m args below meth c Q A dC dI a ac g10 r) : dj_X19_before_10 p l e s m args below meth c Q A dC dI a ac (dF_X19_before_10 n g10) r := by
  obtain ⟨hlt, hx, hb, hml, hown, hts, hN, hA, hK⟩ := id C
  intro x1 x2 x3 x4 s0 H locs ls h hP hD hS hl
  unfold dF_X19_before_10 at h
  refine lv_aload_n hx hb dX19_before_10 rfl (lv_at hl 0 rfl) ?_
  refine lv_iload_n hx hb dX19_before_11 rfl (lv_at hl 1 rfl) ?_
  obtain ⟨q2, s3, hq, h⟩ := nd_b2_e h
  have hPc := dp_X19L_0 hP
  have hDc := dd_X19L_0 hD
  have hKc := dy_X19L_0 hK
  have hFc := nd_rs hDc hS hA
  have hzA : ∀ q : Nat, H.size ≤ q → A q := fun q h => hA q (Nat.le_trans hS.1 h)
  refine nd_cVi (As := [.int x1]) (rest := []) (q := q2) (w' := dw_X19 (fun k => a (k + 0)) (fun k => ac (k + 0)) s3) ⟨hx, hb, hml, hown, hts⟩ (fun sz => dm_X19_isProgram l hlt dC dI (fun k => a (k + 0)) (fun k => ac (k + 0)) n (x1) s0.1 hq sz) (cwV 1 hts gi_dm_X19_before_0 rfl rfl rfl (by decide +kernel) ⟨Nat.le_of_ble_eq_true rfl, Nat.le_of_ble_eq_true rfl⟩) hPc hDc hKc hS hA hN (va_recv hKc hPc (ci := 20) (q0 := 0) rfl rfl) rfl hl.1 rfl (Nat.le_of_ble_eq_true rfl) dX19_before_12 (fun H locs hP1 hD1 hk1 hS => ?_)
  obtain ⟨hP, hD⟩ := dn_X19L_0 hP hD hzA hk1 hP1 hD1
  obtain ⟨s5, es5, h⟩ := nd_let_e h
  have hP : va_P (dC, dI) vwCl (dw_X19L a ac s5) H := by rw [es5]; exact hP
  have hD : va_D A (dw_X19L a ac s5) := by rw [es5]; exact hD
  refine lv_if_eq (tgt := 81) hx hb dX19_before_15 (by decide) (fun c6 => ?_) (fun c6 => ?_)
  · have h := nd_pos h c6
    exact (db_X19_before_81 C K) (x3) s5 _ _ _ h hP hD hS (lv_sub hl [3] rfl)
  · have h := nd_neg h c6
    refine lv_iload hx hb dX19_before_18 (lv_at hl 4 rfl) ?_
    refine lv_aload_n hx hb dX19_before_20 rfl (lv_at hl 0 rfl) ?_
    obtain ⟨o7, h⟩ := nd_o_e h
    refine va_get (D := (dC, dI)) (ci := 20) (v := .ref (a 96)) (C := RX19) (T := TX19) (N := 36) hx hb hts hi_dm_X19_before_X19 hown hK hP 0 rfl rfl 10 (by decide) (hts (.fieldLink RX19 35 "TimeMachineModel" "labels" "[[I") (List.mem_of_getElem? (i := 6) rfl)) (fun _ h9 => h9) (congrArg (fun z => some (va_rf (Option.map a z))) o7) dX19_before_21 ?_
    refine lv_iload_n hx hb dX19_before_24 rfl (lv_at hl 1 rfl) ?_
    obtain ⟨i8, h⟩ := nd_ck_e h
    obtain ⟨x9, hx9, h⟩ := nd_l_e h
    refine nv_aldg (i := x1) hx hb hK hP 96 89 rfl rfl i8 dX19_before_25 ?_
    refine W.eq (g2 := F0 m 26 ls [.ref x9.1, .int x4]) (by show F0 m _ ls (va_rf (Option.map (fun x => x.1) (s5.2 (Int32.toNatClampNeg x1))) :: _) = _; rw [hx9]; rfl) ?_
    refine va_alen (v := Int32.ofNat x9.2.1) hx hb (hK.sub [1] rfl) (dlab hP hx9 (Nat.not_le.mp fun q9 => i8 (Or.inr q9))) 0 0 rfl rfl rfl dX19_before_26 ?_
    refine lv_icmp_ge (tgt := 81) hx hb dX19_before_27 (by decide) (fun c10 => ?_) (fun c10 => ?_)
    · have h := nd_pos h c10
      exact (db_X19_before_81 C K) (x3) s5 _ _ _ h hP hD hS (lv_sub hl [3] rfl)
    · have h := nd_neg h c10
      refine lv_aload_n hx hb dX19_before_30 rfl (lv_at hl 0 rfl) ?_
      obtain ⟨o11, h⟩ := nd_o_e h
      refine va_get (D := (dC, dI)) (ci := 20) (v := .ref (a 96)) (C := RX19) (T := TX19) (N := 36) hx hb hts hi_dm_X19_before_X19 hown hK hP 0 rfl rfl 10 (by decide) (hts (.fieldLink RX19 35 "TimeMachineModel" "labels" "[[I") (List.mem_of_getElem? (i := 6) rfl)) (fun _ h9 => h9) (congrArg (fun z => some (va_rf (Option.map a z))) o11) dX19_before_31 ?_
      refine lv_iload_n hx hb dX19_before_34 rfl (lv_at hl 1 rfl) ?_
      obtain ⟨i12, h⟩ := nd_ck_e h
      obtain ⟨x13, hx13, h⟩ := nd_l_e h
      refine nv_aldg (i := x1) hx hb hK hP 96 89 rfl rfl i12 dX19_before_35 ?_
      refine W.eq (g2 := F0 m 36 ls [.ref x13.1]) (by show F0 m _ ls (va_rf (Option.map (fun x => x.1) (s5.2 (Int32.toNatClampNeg x1))) :: _) = _; rw [hx13]; rfl) ?_
      refine lv_iload hx hb dX19_before_36 (lv_at hl 4 rfl) ?_
      obtain ⟨i14, h⟩ := nd_ck_e h
      refine va_iald (i := x4) hx hb (hK.sub [1] rfl) (dlab hP hx13 (Nat.not_le.mp fun q9 => i12 (Or.inr q9))) 0 0 rfl rfl i14 dX19_before_38 ?_
      refine lv_iload_n hx hb dX19_before_39 rfl (lv_at hl 2 rfl) ?_
      refine lv_icmp_gt (tgt := 73) hx hb dX19_before_40 (by decide) (fun c15 => ?_) (fun c15 => ?_)
      · have h := nd_pos h c15
        exact (db_X19_before_73 C K J10) (x1) (x2) (x3) (x4) s5 _ _ _ h hP hD hS (lv_sub hl [0, 1, 2, 3, 4] rfl)
      · have h := nd_neg h c15
        refine lv_iload_n hx hb dX19_before_43 rfl (lv_at hl 3 rfl) ?_
        refine lv_iconst (v := (-1)) hx hb dX19_before_44 (by decide) ?_
        refine lv_icmp_eq (tgt := 68) hx hb dX19_before_45 (by decide) (fun c17 => ?_) (fun c17 => ?_)
        · have h := nd_pos h c17
          exact (db_X19_before_68 C K J10) (x1) (x2) (x4) s5 _ _ _ h hP hD hS (lv_sub hl [0, 1, 2, 4] rfl)
        · have h := nd_neg h c17
          refine lv_aload_n hx hb dX19_before_48 rfl (lv_at hl 0 rfl) ?_
          obtain ⟨o18, h⟩ := nd_o_e h
          refine va_get (D := (dC, dI)) (ci := 20) (v := .ref (a 96)) (C := RX19) (T := TX19) (N := 36) hx hb hts hi_dm_X19_before_X19 hown hK hP 0 rfl rfl 10 (by decide) (hts (.fieldLink RX19 35 "TimeMachineModel" "labels" "[[I") (List.mem_of_getElem? (i := 6) rfl)) (fun _ h9 => h9) (congrArg (fun z => some (va_rf (Option.map a z))) o18) dX19_before_49 ?_
          refine lv_iload_n hx hb dX19_before_52 rfl (lv_at hl 1 rfl) ?_
          obtain ⟨i19, h⟩ := nd_ck_e h
          obtain ⟨x20, hx20, h⟩ := nd_l_e h
          refine nv_aldg (i := x1) hx hb hK hP 96 89 rfl rfl i19 dX19_before_53 ?_
          refine W.eq (g2 := F0 m 54 ls [.ref x20.1]) (by show F0 m _ ls (va_rf (Option.map (fun x => x.1) (s5.2 (Int32.toNatClampNeg x1))) :: _) = _; rw [hx20]; rfl) ?_
          refine lv_iload hx hb dX19_before_54 (lv_at hl 4 rfl) ?_
          obtain ⟨i21, h⟩ := nd_ck_e h
          refine va_iald (i := x4) hx hb (hK.sub [1] rfl) (dlab hP hx20 (Nat.not_le.mp fun q9 => i19 (Or.inr q9))) 0 0 rfl rfl i21 dX19_before_56 ?_
          refine lv_aload_n hx hb dX19_before_57 rfl (lv_at hl 0 rfl) ?_
          obtain ⟨o22, h⟩ := nd_o_e h
          refine va_get (D := (dC, dI)) (ci := 20) (v := .ref (a 96)) (C := RX19) (T := TX19) (N := 36) hx hb hts hi_dm_X19_before_X19 hown hK hP 0 rfl rfl 10 (by decide) (hts (.fieldLink RX19 35 "TimeMachineModel" "labels" "[[I") (List.mem_of_getElem? (i := 6) rfl)) (fun _ h9 => h9) (congrArg (fun z => some (va_rf (Option.map a z))) o22) dX19_before_58 ?_
          refine lv_iload_n hx hb dX19_before_61 rfl (lv_at hl 1 rfl) ?_
          obtain ⟨i23, h⟩ := nd_ck_e h
          obtain ⟨x24, hx24, h⟩ := nd_l_e h
          refine nv_aldg (i := x1) hx hb hK hP 96 89 rfl rfl i23 dX19_before_62 ?_
          refine W.eq (g2 := F0 m 63 ls [.ref x24.1, .int (x20.2.2 (Int32.toNatClampNeg x4))]) (by show F0 m _ ls (va_rf (Option.map (fun x => x.1) (s5.2 (Int32.toNatClampNeg x1))) :: _) = _; rw [hx24]; rfl) ?_
          refine lv_iload_n hx hb dX19_before_63 rfl (lv_at hl 3 rfl) ?_
          obtain ⟨i25, h⟩ := nd_ck_e h
          refine va_iald (i := x3) hx hb (hK.sub [1] rfl) (dlab hP hx24 (Nat.not_le.mp fun q9 => i23 (Or.inr q9))) 0 0 rfl rfl i25 dX19_before_64 ?_
          refine lv_icmp_lt (tgt := 73) hx hb dX19_before_65 (by decide) (fun c26 => ?_) (fun c26 => ?_)
          · have h := nd_pos h c26
            exact (db_X19_before_73 C K J10) (x1) (x2) (x3) (x4) s5 _ _ _ h hP hD hS (lv_sub hl [0, 1, 2, 3, 4] rfl)
          · have h := nd_neg h c26
            exact (db_X19_before_68 C K J10) (x1) (x2) (x4) s5 _ _ _ h hP hD hS (lv_sub hl [0, 1, 2, 4] rfl)
set_option maxHeartbeats 40000000 in
set_option maxRecDepth 100000 in
theorem db_X19_before_10 {p : Program} {l : Launch} {e : Env} {s : State} {m : MethodId} {args : Array Value} {below : List Frame} {meth : Method} {c : Code} {Q : State → Prop} {A : Nat → Prop} {dC : Nat → ClassId} {dI : Nat → Nat → Nat} {a : Nat → Nat} {ac : Nat → ClassId} {n : Nat} {r : Int32 × ((St × (St) × (St × (St × (St))) × (St) × (St)) × Lb)} (C : nd_C p l s m args c A (dC, dI) cX19_before 5 RX19 ow_dm_X19_before (dk_X19L ac)) (K : nd_Ki p l e (headSpec ow_dm_X19_before ({ frames := 2, cells := 0, slots := 0, locals := 46 })).room s m args below meth c Q A (dC, dI) cX19_before .int ((St × (St) × (St × (St × (St))) × (St) × (St)) × Lb) (dw_X19L a ac) r) (k : Nat) : dj_X19_before_10 p l e s m args below meth c Q A dC dI a ac (df_X19_before_10 n k) r := by
  induction k with
  | zero => intro x1 x2 x3 x4 s0 H locs ls h; exact nomatch (show (none : Option (Int32 × ((St × (St) × (St × (St × (St))) × (St) × (St)) × Lb))) = some r from h)
  | succ k ih => exact dB_X19_before_10 C K ih
set_option maxHeartbeats 40000000 in
set_option maxRecDepth 100000 in
theorem db_X19_before_0 {p : Program} {l : Launch} {e : Env} {s : State} {m : MethodId} {args : Array Value} {below : List Frame} {meth : Method} {c : Code} {Q : State → Prop} {A : Nat → Prop} {dC : Nat → ClassId} {dI : Nat → Nat → Nat} {a : Nat → Nat} {ac : Nat → ClassId} {n : Nat} {r : Int32 × ((St × (St) × (St × (St × (St))) × (St) × (St)) × Lb)} (C : nd_C p l s m args c A (dC, dI) cX19_before 5 RX19 ow_dm_X19_before (dk_X19L ac)) (K : nd_Ki p l e (headSpec ow_dm_X19_before ({ frames := 2, cells := 0, slots := 0, locals := 46 })).room s m args below meth c Q A (dC, dI) cX19_before .int ((St × (St) × (St × (St × (St))) × (St) × (St)) × Lb) (dw_X19L a ac) r) : dj_X19_before_0 p l e s m args below meth c Q A dC dI a ac (df_X19_before_0 n) r := by
  obtain ⟨hlt, hx, hb, hml, hown, hts, hN, hA, hK⟩ := id C
  intro v0 v1 s0 H locs ls h hP hD hS hl
  unfold df_X19_before_0 at h
  refine lv_aload_n hx hb dX19_before_0 rfl (lv_at hl 0 rfl) ?_
  refine lv_iconst (v := 0) hx hb dX19_before_1 (by decide) ?_
  refine va_put (D := (dC, dI)) (ci := 20) (v := .int 0) (ty := .int) (C := RX19) (T := TX19) (N := 36) hx hb hts hi_dm_X19_before_X19 tyX19 tyX19_ok nmX19 hown hK hP hD hS 0 rfl rfl 0 (by decide) (hts (.fieldLink RX19 113 "TimeMachineModel" "code" "I") (List.mem_of_getElem? (i := 1) rfl)) (fun _ h9 => h9) rfl (by decide +kernel) rfl rfl (Nat.le_of_ble_eq_true rfl) dX19_before_2 (fun H locs hP hD hS => ?_)
  obtain ⟨s1, es1, h⟩ := nd_let_e h
  have hP : va_P (dC, dI) vwCl (dw_X19L a ac s1) H := by rw [es1]; exact hP
  have hD : va_D A (dw_X19L a ac s1) := by rw [es1]; exact hD
  refine lv_iconst (v := (-1)) hx hb dX19_before_5 (by decide) ?_
  refine lv_istore_n (lv' := [(3, .int (-1)), (0, .ref (a 0)), (1, .int v0), (2, .int v1)]) hx hb dX19_before_6 rfl hl (by decide) rfl (fun ls hl => ?_)
  refine lv_iconst (v := 0) hx hb dX19_before_7 (by decide) ?_
  refine lv_istore (lv' := [(4, .int 0), (3, .int (-1)), (0, .ref (a 0)), (1, .int v0), (2, .int v1)]) hx hb dX19_before_8 hl (by decide) rfl (fun ls hl => ?_)
  exact (db_X19_before_10 C K n) (v0) (v1) ((-1)) (0) s1 _ _ _ h hP hD hS (lv_sub hl [2, 3, 4, 1, 0] rfl)
set_option maxHeartbeats 40000000 in
set_option maxRecDepth 100000 in
theorem dm_X19_before (l : Launch) (hlt : l.stackTraces = false) (dC : Nat → ClassId) (dI : Nat → Nat → Nat) (a : Nat → Nat) (ac : Nat → ClassId) (n : Nat) (v0 : Int32) (v1 : Int32) (s0 : (St × (St) × (St × (St × (St))) × (St) × (St)) × Lb) {r : Int32 × ((St × (St) × (St × (St × (St))) × (St) × (St)) × Lb)} (h : df_X19_before n v0 v1 s0 = some r) (sz : Nat) : Met l yX19_before ow_dm_X19_before ({ frames := 2, cells := 0, slots := 0, locals := 46 }) (va_Pc [.ref (a 0), .int v0, .int v1] (fun U => U.heap.size = sz ∧ va_P (dC, dI) vwCl (dw_X19L a ac s0) U.heap ∧ va_K (dC, dI) vwCl (dk_X19L ac) U ∧ va_D (fun _ => True) (dw_X19L a ac s0) ∧ nv_E dI (va_A (dw_X19L a ac s0) sz) U)) (va_Qi (fun x _ => x = r.1) (fun (_ : Unit) t => va_P (dC, dI) vwCl (dw_X19L a ac r.2) t.heap ∧ va_K (dC, dI) vwCl (dk_X19L ac) t ∧ va_D (va_A (dw_X19L a ac s0) sz) (dw_X19L a ac r.2)) (va_A (dw_X19L a ac s0) sz)) 0 0 (va_A (dw_X19L a ac s0) sz) := by
  refine Met.ofW (cc := cX19_before) (maxL := 5) (ret := (some .int)) (by decide) rfl ?_
  intro p e s m args below meth c s₁ B hml hv
  obtain ⟨rfl, hsz, hP, hK, hD0, hN⟩ := hv
  have hx := B.exec
  have hb := B.bytes
  have hr := B.returns
  have hts := atoms_spec (ws := ow_dm_X19_before) B.pre
  have hown : s.vm.findClass RX19 = some m.cls := findClass_of_methodNamed B.named
  have hlocks := B.notSynchronized
  subst hsz
  have hD := hD0.self (sz := s.heap.size)
  generalize hAe : va_A (dw_X19L a ac s0) s.heap.size = A at hD hN ⊢
  have hA : ∀ q : Nat, s.heap.size ≤ q → A q := fun q h => by rw [← hAe]; exact Or.inr h
  have hl := lv_entry ([.ref (a 0), .int v0, .int v1]) (n := 5) (Nat.le_of_ble_eq_true rfl)
  rw [lg_entry_eq]
  generalize (lg_sl ([.ref (a 0), .int v0, .int v1]) ++ List.replicate (5 - (lg_sl ([.ref (a 0), .int v0, .int v1])).length) Slot.unset).toArray = ls at hl ⊢
  have hl : lv_has ls 5 [(0, .ref (a 0)), (1, .int v0), (2, .int v1)] := hl
  exact db_X19_before_0 (dC := dC) (dI := dI) (a := a) (ac := ac) (n := n) (r := r) ⟨hlt, hx, hb, hml, hown, hts, hN, hA, hK⟩ (fun pc v τ H locs ls d z er hP hD hS => by subst er; exact W.zret (v := v) hx hb hr z (fun t ht hW => ⟨⟨v, (), rfl, rfl, by rw [ht]; exact hP, va_K.moved hW.alike hK, hD⟩, hS.F ht⟩) hS.2.2 d) v0 v1 s0 _ _ _ h hP hD va_S.rf (lv_sub hl [0, 1, 2] rfl)
def ow_dm_X12_putOnTape : List Cond := Cond.code yX12_putOnTape cX12_putOnTape 3 none :: ([Cond.fieldLink RX12 58 "TimeMachine" "taped" "I", Cond.constant RX12 9 (32768), Cond.fieldLink RX12 10 "TimeMachine" "tape" "[B"] ++ (u_ws RX12 TX12 12 ++ []))
theorem gd_dm_X12_putOnTape : ∀ w ∈ ow_dm_X12_putOnTape, (w.onTables && w.keeps) = true ∨ ∃ ty, w = Cond.arrayClass ty := List.forall_mem_cons.mpr ⟨good_of_word rfl, List.forall_mem_append.mpr ⟨fun w h => good_of_word (List.all_eq_true.mp (by decide +kernel) w h), List.forall_mem_append.mpr ⟨gu_X12, fun _ h => nomatch h⟩⟩⟩
theorem hi_dm_X12_putOnTape_X12 : ∀ w ∈ u_ws RX12 TX12 12, w ∈ ow_dm_X12_putOnTape := fun w h => List.mem_cons_of_mem _ (List.mem_append_right _ (List.mem_append_left _ h))
def dj_X12_putOnTape_39 (p : Program) (l : Launch) (e : Env) (s : State) (m : MethodId) (args : Array Value) (below : List Frame) (meth : Method) (c : Code) (Q : State → Prop) (A : Nat → Prop) (dC : Nat → ClassId) (dI : Nat → Nat → Nat) (a : Nat → Nat) (ac : Nat → ClassId) (g : Int32 → Int32 → (St × Rw × (St) × (St × (St)) × (St) × (St × (St × (St × (St)))) × (St) × (St) × (Nat → St) × (Nat → St) × (Nat → St × (St))) → Option (St × Rw × (St) × (St × (St)) × (St) × (St × (St × (St × (St)))) × (St) × (St) × (Nat → St) × (Nat → St) × (Nat → St × (St)))) (r : St × Rw × (St) × (St × (St)) × (St) × (St × (St × (St × (St)))) × (St) × (St) × (Nat → St) × (Nat → St) × (Nat → St × (St))) : Prop := ∀ (x1 : Int32) (x2 : Int32) (s0 : St × Rw × (St) × (St × (St)) × (St) × (St × (St × (St × (St)))) × (St) × (St) × (Nat → St) × (Nat → St) × (Nat → St × (St))) (H : Heap) (locs : List Loc) (ls : Array Slot), g x1 x2 s0 = some r → va_P (dC, dI) vwCl (dw_X12 a ac s0) H → va_D A (dw_X12 a ac s0) → va_S A s.heap H locs → lv_has ls 3 [(0, .ref (a 0)), (1, .int x1), (2, .int x2)] → W p l e (headSpec ow_dm_X12_putOnTape ({ frames := 0, cells := 0, slots := 0, locals := 0 })).room s m args below meth c H locs 0 0 Q (F0 m 39 ls [])
def dj_X12_putOnTape_3 (p : Program) (l : Launch) (e : Env) (s : State) (m : MethodId) (args : Array Value) (below : List Frame) (meth : Method) (c : Code) (Q : State → Prop) (A : Nat → Prop) (dC : Nat → ClassId) (dI : Nat → Nat → Nat) (a : Nat → Nat) (ac : Nat → ClassId) (g : Int32 → Int32 → (St × Rw × (St) × (St × (St)) × (St) × (St × (St × (St × (St)))) × (St) × (St) × (Nat → St) × (Nat → St) × (Nat → St × (St))) → Option (St × Rw × (St) × (St × (St)) × (St) × (St × (St × (St × (St)))) × (St) × (St) × (Nat → St) × (Nat → St) × (Nat → St × (St)))) (r : St × Rw × (St) × (St × (St)) × (St) × (St × (St × (St × (St)))) × (St) × (St) × (Nat → St) × (Nat → St) × (Nat → St × (St))) : Prop := ∀ (x1 : Int32) (x2 : Int32) (s0 : St × Rw × (St) × (St × (St)) × (St) × (St × (St × (St × (St)))) × (St) × (St) × (Nat → St) × (Nat → St) × (Nat → St × (St))) (H : Heap) (locs : List Loc) (ls : Array Slot), g x1 x2 s0 = some r → va_P (dC, dI) vwCl (dw_X12 a ac s0) H → va_D A (dw_X12 a ac s0) → va_S A s.heap H locs → lv_has ls 3 [(0, .ref (a 0)), (1, .int x1), (2, .int x2)] → W p l e (headSpec ow_dm_X12_putOnTape ({ frames := 0, cells := 0, slots := 0, locals := 0 })).room s m args below meth c H locs 0 0 Q (F0 m 3 ls [])
def dj_X12_putOnTape_0 (p : Program) (l : Launch) (e : Env) (s : State) (m : MethodId) (args : Array Value) (below : List Frame) (meth : Method) (c : Code) (Q : State → Prop) (A : Nat → Prop) (dC : Nat → ClassId) (dI : Nat → Nat → Nat) (a : Nat → Nat) (ac : Nat → ClassId) (g : Int32 → (St × Rw × (St) × (St × (St)) × (St) × (St × (St × (St × (St)))) × (St) × (St) × (Nat → St) × (Nat → St) × (Nat → St × (St))) → Option (St × Rw × (St) × (St × (St)) × (St) × (St × (St × (St × (St)))) × (St) × (St) × (Nat → St) × (Nat → St) × (Nat → St × (St)))) (r : St × Rw × (St) × (St × (St)) × (St) × (St × (St × (St × (St)))) × (St) × (St) × (Nat → St) × (Nat → St) × (Nat → St × (St))) : Prop := ∀ (v0 : Int32) (s0 : St × Rw × (St) × (St × (St)) × (St) × (St × (St × (St × (St)))) × (St) × (St) × (Nat → St) × (Nat → St) × (Nat → St × (St))) (H : Heap) (locs : List Loc) (ls : Array Slot), g v0 s0 = some r → va_P (dC, dI) vwCl (dw_X12 a ac s0) H → va_D A (dw_X12 a ac s0) → va_S A s.heap H locs → lv_has ls 3 [(0, .ref (a 0)), (1, .int v0)] → W p l e (headSpec ow_dm_X12_putOnTape ({ frames := 0, cells := 0, slots := 0, locals := 0 })).room s m args below meth c H locs 0 0 Q (F0 m 0 ls [])
set_option maxHeartbeats 40000000 in
set_option maxRecDepth 100000 in
theorem db_X12_putOnTape_39 {p : Program} {l : Launch} {e : Env} {s : State} {m : MethodId} {args : Array Value} {below : List Frame} {meth : Method} {c : Code} {Q : State → Prop} {A : Nat → Prop} {dC : Nat → ClassId} {dI : Nat → Nat → Nat} {a : Nat → Nat} {ac : Nat → ClassId} {n : Nat} {r : St × Rw × (St) × (St × (St)) × (St) × (St × (St × (St × (St)))) × (St) × (St) × (Nat → St) × (Nat → St) × (Nat → St × (St))} (C : nd_C p l s m args c A (dC, dI) cX12_putOnTape 3 RX12 ow_dm_X12_putOnTape (dk_X12 ac)) (K : nd_Kv p l e (headSpec ow_dm_X12_putOnTape ({ frames := 0, cells := 0, slots := 0, locals := 0 })).room s m args below meth c Q A (dC, dI) cX12_putOnTape (St × Rw × (St) × (St × (St)) × (St) × (St × (St × (St × (St)))) × (St) × (St) × (Nat → St) × (Nat → St) × (Nat → St × (St))) (dw_X12 a ac) r) {g3 : Int32 → Int32 → (St × Rw × (St) × (St × (St)) × (St) × (St × (St × (St × (St)))) × (St) × (St) × (Nat → St) × (Nat → St) × (Nat → St × (St))) → Option (St × Rw × (St) × (St × (St)) × (St) × (St × (St × (St × (St)))) × (St) × (St) × (Nat → St) × (Nat → St) × (Nat → St × (St)))} (J3 : dj_X12_putOnTape_3 p l e s m args below meth c Q A dC dI a ac g3 r) : dj_X12_putOnTape_39 p l e s m args below meth c Q A dC dI a ac (df_X12_putOnTape_39 n (a 15) (a 3) g3) r := by
  obtain ⟨hlt, hx, hb, hml, hown, hts, hN, hA, hK⟩ := id C
  intro x1 x2 s0 H locs ls h hP hD hS hl
  unfold df_X12_putOnTape_39 at h
  obtain ⟨z3, ez3, h⟩ := nd_let_e h
  refine lv_iinc (v := z3) (lv' := [(2, .int z3), (0, .ref (a 0)), (1, .int x1)]) hx hb dX12_putOnTape_39 hl (k := 2) rfl (by rw [ez3]) (by decide) rfl (fun ls hl => ?_)
  refine lv_goto (tgt := 3) hx hb dX12_putOnTape_42 (by decide) ?_
  exact (J3) (x1) (z3) s0 _ _ _ h hP hD hS (lv_sub hl [1, 2, 0] rfl)
set_option maxHeartbeats 40000000 in
set_option maxRecDepth 100000 in
theorem dB_X12_putOnTape_3 {p : Program} {l : Launch} {e : Env} {s : State} {m : MethodId} {args : Array Value} {below : List Frame} {meth : Method} {c : Code} {Q : State → Prop} {A : Nat → Prop} {dC : Nat → ClassId} {dI : Nat → Nat → Nat} {a : Nat → Nat} {ac : Nat → ClassId} {n : Nat} {r : St × Rw × (St) × (St × (St)) × (St) × (St × (St × (St × (St)))) × (St) × (St) × (Nat → St) × (Nat → St) × (Nat → St × (St))} (C : nd_C p l s m args c A (dC, dI) cX12_putOnTape 3 RX12 ow_dm_X12_putOnTape (dk_X12 ac)) (K : nd_Kv p l e (headSpec ow_dm_X12_putOnTape ({ frames := 0, cells := 0, slots := 0, locals := 0 })).room s m args below meth c Q A (dC, dI) cX12_putOnTape (St × Rw × (St) × (St × (St)) × (St) × (St × (St × (St × (St)))) × (St) × (St) × (Nat → St) × (Nat → St) × (Nat → St × (St))) (dw_X12 a ac) r) {g3 : Int32 → Int32 → (St × Rw × (St) × (St × (St)) × (St) × (St × (St × (St × (St)))) × (St) × (St) × (Nat → St) × (Nat → St) × (Nat → St × (St))) → Option (St × Rw × (St) × (St × (St)) × (St) × (St × (St × (St × (St)))) × (St) × (St) × (Nat → St) × (Nat → St) × (Nat → St × (St)))} (J3 : dj_X12_putOnTape_3 p l e s m args below meth c Q A dC dI a ac g3 r) : dj_X12_putOnTape_3 p l e s m args below meth c Q A dC dI a ac (dF_X12_putOnTape_3 n (a 15) (a 3) g3) r := by
  obtain ⟨hlt, hx, hb, hml, hown, hts, hN, hA, hK⟩ := id C
  intro x1 x2 s0 H locs ls h hP hD hS hl
  unfold dF_X12_putOnTape_3 at h
  refine lv_iload_n hx hb dX12_putOnTape_3 rfl (lv_at hl 2 rfl) ?_
  refine lv_if_lt (tgt := 45) hx hb dX12_putOnTape_4 (by decide) (fun c1 => ?_) (fun c1 => ?_)
  · have h := nd_pos h c1
    exact K _ _ _ _ _ dX12_putOnTape_45 (Option.some.inj h).symm hP hD hS
  · have h := nd_neg h c1
    refine lv_aload_n hx hb dX12_putOnTape_7 rfl (lv_at hl 0 rfl) ?_
    refine va_get (D := (dC, dI)) (ci := 13) (v := .int (sI s0.1 0)) (C := RX12) (T := TX12) (N := 12) hx hb hts hi_dm_X12_putOnTape_X12 hown hK hP 0 rfl rfl 1 (by decide) (hts (.fieldLink RX12 58 "TimeMachine" "taped" "I") (List.mem_of_getElem? (i := 1) rfl)) (fun _ h9 => h9) rfl dX12_putOnTape_8 ?_
    refine lv_ldc hx hb hown (hts (.constant RX12 9 (32768)) (List.mem_of_getElem? (i := 2) rfl)) dX12_putOnTape_11 ?_
    refine lv_icmp_ge (tgt := 39) hx hb dX12_putOnTape_13 (by decide) (fun c2 => ?_) (fun c2 => ?_)
    · have h := nd_pos h c2
      exact (db_X12_putOnTape_39 C K J3) (x1) (x2) s0 _ _ _ h hP hD hS (lv_sub hl [0, 1, 2] rfl)
    · have h := nd_neg h c2
      refine lv_aload_n hx hb dX12_putOnTape_16 rfl (lv_at hl 0 rfl) ?_
      refine va_get (D := (dC, dI)) (ci := 13) (v := .ref (a 15)) (C := RX12) (T := TX12) (N := 12) hx hb hts hi_dm_X12_putOnTape_X12 hown hK hP 0 rfl rfl 0 (by decide) (hts (.fieldLink RX12 10 "TimeMachine" "tape" "[B") (List.mem_of_getElem? (i := 3) rfl)) (fun _ h9 => h9) rfl dX12_putOnTape_17 ?_
      refine lv_aload_n hx hb dX12_putOnTape_20 rfl (lv_at hl 0 rfl) ?_
      refine va_get (D := (dC, dI)) (ci := 13) (v := .int (sI s0.1 0)) (C := RX12) (T := TX12) (N := 12) hx hb hts hi_dm_X12_putOnTape_X12 hown hK hP 0 rfl rfl 1 (by decide) (hts (.fieldLink RX12 58 "TimeMachine" "taped" "I") (List.mem_of_getElem? (i := 1) rfl)) (fun _ h9 => h9) rfl dX12_putOnTape_21 ?_
      refine lv_iload_n hx hb dX12_putOnTape_24 rfl (lv_at hl 1 rfl) ?_
      refine lv_iload_n hx hb dX12_putOnTape_25 rfl (lv_at hl 2 rfl) ?_
      refine lv_ishr hx hb dX12_putOnTape_26 ?_
      refine lv_i2b hx hb dX12_putOnTape_27 rfl ?_
      obtain ⟨i4, h⟩ := nd_ck_e h
      refine va_bast (i := (sI s0.1 0)) (x := ((((x1 : Int32) >>> ((x2 : Int32) &&& 31)) : Int32).toInt8.toInt32)) hx hb hK hP hD hS 15 12 rfl rfl i4 dX12_putOnTape_28 (fun H locs hP hD hS => ?_)
      obtain ⟨s5, es5, h⟩ := nd_let_e h
      have hP : va_P (dC, dI) vwCl (dw_X12 a ac s5) H := by rw [es5]; exact hP
      have hD : va_D A (dw_X12 a ac s5) := by rw [es5]; exact hD
      refine lv_aload_n hx hb dX12_putOnTape_29 rfl (lv_at hl 0 rfl) ?_
      refine lv_dup hx hb dX12_putOnTape_30 rfl ?_
      refine va_get (D := (dC, dI)) (ci := 13) (v := .int (sI s5.1 0)) (C := RX12) (T := TX12) (N := 12) hx hb hts hi_dm_X12_putOnTape_X12 hown hK hP 0 rfl rfl 1 (by decide) (hts (.fieldLink RX12 58 "TimeMachine" "taped" "I") (List.mem_of_getElem? (i := 1) rfl)) (fun _ h9 => h9) rfl dX12_putOnTape_31 ?_
      refine lv_iconst (v := 1) hx hb dX12_putOnTape_34 (by decide) ?_
      refine lv_iadd hx hb dX12_putOnTape_35 ?_
      refine va_put (D := (dC, dI)) (ci := 13) (v := .int ((sI s5.1 0) + 1)) (ty := .int) (C := RX12) (T := TX12) (N := 12) hx hb hts hi_dm_X12_putOnTape_X12 tyX12 tyX12_ok nmX12 hown hK hP hD hS 0 rfl rfl 1 (by decide) (hts (.fieldLink RX12 58 "TimeMachine" "taped" "I") (List.mem_of_getElem? (i := 1) rfl)) (fun _ h9 => h9) rfl (by decide +kernel) rfl rfl (Nat.le_of_ble_eq_true rfl) dX12_putOnTape_36 (fun H locs hP hD hS => ?_)
      obtain ⟨s6, es6, h⟩ := nd_let_e h
      have hP : va_P (dC, dI) vwCl (dw_X12 a ac s6) H := by rw [es6]; exact hP
      have hD : va_D A (dw_X12 a ac s6) := by rw [es6]; exact hD
      exact (db_X12_putOnTape_39 C K J3) (x1) (x2) s6 _ _ _ h hP hD hS (lv_sub hl [0, 1, 2] rfl)
set_option maxHeartbeats 40000000 in
set_option maxRecDepth 100000 in
theorem db_X12_putOnTape_3 {p : Program} {l : Launch} {e : Env} {s : State} {m : MethodId} {args : Array Value} {below : List Frame} {meth : Method} {c : Code} {Q : State → Prop} {A : Nat → Prop} {dC : Nat → ClassId} {dI : Nat → Nat → Nat} {a : Nat → Nat} {ac : Nat → ClassId} {n : Nat} {r : St × Rw × (St) × (St × (St)) × (St) × (St × (St × (St × (St)))) × (St) × (St) × (Nat → St) × (Nat → St) × (Nat → St × (St))} (C : nd_C p l s m args c A (dC, dI) cX12_putOnTape 3 RX12 ow_dm_X12_putOnTape (dk_X12 ac)) (K : nd_Kv p l e (headSpec ow_dm_X12_putOnTape ({ frames := 0, cells := 0, slots := 0, locals := 0 })).room s m args below meth c Q A (dC, dI) cX12_putOnTape (St × Rw × (St) × (St × (St)) × (St) × (St × (St × (St × (St)))) × (St) × (St) × (Nat → St) × (Nat → St) × (Nat → St × (St))) (dw_X12 a ac) r) (k : Nat) : dj_X12_putOnTape_3 p l e s m args below meth c Q A dC dI a ac (df_X12_putOnTape_3 n (a 15) (a 3) k) r := by
  induction k with
  | zero => intro x1 x2 s0 H locs ls h; exact nomatch (show (none : Option (St × Rw × (St) × (St × (St)) × (St) × (St × (St × (St × (St)))) × (St) × (St) × (Nat → St) × (Nat → St) × (Nat → St × (St)))) = some r from h)
  | succ k ih => exact dB_X12_putOnTape_3 C K ih
set_option maxHeartbeats 40000000 in
set_option maxRecDepth 100000 in
theorem db_X12_putOnTape_0 {p : Program} {l : Launch} {e : Env} {s : State} {m : MethodId} {args : Array Value} {below : List Frame} {meth : Method} {c : Code} {Q : State → Prop} {A : Nat → Prop} {dC : Nat → ClassId} {dI : Nat → Nat → Nat} {a : Nat → Nat} {ac : Nat → ClassId} {n : Nat} {r : St × Rw × (St) × (St × (St)) × (St) × (St × (St × (St × (St)))) × (St) × (St) × (Nat → St) × (Nat → St) × (Nat → St × (St))} (C : nd_C p l s m args c A (dC, dI) cX12_putOnTape 3 RX12 ow_dm_X12_putOnTape (dk_X12 ac)) (K : nd_Kv p l e (headSpec ow_dm_X12_putOnTape ({ frames := 0, cells := 0, slots := 0, locals := 0 })).room s m args below meth c Q A (dC, dI) cX12_putOnTape (St × Rw × (St) × (St × (St)) × (St) × (St × (St × (St × (St)))) × (St) × (St) × (Nat → St) × (Nat → St) × (Nat → St × (St))) (dw_X12 a ac) r) : dj_X12_putOnTape_0 p l e s m args below meth c Q A dC dI a ac (df_X12_putOnTape_0 n (a 15) (a 3)) r := by
  obtain ⟨hlt, hx, hb, hml, hown, hts, hN, hA, hK⟩ := id C
  intro v0 s0 H locs ls h hP hD hS hl
  unfold df_X12_putOnTape_0 at h
  refine lv_bipush (v := 24) hx hb dX12_putOnTape_0 (by decide) ?_
  refine lv_istore_n (lv' := [(2, .int 24), (0, .ref (a 0)), (1, .int v0)]) hx hb dX12_putOnTape_2 rfl hl (by decide) rfl (fun ls hl => ?_)
  exact (db_X12_putOnTape_3 C K n) (v0) (24) s0 _ _ _ h hP hD hS (lv_sub hl [1, 2, 0] rfl)
set_option maxHeartbeats 40000000 in
set_option maxRecDepth 100000 in
theorem dm_X12_putOnTape (l : Launch) (hlt : l.stackTraces = false) (dC : Nat → ClassId) (dI : Nat → Nat → Nat) (a : Nat → Nat) (ac : Nat → ClassId) (n : Nat) (v0 : Int32) (s0 : St × Rw × (St) × (St × (St)) × (St) × (St × (St × (St × (St)))) × (St) × (St) × (Nat → St) × (Nat → St) × (Nat → St × (St))) {r : St × Rw × (St) × (St × (St)) × (St) × (St × (St × (St × (St)))) × (St) × (St) × (Nat → St) × (Nat → St) × (Nat → St × (St))} (h : df_X12_putOnTape n (a 15) (a 3) v0 s0 = some r) (sz : Nat) : Met l yX12_putOnTape ow_dm_X12_putOnTape ({ frames := 0, cells := 0, slots := 0, locals := 0 }) (va_Pc [.ref (a 0), .int v0] (fun U => U.heap.size = sz ∧ va_P (dC, dI) vwCl (dw_X12 a ac s0) U.heap ∧ va_K (dC, dI) vwCl (dk_X12 ac) U ∧ va_D (fun _ => True) (dw_X12 a ac s0) ∧ nv_E dI (va_A (dw_X12 a ac s0) sz) U)) (va_Qv (fun _ => True) (fun (_ : Unit) t => va_P (dC, dI) vwCl (dw_X12 a ac r) t.heap ∧ va_K (dC, dI) vwCl (dk_X12 ac) t ∧ va_D (va_A (dw_X12 a ac s0) sz) (dw_X12 a ac r)) (va_A (dw_X12 a ac s0) sz)) 0 0 (va_A (dw_X12 a ac s0) sz) := by
  refine Met.ofW (cc := cX12_putOnTape) (maxL := 3) (ret := none) (by decide) rfl ?_
  intro p e s m args below meth c s₁ B hml hv
  obtain ⟨rfl, hsz, hP, hK, hD0, hN⟩ := hv
  have hx := B.exec
  have hb := B.bytes
  have hr := B.returns
  have hts := atoms_spec (ws := ow_dm_X12_putOnTape) B.pre
  have hown : s.vm.findClass RX12 = some m.cls := findClass_of_methodNamed B.named
  have hlocks := B.notSynchronized
  subst hsz
  have hD := hD0.self (sz := s.heap.size)
  generalize hAe : va_A (dw_X12 a ac s0) s.heap.size = A at hD hN ⊢
  have hA : ∀ q : Nat, s.heap.size ≤ q → A q := fun q h => by rw [← hAe]; exact Or.inr h
  have hl := lv_entry ([.ref (a 0), .int v0]) (n := 3) (Nat.le_of_ble_eq_true rfl)
  rw [lg_entry_eq]
  generalize (lg_sl ([.ref (a 0), .int v0]) ++ List.replicate (3 - (lg_sl ([.ref (a 0), .int v0])).length) Slot.unset).toArray = ls at hl ⊢
  have hl : lv_has ls 3 [(0, .ref (a 0)), (1, .int v0)] := hl
  exact db_X12_putOnTape_0 (dC := dC) (dI := dI) (a := a) (ac := ac) (n := n) (r := r) ⟨hlt, hx, hb, hml, hown, hts, hN, hA, hK⟩ (fun pc τ H locs ls d er hP hD hS => by subst er; exact W.vret hx hb hr (fun t ht hW => ⟨⟨(), rfl, trivial, by rw [ht]; exact hP, va_K.moved hW.alike hK, hD⟩, hS.F ht⟩) hS.2.2 d) v0 s0 _ _ _ h hP hD va_S.rf (lv_sub hl [0, 1] rfl)
def ow_dm_X12_feed : List Cond := Cond.code yX12_feed cX12_feed 6 (some .int) :: ([Cond.fieldLink RX12 58 "TimeMachine" "taped" "I", Cond.constant RX12 9 (32768), Cond.methodLink RX12 62 yX12_putOnTape, Cond.instanceMethod yX12_putOnTape, Cond.selects RX12 yX12_putOnTape yX12_putOnTape, Cond.initialized RX12, Cond.fieldLink RX12 66 "TimeMachine" "fresh" "Z"] ++ (u_ws RX12 TX12 12 ++ (ow_dm_X12_putOnTape ++ [])))
theorem gd_dm_X12_feed : ∀ w ∈ ow_dm_X12_feed, (w.onTables && w.keeps) = true ∨ ∃ ty, w = Cond.arrayClass ty := List.forall_mem_cons.mpr ⟨good_of_word rfl, List.forall_mem_append.mpr ⟨fun w h => good_of_word (List.all_eq_true.mp (by decide +kernel) w h), List.forall_mem_append.mpr ⟨gu_X12, List.forall_mem_append.mpr ⟨gd_dm_X12_putOnTape, fun _ h => nomatch h⟩⟩⟩⟩
theorem hi_dm_X12_feed_X12 : ∀ w ∈ u_ws RX12 TX12 12, w ∈ ow_dm_X12_feed := fun w h => List.mem_cons_of_mem _ (List.mem_append_right _ (List.mem_append_left _ h))
theorem gi_dm_X12_feed_0 : GoodIn ow_dm_X12_feed (wsV RX12 62 RX12 yX12_putOnTape ow_dm_X12_putOnTape) := goodIn_app (goodIn_of _ (by decide +kernel)) (fun w h => ⟨List.mem_cons_of_mem _ (List.mem_append_right _ (List.mem_append_right _ (List.mem_append_left _ h))), gd_dm_X12_putOnTape w h⟩)
def dj_X12_feed_0 (p : Program) (l : Launch) (e : Env) (s : State) (m : MethodId) (args : Array Value) (below : List Frame) (meth : Method) (c : Code) (Q : State → Prop) (A : Nat → Prop) (dC : Nat → ClassId) (dI : Nat → Nat → Nat) (a : Nat → Nat) (ac : Nat → ClassId) (g : Int32 → Int32 → Int32 → Int32 → Int32 → (St × Rw × (St) × (St × (St)) × (St) × (St × (St × (St × (St)))) × (St) × (St) × (Nat → St) × (Nat → St) × (Nat → St × (St))) → Option (Int32 × (St × Rw × (St) × (St × (St)) × (St) × (St × (St × (St × (St)))) × (St) × (St) × (Nat → St) × (Nat → St) × (Nat → St × (St))))) (r : Int32 × (St × Rw × (St) × (St × (St)) × (St) × (St × (St × (St × (St)))) × (St) × (St) × (Nat → St) × (Nat → St) × (Nat → St × (St)))) : Prop := ∀ (v0 : Int32) (v1 : Int32) (v2 : Int32) (v3 : Int32) (v4 : Int32) (s0 : St × Rw × (St) × (St × (St)) × (St) × (St × (St × (St × (St)))) × (St) × (St) × (Nat → St) × (Nat → St) × (Nat → St × (St))) (H : Heap) (locs : List Loc) (ls : Array Slot), g v0 v1 v2 v3 v4 s0 = some r → va_P (dC, dI) vwCl (dw_X12 a ac s0) H → va_D A (dw_X12 a ac s0) → va_S A s.heap H locs → lv_has ls 6 [(0, .ref (a 0)), (1, .int v0), (2, .int v1), (3, .int v2), (4, .int v3), (5, .int v4)] → W p l e (headSpec ow_dm_X12_feed ({ frames := 1, cells := 0, slots := 0, locals := 22 })).room s m args below meth c H locs 0 0 Q (F0 m 0 ls [])
set_option maxHeartbeats 40000000 in
set_option maxRecDepth 100000 in
theorem db_X12_feed_0 {p : Program} {l : Launch} {e : Env} {s : State} {m : MethodId} {args : Array Value} {below : List Frame} {meth : Method} {c : Code} {Q : State → Prop} {A : Nat → Prop} {dC : Nat → ClassId} {dI : Nat → Nat → Nat} {a : Nat → Nat} {ac : Nat → ClassId} {n : Nat} {r : Int32 × (St × Rw × (St) × (St × (St)) × (St) × (St × (St × (St × (St)))) × (St) × (St) × (Nat → St) × (Nat → St) × (Nat → St × (St)))} (C : nd_C p l s m args c A (dC, dI) cX12_feed 6 RX12 ow_dm_X12_feed (dk_X12 ac)) (K : nd_Ki p l e (headSpec ow_dm_X12_feed ({ frames := 1, cells := 0, slots := 0, locals := 22 })).room s m args below meth c Q A (dC, dI) cX12_feed .int (St × Rw × (St) × (St × (St)) × (St) × (St × (St × (St × (St)))) × (St) × (St) × (Nat → St) × (Nat → St) × (Nat → St × (St))) (dw_X12 a ac) r) : dj_X12_feed_0 p l e s m args below meth c Q A dC dI a ac (df_X12_feed_0 n (a 15) (a 3)) r := by
  obtain ⟨hlt, hx, hb, hml, hown, hts, hN, hA, hK⟩ := id C
  intro v0 v1 v2 v3 v4 s0 H locs ls h hP hD hS hl
  unfold df_X12_feed_0 at h
  refine lv_aload_n hx hb dX12_feed_0 rfl (lv_at hl 0 rfl) ?_
  refine va_get (D := (dC, dI)) (ci := 13) (v := .int (sI s0.1 0)) (C := RX12) (T := TX12) (N := 12) hx hb hts hi_dm_X12_feed_X12 hown hK hP 0 rfl rfl 1 (by decide) (hts (.fieldLink RX12 58 "TimeMachine" "taped" "I") (List.mem_of_getElem? (i := 1) rfl)) (fun _ h9 => h9) rfl dX12_feed_1 ?_
  refine lv_bipush (v := 20) hx hb dX12_feed_4 (by decide) ?_
  refine lv_iadd hx hb dX12_feed_6 ?_
  refine lv_ldc hx hb hown (hts (.constant RX12 9 (32768)) (List.mem_of_getElem? (i := 2) rfl)) dX12_feed_7 ?_
  refine lv_icmp_le (tgt := 14) hx hb dX12_feed_9 (by decide) (fun c1 => ?_) (fun c1 => ?_)
  · have h := nd_pos h c1
    refine lv_aload_n hx hb dX12_feed_14 rfl (lv_at hl 0 rfl) ?_
    refine lv_iload_n hx hb dX12_feed_15 rfl (lv_at hl 1 rfl) ?_
    obtain ⟨s3, hq, h⟩ := nd_b1_e h
    have hPc := hP
    have hDc := hD
    have hKc := hK
    have hFc := nd_rs hD hS hA
    refine nd_cVv (As := [.int v0]) (rest := []) (w' := dw_X12 a ac s3) ⟨hx, hb, hml, hown, hts⟩ (fun sz => dm_X12_putOnTape l hlt dC dI a ac n (v0) s0 hq sz) (cwV 1 hts gi_dm_X12_feed_0 rfl rfl rfl (by decide +kernel) ⟨Nat.le_of_ble_eq_true rfl, Nat.le_of_ble_eq_true rfl⟩) hPc hDc hKc hS hA hN (va_recv hKc hPc (ci := 13) (q0 := 0) rfl rfl) rfl hl.1 rfl (Nat.le_of_ble_eq_true rfl) dX12_feed_16 (fun H locs hP1 hD1 hk1 hS => ?_)
    have hP := hP1
    have hD := hD1.weaken (fun k q _ h => hFc q.1 h)
    refine lv_aload_n hx hb dX12_feed_19 rfl (lv_at hl 0 rfl) ?_
    refine lv_iload_n hx hb dX12_feed_20 rfl (lv_at hl 2 rfl) ?_
    obtain ⟨s6, hq, h⟩ := nd_b1_e h
    have hPc := hP
    have hDc := hD
    have hKc := hK
    have hFc := nd_rs hD hS hA
    refine nd_cVv (As := [.int v1]) (rest := []) (w' := dw_X12 a ac s6) ⟨hx, hb, hml, hown, hts⟩ (fun sz => dm_X12_putOnTape l hlt dC dI a ac n (v1) s3 hq sz) (cwV 1 hts gi_dm_X12_feed_0 rfl rfl rfl (by decide +kernel) ⟨Nat.le_of_ble_eq_true rfl, Nat.le_of_ble_eq_true rfl⟩) hPc hDc hKc hS hA hN (va_recv hKc hPc (ci := 13) (q0 := 0) rfl rfl) rfl hl.1 rfl (Nat.le_of_ble_eq_true rfl) dX12_feed_21 (fun H locs hP1 hD1 hk1 hS => ?_)
    have hP := hP1
    have hD := hD1.weaken (fun k q _ h => hFc q.1 h)
    refine lv_aload_n hx hb dX12_feed_24 rfl (lv_at hl 0 rfl) ?_
    refine lv_iload_n hx hb dX12_feed_25 rfl (lv_at hl 3 rfl) ?_
    obtain ⟨s9, hq, h⟩ := nd_b1_e h
    have hPc := hP
    have hDc := hD
    have hKc := hK
    have hFc := nd_rs hD hS hA
    refine nd_cVv (As := [.int v2]) (rest := []) (w' := dw_X12 a ac s9) ⟨hx, hb, hml, hown, hts⟩ (fun sz => dm_X12_putOnTape l hlt dC dI a ac n (v2) s6 hq sz) (cwV 1 hts gi_dm_X12_feed_0 rfl rfl rfl (by decide +kernel) ⟨Nat.le_of_ble_eq_true rfl, Nat.le_of_ble_eq_true rfl⟩) hPc hDc hKc hS hA hN (va_recv hKc hPc (ci := 13) (q0 := 0) rfl rfl) rfl hl.1 rfl (Nat.le_of_ble_eq_true rfl) dX12_feed_26 (fun H locs hP1 hD1 hk1 hS => ?_)
    have hP := hP1
    have hD := hD1.weaken (fun k q _ h => hFc q.1 h)
    refine lv_aload_n hx hb dX12_feed_29 rfl (lv_at hl 0 rfl) ?_
    refine lv_iload hx hb dX12_feed_30 (lv_at hl 4 rfl) ?_
    obtain ⟨s12, hq, h⟩ := nd_b1_e h
    have hPc := hP
    have hDc := hD
    have hKc := hK
    have hFc := nd_rs hD hS hA
    refine nd_cVv (As := [.int v3]) (rest := []) (w' := dw_X12 a ac s12) ⟨hx, hb, hml, hown, hts⟩ (fun sz => dm_X12_putOnTape l hlt dC dI a ac n (v3) s9 hq sz) (cwV 1 hts gi_dm_X12_feed_0 rfl rfl rfl (by decide +kernel) ⟨Nat.le_of_ble_eq_true rfl, Nat.le_of_ble_eq_true rfl⟩) hPc hDc hKc hS hA hN (va_recv hKc hPc (ci := 13) (q0 := 0) rfl rfl) rfl hl.1 rfl (Nat.le_of_ble_eq_true rfl) dX12_feed_32 (fun H locs hP1 hD1 hk1 hS => ?_)
    have hP := hP1
    have hD := hD1.weaken (fun k q _ h => hFc q.1 h)
    refine lv_aload_n hx hb dX12_feed_35 rfl (lv_at hl 0 rfl) ?_
    refine lv_iload hx hb dX12_feed_36 (lv_at hl 5 rfl) ?_
    obtain ⟨s15, hq, h⟩ := nd_b1_e h
    have hPc := hP
    have hDc := hD
    have hKc := hK
    have hFc := nd_rs hD hS hA
    refine nd_cVv (As := [.int v4]) (rest := []) (w' := dw_X12 a ac s15) ⟨hx, hb, hml, hown, hts⟩ (fun sz => dm_X12_putOnTape l hlt dC dI a ac n (v4) s12 hq sz) (cwV 1 hts gi_dm_X12_feed_0 rfl rfl rfl (by decide +kernel) ⟨Nat.le_of_ble_eq_true rfl, Nat.le_of_ble_eq_true rfl⟩) hPc hDc hKc hS hA hN (va_recv hKc hPc (ci := 13) (q0 := 0) rfl rfl) rfl hl.1 rfl (Nat.le_of_ble_eq_true rfl) dX12_feed_38 (fun H locs hP1 hD1 hk1 hS => ?_)
    have hP := hP1
    have hD := hD1.weaken (fun k q _ h => hFc q.1 h)
    refine lv_aload_n hx hb dX12_feed_41 rfl (lv_at hl 0 rfl) ?_
    refine lv_iconst (v := 1) hx hb dX12_feed_42 (by decide) ?_
    refine va_put (D := (dC, dI)) (ci := 13) (v := .int 1) (ty := .boolean) (C := RX12) (T := TX12) (N := 12) hx hb hts hi_dm_X12_feed_X12 tyX12 tyX12_ok nmX12 hown hK hP hD hS 0 rfl rfl 2 (by decide) (hts (.fieldLink RX12 66 "TimeMachine" "fresh" "Z") (List.mem_of_getElem? (i := 7) rfl)) (fun _ h9 => h9) rfl (by decide +kernel) (by first | rfl | decide) rfl (Nat.le_of_ble_eq_true rfl) dX12_feed_43 (fun H locs hP hD hS => ?_)
    obtain ⟨s17, es17, h⟩ := nd_let_e h
    have hP : va_P (dC, dI) vwCl (dw_X12 a ac s17) H := by rw [es17]; exact hP
    have hD : va_D A (dw_X12 a ac s17) := by rw [es17]; exact hD
    refine lv_aload_n hx hb dX12_feed_46 rfl (lv_at hl 0 rfl) ?_
    refine va_get (D := (dC, dI)) (ci := 13) (v := .int (sI s17.1 0)) (C := RX12) (T := TX12) (N := 12) hx hb hts hi_dm_X12_feed_X12 hown hK hP 0 rfl rfl 1 (by decide) (hts (.fieldLink RX12 58 "TimeMachine" "taped" "I") (List.mem_of_getElem? (i := 1) rfl)) (fun _ h9 => h9) rfl dX12_feed_47 ?_
    exact K _ _ _ _ _ _ dX12_feed_50 rfl (Option.some.inj h).symm hP hD hS
  · have h := nd_neg h c1
    refine lv_iconst (v := (-1)) hx hb dX12_feed_12 (by decide) ?_
    exact K _ _ _ _ _ _ dX12_feed_13 rfl (Option.some.inj h).symm hP hD hS
set_option maxHeartbeats 40000000 in
set_option maxRecDepth 100000 in
theorem dm_X12_feed (l : Launch) (hlt : l.stackTraces = false) (dC : Nat → ClassId) (dI : Nat → Nat → Nat) (a : Nat → Nat) (ac : Nat → ClassId) (n : Nat) (v0 : Int32) (v1 : Int32) (v2 : Int32) (v3 : Int32) (v4 : Int32) (s0 : St × Rw × (St) × (St × (St)) × (St) × (St × (St × (St × (St)))) × (St) × (St) × (Nat → St) × (Nat → St) × (Nat → St × (St))) {r : Int32 × (St × Rw × (St) × (St × (St)) × (St) × (St × (St × (St × (St)))) × (St) × (St) × (Nat → St) × (Nat → St) × (Nat → St × (St)))} (h : df_X12_feed n (a 15) (a 3) v0 v1 v2 v3 v4 s0 = some r) (sz : Nat) : Met l yX12_feed ow_dm_X12_feed ({ frames := 1, cells := 0, slots := 0, locals := 22 }) (va_Pc [.ref (a 0), .int v0, .int v1, .int v2, .int v3, .int v4] (fun U => U.heap.size = sz ∧ va_P (dC, dI) vwCl (dw_X12 a ac s0) U.heap ∧ va_K (dC, dI) vwCl (dk_X12 ac) U ∧ va_D (fun _ => True) (dw_X12 a ac s0) ∧ nv_E dI (va_A (dw_X12 a ac s0) sz) U)) (va_Qi (fun x _ => x = r.1) (fun (_ : Unit) t => va_P (dC, dI) vwCl (dw_X12 a ac r.2) t.heap ∧ va_K (dC, dI) vwCl (dk_X12 ac) t ∧ va_D (va_A (dw_X12 a ac s0) sz) (dw_X12 a ac r.2)) (va_A (dw_X12 a ac s0) sz)) 0 0 (va_A (dw_X12 a ac s0) sz) := by
  refine Met.ofW (cc := cX12_feed) (maxL := 6) (ret := (some .int)) (by decide) rfl ?_
  intro p e s m args below meth c s₁ B hml hv
  obtain ⟨rfl, hsz, hP, hK, hD0, hN⟩ := hv
  have hx := B.exec
  have hb := B.bytes
  have hr := B.returns
  have hts := atoms_spec (ws := ow_dm_X12_feed) B.pre
  have hown : s.vm.findClass RX12 = some m.cls := findClass_of_methodNamed B.named
  have hlocks := B.notSynchronized
  subst hsz
  have hD := hD0.self (sz := s.heap.size)
  generalize hAe : va_A (dw_X12 a ac s0) s.heap.size = A at hD hN ⊢
  have hA : ∀ q : Nat, s.heap.size ≤ q → A q := fun q h => by rw [← hAe]; exact Or.inr h
  have hl := lv_entry ([.ref (a 0), .int v0, .int v1, .int v2, .int v3, .int v4]) (n := 6) (Nat.le_of_ble_eq_true rfl)
  rw [lg_entry_eq]
  generalize (lg_sl ([.ref (a 0), .int v0, .int v1, .int v2, .int v3, .int v4]) ++ List.replicate (6 - (lg_sl ([.ref (a 0), .int v0, .int v1, .int v2, .int v3, .int v4])).length) Slot.unset).toArray = ls at hl ⊢
  have hl : lv_has ls 6 [(0, .ref (a 0)), (1, .int v0), (2, .int v1), (3, .int v2), (4, .int v3), (5, .int v4)] := hl
  exact db_X12_feed_0 (dC := dC) (dI := dI) (a := a) (ac := ac) (n := n) (r := r) ⟨hlt, hx, hb, hml, hown, hts, hN, hA, hK⟩ (fun pc v τ H locs ls d z er hP hD hS => by subst er; exact W.zret (v := v) hx hb hr z (fun t ht hW => ⟨⟨v, (), rfl, rfl, by rw [ht]; exact hP, va_K.moved hW.alike hK, hD⟩, hS.F ht⟩) hS.2.2 d) v0 v1 v2 v3 v4 s0 _ _ _ h hP hD va_S.rf (lv_sub hl [0, 1, 2, 3, 4, 5] rfl)
def ow_dm_X12_end : List Cond := Cond.code yX12_end cX12_end 2 (some .int) :: ([Cond.fieldLink RX12 66 "TimeMachine" "fresh" "Z", Cond.fieldLink RX12 58 "TimeMachine" "taped" "I"] ++ (u_ws RX12 TX12 12 ++ []))
theorem gd_dm_X12_end : ∀ w ∈ ow_dm_X12_end, (w.onTables && w.keeps) = true ∨ ∃ ty, w = Cond.arrayClass ty := List.forall_mem_cons.mpr ⟨good_of_word rfl, List.forall_mem_append.mpr ⟨fun w h => good_of_word (List.all_eq_true.mp (by decide +kernel) w h), List.forall_mem_append.mpr ⟨gu_X12, fun _ h => nomatch h⟩⟩⟩
theorem hi_dm_X12_end_X12 : ∀ w ∈ u_ws RX12 TX12 12, w ∈ ow_dm_X12_end := fun w h => List.mem_cons_of_mem _ (List.mem_append_right _ (List.mem_append_left _ h))
def dj_X12_end_17 (p : Program) (l : Launch) (e : Env) (s : State) (m : MethodId) (args : Array Value) (below : List Frame) (meth : Method) (c : Code) (Q : State → Prop) (A : Nat → Prop) (dC : Nat → ClassId) (dI : Nat → Nat → Nat) (a : Nat → Nat) (ac : Nat → ClassId) (g : (St × Rw × (St) × (St × (St)) × (St) × (St × (St × (St × (St)))) × (St) × (St) × (Nat → St) × (Nat → St) × (Nat → St × (St))) → Option (Int32 × (St × Rw × (St) × (St × (St)) × (St) × (St × (St × (St × (St)))) × (St) × (St) × (Nat → St) × (Nat → St) × (Nat → St × (St))))) (r : Int32 × (St × Rw × (St) × (St × (St)) × (St) × (St × (St × (St × (St)))) × (St) × (St) × (Nat → St) × (Nat → St) × (Nat → St × (St)))) : Prop := ∀ (s0 : St × Rw × (St) × (St × (St)) × (St) × (St × (St × (St × (St)))) × (St) × (St) × (Nat → St) × (Nat → St) × (Nat → St × (St))) (H : Heap) (locs : List Loc) (ls : Array Slot), g s0 = some r → va_P (dC, dI) vwCl (dw_X12 a ac s0) H → va_D A (dw_X12 a ac s0) → va_S A s.heap H locs → lv_has ls 2 [] → W p l e (headSpec ow_dm_X12_end ({ frames := 0, cells := 0, slots := 0, locals := 0 })).room s m args below meth c H locs 0 0 Q (F0 m 17 ls [])
def dj_X12_end_0 (p : Program) (l : Launch) (e : Env) (s : State) (m : MethodId) (args : Array Value) (below : List Frame) (meth : Method) (c : Code) (Q : State → Prop) (A : Nat → Prop) (dC : Nat → ClassId) (dI : Nat → Nat → Nat) (a : Nat → Nat) (ac : Nat → ClassId) (g : Int32 → (St × Rw × (St) × (St × (St)) × (St) × (St × (St × (St × (St)))) × (St) × (St) × (Nat → St) × (Nat → St) × (Nat → St × (St))) → Option (Int32 × (St × Rw × (St) × (St × (St)) × (St) × (St × (St × (St × (St)))) × (St) × (St) × (Nat → St) × (Nat → St) × (Nat → St × (St))))) (r : Int32 × (St × Rw × (St) × (St × (St)) × (St) × (St × (St × (St × (St)))) × (St) × (St) × (Nat → St) × (Nat → St) × (Nat → St × (St)))) : Prop := ∀ (v0 : Int32) (s0 : St × Rw × (St) × (St × (St)) × (St) × (St × (St × (St × (St)))) × (St) × (St) × (Nat → St) × (Nat → St) × (Nat → St × (St))) (H : Heap) (locs : List Loc) (ls : Array Slot), g v0 s0 = some r → va_P (dC, dI) vwCl (dw_X12 a ac s0) H → va_D A (dw_X12 a ac s0) → va_S A s.heap H locs → lv_has ls 2 [(0, .ref (a 0)), (1, .int v0)] → W p l e (headSpec ow_dm_X12_end ({ frames := 0, cells := 0, slots := 0, locals := 0 })).room s m args below meth c H locs 0 0 Q (F0 m 0 ls [])
set_option maxHeartbeats 40000000 in
set_option maxRecDepth 100000 in
theorem db_X12_end_17 {p : Program} {l : Launch} {e : Env} {s : State} {m : MethodId} {args : Array Value} {below : List Frame} {meth : Method} {c : Code} {Q : State → Prop} {A : Nat → Prop} {dC : Nat → ClassId} {dI : Nat → Nat → Nat} {a : Nat → Nat} {ac : Nat → ClassId} {n : Nat} {r : Int32 × (St × Rw × (St) × (St × (St)) × (St) × (St × (St × (St × (St)))) × (St) × (St) × (Nat → St) × (Nat → St) × (Nat → St × (St)))} (C : nd_C p l s m args c A (dC, dI) cX12_end 2 RX12 ow_dm_X12_end (dk_X12 ac)) (K : nd_Ki p l e (headSpec ow_dm_X12_end ({ frames := 0, cells := 0, slots := 0, locals := 0 })).room s m args below meth c Q A (dC, dI) cX12_end .int (St × Rw × (St) × (St × (St)) × (St) × (St × (St × (St × (St)))) × (St) × (St) × (Nat → St) × (Nat → St) × (Nat → St × (St))) (dw_X12 a ac) r) : dj_X12_end_17 p l e s m args below meth c Q A dC dI a ac (df_X12_end_17 n (a 15) (a 3)) r := by
  obtain ⟨hlt, hx, hb, hml, hown, hts, hN, hA, hK⟩ := id C
  intro s0 H locs ls h hP hD hS hl
  unfold df_X12_end_17 at h
  refine lv_iconst (v := (-1)) hx hb dX12_end_17 (by decide) ?_
  exact K _ _ _ _ _ _ dX12_end_18 rfl (Option.some.inj h).symm hP hD hS
set_option maxHeartbeats 40000000 in
set_option maxRecDepth 100000 in
theorem db_X12_end_0 {p : Program} {l : Launch} {e : Env} {s : State} {m : MethodId} {args : Array Value} {below : List Frame} {meth : Method} {c : Code} {Q : State → Prop} {A : Nat → Prop} {dC : Nat → ClassId} {dI : Nat → Nat → Nat} {a : Nat → Nat} {ac : Nat → ClassId} {n : Nat} {r : Int32 × (St × Rw × (St) × (St × (St)) × (St) × (St × (St × (St × (St)))) × (St) × (St) × (Nat → St) × (Nat → St) × (Nat → St × (St)))} (C : nd_C p l s m args c A (dC, dI) cX12_end 2 RX12 ow_dm_X12_end (dk_X12 ac)) (K : nd_Ki p l e (headSpec ow_dm_X12_end ({ frames := 0, cells := 0, slots := 0, locals := 0 })).room s m args below meth c Q A (dC, dI) cX12_end .int (St × Rw × (St) × (St × (St)) × (St) × (St × (St × (St × (St)))) × (St) × (St) × (Nat → St) × (Nat → St) × (Nat → St × (St))) (dw_X12 a ac) r) : dj_X12_end_0 p l e s m args below meth c Q A dC dI a ac (df_X12_end_0 n (a 15) (a 3)) r := by
  obtain ⟨hlt, hx, hb, hml, hown, hts, hN, hA, hK⟩ := id C
  intro v0 s0 H locs ls h hP hD hS hl
  unfold df_X12_end_0 at h
  refine lv_iload_n hx hb dX12_end_0 rfl (lv_at hl 1 rfl) ?_
  refine lv_if_lt (tgt := 17) hx hb dX12_end_1 (by decide) (fun c1 => ?_) (fun c1 => ?_)
  · have h := nd_pos h c1
    exact (db_X12_end_17 C K)  s0 _ _ _ h hP hD hS (lv_sub hl [] rfl)
  · have h := nd_neg h c1
    refine lv_iload_n hx hb dX12_end_4 rfl (lv_at hl 1 rfl) ?_
    refine lv_bipush (v := 20) hx hb dX12_end_5 (by decide) ?_
    refine lv_icmp_gt (tgt := 17) hx hb dX12_end_7 (by decide) (fun c2 => ?_) (fun c2 => ?_)
    · have h := nd_pos h c2
      exact (db_X12_end_17 C K)  s0 _ _ _ h hP hD hS (lv_sub hl [] rfl)
    · have h := nd_neg h c2
      refine lv_aload_n hx hb dX12_end_10 rfl (lv_at hl 0 rfl) ?_
      refine va_get (D := (dC, dI)) (ci := 13) (v := .int (sI s0.1 1)) (C := RX12) (T := TX12) (N := 12) hx hb hts hi_dm_X12_end_X12 hown hK hP 0 rfl rfl 2 (by decide) (hts (.fieldLink RX12 66 "TimeMachine" "fresh" "Z") (List.mem_of_getElem? (i := 1) rfl)) (fun _ h9 => h9) rfl dX12_end_11 ?_
      refine lv_if_ne (tgt := 19) hx hb dX12_end_14 (by decide) (fun c3 => ?_) (fun c3 => ?_)
      · have h := nd_neg h c3
        refine lv_aload_n hx hb dX12_end_19 rfl (lv_at hl 0 rfl) ?_
        refine lv_dup hx hb dX12_end_20 rfl ?_
        refine va_get (D := (dC, dI)) (ci := 13) (v := .int (sI s0.1 0)) (C := RX12) (T := TX12) (N := 12) hx hb hts hi_dm_X12_end_X12 hown hK hP 0 rfl rfl 1 (by decide) (hts (.fieldLink RX12 58 "TimeMachine" "taped" "I") (List.mem_of_getElem? (i := 2) rfl)) (fun _ h9 => h9) rfl dX12_end_21 ?_
        refine lv_bipush (v := 20) hx hb dX12_end_24 (by decide) ?_
        refine lv_iload_n hx hb dX12_end_26 rfl (lv_at hl 1 rfl) ?_
        refine lv_isub hx hb dX12_end_27 ?_
        refine lv_isub hx hb dX12_end_28 ?_
        refine va_put (D := (dC, dI)) (ci := 13) (v := .int ((sI s0.1 0) - (20 - v0))) (ty := .int) (C := RX12) (T := TX12) (N := 12) hx hb hts hi_dm_X12_end_X12 tyX12 tyX12_ok nmX12 hown hK hP hD hS 0 rfl rfl 1 (by decide) (hts (.fieldLink RX12 58 "TimeMachine" "taped" "I") (List.mem_of_getElem? (i := 2) rfl)) (fun _ h9 => h9) rfl (by decide +kernel) rfl rfl (Nat.le_of_ble_eq_true rfl) dX12_end_29 (fun H locs hP hD hS => ?_)
        obtain ⟨s4, es4, h⟩ := nd_let_e h
        have hP : va_P (dC, dI) vwCl (dw_X12 a ac s4) H := by rw [es4]; exact hP
        have hD : va_D A (dw_X12 a ac s4) := by rw [es4]; exact hD
        refine lv_aload_n hx hb dX12_end_32 rfl (lv_at hl 0 rfl) ?_
        refine lv_iconst (v := 0) hx hb dX12_end_33 (by decide) ?_
        refine va_put (D := (dC, dI)) (ci := 13) (v := .int 0) (ty := .boolean) (C := RX12) (T := TX12) (N := 12) hx hb hts hi_dm_X12_end_X12 tyX12 tyX12_ok nmX12 hown hK hP hD hS 0 rfl rfl 2 (by decide) (hts (.fieldLink RX12 66 "TimeMachine" "fresh" "Z") (List.mem_of_getElem? (i := 1) rfl)) (fun _ h9 => h9) rfl (by decide +kernel) (by first | rfl | decide) rfl (Nat.le_of_ble_eq_true rfl) dX12_end_34 (fun H locs hP hD hS => ?_)
        obtain ⟨s5, es5, h⟩ := nd_let_e h
        have hP : va_P (dC, dI) vwCl (dw_X12 a ac s5) H := by rw [es5]; exact hP
        have hD : va_D A (dw_X12 a ac s5) := by rw [es5]; exact hD
        refine lv_aload_n hx hb dX12_end_37 rfl (lv_at hl 0 rfl) ?_
        refine va_get (D := (dC, dI)) (ci := 13) (v := .int (sI s5.1 0)) (C := RX12) (T := TX12) (N := 12) hx hb hts hi_dm_X12_end_X12 hown hK hP 0 rfl rfl 1 (by decide) (hts (.fieldLink RX12 58 "TimeMachine" "taped" "I") (List.mem_of_getElem? (i := 2) rfl)) (fun _ h9 => h9) rfl dX12_end_38 ?_
        exact K _ _ _ _ _ _ dX12_end_41 rfl (Option.some.inj h).symm hP hD hS
      · have h := nd_pos h c3
        exact (db_X12_end_17 C K)  s0 _ _ _ h hP hD hS (lv_sub hl [] rfl)
set_option maxHeartbeats 40000000 in
set_option maxRecDepth 100000 in
theorem dm_X12_end (l : Launch) (hlt : l.stackTraces = false) (dC : Nat → ClassId) (dI : Nat → Nat → Nat) (a : Nat → Nat) (ac : Nat → ClassId) (n : Nat) (v0 : Int32) (s0 : St × Rw × (St) × (St × (St)) × (St) × (St × (St × (St × (St)))) × (St) × (St) × (Nat → St) × (Nat → St) × (Nat → St × (St))) {r : Int32 × (St × Rw × (St) × (St × (St)) × (St) × (St × (St × (St × (St)))) × (St) × (St) × (Nat → St) × (Nat → St) × (Nat → St × (St)))} (h : df_X12_end n (a 15) (a 3) v0 s0 = some r) (sz : Nat) : Met l yX12_end ow_dm_X12_end ({ frames := 0, cells := 0, slots := 0, locals := 0 }) (va_Pc [.ref (a 0), .int v0] (fun U => U.heap.size = sz ∧ va_P (dC, dI) vwCl (dw_X12 a ac s0) U.heap ∧ va_K (dC, dI) vwCl (dk_X12 ac) U ∧ va_D (fun _ => True) (dw_X12 a ac s0) ∧ nv_E dI (va_A (dw_X12 a ac s0) sz) U)) (va_Qi (fun x _ => x = r.1) (fun (_ : Unit) t => va_P (dC, dI) vwCl (dw_X12 a ac r.2) t.heap ∧ va_K (dC, dI) vwCl (dk_X12 ac) t ∧ va_D (va_A (dw_X12 a ac s0) sz) (dw_X12 a ac r.2)) (va_A (dw_X12 a ac s0) sz)) 0 0 (va_A (dw_X12 a ac s0) sz) := by
  refine Met.ofW (cc := cX12_end) (maxL := 2) (ret := (some .int)) (by decide) rfl ?_
  intro p e s m args below meth c s₁ B hml hv
  obtain ⟨rfl, hsz, hP, hK, hD0, hN⟩ := hv
  have hx := B.exec
  have hb := B.bytes
  have hr := B.returns
  have hts := atoms_spec (ws := ow_dm_X12_end) B.pre
  have hown : s.vm.findClass RX12 = some m.cls := findClass_of_methodNamed B.named
  have hlocks := B.notSynchronized
  subst hsz
  have hD := hD0.self (sz := s.heap.size)
  generalize hAe : va_A (dw_X12 a ac s0) s.heap.size = A at hD hN ⊢
  have hA : ∀ q : Nat, s.heap.size ≤ q → A q := fun q h => by rw [← hAe]; exact Or.inr h
  have hl := lv_entry ([.ref (a 0), .int v0]) (n := 2) (Nat.le_of_ble_eq_true rfl)
  rw [lg_entry_eq]
  generalize (lg_sl ([.ref (a 0), .int v0]) ++ List.replicate (2 - (lg_sl ([.ref (a 0), .int v0])).length) Slot.unset).toArray = ls at hl ⊢
  have hl : lv_has ls 2 [(0, .ref (a 0)), (1, .int v0)] := hl
  exact db_X12_end_0 (dC := dC) (dI := dI) (a := a) (ac := ac) (n := n) (r := r) ⟨hlt, hx, hb, hml, hown, hts, hN, hA, hK⟩ (fun pc v τ H locs ls d z er hP hD hS => by subst er; exact W.zret (v := v) hx hb hr z (fun t ht hW => ⟨⟨v, (), rfl, rfl, by rw [ht]; exact hP, va_K.moved hW.alike hK, hD⟩, hS.F ht⟩) hS.2.2 d) v0 s0 _ _ _ h hP hD va_S.rf (lv_sub hl [0, 1] rfl)
def ow_dm_X12_isUsedProgram : List Cond := Cond.code yX12_isUsedProgram cX12_isUsedProgram 3 (some .boolean) :: ([Cond.fieldLink RX12 16 "TimeMachine" "programs" "[LTimeMachine$Program;", Cond.fieldLink RX12 33 "TimeMachine" "timeline" "LTimeMachine$Timeline;", Cond.fieldLink RX12 297 "TimeMachine$Timeline" "programs" "[LTimeMachine$Program;"] ++ (u_ws RX12 TX12 12 ++ (u_ws RX11 TX11 16 ++ [])))
theorem gd_dm_X12_isUsedProgram : ∀ w ∈ ow_dm_X12_isUsedProgram, (w.onTables && w.keeps) = true ∨ ∃ ty, w = Cond.arrayClass ty := List.forall_mem_cons.mpr ⟨good_of_word rfl, List.forall_mem_append.mpr ⟨fun w h => good_of_word (List.all_eq_true.mp (by decide +kernel) w h), List.forall_mem_append.mpr ⟨gu_X12, List.forall_mem_append.mpr ⟨gu_X11, fun _ h => nomatch h⟩⟩⟩⟩
theorem hi_dm_X12_isUsedProgram_X12 : ∀ w ∈ u_ws RX12 TX12 12, w ∈ ow_dm_X12_isUsedProgram := fun w h => List.mem_cons_of_mem _ (List.mem_append_right _ (List.mem_append_left _ h))
theorem hi_dm_X12_isUsedProgram_X11 : ∀ w ∈ u_ws RX11 TX11 16, w ∈ ow_dm_X12_isUsedProgram := fun w h => List.mem_cons_of_mem _ (List.mem_append_right _ (List.mem_append_right _ (List.mem_append_left _ h)))
def dj_X12_isUsedProgram_30 (p : Program) (l : Launch) (e : Env) (s : State) (m : MethodId) (args : Array Value) (below : List Frame) (meth : Method) (c : Code) (Q : State → Prop) (A : Nat → Prop) (dC : Nat → ClassId) (dI : Nat → Nat → Nat) (a : Nat → Nat) (ac : Nat → ClassId) (g : (St × Rw × (St) × (St × (St)) × (St) × (St × (St × (St × (St)))) × (St) × (St) × (Nat → St) × (Nat → St) × (Nat → St × (St))) → Option (Int32 × (St × Rw × (St) × (St × (St)) × (St) × (St × (St × (St × (St)))) × (St) × (St) × (Nat → St) × (Nat → St) × (Nat → St × (St))))) (r : Int32 × (St × Rw × (St) × (St × (St)) × (St) × (St × (St × (St × (St)))) × (St) × (St) × (Nat → St) × (Nat → St) × (Nat → St × (St)))) : Prop := ∀ (s0 : St × Rw × (St) × (St × (St)) × (St) × (St × (St × (St × (St)))) × (St) × (St) × (Nat → St) × (Nat → St) × (Nat → St × (St))) (H : Heap) (locs : List Loc) (ls : Array Slot), g s0 = some r → va_P (dC, dI) vwCl (dw_X12 a ac s0) H → va_D A (dw_X12 a ac s0) → va_S A s.heap H locs → lv_has ls 3 [] → W p l e (headSpec ow_dm_X12_isUsedProgram ({ frames := 0, cells := 0, slots := 0, locals := 0 })).room s m args below meth c H locs 0 0 Q (F0 m 30 ls [])
def dj_X12_isUsedProgram_2 (p : Program) (l : Launch) (e : Env) (s : State) (m : MethodId) (args : Array Value) (below : List Frame) (meth : Method) (c : Code) (Q : State → Prop) (A : Nat → Prop) (dC : Nat → ClassId) (dI : Nat → Nat → Nat) (a : Nat → Nat) (ac : Nat → ClassId) (g : Nat → Int32 → (St × Rw × (St) × (St × (St)) × (St) × (St × (St × (St × (St)))) × (St) × (St) × (Nat → St) × (Nat → St) × (Nat → St × (St))) → Option (Int32 × (St × Rw × (St) × (St × (St)) × (St) × (St × (St × (St × (St)))) × (St) × (St) × (Nat → St) × (Nat → St) × (Nat → St × (St))))) (r : Int32 × (St × Rw × (St) × (St × (St)) × (St) × (St × (St × (St × (St)))) × (St) × (St) × (Nat → St) × (Nat → St) × (Nat → St × (St)))) : Prop := ∀ (x1 : Nat) (x2 : Int32) (s0 : St × Rw × (St) × (St × (St)) × (St) × (St × (St × (St × (St)))) × (St) × (St) × (Nat → St) × (Nat → St) × (Nat → St × (St))) (H : Heap) (locs : List Loc) (ls : Array Slot), g x1 x2 s0 = some r → va_P (dC, dI) vwCl (dw_X12 a ac s0) H → va_D A (dw_X12 a ac s0) → va_S A s.heap H locs → lv_has ls 3 [(0, .ref (a 0)), (1, .ref (a (0 + x1 * 5 + 57))), (2, .int x2)] → W p l e (headSpec ow_dm_X12_isUsedProgram ({ frames := 0, cells := 0, slots := 0, locals := 0 })).room s m args below meth c H locs 0 0 Q (F0 m 2 ls [])
def dj_X12_isUsedProgram_0 (p : Program) (l : Launch) (e : Env) (s : State) (m : MethodId) (args : Array Value) (below : List Frame) (meth : Method) (c : Code) (Q : State → Prop) (A : Nat → Prop) (dC : Nat → ClassId) (dI : Nat → Nat → Nat) (a : Nat → Nat) (ac : Nat → ClassId) (g : Nat → (St × Rw × (St) × (St × (St)) × (St) × (St × (St × (St × (St)))) × (St) × (St) × (Nat → St) × (Nat → St) × (Nat → St × (St))) → Option (Int32 × (St × Rw × (St) × (St × (St)) × (St) × (St × (St × (St × (St)))) × (St) × (St) × (Nat → St) × (Nat → St) × (Nat → St × (St))))) (r : Int32 × (St × Rw × (St) × (St × (St)) × (St) × (St × (St × (St × (St)))) × (St) × (St) × (Nat → St) × (Nat → St) × (Nat → St × (St)))) : Prop := ∀ (v0 : Nat) (s0 : St × Rw × (St) × (St × (St)) × (St) × (St × (St × (St × (St)))) × (St) × (St) × (Nat → St) × (Nat → St) × (Nat → St × (St))) (H : Heap) (locs : List Loc) (ls : Array Slot), g v0 s0 = some r → va_P (dC, dI) vwCl (dw_X12 a ac s0) H → va_D A (dw_X12 a ac s0) → va_S A s.heap H locs → lv_has ls 3 [(0, .ref (a 0)), (1, .ref (a (0 + v0 * 5 + 57)))] → W p l e (headSpec ow_dm_X12_isUsedProgram ({ frames := 0, cells := 0, slots := 0, locals := 0 })).room s m args below meth c H locs 0 0 Q (F0 m 0 ls [])
set_option maxHeartbeats 40000000 in
set_option maxRecDepth 100000 in
theorem db_X12_isUsedProgram_30 {p : Program} {l : Launch} {e : Env} {s : State} {m : MethodId} {args : Array Value} {below : List Frame} {meth : Method} {c : Code} {Q : State → Prop} {A : Nat → Prop} {dC : Nat → ClassId} {dI : Nat → Nat → Nat} {a : Nat → Nat} {ac : Nat → ClassId} {n : Nat} {r : Int32 × (St × Rw × (St) × (St × (St)) × (St) × (St × (St × (St × (St)))) × (St) × (St) × (Nat → St) × (Nat → St) × (Nat → St × (St)))} (C : nd_C p l s m args c A (dC, dI) cX12_isUsedProgram 3 RX12 ow_dm_X12_isUsedProgram (dk_X12 ac)) (K : nd_Ki p l e (headSpec ow_dm_X12_isUsedProgram ({ frames := 0, cells := 0, slots := 0, locals := 0 })).room s m args below meth c Q A (dC, dI) cX12_isUsedProgram .boolean (St × Rw × (St) × (St × (St)) × (St) × (St × (St × (St × (St)))) × (St) × (St) × (Nat → St) × (Nat → St) × (Nat → St × (St))) (dw_X12 a ac) r) : dj_X12_isUsedProgram_30 p l e s m args below meth c Q A dC dI a ac (df_X12_isUsedProgram_30 n (a 15) (a 3)) r := by
  obtain ⟨hlt, hx, hb, hml, hown, hts, hN, hA, hK⟩ := id C
  intro s0 H locs ls h hP hD hS hl
  unfold df_X12_isUsedProgram_30 at h
  refine lv_iconst (v := 1) hx hb dX12_isUsedProgram_30 (by decide) ?_
  exact K _ _ _ _ _ _ dX12_isUsedProgram_31 (by first | rfl | decide) (Option.some.inj h).symm hP hD hS
set_option maxHeartbeats 40000000 in
set_option maxRecDepth 100000 in
theorem dB_X12_isUsedProgram_2 {p : Program} {l : Launch} {e : Env} {s : State} {m : MethodId} {args : Array Value} {below : List Frame} {meth : Method} {c : Code} {Q : State → Prop} {A : Nat → Prop} {dC : Nat → ClassId} {dI : Nat → Nat → Nat} {a : Nat → Nat} {ac : Nat → ClassId} {n : Nat} {r : Int32 × (St × Rw × (St) × (St × (St)) × (St) × (St × (St × (St × (St)))) × (St) × (St) × (Nat → St) × (Nat → St) × (Nat → St × (St)))} (C : nd_C p l s m args c A (dC, dI) cX12_isUsedProgram 3 RX12 ow_dm_X12_isUsedProgram (dk_X12 ac)) (K : nd_Ki p l e (headSpec ow_dm_X12_isUsedProgram ({ frames := 0, cells := 0, slots := 0, locals := 0 })).room s m args below meth c Q A (dC, dI) cX12_isUsedProgram .boolean (St × Rw × (St) × (St × (St)) × (St) × (St × (St × (St × (St)))) × (St) × (St) × (Nat → St) × (Nat → St) × (Nat → St × (St))) (dw_X12 a ac) r) {g2 : Nat → Int32 → (St × Rw × (St) × (St × (St)) × (St) × (St × (St × (St × (St)))) × (St) × (St) × (Nat → St) × (Nat → St) × (Nat → St × (St))) → Option (Int32 × (St × Rw × (St) × (St × (St)) × (St) × (St × (St × (St × (St)))) × (St) × (St) × (Nat → St) × (Nat → St) × (Nat → St × (St))))} (J2 : dj_X12_isUsedProgram_2 p l e s m args below meth c Q A dC dI a ac g2 r) : dj_X12_isUsedProgram_2 p l e s m args below meth c Q A dC dI a ac (dF_X12_isUsedProgram_2 n (a 15) (a 3) g2) r := by
  obtain ⟨hlt, hx, hb, hml, hown, hts, hN, hA, hK⟩ := id C
  intro x1 x2 s0 H locs ls h hP hD hS hl
  unfold dF_X12_isUsedProgram_2 at h
  refine lv_iload_n hx hb dX12_isUsedProgram_2 rfl (lv_at hl 2 rfl) ?_
  refine lv_iconst (v := 4) hx hb dX12_isUsedProgram_3 (by decide) ?_
  refine lv_icmp_ge (tgt := 38) hx hb dX12_isUsedProgram_4 (by decide) (fun c1 => ?_) (fun c1 => ?_)
  · have h := nd_pos h c1
    refine lv_iconst (v := 0) hx hb dX12_isUsedProgram_38 (by decide) ?_
    exact K _ _ _ _ _ _ dX12_isUsedProgram_39 (by first | rfl | decide) (Option.some.inj h).symm hP hD hS
  · have h := nd_neg h c1
    refine lv_aload_n hx hb dX12_isUsedProgram_7 rfl (lv_at hl 0 rfl) ?_
    refine va_get (D := (dC, dI)) (ci := 13) (v := .ref (a 54)) (C := RX12) (T := TX12) (N := 12) hx hb hts hi_dm_X12_isUsedProgram_X12 hown hK hP 0 rfl rfl 3 (by decide) (hts (.fieldLink RX12 16 "TimeMachine" "programs" "[LTimeMachine$Program;") (List.mem_of_getElem? (i := 1) rfl)) (fun _ h9 => h9) rfl dX12_isUsedProgram_8 ?_
    refine lv_iload_n hx hb dX12_isUsedProgram_11 rfl (lv_at hl 2 rfl) ?_
    obtain ⟨i2, h⟩ := nd_ck_e h
    refine va_aldq (i := x2) hx hb hK hP 54 44 rfl rfl i2 dX12_isUsedProgram_12 ?_
    cases hrj3 : s0.2.1 1 (Int32.toNatClampNeg x2) with
    | none =>
      have h := nd_mN h hrj3
      refine W.eq (g2 := F0 m 13 ls [.null]) (by first | rfl | (show F0 m _ ls (va_rf (Option.map (fun j => a (0 + j * 5 + 57)) (s0.2.1 1 (Int32.toNatClampNeg x2))) :: _) = _; rw [hrj3]; rfl)) ?_
      refine lv_aload_n hx hb dX12_isUsedProgram_13 rfl (lv_at hl 1 rfl) ?_
      refine W.eq (g2 := F0 m 14 ls [va_rf (some (a (0 + x1 * 5 + 57))), va_rf (none)]) rfl ?_
      refine lv_acmp_eq (tgt := 30) hx hb dX12_isUsedProgram_14 (by decide) (fun h9 => absurd h9 (by simp)) (fun _ => ?_)
      refine lv_aload_n hx hb dX12_isUsedProgram_17 rfl (lv_at hl 0 rfl) ?_
      refine va_get (D := (dC, dI)) (ci := 13) (v := .ref (a 16)) (C := RX12) (T := TX12) (N := 12) hx hb hts hi_dm_X12_isUsedProgram_X12 hown hK hP 0 rfl rfl 6 (by decide) (hts (.fieldLink RX12 33 "TimeMachine" "timeline" "LTimeMachine$Timeline;") (List.mem_of_getElem? (i := 2) rfl)) (fun _ h9 => h9) rfl dX12_isUsedProgram_18 ?_
      refine va_get (D := (dC, dI)) (ci := 12) (v := .ref (a 53)) (C := RX11) (T := TX11) (N := 16) hx hb hts hi_dm_X12_isUsedProgram_X11 hown hK hP 16 rfl rfl 0 (by decide) (hts (.fieldLink RX12 297 "TimeMachine$Timeline" "programs" "[LTimeMachine$Program;") (List.mem_of_getElem? (i := 3) rfl)) (fun _ h9 => h9) rfl dX12_isUsedProgram_21 ?_
      refine lv_iload_n hx hb dX12_isUsedProgram_24 rfl (lv_at hl 2 rfl) ?_
      obtain ⟨i4, h⟩ := nd_ck_e h
      refine va_aldq (i := x2) hx hb hK hP 53 43 rfl rfl i4 dX12_isUsedProgram_25 ?_
      cases hrj5 : s0.2.1 0 (Int32.toNatClampNeg x2) with
      | none =>
        have h := nd_mN h hrj5
        refine W.eq (g2 := F0 m 26 ls [.null]) (by first | rfl | (show F0 m _ ls (va_rf (Option.map (fun j => a (0 + j * 5 + 57)) (s0.2.1 0 (Int32.toNatClampNeg x2))) :: _) = _; rw [hrj5]; rfl)) ?_
        refine lv_aload_n hx hb dX12_isUsedProgram_26 rfl (lv_at hl 1 rfl) ?_
        refine W.eq (g2 := F0 m 27 ls [va_rf (some (a (0 + x1 * 5 + 57))), va_rf (none)]) rfl ?_
        refine lv_acmp_ne (tgt := 32) hx hb dX12_isUsedProgram_27 (by decide) (fun _ => ?_) (fun h9 => absurd h9 (by simp))
        obtain ⟨z6, ez6, h⟩ := nd_let_e h
        refine lv_iinc (v := z6) (lv' := [(2, .int z6), (0, .ref (a 0)), (1, .ref (a (0 + x1 * 5 + 57)))]) hx hb dX12_isUsedProgram_32 hl (k := 2) rfl (by rw [ez6]) (by decide) rfl (fun ls hl => ?_)
        refine lv_goto (tgt := 2) hx hb dX12_isUsedProgram_35 (by decide) ?_
        exact (J2) (x1) (z6) s0 _ _ _ h hP hD hS (lv_sub hl [1, 2, 0] rfl)
      | some j5 =>
        have h := nd_mS h hrj5
        refine W.eq (g2 := F0 m 26 ls [.ref (a (0 + j5 * 5 + 57))]) (by first | rfl | (show F0 m _ ls (va_rf (Option.map (fun j => a (0 + j * 5 + 57)) (s0.2.1 0 (Int32.toNatClampNeg x2))) :: _) = _; rw [hrj5]; rfl)) ?_
        refine lv_aload_n hx hb dX12_isUsedProgram_26 rfl (lv_at hl 1 rfl) ?_
        refine W.eq (g2 := F0 m 27 ls [va_rf (some (a (0 + x1 * 5 + 57))), va_rf (some (a (0 + j5 * 5 + 57)))]) rfl ?_
        obtain ⟨l7, h⟩ := nd_lt_e h
        obtain ⟨l8, h⟩ := nd_lt_e h
        refine lv_acmp_ne (tgt := 32) hx hb dX12_isUsedProgram_27 (by decide) (fun c9 => ?_) (fun c9 => ?_)
        · have c9 : ¬ j5 = x1 := fun e9 => c9 (by rw [e9])
          have h := nd_neg h c9
          obtain ⟨z10, ez10, h⟩ := nd_let_e h
          refine lv_iinc (v := z10) (lv' := [(2, .int z10), (0, .ref (a 0)), (1, .ref (a (0 + x1 * 5 + 57)))]) hx hb dX12_isUsedProgram_32 hl (k := 2) rfl (by rw [ez10]) (by decide) rfl (fun ls hl => ?_)
          refine lv_goto (tgt := 2) hx hb dX12_isUsedProgram_35 (by decide) ?_
          exact (J2) (x1) (z10) s0 _ _ _ h hP hD hS (lv_sub hl [1, 2, 0] rfl)
        · have c9 : j5 = x1 := di_X12_P8 l7 l8 hD (Option.some.inj c9)
          have h := nd_pos h c9
          exact (db_X12_isUsedProgram_30 C K)  s0 _ _ _ h hP hD hS (lv_sub hl [] rfl)
    | some j3 =>
      have h := nd_mS h hrj3
      refine W.eq (g2 := F0 m 13 ls [.ref (a (0 + j3 * 5 + 57))]) (by first | rfl | (show F0 m _ ls (va_rf (Option.map (fun j => a (0 + j * 5 + 57)) (s0.2.1 1 (Int32.toNatClampNeg x2))) :: _) = _; rw [hrj3]; rfl)) ?_
      refine lv_aload_n hx hb dX12_isUsedProgram_13 rfl (lv_at hl 1 rfl) ?_
      refine W.eq (g2 := F0 m 14 ls [va_rf (some (a (0 + x1 * 5 + 57))), va_rf (some (a (0 + j3 * 5 + 57)))]) rfl ?_
      obtain ⟨l11, h⟩ := nd_lt_e h
      obtain ⟨l12, h⟩ := nd_lt_e h
      refine lv_acmp_eq (tgt := 30) hx hb dX12_isUsedProgram_14 (by decide) (fun c13 => ?_) (fun c13 => ?_)
      · have c13 : j3 = x1 := di_X12_P8 l11 l12 hD (Option.some.inj c13)
        have h := nd_pos h c13
        exact (db_X12_isUsedProgram_30 C K)  s0 _ _ _ h hP hD hS (lv_sub hl [] rfl)
      · have c13 : ¬ j3 = x1 := fun e9 => c13 (by rw [e9])
        have h := nd_neg h c13
        refine lv_aload_n hx hb dX12_isUsedProgram_17 rfl (lv_at hl 0 rfl) ?_
        refine va_get (D := (dC, dI)) (ci := 13) (v := .ref (a 16)) (C := RX12) (T := TX12) (N := 12) hx hb hts hi_dm_X12_isUsedProgram_X12 hown hK hP 0 rfl rfl 6 (by decide) (hts (.fieldLink RX12 33 "TimeMachine" "timeline" "LTimeMachine$Timeline;") (List.mem_of_getElem? (i := 2) rfl)) (fun _ h9 => h9) rfl dX12_isUsedProgram_18 ?_
        refine va_get (D := (dC, dI)) (ci := 12) (v := .ref (a 53)) (C := RX11) (T := TX11) (N := 16) hx hb hts hi_dm_X12_isUsedProgram_X11 hown hK hP 16 rfl rfl 0 (by decide) (hts (.fieldLink RX12 297 "TimeMachine$Timeline" "programs" "[LTimeMachine$Program;") (List.mem_of_getElem? (i := 3) rfl)) (fun _ h9 => h9) rfl dX12_isUsedProgram_21 ?_
        refine lv_iload_n hx hb dX12_isUsedProgram_24 rfl (lv_at hl 2 rfl) ?_
        obtain ⟨i14, h⟩ := nd_ck_e h
        refine va_aldq (i := x2) hx hb hK hP 53 43 rfl rfl i14 dX12_isUsedProgram_25 ?_
        cases hrj15 : s0.2.1 0 (Int32.toNatClampNeg x2) with
        | none =>
          have h := nd_mN h hrj15
          refine W.eq (g2 := F0 m 26 ls [.null]) (by first | rfl | (show F0 m _ ls (va_rf (Option.map (fun j => a (0 + j * 5 + 57)) (s0.2.1 0 (Int32.toNatClampNeg x2))) :: _) = _; rw [hrj15]; rfl)) ?_
          refine lv_aload_n hx hb dX12_isUsedProgram_26 rfl (lv_at hl 1 rfl) ?_
          refine W.eq (g2 := F0 m 27 ls [va_rf (some (a (0 + x1 * 5 + 57))), va_rf (none)]) rfl ?_
          refine lv_acmp_ne (tgt := 32) hx hb dX12_isUsedProgram_27 (by decide) (fun _ => ?_) (fun h9 => absurd h9 (by simp))
          obtain ⟨z16, ez16, h⟩ := nd_let_e h
          refine lv_iinc (v := z16) (lv' := [(2, .int z16), (0, .ref (a 0)), (1, .ref (a (0 + x1 * 5 + 57)))]) hx hb dX12_isUsedProgram_32 hl (k := 2) rfl (by rw [ez16]) (by decide) rfl (fun ls hl => ?_)
          refine lv_goto (tgt := 2) hx hb dX12_isUsedProgram_35 (by decide) ?_
          exact (J2) (x1) (z16) s0 _ _ _ h hP hD hS (lv_sub hl [1, 2, 0] rfl)
        | some j15 =>
          have h := nd_mS h hrj15
          refine W.eq (g2 := F0 m 26 ls [.ref (a (0 + j15 * 5 + 57))]) (by first | rfl | (show F0 m _ ls (va_rf (Option.map (fun j => a (0 + j * 5 + 57)) (s0.2.1 0 (Int32.toNatClampNeg x2))) :: _) = _; rw [hrj15]; rfl)) ?_
          refine lv_aload_n hx hb dX12_isUsedProgram_26 rfl (lv_at hl 1 rfl) ?_
          refine W.eq (g2 := F0 m 27 ls [va_rf (some (a (0 + x1 * 5 + 57))), va_rf (some (a (0 + j15 * 5 + 57)))]) rfl ?_
          obtain ⟨l17, h⟩ := nd_lt_e h
          refine lv_acmp_ne (tgt := 32) hx hb dX12_isUsedProgram_27 (by decide) (fun c18 => ?_) (fun c18 => ?_)
          · have c18 : ¬ j15 = x1 := fun e9 => c18 (by rw [e9])
            have h := nd_neg h c18
            obtain ⟨z19, ez19, h⟩ := nd_let_e h
            refine lv_iinc (v := z19) (lv' := [(2, .int z19), (0, .ref (a 0)), (1, .ref (a (0 + x1 * 5 + 57)))]) hx hb dX12_isUsedProgram_32 hl (k := 2) rfl (by rw [ez19]) (by decide) rfl (fun ls hl => ?_)
            refine lv_goto (tgt := 2) hx hb dX12_isUsedProgram_35 (by decide) ?_
            exact (J2) (x1) (z19) s0 _ _ _ h hP hD hS (lv_sub hl [1, 2, 0] rfl)
          · have c18 : j15 = x1 := di_X12_P8 l17 l12 hD (Option.some.inj c18)
            have h := nd_pos h c18
            exact (db_X12_isUsedProgram_30 C K)  s0 _ _ _ h hP hD hS (lv_sub hl [] rfl)
set_option maxHeartbeats 40000000 in
set_option maxRecDepth 100000 in
theorem db_X12_isUsedProgram_2 {p : Program} {l : Launch} {e : Env} {s : State} {m : MethodId} {args : Array Value} {below : List Frame} {meth : Method} {c : Code} {Q : State → Prop} {A : Nat → Prop} {dC : Nat → ClassId} {dI : Nat → Nat → Nat} {a : Nat → Nat} {ac : Nat → ClassId} {n : Nat} {r : Int32 × (St × Rw × (St) × (St × (St)) × (St) × (St × (St × (St × (St)))) × (St) × (St) × (Nat → St) × (Nat → St) × (Nat → St × (St)))} (C : nd_C p l s m args c A (dC, dI) cX12_isUsedProgram 3 RX12 ow_dm_X12_isUsedProgram (dk_X12 ac)) (K : nd_Ki p l e (headSpec ow_dm_X12_isUsedProgram ({ frames := 0, cells := 0, slots := 0, locals := 0 })).room s m args below meth c Q A (dC, dI) cX12_isUsedProgram .boolean (St × Rw × (St) × (St × (St)) × (St) × (St × (St × (St × (St)))) × (St) × (St) × (Nat → St) × (Nat → St) × (Nat → St × (St))) (dw_X12 a ac) r) (k : Nat) : dj_X12_isUsedProgram_2 p l e s m args below meth c Q A dC dI a ac (df_X12_isUsedProgram_2 n (a 15) (a 3) k) r := by
  induction k with
  | zero => intro x1 x2 s0 H locs ls h; exact nomatch (show (none : Option (Int32 × (St × Rw × (St) × (St × (St)) × (St) × (St × (St × (St × (St)))) × (St) × (St) × (Nat → St) × (Nat → St) × (Nat → St × (St))))) = some r from h)
  | succ k ih => exact dB_X12_isUsedProgram_2 C K ih
set_option maxHeartbeats 40000000 in
set_option maxRecDepth 100000 in
theorem db_X12_isUsedProgram_0 {p : Program} {l : Launch} {e : Env} {s : State} {m : MethodId} {args : Array Value} {below : List Frame} {meth : Method} {c : Code} {Q : State → Prop} {A : Nat → Prop} {dC : Nat → ClassId} {dI : Nat → Nat → Nat} {a : Nat → Nat} {ac : Nat → ClassId} {n : Nat} {r : Int32 × (St × Rw × (St) × (St × (St)) × (St) × (St × (St × (St × (St)))) × (St) × (St) × (Nat → St) × (Nat → St) × (Nat → St × (St)))} (C : nd_C p l s m args c A (dC, dI) cX12_isUsedProgram 3 RX12 ow_dm_X12_isUsedProgram (dk_X12 ac)) (K : nd_Ki p l e (headSpec ow_dm_X12_isUsedProgram ({ frames := 0, cells := 0, slots := 0, locals := 0 })).room s m args below meth c Q A (dC, dI) cX12_isUsedProgram .boolean (St × Rw × (St) × (St × (St)) × (St) × (St × (St × (St × (St)))) × (St) × (St) × (Nat → St) × (Nat → St) × (Nat → St × (St))) (dw_X12 a ac) r) : dj_X12_isUsedProgram_0 p l e s m args below meth c Q A dC dI a ac (df_X12_isUsedProgram_0 n (a 15) (a 3)) r := by
  obtain ⟨hlt, hx, hb, hml, hown, hts, hN, hA, hK⟩ := id C
  intro v0 s0 H locs ls h hP hD hS hl
  unfold df_X12_isUsedProgram_0 at h
  refine lv_iconst (v := 0) hx hb dX12_isUsedProgram_0 (by decide) ?_
  refine lv_istore_n (lv' := [(2, .int 0), (0, .ref (a 0)), (1, .ref (a (0 + v0 * 5 + 57)))]) hx hb dX12_isUsedProgram_1 rfl hl (by decide) rfl (fun ls hl => ?_)
  exact (db_X12_isUsedProgram_2 C K n) (v0) (0) s0 _ _ _ h hP hD hS (lv_sub hl [1, 2, 0] rfl)
set_option maxHeartbeats 40000000 in
set_option maxRecDepth 100000 in
theorem dm_X12_isUsedProgram (l : Launch) (hlt : l.stackTraces = false) (dC : Nat → ClassId) (dI : Nat → Nat → Nat) (a : Nat → Nat) (ac : Nat → ClassId) (n : Nat) (v0 : Nat) (s0 : St × Rw × (St) × (St × (St)) × (St) × (St × (St × (St × (St)))) × (St) × (St) × (Nat → St) × (Nat → St) × (Nat → St × (St))) {r : Int32 × (St × Rw × (St) × (St × (St)) × (St) × (St × (St × (St × (St)))) × (St) × (St) × (Nat → St) × (Nat → St) × (Nat → St × (St)))} (h : df_X12_isUsedProgram n (a 15) (a 3) v0 s0 = some r) (sz : Nat) : Met l yX12_isUsedProgram ow_dm_X12_isUsedProgram ({ frames := 0, cells := 0, slots := 0, locals := 0 }) (va_Pc [.ref (a 0), .ref (a (0 + v0 * 5 + 57))] (fun U => U.heap.size = sz ∧ va_P (dC, dI) vwCl (dw_X12 a ac s0) U.heap ∧ va_K (dC, dI) vwCl (dk_X12 ac) U ∧ va_D (fun _ => True) (dw_X12 a ac s0) ∧ nv_E dI (va_A (dw_X12 a ac s0) sz) U)) (va_Qi (fun x _ => x = r.1) (fun (_ : Unit) t => va_P (dC, dI) vwCl (dw_X12 a ac r.2) t.heap ∧ va_K (dC, dI) vwCl (dk_X12 ac) t ∧ va_D (va_A (dw_X12 a ac s0) sz) (dw_X12 a ac r.2)) (va_A (dw_X12 a ac s0) sz)) 0 0 (va_A (dw_X12 a ac s0) sz) := by
  refine Met.ofW (cc := cX12_isUsedProgram) (maxL := 3) (ret := (some .boolean)) (by decide) rfl ?_
  intro p e s m args below meth c s₁ B hml hv
  obtain ⟨rfl, hsz, hP, hK, hD0, hN⟩ := hv
  have hx := B.exec
  have hb := B.bytes
  have hr := B.returns
  have hts := atoms_spec (ws := ow_dm_X12_isUsedProgram) B.pre
  have hown : s.vm.findClass RX12 = some m.cls := findClass_of_methodNamed B.named
  have hlocks := B.notSynchronized
  subst hsz
  have hD := hD0.self (sz := s.heap.size)
  generalize hAe : va_A (dw_X12 a ac s0) s.heap.size = A at hD hN ⊢
  have hA : ∀ q : Nat, s.heap.size ≤ q → A q := fun q h => by rw [← hAe]; exact Or.inr h
  have hl := lv_entry ([.ref (a 0), .ref (a (0 + v0 * 5 + 57))]) (n := 3) (Nat.le_of_ble_eq_true rfl)
  rw [lg_entry_eq]
  generalize (lg_sl ([.ref (a 0), .ref (a (0 + v0 * 5 + 57))]) ++ List.replicate (3 - (lg_sl ([.ref (a 0), .ref (a (0 + v0 * 5 + 57))])).length) Slot.unset).toArray = ls at hl ⊢
  have hl : lv_has ls 3 [(0, .ref (a 0)), (1, .ref (a (0 + v0 * 5 + 57)))] := hl
  exact db_X12_isUsedProgram_0 (dC := dC) (dI := dI) (a := a) (ac := ac) (n := n) (r := r) ⟨hlt, hx, hb, hml, hown, hts, hN, hA, hK⟩ (fun pc v τ H locs ls d z er hP hD hS => by subst er; exact W.zret (v := v) hx hb hr z (fun t ht hW => ⟨⟨v, (), rfl, rfl, by rw [ht]; exact hP, va_K.moved hW.alike hK, hD⟩, hS.F ht⟩) hS.2.2 d) v0 s0 _ _ _ h hP hD va_S.rf (lv_sub hl [0, 1] rfl)
def ow_dm_X12_unusedProgram : List Cond := Cond.code yX12_unusedProgram cX12_unusedProgram 2 (some (.object "TimeMachine$Program")) :: ([Cond.fieldLink RX12 20 "TimeMachine" "programPool" "[LTimeMachine$Program;", Cond.methodLink RX12 293 yX12_isUsedProgram, Cond.instanceMethod yX12_isUsedProgram, Cond.selects RX12 yX12_isUsedProgram yX12_isUsedProgram, Cond.initialized RX12] ++ (u_ws RX12 TX12 12 ++ (ow_dm_X12_isUsedProgram ++ [])))
theorem gd_dm_X12_unusedProgram : ∀ w ∈ ow_dm_X12_unusedProgram, (w.onTables && w.keeps) = true ∨ ∃ ty, w = Cond.arrayClass ty := List.forall_mem_cons.mpr ⟨good_of_word rfl, List.forall_mem_append.mpr ⟨fun w h => good_of_word (List.all_eq_true.mp (by decide +kernel) w h), List.forall_mem_append.mpr ⟨gu_X12, List.forall_mem_append.mpr ⟨gd_dm_X12_isUsedProgram, fun _ h => nomatch h⟩⟩⟩⟩
theorem hi_dm_X12_unusedProgram_X12 : ∀ w ∈ u_ws RX12 TX12 12, w ∈ ow_dm_X12_unusedProgram := fun w h => List.mem_cons_of_mem _ (List.mem_append_right _ (List.mem_append_left _ h))
theorem gi_dm_X12_unusedProgram_0 : GoodIn ow_dm_X12_unusedProgram (wsV RX12 293 RX12 yX12_isUsedProgram ow_dm_X12_isUsedProgram) := goodIn_app (goodIn_of _ (by decide +kernel)) (fun w h => ⟨List.mem_cons_of_mem _ (List.mem_append_right _ (List.mem_append_right _ (List.mem_append_left _ h))), gd_dm_X12_isUsedProgram w h⟩)
def dj_X12_unusedProgram_32 (p : Program) (l : Launch) (e : Env) (s : State) (m : MethodId) (args : Array Value) (below : List Frame) (meth : Method) (c : Code) (Q : State → Prop) (A : Nat → Prop) (dC : Nat → ClassId) (dI : Nat → Nat → Nat) (a : Nat → Nat) (ac : Nat → ClassId) (g : Int32 → (St × Rw × (St) × (St × (St)) × (St) × (St × (St × (St × (St)))) × (St) × (St) × (Nat → St) × (Nat → St) × (Nat → St × (St))) → Option (Option Nat × (St × Rw × (St) × (St × (St)) × (St) × (St × (St × (St × (St)))) × (St) × (St) × (Nat → St) × (Nat → St) × (Nat → St × (St))))) (r : Option Nat × (St × Rw × (St) × (St × (St)) × (St) × (St × (St × (St × (St)))) × (St) × (St) × (Nat → St) × (Nat → St) × (Nat → St × (St)))) : Prop := ∀ (x1 : Int32) (s0 : St × Rw × (St) × (St × (St)) × (St) × (St × (St × (St × (St)))) × (St) × (St) × (Nat → St) × (Nat → St) × (Nat → St × (St))) (H : Heap) (locs : List Loc) (ls : Array Slot), g x1 s0 = some r → va_P (dC, dI) vwCl (dw_X12 a ac s0) H → va_D A (dw_X12 a ac s0) → va_S A s.heap H locs → lv_has ls 2 [(0, .ref (a 0)), (1, .int x1)] → W p l e (headSpec ow_dm_X12_unusedProgram ({ frames := 1, cells := 0, slots := 0, locals := 22 })).room s m args below meth c H locs 0 0 Q (F0 m 32 ls [])
def dj_X12_unusedProgram_2 (p : Program) (l : Launch) (e : Env) (s : State) (m : MethodId) (args : Array Value) (below : List Frame) (meth : Method) (c : Code) (Q : State → Prop) (A : Nat → Prop) (dC : Nat → ClassId) (dI : Nat → Nat → Nat) (a : Nat → Nat) (ac : Nat → ClassId) (g : Int32 → (St × Rw × (St) × (St × (St)) × (St) × (St × (St × (St × (St)))) × (St) × (St) × (Nat → St) × (Nat → St) × (Nat → St × (St))) → Option (Option Nat × (St × Rw × (St) × (St × (St)) × (St) × (St × (St × (St × (St)))) × (St) × (St) × (Nat → St) × (Nat → St) × (Nat → St × (St))))) (r : Option Nat × (St × Rw × (St) × (St × (St)) × (St) × (St × (St × (St × (St)))) × (St) × (St) × (Nat → St) × (Nat → St) × (Nat → St × (St)))) : Prop := ∀ (x1 : Int32) (s0 : St × Rw × (St) × (St × (St)) × (St) × (St × (St × (St × (St)))) × (St) × (St) × (Nat → St) × (Nat → St) × (Nat → St × (St))) (H : Heap) (locs : List Loc) (ls : Array Slot), g x1 s0 = some r → va_P (dC, dI) vwCl (dw_X12 a ac s0) H → va_D A (dw_X12 a ac s0) → va_S A s.heap H locs → lv_has ls 2 [(0, .ref (a 0)), (1, .int x1)] → W p l e (headSpec ow_dm_X12_unusedProgram ({ frames := 1, cells := 0, slots := 0, locals := 22 })).room s m args below meth c H locs 0 0 Q (F0 m 2 ls [])
def dj_X12_unusedProgram_0 (p : Program) (l : Launch) (e : Env) (s : State) (m : MethodId) (args : Array Value) (below : List Frame) (meth : Method) (c : Code) (Q : State → Prop) (A : Nat → Prop) (dC : Nat → ClassId) (dI : Nat → Nat → Nat) (a : Nat → Nat) (ac : Nat → ClassId) (g : (St × Rw × (St) × (St × (St)) × (St) × (St × (St × (St × (St)))) × (St) × (St) × (Nat → St) × (Nat → St) × (Nat → St × (St))) → Option (Option Nat × (St × Rw × (St) × (St × (St)) × (St) × (St × (St × (St × (St)))) × (St) × (St) × (Nat → St) × (Nat → St) × (Nat → St × (St))))) (r : Option Nat × (St × Rw × (St) × (St × (St)) × (St) × (St × (St × (St × (St)))) × (St) × (St) × (Nat → St) × (Nat → St) × (Nat → St × (St)))) : Prop := ∀ (s0 : St × Rw × (St) × (St × (St)) × (St) × (St × (St × (St × (St)))) × (St) × (St) × (Nat → St) × (Nat → St) × (Nat → St × (St))) (H : Heap) (locs : List Loc) (ls : Array Slot), g s0 = some r → va_P (dC, dI) vwCl (dw_X12 a ac s0) H → va_D A (dw_X12 a ac s0) → va_S A s.heap H locs → lv_has ls 2 [(0, .ref (a 0))] → W p l e (headSpec ow_dm_X12_unusedProgram ({ frames := 1, cells := 0, slots := 0, locals := 22 })).room s m args below meth c H locs 0 0 Q (F0 m 0 ls [])
set_option maxHeartbeats 40000000 in
set_option maxRecDepth 100000 in
theorem db_X12_unusedProgram_32 {p : Program} {l : Launch} {e : Env} {s : State} {m : MethodId} {args : Array Value} {below : List Frame} {meth : Method} {c : Code} {Q : State → Prop} {A : Nat → Prop} {dC : Nat → ClassId} {dI : Nat → Nat → Nat} {a : Nat → Nat} {ac : Nat → ClassId} {n : Nat} {r : Option Nat × (St × Rw × (St) × (St × (St)) × (St) × (St × (St × (St × (St)))) × (St) × (St) × (Nat → St) × (Nat → St) × (Nat → St × (St)))} (C : nd_C p l s m args c A (dC, dI) cX12_unusedProgram 2 RX12 ow_dm_X12_unusedProgram (dk_X12 ac)) (K : nd_Kq p l e (headSpec ow_dm_X12_unusedProgram ({ frames := 1, cells := 0, slots := 0, locals := 22 })).room s m args below meth c Q A (dC, dI) cX12_unusedProgram (St × Rw × (St) × (St × (St)) × (St) × (St × (St × (St × (St)))) × (St) × (St) × (Nat → St) × (Nat → St) × (Nat → St × (St))) (dw_X12 a ac) (fun j => a (0 + j * 5 + 57)) r) : dj_X12_unusedProgram_32 p l e s m args below meth c Q A dC dI a ac (df_X12_unusedProgram_32 n (a 15) (a 3)) r := by
  obtain ⟨hlt, hx, hb, hml, hown, hts, hN, hA, hK⟩ := id C
  intro x1 s0 H locs ls h hP hD hS hl
  unfold df_X12_unusedProgram_32 at h
  refine lv_aload_n hx hb dX12_unusedProgram_32 rfl (lv_at hl 0 rfl) ?_
  refine va_get (D := (dC, dI)) (ci := 13) (v := .ref (a 1)) (C := RX12) (T := TX12) (N := 12) hx hb hts hi_dm_X12_unusedProgram_X12 hown hK hP 0 rfl rfl 4 (by decide) (hts (.fieldLink RX12 20 "TimeMachine" "programPool" "[LTimeMachine$Program;") (List.mem_of_getElem? (i := 1) rfl)) (fun _ h9 => h9) rfl dX12_unusedProgram_33 ?_
  refine lv_iload_n hx hb dX12_unusedProgram_36 rfl (lv_at hl 1 rfl) ?_
  obtain ⟨i3, h⟩ := nd_ck_e h
  refine va_aldq (i := x1) hx hb hK hP 1 0 rfl rfl i3 dX12_unusedProgram_37 ?_
  cases hrj4 : s0.2.1 4 (Int32.toNatClampNeg x1) with
  | none =>
    have h := nd_mN h hrj4
    refine W.eq (g2 := F0 m 38 ls [.null]) (by first | rfl | (show F0 m _ ls (va_rf (Option.map (fun j => a (0 + j * 5 + 57)) (s0.2.1 4 (Int32.toNatClampNeg x1))) :: _) = _; rw [hrj4]; rfl)) ?_
    exact K _ none _ _ _ _ dX12_unusedProgram_38 (Option.some.inj h).symm hP hD hS
  | some j4 =>
    have h := nd_mS h hrj4
    refine W.eq (g2 := F0 m 38 ls [.ref (a (0 + j4 * 5 + 57))]) (by first | rfl | (show F0 m _ ls (va_rf (Option.map (fun j => a (0 + j * 5 + 57)) (s0.2.1 4 (Int32.toNatClampNeg x1))) :: _) = _; rw [hrj4]; rfl)) ?_
    exact K _ (some j4) _ _ _ _ dX12_unusedProgram_38 (Option.some.inj h).symm hP hD hS
set_option maxHeartbeats 40000000 in
set_option maxRecDepth 100000 in
theorem dB_X12_unusedProgram_2 {p : Program} {l : Launch} {e : Env} {s : State} {m : MethodId} {args : Array Value} {below : List Frame} {meth : Method} {c : Code} {Q : State → Prop} {A : Nat → Prop} {dC : Nat → ClassId} {dI : Nat → Nat → Nat} {a : Nat → Nat} {ac : Nat → ClassId} {n : Nat} {r : Option Nat × (St × Rw × (St) × (St × (St)) × (St) × (St × (St × (St × (St)))) × (St) × (St) × (Nat → St) × (Nat → St) × (Nat → St × (St)))} (C : nd_C p l s m args c A (dC, dI) cX12_unusedProgram 2 RX12 ow_dm_X12_unusedProgram (dk_X12 ac)) (K : nd_Kq p l e (headSpec ow_dm_X12_unusedProgram ({ frames := 1, cells := 0, slots := 0, locals := 22 })).room s m args below meth c Q A (dC, dI) cX12_unusedProgram (St × Rw × (St) × (St × (St)) × (St) × (St × (St × (St × (St)))) × (St) × (St) × (Nat → St) × (Nat → St) × (Nat → St × (St))) (dw_X12 a ac) (fun j => a (0 + j * 5 + 57)) r) {g2 : Int32 → (St × Rw × (St) × (St × (St)) × (St) × (St × (St × (St × (St)))) × (St) × (St) × (Nat → St) × (Nat → St) × (Nat → St × (St))) → Option (Option Nat × (St × Rw × (St) × (St × (St)) × (St) × (St × (St × (St × (St)))) × (St) × (St) × (Nat → St) × (Nat → St) × (Nat → St × (St))))} (J2 : dj_X12_unusedProgram_2 p l e s m args below meth c Q A dC dI a ac g2 r) : dj_X12_unusedProgram_2 p l e s m args below meth c Q A dC dI a ac (dF_X12_unusedProgram_2 n (a 15) (a 3) g2) r := by
  obtain ⟨hlt, hx, hb, hml, hown, hts, hN, hA, hK⟩ := id C
  intro x1 s0 H locs ls h hP hD hS hl
  unfold dF_X12_unusedProgram_2 at h
  refine lv_iload_n hx hb dX12_unusedProgram_2 rfl (lv_at hl 1 rfl) ?_
  refine lv_aload_n hx hb dX12_unusedProgram_3 rfl (lv_at hl 0 rfl) ?_
  refine va_get (D := (dC, dI)) (ci := 13) (v := .ref (a 1)) (C := RX12) (T := TX12) (N := 12) hx hb hts hi_dm_X12_unusedProgram_X12 hown hK hP 0 rfl rfl 4 (by decide) (hts (.fieldLink RX12 20 "TimeMachine" "programPool" "[LTimeMachine$Program;") (List.mem_of_getElem? (i := 1) rfl)) (fun _ h9 => h9) rfl dX12_unusedProgram_4 ?_
  refine va_alen (v := 9) hx hb hK hP 1 0 rfl rfl (show Int32.ofNat 9 = 9 by decide) dX12_unusedProgram_7 ?_
  refine lv_iconst (v := 1) hx hb dX12_unusedProgram_8 (by decide) ?_
  refine lv_isub hx hb dX12_unusedProgram_9 ?_
  refine lv_topi (fun z1 ez1 => ?_)
  obtain rfl : z1 = 8 := ez1.trans (by decide)
  refine lv_icmp_ge (tgt := 32) hx hb dX12_unusedProgram_10 (by decide) (fun c2 => ?_) (fun c2 => ?_)
  · have h := nd_pos h c2
    exact (db_X12_unusedProgram_32 C K) (x1) s0 _ _ _ h hP hD hS (lv_sub hl [0, 1] rfl)
  · have h := nd_neg h c2
    refine lv_aload_n hx hb dX12_unusedProgram_13 rfl (lv_at hl 0 rfl) ?_
    refine lv_aload_n hx hb dX12_unusedProgram_14 rfl (lv_at hl 0 rfl) ?_
    refine va_get (D := (dC, dI)) (ci := 13) (v := .ref (a 1)) (C := RX12) (T := TX12) (N := 12) hx hb hts hi_dm_X12_unusedProgram_X12 hown hK hP 0 rfl rfl 4 (by decide) (hts (.fieldLink RX12 20 "TimeMachine" "programPool" "[LTimeMachine$Program;") (List.mem_of_getElem? (i := 1) rfl)) (fun _ h9 => h9) rfl dX12_unusedProgram_15 ?_
    refine lv_iload_n hx hb dX12_unusedProgram_18 rfl (lv_at hl 1 rfl) ?_
    obtain ⟨i5, h⟩ := nd_ck_e h
    refine va_aldq (i := x1) hx hb hK hP 1 0 rfl rfl i5 dX12_unusedProgram_19 ?_
    cases hrj6 : s0.2.1 4 (Int32.toNatClampNeg x1) with
    | none =>
      have h := nd_mN h hrj6
      refine W.eq (g2 := F0 m 20 ls [.null, .ref (a 0)]) (by first | rfl | (show F0 m _ ls (va_rf (Option.map (fun j => a (0 + j * 5 + 57)) (s0.2.1 4 (Int32.toNatClampNeg x1))) :: _) = _; rw [hrj6]; rfl)) ?_
      exact nomatch h
    | some j6 =>
      have h := nd_mS h hrj6
      refine W.eq (g2 := F0 m 20 ls [.ref (a (0 + j6 * 5 + 57)), .ref (a 0)]) (by first | rfl | (show F0 m _ ls (va_rf (Option.map (fun j => a (0 + j * 5 + 57)) (s0.2.1 4 (Int32.toNatClampNeg x1))) :: _) = _; rw [hrj6]; rfl)) ?_
      obtain ⟨q7, s8, hq, h⟩ := nd_b2_e h
      have hPc := hP
      have hDc := hD
      have hKc := hK
      have hFc := nd_rs hD hS hA
      refine nd_cVi (As := [.ref (a (0 + j6 * 5 + 57))]) (rest := []) (q := q7) (w' := dw_X12 a ac s8) ⟨hx, hb, hml, hown, hts⟩ (fun sz => dm_X12_isUsedProgram l hlt dC dI a ac n (j6) s0 hq sz) (cwV 1 hts gi_dm_X12_unusedProgram_0 rfl rfl rfl (by decide +kernel) ⟨Nat.le_of_ble_eq_true rfl, Nat.le_of_ble_eq_true rfl⟩) hPc hDc hKc hS hA hN (va_recv hKc hPc (ci := 13) (q0 := 0) rfl rfl) rfl hl.1 rfl (Nat.le_of_ble_eq_true rfl) dX12_unusedProgram_20 (fun H locs hP1 hD1 hk1 hS => ?_)
      have hP := hP1
      have hD := hD1.weaken (fun k q _ h => hFc q.1 h)
      refine lv_if_eq (tgt := 32) hx hb dX12_unusedProgram_23 (by decide) (fun c10 => ?_) (fun c10 => ?_)
      · have h := nd_pos h c10
        exact (db_X12_unusedProgram_32 C K) (x1) s8 _ _ _ h hP hD hS (lv_sub hl [0, 1] rfl)
      · have h := nd_neg h c10
        obtain ⟨z11, ez11, h⟩ := nd_let_e h
        refine lv_iinc (v := z11) (lv' := [(1, .int z11), (0, .ref (a 0))]) hx hb dX12_unusedProgram_26 hl (k := 1) rfl (by rw [ez11]) (by decide) rfl (fun ls hl => ?_)
        refine lv_goto (tgt := 2) hx hb dX12_unusedProgram_29 (by decide) ?_
        exact (J2) (z11) s8 _ _ _ h hP hD hS (lv_sub hl [1, 0] rfl)
set_option maxHeartbeats 40000000 in
set_option maxRecDepth 100000 in
theorem db_X12_unusedProgram_2 {p : Program} {l : Launch} {e : Env} {s : State} {m : MethodId} {args : Array Value} {below : List Frame} {meth : Method} {c : Code} {Q : State → Prop} {A : Nat → Prop} {dC : Nat → ClassId} {dI : Nat → Nat → Nat} {a : Nat → Nat} {ac : Nat → ClassId} {n : Nat} {r : Option Nat × (St × Rw × (St) × (St × (St)) × (St) × (St × (St × (St × (St)))) × (St) × (St) × (Nat → St) × (Nat → St) × (Nat → St × (St)))} (C : nd_C p l s m args c A (dC, dI) cX12_unusedProgram 2 RX12 ow_dm_X12_unusedProgram (dk_X12 ac)) (K : nd_Kq p l e (headSpec ow_dm_X12_unusedProgram ({ frames := 1, cells := 0, slots := 0, locals := 22 })).room s m args below meth c Q A (dC, dI) cX12_unusedProgram (St × Rw × (St) × (St × (St)) × (St) × (St × (St × (St × (St)))) × (St) × (St) × (Nat → St) × (Nat → St) × (Nat → St × (St))) (dw_X12 a ac) (fun j => a (0 + j * 5 + 57)) r) (k : Nat) : dj_X12_unusedProgram_2 p l e s m args below meth c Q A dC dI a ac (df_X12_unusedProgram_2 n (a 15) (a 3) k) r := by
  induction k with
  | zero => intro x1 s0 H locs ls h; exact nomatch (show (none : Option (Option Nat × (St × Rw × (St) × (St × (St)) × (St) × (St × (St × (St × (St)))) × (St) × (St) × (Nat → St) × (Nat → St) × (Nat → St × (St))))) = some r from h)
  | succ k ih => exact dB_X12_unusedProgram_2 C K ih
set_option maxHeartbeats 40000000 in
set_option maxRecDepth 100000 in
theorem db_X12_unusedProgram_0 {p : Program} {l : Launch} {e : Env} {s : State} {m : MethodId} {args : Array Value} {below : List Frame} {meth : Method} {c : Code} {Q : State → Prop} {A : Nat → Prop} {dC : Nat → ClassId} {dI : Nat → Nat → Nat} {a : Nat → Nat} {ac : Nat → ClassId} {n : Nat} {r : Option Nat × (St × Rw × (St) × (St × (St)) × (St) × (St × (St × (St × (St)))) × (St) × (St) × (Nat → St) × (Nat → St) × (Nat → St × (St)))} (C : nd_C p l s m args c A (dC, dI) cX12_unusedProgram 2 RX12 ow_dm_X12_unusedProgram (dk_X12 ac)) (K : nd_Kq p l e (headSpec ow_dm_X12_unusedProgram ({ frames := 1, cells := 0, slots := 0, locals := 22 })).room s m args below meth c Q A (dC, dI) cX12_unusedProgram (St × Rw × (St) × (St × (St)) × (St) × (St × (St × (St × (St)))) × (St) × (St) × (Nat → St) × (Nat → St) × (Nat → St × (St))) (dw_X12 a ac) (fun j => a (0 + j * 5 + 57)) r) : dj_X12_unusedProgram_0 p l e s m args below meth c Q A dC dI a ac (df_X12_unusedProgram_0 n (a 15) (a 3)) r := by
  obtain ⟨hlt, hx, hb, hml, hown, hts, hN, hA, hK⟩ := id C
  intro s0 H locs ls h hP hD hS hl
  unfold df_X12_unusedProgram_0 at h
  refine lv_iconst (v := 0) hx hb dX12_unusedProgram_0 (by decide) ?_
  refine lv_istore_n (lv' := [(1, .int 0), (0, .ref (a 0))]) hx hb dX12_unusedProgram_1 rfl hl (by decide) rfl (fun ls hl => ?_)
  exact (db_X12_unusedProgram_2 C K n) (0) s0 _ _ _ h hP hD hS (lv_sub hl [1, 0] rfl)
set_option maxHeartbeats 40000000 in
set_option maxRecDepth 100000 in
theorem dm_X12_unusedProgram (l : Launch) (hlt : l.stackTraces = false) (dC : Nat → ClassId) (dI : Nat → Nat → Nat) (a : Nat → Nat) (ac : Nat → ClassId) (n : Nat) (s0 : St × Rw × (St) × (St × (St)) × (St) × (St × (St × (St × (St)))) × (St) × (St) × (Nat → St) × (Nat → St) × (Nat → St × (St))) {r : Option Nat × (St × Rw × (St) × (St × (St)) × (St) × (St × (St × (St × (St)))) × (St) × (St) × (Nat → St) × (Nat → St) × (Nat → St × (St)))} (h : df_X12_unusedProgram n (a 15) (a 3) s0 = some r) (sz : Nat) : Met l yX12_unusedProgram ow_dm_X12_unusedProgram ({ frames := 1, cells := 0, slots := 0, locals := 22 }) (va_Pc [.ref (a 0)] (fun U => U.heap.size = sz ∧ va_P (dC, dI) vwCl (dw_X12 a ac s0) U.heap ∧ va_K (dC, dI) vwCl (dk_X12 ac) U ∧ va_D (fun _ => True) (dw_X12 a ac s0) ∧ nv_E dI (va_A (dw_X12 a ac s0) sz) U)) (va_Qq (fun x _ => x = Option.map (fun j => a (0 + j * 5 + 57)) r.1) (fun (_ : Unit) t => va_P (dC, dI) vwCl (dw_X12 a ac r.2) t.heap ∧ va_K (dC, dI) vwCl (dk_X12 ac) t ∧ va_D (va_A (dw_X12 a ac s0) sz) (dw_X12 a ac r.2)) (va_A (dw_X12 a ac s0) sz)) 0 0 (va_A (dw_X12 a ac s0) sz) := by
  refine Met.ofW (cc := cX12_unusedProgram) (maxL := 2) (ret := (some (.object "TimeMachine$Program"))) (by decide) rfl ?_
  intro p e s m args below meth c s₁ B hml hv
  obtain ⟨rfl, hsz, hP, hK, hD0, hN⟩ := hv
  have hx := B.exec
  have hb := B.bytes
  have hr := B.returns
  have hts := atoms_spec (ws := ow_dm_X12_unusedProgram) B.pre
  have hown : s.vm.findClass RX12 = some m.cls := findClass_of_methodNamed B.named
  have hlocks := B.notSynchronized
  subst hsz
  have hD := hD0.self (sz := s.heap.size)
  generalize hAe : va_A (dw_X12 a ac s0) s.heap.size = A at hD hN ⊢
  have hA : ∀ q : Nat, s.heap.size ≤ q → A q := fun q h => by rw [← hAe]; exact Or.inr h
  have hl := lv_entry ([.ref (a 0)]) (n := 2) (Nat.le_of_ble_eq_true rfl)
  rw [lg_entry_eq]
  generalize (lg_sl ([.ref (a 0)]) ++ List.replicate (2 - (lg_sl ([.ref (a 0)])).length) Slot.unset).toArray = ls at hl ⊢
  have hl : lv_has ls 2 [(0, .ref (a 0))] := hl
  exact db_X12_unusedProgram_0 (dC := dC) (dI := dI) (a := a) (ac := ac) (n := n) (r := r) ⟨hlt, hx, hb, hml, hown, hts, hN, hA, hK⟩ (fun pc o τ H locs ls d er hP hD hS => by subst er; exact W.aret (v := va_rf (Option.map (fun j => a (0 + j * 5 + 57)) o)) hx hb hr (by first | exact Or.inl ⟨_, rfl⟩ | exact Or.inr ⟨_, rfl⟩) (va_rf_or _) (fun t ht hW => ⟨⟨Option.map (fun j => a (0 + j * 5 + 57)) o, (), rfl, rfl, by rw [ht]; exact hP, va_K.moved hW.alike hK, hD⟩, hS.F ht⟩) hS.2.2 d) s0 _ _ _ h hP hD va_S.rf (lv_sub hl [0] rfl)
def ow_dm_X12_useTape : List Cond := Cond.code yX12_useTape cX12_useTape 2 (some .int) :: ([Cond.fieldLink RX12 58 "TimeMachine" "taped" "I", Cond.fieldLink RX12 66 "TimeMachine" "fresh" "Z"] ++ (u_ws RX12 TX12 12 ++ []))
theorem gd_dm_X12_useTape : ∀ w ∈ ow_dm_X12_useTape, (w.onTables && w.keeps) = true ∨ ∃ ty, w = Cond.arrayClass ty := List.forall_mem_cons.mpr ⟨good_of_word rfl, List.forall_mem_append.mpr ⟨fun w h => good_of_word (List.all_eq_true.mp (by decide +kernel) w h), List.forall_mem_append.mpr ⟨gu_X12, fun _ h => nomatch h⟩⟩⟩
theorem hi_dm_X12_useTape_X12 : ∀ w ∈ u_ws RX12 TX12 12, w ∈ ow_dm_X12_useTape := fun w h => List.mem_cons_of_mem _ (List.mem_append_right _ (List.mem_append_left _ h))
def dj_X12_useTape_0 (p : Program) (l : Launch) (e : Env) (s : State) (m : MethodId) (args : Array Value) (below : List Frame) (meth : Method) (c : Code) (Q : State → Prop) (A : Nat → Prop) (dC : Nat → ClassId) (dI : Nat → Nat → Nat) (a : Nat → Nat) (ac : Nat → ClassId) (g : (St × Rw × (St) × (St × (St)) × (St) × (St × (St × (St × (St)))) × (St) × (St) × (Nat → St) × (Nat → St) × (Nat → St × (St))) → Option (Int32 × (St × Rw × (St) × (St × (St)) × (St) × (St × (St × (St × (St)))) × (St) × (St) × (Nat → St) × (Nat → St) × (Nat → St × (St))))) (r : Int32 × (St × Rw × (St) × (St × (St)) × (St) × (St × (St × (St × (St)))) × (St) × (St) × (Nat → St) × (Nat → St) × (Nat → St × (St)))) : Prop := ∀ (s0 : St × Rw × (St) × (St × (St)) × (St) × (St × (St × (St × (St)))) × (St) × (St) × (Nat → St) × (Nat → St) × (Nat → St × (St))) (H : Heap) (locs : List Loc) (ls : Array Slot), g s0 = some r → va_P (dC, dI) vwCl (dw_X12 a ac s0) H → va_D A (dw_X12 a ac s0) → va_S A s.heap H locs → lv_has ls 2 [(0, .ref (a 0))] → W p l e (headSpec ow_dm_X12_useTape ({ frames := 0, cells := 0, slots := 0, locals := 0 })).room s m args below meth c H locs 0 0 Q (F0 m 0 ls [])
set_option maxHeartbeats 40000000 in
set_option maxRecDepth 100000 in
theorem db_X12_useTape_0 {p : Program} {l : Launch} {e : Env} {s : State} {m : MethodId} {args : Array Value} {below : List Frame} {meth : Method} {c : Code} {Q : State → Prop} {A : Nat → Prop} {dC : Nat → ClassId} {dI : Nat → Nat → Nat} {a : Nat → Nat} {ac : Nat → ClassId} {n : Nat} {r : Int32 × (St × Rw × (St) × (St × (St)) × (St) × (St × (St × (St × (St)))) × (St) × (St) × (Nat → St) × (Nat → St) × (Nat → St × (St)))} (C : nd_C p l s m args c A (dC, dI) cX12_useTape 2 RX12 ow_dm_X12_useTape (dk_X12 ac)) (K : nd_Ki p l e (headSpec ow_dm_X12_useTape ({ frames := 0, cells := 0, slots := 0, locals := 0 })).room s m args below meth c Q A (dC, dI) cX12_useTape .int (St × Rw × (St) × (St × (St)) × (St) × (St × (St × (St × (St)))) × (St) × (St) × (Nat → St) × (Nat → St) × (Nat → St × (St))) (dw_X12 a ac) r) : dj_X12_useTape_0 p l e s m args below meth c Q A dC dI a ac (df_X12_useTape_0 n (a 15) (a 3)) r := by
  obtain ⟨hlt, hx, hb, hml, hown, hts, hN, hA, hK⟩ := id C
  intro s0 H locs ls h hP hD hS hl
  unfold df_X12_useTape_0 at h
  refine lv_aload_n hx hb dX12_useTape_0 rfl (lv_at hl 0 rfl) ?_
  refine va_get (D := (dC, dI)) (ci := 13) (v := .int (sI s0.1 0)) (C := RX12) (T := TX12) (N := 12) hx hb hts hi_dm_X12_useTape_X12 hown hK hP 0 rfl rfl 1 (by decide) (hts (.fieldLink RX12 58 "TimeMachine" "taped" "I") (List.mem_of_getElem? (i := 1) rfl)) (fun _ h9 => h9) rfl dX12_useTape_1 ?_
  refine lv_topi (fun z1 ez1 => ?_)
  have h := nd_at h ez1
  refine lv_istore_n (lv' := [(1, .int z1), (0, .ref (a 0))]) hx hb dX12_useTape_4 rfl hl (by decide) rfl (fun ls hl => ?_)
  refine lv_aload_n hx hb dX12_useTape_5 rfl (lv_at hl 1 rfl) ?_
  refine lv_iconst (v := 0) hx hb dX12_useTape_6 (by decide) ?_
  refine va_put (D := (dC, dI)) (ci := 13) (v := .int 0) (ty := .int) (C := RX12) (T := TX12) (N := 12) hx hb hts hi_dm_X12_useTape_X12 tyX12 tyX12_ok nmX12 hown hK hP hD hS 0 rfl rfl 1 (by decide) (hts (.fieldLink RX12 58 "TimeMachine" "taped" "I") (List.mem_of_getElem? (i := 1) rfl)) (fun _ h9 => h9) rfl (by decide +kernel) rfl rfl (Nat.le_of_ble_eq_true rfl) dX12_useTape_7 (fun H locs hP hD hS => ?_)
  obtain ⟨s2, es2, h⟩ := nd_let_e h
  have hP : va_P (dC, dI) vwCl (dw_X12 a ac s2) H := by rw [es2]; exact hP
  have hD : va_D A (dw_X12 a ac s2) := by rw [es2]; exact hD
  refine lv_aload_n hx hb dX12_useTape_10 rfl (lv_at hl 1 rfl) ?_
  refine lv_iconst (v := 0) hx hb dX12_useTape_11 (by decide) ?_
  refine va_put (D := (dC, dI)) (ci := 13) (v := .int 0) (ty := .boolean) (C := RX12) (T := TX12) (N := 12) hx hb hts hi_dm_X12_useTape_X12 tyX12 tyX12_ok nmX12 hown hK hP hD hS 0 rfl rfl 2 (by decide) (hts (.fieldLink RX12 66 "TimeMachine" "fresh" "Z") (List.mem_of_getElem? (i := 2) rfl)) (fun _ h9 => h9) rfl (by decide +kernel) (by first | rfl | decide) rfl (Nat.le_of_ble_eq_true rfl) dX12_useTape_12 (fun H locs hP hD hS => ?_)
  obtain ⟨s3, es3, h⟩ := nd_let_e h
  have hP : va_P (dC, dI) vwCl (dw_X12 a ac s3) H := by rw [es3]; exact hP
  have hD : va_D A (dw_X12 a ac s3) := by rw [es3]; exact hD
  refine lv_iload_n hx hb dX12_useTape_15 rfl (lv_at hl 0 rfl) ?_
  exact K _ _ _ _ _ _ dX12_useTape_16 rfl (Option.some.inj h).symm hP hD hS
set_option maxHeartbeats 40000000 in
set_option maxRecDepth 100000 in
theorem dm_X12_useTape (l : Launch) (hlt : l.stackTraces = false) (dC : Nat → ClassId) (dI : Nat → Nat → Nat) (a : Nat → Nat) (ac : Nat → ClassId) (n : Nat) (s0 : St × Rw × (St) × (St × (St)) × (St) × (St × (St × (St × (St)))) × (St) × (St) × (Nat → St) × (Nat → St) × (Nat → St × (St))) {r : Int32 × (St × Rw × (St) × (St × (St)) × (St) × (St × (St × (St × (St)))) × (St) × (St) × (Nat → St) × (Nat → St) × (Nat → St × (St)))} (h : df_X12_useTape n (a 15) (a 3) s0 = some r) (sz : Nat) : Met l yX12_useTape ow_dm_X12_useTape ({ frames := 0, cells := 0, slots := 0, locals := 0 }) (va_Pc [.ref (a 0)] (fun U => U.heap.size = sz ∧ va_P (dC, dI) vwCl (dw_X12 a ac s0) U.heap ∧ va_K (dC, dI) vwCl (dk_X12 ac) U ∧ va_D (fun _ => True) (dw_X12 a ac s0) ∧ nv_E dI (va_A (dw_X12 a ac s0) sz) U)) (va_Qi (fun x _ => x = r.1) (fun (_ : Unit) t => va_P (dC, dI) vwCl (dw_X12 a ac r.2) t.heap ∧ va_K (dC, dI) vwCl (dk_X12 ac) t ∧ va_D (va_A (dw_X12 a ac s0) sz) (dw_X12 a ac r.2)) (va_A (dw_X12 a ac s0) sz)) 0 0 (va_A (dw_X12 a ac s0) sz) := by
  refine Met.ofW (cc := cX12_useTape) (maxL := 2) (ret := (some .int)) (by decide) rfl ?_
  intro p e s m args below meth c s₁ B hml hv
  obtain ⟨rfl, hsz, hP, hK, hD0, hN⟩ := hv
  have hx := B.exec
  have hb := B.bytes
  have hr := B.returns
  have hts := atoms_spec (ws := ow_dm_X12_useTape) B.pre
  have hown : s.vm.findClass RX12 = some m.cls := findClass_of_methodNamed B.named
  have hlocks := B.notSynchronized
  subst hsz
  have hD := hD0.self (sz := s.heap.size)
  generalize hAe : va_A (dw_X12 a ac s0) s.heap.size = A at hD hN ⊢
  have hA : ∀ q : Nat, s.heap.size ≤ q → A q := fun q h => by rw [← hAe]; exact Or.inr h
  have hl := lv_entry ([.ref (a 0)]) (n := 2) (Nat.le_of_ble_eq_true rfl)
  rw [lg_entry_eq]
  generalize (lg_sl ([.ref (a 0)]) ++ List.replicate (2 - (lg_sl ([.ref (a 0)])).length) Slot.unset).toArray = ls at hl ⊢
  have hl : lv_has ls 2 [(0, .ref (a 0))] := hl
  exact db_X12_useTape_0 (dC := dC) (dI := dI) (a := a) (ac := ac) (n := n) (r := r) ⟨hlt, hx, hb, hml, hown, hts, hN, hA, hK⟩ (fun pc v τ H locs ls d z er hP hD hS => by subst er; exact W.zret (v := v) hx hb hr z (fun t ht hW => ⟨⟨v, (), rfl, rfl, by rw [ht]; exact hP, va_K.moved hW.alike hK, hD⟩, hS.F ht⟩) hS.2.2 d) s0 _ _ _ h hP hD va_S.rf (lv_sub hl [0] rfl)
set_option maxHeartbeats 40000000 in
set_option maxRecDepth 100000 in
theorem de_wX12_X1p_10 {a : Nat → Nat} {ac : Nat → ClassId} {j1 : Nat} {τ : St × (St × (St)) × (St)} : ([dwo_X1 (fun k => a (k + 4)) (fun k => ac (k + 4)) (τ.2.1.1), dwc_X9 (fun k => a (k + 7)) (fun k => ac (k + 7)) (τ.2.1.2), [(a 15, .inl (ac 15, 32768, .inl (sR (τ.2.1.2) 7)))], dw_X8 (fun k => a (k + j1 * 5 + 57)) (fun k => ac (k + j1 * 5 + 57)) (τ.2.2)] : List va_W).flatten = dw_X1p (fun k => a (if k < 5 then k - 0 + j1 * 5 + 57 else k - 5 + 4)) (fun k => ac (if k < 5 then k - 0 + j1 * 5 + 57 else k - 5 + 4)) τ := by
  first
  | (simp only [List.flatten_cons, List.flatten_nil, List.append_nil]; done)
  | (simp only [List.flatten_cons, List.flatten_nil, List.append_nil]; rfl)
set_option maxHeartbeats 40000000 in
set_option maxRecDepth 100000 in
theorem dp_wX12_X1p_10 {D : va_G} {H : Heap} {a : Nat → Nat} {ac : Nat → ClassId} {σ : St × Rw × (St) × (St × (St)) × (St) × (St × (St × (St × (St)))) × (St) × (St) × (Nat → St) × (Nat → St) × (Nat → St × (St))} {j1 : Nat} (hj1 : j1 < 9) (h : va_P D vwCl (dw_X12 a ac σ) H) : va_P D vwCl (dw_X1p (fun k => a (if k < 5 then k - 0 + j1 * 5 + 57 else k - 5 + 4)) (fun k => ac (if k < 5 then k - 0 + j1 * 5 + 57 else k - 5 + 4)) (nd_st0, σ.2.2.2.1, (σ.2.2.2.2.2.2.2.2.1 j1))) H := by
  have h2 := nd_vp (segs := dg_X12 a ac σ) (ix := [4, 5, 6, 18 + j1]) (old := [dwo_X1 (fun k => a (k + 4)) (fun k => ac (k + 4)) (σ.2.2.2.1.1), dwc_X9 (fun k => a (k + 7)) (fun k => ac (k + 7)) (σ.2.2.2.1.2), [(a 15, .inl (ac 15, 32768, .inl (sR (σ.2.2.2.1.2) 7)))], dw_X8 (fun k => a (k + j1 * 5 + 57)) (fun k => ac (k + j1 * 5 + 57)) (σ.2.2.2.2.2.2.2.2.1 j1)]) h (nd_co rfl (nd_co rfl (nd_co rfl (nd_co (dx_X12_P8 hj1) rfl))))
  have e := de_wX12_X1p_10 (a := a) (ac := ac) (j1 := j1) (τ := (nd_st0, σ.2.2.2.1, (σ.2.2.2.2.2.2.2.2.1 j1)))
  exact e ▸ h2
set_option maxHeartbeats 40000000 in
set_option maxRecDepth 100000 in
theorem dd_wX12_X1p_10 {A : Nat → Prop} {a : Nat → Nat} {ac : Nat → ClassId} {σ : St × Rw × (St) × (St × (St)) × (St) × (St × (St × (St × (St)))) × (St) × (St) × (Nat → St) × (Nat → St) × (Nat → St × (St))} {j1 : Nat} (hj1 : j1 < 9) (h : va_D A (dw_X12 a ac σ)) : va_D A (dw_X1p (fun k => a (if k < 5 then k - 0 + j1 * 5 + 57 else k - 5 + 4)) (fun k => ac (if k < 5 then k - 0 + j1 * 5 + 57 else k - 5 + 4)) (nd_st0, σ.2.2.2.1, (σ.2.2.2.2.2.2.2.2.1 j1))) := by
  have h2 := nd_vd (segs := dg_X12 a ac σ) (ix := [4, 5, 6, 18 + j1]) (old := [dwo_X1 (fun k => a (k + 4)) (fun k => ac (k + 4)) (σ.2.2.2.1.1), dwc_X9 (fun k => a (k + 7)) (fun k => ac (k + 7)) (σ.2.2.2.1.2), [(a 15, .inl (ac 15, 32768, .inl (sR (σ.2.2.2.1.2) 7)))], dw_X8 (fun k => a (k + j1 * 5 + 57)) (fun k => ac (k + j1 * 5 + 57)) (σ.2.2.2.2.2.2.2.2.1 j1)]) h (nd_co rfl (nd_co rfl (nd_co rfl (nd_co (dx_X12_P8 hj1) rfl)))) (by simp only [List.nodup_cons, List.mem_cons, List.not_mem_nil, List.nodup_nil, or_false, not_false_eq_true, and_true, true_and] <;> omega)
  have e := de_wX12_X1p_10 (a := a) (ac := ac) (j1 := j1) (τ := (nd_st0, σ.2.2.2.1, (σ.2.2.2.2.2.2.2.2.1 j1)))
  exact e ▸ h2
set_option maxHeartbeats 40000000 in
set_option maxRecDepth 100000 in
theorem dy_wX12_X1p_10 {D : va_G} {U : State} {ac : Nat → ClassId} {j1 : Nat} (hj1 : j1 < 9) (h : va_K D vwCl (dk_X12 ac) U) : va_K D vwCl (dk_X1p (fun k => ac (if k < 5 then k - 0 + j1 * 5 + 57 else k - 5 + 4))) U := (va_K.app (nd_ks h (fun q hq => absurd hq List.not_mem_nil)) (va_K.app (h.sub [3, 4, 5, 6, 7, 8, 9, 10, 11, 12] rfl) (dq_X12_P8 hj1 h)))
set_option maxHeartbeats 40000000 in
set_option maxRecDepth 100000 in
theorem dn_wX12_X1p_10 {A0 : Nat → Prop} {D : va_G} {H H1 : Heap} {a : Nat → Nat} {ac : Nat → ClassId} {σ : St × Rw × (St) × (St × (St)) × (St) × (St × (St × (St × (St)))) × (St) × (St) × (Nat → St) × (Nat → St) × (Nat → St × (St))} {τ : St × (St × (St)) × (St)} {j1 : Nat} (hj1 : j1 < 9) (hP : va_P D vwCl (dw_X12 a ac σ) H) (hD : va_D A0 (dw_X12 a ac σ)) (hA : ∀ q : Nat, H.size ≤ q → A0 q) (hk : ∀ q : Nat, q < H.size → ¬ va_A (dw_X1p (fun k => a (if k < 5 then k - 0 + j1 * 5 + 57 else k - 5 + 4)) (fun k => ac (if k < 5 then k - 0 + j1 * 5 + 57 else k - 5 + 4)) (nd_st0, σ.2.2.2.1, (σ.2.2.2.2.2.2.2.2.1 j1))) H.size q → H1[q]? = H[q]?) (h1 : va_P D vwCl (dw_X1p (fun k => a (if k < 5 then k - 0 + j1 * 5 + 57 else k - 5 + 4)) (fun k => ac (if k < 5 then k - 0 + j1 * 5 + 57 else k - 5 + 4)) τ) H1) (h2 : va_D (va_A (dw_X1p (fun k => a (if k < 5 then k - 0 + j1 * 5 + 57 else k - 5 + 4)) (fun k => ac (if k < 5 then k - 0 + j1 * 5 + 57 else k - 5 + 4)) (nd_st0, σ.2.2.2.1, (σ.2.2.2.2.2.2.2.2.1 j1))) H.size) (dw_X1p (fun k => a (if k < 5 then k - 0 + j1 * 5 + 57 else k - 5 + 4)) (fun k => ac (if k < 5 then k - 0 + j1 * 5 + 57 else k - 5 + 4)) τ)) : va_P D vwCl (dw_X12 a ac ((σ.1, (σ.2.1, (σ.2.2.1, (τ.2.1, σ.2.2.2.2)))).1, ((σ.1, (σ.2.1, (σ.2.2.1, (τ.2.1, σ.2.2.2.2)))).2.1, ((σ.1, (σ.2.1, (σ.2.2.1, (τ.2.1, σ.2.2.2.2)))).2.2.1, ((σ.1, (σ.2.1, (σ.2.2.1, (τ.2.1, σ.2.2.2.2)))).2.2.2.1, ((σ.1, (σ.2.1, (σ.2.2.1, (τ.2.1, σ.2.2.2.2)))).2.2.2.2.1, ((σ.1, (σ.2.1, (σ.2.2.1, (τ.2.1, σ.2.2.2.2)))).2.2.2.2.2.1, ((σ.1, (σ.2.1, (σ.2.2.1, (τ.2.1, σ.2.2.2.2)))).2.2.2.2.2.2.1, ((σ.1, (σ.2.1, (σ.2.2.1, (τ.2.1, σ.2.2.2.2)))).2.2.2.2.2.2.2.1, ((fun i => if i = j1 then τ.2.2 else (σ.1, (σ.2.1, (σ.2.2.1, (τ.2.1, σ.2.2.2.2)))).2.2.2.2.2.2.2.2.1 i), (σ.1, (σ.2.1, (σ.2.2.1, (τ.2.1, σ.2.2.2.2)))).2.2.2.2.2.2.2.2.2)))))))))) H1 ∧ va_D A0 (dw_X12 a ac ((σ.1, (σ.2.1, (σ.2.2.1, (τ.2.1, σ.2.2.2.2)))).1, ((σ.1, (σ.2.1, (σ.2.2.1, (τ.2.1, σ.2.2.2.2)))).2.1, ((σ.1, (σ.2.1, (σ.2.2.1, (τ.2.1, σ.2.2.2.2)))).2.2.1, ((σ.1, (σ.2.1, (σ.2.2.1, (τ.2.1, σ.2.2.2.2)))).2.2.2.1, ((σ.1, (σ.2.1, (σ.2.2.1, (τ.2.1, σ.2.2.2.2)))).2.2.2.2.1, ((σ.1, (σ.2.1, (σ.2.2.1, (τ.2.1, σ.2.2.2.2)))).2.2.2.2.2.1, ((σ.1, (σ.2.1, (σ.2.2.1, (τ.2.1, σ.2.2.2.2)))).2.2.2.2.2.2.1, ((σ.1, (σ.2.1, (σ.2.2.1, (τ.2.1, σ.2.2.2.2)))).2.2.2.2.2.2.2.1, ((fun i => if i = j1 then τ.2.2 else (σ.1, (σ.2.1, (σ.2.2.1, (τ.2.1, σ.2.2.2.2)))).2.2.2.2.2.2.2.2.1 i), (σ.1, (σ.2.1, (σ.2.2.1, (τ.2.1, σ.2.2.2.2)))).2.2.2.2.2.2.2.2.2)))))))))) := by
  have eo := de_wX12_X1p_10 (a := a) (ac := ac) (j1 := j1) (τ := (nd_st0, σ.2.2.2.1, (σ.2.2.2.2.2.2.2.2.1 j1)))
  have en := de_wX12_X1p_10 (a := a) (ac := ac) (j1 := j1) (τ := τ)
  have h := nd_vn (segs := dg_X12 a ac σ) (ix := [4, 5, 6, 18 + j1]) (old := [dwo_X1 (fun k => a (k + 4)) (fun k => ac (k + 4)) (σ.2.2.2.1.1), dwc_X9 (fun k => a (k + 7)) (fun k => ac (k + 7)) (σ.2.2.2.1.2), [(a 15, .inl (ac 15, 32768, .inl (sR (σ.2.2.2.1.2) 7)))], dw_X8 (fun k => a (k + j1 * 5 + 57)) (fun k => ac (k + j1 * 5 + 57)) (σ.2.2.2.2.2.2.2.2.1 j1)]) (new := [dwo_X1 (fun k => a (k + 4)) (fun k => ac (k + 4)) (τ.2.1.1), dwc_X9 (fun k => a (k + 7)) (fun k => ac (k + 7)) (τ.2.1.2), [(a 15, .inl (ac 15, 32768, .inl (sR (τ.2.1.2) 7)))], dw_X8 (fun k => a (k + j1 * 5 + 57)) (fun k => ac (k + j1 * 5 + 57)) (τ.2.2)]) hP hD (nd_co rfl (nd_co rfl (nd_co rfl (nd_co (dx_X12_P8 hj1) rfl)))) rfl (fun q z y => hk q z (fun w => y (eo ▸ w))) (en ▸ h1)
  have e2 : (((dg_X12 a ac σ).set 4 (dwo_X1 (fun k => a (k + 4)) (fun k => ac (k + 4)) (τ.2.1.1))).set 5 (dwc_X9 (fun k => a (k + 7)) (fun k => ac (k + 7)) (τ.2.1.2))).set 6 ([(a 15, .inl (ac 15, 32768, .inl (sR (τ.2.1.2) 7)))]) = dg_X12 a ac (((σ.1, (σ.2.1, (σ.2.2.1, (((τ.2.1.1), σ.2.2.2.1.2), σ.2.2.2.2)))).1, ((σ.1, (σ.2.1, (σ.2.2.1, (((τ.2.1.1), σ.2.2.2.1.2), σ.2.2.2.2)))).2.1, ((σ.1, (σ.2.1, (σ.2.2.1, (((τ.2.1.1), σ.2.2.2.1.2), σ.2.2.2.2)))).2.2.1, (((σ.1, (σ.2.1, (σ.2.2.1, (((τ.2.1.1), σ.2.2.2.1.2), σ.2.2.2.2)))).2.2.2.1.1, (τ.2.1.2)), (σ.1, (σ.2.1, (σ.2.2.1, (((τ.2.1.1), σ.2.2.2.1.2), σ.2.2.2.2)))).2.2.2.2)))).1, (((σ.1, (σ.2.1, (σ.2.2.1, (((τ.2.1.1), σ.2.2.2.1.2), σ.2.2.2.2)))).1, ((σ.1, (σ.2.1, (σ.2.2.1, (((τ.2.1.1), σ.2.2.2.1.2), σ.2.2.2.2)))).2.1, ((σ.1, (σ.2.1, (σ.2.2.1, (((τ.2.1.1), σ.2.2.2.1.2), σ.2.2.2.2)))).2.2.1, (((σ.1, (σ.2.1, (σ.2.2.1, (((τ.2.1.1), σ.2.2.2.1.2), σ.2.2.2.2)))).2.2.2.1.1, (τ.2.1.2)), (σ.1, (σ.2.1, (σ.2.2.1, (((τ.2.1.1), σ.2.2.2.1.2), σ.2.2.2.2)))).2.2.2.2)))).2.1, (((σ.1, (σ.2.1, (σ.2.2.1, (((τ.2.1.1), σ.2.2.2.1.2), σ.2.2.2.2)))).1, ((σ.1, (σ.2.1, (σ.2.2.1, (((τ.2.1.1), σ.2.2.2.1.2), σ.2.2.2.2)))).2.1, ((σ.1, (σ.2.1, (σ.2.2.1, (((τ.2.1.1), σ.2.2.2.1.2), σ.2.2.2.2)))).2.2.1, (((σ.1, (σ.2.1, (σ.2.2.1, (((τ.2.1.1), σ.2.2.2.1.2), σ.2.2.2.2)))).2.2.2.1.1, (τ.2.1.2)), (σ.1, (σ.2.1, (σ.2.2.1, (((τ.2.1.1), σ.2.2.2.1.2), σ.2.2.2.2)))).2.2.2.2)))).2.2.1, ((((σ.1, (σ.2.1, (σ.2.2.1, (((τ.2.1.1), σ.2.2.2.1.2), σ.2.2.2.2)))).1, ((σ.1, (σ.2.1, (σ.2.2.1, (((τ.2.1.1), σ.2.2.2.1.2), σ.2.2.2.2)))).2.1, ((σ.1, (σ.2.1, (σ.2.2.1, (((τ.2.1.1), σ.2.2.2.1.2), σ.2.2.2.2)))).2.2.1, (((σ.1, (σ.2.1, (σ.2.2.1, (((τ.2.1.1), σ.2.2.2.1.2), σ.2.2.2.2)))).2.2.2.1.1, (τ.2.1.2)), (σ.1, (σ.2.1, (σ.2.2.1, (((τ.2.1.1), σ.2.2.2.1.2), σ.2.2.2.2)))).2.2.2.2)))).2.2.2.1.1, (τ.2.1.2)), ((σ.1, (σ.2.1, (σ.2.2.1, (((τ.2.1.1), σ.2.2.2.1.2), σ.2.2.2.2)))).1, ((σ.1, (σ.2.1, (σ.2.2.1, (((τ.2.1.1), σ.2.2.2.1.2), σ.2.2.2.2)))).2.1, ((σ.1, (σ.2.1, (σ.2.2.1, (((τ.2.1.1), σ.2.2.2.1.2), σ.2.2.2.2)))).2.2.1, (((σ.1, (σ.2.1, (σ.2.2.1, (((τ.2.1.1), σ.2.2.2.1.2), σ.2.2.2.2)))).2.2.2.1.1, (τ.2.1.2)), (σ.1, (σ.2.1, (σ.2.2.1, (((τ.2.1.1), σ.2.2.2.1.2), σ.2.2.2.2)))).2.2.2.2)))).2.2.2.2)))) := rfl
  have e3 : (dg_X12 a ac (((σ.1, (σ.2.1, (σ.2.2.1, (((τ.2.1.1), σ.2.2.2.1.2), σ.2.2.2.2)))).1, ((σ.1, (σ.2.1, (σ.2.2.1, (((τ.2.1.1), σ.2.2.2.1.2), σ.2.2.2.2)))).2.1, ((σ.1, (σ.2.1, (σ.2.2.1, (((τ.2.1.1), σ.2.2.2.1.2), σ.2.2.2.2)))).2.2.1, (((σ.1, (σ.2.1, (σ.2.2.1, (((τ.2.1.1), σ.2.2.2.1.2), σ.2.2.2.2)))).2.2.2.1.1, (τ.2.1.2)), (σ.1, (σ.2.1, (σ.2.2.1, (((τ.2.1.1), σ.2.2.2.1.2), σ.2.2.2.2)))).2.2.2.2)))).1, (((σ.1, (σ.2.1, (σ.2.2.1, (((τ.2.1.1), σ.2.2.2.1.2), σ.2.2.2.2)))).1, ((σ.1, (σ.2.1, (σ.2.2.1, (((τ.2.1.1), σ.2.2.2.1.2), σ.2.2.2.2)))).2.1, ((σ.1, (σ.2.1, (σ.2.2.1, (((τ.2.1.1), σ.2.2.2.1.2), σ.2.2.2.2)))).2.2.1, (((σ.1, (σ.2.1, (σ.2.2.1, (((τ.2.1.1), σ.2.2.2.1.2), σ.2.2.2.2)))).2.2.2.1.1, (τ.2.1.2)), (σ.1, (σ.2.1, (σ.2.2.1, (((τ.2.1.1), σ.2.2.2.1.2), σ.2.2.2.2)))).2.2.2.2)))).2.1, (((σ.1, (σ.2.1, (σ.2.2.1, (((τ.2.1.1), σ.2.2.2.1.2), σ.2.2.2.2)))).1, ((σ.1, (σ.2.1, (σ.2.2.1, (((τ.2.1.1), σ.2.2.2.1.2), σ.2.2.2.2)))).2.1, ((σ.1, (σ.2.1, (σ.2.2.1, (((τ.2.1.1), σ.2.2.2.1.2), σ.2.2.2.2)))).2.2.1, (((σ.1, (σ.2.1, (σ.2.2.1, (((τ.2.1.1), σ.2.2.2.1.2), σ.2.2.2.2)))).2.2.2.1.1, (τ.2.1.2)), (σ.1, (σ.2.1, (σ.2.2.1, (((τ.2.1.1), σ.2.2.2.1.2), σ.2.2.2.2)))).2.2.2.2)))).2.2.1, ((((σ.1, (σ.2.1, (σ.2.2.1, (((τ.2.1.1), σ.2.2.2.1.2), σ.2.2.2.2)))).1, ((σ.1, (σ.2.1, (σ.2.2.1, (((τ.2.1.1), σ.2.2.2.1.2), σ.2.2.2.2)))).2.1, ((σ.1, (σ.2.1, (σ.2.2.1, (((τ.2.1.1), σ.2.2.2.1.2), σ.2.2.2.2)))).2.2.1, (((σ.1, (σ.2.1, (σ.2.2.1, (((τ.2.1.1), σ.2.2.2.1.2), σ.2.2.2.2)))).2.2.2.1.1, (τ.2.1.2)), (σ.1, (σ.2.1, (σ.2.2.1, (((τ.2.1.1), σ.2.2.2.1.2), σ.2.2.2.2)))).2.2.2.2)))).2.2.2.1.1, (τ.2.1.2)), ((σ.1, (σ.2.1, (σ.2.2.1, (((τ.2.1.1), σ.2.2.2.1.2), σ.2.2.2.2)))).1, ((σ.1, (σ.2.1, (σ.2.2.1, (((τ.2.1.1), σ.2.2.2.1.2), σ.2.2.2.2)))).2.1, ((σ.1, (σ.2.1, (σ.2.2.1, (((τ.2.1.1), σ.2.2.2.1.2), σ.2.2.2.2)))).2.2.1, (((σ.1, (σ.2.1, (σ.2.2.1, (((τ.2.1.1), σ.2.2.2.1.2), σ.2.2.2.2)))).2.2.2.1.1, (τ.2.1.2)), (σ.1, (σ.2.1, (σ.2.2.1, (((τ.2.1.1), σ.2.2.2.1.2), σ.2.2.2.2)))).2.2.2.2)))).2.2.2.2))))).set (18 + j1) (dw_X8 (fun k => a (k + j1 * 5 + 57)) (fun k => ac (k + j1 * 5 + 57)) (τ.2.2)) = dg_X12 a ac ((((σ.1, (σ.2.1, (σ.2.2.1, (((τ.2.1.1), σ.2.2.2.1.2), σ.2.2.2.2)))).1, ((σ.1, (σ.2.1, (σ.2.2.1, (((τ.2.1.1), σ.2.2.2.1.2), σ.2.2.2.2)))).2.1, ((σ.1, (σ.2.1, (σ.2.2.1, (((τ.2.1.1), σ.2.2.2.1.2), σ.2.2.2.2)))).2.2.1, (((σ.1, (σ.2.1, (σ.2.2.1, (((τ.2.1.1), σ.2.2.2.1.2), σ.2.2.2.2)))).2.2.2.1.1, (τ.2.1.2)), (σ.1, (σ.2.1, (σ.2.2.1, (((τ.2.1.1), σ.2.2.2.1.2), σ.2.2.2.2)))).2.2.2.2)))).1, (((σ.1, (σ.2.1, (σ.2.2.1, (((τ.2.1.1), σ.2.2.2.1.2), σ.2.2.2.2)))).1, ((σ.1, (σ.2.1, (σ.2.2.1, (((τ.2.1.1), σ.2.2.2.1.2), σ.2.2.2.2)))).2.1, ((σ.1, (σ.2.1, (σ.2.2.1, (((τ.2.1.1), σ.2.2.2.1.2), σ.2.2.2.2)))).2.2.1, (((σ.1, (σ.2.1, (σ.2.2.1, (((τ.2.1.1), σ.2.2.2.1.2), σ.2.2.2.2)))).2.2.2.1.1, (τ.2.1.2)), (σ.1, (σ.2.1, (σ.2.2.1, (((τ.2.1.1), σ.2.2.2.1.2), σ.2.2.2.2)))).2.2.2.2)))).2.1, (((σ.1, (σ.2.1, (σ.2.2.1, (((τ.2.1.1), σ.2.2.2.1.2), σ.2.2.2.2)))).1, ((σ.1, (σ.2.1, (σ.2.2.1, (((τ.2.1.1), σ.2.2.2.1.2), σ.2.2.2.2)))).2.1, ((σ.1, (σ.2.1, (σ.2.2.1, (((τ.2.1.1), σ.2.2.2.1.2), σ.2.2.2.2)))).2.2.1, (((σ.1, (σ.2.1, (σ.2.2.1, (((τ.2.1.1), σ.2.2.2.1.2), σ.2.2.2.2)))).2.2.2.1.1, (τ.2.1.2)), (σ.1, (σ.2.1, (σ.2.2.1, (((τ.2.1.1), σ.2.2.2.1.2), σ.2.2.2.2)))).2.2.2.2)))).2.2.1, ((((σ.1, (σ.2.1, (σ.2.2.1, (((τ.2.1.1), σ.2.2.2.1.2), σ.2.2.2.2)))).1, ((σ.1, (σ.2.1, (σ.2.2.1, (((τ.2.1.1), σ.2.2.2.1.2), σ.2.2.2.2)))).2.1, ((σ.1, (σ.2.1, (σ.2.2.1, (((τ.2.1.1), σ.2.2.2.1.2), σ.2.2.2.2)))).2.2.1, (((σ.1, (σ.2.1, (σ.2.2.1, (((τ.2.1.1), σ.2.2.2.1.2), σ.2.2.2.2)))).2.2.2.1.1, (τ.2.1.2)), (σ.1, (σ.2.1, (σ.2.2.1, (((τ.2.1.1), σ.2.2.2.1.2), σ.2.2.2.2)))).2.2.2.2)))).2.2.2.1.1, (τ.2.1.2)), ((σ.1, (σ.2.1, (σ.2.2.1, (((τ.2.1.1), σ.2.2.2.1.2), σ.2.2.2.2)))).1, ((σ.1, (σ.2.1, (σ.2.2.1, (((τ.2.1.1), σ.2.2.2.1.2), σ.2.2.2.2)))).2.1, ((σ.1, (σ.2.1, (σ.2.2.1, (((τ.2.1.1), σ.2.2.2.1.2), σ.2.2.2.2)))).2.2.1, (((σ.1, (σ.2.1, (σ.2.2.1, (((τ.2.1.1), σ.2.2.2.1.2), σ.2.2.2.2)))).2.2.2.1.1, (τ.2.1.2)), (σ.1, (σ.2.1, (σ.2.2.1, (((τ.2.1.1), σ.2.2.2.1.2), σ.2.2.2.2)))).2.2.2.2)))).2.2.2.2)))).1, ((((σ.1, (σ.2.1, (σ.2.2.1, (((τ.2.1.1), σ.2.2.2.1.2), σ.2.2.2.2)))).1, ((σ.1, (σ.2.1, (σ.2.2.1, (((τ.2.1.1), σ.2.2.2.1.2), σ.2.2.2.2)))).2.1, ((σ.1, (σ.2.1, (σ.2.2.1, (((τ.2.1.1), σ.2.2.2.1.2), σ.2.2.2.2)))).2.2.1, (((σ.1, (σ.2.1, (σ.2.2.1, (((τ.2.1.1), σ.2.2.2.1.2), σ.2.2.2.2)))).2.2.2.1.1, (τ.2.1.2)), (σ.1, (σ.2.1, (σ.2.2.1, (((τ.2.1.1), σ.2.2.2.1.2), σ.2.2.2.2)))).2.2.2.2)))).1, (((σ.1, (σ.2.1, (σ.2.2.1, (((τ.2.1.1), σ.2.2.2.1.2), σ.2.2.2.2)))).1, ((σ.1, (σ.2.1, (σ.2.2.1, (((τ.2.1.1), σ.2.2.2.1.2), σ.2.2.2.2)))).2.1, ((σ.1, (σ.2.1, (σ.2.2.1, (((τ.2.1.1), σ.2.2.2.1.2), σ.2.2.2.2)))).2.2.1, (((σ.1, (σ.2.1, (σ.2.2.1, (((τ.2.1.1), σ.2.2.2.1.2), σ.2.2.2.2)))).2.2.2.1.1, (τ.2.1.2)), (σ.1, (σ.2.1, (σ.2.2.1, (((τ.2.1.1), σ.2.2.2.1.2), σ.2.2.2.2)))).2.2.2.2)))).2.1, (((σ.1, (σ.2.1, (σ.2.2.1, (((τ.2.1.1), σ.2.2.2.1.2), σ.2.2.2.2)))).1, ((σ.1, (σ.2.1, (σ.2.2.1, (((τ.2.1.1), σ.2.2.2.1.2), σ.2.2.2.2)))).2.1, ((σ.1, (σ.2.1, (σ.2.2.1, (((τ.2.1.1), σ.2.2.2.1.2), σ.2.2.2.2)))).2.2.1, (((σ.1, (σ.2.1, (σ.2.2.1, (((τ.2.1.1), σ.2.2.2.1.2), σ.2.2.2.2)))).2.2.2.1.1, (τ.2.1.2)), (σ.1, (σ.2.1, (σ.2.2.1, (((τ.2.1.1), σ.2.2.2.1.2), σ.2.2.2.2)))).2.2.2.2)))).2.2.1, ((((σ.1, (σ.2.1, (σ.2.2.1, (((τ.2.1.1), σ.2.2.2.1.2), σ.2.2.2.2)))).1, ((σ.1, (σ.2.1, (σ.2.2.1, (((τ.2.1.1), σ.2.2.2.1.2), σ.2.2.2.2)))).2.1, ((σ.1, (σ.2.1, (σ.2.2.1, (((τ.2.1.1), σ.2.2.2.1.2), σ.2.2.2.2)))).2.2.1, (((σ.1, (σ.2.1, (σ.2.2.1, (((τ.2.1.1), σ.2.2.2.1.2), σ.2.2.2.2)))).2.2.2.1.1, (τ.2.1.2)), (σ.1, (σ.2.1, (σ.2.2.1, (((τ.2.1.1), σ.2.2.2.1.2), σ.2.2.2.2)))).2.2.2.2)))).2.2.2.1.1, (τ.2.1.2)), ((σ.1, (σ.2.1, (σ.2.2.1, (((τ.2.1.1), σ.2.2.2.1.2), σ.2.2.2.2)))).1, ((σ.1, (σ.2.1, (σ.2.2.1, (((τ.2.1.1), σ.2.2.2.1.2), σ.2.2.2.2)))).2.1, ((σ.1, (σ.2.1, (σ.2.2.1, (((τ.2.1.1), σ.2.2.2.1.2), σ.2.2.2.2)))).2.2.1, (((σ.1, (σ.2.1, (σ.2.2.1, (((τ.2.1.1), σ.2.2.2.1.2), σ.2.2.2.2)))).2.2.2.1.1, (τ.2.1.2)), (σ.1, (σ.2.1, (σ.2.2.1, (((τ.2.1.1), σ.2.2.2.1.2), σ.2.2.2.2)))).2.2.2.2)))).2.2.2.2)))).2.1, ((((σ.1, (σ.2.1, (σ.2.2.1, (((τ.2.1.1), σ.2.2.2.1.2), σ.2.2.2.2)))).1, ((σ.1, (σ.2.1, (σ.2.2.1, (((τ.2.1.1), σ.2.2.2.1.2), σ.2.2.2.2)))).2.1, ((σ.1, (σ.2.1, (σ.2.2.1, (((τ.2.1.1), σ.2.2.2.1.2), σ.2.2.2.2)))).2.2.1, (((σ.1, (σ.2.1, (σ.2.2.1, (((τ.2.1.1), σ.2.2.2.1.2), σ.2.2.2.2)))).2.2.2.1.1, (τ.2.1.2)), (σ.1, (σ.2.1, (σ.2.2.1, (((τ.2.1.1), σ.2.2.2.1.2), σ.2.2.2.2)))).2.2.2.2)))).1, (((σ.1, (σ.2.1, (σ.2.2.1, (((τ.2.1.1), σ.2.2.2.1.2), σ.2.2.2.2)))).1, ((σ.1, (σ.2.1, (σ.2.2.1, (((τ.2.1.1), σ.2.2.2.1.2), σ.2.2.2.2)))).2.1, ((σ.1, (σ.2.1, (σ.2.2.1, (((τ.2.1.1), σ.2.2.2.1.2), σ.2.2.2.2)))).2.2.1, (((σ.1, (σ.2.1, (σ.2.2.1, (((τ.2.1.1), σ.2.2.2.1.2), σ.2.2.2.2)))).2.2.2.1.1, (τ.2.1.2)), (σ.1, (σ.2.1, (σ.2.2.1, (((τ.2.1.1), σ.2.2.2.1.2), σ.2.2.2.2)))).2.2.2.2)))).2.1, (((σ.1, (σ.2.1, (σ.2.2.1, (((τ.2.1.1), σ.2.2.2.1.2), σ.2.2.2.2)))).1, ((σ.1, (σ.2.1, (σ.2.2.1, (((τ.2.1.1), σ.2.2.2.1.2), σ.2.2.2.2)))).2.1, ((σ.1, (σ.2.1, (σ.2.2.1, (((τ.2.1.1), σ.2.2.2.1.2), σ.2.2.2.2)))).2.2.1, (((σ.1, (σ.2.1, (σ.2.2.1, (((τ.2.1.1), σ.2.2.2.1.2), σ.2.2.2.2)))).2.2.2.1.1, (τ.2.1.2)), (σ.1, (σ.2.1, (σ.2.2.1, (((τ.2.1.1), σ.2.2.2.1.2), σ.2.2.2.2)))).2.2.2.2)))).2.2.1, ((((σ.1, (σ.2.1, (σ.2.2.1, (((τ.2.1.1), σ.2.2.2.1.2), σ.2.2.2.2)))).1, ((σ.1, (σ.2.1, (σ.2.2.1, (((τ.2.1.1), σ.2.2.2.1.2), σ.2.2.2.2)))).2.1, ((σ.1, (σ.2.1, (σ.2.2.1, (((τ.2.1.1), σ.2.2.2.1.2), σ.2.2.2.2)))).2.2.1, (((σ.1, (σ.2.1, (σ.2.2.1, (((τ.2.1.1), σ.2.2.2.1.2), σ.2.2.2.2)))).2.2.2.1.1, (τ.2.1.2)), (σ.1, (σ.2.1, (σ.2.2.1, (((τ.2.1.1), σ.2.2.2.1.2), σ.2.2.2.2)))).2.2.2.2)))).2.2.2.1.1, (τ.2.1.2)), ((σ.1, (σ.2.1, (σ.2.2.1, (((τ.2.1.1), σ.2.2.2.1.2), σ.2.2.2.2)))).1, ((σ.1, (σ.2.1, (σ.2.2.1, (((τ.2.1.1), σ.2.2.2.1.2), σ.2.2.2.2)))).2.1, ((σ.1, (σ.2.1, (σ.2.2.1, (((τ.2.1.1), σ.2.2.2.1.2), σ.2.2.2.2)))).2.2.1, (((σ.1, (σ.2.1, (σ.2.2.1, (((τ.2.1.1), σ.2.2.2.1.2), σ.2.2.2.2)))).2.2.2.1.1, (τ.2.1.2)), (σ.1, (σ.2.1, (σ.2.2.1, (((τ.2.1.1), σ.2.2.2.1.2), σ.2.2.2.2)))).2.2.2.2)))).2.2.2.2)))).2.2.1, ((((σ.1, (σ.2.1, (σ.2.2.1, (((τ.2.1.1), σ.2.2.2.1.2), σ.2.2.2.2)))).1, ((σ.1, (σ.2.1, (σ.2.2.1, (((τ.2.1.1), σ.2.2.2.1.2), σ.2.2.2.2)))).2.1, ((σ.1, (σ.2.1, (σ.2.2.1, (((τ.2.1.1), σ.2.2.2.1.2), σ.2.2.2.2)))).2.2.1, (((σ.1, (σ.2.1, (σ.2.2.1, (((τ.2.1.1), σ.2.2.2.1.2), σ.2.2.2.2)))).2.2.2.1.1, (τ.2.1.2)), (σ.1, (σ.2.1, (σ.2.2.1, (((τ.2.1.1), σ.2.2.2.1.2), σ.2.2.2.2)))).2.2.2.2)))).1, (((σ.1, (σ.2.1, (σ.2.2.1, (((τ.2.1.1), σ.2.2.2.1.2), σ.2.2.2.2)))).1, ((σ.1, (σ.2.1, (σ.2.2.1, (((τ.2.1.1), σ.2.2.2.1.2), σ.2.2.2.2)))).2.1, ((σ.1, (σ.2.1, (σ.2.2.1, (((τ.2.1.1), σ.2.2.2.1.2), σ.2.2.2.2)))).2.2.1, (((σ.1, (σ.2.1, (σ.2.2.1, (((τ.2.1.1), σ.2.2.2.1.2), σ.2.2.2.2)))).2.2.2.1.1, (τ.2.1.2)), (σ.1, (σ.2.1, (σ.2.2.1, (((τ.2.1.1), σ.2.2.2.1.2), σ.2.2.2.2)))).2.2.2.2)))).2.1, (((σ.1, (σ.2.1, (σ.2.2.1, (((τ.2.1.1), σ.2.2.2.1.2), σ.2.2.2.2)))).1, ((σ.1, (σ.2.1, (σ.2.2.1, (((τ.2.1.1), σ.2.2.2.1.2), σ.2.2.2.2)))).2.1, ((σ.1, (σ.2.1, (σ.2.2.1, (((τ.2.1.1), σ.2.2.2.1.2), σ.2.2.2.2)))).2.2.1, (((σ.1, (σ.2.1, (σ.2.2.1, (((τ.2.1.1), σ.2.2.2.1.2), σ.2.2.2.2)))).2.2.2.1.1, (τ.2.1.2)), (σ.1, (σ.2.1, (σ.2.2.1, (((τ.2.1.1), σ.2.2.2.1.2), σ.2.2.2.2)))).2.2.2.2)))).2.2.1, ((((σ.1, (σ.2.1, (σ.2.2.1, (((τ.2.1.1), σ.2.2.2.1.2), σ.2.2.2.2)))).1, ((σ.1, (σ.2.1, (σ.2.2.1, (((τ.2.1.1), σ.2.2.2.1.2), σ.2.2.2.2)))).2.1, ((σ.1, (σ.2.1, (σ.2.2.1, (((τ.2.1.1), σ.2.2.2.1.2), σ.2.2.2.2)))).2.2.1, (((σ.1, (σ.2.1, (σ.2.2.1, (((τ.2.1.1), σ.2.2.2.1.2), σ.2.2.2.2)))).2.2.2.1.1, (τ.2.1.2)), (σ.1, (σ.2.1, (σ.2.2.1, (((τ.2.1.1), σ.2.2.2.1.2), σ.2.2.2.2)))).2.2.2.2)))).2.2.2.1.1, (τ.2.1.2)), ((σ.1, (σ.2.1, (σ.2.2.1, (((τ.2.1.1), σ.2.2.2.1.2), σ.2.2.2.2)))).1, ((σ.1, (σ.2.1, (σ.2.2.1, (((τ.2.1.1), σ.2.2.2.1.2), σ.2.2.2.2)))).2.1, ((σ.1, (σ.2.1, (σ.2.2.1, (((τ.2.1.1), σ.2.2.2.1.2), σ.2.2.2.2)))).2.2.1, (((σ.1, (σ.2.1, (σ.2.2.1, (((τ.2.1.1), σ.2.2.2.1.2), σ.2.2.2.2)))).2.2.2.1.1, (τ.2.1.2)), (σ.1, (σ.2.1, (σ.2.2.1, (((τ.2.1.1), σ.2.2.2.1.2), σ.2.2.2.2)))).2.2.2.2)))).2.2.2.2)))).2.2.2.1, ((((σ.1, (σ.2.1, (σ.2.2.1, (((τ.2.1.1), σ.2.2.2.1.2), σ.2.2.2.2)))).1, ((σ.1, (σ.2.1, (σ.2.2.1, (((τ.2.1.1), σ.2.2.2.1.2), σ.2.2.2.2)))).2.1, ((σ.1, (σ.2.1, (σ.2.2.1, (((τ.2.1.1), σ.2.2.2.1.2), σ.2.2.2.2)))).2.2.1, (((σ.1, (σ.2.1, (σ.2.2.1, (((τ.2.1.1), σ.2.2.2.1.2), σ.2.2.2.2)))).2.2.2.1.1, (τ.2.1.2)), (σ.1, (σ.2.1, (σ.2.2.1, (((τ.2.1.1), σ.2.2.2.1.2), σ.2.2.2.2)))).2.2.2.2)))).1, (((σ.1, (σ.2.1, (σ.2.2.1, (((τ.2.1.1), σ.2.2.2.1.2), σ.2.2.2.2)))).1, ((σ.1, (σ.2.1, (σ.2.2.1, (((τ.2.1.1), σ.2.2.2.1.2), σ.2.2.2.2)))).2.1, ((σ.1, (σ.2.1, (σ.2.2.1, (((τ.2.1.1), σ.2.2.2.1.2), σ.2.2.2.2)))).2.2.1, (((σ.1, (σ.2.1, (σ.2.2.1, (((τ.2.1.1), σ.2.2.2.1.2), σ.2.2.2.2)))).2.2.2.1.1, (τ.2.1.2)), (σ.1, (σ.2.1, (σ.2.2.1, (((τ.2.1.1), σ.2.2.2.1.2), σ.2.2.2.2)))).2.2.2.2)))).2.1, (((σ.1, (σ.2.1, (σ.2.2.1, (((τ.2.1.1), σ.2.2.2.1.2), σ.2.2.2.2)))).1, ((σ.1, (σ.2.1, (σ.2.2.1, (((τ.2.1.1), σ.2.2.2.1.2), σ.2.2.2.2)))).2.1, ((σ.1, (σ.2.1, (σ.2.2.1, (((τ.2.1.1), σ.2.2.2.1.2), σ.2.2.2.2)))).2.2.1, (((σ.1, (σ.2.1, (σ.2.2.1, (((τ.2.1.1), σ.2.2.2.1.2), σ.2.2.2.2)))).2.2.2.1.1, (τ.2.1.2)), (σ.1, (σ.2.1, (σ.2.2.1, (((τ.2.1.1), σ.2.2.2.1.2), σ.2.2.2.2)))).2.2.2.2)))).2.2.1, ((((σ.1, (σ.2.1, (σ.2.2.1, (((τ.2.1.1), σ.2.2.2.1.2), σ.2.2.2.2)))).1, ((σ.1, (σ.2.1, (σ.2.2.1, (((τ.2.1.1), σ.2.2.2.1.2), σ.2.2.2.2)))).2.1, ((σ.1, (σ.2.1, (σ.2.2.1, (((τ.2.1.1), σ.2.2.2.1.2), σ.2.2.2.2)))).2.2.1, (((σ.1, (σ.2.1, (σ.2.2.1, (((τ.2.1.1), σ.2.2.2.1.2), σ.2.2.2.2)))).2.2.2.1.1, (τ.2.1.2)), (σ.1, (σ.2.1, (σ.2.2.1, (((τ.2.1.1), σ.2.2.2.1.2), σ.2.2.2.2)))).2.2.2.2)))).2.2.2.1.1, (τ.2.1.2)), ((σ.1, (σ.2.1, (σ.2.2.1, (((τ.2.1.1), σ.2.2.2.1.2), σ.2.2.2.2)))).1, ((σ.1, (σ.2.1, (σ.2.2.1, (((τ.2.1.1), σ.2.2.2.1.2), σ.2.2.2.2)))).2.1, ((σ.1, (σ.2.1, (σ.2.2.1, (((τ.2.1.1), σ.2.2.2.1.2), σ.2.2.2.2)))).2.2.1, (((σ.1, (σ.2.1, (σ.2.2.1, (((τ.2.1.1), σ.2.2.2.1.2), σ.2.2.2.2)))).2.2.2.1.1, (τ.2.1.2)), (σ.1, (σ.2.1, (σ.2.2.1, (((τ.2.1.1), σ.2.2.2.1.2), σ.2.2.2.2)))).2.2.2.2)))).2.2.2.2)))).2.2.2.2.1, ((((σ.1, (σ.2.1, (σ.2.2.1, (((τ.2.1.1), σ.2.2.2.1.2), σ.2.2.2.2)))).1, ((σ.1, (σ.2.1, (σ.2.2.1, (((τ.2.1.1), σ.2.2.2.1.2), σ.2.2.2.2)))).2.1, ((σ.1, (σ.2.1, (σ.2.2.1, (((τ.2.1.1), σ.2.2.2.1.2), σ.2.2.2.2)))).2.2.1, (((σ.1, (σ.2.1, (σ.2.2.1, (((τ.2.1.1), σ.2.2.2.1.2), σ.2.2.2.2)))).2.2.2.1.1, (τ.2.1.2)), (σ.1, (σ.2.1, (σ.2.2.1, (((τ.2.1.1), σ.2.2.2.1.2), σ.2.2.2.2)))).2.2.2.2)))).1, (((σ.1, (σ.2.1, (σ.2.2.1, (((τ.2.1.1), σ.2.2.2.1.2), σ.2.2.2.2)))).1, ((σ.1, (σ.2.1, (σ.2.2.1, (((τ.2.1.1), σ.2.2.2.1.2), σ.2.2.2.2)))).2.1, ((σ.1, (σ.2.1, (σ.2.2.1, (((τ.2.1.1), σ.2.2.2.1.2), σ.2.2.2.2)))).2.2.1, (((σ.1, (σ.2.1, (σ.2.2.1, (((τ.2.1.1), σ.2.2.2.1.2), σ.2.2.2.2)))).2.2.2.1.1, (τ.2.1.2)), (σ.1, (σ.2.1, (σ.2.2.1, (((τ.2.1.1), σ.2.2.2.1.2), σ.2.2.2.2)))).2.2.2.2)))).2.1, (((σ.1, (σ.2.1, (σ.2.2.1, (((τ.2.1.1), σ.2.2.2.1.2), σ.2.2.2.2)))).1, ((σ.1, (σ.2.1, (σ.2.2.1, (((τ.2.1.1), σ.2.2.2.1.2), σ.2.2.2.2)))).2.1, ((σ.1, (σ.2.1, (σ.2.2.1, (((τ.2.1.1), σ.2.2.2.1.2), σ.2.2.2.2)))).2.2.1, (((σ.1, (σ.2.1, (σ.2.2.1, (((τ.2.1.1), σ.2.2.2.1.2), σ.2.2.2.2)))).2.2.2.1.1, (τ.2.1.2)), (σ.1, (σ.2.1, (σ.2.2.1, (((τ.2.1.1), σ.2.2.2.1.2), σ.2.2.2.2)))).2.2.2.2)))).2.2.1, ((((σ.1, (σ.2.1, (σ.2.2.1, (((τ.2.1.1), σ.2.2.2.1.2), σ.2.2.2.2)))).1, ((σ.1, (σ.2.1, (σ.2.2.1, (((τ.2.1.1), σ.2.2.2.1.2), σ.2.2.2.2)))).2.1, ((σ.1, (σ.2.1, (σ.2.2.1, (((τ.2.1.1), σ.2.2.2.1.2), σ.2.2.2.2)))).2.2.1, (((σ.1, (σ.2.1, (σ.2.2.1, (((τ.2.1.1), σ.2.2.2.1.2), σ.2.2.2.2)))).2.2.2.1.1, (τ.2.1.2)), (σ.1, (σ.2.1, (σ.2.2.1, (((τ.2.1.1), σ.2.2.2.1.2), σ.2.2.2.2)))).2.2.2.2)))).2.2.2.1.1, (τ.2.1.2)), ((σ.1, (σ.2.1, (σ.2.2.1, (((τ.2.1.1), σ.2.2.2.1.2), σ.2.2.2.2)))).1, ((σ.1, (σ.2.1, (σ.2.2.1, (((τ.2.1.1), σ.2.2.2.1.2), σ.2.2.2.2)))).2.1, ((σ.1, (σ.2.1, (σ.2.2.1, (((τ.2.1.1), σ.2.2.2.1.2), σ.2.2.2.2)))).2.2.1, (((σ.1, (σ.2.1, (σ.2.2.1, (((τ.2.1.1), σ.2.2.2.1.2), σ.2.2.2.2)))).2.2.2.1.1, (τ.2.1.2)), (σ.1, (σ.2.1, (σ.2.2.1, (((τ.2.1.1), σ.2.2.2.1.2), σ.2.2.2.2)))).2.2.2.2)))).2.2.2.2)))).2.2.2.2.2.1, ((((σ.1, (σ.2.1, (σ.2.2.1, (((τ.2.1.1), σ.2.2.2.1.2), σ.2.2.2.2)))).1, ((σ.1, (σ.2.1, (σ.2.2.1, (((τ.2.1.1), σ.2.2.2.1.2), σ.2.2.2.2)))).2.1, ((σ.1, (σ.2.1, (σ.2.2.1, (((τ.2.1.1), σ.2.2.2.1.2), σ.2.2.2.2)))).2.2.1, (((σ.1, (σ.2.1, (σ.2.2.1, (((τ.2.1.1), σ.2.2.2.1.2), σ.2.2.2.2)))).2.2.2.1.1, (τ.2.1.2)), (σ.1, (σ.2.1, (σ.2.2.1, (((τ.2.1.1), σ.2.2.2.1.2), σ.2.2.2.2)))).2.2.2.2)))).1, (((σ.1, (σ.2.1, (σ.2.2.1, (((τ.2.1.1), σ.2.2.2.1.2), σ.2.2.2.2)))).1, ((σ.1, (σ.2.1, (σ.2.2.1, (((τ.2.1.1), σ.2.2.2.1.2), σ.2.2.2.2)))).2.1, ((σ.1, (σ.2.1, (σ.2.2.1, (((τ.2.1.1), σ.2.2.2.1.2), σ.2.2.2.2)))).2.2.1, (((σ.1, (σ.2.1, (σ.2.2.1, (((τ.2.1.1), σ.2.2.2.1.2), σ.2.2.2.2)))).2.2.2.1.1, (τ.2.1.2)), (σ.1, (σ.2.1, (σ.2.2.1, (((τ.2.1.1), σ.2.2.2.1.2), σ.2.2.2.2)))).2.2.2.2)))).2.1, (((σ.1, (σ.2.1, (σ.2.2.1, (((τ.2.1.1), σ.2.2.2.1.2), σ.2.2.2.2)))).1, ((σ.1, (σ.2.1, (σ.2.2.1, (((τ.2.1.1), σ.2.2.2.1.2), σ.2.2.2.2)))).2.1, ((σ.1, (σ.2.1, (σ.2.2.1, (((τ.2.1.1), σ.2.2.2.1.2), σ.2.2.2.2)))).2.2.1, (((σ.1, (σ.2.1, (σ.2.2.1, (((τ.2.1.1), σ.2.2.2.1.2), σ.2.2.2.2)))).2.2.2.1.1, (τ.2.1.2)), (σ.1, (σ.2.1, (σ.2.2.1, (((τ.2.1.1), σ.2.2.2.1.2), σ.2.2.2.2)))).2.2.2.2)))).2.2.1, ((((σ.1, (σ.2.1, (σ.2.2.1, (((τ.2.1.1), σ.2.2.2.1.2), σ.2.2.2.2)))).1, ((σ.1, (σ.2.1, (σ.2.2.1, (((τ.2.1.1), σ.2.2.2.1.2), σ.2.2.2.2)))).2.1, ((σ.1, (σ.2.1, (σ.2.2.1, (((τ.2.1.1), σ.2.2.2.1.2), σ.2.2.2.2)))).2.2.1, (((σ.1, (σ.2.1, (σ.2.2.1, (((τ.2.1.1), σ.2.2.2.1.2), σ.2.2.2.2)))).2.2.2.1.1, (τ.2.1.2)), (σ.1, (σ.2.1, (σ.2.2.1, (((τ.2.1.1), σ.2.2.2.1.2), σ.2.2.2.2)))).2.2.2.2)))).2.2.2.1.1, (τ.2.1.2)), ((σ.1, (σ.2.1, (σ.2.2.1, (((τ.2.1.1), σ.2.2.2.1.2), σ.2.2.2.2)))).1, ((σ.1, (σ.2.1, (σ.2.2.1, (((τ.2.1.1), σ.2.2.2.1.2), σ.2.2.2.2)))).2.1, ((σ.1, (σ.2.1, (σ.2.2.1, (((τ.2.1.1), σ.2.2.2.1.2), σ.2.2.2.2)))).2.2.1, (((σ.1, (σ.2.1, (σ.2.2.1, (((τ.2.1.1), σ.2.2.2.1.2), σ.2.2.2.2)))).2.2.2.1.1, (τ.2.1.2)), (σ.1, (σ.2.1, (σ.2.2.1, (((τ.2.1.1), σ.2.2.2.1.2), σ.2.2.2.2)))).2.2.2.2)))).2.2.2.2)))).2.2.2.2.2.2.1, ((((σ.1, (σ.2.1, (σ.2.2.1, (((τ.2.1.1), σ.2.2.2.1.2), σ.2.2.2.2)))).1, ((σ.1, (σ.2.1, (σ.2.2.1, (((τ.2.1.1), σ.2.2.2.1.2), σ.2.2.2.2)))).2.1, ((σ.1, (σ.2.1, (σ.2.2.1, (((τ.2.1.1), σ.2.2.2.1.2), σ.2.2.2.2)))).2.2.1, (((σ.1, (σ.2.1, (σ.2.2.1, (((τ.2.1.1), σ.2.2.2.1.2), σ.2.2.2.2)))).2.2.2.1.1, (τ.2.1.2)), (σ.1, (σ.2.1, (σ.2.2.1, (((τ.2.1.1), σ.2.2.2.1.2), σ.2.2.2.2)))).2.2.2.2)))).1, (((σ.1, (σ.2.1, (σ.2.2.1, (((τ.2.1.1), σ.2.2.2.1.2), σ.2.2.2.2)))).1, ((σ.1, (σ.2.1, (σ.2.2.1, (((τ.2.1.1), σ.2.2.2.1.2), σ.2.2.2.2)))).2.1, ((σ.1, (σ.2.1, (σ.2.2.1, (((τ.2.1.1), σ.2.2.2.1.2), σ.2.2.2.2)))).2.2.1, (((σ.1, (σ.2.1, (σ.2.2.1, (((τ.2.1.1), σ.2.2.2.1.2), σ.2.2.2.2)))).2.2.2.1.1, (τ.2.1.2)), (σ.1, (σ.2.1, (σ.2.2.1, (((τ.2.1.1), σ.2.2.2.1.2), σ.2.2.2.2)))).2.2.2.2)))).2.1, (((σ.1, (σ.2.1, (σ.2.2.1, (((τ.2.1.1), σ.2.2.2.1.2), σ.2.2.2.2)))).1, ((σ.1, (σ.2.1, (σ.2.2.1, (((τ.2.1.1), σ.2.2.2.1.2), σ.2.2.2.2)))).2.1, ((σ.1, (σ.2.1, (σ.2.2.1, (((τ.2.1.1), σ.2.2.2.1.2), σ.2.2.2.2)))).2.2.1, (((σ.1, (σ.2.1, (σ.2.2.1, (((τ.2.1.1), σ.2.2.2.1.2), σ.2.2.2.2)))).2.2.2.1.1, (τ.2.1.2)), (σ.1, (σ.2.1, (σ.2.2.1, (((τ.2.1.1), σ.2.2.2.1.2), σ.2.2.2.2)))).2.2.2.2)))).2.2.1, ((((σ.1, (σ.2.1, (σ.2.2.1, (((τ.2.1.1), σ.2.2.2.1.2), σ.2.2.2.2)))).1, ((σ.1, (σ.2.1, (σ.2.2.1, (((τ.2.1.1), σ.2.2.2.1.2), σ.2.2.2.2)))).2.1, ((σ.1, (σ.2.1, (σ.2.2.1, (((τ.2.1.1), σ.2.2.2.1.2), σ.2.2.2.2)))).2.2.1, (((σ.1, (σ.2.1, (σ.2.2.1, (((τ.2.1.1), σ.2.2.2.1.2), σ.2.2.2.2)))).2.2.2.1.1, (τ.2.1.2)), (σ.1, (σ.2.1, (σ.2.2.1, (((τ.2.1.1), σ.2.2.2.1.2), σ.2.2.2.2)))).2.2.2.2)))).2.2.2.1.1, (τ.2.1.2)), ((σ.1, (σ.2.1, (σ.2.2.1, (((τ.2.1.1), σ.2.2.2.1.2), σ.2.2.2.2)))).1, ((σ.1, (σ.2.1, (σ.2.2.1, (((τ.2.1.1), σ.2.2.2.1.2), σ.2.2.2.2)))).2.1, ((σ.1, (σ.2.1, (σ.2.2.1, (((τ.2.1.1), σ.2.2.2.1.2), σ.2.2.2.2)))).2.2.1, (((σ.1, (σ.2.1, (σ.2.2.1, (((τ.2.1.1), σ.2.2.2.1.2), σ.2.2.2.2)))).2.2.2.1.1, (τ.2.1.2)), (σ.1, (σ.2.1, (σ.2.2.1, (((τ.2.1.1), σ.2.2.2.1.2), σ.2.2.2.2)))).2.2.2.2)))).2.2.2.2)))).2.2.2.2.2.2.2.1, ((fun i => if i = j1 then (τ.2.2) else (((σ.1, (σ.2.1, (σ.2.2.1, (((τ.2.1.1), σ.2.2.2.1.2), σ.2.2.2.2)))).1, ((σ.1, (σ.2.1, (σ.2.2.1, (((τ.2.1.1), σ.2.2.2.1.2), σ.2.2.2.2)))).2.1, ((σ.1, (σ.2.1, (σ.2.2.1, (((τ.2.1.1), σ.2.2.2.1.2), σ.2.2.2.2)))).2.2.1, (((σ.1, (σ.2.1, (σ.2.2.1, (((τ.2.1.1), σ.2.2.2.1.2), σ.2.2.2.2)))).2.2.2.1.1, (τ.2.1.2)), (σ.1, (σ.2.1, (σ.2.2.1, (((τ.2.1.1), σ.2.2.2.1.2), σ.2.2.2.2)))).2.2.2.2)))).1, (((σ.1, (σ.2.1, (σ.2.2.1, (((τ.2.1.1), σ.2.2.2.1.2), σ.2.2.2.2)))).1, ((σ.1, (σ.2.1, (σ.2.2.1, (((τ.2.1.1), σ.2.2.2.1.2), σ.2.2.2.2)))).2.1, ((σ.1, (σ.2.1, (σ.2.2.1, (((τ.2.1.1), σ.2.2.2.1.2), σ.2.2.2.2)))).2.2.1, (((σ.1, (σ.2.1, (σ.2.2.1, (((τ.2.1.1), σ.2.2.2.1.2), σ.2.2.2.2)))).2.2.2.1.1, (τ.2.1.2)), (σ.1, (σ.2.1, (σ.2.2.1, (((τ.2.1.1), σ.2.2.2.1.2), σ.2.2.2.2)))).2.2.2.2)))).2.1, (((σ.1, (σ.2.1, (σ.2.2.1, (((τ.2.1.1), σ.2.2.2.1.2), σ.2.2.2.2)))).1, ((σ.1, (σ.2.1, (σ.2.2.1, (((τ.2.1.1), σ.2.2.2.1.2), σ.2.2.2.2)))).2.1, ((σ.1, (σ.2.1, (σ.2.2.1, (((τ.2.1.1), σ.2.2.2.1.2), σ.2.2.2.2)))).2.2.1, (((σ.1, (σ.2.1, (σ.2.2.1, (((τ.2.1.1), σ.2.2.2.1.2), σ.2.2.2.2)))).2.2.2.1.1, (τ.2.1.2)), (σ.1, (σ.2.1, (σ.2.2.1, (((τ.2.1.1), σ.2.2.2.1.2), σ.2.2.2.2)))).2.2.2.2)))).2.2.1, ((((σ.1, (σ.2.1, (σ.2.2.1, (((τ.2.1.1), σ.2.2.2.1.2), σ.2.2.2.2)))).1, ((σ.1, (σ.2.1, (σ.2.2.1, (((τ.2.1.1), σ.2.2.2.1.2), σ.2.2.2.2)))).2.1, ((σ.1, (σ.2.1, (σ.2.2.1, (((τ.2.1.1), σ.2.2.2.1.2), σ.2.2.2.2)))).2.2.1, (((σ.1, (σ.2.1, (σ.2.2.1, (((τ.2.1.1), σ.2.2.2.1.2), σ.2.2.2.2)))).2.2.2.1.1, (τ.2.1.2)), (σ.1, (σ.2.1, (σ.2.2.1, (((τ.2.1.1), σ.2.2.2.1.2), σ.2.2.2.2)))).2.2.2.2)))).2.2.2.1.1, (τ.2.1.2)), ((σ.1, (σ.2.1, (σ.2.2.1, (((τ.2.1.1), σ.2.2.2.1.2), σ.2.2.2.2)))).1, ((σ.1, (σ.2.1, (σ.2.2.1, (((τ.2.1.1), σ.2.2.2.1.2), σ.2.2.2.2)))).2.1, ((σ.1, (σ.2.1, (σ.2.2.1, (((τ.2.1.1), σ.2.2.2.1.2), σ.2.2.2.2)))).2.2.1, (((σ.1, (σ.2.1, (σ.2.2.1, (((τ.2.1.1), σ.2.2.2.1.2), σ.2.2.2.2)))).2.2.2.1.1, (τ.2.1.2)), (σ.1, (σ.2.1, (σ.2.2.1, (((τ.2.1.1), σ.2.2.2.1.2), σ.2.2.2.2)))).2.2.2.2)))).2.2.2.2)))).2.2.2.2.2.2.2.2.1 i), (((σ.1, (σ.2.1, (σ.2.2.1, (((τ.2.1.1), σ.2.2.2.1.2), σ.2.2.2.2)))).1, ((σ.1, (σ.2.1, (σ.2.2.1, (((τ.2.1.1), σ.2.2.2.1.2), σ.2.2.2.2)))).2.1, ((σ.1, (σ.2.1, (σ.2.2.1, (((τ.2.1.1), σ.2.2.2.1.2), σ.2.2.2.2)))).2.2.1, (((σ.1, (σ.2.1, (σ.2.2.1, (((τ.2.1.1), σ.2.2.2.1.2), σ.2.2.2.2)))).2.2.2.1.1, (τ.2.1.2)), (σ.1, (σ.2.1, (σ.2.2.1, (((τ.2.1.1), σ.2.2.2.1.2), σ.2.2.2.2)))).2.2.2.2)))).1, (((σ.1, (σ.2.1, (σ.2.2.1, (((τ.2.1.1), σ.2.2.2.1.2), σ.2.2.2.2)))).1, ((σ.1, (σ.2.1, (σ.2.2.1, (((τ.2.1.1), σ.2.2.2.1.2), σ.2.2.2.2)))).2.1, ((σ.1, (σ.2.1, (σ.2.2.1, (((τ.2.1.1), σ.2.2.2.1.2), σ.2.2.2.2)))).2.2.1, (((σ.1, (σ.2.1, (σ.2.2.1, (((τ.2.1.1), σ.2.2.2.1.2), σ.2.2.2.2)))).2.2.2.1.1, (τ.2.1.2)), (σ.1, (σ.2.1, (σ.2.2.1, (((τ.2.1.1), σ.2.2.2.1.2), σ.2.2.2.2)))).2.2.2.2)))).2.1, (((σ.1, (σ.2.1, (σ.2.2.1, (((τ.2.1.1), σ.2.2.2.1.2), σ.2.2.2.2)))).1, ((σ.1, (σ.2.1, (σ.2.2.1, (((τ.2.1.1), σ.2.2.2.1.2), σ.2.2.2.2)))).2.1, ((σ.1, (σ.2.1, (σ.2.2.1, (((τ.2.1.1), σ.2.2.2.1.2), σ.2.2.2.2)))).2.2.1, (((σ.1, (σ.2.1, (σ.2.2.1, (((τ.2.1.1), σ.2.2.2.1.2), σ.2.2.2.2)))).2.2.2.1.1, (τ.2.1.2)), (σ.1, (σ.2.1, (σ.2.2.1, (((τ.2.1.1), σ.2.2.2.1.2), σ.2.2.2.2)))).2.2.2.2)))).2.2.1, ((((σ.1, (σ.2.1, (σ.2.2.1, (((τ.2.1.1), σ.2.2.2.1.2), σ.2.2.2.2)))).1, ((σ.1, (σ.2.1, (σ.2.2.1, (((τ.2.1.1), σ.2.2.2.1.2), σ.2.2.2.2)))).2.1, ((σ.1, (σ.2.1, (σ.2.2.1, (((τ.2.1.1), σ.2.2.2.1.2), σ.2.2.2.2)))).2.2.1, (((σ.1, (σ.2.1, (σ.2.2.1, (((τ.2.1.1), σ.2.2.2.1.2), σ.2.2.2.2)))).2.2.2.1.1, (τ.2.1.2)), (σ.1, (σ.2.1, (σ.2.2.1, (((τ.2.1.1), σ.2.2.2.1.2), σ.2.2.2.2)))).2.2.2.2)))).2.2.2.1.1, (τ.2.1.2)), ((σ.1, (σ.2.1, (σ.2.2.1, (((τ.2.1.1), σ.2.2.2.1.2), σ.2.2.2.2)))).1, ((σ.1, (σ.2.1, (σ.2.2.1, (((τ.2.1.1), σ.2.2.2.1.2), σ.2.2.2.2)))).2.1, ((σ.1, (σ.2.1, (σ.2.2.1, (((τ.2.1.1), σ.2.2.2.1.2), σ.2.2.2.2)))).2.2.1, (((σ.1, (σ.2.1, (σ.2.2.1, (((τ.2.1.1), σ.2.2.2.1.2), σ.2.2.2.2)))).2.2.2.1.1, (τ.2.1.2)), (σ.1, (σ.2.1, (σ.2.2.1, (((τ.2.1.1), σ.2.2.2.1.2), σ.2.2.2.2)))).2.2.2.2)))).2.2.2.2)))).2.2.2.2.2.2.2.2.2))))))))) := dz_X12_P8 hj1
  have ee : nd_sets (dg_X12 a ac σ) [4, 5, 6, 18 + j1] [dwo_X1 (fun k => a (k + 4)) (fun k => ac (k + 4)) (τ.2.1.1), dwc_X9 (fun k => a (k + 7)) (fun k => ac (k + 7)) (τ.2.1.2), [(a 15, .inl (ac 15, 32768, .inl (sR (τ.2.1.2) 7)))], dw_X8 (fun k => a (k + j1 * 5 + 57)) (fun k => ac (k + j1 * 5 + 57)) (τ.2.2)] = dg_X12 a ac ((((σ.1, (σ.2.1, (σ.2.2.1, (((τ.2.1.1), σ.2.2.2.1.2), σ.2.2.2.2)))).1, ((σ.1, (σ.2.1, (σ.2.2.1, (((τ.2.1.1), σ.2.2.2.1.2), σ.2.2.2.2)))).2.1, ((σ.1, (σ.2.1, (σ.2.2.1, (((τ.2.1.1), σ.2.2.2.1.2), σ.2.2.2.2)))).2.2.1, (((σ.1, (σ.2.1, (σ.2.2.1, (((τ.2.1.1), σ.2.2.2.1.2), σ.2.2.2.2)))).2.2.2.1.1, (τ.2.1.2)), (σ.1, (σ.2.1, (σ.2.2.1, (((τ.2.1.1), σ.2.2.2.1.2), σ.2.2.2.2)))).2.2.2.2)))).1, (((σ.1, (σ.2.1, (σ.2.2.1, (((τ.2.1.1), σ.2.2.2.1.2), σ.2.2.2.2)))).1, ((σ.1, (σ.2.1, (σ.2.2.1, (((τ.2.1.1), σ.2.2.2.1.2), σ.2.2.2.2)))).2.1, ((σ.1, (σ.2.1, (σ.2.2.1, (((τ.2.1.1), σ.2.2.2.1.2), σ.2.2.2.2)))).2.2.1, (((σ.1, (σ.2.1, (σ.2.2.1, (((τ.2.1.1), σ.2.2.2.1.2), σ.2.2.2.2)))).2.2.2.1.1, (τ.2.1.2)), (σ.1, (σ.2.1, (σ.2.2.1, (((τ.2.1.1), σ.2.2.2.1.2), σ.2.2.2.2)))).2.2.2.2)))).2.1, (((σ.1, (σ.2.1, (σ.2.2.1, (((τ.2.1.1), σ.2.2.2.1.2), σ.2.2.2.2)))).1, ((σ.1, (σ.2.1, (σ.2.2.1, (((τ.2.1.1), σ.2.2.2.1.2), σ.2.2.2.2)))).2.1, ((σ.1, (σ.2.1, (σ.2.2.1, (((τ.2.1.1), σ.2.2.2.1.2), σ.2.2.2.2)))).2.2.1, (((σ.1, (σ.2.1, (σ.2.2.1, (((τ.2.1.1), σ.2.2.2.1.2), σ.2.2.2.2)))).2.2.2.1.1, (τ.2.1.2)), (σ.1, (σ.2.1, (σ.2.2.1, (((τ.2.1.1), σ.2.2.2.1.2), σ.2.2.2.2)))).2.2.2.2)))).2.2.1, ((((σ.1, (σ.2.1, (σ.2.2.1, (((τ.2.1.1), σ.2.2.2.1.2), σ.2.2.2.2)))).1, ((σ.1, (σ.2.1, (σ.2.2.1, (((τ.2.1.1), σ.2.2.2.1.2), σ.2.2.2.2)))).2.1, ((σ.1, (σ.2.1, (σ.2.2.1, (((τ.2.1.1), σ.2.2.2.1.2), σ.2.2.2.2)))).2.2.1, (((σ.1, (σ.2.1, (σ.2.2.1, (((τ.2.1.1), σ.2.2.2.1.2), σ.2.2.2.2)))).2.2.2.1.1, (τ.2.1.2)), (σ.1, (σ.2.1, (σ.2.2.1, (((τ.2.1.1), σ.2.2.2.1.2), σ.2.2.2.2)))).2.2.2.2)))).2.2.2.1.1, (τ.2.1.2)), ((σ.1, (σ.2.1, (σ.2.2.1, (((τ.2.1.1), σ.2.2.2.1.2), σ.2.2.2.2)))).1, ((σ.1, (σ.2.1, (σ.2.2.1, (((τ.2.1.1), σ.2.2.2.1.2), σ.2.2.2.2)))).2.1, ((σ.1, (σ.2.1, (σ.2.2.1, (((τ.2.1.1), σ.2.2.2.1.2), σ.2.2.2.2)))).2.2.1, (((σ.1, (σ.2.1, (σ.2.2.1, (((τ.2.1.1), σ.2.2.2.1.2), σ.2.2.2.2)))).2.2.2.1.1, (τ.2.1.2)), (σ.1, (σ.2.1, (σ.2.2.1, (((τ.2.1.1), σ.2.2.2.1.2), σ.2.2.2.2)))).2.2.2.2)))).2.2.2.2)))).1, ((((σ.1, (σ.2.1, (σ.2.2.1, (((τ.2.1.1), σ.2.2.2.1.2), σ.2.2.2.2)))).1, ((σ.1, (σ.2.1, (σ.2.2.1, (((τ.2.1.1), σ.2.2.2.1.2), σ.2.2.2.2)))).2.1, ((σ.1, (σ.2.1, (σ.2.2.1, (((τ.2.1.1), σ.2.2.2.1.2), σ.2.2.2.2)))).2.2.1, (((σ.1, (σ.2.1, (σ.2.2.1, (((τ.2.1.1), σ.2.2.2.1.2), σ.2.2.2.2)))).2.2.2.1.1, (τ.2.1.2)), (σ.1, (σ.2.1, (σ.2.2.1, (((τ.2.1.1), σ.2.2.2.1.2), σ.2.2.2.2)))).2.2.2.2)))).1, (((σ.1, (σ.2.1, (σ.2.2.1, (((τ.2.1.1), σ.2.2.2.1.2), σ.2.2.2.2)))).1, ((σ.1, (σ.2.1, (σ.2.2.1, (((τ.2.1.1), σ.2.2.2.1.2), σ.2.2.2.2)))).2.1, ((σ.1, (σ.2.1, (σ.2.2.1, (((τ.2.1.1), σ.2.2.2.1.2), σ.2.2.2.2)))).2.2.1, (((σ.1, (σ.2.1, (σ.2.2.1, (((τ.2.1.1), σ.2.2.2.1.2), σ.2.2.2.2)))).2.2.2.1.1, (τ.2.1.2)), (σ.1, (σ.2.1, (σ.2.2.1, (((τ.2.1.1), σ.2.2.2.1.2), σ.2.2.2.2)))).2.2.2.2)))).2.1, (((σ.1, (σ.2.1, (σ.2.2.1, (((τ.2.1.1), σ.2.2.2.1.2), σ.2.2.2.2)))).1, ((σ.1, (σ.2.1, (σ.2.2.1, (((τ.2.1.1), σ.2.2.2.1.2), σ.2.2.2.2)))).2.1, ((σ.1, (σ.2.1, (σ.2.2.1, (((τ.2.1.1), σ.2.2.2.1.2), σ.2.2.2.2)))).2.2.1, (((σ.1, (σ.2.1, (σ.2.2.1, (((τ.2.1.1), σ.2.2.2.1.2), σ.2.2.2.2)))).2.2.2.1.1, (τ.2.1.2)), (σ.1, (σ.2.1, (σ.2.2.1, (((τ.2.1.1), σ.2.2.2.1.2), σ.2.2.2.2)))).2.2.2.2)))).2.2.1, ((((σ.1, (σ.2.1, (σ.2.2.1, (((τ.2.1.1), σ.2.2.2.1.2), σ.2.2.2.2)))).1, ((σ.1, (σ.2.1, (σ.2.2.1, (((τ.2.1.1), σ.2.2.2.1.2), σ.2.2.2.2)))).2.1, ((σ.1, (σ.2.1, (σ.2.2.1, (((τ.2.1.1), σ.2.2.2.1.2), σ.2.2.2.2)))).2.2.1, (((σ.1, (σ.2.1, (σ.2.2.1, (((τ.2.1.1), σ.2.2.2.1.2), σ.2.2.2.2)))).2.2.2.1.1, (τ.2.1.2)), (σ.1, (σ.2.1, (σ.2.2.1, (((τ.2.1.1), σ.2.2.2.1.2), σ.2.2.2.2)))).2.2.2.2)))).2.2.2.1.1, (τ.2.1.2)), ((σ.1, (σ.2.1, (σ.2.2.1, (((τ.2.1.1), σ.2.2.2.1.2), σ.2.2.2.2)))).1, ((σ.1, (σ.2.1, (σ.2.2.1, (((τ.2.1.1), σ.2.2.2.1.2), σ.2.2.2.2)))).2.1, ((σ.1, (σ.2.1, (σ.2.2.1, (((τ.2.1.1), σ.2.2.2.1.2), σ.2.2.2.2)))).2.2.1, (((σ.1, (σ.2.1, (σ.2.2.1, (((τ.2.1.1), σ.2.2.2.1.2), σ.2.2.2.2)))).2.2.2.1.1, (τ.2.1.2)), (σ.1, (σ.2.1, (σ.2.2.1, (((τ.2.1.1), σ.2.2.2.1.2), σ.2.2.2.2)))).2.2.2.2)))).2.2.2.2)))).2.1, ((((σ.1, (σ.2.1, (σ.2.2.1, (((τ.2.1.1), σ.2.2.2.1.2), σ.2.2.2.2)))).1, ((σ.1, (σ.2.1, (σ.2.2.1, (((τ.2.1.1), σ.2.2.2.1.2), σ.2.2.2.2)))).2.1, ((σ.1, (σ.2.1, (σ.2.2.1, (((τ.2.1.1), σ.2.2.2.1.2), σ.2.2.2.2)))).2.2.1, (((σ.1, (σ.2.1, (σ.2.2.1, (((τ.2.1.1), σ.2.2.2.1.2), σ.2.2.2.2)))).2.2.2.1.1, (τ.2.1.2)), (σ.1, (σ.2.1, (σ.2.2.1, (((τ.2.1.1), σ.2.2.2.1.2), σ.2.2.2.2)))).2.2.2.2)))).1, (((σ.1, (σ.2.1, (σ.2.2.1, (((τ.2.1.1), σ.2.2.2.1.2), σ.2.2.2.2)))).1, ((σ.1, (σ.2.1, (σ.2.2.1, (((τ.2.1.1), σ.2.2.2.1.2), σ.2.2.2.2)))).2.1, ((σ.1, (σ.2.1, (σ.2.2.1, (((τ.2.1.1), σ.2.2.2.1.2), σ.2.2.2.2)))).2.2.1, (((σ.1, (σ.2.1, (σ.2.2.1, (((τ.2.1.1), σ.2.2.2.1.2), σ.2.2.2.2)))).2.2.2.1.1, (τ.2.1.2)), (σ.1, (σ.2.1, (σ.2.2.1, (((τ.2.1.1), σ.2.2.2.1.2), σ.2.2.2.2)))).2.2.2.2)))).2.1, (((σ.1, (σ.2.1, (σ.2.2.1, (((τ.2.1.1), σ.2.2.2.1.2), σ.2.2.2.2)))).1, ((σ.1, (σ.2.1, (σ.2.2.1, (((τ.2.1.1), σ.2.2.2.1.2), σ.2.2.2.2)))).2.1, ((σ.1, (σ.2.1, (σ.2.2.1, (((τ.2.1.1), σ.2.2.2.1.2), σ.2.2.2.2)))).2.2.1, (((σ.1, (σ.2.1, (σ.2.2.1, (((τ.2.1.1), σ.2.2.2.1.2), σ.2.2.2.2)))).2.2.2.1.1, (τ.2.1.2)), (σ.1, (σ.2.1, (σ.2.2.1, (((τ.2.1.1), σ.2.2.2.1.2), σ.2.2.2.2)))).2.2.2.2)))).2.2.1, ((((σ.1, (σ.2.1, (σ.2.2.1, (((τ.2.1.1), σ.2.2.2.1.2), σ.2.2.2.2)))).1, ((σ.1, (σ.2.1, (σ.2.2.1, (((τ.2.1.1), σ.2.2.2.1.2), σ.2.2.2.2)))).2.1, ((σ.1, (σ.2.1, (σ.2.2.1, (((τ.2.1.1), σ.2.2.2.1.2), σ.2.2.2.2)))).2.2.1, (((σ.1, (σ.2.1, (σ.2.2.1, (((τ.2.1.1), σ.2.2.2.1.2), σ.2.2.2.2)))).2.2.2.1.1, (τ.2.1.2)), (σ.1, (σ.2.1, (σ.2.2.1, (((τ.2.1.1), σ.2.2.2.1.2), σ.2.2.2.2)))).2.2.2.2)))).2.2.2.1.1, (τ.2.1.2)), ((σ.1, (σ.2.1, (σ.2.2.1, (((τ.2.1.1), σ.2.2.2.1.2), σ.2.2.2.2)))).1, ((σ.1, (σ.2.1, (σ.2.2.1, (((τ.2.1.1), σ.2.2.2.1.2), σ.2.2.2.2)))).2.1, ((σ.1, (σ.2.1, (σ.2.2.1, (((τ.2.1.1), σ.2.2.2.1.2), σ.2.2.2.2)))).2.2.1, (((σ.1, (σ.2.1, (σ.2.2.1, (((τ.2.1.1), σ.2.2.2.1.2), σ.2.2.2.2)))).2.2.2.1.1, (τ.2.1.2)), (σ.1, (σ.2.1, (σ.2.2.1, (((τ.2.1.1), σ.2.2.2.1.2), σ.2.2.2.2)))).2.2.2.2)))).2.2.2.2)))).2.2.1, ((((σ.1, (σ.2.1, (σ.2.2.1, (((τ.2.1.1), σ.2.2.2.1.2), σ.2.2.2.2)))).1, ((σ.1, (σ.2.1, (σ.2.2.1, (((τ.2.1.1), σ.2.2.2.1.2), σ.2.2.2.2)))).2.1, ((σ.1, (σ.2.1, (σ.2.2.1, (((τ.2.1.1), σ.2.2.2.1.2), σ.2.2.2.2)))).2.2.1, (((σ.1, (σ.2.1, (σ.2.2.1, (((τ.2.1.1), σ.2.2.2.1.2), σ.2.2.2.2)))).2.2.2.1.1, (τ.2.1.2)), (σ.1, (σ.2.1, (σ.2.2.1, (((τ.2.1.1), σ.2.2.2.1.2), σ.2.2.2.2)))).2.2.2.2)))).1, (((σ.1, (σ.2.1, (σ.2.2.1, (((τ.2.1.1), σ.2.2.2.1.2), σ.2.2.2.2)))).1, ((σ.1, (σ.2.1, (σ.2.2.1, (((τ.2.1.1), σ.2.2.2.1.2), σ.2.2.2.2)))).2.1, ((σ.1, (σ.2.1, (σ.2.2.1, (((τ.2.1.1), σ.2.2.2.1.2), σ.2.2.2.2)))).2.2.1, (((σ.1, (σ.2.1, (σ.2.2.1, (((τ.2.1.1), σ.2.2.2.1.2), σ.2.2.2.2)))).2.2.2.1.1, (τ.2.1.2)), (σ.1, (σ.2.1, (σ.2.2.1, (((τ.2.1.1), σ.2.2.2.1.2), σ.2.2.2.2)))).2.2.2.2)))).2.1, (((σ.1, (σ.2.1, (σ.2.2.1, (((τ.2.1.1), σ.2.2.2.1.2), σ.2.2.2.2)))).1, ((σ.1, (σ.2.1, (σ.2.2.1, (((τ.2.1.1), σ.2.2.2.1.2), σ.2.2.2.2)))).2.1, ((σ.1, (σ.2.1, (σ.2.2.1, (((τ.2.1.1), σ.2.2.2.1.2), σ.2.2.2.2)))).2.2.1, (((σ.1, (σ.2.1, (σ.2.2.1, (((τ.2.1.1), σ.2.2.2.1.2), σ.2.2.2.2)))).2.2.2.1.1, (τ.2.1.2)), (σ.1, (σ.2.1, (σ.2.2.1, (((τ.2.1.1), σ.2.2.2.1.2), σ.2.2.2.2)))).2.2.2.2)))).2.2.1, ((((σ.1, (σ.2.1, (σ.2.2.1, (((τ.2.1.1), σ.2.2.2.1.2), σ.2.2.2.2)))).1, ((σ.1, (σ.2.1, (σ.2.2.1, (((τ.2.1.1), σ.2.2.2.1.2), σ.2.2.2.2)))).2.1, ((σ.1, (σ.2.1, (σ.2.2.1, (((τ.2.1.1), σ.2.2.2.1.2), σ.2.2.2.2)))).2.2.1, (((σ.1, (σ.2.1, (σ.2.2.1, (((τ.2.1.1), σ.2.2.2.1.2), σ.2.2.2.2)))).2.2.2.1.1, (τ.2.1.2)), (σ.1, (σ.2.1, (σ.2.2.1, (((τ.2.1.1), σ.2.2.2.1.2), σ.2.2.2.2)))).2.2.2.2)))).2.2.2.1.1, (τ.2.1.2)), ((σ.1, (σ.2.1, (σ.2.2.1, (((τ.2.1.1), σ.2.2.2.1.2), σ.2.2.2.2)))).1, ((σ.1, (σ.2.1, (σ.2.2.1, (((τ.2.1.1), σ.2.2.2.1.2), σ.2.2.2.2)))).2.1, ((σ.1, (σ.2.1, (σ.2.2.1, (((τ.2.1.1), σ.2.2.2.1.2), σ.2.2.2.2)))).2.2.1, (((σ.1, (σ.2.1, (σ.2.2.1, (((τ.2.1.1), σ.2.2.2.1.2), σ.2.2.2.2)))).2.2.2.1.1, (τ.2.1.2)), (σ.1, (σ.2.1, (σ.2.2.1, (((τ.2.1.1), σ.2.2.2.1.2), σ.2.2.2.2)))).2.2.2.2)))).2.2.2.2)))).2.2.2.1, ((((σ.1, (σ.2.1, (σ.2.2.1, (((τ.2.1.1), σ.2.2.2.1.2), σ.2.2.2.2)))).1, ((σ.1, (σ.2.1, (σ.2.2.1, (((τ.2.1.1), σ.2.2.2.1.2), σ.2.2.2.2)))).2.1, ((σ.1, (σ.2.1, (σ.2.2.1, (((τ.2.1.1), σ.2.2.2.1.2), σ.2.2.2.2)))).2.2.1, (((σ.1, (σ.2.1, (σ.2.2.1, (((τ.2.1.1), σ.2.2.2.1.2), σ.2.2.2.2)))).2.2.2.1.1, (τ.2.1.2)), (σ.1, (σ.2.1, (σ.2.2.1, (((τ.2.1.1), σ.2.2.2.1.2), σ.2.2.2.2)))).2.2.2.2)))).1, (((σ.1, (σ.2.1, (σ.2.2.1, (((τ.2.1.1), σ.2.2.2.1.2), σ.2.2.2.2)))).1, ((σ.1, (σ.2.1, (σ.2.2.1, (((τ.2.1.1), σ.2.2.2.1.2), σ.2.2.2.2)))).2.1, ((σ.1, (σ.2.1, (σ.2.2.1, (((τ.2.1.1), σ.2.2.2.1.2), σ.2.2.2.2)))).2.2.1, (((σ.1, (σ.2.1, (σ.2.2.1, (((τ.2.1.1), σ.2.2.2.1.2), σ.2.2.2.2)))).2.2.2.1.1, (τ.2.1.2)), (σ.1, (σ.2.1, (σ.2.2.1, (((τ.2.1.1), σ.2.2.2.1.2), σ.2.2.2.2)))).2.2.2.2)))).2.1, (((σ.1, (σ.2.1, (σ.2.2.1, (((τ.2.1.1), σ.2.2.2.1.2), σ.2.2.2.2)))).1, ((σ.1, (σ.2.1, (σ.2.2.1, (((τ.2.1.1), σ.2.2.2.1.2), σ.2.2.2.2)))).2.1, ((σ.1, (σ.2.1, (σ.2.2.1, (((τ.2.1.1), σ.2.2.2.1.2), σ.2.2.2.2)))).2.2.1, (((σ.1, (σ.2.1, (σ.2.2.1, (((τ.2.1.1), σ.2.2.2.1.2), σ.2.2.2.2)))).2.2.2.1.1, (τ.2.1.2)), (σ.1, (σ.2.1, (σ.2.2.1, (((τ.2.1.1), σ.2.2.2.1.2), σ.2.2.2.2)))).2.2.2.2)))).2.2.1, ((((σ.1, (σ.2.1, (σ.2.2.1, (((τ.2.1.1), σ.2.2.2.1.2), σ.2.2.2.2)))).1, ((σ.1, (σ.2.1, (σ.2.2.1, (((τ.2.1.1), σ.2.2.2.1.2), σ.2.2.2.2)))).2.1, ((σ.1, (σ.2.1, (σ.2.2.1, (((τ.2.1.1), σ.2.2.2.1.2), σ.2.2.2.2)))).2.2.1, (((σ.1, (σ.2.1, (σ.2.2.1, (((τ.2.1.1), σ.2.2.2.1.2), σ.2.2.2.2)))).2.2.2.1.1, (τ.2.1.2)), (σ.1, (σ.2.1, (σ.2.2.1, (((τ.2.1.1), σ.2.2.2.1.2), σ.2.2.2.2)))).2.2.2.2)))).2.2.2.1.1, (τ.2.1.2)), ((σ.1, (σ.2.1, (σ.2.2.1, (((τ.2.1.1), σ.2.2.2.1.2), σ.2.2.2.2)))).1, ((σ.1, (σ.2.1, (σ.2.2.1, (((τ.2.1.1), σ.2.2.2.1.2), σ.2.2.2.2)))).2.1, ((σ.1, (σ.2.1, (σ.2.2.1, (((τ.2.1.1), σ.2.2.2.1.2), σ.2.2.2.2)))).2.2.1, (((σ.1, (σ.2.1, (σ.2.2.1, (((τ.2.1.1), σ.2.2.2.1.2), σ.2.2.2.2)))).2.2.2.1.1, (τ.2.1.2)), (σ.1, (σ.2.1, (σ.2.2.1, (((τ.2.1.1), σ.2.2.2.1.2), σ.2.2.2.2)))).2.2.2.2)))).2.2.2.2)))).2.2.2.2.1, ((((σ.1, (σ.2.1, (σ.2.2.1, (((τ.2.1.1), σ.2.2.2.1.2), σ.2.2.2.2)))).1, ((σ.1, (σ.2.1, (σ.2.2.1, (((τ.2.1.1), σ.2.2.2.1.2), σ.2.2.2.2)))).2.1, ((σ.1, (σ.2.1, (σ.2.2.1, (((τ.2.1.1), σ.2.2.2.1.2), σ.2.2.2.2)))).2.2.1, (((σ.1, (σ.2.1, (σ.2.2.1, (((τ.2.1.1), σ.2.2.2.1.2), σ.2.2.2.2)))).2.2.2.1.1, (τ.2.1.2)), (σ.1, (σ.2.1, (σ.2.2.1, (((τ.2.1.1), σ.2.2.2.1.2), σ.2.2.2.2)))).2.2.2.2)))).1, (((σ.1, (σ.2.1, (σ.2.2.1, (((τ.2.1.1), σ.2.2.2.1.2), σ.2.2.2.2)))).1, ((σ.1, (σ.2.1, (σ.2.2.1, (((τ.2.1.1), σ.2.2.2.1.2), σ.2.2.2.2)))).2.1, ((σ.1, (σ.2.1, (σ.2.2.1, (((τ.2.1.1), σ.2.2.2.1.2), σ.2.2.2.2)))).2.2.1, (((σ.1, (σ.2.1, (σ.2.2.1, (((τ.2.1.1), σ.2.2.2.1.2), σ.2.2.2.2)))).2.2.2.1.1, (τ.2.1.2)), (σ.1, (σ.2.1, (σ.2.2.1, (((τ.2.1.1), σ.2.2.2.1.2), σ.2.2.2.2)))).2.2.2.2)))).2.1, (((σ.1, (σ.2.1, (σ.2.2.1, (((τ.2.1.1), σ.2.2.2.1.2), σ.2.2.2.2)))).1, ((σ.1, (σ.2.1, (σ.2.2.1, (((τ.2.1.1), σ.2.2.2.1.2), σ.2.2.2.2)))).2.1, ((σ.1, (σ.2.1, (σ.2.2.1, (((τ.2.1.1), σ.2.2.2.1.2), σ.2.2.2.2)))).2.2.1, (((σ.1, (σ.2.1, (σ.2.2.1, (((τ.2.1.1), σ.2.2.2.1.2), σ.2.2.2.2)))).2.2.2.1.1, (τ.2.1.2)), (σ.1, (σ.2.1, (σ.2.2.1, (((τ.2.1.1), σ.2.2.2.1.2), σ.2.2.2.2)))).2.2.2.2)))).2.2.1, ((((σ.1, (σ.2.1, (σ.2.2.1, (((τ.2.1.1), σ.2.2.2.1.2), σ.2.2.2.2)))).1, ((σ.1, (σ.2.1, (σ.2.2.1, (((τ.2.1.1), σ.2.2.2.1.2), σ.2.2.2.2)))).2.1, ((σ.1, (σ.2.1, (σ.2.2.1, (((τ.2.1.1), σ.2.2.2.1.2), σ.2.2.2.2)))).2.2.1, (((σ.1, (σ.2.1, (σ.2.2.1, (((τ.2.1.1), σ.2.2.2.1.2), σ.2.2.2.2)))).2.2.2.1.1, (τ.2.1.2)), (σ.1, (σ.2.1, (σ.2.2.1, (((τ.2.1.1), σ.2.2.2.1.2), σ.2.2.2.2)))).2.2.2.2)))).2.2.2.1.1, (τ.2.1.2)), ((σ.1, (σ.2.1, (σ.2.2.1, (((τ.2.1.1), σ.2.2.2.1.2), σ.2.2.2.2)))).1, ((σ.1, (σ.2.1, (σ.2.2.1, (((τ.2.1.1), σ.2.2.2.1.2), σ.2.2.2.2)))).2.1, ((σ.1, (σ.2.1, (σ.2.2.1, (((τ.2.1.1), σ.2.2.2.1.2), σ.2.2.2.2)))).2.2.1, (((σ.1, (σ.2.1, (σ.2.2.1, (((τ.2.1.1), σ.2.2.2.1.2), σ.2.2.2.2)))).2.2.2.1.1, (τ.2.1.2)), (σ.1, (σ.2.1, (σ.2.2.1, (((τ.2.1.1), σ.2.2.2.1.2), σ.2.2.2.2)))).2.2.2.2)))).2.2.2.2)))).2.2.2.2.2.1, ((((σ.1, (σ.2.1, (σ.2.2.1, (((τ.2.1.1), σ.2.2.2.1.2), σ.2.2.2.2)))).1, ((σ.1, (σ.2.1, (σ.2.2.1, (((τ.2.1.1), σ.2.2.2.1.2), σ.2.2.2.2)))).2.1, ((σ.1, (σ.2.1, (σ.2.2.1, (((τ.2.1.1), σ.2.2.2.1.2), σ.2.2.2.2)))).2.2.1, (((σ.1, (σ.2.1, (σ.2.2.1, (((τ.2.1.1), σ.2.2.2.1.2), σ.2.2.2.2)))).2.2.2.1.1, (τ.2.1.2)), (σ.1, (σ.2.1, (σ.2.2.1, (((τ.2.1.1), σ.2.2.2.1.2), σ.2.2.2.2)))).2.2.2.2)))).1, (((σ.1, (σ.2.1, (σ.2.2.1, (((τ.2.1.1), σ.2.2.2.1.2), σ.2.2.2.2)))).1, ((σ.1, (σ.2.1, (σ.2.2.1, (((τ.2.1.1), σ.2.2.2.1.2), σ.2.2.2.2)))).2.1, ((σ.1, (σ.2.1, (σ.2.2.1, (((τ.2.1.1), σ.2.2.2.1.2), σ.2.2.2.2)))).2.2.1, (((σ.1, (σ.2.1, (σ.2.2.1, (((τ.2.1.1), σ.2.2.2.1.2), σ.2.2.2.2)))).2.2.2.1.1, (τ.2.1.2)), (σ.1, (σ.2.1, (σ.2.2.1, (((τ.2.1.1), σ.2.2.2.1.2), σ.2.2.2.2)))).2.2.2.2)))).2.1, (((σ.1, (σ.2.1, (σ.2.2.1, (((τ.2.1.1), σ.2.2.2.1.2), σ.2.2.2.2)))).1, ((σ.1, (σ.2.1, (σ.2.2.1, (((τ.2.1.1), σ.2.2.2.1.2), σ.2.2.2.2)))).2.1, ((σ.1, (σ.2.1, (σ.2.2.1, (((τ.2.1.1), σ.2.2.2.1.2), σ.2.2.2.2)))).2.2.1, (((σ.1, (σ.2.1, (σ.2.2.1, (((τ.2.1.1), σ.2.2.2.1.2), σ.2.2.2.2)))).2.2.2.1.1, (τ.2.1.2)), (σ.1, (σ.2.1, (σ.2.2.1, (((τ.2.1.1), σ.2.2.2.1.2), σ.2.2.2.2)))).2.2.2.2)))).2.2.1, ((((σ.1, (σ.2.1, (σ.2.2.1, (((τ.2.1.1), σ.2.2.2.1.2), σ.2.2.2.2)))).1, ((σ.1, (σ.2.1, (σ.2.2.1, (((τ.2.1.1), σ.2.2.2.1.2), σ.2.2.2.2)))).2.1, ((σ.1, (σ.2.1, (σ.2.2.1, (((τ.2.1.1), σ.2.2.2.1.2), σ.2.2.2.2)))).2.2.1, (((σ.1, (σ.2.1, (σ.2.2.1, (((τ.2.1.1), σ.2.2.2.1.2), σ.2.2.2.2)))).2.2.2.1.1, (τ.2.1.2)), (σ.1, (σ.2.1, (σ.2.2.1, (((τ.2.1.1), σ.2.2.2.1.2), σ.2.2.2.2)))).2.2.2.2)))).2.2.2.1.1, (τ.2.1.2)), ((σ.1, (σ.2.1, (σ.2.2.1, (((τ.2.1.1), σ.2.2.2.1.2), σ.2.2.2.2)))).1, ((σ.1, (σ.2.1, (σ.2.2.1, (((τ.2.1.1), σ.2.2.2.1.2), σ.2.2.2.2)))).2.1, ((σ.1, (σ.2.1, (σ.2.2.1, (((τ.2.1.1), σ.2.2.2.1.2), σ.2.2.2.2)))).2.2.1, (((σ.1, (σ.2.1, (σ.2.2.1, (((τ.2.1.1), σ.2.2.2.1.2), σ.2.2.2.2)))).2.2.2.1.1, (τ.2.1.2)), (σ.1, (σ.2.1, (σ.2.2.1, (((τ.2.1.1), σ.2.2.2.1.2), σ.2.2.2.2)))).2.2.2.2)))).2.2.2.2)))).2.2.2.2.2.2.1, ((((σ.1, (σ.2.1, (σ.2.2.1, (((τ.2.1.1), σ.2.2.2.1.2), σ.2.2.2.2)))).1, ((σ.1, (σ.2.1, (σ.2.2.1, (((τ.2.1.1), σ.2.2.2.1.2), σ.2.2.2.2)))).2.1, ((σ.1, (σ.2.1, (σ.2.2.1, (((τ.2.1.1), σ.2.2.2.1.2), σ.2.2.2.2)))).2.2.1, (((σ.1, (σ.2.1, (σ.2.2.1, (((τ.2.1.1), σ.2.2.2.1.2), σ.2.2.2.2)))).2.2.2.1.1, (τ.2.1.2)), (σ.1, (σ.2.1, (σ.2.2.1, (((τ.2.1.1), σ.2.2.2.1.2), σ.2.2.2.2)))).2.2.2.2)))).1, (((σ.1, (σ.2.1, (σ.2.2.1, (((τ.2.1.1), σ.2.2.2.1.2), σ.2.2.2.2)))).1, ((σ.1, (σ.2.1, (σ.2.2.1, (((τ.2.1.1), σ.2.2.2.1.2), σ.2.2.2.2)))).2.1, ((σ.1, (σ.2.1, (σ.2.2.1, (((τ.2.1.1), σ.2.2.2.1.2), σ.2.2.2.2)))).2.2.1, (((σ.1, (σ.2.1, (σ.2.2.1, (((τ.2.1.1), σ.2.2.2.1.2), σ.2.2.2.2)))).2.2.2.1.1, (τ.2.1.2)), (σ.1, (σ.2.1, (σ.2.2.1, (((τ.2.1.1), σ.2.2.2.1.2), σ.2.2.2.2)))).2.2.2.2)))).2.1, (((σ.1, (σ.2.1, (σ.2.2.1, (((τ.2.1.1), σ.2.2.2.1.2), σ.2.2.2.2)))).1, ((σ.1, (σ.2.1, (σ.2.2.1, (((τ.2.1.1), σ.2.2.2.1.2), σ.2.2.2.2)))).2.1, ((σ.1, (σ.2.1, (σ.2.2.1, (((τ.2.1.1), σ.2.2.2.1.2), σ.2.2.2.2)))).2.2.1, (((σ.1, (σ.2.1, (σ.2.2.1, (((τ.2.1.1), σ.2.2.2.1.2), σ.2.2.2.2)))).2.2.2.1.1, (τ.2.1.2)), (σ.1, (σ.2.1, (σ.2.2.1, (((τ.2.1.1), σ.2.2.2.1.2), σ.2.2.2.2)))).2.2.2.2)))).2.2.1, ((((σ.1, (σ.2.1, (σ.2.2.1, (((τ.2.1.1), σ.2.2.2.1.2), σ.2.2.2.2)))).1, ((σ.1, (σ.2.1, (σ.2.2.1, (((τ.2.1.1), σ.2.2.2.1.2), σ.2.2.2.2)))).2.1, ((σ.1, (σ.2.1, (σ.2.2.1, (((τ.2.1.1), σ.2.2.2.1.2), σ.2.2.2.2)))).2.2.1, (((σ.1, (σ.2.1, (σ.2.2.1, (((τ.2.1.1), σ.2.2.2.1.2), σ.2.2.2.2)))).2.2.2.1.1, (τ.2.1.2)), (σ.1, (σ.2.1, (σ.2.2.1, (((τ.2.1.1), σ.2.2.2.1.2), σ.2.2.2.2)))).2.2.2.2)))).2.2.2.1.1, (τ.2.1.2)), ((σ.1, (σ.2.1, (σ.2.2.1, (((τ.2.1.1), σ.2.2.2.1.2), σ.2.2.2.2)))).1, ((σ.1, (σ.2.1, (σ.2.2.1, (((τ.2.1.1), σ.2.2.2.1.2), σ.2.2.2.2)))).2.1, ((σ.1, (σ.2.1, (σ.2.2.1, (((τ.2.1.1), σ.2.2.2.1.2), σ.2.2.2.2)))).2.2.1, (((σ.1, (σ.2.1, (σ.2.2.1, (((τ.2.1.1), σ.2.2.2.1.2), σ.2.2.2.2)))).2.2.2.1.1, (τ.2.1.2)), (σ.1, (σ.2.1, (σ.2.2.1, (((τ.2.1.1), σ.2.2.2.1.2), σ.2.2.2.2)))).2.2.2.2)))).2.2.2.2)))).2.2.2.2.2.2.2.1, ((fun i => if i = j1 then (τ.2.2) else (((σ.1, (σ.2.1, (σ.2.2.1, (((τ.2.1.1), σ.2.2.2.1.2), σ.2.2.2.2)))).1, ((σ.1, (σ.2.1, (σ.2.2.1, (((τ.2.1.1), σ.2.2.2.1.2), σ.2.2.2.2)))).2.1, ((σ.1, (σ.2.1, (σ.2.2.1, (((τ.2.1.1), σ.2.2.2.1.2), σ.2.2.2.2)))).2.2.1, (((σ.1, (σ.2.1, (σ.2.2.1, (((τ.2.1.1), σ.2.2.2.1.2), σ.2.2.2.2)))).2.2.2.1.1, (τ.2.1.2)), (σ.1, (σ.2.1, (σ.2.2.1, (((τ.2.1.1), σ.2.2.2.1.2), σ.2.2.2.2)))).2.2.2.2)))).1, (((σ.1, (σ.2.1, (σ.2.2.1, (((τ.2.1.1), σ.2.2.2.1.2), σ.2.2.2.2)))).1, ((σ.1, (σ.2.1, (σ.2.2.1, (((τ.2.1.1), σ.2.2.2.1.2), σ.2.2.2.2)))).2.1, ((σ.1, (σ.2.1, (σ.2.2.1, (((τ.2.1.1), σ.2.2.2.1.2), σ.2.2.2.2)))).2.2.1, (((σ.1, (σ.2.1, (σ.2.2.1, (((τ.2.1.1), σ.2.2.2.1.2), σ.2.2.2.2)))).2.2.2.1.1, (τ.2.1.2)), (σ.1, (σ.2.1, (σ.2.2.1, (((τ.2.1.1), σ.2.2.2.1.2), σ.2.2.2.2)))).2.2.2.2)))).2.1, (((σ.1, (σ.2.1, (σ.2.2.1, (((τ.2.1.1), σ.2.2.2.1.2), σ.2.2.2.2)))).1, ((σ.1, (σ.2.1, (σ.2.2.1, (((τ.2.1.1), σ.2.2.2.1.2), σ.2.2.2.2)))).2.1, ((σ.1, (σ.2.1, (σ.2.2.1, (((τ.2.1.1), σ.2.2.2.1.2), σ.2.2.2.2)))).2.2.1, (((σ.1, (σ.2.1, (σ.2.2.1, (((τ.2.1.1), σ.2.2.2.1.2), σ.2.2.2.2)))).2.2.2.1.1, (τ.2.1.2)), (σ.1, (σ.2.1, (σ.2.2.1, (((τ.2.1.1), σ.2.2.2.1.2), σ.2.2.2.2)))).2.2.2.2)))).2.2.1, ((((σ.1, (σ.2.1, (σ.2.2.1, (((τ.2.1.1), σ.2.2.2.1.2), σ.2.2.2.2)))).1, ((σ.1, (σ.2.1, (σ.2.2.1, (((τ.2.1.1), σ.2.2.2.1.2), σ.2.2.2.2)))).2.1, ((σ.1, (σ.2.1, (σ.2.2.1, (((τ.2.1.1), σ.2.2.2.1.2), σ.2.2.2.2)))).2.2.1, (((σ.1, (σ.2.1, (σ.2.2.1, (((τ.2.1.1), σ.2.2.2.1.2), σ.2.2.2.2)))).2.2.2.1.1, (τ.2.1.2)), (σ.1, (σ.2.1, (σ.2.2.1, (((τ.2.1.1), σ.2.2.2.1.2), σ.2.2.2.2)))).2.2.2.2)))).2.2.2.1.1, (τ.2.1.2)), ((σ.1, (σ.2.1, (σ.2.2.1, (((τ.2.1.1), σ.2.2.2.1.2), σ.2.2.2.2)))).1, ((σ.1, (σ.2.1, (σ.2.2.1, (((τ.2.1.1), σ.2.2.2.1.2), σ.2.2.2.2)))).2.1, ((σ.1, (σ.2.1, (σ.2.2.1, (((τ.2.1.1), σ.2.2.2.1.2), σ.2.2.2.2)))).2.2.1, (((σ.1, (σ.2.1, (σ.2.2.1, (((τ.2.1.1), σ.2.2.2.1.2), σ.2.2.2.2)))).2.2.2.1.1, (τ.2.1.2)), (σ.1, (σ.2.1, (σ.2.2.1, (((τ.2.1.1), σ.2.2.2.1.2), σ.2.2.2.2)))).2.2.2.2)))).2.2.2.2)))).2.2.2.2.2.2.2.2.1 i), (((σ.1, (σ.2.1, (σ.2.2.1, (((τ.2.1.1), σ.2.2.2.1.2), σ.2.2.2.2)))).1, ((σ.1, (σ.2.1, (σ.2.2.1, (((τ.2.1.1), σ.2.2.2.1.2), σ.2.2.2.2)))).2.1, ((σ.1, (σ.2.1, (σ.2.2.1, (((τ.2.1.1), σ.2.2.2.1.2), σ.2.2.2.2)))).2.2.1, (((σ.1, (σ.2.1, (σ.2.2.1, (((τ.2.1.1), σ.2.2.2.1.2), σ.2.2.2.2)))).2.2.2.1.1, (τ.2.1.2)), (σ.1, (σ.2.1, (σ.2.2.1, (((τ.2.1.1), σ.2.2.2.1.2), σ.2.2.2.2)))).2.2.2.2)))).1, (((σ.1, (σ.2.1, (σ.2.2.1, (((τ.2.1.1), σ.2.2.2.1.2), σ.2.2.2.2)))).1, ((σ.1, (σ.2.1, (σ.2.2.1, (((τ.2.1.1), σ.2.2.2.1.2), σ.2.2.2.2)))).2.1, ((σ.1, (σ.2.1, (σ.2.2.1, (((τ.2.1.1), σ.2.2.2.1.2), σ.2.2.2.2)))).2.2.1, (((σ.1, (σ.2.1, (σ.2.2.1, (((τ.2.1.1), σ.2.2.2.1.2), σ.2.2.2.2)))).2.2.2.1.1, (τ.2.1.2)), (σ.1, (σ.2.1, (σ.2.2.1, (((τ.2.1.1), σ.2.2.2.1.2), σ.2.2.2.2)))).2.2.2.2)))).2.1, (((σ.1, (σ.2.1, (σ.2.2.1, (((τ.2.1.1), σ.2.2.2.1.2), σ.2.2.2.2)))).1, ((σ.1, (σ.2.1, (σ.2.2.1, (((τ.2.1.1), σ.2.2.2.1.2), σ.2.2.2.2)))).2.1, ((σ.1, (σ.2.1, (σ.2.2.1, (((τ.2.1.1), σ.2.2.2.1.2), σ.2.2.2.2)))).2.2.1, (((σ.1, (σ.2.1, (σ.2.2.1, (((τ.2.1.1), σ.2.2.2.1.2), σ.2.2.2.2)))).2.2.2.1.1, (τ.2.1.2)), (σ.1, (σ.2.1, (σ.2.2.1, (((τ.2.1.1), σ.2.2.2.1.2), σ.2.2.2.2)))).2.2.2.2)))).2.2.1, ((((σ.1, (σ.2.1, (σ.2.2.1, (((τ.2.1.1), σ.2.2.2.1.2), σ.2.2.2.2)))).1, ((σ.1, (σ.2.1, (σ.2.2.1, (((τ.2.1.1), σ.2.2.2.1.2), σ.2.2.2.2)))).2.1, ((σ.1, (σ.2.1, (σ.2.2.1, (((τ.2.1.1), σ.2.2.2.1.2), σ.2.2.2.2)))).2.2.1, (((σ.1, (σ.2.1, (σ.2.2.1, (((τ.2.1.1), σ.2.2.2.1.2), σ.2.2.2.2)))).2.2.2.1.1, (τ.2.1.2)), (σ.1, (σ.2.1, (σ.2.2.1, (((τ.2.1.1), σ.2.2.2.1.2), σ.2.2.2.2)))).2.2.2.2)))).2.2.2.1.1, (τ.2.1.2)), ((σ.1, (σ.2.1, (σ.2.2.1, (((τ.2.1.1), σ.2.2.2.1.2), σ.2.2.2.2)))).1, ((σ.1, (σ.2.1, (σ.2.2.1, (((τ.2.1.1), σ.2.2.2.1.2), σ.2.2.2.2)))).2.1, ((σ.1, (σ.2.1, (σ.2.2.1, (((τ.2.1.1), σ.2.2.2.1.2), σ.2.2.2.2)))).2.2.1, (((σ.1, (σ.2.1, (σ.2.2.1, (((τ.2.1.1), σ.2.2.2.1.2), σ.2.2.2.2)))).2.2.2.1.1, (τ.2.1.2)), (σ.1, (σ.2.1, (σ.2.2.1, (((τ.2.1.1), σ.2.2.2.1.2), σ.2.2.2.2)))).2.2.2.2)))).2.2.2.2)))).2.2.2.2.2.2.2.2.2))))))))) := by
    show ((((dg_X12 a ac σ).set 4 (dwo_X1 (fun k => a (k + 4)) (fun k => ac (k + 4)) (τ.2.1.1))).set 5 (dwc_X9 (fun k => a (k + 7)) (fun k => ac (k + 7)) (τ.2.1.2))).set 6 ([(a 15, .inl (ac 15, 32768, .inl (sR (τ.2.1.2) 7)))])).set (18 + j1) (dw_X8 (fun k => a (k + j1 * 5 + 57)) (fun k => ac (k + j1 * 5 + 57)) (τ.2.2)) = _
    rw [e2, e3]
  have hz : va_P D vwCl (dg_X12 a ac ((((σ.1, (σ.2.1, (σ.2.2.1, (((τ.2.1.1), σ.2.2.2.1.2), σ.2.2.2.2)))).1, ((σ.1, (σ.2.1, (σ.2.2.1, (((τ.2.1.1), σ.2.2.2.1.2), σ.2.2.2.2)))).2.1, ((σ.1, (σ.2.1, (σ.2.2.1, (((τ.2.1.1), σ.2.2.2.1.2), σ.2.2.2.2)))).2.2.1, (((σ.1, (σ.2.1, (σ.2.2.1, (((τ.2.1.1), σ.2.2.2.1.2), σ.2.2.2.2)))).2.2.2.1.1, (τ.2.1.2)), (σ.1, (σ.2.1, (σ.2.2.1, (((τ.2.1.1), σ.2.2.2.1.2), σ.2.2.2.2)))).2.2.2.2)))).1, (((σ.1, (σ.2.1, (σ.2.2.1, (((τ.2.1.1), σ.2.2.2.1.2), σ.2.2.2.2)))).1, ((σ.1, (σ.2.1, (σ.2.2.1, (((τ.2.1.1), σ.2.2.2.1.2), σ.2.2.2.2)))).2.1, ((σ.1, (σ.2.1, (σ.2.2.1, (((τ.2.1.1), σ.2.2.2.1.2), σ.2.2.2.2)))).2.2.1, (((σ.1, (σ.2.1, (σ.2.2.1, (((τ.2.1.1), σ.2.2.2.1.2), σ.2.2.2.2)))).2.2.2.1.1, (τ.2.1.2)), (σ.1, (σ.2.1, (σ.2.2.1, (((τ.2.1.1), σ.2.2.2.1.2), σ.2.2.2.2)))).2.2.2.2)))).2.1, (((σ.1, (σ.2.1, (σ.2.2.1, (((τ.2.1.1), σ.2.2.2.1.2), σ.2.2.2.2)))).1, ((σ.1, (σ.2.1, (σ.2.2.1, (((τ.2.1.1), σ.2.2.2.1.2), σ.2.2.2.2)))).2.1, ((σ.1, (σ.2.1, (σ.2.2.1, (((τ.2.1.1), σ.2.2.2.1.2), σ.2.2.2.2)))).2.2.1, (((σ.1, (σ.2.1, (σ.2.2.1, (((τ.2.1.1), σ.2.2.2.1.2), σ.2.2.2.2)))).2.2.2.1.1, (τ.2.1.2)), (σ.1, (σ.2.1, (σ.2.2.1, (((τ.2.1.1), σ.2.2.2.1.2), σ.2.2.2.2)))).2.2.2.2)))).2.2.1, ((((σ.1, (σ.2.1, (σ.2.2.1, (((τ.2.1.1), σ.2.2.2.1.2), σ.2.2.2.2)))).1, ((σ.1, (σ.2.1, (σ.2.2.1, (((τ.2.1.1), σ.2.2.2.1.2), σ.2.2.2.2)))).2.1, ((σ.1, (σ.2.1, (σ.2.2.1, (((τ.2.1.1), σ.2.2.2.1.2), σ.2.2.2.2)))).2.2.1, (((σ.1, (σ.2.1, (σ.2.2.1, (((τ.2.1.1), σ.2.2.2.1.2), σ.2.2.2.2)))).2.2.2.1.1, (τ.2.1.2)), (σ.1, (σ.2.1, (σ.2.2.1, (((τ.2.1.1), σ.2.2.2.1.2), σ.2.2.2.2)))).2.2.2.2)))).2.2.2.1.1, (τ.2.1.2)), ((σ.1, (σ.2.1, (σ.2.2.1, (((τ.2.1.1), σ.2.2.2.1.2), σ.2.2.2.2)))).1, ((σ.1, (σ.2.1, (σ.2.2.1, (((τ.2.1.1), σ.2.2.2.1.2), σ.2.2.2.2)))).2.1, ((σ.1, (σ.2.1, (σ.2.2.1, (((τ.2.1.1), σ.2.2.2.1.2), σ.2.2.2.2)))).2.2.1, (((σ.1, (σ.2.1, (σ.2.2.1, (((τ.2.1.1), σ.2.2.2.1.2), σ.2.2.2.2)))).2.2.2.1.1, (τ.2.1.2)), (σ.1, (σ.2.1, (σ.2.2.1, (((τ.2.1.1), σ.2.2.2.1.2), σ.2.2.2.2)))).2.2.2.2)))).2.2.2.2)))).1, ((((σ.1, (σ.2.1, (σ.2.2.1, (((τ.2.1.1), σ.2.2.2.1.2), σ.2.2.2.2)))).1, ((σ.1, (σ.2.1, (σ.2.2.1, (((τ.2.1.1), σ.2.2.2.1.2), σ.2.2.2.2)))).2.1, ((σ.1, (σ.2.1, (σ.2.2.1, (((τ.2.1.1), σ.2.2.2.1.2), σ.2.2.2.2)))).2.2.1, (((σ.1, (σ.2.1, (σ.2.2.1, (((τ.2.1.1), σ.2.2.2.1.2), σ.2.2.2.2)))).2.2.2.1.1, (τ.2.1.2)), (σ.1, (σ.2.1, (σ.2.2.1, (((τ.2.1.1), σ.2.2.2.1.2), σ.2.2.2.2)))).2.2.2.2)))).1, (((σ.1, (σ.2.1, (σ.2.2.1, (((τ.2.1.1), σ.2.2.2.1.2), σ.2.2.2.2)))).1, ((σ.1, (σ.2.1, (σ.2.2.1, (((τ.2.1.1), σ.2.2.2.1.2), σ.2.2.2.2)))).2.1, ((σ.1, (σ.2.1, (σ.2.2.1, (((τ.2.1.1), σ.2.2.2.1.2), σ.2.2.2.2)))).2.2.1, (((σ.1, (σ.2.1, (σ.2.2.1, (((τ.2.1.1), σ.2.2.2.1.2), σ.2.2.2.2)))).2.2.2.1.1, (τ.2.1.2)), (σ.1, (σ.2.1, (σ.2.2.1, (((τ.2.1.1), σ.2.2.2.1.2), σ.2.2.2.2)))).2.2.2.2)))).2.1, (((σ.1, (σ.2.1, (σ.2.2.1, (((τ.2.1.1), σ.2.2.2.1.2), σ.2.2.2.2)))).1, ((σ.1, (σ.2.1, (σ.2.2.1, (((τ.2.1.1), σ.2.2.2.1.2), σ.2.2.2.2)))).2.1, ((σ.1, (σ.2.1, (σ.2.2.1, (((τ.2.1.1), σ.2.2.2.1.2), σ.2.2.2.2)))).2.2.1, (((σ.1, (σ.2.1, (σ.2.2.1, (((τ.2.1.1), σ.2.2.2.1.2), σ.2.2.2.2)))).2.2.2.1.1, (τ.2.1.2)), (σ.1, (σ.2.1, (σ.2.2.1, (((τ.2.1.1), σ.2.2.2.1.2), σ.2.2.2.2)))).2.2.2.2)))).2.2.1, ((((σ.1, (σ.2.1, (σ.2.2.1, (((τ.2.1.1), σ.2.2.2.1.2), σ.2.2.2.2)))).1, ((σ.1, (σ.2.1, (σ.2.2.1, (((τ.2.1.1), σ.2.2.2.1.2), σ.2.2.2.2)))).2.1, ((σ.1, (σ.2.1, (σ.2.2.1, (((τ.2.1.1), σ.2.2.2.1.2), σ.2.2.2.2)))).2.2.1, (((σ.1, (σ.2.1, (σ.2.2.1, (((τ.2.1.1), σ.2.2.2.1.2), σ.2.2.2.2)))).2.2.2.1.1, (τ.2.1.2)), (σ.1, (σ.2.1, (σ.2.2.1, (((τ.2.1.1), σ.2.2.2.1.2), σ.2.2.2.2)))).2.2.2.2)))).2.2.2.1.1, (τ.2.1.2)), ((σ.1, (σ.2.1, (σ.2.2.1, (((τ.2.1.1), σ.2.2.2.1.2), σ.2.2.2.2)))).1, ((σ.1, (σ.2.1, (σ.2.2.1, (((τ.2.1.1), σ.2.2.2.1.2), σ.2.2.2.2)))).2.1, ((σ.1, (σ.2.1, (σ.2.2.1, (((τ.2.1.1), σ.2.2.2.1.2), σ.2.2.2.2)))).2.2.1, (((σ.1, (σ.2.1, (σ.2.2.1, (((τ.2.1.1), σ.2.2.2.1.2), σ.2.2.2.2)))).2.2.2.1.1, (τ.2.1.2)), (σ.1, (σ.2.1, (σ.2.2.1, (((τ.2.1.1), σ.2.2.2.1.2), σ.2.2.2.2)))).2.2.2.2)))).2.2.2.2)))).2.1, ((((σ.1, (σ.2.1, (σ.2.2.1, (((τ.2.1.1), σ.2.2.2.1.2), σ.2.2.2.2)))).1, ((σ.1, (σ.2.1, (σ.2.2.1, (((τ.2.1.1), σ.2.2.2.1.2), σ.2.2.2.2)))).2.1, ((σ.1, (σ.2.1, (σ.2.2.1, (((τ.2.1.1), σ.2.2.2.1.2), σ.2.2.2.2)))).2.2.1, (((σ.1, (σ.2.1, (σ.2.2.1, (((τ.2.1.1), σ.2.2.2.1.2), σ.2.2.2.2)))).2.2.2.1.1, (τ.2.1.2)), (σ.1, (σ.2.1, (σ.2.2.1, (((τ.2.1.1), σ.2.2.2.1.2), σ.2.2.2.2)))).2.2.2.2)))).1, (((σ.1, (σ.2.1, (σ.2.2.1, (((τ.2.1.1), σ.2.2.2.1.2), σ.2.2.2.2)))).1, ((σ.1, (σ.2.1, (σ.2.2.1, (((τ.2.1.1), σ.2.2.2.1.2), σ.2.2.2.2)))).2.1, ((σ.1, (σ.2.1, (σ.2.2.1, (((τ.2.1.1), σ.2.2.2.1.2), σ.2.2.2.2)))).2.2.1, (((σ.1, (σ.2.1, (σ.2.2.1, (((τ.2.1.1), σ.2.2.2.1.2), σ.2.2.2.2)))).2.2.2.1.1, (τ.2.1.2)), (σ.1, (σ.2.1, (σ.2.2.1, (((τ.2.1.1), σ.2.2.2.1.2), σ.2.2.2.2)))).2.2.2.2)))).2.1, (((σ.1, (σ.2.1, (σ.2.2.1, (((τ.2.1.1), σ.2.2.2.1.2), σ.2.2.2.2)))).1, ((σ.1, (σ.2.1, (σ.2.2.1, (((τ.2.1.1), σ.2.2.2.1.2), σ.2.2.2.2)))).2.1, ((σ.1, (σ.2.1, (σ.2.2.1, (((τ.2.1.1), σ.2.2.2.1.2), σ.2.2.2.2)))).2.2.1, (((σ.1, (σ.2.1, (σ.2.2.1, (((τ.2.1.1), σ.2.2.2.1.2), σ.2.2.2.2)))).2.2.2.1.1, (τ.2.1.2)), (σ.1, (σ.2.1, (σ.2.2.1, (((τ.2.1.1), σ.2.2.2.1.2), σ.2.2.2.2)))).2.2.2.2)))).2.2.1, ((((σ.1, (σ.2.1, (σ.2.2.1, (((τ.2.1.1), σ.2.2.2.1.2), σ.2.2.2.2)))).1, ((σ.1, (σ.2.1, (σ.2.2.1, (((τ.2.1.1), σ.2.2.2.1.2), σ.2.2.2.2)))).2.1, ((σ.1, (σ.2.1, (σ.2.2.1, (((τ.2.1.1), σ.2.2.2.1.2), σ.2.2.2.2)))).2.2.1, (((σ.1, (σ.2.1, (σ.2.2.1, (((τ.2.1.1), σ.2.2.2.1.2), σ.2.2.2.2)))).2.2.2.1.1, (τ.2.1.2)), (σ.1, (σ.2.1, (σ.2.2.1, (((τ.2.1.1), σ.2.2.2.1.2), σ.2.2.2.2)))).2.2.2.2)))).2.2.2.1.1, (τ.2.1.2)), ((σ.1, (σ.2.1, (σ.2.2.1, (((τ.2.1.1), σ.2.2.2.1.2), σ.2.2.2.2)))).1, ((σ.1, (σ.2.1, (σ.2.2.1, (((τ.2.1.1), σ.2.2.2.1.2), σ.2.2.2.2)))).2.1, ((σ.1, (σ.2.1, (σ.2.2.1, (((τ.2.1.1), σ.2.2.2.1.2), σ.2.2.2.2)))).2.2.1, (((σ.1, (σ.2.1, (σ.2.2.1, (((τ.2.1.1), σ.2.2.2.1.2), σ.2.2.2.2)))).2.2.2.1.1, (τ.2.1.2)), (σ.1, (σ.2.1, (σ.2.2.1, (((τ.2.1.1), σ.2.2.2.1.2), σ.2.2.2.2)))).2.2.2.2)))).2.2.2.2)))).2.2.1, ((((σ.1, (σ.2.1, (σ.2.2.1, (((τ.2.1.1), σ.2.2.2.1.2), σ.2.2.2.2)))).1, ((σ.1, (σ.2.1, (σ.2.2.1, (((τ.2.1.1), σ.2.2.2.1.2), σ.2.2.2.2)))).2.1, ((σ.1, (σ.2.1, (σ.2.2.1, (((τ.2.1.1), σ.2.2.2.1.2), σ.2.2.2.2)))).2.2.1, (((σ.1, (σ.2.1, (σ.2.2.1, (((τ.2.1.1), σ.2.2.2.1.2), σ.2.2.2.2)))).2.2.2.1.1, (τ.2.1.2)), (σ.1, (σ.2.1, (σ.2.2.1, (((τ.2.1.1), σ.2.2.2.1.2), σ.2.2.2.2)))).2.2.2.2)))).1, (((σ.1, (σ.2.1, (σ.2.2.1, (((τ.2.1.1), σ.2.2.2.1.2), σ.2.2.2.2)))).1, ((σ.1, (σ.2.1, (σ.2.2.1, (((τ.2.1.1), σ.2.2.2.1.2), σ.2.2.2.2)))).2.1, ((σ.1, (σ.2.1, (σ.2.2.1, (((τ.2.1.1), σ.2.2.2.1.2), σ.2.2.2.2)))).2.2.1, (((σ.1, (σ.2.1, (σ.2.2.1, (((τ.2.1.1), σ.2.2.2.1.2), σ.2.2.2.2)))).2.2.2.1.1, (τ.2.1.2)), (σ.1, (σ.2.1, (σ.2.2.1, (((τ.2.1.1), σ.2.2.2.1.2), σ.2.2.2.2)))).2.2.2.2)))).2.1, (((σ.1, (σ.2.1, (σ.2.2.1, (((τ.2.1.1), σ.2.2.2.1.2), σ.2.2.2.2)))).1, ((σ.1, (σ.2.1, (σ.2.2.1, (((τ.2.1.1), σ.2.2.2.1.2), σ.2.2.2.2)))).2.1, ((σ.1, (σ.2.1, (σ.2.2.1, (((τ.2.1.1), σ.2.2.2.1.2), σ.2.2.2.2)))).2.2.1, (((σ.1, (σ.2.1, (σ.2.2.1, (((τ.2.1.1), σ.2.2.2.1.2), σ.2.2.2.2)))).2.2.2.1.1, (τ.2.1.2)), (σ.1, (σ.2.1, (σ.2.2.1, (((τ.2.1.1), σ.2.2.2.1.2), σ.2.2.2.2)))).2.2.2.2)))).2.2.1, ((((σ.1, (σ.2.1, (σ.2.2.1, (((τ.2.1.1), σ.2.2.2.1.2), σ.2.2.2.2)))).1, ((σ.1, (σ.2.1, (σ.2.2.1, (((τ.2.1.1), σ.2.2.2.1.2), σ.2.2.2.2)))).2.1, ((σ.1, (σ.2.1, (σ.2.2.1, (((τ.2.1.1), σ.2.2.2.1.2), σ.2.2.2.2)))).2.2.1, (((σ.1, (σ.2.1, (σ.2.2.1, (((τ.2.1.1), σ.2.2.2.1.2), σ.2.2.2.2)))).2.2.2.1.1, (τ.2.1.2)), (σ.1, (σ.2.1, (σ.2.2.1, (((τ.2.1.1), σ.2.2.2.1.2), σ.2.2.2.2)))).2.2.2.2)))).2.2.2.1.1, (τ.2.1.2)), ((σ.1, (σ.2.1, (σ.2.2.1, (((τ.2.1.1), σ.2.2.2.1.2), σ.2.2.2.2)))).1, ((σ.1, (σ.2.1, (σ.2.2.1, (((τ.2.1.1), σ.2.2.2.1.2), σ.2.2.2.2)))).2.1, ((σ.1, (σ.2.1, (σ.2.2.1, (((τ.2.1.1), σ.2.2.2.1.2), σ.2.2.2.2)))).2.2.1, (((σ.1, (σ.2.1, (σ.2.2.1, (((τ.2.1.1), σ.2.2.2.1.2), σ.2.2.2.2)))).2.2.2.1.1, (τ.2.1.2)), (σ.1, (σ.2.1, (σ.2.2.1, (((τ.2.1.1), σ.2.2.2.1.2), σ.2.2.2.2)))).2.2.2.2)))).2.2.2.2)))).2.2.2.1, ((((σ.1, (σ.2.1, (σ.2.2.1, (((τ.2.1.1), σ.2.2.2.1.2), σ.2.2.2.2)))).1, ((σ.1, (σ.2.1, (σ.2.2.1, (((τ.2.1.1), σ.2.2.2.1.2), σ.2.2.2.2)))).2.1, ((σ.1, (σ.2.1, (σ.2.2.1, (((τ.2.1.1), σ.2.2.2.1.2), σ.2.2.2.2)))).2.2.1, (((σ.1, (σ.2.1, (σ.2.2.1, (((τ.2.1.1), σ.2.2.2.1.2), σ.2.2.2.2)))).2.2.2.1.1, (τ.2.1.2)), (σ.1, (σ.2.1, (σ.2.2.1, (((τ.2.1.1), σ.2.2.2.1.2), σ.2.2.2.2)))).2.2.2.2)))).1, (((σ.1, (σ.2.1, (σ.2.2.1, (((τ.2.1.1), σ.2.2.2.1.2), σ.2.2.2.2)))).1, ((σ.1, (σ.2.1, (σ.2.2.1, (((τ.2.1.1), σ.2.2.2.1.2), σ.2.2.2.2)))).2.1, ((σ.1, (σ.2.1, (σ.2.2.1, (((τ.2.1.1), σ.2.2.2.1.2), σ.2.2.2.2)))).2.2.1, (((σ.1, (σ.2.1, (σ.2.2.1, (((τ.2.1.1), σ.2.2.2.1.2), σ.2.2.2.2)))).2.2.2.1.1, (τ.2.1.2)), (σ.1, (σ.2.1, (σ.2.2.1, (((τ.2.1.1), σ.2.2.2.1.2), σ.2.2.2.2)))).2.2.2.2)))).2.1, (((σ.1, (σ.2.1, (σ.2.2.1, (((τ.2.1.1), σ.2.2.2.1.2), σ.2.2.2.2)))).1, ((σ.1, (σ.2.1, (σ.2.2.1, (((τ.2.1.1), σ.2.2.2.1.2), σ.2.2.2.2)))).2.1, ((σ.1, (σ.2.1, (σ.2.2.1, (((τ.2.1.1), σ.2.2.2.1.2), σ.2.2.2.2)))).2.2.1, (((σ.1, (σ.2.1, (σ.2.2.1, (((τ.2.1.1), σ.2.2.2.1.2), σ.2.2.2.2)))).2.2.2.1.1, (τ.2.1.2)), (σ.1, (σ.2.1, (σ.2.2.1, (((τ.2.1.1), σ.2.2.2.1.2), σ.2.2.2.2)))).2.2.2.2)))).2.2.1, ((((σ.1, (σ.2.1, (σ.2.2.1, (((τ.2.1.1), σ.2.2.2.1.2), σ.2.2.2.2)))).1, ((σ.1, (σ.2.1, (σ.2.2.1, (((τ.2.1.1), σ.2.2.2.1.2), σ.2.2.2.2)))).2.1, ((σ.1, (σ.2.1, (σ.2.2.1, (((τ.2.1.1), σ.2.2.2.1.2), σ.2.2.2.2)))).2.2.1, (((σ.1, (σ.2.1, (σ.2.2.1, (((τ.2.1.1), σ.2.2.2.1.2), σ.2.2.2.2)))).2.2.2.1.1, (τ.2.1.2)), (σ.1, (σ.2.1, (σ.2.2.1, (((τ.2.1.1), σ.2.2.2.1.2), σ.2.2.2.2)))).2.2.2.2)))).2.2.2.1.1, (τ.2.1.2)), ((σ.1, (σ.2.1, (σ.2.2.1, (((τ.2.1.1), σ.2.2.2.1.2), σ.2.2.2.2)))).1, ((σ.1, (σ.2.1, (σ.2.2.1, (((τ.2.1.1), σ.2.2.2.1.2), σ.2.2.2.2)))).2.1, ((σ.1, (σ.2.1, (σ.2.2.1, (((τ.2.1.1), σ.2.2.2.1.2), σ.2.2.2.2)))).2.2.1, (((σ.1, (σ.2.1, (σ.2.2.1, (((τ.2.1.1), σ.2.2.2.1.2), σ.2.2.2.2)))).2.2.2.1.1, (τ.2.1.2)), (σ.1, (σ.2.1, (σ.2.2.1, (((τ.2.1.1), σ.2.2.2.1.2), σ.2.2.2.2)))).2.2.2.2)))).2.2.2.2)))).2.2.2.2.1, ((((σ.1, (σ.2.1, (σ.2.2.1, (((τ.2.1.1), σ.2.2.2.1.2), σ.2.2.2.2)))).1, ((σ.1, (σ.2.1, (σ.2.2.1, (((τ.2.1.1), σ.2.2.2.1.2), σ.2.2.2.2)))).2.1, ((σ.1, (σ.2.1, (σ.2.2.1, (((τ.2.1.1), σ.2.2.2.1.2), σ.2.2.2.2)))).2.2.1, (((σ.1, (σ.2.1, (σ.2.2.1, (((τ.2.1.1), σ.2.2.2.1.2), σ.2.2.2.2)))).2.2.2.1.1, (τ.2.1.2)), (σ.1, (σ.2.1, (σ.2.2.1, (((τ.2.1.1), σ.2.2.2.1.2), σ.2.2.2.2)))).2.2.2.2)))).1, (((σ.1, (σ.2.1, (σ.2.2.1, (((τ.2.1.1), σ.2.2.2.1.2), σ.2.2.2.2)))).1, ((σ.1, (σ.2.1, (σ.2.2.1, (((τ.2.1.1), σ.2.2.2.1.2), σ.2.2.2.2)))).2.1, ((σ.1, (σ.2.1, (σ.2.2.1, (((τ.2.1.1), σ.2.2.2.1.2), σ.2.2.2.2)))).2.2.1, (((σ.1, (σ.2.1, (σ.2.2.1, (((τ.2.1.1), σ.2.2.2.1.2), σ.2.2.2.2)))).2.2.2.1.1, (τ.2.1.2)), (σ.1, (σ.2.1, (σ.2.2.1, (((τ.2.1.1), σ.2.2.2.1.2), σ.2.2.2.2)))).2.2.2.2)))).2.1, (((σ.1, (σ.2.1, (σ.2.2.1, (((τ.2.1.1), σ.2.2.2.1.2), σ.2.2.2.2)))).1, ((σ.1, (σ.2.1, (σ.2.2.1, (((τ.2.1.1), σ.2.2.2.1.2), σ.2.2.2.2)))).2.1, ((σ.1, (σ.2.1, (σ.2.2.1, (((τ.2.1.1), σ.2.2.2.1.2), σ.2.2.2.2)))).2.2.1, (((σ.1, (σ.2.1, (σ.2.2.1, (((τ.2.1.1), σ.2.2.2.1.2), σ.2.2.2.2)))).2.2.2.1.1, (τ.2.1.2)), (σ.1, (σ.2.1, (σ.2.2.1, (((τ.2.1.1), σ.2.2.2.1.2), σ.2.2.2.2)))).2.2.2.2)))).2.2.1, ((((σ.1, (σ.2.1, (σ.2.2.1, (((τ.2.1.1), σ.2.2.2.1.2), σ.2.2.2.2)))).1, ((σ.1, (σ.2.1, (σ.2.2.1, (((τ.2.1.1), σ.2.2.2.1.2), σ.2.2.2.2)))).2.1, ((σ.1, (σ.2.1, (σ.2.2.1, (((τ.2.1.1), σ.2.2.2.1.2), σ.2.2.2.2)))).2.2.1, (((σ.1, (σ.2.1, (σ.2.2.1, (((τ.2.1.1), σ.2.2.2.1.2), σ.2.2.2.2)))).2.2.2.1.1, (τ.2.1.2)), (σ.1, (σ.2.1, (σ.2.2.1, (((τ.2.1.1), σ.2.2.2.1.2), σ.2.2.2.2)))).2.2.2.2)))).2.2.2.1.1, (τ.2.1.2)), ((σ.1, (σ.2.1, (σ.2.2.1, (((τ.2.1.1), σ.2.2.2.1.2), σ.2.2.2.2)))).1, ((σ.1, (σ.2.1, (σ.2.2.1, (((τ.2.1.1), σ.2.2.2.1.2), σ.2.2.2.2)))).2.1, ((σ.1, (σ.2.1, (σ.2.2.1, (((τ.2.1.1), σ.2.2.2.1.2), σ.2.2.2.2)))).2.2.1, (((σ.1, (σ.2.1, (σ.2.2.1, (((τ.2.1.1), σ.2.2.2.1.2), σ.2.2.2.2)))).2.2.2.1.1, (τ.2.1.2)), (σ.1, (σ.2.1, (σ.2.2.1, (((τ.2.1.1), σ.2.2.2.1.2), σ.2.2.2.2)))).2.2.2.2)))).2.2.2.2)))).2.2.2.2.2.1, ((((σ.1, (σ.2.1, (σ.2.2.1, (((τ.2.1.1), σ.2.2.2.1.2), σ.2.2.2.2)))).1, ((σ.1, (σ.2.1, (σ.2.2.1, (((τ.2.1.1), σ.2.2.2.1.2), σ.2.2.2.2)))).2.1, ((σ.1, (σ.2.1, (σ.2.2.1, (((τ.2.1.1), σ.2.2.2.1.2), σ.2.2.2.2)))).2.2.1, (((σ.1, (σ.2.1, (σ.2.2.1, (((τ.2.1.1), σ.2.2.2.1.2), σ.2.2.2.2)))).2.2.2.1.1, (τ.2.1.2)), (σ.1, (σ.2.1, (σ.2.2.1, (((τ.2.1.1), σ.2.2.2.1.2), σ.2.2.2.2)))).2.2.2.2)))).1, (((σ.1, (σ.2.1, (σ.2.2.1, (((τ.2.1.1), σ.2.2.2.1.2), σ.2.2.2.2)))).1, ((σ.1, (σ.2.1, (σ.2.2.1, (((τ.2.1.1), σ.2.2.2.1.2), σ.2.2.2.2)))).2.1, ((σ.1, (σ.2.1, (σ.2.2.1, (((τ.2.1.1), σ.2.2.2.1.2), σ.2.2.2.2)))).2.2.1, (((σ.1, (σ.2.1, (σ.2.2.1, (((τ.2.1.1), σ.2.2.2.1.2), σ.2.2.2.2)))).2.2.2.1.1, (τ.2.1.2)), (σ.1, (σ.2.1, (σ.2.2.1, (((τ.2.1.1), σ.2.2.2.1.2), σ.2.2.2.2)))).2.2.2.2)))).2.1, (((σ.1, (σ.2.1, (σ.2.2.1, (((τ.2.1.1), σ.2.2.2.1.2), σ.2.2.2.2)))).1, ((σ.1, (σ.2.1, (σ.2.2.1, (((τ.2.1.1), σ.2.2.2.1.2), σ.2.2.2.2)))).2.1, ((σ.1, (σ.2.1, (σ.2.2.1, (((τ.2.1.1), σ.2.2.2.1.2), σ.2.2.2.2)))).2.2.1, (((σ.1, (σ.2.1, (σ.2.2.1, (((τ.2.1.1), σ.2.2.2.1.2), σ.2.2.2.2)))).2.2.2.1.1, (τ.2.1.2)), (σ.1, (σ.2.1, (σ.2.2.1, (((τ.2.1.1), σ.2.2.2.1.2), σ.2.2.2.2)))).2.2.2.2)))).2.2.1, ((((σ.1, (σ.2.1, (σ.2.2.1, (((τ.2.1.1), σ.2.2.2.1.2), σ.2.2.2.2)))).1, ((σ.1, (σ.2.1, (σ.2.2.1, (((τ.2.1.1), σ.2.2.2.1.2), σ.2.2.2.2)))).2.1, ((σ.1, (σ.2.1, (σ.2.2.1, (((τ.2.1.1), σ.2.2.2.1.2), σ.2.2.2.2)))).2.2.1, (((σ.1, (σ.2.1, (σ.2.2.1, (((τ.2.1.1), σ.2.2.2.1.2), σ.2.2.2.2)))).2.2.2.1.1, (τ.2.1.2)), (σ.1, (σ.2.1, (σ.2.2.1, (((τ.2.1.1), σ.2.2.2.1.2), σ.2.2.2.2)))).2.2.2.2)))).2.2.2.1.1, (τ.2.1.2)), ((σ.1, (σ.2.1, (σ.2.2.1, (((τ.2.1.1), σ.2.2.2.1.2), σ.2.2.2.2)))).1, ((σ.1, (σ.2.1, (σ.2.2.1, (((τ.2.1.1), σ.2.2.2.1.2), σ.2.2.2.2)))).2.1, ((σ.1, (σ.2.1, (σ.2.2.1, (((τ.2.1.1), σ.2.2.2.1.2), σ.2.2.2.2)))).2.2.1, (((σ.1, (σ.2.1, (σ.2.2.1, (((τ.2.1.1), σ.2.2.2.1.2), σ.2.2.2.2)))).2.2.2.1.1, (τ.2.1.2)), (σ.1, (σ.2.1, (σ.2.2.1, (((τ.2.1.1), σ.2.2.2.1.2), σ.2.2.2.2)))).2.2.2.2)))).2.2.2.2)))).2.2.2.2.2.2.1, ((((σ.1, (σ.2.1, (σ.2.2.1, (((τ.2.1.1), σ.2.2.2.1.2), σ.2.2.2.2)))).1, ((σ.1, (σ.2.1, (σ.2.2.1, (((τ.2.1.1), σ.2.2.2.1.2), σ.2.2.2.2)))).2.1, ((σ.1, (σ.2.1, (σ.2.2.1, (((τ.2.1.1), σ.2.2.2.1.2), σ.2.2.2.2)))).2.2.1, (((σ.1, (σ.2.1, (σ.2.2.1, (((τ.2.1.1), σ.2.2.2.1.2), σ.2.2.2.2)))).2.2.2.1.1, (τ.2.1.2)), (σ.1, (σ.2.1, (σ.2.2.1, (((τ.2.1.1), σ.2.2.2.1.2), σ.2.2.2.2)))).2.2.2.2)))).1, (((σ.1, (σ.2.1, (σ.2.2.1, (((τ.2.1.1), σ.2.2.2.1.2), σ.2.2.2.2)))).1, ((σ.1, (σ.2.1, (σ.2.2.1, (((τ.2.1.1), σ.2.2.2.1.2), σ.2.2.2.2)))).2.1, ((σ.1, (σ.2.1, (σ.2.2.1, (((τ.2.1.1), σ.2.2.2.1.2), σ.2.2.2.2)))).2.2.1, (((σ.1, (σ.2.1, (σ.2.2.1, (((τ.2.1.1), σ.2.2.2.1.2), σ.2.2.2.2)))).2.2.2.1.1, (τ.2.1.2)), (σ.1, (σ.2.1, (σ.2.2.1, (((τ.2.1.1), σ.2.2.2.1.2), σ.2.2.2.2)))).2.2.2.2)))).2.1, (((σ.1, (σ.2.1, (σ.2.2.1, (((τ.2.1.1), σ.2.2.2.1.2), σ.2.2.2.2)))).1, ((σ.1, (σ.2.1, (σ.2.2.1, (((τ.2.1.1), σ.2.2.2.1.2), σ.2.2.2.2)))).2.1, ((σ.1, (σ.2.1, (σ.2.2.1, (((τ.2.1.1), σ.2.2.2.1.2), σ.2.2.2.2)))).2.2.1, (((σ.1, (σ.2.1, (σ.2.2.1, (((τ.2.1.1), σ.2.2.2.1.2), σ.2.2.2.2)))).2.2.2.1.1, (τ.2.1.2)), (σ.1, (σ.2.1, (σ.2.2.1, (((τ.2.1.1), σ.2.2.2.1.2), σ.2.2.2.2)))).2.2.2.2)))).2.2.1, ((((σ.1, (σ.2.1, (σ.2.2.1, (((τ.2.1.1), σ.2.2.2.1.2), σ.2.2.2.2)))).1, ((σ.1, (σ.2.1, (σ.2.2.1, (((τ.2.1.1), σ.2.2.2.1.2), σ.2.2.2.2)))).2.1, ((σ.1, (σ.2.1, (σ.2.2.1, (((τ.2.1.1), σ.2.2.2.1.2), σ.2.2.2.2)))).2.2.1, (((σ.1, (σ.2.1, (σ.2.2.1, (((τ.2.1.1), σ.2.2.2.1.2), σ.2.2.2.2)))).2.2.2.1.1, (τ.2.1.2)), (σ.1, (σ.2.1, (σ.2.2.1, (((τ.2.1.1), σ.2.2.2.1.2), σ.2.2.2.2)))).2.2.2.2)))).2.2.2.1.1, (τ.2.1.2)), ((σ.1, (σ.2.1, (σ.2.2.1, (((τ.2.1.1), σ.2.2.2.1.2), σ.2.2.2.2)))).1, ((σ.1, (σ.2.1, (σ.2.2.1, (((τ.2.1.1), σ.2.2.2.1.2), σ.2.2.2.2)))).2.1, ((σ.1, (σ.2.1, (σ.2.2.1, (((τ.2.1.1), σ.2.2.2.1.2), σ.2.2.2.2)))).2.2.1, (((σ.1, (σ.2.1, (σ.2.2.1, (((τ.2.1.1), σ.2.2.2.1.2), σ.2.2.2.2)))).2.2.2.1.1, (τ.2.1.2)), (σ.1, (σ.2.1, (σ.2.2.1, (((τ.2.1.1), σ.2.2.2.1.2), σ.2.2.2.2)))).2.2.2.2)))).2.2.2.2)))).2.2.2.2.2.2.2.1, ((fun i => if i = j1 then (τ.2.2) else (((σ.1, (σ.2.1, (σ.2.2.1, (((τ.2.1.1), σ.2.2.2.1.2), σ.2.2.2.2)))).1, ((σ.1, (σ.2.1, (σ.2.2.1, (((τ.2.1.1), σ.2.2.2.1.2), σ.2.2.2.2)))).2.1, ((σ.1, (σ.2.1, (σ.2.2.1, (((τ.2.1.1), σ.2.2.2.1.2), σ.2.2.2.2)))).2.2.1, (((σ.1, (σ.2.1, (σ.2.2.1, (((τ.2.1.1), σ.2.2.2.1.2), σ.2.2.2.2)))).2.2.2.1.1, (τ.2.1.2)), (σ.1, (σ.2.1, (σ.2.2.1, (((τ.2.1.1), σ.2.2.2.1.2), σ.2.2.2.2)))).2.2.2.2)))).1, (((σ.1, (σ.2.1, (σ.2.2.1, (((τ.2.1.1), σ.2.2.2.1.2), σ.2.2.2.2)))).1, ((σ.1, (σ.2.1, (σ.2.2.1, (((τ.2.1.1), σ.2.2.2.1.2), σ.2.2.2.2)))).2.1, ((σ.1, (σ.2.1, (σ.2.2.1, (((τ.2.1.1), σ.2.2.2.1.2), σ.2.2.2.2)))).2.2.1, (((σ.1, (σ.2.1, (σ.2.2.1, (((τ.2.1.1), σ.2.2.2.1.2), σ.2.2.2.2)))).2.2.2.1.1, (τ.2.1.2)), (σ.1, (σ.2.1, (σ.2.2.1, (((τ.2.1.1), σ.2.2.2.1.2), σ.2.2.2.2)))).2.2.2.2)))).2.1, (((σ.1, (σ.2.1, (σ.2.2.1, (((τ.2.1.1), σ.2.2.2.1.2), σ.2.2.2.2)))).1, ((σ.1, (σ.2.1, (σ.2.2.1, (((τ.2.1.1), σ.2.2.2.1.2), σ.2.2.2.2)))).2.1, ((σ.1, (σ.2.1, (σ.2.2.1, (((τ.2.1.1), σ.2.2.2.1.2), σ.2.2.2.2)))).2.2.1, (((σ.1, (σ.2.1, (σ.2.2.1, (((τ.2.1.1), σ.2.2.2.1.2), σ.2.2.2.2)))).2.2.2.1.1, (τ.2.1.2)), (σ.1, (σ.2.1, (σ.2.2.1, (((τ.2.1.1), σ.2.2.2.1.2), σ.2.2.2.2)))).2.2.2.2)))).2.2.1, ((((σ.1, (σ.2.1, (σ.2.2.1, (((τ.2.1.1), σ.2.2.2.1.2), σ.2.2.2.2)))).1, ((σ.1, (σ.2.1, (σ.2.2.1, (((τ.2.1.1), σ.2.2.2.1.2), σ.2.2.2.2)))).2.1, ((σ.1, (σ.2.1, (σ.2.2.1, (((τ.2.1.1), σ.2.2.2.1.2), σ.2.2.2.2)))).2.2.1, (((σ.1, (σ.2.1, (σ.2.2.1, (((τ.2.1.1), σ.2.2.2.1.2), σ.2.2.2.2)))).2.2.2.1.1, (τ.2.1.2)), (σ.1, (σ.2.1, (σ.2.2.1, (((τ.2.1.1), σ.2.2.2.1.2), σ.2.2.2.2)))).2.2.2.2)))).2.2.2.1.1, (τ.2.1.2)), ((σ.1, (σ.2.1, (σ.2.2.1, (((τ.2.1.1), σ.2.2.2.1.2), σ.2.2.2.2)))).1, ((σ.1, (σ.2.1, (σ.2.2.1, (((τ.2.1.1), σ.2.2.2.1.2), σ.2.2.2.2)))).2.1, ((σ.1, (σ.2.1, (σ.2.2.1, (((τ.2.1.1), σ.2.2.2.1.2), σ.2.2.2.2)))).2.2.1, (((σ.1, (σ.2.1, (σ.2.2.1, (((τ.2.1.1), σ.2.2.2.1.2), σ.2.2.2.2)))).2.2.2.1.1, (τ.2.1.2)), (σ.1, (σ.2.1, (σ.2.2.1, (((τ.2.1.1), σ.2.2.2.1.2), σ.2.2.2.2)))).2.2.2.2)))).2.2.2.2)))).2.2.2.2.2.2.2.2.1 i), (((σ.1, (σ.2.1, (σ.2.2.1, (((τ.2.1.1), σ.2.2.2.1.2), σ.2.2.2.2)))).1, ((σ.1, (σ.2.1, (σ.2.2.1, (((τ.2.1.1), σ.2.2.2.1.2), σ.2.2.2.2)))).2.1, ((σ.1, (σ.2.1, (σ.2.2.1, (((τ.2.1.1), σ.2.2.2.1.2), σ.2.2.2.2)))).2.2.1, (((σ.1, (σ.2.1, (σ.2.2.1, (((τ.2.1.1), σ.2.2.2.1.2), σ.2.2.2.2)))).2.2.2.1.1, (τ.2.1.2)), (σ.1, (σ.2.1, (σ.2.2.1, (((τ.2.1.1), σ.2.2.2.1.2), σ.2.2.2.2)))).2.2.2.2)))).1, (((σ.1, (σ.2.1, (σ.2.2.1, (((τ.2.1.1), σ.2.2.2.1.2), σ.2.2.2.2)))).1, ((σ.1, (σ.2.1, (σ.2.2.1, (((τ.2.1.1), σ.2.2.2.1.2), σ.2.2.2.2)))).2.1, ((σ.1, (σ.2.1, (σ.2.2.1, (((τ.2.1.1), σ.2.2.2.1.2), σ.2.2.2.2)))).2.2.1, (((σ.1, (σ.2.1, (σ.2.2.1, (((τ.2.1.1), σ.2.2.2.1.2), σ.2.2.2.2)))).2.2.2.1.1, (τ.2.1.2)), (σ.1, (σ.2.1, (σ.2.2.1, (((τ.2.1.1), σ.2.2.2.1.2), σ.2.2.2.2)))).2.2.2.2)))).2.1, (((σ.1, (σ.2.1, (σ.2.2.1, (((τ.2.1.1), σ.2.2.2.1.2), σ.2.2.2.2)))).1, ((σ.1, (σ.2.1, (σ.2.2.1, (((τ.2.1.1), σ.2.2.2.1.2), σ.2.2.2.2)))).2.1, ((σ.1, (σ.2.1, (σ.2.2.1, (((τ.2.1.1), σ.2.2.2.1.2), σ.2.2.2.2)))).2.2.1, (((σ.1, (σ.2.1, (σ.2.2.1, (((τ.2.1.1), σ.2.2.2.1.2), σ.2.2.2.2)))).2.2.2.1.1, (τ.2.1.2)), (σ.1, (σ.2.1, (σ.2.2.1, (((τ.2.1.1), σ.2.2.2.1.2), σ.2.2.2.2)))).2.2.2.2)))).2.2.1, ((((σ.1, (σ.2.1, (σ.2.2.1, (((τ.2.1.1), σ.2.2.2.1.2), σ.2.2.2.2)))).1, ((σ.1, (σ.2.1, (σ.2.2.1, (((τ.2.1.1), σ.2.2.2.1.2), σ.2.2.2.2)))).2.1, ((σ.1, (σ.2.1, (σ.2.2.1, (((τ.2.1.1), σ.2.2.2.1.2), σ.2.2.2.2)))).2.2.1, (((σ.1, (σ.2.1, (σ.2.2.1, (((τ.2.1.1), σ.2.2.2.1.2), σ.2.2.2.2)))).2.2.2.1.1, (τ.2.1.2)), (σ.1, (σ.2.1, (σ.2.2.1, (((τ.2.1.1), σ.2.2.2.1.2), σ.2.2.2.2)))).2.2.2.2)))).2.2.2.1.1, (τ.2.1.2)), ((σ.1, (σ.2.1, (σ.2.2.1, (((τ.2.1.1), σ.2.2.2.1.2), σ.2.2.2.2)))).1, ((σ.1, (σ.2.1, (σ.2.2.1, (((τ.2.1.1), σ.2.2.2.1.2), σ.2.2.2.2)))).2.1, ((σ.1, (σ.2.1, (σ.2.2.1, (((τ.2.1.1), σ.2.2.2.1.2), σ.2.2.2.2)))).2.2.1, (((σ.1, (σ.2.1, (σ.2.2.1, (((τ.2.1.1), σ.2.2.2.1.2), σ.2.2.2.2)))).2.2.2.1.1, (τ.2.1.2)), (σ.1, (σ.2.1, (σ.2.2.1, (((τ.2.1.1), σ.2.2.2.1.2), σ.2.2.2.2)))).2.2.2.2)))).2.2.2.2)))).2.2.2.2.2.2.2.2.2)))))))))).flatten H1 := by rw [← ee]; exact h
  exact ⟨hz, nd_Da hD dA_X12⟩
def ow_dm_X12_assemble : List Cond := Cond.code yX12_assemble cX12_assemble 4 (some .int) :: ([Cond.classLink RX12 70 "java/lang/IllegalArgumentException", Cond.initialized "java/lang/IllegalArgumentException", Cond.methodLink RX12 73 yX12_unusedProgram, Cond.instanceMethod yX12_unusedProgram, Cond.selects RX12 yX12_unusedProgram yX12_unusedProgram, Cond.initialized RX12, Cond.fieldLink RX12 26 "TimeMachine" "assembler" "LTimeMachine$Assembler;", Cond.fieldLink RX12 10 "TimeMachine" "tape" "[B", Cond.methodLink RX12 77 yX12_useTape, Cond.instanceMethod yX12_useTape, Cond.selects RX12 yX12_useTape yX12_useTape, Cond.methodLink RX12 81 yX1_make, Cond.instanceMethod yX1_make, Cond.selects RX1 yX1_make yX1_make, Cond.initialized RX1, Cond.fieldLink RX12 16 "TimeMachine" "programs" "[LTimeMachine$Program;"] ++ (u_ws RX12 TX12 12 ++ (ow_dm_X12_unusedProgram ++ (ow_dm_X12_useTape ++ (ow_dm_X1_make ++ ((vx_at0 RX12 72 "java/lang/IllegalArgumentException" ["java/lang/RuntimeException", "java/lang/Exception"]).filter goodWord ++ []))))))
theorem gd_dm_X12_assemble : ∀ w ∈ ow_dm_X12_assemble, (w.onTables && w.keeps) = true ∨ ∃ ty, w = Cond.arrayClass ty := List.forall_mem_cons.mpr ⟨good_of_word rfl, List.forall_mem_append.mpr ⟨fun w h => good_of_word (List.all_eq_true.mp (by decide +kernel) w h), List.forall_mem_append.mpr ⟨gu_X12, List.forall_mem_append.mpr ⟨gd_dm_X12_unusedProgram, List.forall_mem_append.mpr ⟨gd_dm_X12_useTape, List.forall_mem_append.mpr ⟨gd_dm_X1_make, List.forall_mem_append.mpr ⟨fun w h => good_of_word (List.mem_filter.mp h).2, fun _ h => nomatch h⟩⟩⟩⟩⟩⟩⟩
theorem hi_dm_X12_assemble_X12 : ∀ w ∈ u_ws RX12 TX12 12, w ∈ ow_dm_X12_assemble := fun w h => List.mem_cons_of_mem _ (List.mem_append_right _ (List.mem_append_left _ h))
theorem gi_dm_X12_assemble_0 : GoodIn ow_dm_X12_assemble (wsV RX12 73 RX12 yX12_unusedProgram ow_dm_X12_unusedProgram) := goodIn_app (goodIn_of _ (by decide +kernel)) (fun w h => ⟨List.mem_cons_of_mem _ (List.mem_append_right _ (List.mem_append_right _ (List.mem_append_left _ h))), gd_dm_X12_unusedProgram w h⟩)
theorem gi_dm_X12_assemble_1 : GoodIn ow_dm_X12_assemble (wsV RX12 77 RX12 yX12_useTape ow_dm_X12_useTape) := goodIn_app (goodIn_of _ (by decide +kernel)) (fun w h => ⟨List.mem_cons_of_mem _ (List.mem_append_right _ (List.mem_append_right _ (List.mem_append_right _ (List.mem_append_left _ h)))), gd_dm_X12_useTape w h⟩)
theorem gi_dm_X12_assemble_2 : GoodIn ow_dm_X12_assemble (wsV RX12 81 RX1 yX1_make ow_dm_X1_make) := goodIn_app (goodIn_of _ (by decide +kernel)) (fun w h => ⟨List.mem_cons_of_mem _ (List.mem_append_right _ (List.mem_append_right _ (List.mem_append_right _ (List.mem_append_right _ (List.mem_append_left _ h))))), gd_dm_X1_make w h⟩)
def dj_X12_assemble_9 (p : Program) (l : Launch) (e : Env) (s : State) (m : MethodId) (args : Array Value) (below : List Frame) (meth : Method) (c : Code) (Q : State → Prop) (A : Nat → Prop) (dC : Nat → ClassId) (dI : Nat → Nat → Nat) (a : Nat → Nat) (ac : Nat → ClassId) (g : (St × Rw × (St) × (St × (St)) × (St) × (St × (St × (St × (St)))) × (St) × (St) × (Nat → St) × (Nat → St) × (Nat → St × (St))) → Option ((Int32 × (St × Rw × (St) × (St × (St)) × (St) × (St × (St × (St × (St)))) × (St) × (St) × (Nat → St) × (Nat → St) × (Nat → St × (St)))) ⊕ (String × (St × Rw × (St) × (St × (St)) × (St) × (St × (St × (St × (St)))) × (St) × (St) × (Nat → St) × (Nat → St) × (Nat → St × (St)))))) (r : (Int32 × (St × Rw × (St) × (St × (St)) × (St) × (St × (St × (St × (St)))) × (St) × (St) × (Nat → St) × (Nat → St) × (Nat → St × (St)))) ⊕ (String × (St × Rw × (St) × (St × (St)) × (St) × (St × (St × (St × (St)))) × (St) × (St) × (Nat → St) × (Nat → St) × (Nat → St × (St))))) : Prop := ∀ (s0 : St × Rw × (St) × (St × (St)) × (St) × (St × (St × (St × (St)))) × (St) × (St) × (Nat → St) × (Nat → St) × (Nat → St × (St))) (H : Heap) (locs : List Loc) (ls : Array Slot), g s0 = some r → va_P (dC, dI) vwCl (dw_X12 a ac s0) H → va_D A (dw_X12 a ac s0) → va_S A s.heap H locs → lv_has ls 4 [] → W p l e (headSpec ow_dm_X12_assemble ({ frames := 10, cells := 1, slots := 6, locals := 229 })).room s m args below meth c H locs 0 0 Q (F0 m 9 ls [])
def dj_X12_assemble_50 (p : Program) (l : Launch) (e : Env) (s : State) (m : MethodId) (args : Array Value) (below : List Frame) (meth : Method) (c : Code) (Q : State → Prop) (A : Nat → Prop) (dC : Nat → ClassId) (dI : Nat → Nat → Nat) (a : Nat → Nat) (ac : Nat → ClassId) (g : Int32 → (St × Rw × (St) × (St × (St)) × (St) × (St × (St × (St × (St)))) × (St) × (St) × (Nat → St) × (Nat → St) × (Nat → St × (St))) → Option ((Int32 × (St × Rw × (St) × (St × (St)) × (St) × (St × (St × (St × (St)))) × (St) × (St) × (Nat → St) × (Nat → St) × (Nat → St × (St)))) ⊕ (String × (St × Rw × (St) × (St × (St)) × (St) × (St × (St × (St × (St)))) × (St) × (St) × (Nat → St) × (Nat → St) × (Nat → St × (St)))))) (r : (Int32 × (St × Rw × (St) × (St × (St)) × (St) × (St × (St × (St × (St)))) × (St) × (St) × (Nat → St) × (Nat → St) × (Nat → St × (St)))) ⊕ (String × (St × Rw × (St) × (St × (St)) × (St) × (St × (St × (St × (St)))) × (St) × (St) × (Nat → St) × (Nat → St) × (Nat → St × (St))))) : Prop := ∀ (x3 : Int32) (s0 : St × Rw × (St) × (St × (St)) × (St) × (St × (St × (St × (St)))) × (St) × (St) × (Nat → St) × (Nat → St) × (Nat → St × (St))) (H : Heap) (locs : List Loc) (ls : Array Slot), g x3 s0 = some r → va_P (dC, dI) vwCl (dw_X12 a ac s0) H → va_D A (dw_X12 a ac s0) → va_S A s.heap H locs → lv_has ls 4 [(3, .int x3)] → W p l e (headSpec ow_dm_X12_assemble ({ frames := 10, cells := 1, slots := 6, locals := 229 })).room s m args below meth c H locs 0 0 Q (F0 m 50 ls [])
def dj_X12_assemble_0 (p : Program) (l : Launch) (e : Env) (s : State) (m : MethodId) (args : Array Value) (below : List Frame) (meth : Method) (c : Code) (Q : State → Prop) (A : Nat → Prop) (dC : Nat → ClassId) (dI : Nat → Nat → Nat) (a : Nat → Nat) (ac : Nat → ClassId) (g : Int32 → (St × Rw × (St) × (St × (St)) × (St) × (St × (St × (St × (St)))) × (St) × (St) × (Nat → St) × (Nat → St) × (Nat → St × (St))) → Option ((Int32 × (St × Rw × (St) × (St × (St)) × (St) × (St × (St × (St × (St)))) × (St) × (St) × (Nat → St) × (Nat → St) × (Nat → St × (St)))) ⊕ (String × (St × Rw × (St) × (St × (St)) × (St) × (St × (St × (St × (St)))) × (St) × (St) × (Nat → St) × (Nat → St) × (Nat → St × (St)))))) (r : (Int32 × (St × Rw × (St) × (St × (St)) × (St) × (St × (St × (St × (St)))) × (St) × (St) × (Nat → St) × (Nat → St) × (Nat → St × (St)))) ⊕ (String × (St × Rw × (St) × (St × (St)) × (St) × (St × (St × (St × (St)))) × (St) × (St) × (Nat → St) × (Nat → St) × (Nat → St × (St))))) : Prop := ∀ (v0 : Int32) (s0 : St × Rw × (St) × (St × (St)) × (St) × (St × (St × (St × (St)))) × (St) × (St) × (Nat → St) × (Nat → St) × (Nat → St × (St))) (H : Heap) (locs : List Loc) (ls : Array Slot), g v0 s0 = some r → va_P (dC, dI) vwCl (dw_X12 a ac s0) H → va_D A (dw_X12 a ac s0) → va_S A s.heap H locs → lv_has ls 4 [(0, .ref (a 0)), (1, .int v0)] → W p l e (headSpec ow_dm_X12_assemble ({ frames := 10, cells := 1, slots := 6, locals := 229 })).room s m args below meth c H locs 0 0 Q (F0 m 0 ls [])
set_option maxHeartbeats 40000000 in
set_option maxRecDepth 100000 in
theorem db_X12_assemble_9 {p : Program} {l : Launch} {e : Env} {s : State} {m : MethodId} {args : Array Value} {below : List Frame} {meth : Method} {c : Code} {Qc : Array Value → State → Outcome → State → Prop} {A : Nat → Prop} {dC : Nat → ClassId} {dI : Nat → Nat → Nat} {a : Nat → Nat} {ac : Nat → ClassId} {n : Nat} {r : (Int32 × (St × Rw × (St) × (St × (St)) × (St) × (St × (St × (St × (St)))) × (St) × (St) × (Nat → St) × (Nat → St) × (Nat → St × (St)))) ⊕ (String × (St × Rw × (St) × (St × (St)) × (St) × (St × (St × (St × (St)))) × (St) × (St) × (Nat → St) × (Nat → St) × (Nat → St × (St))))} (C : nd_C p l s m args c A (dC, dI) cX12_assemble 4 RX12 ow_dm_X12_assemble (dk_X12 ac)) (CX : nv_Dc s ∧ (∀ x ∈ c.exceptionTable.toList, False) ∧ meth.locks = false) (K : nd_Ti p l e (headSpec ow_dm_X12_assemble ({ frames := 10, cells := 1, slots := 6, locals := 229 })).room s m args below meth c (vx_MQ below Qc (nd_XC (dC, dI) (St × Rw × (St) × (St × (St)) × (St) × (St × (St × (St × (St)))) × (St) × (St) × (Nat → St) × (Nat → St) × (Nat → St × (St))) (dw_X12 a ac) A r) args s 1 6 A) A (dC, dI) cX12_assemble .int (St × Rw × (St) × (St × (St)) × (St) × (St × (St × (St × (St)))) × (St) × (St) × (Nat → St) × (Nat → St) × (Nat → St × (St))) (dw_X12 a ac) r) : dj_X12_assemble_9 p l e s m args below meth c (vx_MQ below Qc (nd_XC (dC, dI) (St × Rw × (St) × (St × (St)) × (St) × (St × (St × (St × (St)))) × (St) × (St) × (Nat → St) × (Nat → St) × (Nat → St × (St))) (dw_X12 a ac) A r) args s 1 6 A) A dC dI a ac (df_X12_assemble_9 n (a 15) (a 3)) r := by
  obtain ⟨hDe, htb, hlocks⟩ := id CX
  obtain ⟨hlt, hx, hb, hml, hown, hts, hN, hA, hK⟩ := id C
  intro s0 H locs ls h hP hD hS hl
  unfold df_X12_assemble_9 at h
  exact vx_throw0 (own := RX12) (cls := "java/lang/IllegalArgumentException") (names := ["java/lang/RuntimeException", "java/lang/Exception"]) (ik := 70) (ic := 72) (A := A) hx hb hlt hown (by decide +kernel) (by decide +kernel) (hts (.classLink RX12 70 "java/lang/IllegalArgumentException") (List.mem_of_getElem? (i := 1) rfl)) (hts (.initialized "java/lang/IllegalArgumentException") (List.mem_of_getElem? (i := 2) rfl)) (vx_hat (B := [.castable "java/lang/IllegalArgumentException" "java/lang/IllegalArgumentException", .declares ⟨"java/lang/RuntimeException", "<init>", "()V"⟩, .declares ⟨"java/lang/Exception", "<init>", "()V"⟩, .declares ⟨"java/lang/Throwable", "<init>", "()V"⟩]) (fun w h => hts w (List.mem_cons_of_mem _ (List.mem_append_right _ (List.mem_append_right _ (List.mem_append_right _ (List.mem_append_right _ (List.mem_append_right _ (List.mem_append_left _ h)))))))) (by decide +kernel) (vx_c (va_Nw.use rfl hN.2.2.2.2.2.2.2.1) (vx_c (va_Nw.use rfl (hDe _ (by decide +kernel))) (vx_c (va_Nw.use rfl (hDe _ (by decide +kernel))) (vx_c (va_Nw.use rfl (hDe _ (by decide +kernel))) vx_n))))) (by decide +kernel) hN.2.2.2.2.2.1 hN.2.2.2.2.2.2.1 hS (by rw [hml]; exact hl.1) dX12_assemble_9 dX12_assemble_12 dX12_assemble_13 dX12_assemble_16 (fun x9 h9 => (htb x9 h9).elim) (Nat.le_of_ble_eq_true rfl) (Nat.le_of_ble_eq_true rfl) (by decide +kernel) (by decide +kernel) hlocks (fun t hvm hz hk => ⟨s0, trivial, ⟨(Option.some.inj h).symm, hP.kept (fun k q hq => hk q.1 (hP k q hq).lt), hD⟩, Nat.le_trans hS.1 hz, fun q h1 h2 => (hk q (Nat.lt_of_lt_of_le h1 hS.1)).trans (hS.2.1 q h1 h2)⟩) hS.2.2 (by decide +kernel) (by decide +kernel)
set_option maxHeartbeats 40000000 in
set_option maxRecDepth 100000 in
theorem db_X12_assemble_50 {p : Program} {l : Launch} {e : Env} {s : State} {m : MethodId} {args : Array Value} {below : List Frame} {meth : Method} {c : Code} {Qc : Array Value → State → Outcome → State → Prop} {A : Nat → Prop} {dC : Nat → ClassId} {dI : Nat → Nat → Nat} {a : Nat → Nat} {ac : Nat → ClassId} {n : Nat} {r : (Int32 × (St × Rw × (St) × (St × (St)) × (St) × (St × (St × (St × (St)))) × (St) × (St) × (Nat → St) × (Nat → St) × (Nat → St × (St)))) ⊕ (String × (St × Rw × (St) × (St × (St)) × (St) × (St × (St × (St × (St)))) × (St) × (St) × (Nat → St) × (Nat → St) × (Nat → St × (St))))} (C : nd_C p l s m args c A (dC, dI) cX12_assemble 4 RX12 ow_dm_X12_assemble (dk_X12 ac)) (CX : nv_Dc s ∧ (∀ x ∈ c.exceptionTable.toList, False) ∧ meth.locks = false) (K : nd_Ti p l e (headSpec ow_dm_X12_assemble ({ frames := 10, cells := 1, slots := 6, locals := 229 })).room s m args below meth c (vx_MQ below Qc (nd_XC (dC, dI) (St × Rw × (St) × (St × (St)) × (St) × (St × (St × (St × (St)))) × (St) × (St) × (Nat → St) × (Nat → St) × (Nat → St × (St))) (dw_X12 a ac) A r) args s 1 6 A) A (dC, dI) cX12_assemble .int (St × Rw × (St) × (St × (St)) × (St) × (St × (St × (St × (St)))) × (St) × (St) × (Nat → St) × (Nat → St) × (Nat → St × (St))) (dw_X12 a ac) r) : dj_X12_assemble_50 p l e s m args below meth c (vx_MQ below Qc (nd_XC (dC, dI) (St × Rw × (St) × (St × (St)) × (St) × (St × (St × (St × (St)))) × (St) × (St) × (Nat → St) × (Nat → St) × (Nat → St × (St))) (dw_X12 a ac) A r) args s 1 6 A) A dC dI a ac (df_X12_assemble_50 n (a 15) (a 3)) r := by
  obtain ⟨hDe, htb, hlocks⟩ := id CX
  obtain ⟨hlt, hx, hb, hml, hown, hts, hN, hA, hK⟩ := id C
  intro x3 s0 H locs ls h hP hD hS hl
  unfold df_X12_assemble_50 at h
  refine lv_iload_n hx hb dX12_assemble_50 rfl (lv_at hl 0 rfl) ?_
  exact K _ _ _ _ _ _ dX12_assemble_51 rfl (Option.some.inj h).symm hP hD hS
set_option maxHeartbeats 40000000 in
set_option maxRecDepth 100000 in
theorem db_X12_assemble_0 {p : Program} {l : Launch} {e : Env} {s : State} {m : MethodId} {args : Array Value} {below : List Frame} {meth : Method} {c : Code} {Qc : Array Value → State → Outcome → State → Prop} {A : Nat → Prop} {dC : Nat → ClassId} {dI : Nat → Nat → Nat} {a : Nat → Nat} {ac : Nat → ClassId} {n : Nat} {r : (Int32 × (St × Rw × (St) × (St × (St)) × (St) × (St × (St × (St × (St)))) × (St) × (St) × (Nat → St) × (Nat → St) × (Nat → St × (St)))) ⊕ (String × (St × Rw × (St) × (St × (St)) × (St) × (St × (St × (St × (St)))) × (St) × (St) × (Nat → St) × (Nat → St) × (Nat → St × (St))))} (C : nd_C p l s m args c A (dC, dI) cX12_assemble 4 RX12 ow_dm_X12_assemble (dk_X12 ac)) (CX : nv_Dc s ∧ (∀ x ∈ c.exceptionTable.toList, False) ∧ meth.locks = false) (K : nd_Ti p l e (headSpec ow_dm_X12_assemble ({ frames := 10, cells := 1, slots := 6, locals := 229 })).room s m args below meth c (vx_MQ below Qc (nd_XC (dC, dI) (St × Rw × (St) × (St × (St)) × (St) × (St × (St × (St × (St)))) × (St) × (St) × (Nat → St) × (Nat → St) × (Nat → St × (St))) (dw_X12 a ac) A r) args s 1 6 A) A (dC, dI) cX12_assemble .int (St × Rw × (St) × (St × (St)) × (St) × (St × (St × (St × (St)))) × (St) × (St) × (Nat → St) × (Nat → St) × (Nat → St × (St))) (dw_X12 a ac) r) : dj_X12_assemble_0 p l e s m args below meth c (vx_MQ below Qc (nd_XC (dC, dI) (St × Rw × (St) × (St × (St)) × (St) × (St × (St × (St × (St)))) × (St) × (St) × (Nat → St) × (Nat → St) × (Nat → St × (St))) (dw_X12 a ac) A r) args s 1 6 A) A dC dI a ac (df_X12_assemble_0 n (a 15) (a 3)) r := by
  obtain ⟨hDe, htb, hlocks⟩ := id CX
  obtain ⟨hlt, hx, hb, hml, hown, hts, hN, hA, hK⟩ := id C
  intro v0 s0 H locs ls h hP hD hS hl
  unfold df_X12_assemble_0 at h
  refine lv_iload_n hx hb dX12_assemble_0 rfl (lv_at hl 1 rfl) ?_
  refine lv_if_lt (tgt := 9) hx hb dX12_assemble_1 (by decide) (fun c1 => ?_) (fun c1 => ?_)
  · have h := nd_pos h c1
    exact (db_X12_assemble_9 C CX K)  s0 _ _ _ h hP hD hS (lv_sub hl [] rfl)
  · have h := nd_neg h c1
    refine lv_iload_n hx hb dX12_assemble_4 rfl (lv_at hl 1 rfl) ?_
    refine lv_iconst (v := 4) hx hb dX12_assemble_5 (by decide) ?_
    refine lv_icmp_lt (tgt := 17) hx hb dX12_assemble_6 (by decide) (fun c2 => ?_) (fun c2 => ?_)
    · have h := nd_pos h c2
      refine lv_aload_n hx hb dX12_assemble_17 rfl (lv_at hl 0 rfl) ?_
      obtain ⟨q3, s4, hq, h⟩ := nd_b2_e h
      have hPc := hP
      have hDc := hD
      have hKc := hK
      have hFc := nd_rs hD hS hA
      refine nd_cVq (As := []) (rest := []) (q := Option.map (fun j => a (0 + j * 5 + 57)) q3) (w' := dw_X12 a ac s4) ⟨hx, hb, hml, hown, hts⟩ (fun sz => dm_X12_unusedProgram l hlt dC dI a ac n  s0 hq sz) (cwV 0 hts gi_dm_X12_assemble_0 rfl rfl rfl (by decide +kernel) ⟨Nat.le_of_ble_eq_true rfl, Nat.le_of_ble_eq_true rfl⟩) hPc hDc hKc hS hA hN (va_recv hKc hPc (ci := 13) (q0 := 0) rfl rfl) rfl hl.1 rfl (Nat.le_of_ble_eq_true rfl) dX12_assemble_18 (fun H locs hP1 hD1 hk1 hS => ?_)
      have hP := hP1
      have hD := hD1.weaken (fun k q _ h => hFc q.1 h)
      cases hrj6 : q3 with
      | none =>
        have h := nd_mN h hrj6
        refine W.eq (g2 := F0 m 21 ls [.null]) (by first | rfl | (show F0 m _ ls (va_rf (Option.map (fun j => a (0 + j * 5 + 57)) q3) :: _) = _; rw [hrj6]; rfl)) ?_
        refine lv_astore_nN (lv' := [(2, .null), (0, .ref (a 0)), (1, .int v0)]) hx hb dX12_assemble_21 rfl hl (by decide) rfl (fun ls hl => ?_)
        refine lv_aload_n hx hb dX12_assemble_22 rfl (lv_at hl 1 rfl) ?_
        refine va_get (D := (dC, dI)) (ci := 13) (v := .ref (a 4)) (C := RX12) (T := TX12) (N := 12) hx hb hts hi_dm_X12_assemble_X12 hown hK hP 0 rfl rfl 5 (by decide) (hts (.fieldLink RX12 26 "TimeMachine" "assembler" "LTimeMachine$Assembler;") (List.mem_of_getElem? (i := 7) rfl)) (fun _ h9 => h9) rfl dX12_assemble_23 ?_
        refine lv_aload_n hx hb dX12_assemble_26 rfl (lv_at hl 1 rfl) ?_
        refine va_get (D := (dC, dI)) (ci := 13) (v := .ref (a 15)) (C := RX12) (T := TX12) (N := 12) hx hb hts hi_dm_X12_assemble_X12 hown hK hP 0 rfl rfl 0 (by decide) (hts (.fieldLink RX12 10 "TimeMachine" "tape" "[B") (List.mem_of_getElem? (i := 8) rfl)) (fun _ h9 => h9) rfl dX12_assemble_27 ?_
        refine lv_aload_n hx hb dX12_assemble_30 rfl (lv_at hl 1 rfl) ?_
        obtain ⟨q7, s8, hq, h⟩ := nd_b2_e h
        have hPc := hP
        have hDc := hD
        have hKc := hK
        have hFc := nd_rs hD hS hA
        refine nd_cVi (As := []) (rest := [.ref (a 15), .ref (a 4)]) (q := q7) (w' := dw_X12 a ac s8) ⟨hx, hb, hml, hown, hts⟩ (fun sz => dm_X12_useTape l hlt dC dI a ac n  s4 hq sz) (cwV 0 hts gi_dm_X12_assemble_1 rfl rfl rfl (by decide +kernel) ⟨Nat.le_of_ble_eq_true rfl, Nat.le_of_ble_eq_true rfl⟩) hPc hDc hKc hS hA hN (va_recv hKc hPc (ci := 13) (q0 := 0) rfl rfl) rfl hl.1 rfl (Nat.le_of_ble_eq_true rfl) dX12_assemble_31 (fun H locs hP1 hD1 hk1 hS => ?_)
        have hP := hP1
        have hD := hD1.weaken (fun k q _ h => hFc q.1 h)
        refine lv_aload_nN hx hb dX12_assemble_34 rfl (lv_at hl 0 rfl) ?_
        exact nomatch h
      | some j6 =>
        have h := nd_mS h hrj6
        refine W.eq (g2 := F0 m 21 ls [.ref (a (0 + j6 * 5 + 57))]) (by first | rfl | (show F0 m _ ls (va_rf (Option.map (fun j => a (0 + j * 5 + 57)) q3) :: _) = _; rw [hrj6]; rfl)) ?_
        refine lv_astore_n (lv' := [(2, .ref (a (0 + j6 * 5 + 57))), (0, .ref (a 0)), (1, .int v0)]) hx hb dX12_assemble_21 rfl hl (by decide) rfl (fun ls hl => ?_)
        refine lv_aload_n hx hb dX12_assemble_22 rfl (lv_at hl 1 rfl) ?_
        refine va_get (D := (dC, dI)) (ci := 13) (v := .ref (a 4)) (C := RX12) (T := TX12) (N := 12) hx hb hts hi_dm_X12_assemble_X12 hown hK hP 0 rfl rfl 5 (by decide) (hts (.fieldLink RX12 26 "TimeMachine" "assembler" "LTimeMachine$Assembler;") (List.mem_of_getElem? (i := 7) rfl)) (fun _ h9 => h9) rfl dX12_assemble_23 ?_
        refine lv_aload_n hx hb dX12_assemble_26 rfl (lv_at hl 1 rfl) ?_
        refine va_get (D := (dC, dI)) (ci := 13) (v := .ref (a 15)) (C := RX12) (T := TX12) (N := 12) hx hb hts hi_dm_X12_assemble_X12 hown hK hP 0 rfl rfl 0 (by decide) (hts (.fieldLink RX12 10 "TimeMachine" "tape" "[B") (List.mem_of_getElem? (i := 8) rfl)) (fun _ h9 => h9) rfl dX12_assemble_27 ?_
        refine lv_aload_n hx hb dX12_assemble_30 rfl (lv_at hl 1 rfl) ?_
        obtain ⟨q10, s11, hq, h⟩ := nd_b2_e h
        have hPc := hP
        have hDc := hD
        have hKc := hK
        have hFc := nd_rs hD hS hA
        refine nd_cVi (As := []) (rest := [.ref (a 15), .ref (a 4)]) (q := q10) (w' := dw_X12 a ac s11) ⟨hx, hb, hml, hown, hts⟩ (fun sz => dm_X12_useTape l hlt dC dI a ac n  s4 hq sz) (cwV 0 hts gi_dm_X12_assemble_1 rfl rfl rfl (by decide +kernel) ⟨Nat.le_of_ble_eq_true rfl, Nat.le_of_ble_eq_true rfl⟩) hPc hDc hKc hS hA hN (va_recv hKc hPc (ci := 13) (q0 := 0) rfl rfl) rfl hl.1 rfl (Nat.le_of_ble_eq_true rfl) dX12_assemble_31 (fun H locs hP1 hD1 hk1 hS => ?_)
        have hP := hP1
        have hD := hD1.weaken (fun k q _ h => hFc q.1 h)
        refine lv_aload_n hx hb dX12_assemble_34 rfl (lv_at hl 0 rfl) ?_
        obtain ⟨l13, h⟩ := nd_lt_e h
        obtain ⟨q14, s15, hq, h⟩ := nd_b2_e h
        have hPc := dp_wX12_X1p_10 l13 hP
        have hDc := dd_wX12_X1p_10 l13 hD
        have hKc := dy_wX12_X1p_10 l13 hK
        have hFc := nd_rs hDc hS hA
        have hzA : ∀ q : Nat, H.size ≤ q → A q := fun q h => hA q (Nat.le_trans hS.1 h)
        refine nd_cVi (As := [.ref (a 15), .int q10, .ref (a (0 + j6 * 5 + 57))]) (rest := []) (q := q14) (w' := dw_X1p (fun k => a (if k < 5 then k - 0 + j6 * 5 + 57 else k - 5 + 4)) (fun k => ac (if k < 5 then k - 0 + j6 * 5 + 57 else k - 5 + 4)) s15) ⟨hx, hb, hml, hown, hts⟩ (fun sz => dm_X1_make l hlt dC dI (fun k => a (if k < 5 then k - 0 + j6 * 5 + 57 else k - 5 + 4)) (fun k => ac (if k < 5 then k - 0 + j6 * 5 + 57 else k - 5 + 4)) n (q10) (nd_st0, s11.2.2.2.1, (s11.2.2.2.2.2.2.2.2.1 j6)) hq sz) (cwV 3 hts gi_dm_X12_assemble_2 rfl rfl rfl (by decide +kernel) ⟨Nat.le_of_ble_eq_true rfl, Nat.le_of_ble_eq_true rfl⟩) hPc hDc hKc hS hA hN (va_recv hKc hPc (ci := 2) (q0 := 0) rfl rfl) rfl hl.1 rfl (Nat.le_of_ble_eq_true rfl) dX12_assemble_35 (fun H locs hP1 hD1 hk1 hS => ?_)
        obtain ⟨hP, hD⟩ := dn_wX12_X1p_10 l13 hP hD hzA hk1 hP1 hD1
        obtain ⟨s17, es17, h⟩ := nd_let_e h
        have hP : va_P (dC, dI) vwCl (dw_X12 a ac s17) H := by rw [es17]; exact hP
        have hD : va_D A (dw_X12 a ac s17) := by rw [es17]; exact hD
        refine lv_istore_n (lv' := [(3, .int q14), (2, .ref (a (0 + j6 * 5 + 57))), (0, .ref (a 0)), (1, .int v0)]) hx hb dX12_assemble_38 rfl hl (by decide) rfl (fun ls hl => ?_)
        refine lv_iload_n hx hb dX12_assemble_39 rfl (lv_at hl 0 rfl) ?_
        refine lv_if_ne (tgt := 50) hx hb dX12_assemble_40 (by decide) (fun c18 => ?_) (fun c18 => ?_)
        · have h := nd_neg h c18
          exact (db_X12_assemble_50 C CX K) (q14) s17 _ _ _ h hP hD hS (lv_sub hl [0] rfl)
        · have h := nd_pos h c18
          refine lv_aload_n hx hb dX12_assemble_43 rfl (lv_at hl 2 rfl) ?_
          refine va_get (D := (dC, dI)) (ci := 13) (v := .ref (a 54)) (C := RX12) (T := TX12) (N := 12) hx hb hts hi_dm_X12_assemble_X12 hown hK hP 0 rfl rfl 3 (by decide) (hts (.fieldLink RX12 16 "TimeMachine" "programs" "[LTimeMachine$Program;") (List.mem_of_getElem? (i := 16) rfl)) (fun _ h9 => h9) rfl dX12_assemble_44 ?_
          refine lv_iload_n hx hb dX12_assemble_47 rfl (lv_at hl 3 rfl) ?_
          refine lv_aload_n hx hb dX12_assemble_48 rfl (lv_at hl 1 rfl) ?_
          obtain ⟨i19, h⟩ := nd_ck_e h
          obtain ⟨qk, vs, hqk⟩ := dv_X12_P8 (a := a) (ac := ac) (σ := s17) l13
          refine va_astq (i := v0) (r := (RX8, TX8, 10)) hx hb hK hP hD hS 54 44 qk 9 rfl rfl hqk rfl i19 dX12_assemble_49 (fun H locs hP hD hS => ?_)
          have hP : va_P (dC, dI) vwCl ((dw_X12 a ac s17).set 54 (a 54, .inl (ac 54, 4, .inr (.inr (.inr (.inr (va_up (fun i => Option.map (fun j => a (0 + j * 5 + 57)) (s17.2.1 1 i)) (Int32.toNatClampNeg v0) (Option.map (fun j => a (0 + j * 5 + 57)) (some j6))))))))) H := hP
          have hD : va_D A ((dw_X12 a ac s17).set 54 (a 54, .inl (ac 54, 4, .inr (.inr (.inr (.inr (va_up (fun i => Option.map (fun j => a (0 + j * 5 + 57)) (s17.2.1 1 i)) (Int32.toNatClampNeg v0) (Option.map (fun j => a (0 + j * 5 + 57)) (some j6))))))))) := hD
          rw [nd_up] at hP hD
          obtain ⟨s20, es20, h⟩ := nd_let_e h
          have hP : va_P (dC, dI) vwCl (dw_X12 a ac s20) H := by rw [es20]; exact hP
          have hD : va_D A (dw_X12 a ac s20) := by rw [es20]; exact hD
          exact (db_X12_assemble_50 C CX K) (q14) s20 _ _ _ h hP hD hS (lv_sub hl [0] rfl)
    · have h := nd_neg h c2
      exact (db_X12_assemble_9 C CX K)  s0 _ _ _ h hP hD hS (lv_sub hl [] rfl)
set_option maxHeartbeats 40000000 in
set_option maxRecDepth 100000 in
theorem dm_X12_assemble (l : Launch) (hlt : l.stackTraces = false) (dC : Nat → ClassId) (dI : Nat → Nat → Nat) (a : Nat → Nat) (ac : Nat → ClassId) (n : Nat) (v0 : Int32) (s0 : St × Rw × (St) × (St × (St)) × (St) × (St × (St × (St × (St)))) × (St) × (St) × (Nat → St) × (Nat → St) × (Nat → St × (St))) {r : (Int32 × (St × Rw × (St) × (St × (St)) × (St) × (St × (St × (St × (St)))) × (St) × (St) × (Nat → St) × (Nat → St) × (Nat → St × (St)))) ⊕ (String × (St × Rw × (St) × (St × (St)) × (St) × (St × (St × (St × (St)))) × (St) × (St) × (Nat → St) × (Nat → St) × (Nat → St × (St))))} (h : df_X12_assemble n (a 15) (a 3) v0 s0 = some r) (sz : Nat) : vx_Met l yX12_assemble ow_dm_X12_assemble ({ frames := 10, cells := 1, slots := 6, locals := 229 }) (va_Pc [.ref (a 0), .int v0] (fun U => U.heap.size = sz ∧ va_P (dC, dI) vwCl (dw_X12 a ac s0) U.heap ∧ va_K (dC, dI) vwCl (dk_X12 ac) U ∧ va_D (fun _ => True) (dw_X12 a ac s0) ∧ nv_E dI (va_A (dw_X12 a ac s0) sz) U ∧ nv_Dc U)) (va_Qi (fun x u => r = Sum.inl (x, u)) (fun (u : St × Rw × (St) × (St × (St)) × (St) × (St × (St × (St × (St)))) × (St) × (St) × (Nat → St) × (Nat → St) × (Nat → St × (St))) t => va_P (dC, dI) vwCl (dw_X12 a ac u) t.heap ∧ va_K (dC, dI) vwCl (dk_X12 ac) t ∧ va_D (va_A (dw_X12 a ac s0) sz) (dw_X12 a ac u)) (va_A (dw_X12 a ac s0) sz)) (nd_XC (dC, dI) (St × Rw × (St) × (St × (St)) × (St) × (St × (St × (St × (St)))) × (St) × (St) × (Nat → St) × (Nat → St) × (Nat → St × (St))) (dw_X12 a ac) (va_A (dw_X12 a ac s0) sz) r) 1 6 (va_A (dw_X12 a ac s0) sz) := by
  refine vx_ofW (cc := cX12_assemble) (maxL := 4) (ret := (some .int)) (by decide) rfl ?_
  intro p e s m args below meth c s₁ B hml htb hv
  obtain ⟨rfl, hsz, hP, hK, hD0, hN, hDe⟩ := hv
  have hx := B.exec
  have hb := B.bytes
  have hr := B.returns
  have hts := atoms_spec (ws := ow_dm_X12_assemble) B.pre
  have hown : s.vm.findClass RX12 = some m.cls := findClass_of_methodNamed B.named
  have hlocks := B.notSynchronized
  subst hsz
  have hD := hD0.self (sz := s.heap.size)
  generalize hAe : va_A (dw_X12 a ac s0) s.heap.size = A at hD hN ⊢
  have hA : ∀ q : Nat, s.heap.size ≤ q → A q := fun q h => by rw [← hAe]; exact Or.inr h
  have hl := lv_entry ([.ref (a 0), .int v0]) (n := 4) (Nat.le_of_ble_eq_true rfl)
  rw [lg_entry_eq]
  generalize (lg_sl ([.ref (a 0), .int v0]) ++ List.replicate (4 - (lg_sl ([.ref (a 0), .int v0])).length) Slot.unset).toArray = ls at hl ⊢
  have hl : lv_has ls 4 [(0, .ref (a 0)), (1, .int v0)] := hl
  exact db_X12_assemble_0 (dC := dC) (dI := dI) (a := a) (ac := ac) (n := n) (r := r) ⟨hlt, hx, hb, hml, hown, hts, hN, hA, hK⟩ ⟨hDe, htb, hlocks⟩ (fun pc v τ H locs ls d z er hP hD hS => by subst er; exact W.widen (k := 1) (n := 6) (by decide) (by decide) (vx_ret (W.zret (v := v) hx hb hr z (fun t ht hW => ⟨⟨v, τ, rfl, rfl, by rw [ht]; exact hP, va_K.moved hW.alike hK, hD⟩, hS.F ht⟩) hS.2.2 d))) v0 s0 _ _ _ h hP hD va_S.rf (lv_sub hl [0, 1] rfl)
def ow_dm_X12_programOf : List Cond := Cond.code yX12_programOf cX12_programOf 2 (some (.object "TimeMachine$Program")) :: ([Cond.fieldLink RX12 16 "TimeMachine" "programs" "[LTimeMachine$Program;"] ++ (u_ws RX12 TX12 12 ++ []))
theorem gd_dm_X12_programOf : ∀ w ∈ ow_dm_X12_programOf, (w.onTables && w.keeps) = true ∨ ∃ ty, w = Cond.arrayClass ty := List.forall_mem_cons.mpr ⟨good_of_word rfl, List.forall_mem_append.mpr ⟨fun w h => good_of_word (List.all_eq_true.mp (by decide +kernel) w h), List.forall_mem_append.mpr ⟨gu_X12, fun _ h => nomatch h⟩⟩⟩
theorem hi_dm_X12_programOf_X12 : ∀ w ∈ u_ws RX12 TX12 12, w ∈ ow_dm_X12_programOf := fun w h => List.mem_cons_of_mem _ (List.mem_append_right _ (List.mem_append_left _ h))
def dj_X12_programOf_19 (p : Program) (l : Launch) (e : Env) (s : State) (m : MethodId) (args : Array Value) (below : List Frame) (meth : Method) (c : Code) (Q : State → Prop) (A : Nat → Prop) (dC : Nat → ClassId) (dI : Nat → Nat → Nat) (a : Nat → Nat) (ac : Nat → ClassId) (g : Option Nat → (St × Rw × (St) × (St × (St)) × (St) × (St × (St × (St × (St)))) × (St) × (St) × (Nat → St) × (Nat → St) × (Nat → St × (St))) → Option (Option Nat × (St × Rw × (St) × (St × (St)) × (St) × (St × (St × (St × (St)))) × (St) × (St) × (Nat → St) × (Nat → St) × (Nat → St × (St))))) (r : Option Nat × (St × Rw × (St) × (St × (St)) × (St) × (St × (St × (St × (St)))) × (St) × (St) × (Nat → St) × (Nat → St) × (Nat → St × (St)))) : Prop := ∀ (y0 : Option Nat) (s0 : St × Rw × (St) × (St × (St)) × (St) × (St × (St × (St × (St)))) × (St) × (St) × (Nat → St) × (Nat → St) × (Nat → St × (St))) (H : Heap) (locs : List Loc) (ls : Array Slot), g y0 s0 = some r → va_P (dC, dI) vwCl (dw_X12 a ac s0) H → va_D A (dw_X12 a ac s0) → va_S A s.heap H locs → lv_has ls 2 [] → W p l e (headSpec ow_dm_X12_programOf ({ frames := 0, cells := 0, slots := 0, locals := 0 })).room s m args below meth c H locs 0 0 Q (F0 m 19 ls [va_rf (Option.map (fun j => a (0 + j * 5 + 57)) y0)])
def dj_X12_programOf_9 (p : Program) (l : Launch) (e : Env) (s : State) (m : MethodId) (args : Array Value) (below : List Frame) (meth : Method) (c : Code) (Q : State → Prop) (A : Nat → Prop) (dC : Nat → ClassId) (dI : Nat → Nat → Nat) (a : Nat → Nat) (ac : Nat → ClassId) (g : (St × Rw × (St) × (St × (St)) × (St) × (St × (St × (St × (St)))) × (St) × (St) × (Nat → St) × (Nat → St) × (Nat → St × (St))) → Option (Option Nat × (St × Rw × (St) × (St × (St)) × (St) × (St × (St × (St × (St)))) × (St) × (St) × (Nat → St) × (Nat → St) × (Nat → St × (St))))) (r : Option Nat × (St × Rw × (St) × (St × (St)) × (St) × (St × (St × (St × (St)))) × (St) × (St) × (Nat → St) × (Nat → St) × (Nat → St × (St)))) : Prop := ∀ (s0 : St × Rw × (St) × (St × (St)) × (St) × (St × (St × (St × (St)))) × (St) × (St) × (Nat → St) × (Nat → St) × (Nat → St × (St))) (H : Heap) (locs : List Loc) (ls : Array Slot), g s0 = some r → va_P (dC, dI) vwCl (dw_X12 a ac s0) H → va_D A (dw_X12 a ac s0) → va_S A s.heap H locs → lv_has ls 2 [] → W p l e (headSpec ow_dm_X12_programOf ({ frames := 0, cells := 0, slots := 0, locals := 0 })).room s m args below meth c H locs 0 0 Q (F0 m 9 ls [])
def dj_X12_programOf_0 (p : Program) (l : Launch) (e : Env) (s : State) (m : MethodId) (args : Array Value) (below : List Frame) (meth : Method) (c : Code) (Q : State → Prop) (A : Nat → Prop) (dC : Nat → ClassId) (dI : Nat → Nat → Nat) (a : Nat → Nat) (ac : Nat → ClassId) (g : Int32 → (St × Rw × (St) × (St × (St)) × (St) × (St × (St × (St × (St)))) × (St) × (St) × (Nat → St) × (Nat → St) × (Nat → St × (St))) → Option (Option Nat × (St × Rw × (St) × (St × (St)) × (St) × (St × (St × (St × (St)))) × (St) × (St) × (Nat → St) × (Nat → St) × (Nat → St × (St))))) (r : Option Nat × (St × Rw × (St) × (St × (St)) × (St) × (St × (St × (St × (St)))) × (St) × (St) × (Nat → St) × (Nat → St) × (Nat → St × (St)))) : Prop := ∀ (v0 : Int32) (s0 : St × Rw × (St) × (St × (St)) × (St) × (St × (St × (St × (St)))) × (St) × (St) × (Nat → St) × (Nat → St) × (Nat → St × (St))) (H : Heap) (locs : List Loc) (ls : Array Slot), g v0 s0 = some r → va_P (dC, dI) vwCl (dw_X12 a ac s0) H → va_D A (dw_X12 a ac s0) → va_S A s.heap H locs → lv_has ls 2 [(0, .ref (a 0)), (1, .int v0)] → W p l e (headSpec ow_dm_X12_programOf ({ frames := 0, cells := 0, slots := 0, locals := 0 })).room s m args below meth c H locs 0 0 Q (F0 m 0 ls [])
set_option maxHeartbeats 40000000 in
set_option maxRecDepth 100000 in
theorem db_X12_programOf_19 {p : Program} {l : Launch} {e : Env} {s : State} {m : MethodId} {args : Array Value} {below : List Frame} {meth : Method} {c : Code} {Q : State → Prop} {A : Nat → Prop} {dC : Nat → ClassId} {dI : Nat → Nat → Nat} {a : Nat → Nat} {ac : Nat → ClassId} {n : Nat} {r : Option Nat × (St × Rw × (St) × (St × (St)) × (St) × (St × (St × (St × (St)))) × (St) × (St) × (Nat → St) × (Nat → St) × (Nat → St × (St)))} (C : nd_C p l s m args c A (dC, dI) cX12_programOf 2 RX12 ow_dm_X12_programOf (dk_X12 ac)) (K : nd_Kq p l e (headSpec ow_dm_X12_programOf ({ frames := 0, cells := 0, slots := 0, locals := 0 })).room s m args below meth c Q A (dC, dI) cX12_programOf (St × Rw × (St) × (St × (St)) × (St) × (St × (St × (St × (St)))) × (St) × (St) × (Nat → St) × (Nat → St) × (Nat → St × (St))) (dw_X12 a ac) (fun j => a (0 + j * 5 + 57)) r) : dj_X12_programOf_19 p l e s m args below meth c Q A dC dI a ac (df_X12_programOf_19 n (a 15) (a 3)) r := by
  obtain ⟨hlt, hx, hb, hml, hown, hts, hN, hA, hK⟩ := id C
  intro y0 s0 H locs ls h hP hD hS hl
  unfold df_X12_programOf_19 at h
  cases hrj2 : y0 with
  | none =>
    subst hrj2
    have h := nd_mN h rfl
    have hl : lv_has ls 2 [] := hl
    refine W.eq (g2 := F0 m 19 ls [.null]) rfl ?_
    exact K _ none _ _ _ _ dX12_programOf_19 (Option.some.inj h).symm hP hD hS
  | some j2 =>
    subst hrj2
    have h := nd_mS h rfl
    have hl : lv_has ls 2 [] := hl
    refine W.eq (g2 := F0 m 19 ls [.ref (a (0 + j2 * 5 + 57))]) rfl ?_
    exact K _ (some j2) _ _ _ _ dX12_programOf_19 (Option.some.inj h).symm hP hD hS
set_option maxHeartbeats 40000000 in
set_option maxRecDepth 100000 in
theorem db_X12_programOf_9 {p : Program} {l : Launch} {e : Env} {s : State} {m : MethodId} {args : Array Value} {below : List Frame} {meth : Method} {c : Code} {Q : State → Prop} {A : Nat → Prop} {dC : Nat → ClassId} {dI : Nat → Nat → Nat} {a : Nat → Nat} {ac : Nat → ClassId} {n : Nat} {r : Option Nat × (St × Rw × (St) × (St × (St)) × (St) × (St × (St × (St × (St)))) × (St) × (St) × (Nat → St) × (Nat → St) × (Nat → St × (St)))} (C : nd_C p l s m args c A (dC, dI) cX12_programOf 2 RX12 ow_dm_X12_programOf (dk_X12 ac)) (K : nd_Kq p l e (headSpec ow_dm_X12_programOf ({ frames := 0, cells := 0, slots := 0, locals := 0 })).room s m args below meth c Q A (dC, dI) cX12_programOf (St × Rw × (St) × (St × (St)) × (St) × (St × (St × (St × (St)))) × (St) × (St) × (Nat → St) × (Nat → St) × (Nat → St × (St))) (dw_X12 a ac) (fun j => a (0 + j * 5 + 57)) r) : dj_X12_programOf_9 p l e s m args below meth c Q A dC dI a ac (df_X12_programOf_9 n (a 15) (a 3)) r := by
  obtain ⟨hlt, hx, hb, hml, hown, hts, hN, hA, hK⟩ := id C
  intro s0 H locs ls h hP hD hS hl
  unfold df_X12_programOf_9 at h
  refine lv_null hx hb dX12_programOf_9 ?_
  refine lv_goto (tgt := 19) hx hb dX12_programOf_10 (by decide) ?_
  exact (db_X12_programOf_19 C K) (none) s0 _ _ _ h hP hD hS (lv_sub hl [] rfl)
set_option maxHeartbeats 40000000 in
set_option maxRecDepth 100000 in
theorem db_X12_programOf_0 {p : Program} {l : Launch} {e : Env} {s : State} {m : MethodId} {args : Array Value} {below : List Frame} {meth : Method} {c : Code} {Q : State → Prop} {A : Nat → Prop} {dC : Nat → ClassId} {dI : Nat → Nat → Nat} {a : Nat → Nat} {ac : Nat → ClassId} {n : Nat} {r : Option Nat × (St × Rw × (St) × (St × (St)) × (St) × (St × (St × (St × (St)))) × (St) × (St) × (Nat → St) × (Nat → St) × (Nat → St × (St)))} (C : nd_C p l s m args c A (dC, dI) cX12_programOf 2 RX12 ow_dm_X12_programOf (dk_X12 ac)) (K : nd_Kq p l e (headSpec ow_dm_X12_programOf ({ frames := 0, cells := 0, slots := 0, locals := 0 })).room s m args below meth c Q A (dC, dI) cX12_programOf (St × Rw × (St) × (St × (St)) × (St) × (St × (St × (St × (St)))) × (St) × (St) × (Nat → St) × (Nat → St) × (Nat → St × (St))) (dw_X12 a ac) (fun j => a (0 + j * 5 + 57)) r) : dj_X12_programOf_0 p l e s m args below meth c Q A dC dI a ac (df_X12_programOf_0 n (a 15) (a 3)) r := by
  obtain ⟨hlt, hx, hb, hml, hown, hts, hN, hA, hK⟩ := id C
  intro v0 s0 H locs ls h hP hD hS hl
  unfold df_X12_programOf_0 at h
  refine lv_iload_n hx hb dX12_programOf_0 rfl (lv_at hl 1 rfl) ?_
  refine lv_if_lt (tgt := 9) hx hb dX12_programOf_1 (by decide) (fun c1 => ?_) (fun c1 => ?_)
  · have h := nd_pos h c1
    exact (db_X12_programOf_9 C K)  s0 _ _ _ h hP hD hS (lv_sub hl [] rfl)
  · have h := nd_neg h c1
    refine lv_iload_n hx hb dX12_programOf_4 rfl (lv_at hl 1 rfl) ?_
    refine lv_iconst (v := 4) hx hb dX12_programOf_5 (by decide) ?_
    refine lv_icmp_lt (tgt := 13) hx hb dX12_programOf_6 (by decide) (fun c3 => ?_) (fun c3 => ?_)
    · have h := nd_pos h c3
      refine lv_aload_n hx hb dX12_programOf_13 rfl (lv_at hl 0 rfl) ?_
      refine va_get (D := (dC, dI)) (ci := 13) (v := .ref (a 54)) (C := RX12) (T := TX12) (N := 12) hx hb hts hi_dm_X12_programOf_X12 hown hK hP 0 rfl rfl 3 (by decide) (hts (.fieldLink RX12 16 "TimeMachine" "programs" "[LTimeMachine$Program;") (List.mem_of_getElem? (i := 1) rfl)) (fun _ h9 => h9) rfl dX12_programOf_14 ?_
      refine lv_iload_n hx hb dX12_programOf_17 rfl (lv_at hl 1 rfl) ?_
      obtain ⟨i4, h⟩ := nd_ck_e h
      refine va_aldq (i := v0) hx hb hK hP 54 44 rfl rfl i4 dX12_programOf_18 ?_
      cases hrj5 : s0.2.1 1 (Int32.toNatClampNeg v0) with
      | none =>
        have h := nd_mN h hrj5
        refine W.eq (g2 := F0 m 19 ls [.null]) (by first | rfl | (show F0 m _ ls (va_rf (Option.map (fun j => a (0 + j * 5 + 57)) (s0.2.1 1 (Int32.toNatClampNeg v0))) :: _) = _; rw [hrj5]; rfl)) ?_
        exact (db_X12_programOf_19 C K) (none) s0 _ _ _ h hP hD hS (lv_sub hl [] rfl)
      | some j5 =>
        have h := nd_mS h hrj5
        refine W.eq (g2 := F0 m 19 ls [.ref (a (0 + j5 * 5 + 57))]) (by first | rfl | (show F0 m _ ls (va_rf (Option.map (fun j => a (0 + j * 5 + 57)) (s0.2.1 1 (Int32.toNatClampNeg v0))) :: _) = _; rw [hrj5]; rfl)) ?_
        exact (db_X12_programOf_19 C K) (some j5) s0 _ _ _ h hP hD hS (lv_sub hl [] rfl)
    · have h := nd_neg h c3
      exact (db_X12_programOf_9 C K)  s0 _ _ _ h hP hD hS (lv_sub hl [] rfl)
set_option maxHeartbeats 40000000 in
set_option maxRecDepth 100000 in
theorem dm_X12_programOf (l : Launch) (hlt : l.stackTraces = false) (dC : Nat → ClassId) (dI : Nat → Nat → Nat) (a : Nat → Nat) (ac : Nat → ClassId) (n : Nat) (v0 : Int32) (s0 : St × Rw × (St) × (St × (St)) × (St) × (St × (St × (St × (St)))) × (St) × (St) × (Nat → St) × (Nat → St) × (Nat → St × (St))) {r : Option Nat × (St × Rw × (St) × (St × (St)) × (St) × (St × (St × (St × (St)))) × (St) × (St) × (Nat → St) × (Nat → St) × (Nat → St × (St)))} (h : df_X12_programOf n (a 15) (a 3) v0 s0 = some r) (sz : Nat) : Met l yX12_programOf ow_dm_X12_programOf ({ frames := 0, cells := 0, slots := 0, locals := 0 }) (va_Pc [.ref (a 0), .int v0] (fun U => U.heap.size = sz ∧ va_P (dC, dI) vwCl (dw_X12 a ac s0) U.heap ∧ va_K (dC, dI) vwCl (dk_X12 ac) U ∧ va_D (fun _ => True) (dw_X12 a ac s0) ∧ nv_E dI (va_A (dw_X12 a ac s0) sz) U)) (va_Qq (fun x _ => x = Option.map (fun j => a (0 + j * 5 + 57)) r.1) (fun (_ : Unit) t => va_P (dC, dI) vwCl (dw_X12 a ac r.2) t.heap ∧ va_K (dC, dI) vwCl (dk_X12 ac) t ∧ va_D (va_A (dw_X12 a ac s0) sz) (dw_X12 a ac r.2)) (va_A (dw_X12 a ac s0) sz)) 0 0 (va_A (dw_X12 a ac s0) sz) := by
  refine Met.ofW (cc := cX12_programOf) (maxL := 2) (ret := (some (.object "TimeMachine$Program"))) (by decide) rfl ?_
  intro p e s m args below meth c s₁ B hml hv
  obtain ⟨rfl, hsz, hP, hK, hD0, hN⟩ := hv
  have hx := B.exec
  have hb := B.bytes
  have hr := B.returns
  have hts := atoms_spec (ws := ow_dm_X12_programOf) B.pre
  have hown : s.vm.findClass RX12 = some m.cls := findClass_of_methodNamed B.named
  have hlocks := B.notSynchronized
  subst hsz
  have hD := hD0.self (sz := s.heap.size)
  generalize hAe : va_A (dw_X12 a ac s0) s.heap.size = A at hD hN ⊢
  have hA : ∀ q : Nat, s.heap.size ≤ q → A q := fun q h => by rw [← hAe]; exact Or.inr h
  have hl := lv_entry ([.ref (a 0), .int v0]) (n := 2) (Nat.le_of_ble_eq_true rfl)
  rw [lg_entry_eq]
  generalize (lg_sl ([.ref (a 0), .int v0]) ++ List.replicate (2 - (lg_sl ([.ref (a 0), .int v0])).length) Slot.unset).toArray = ls at hl ⊢
  have hl : lv_has ls 2 [(0, .ref (a 0)), (1, .int v0)] := hl
  exact db_X12_programOf_0 (dC := dC) (dI := dI) (a := a) (ac := ac) (n := n) (r := r) ⟨hlt, hx, hb, hml, hown, hts, hN, hA, hK⟩ (fun pc o τ H locs ls d er hP hD hS => by subst er; exact W.aret (v := va_rf (Option.map (fun j => a (0 + j * 5 + 57)) o)) hx hb hr (by first | exact Or.inl ⟨_, rfl⟩ | exact Or.inr ⟨_, rfl⟩) (va_rf_or _) (fun t ht hW => ⟨⟨Option.map (fun j => a (0 + j * 5 + 57)) o, (), rfl, rfl, by rw [ht]; exact hP, va_K.moved hW.alike hK, hD⟩, hS.F ht⟩) hS.2.2 d) v0 s0 _ _ _ h hP hD va_S.rf (lv_sub hl [0, 1] rfl)
def ow_dm_X12_program : List Cond := Cond.code yX12_program cX12_program 4 (some .int) :: ([Cond.methodLink RX12 85 yX12_programOf, Cond.instanceMethod yX12_programOf, Cond.selects RX12 yX12_programOf yX12_programOf, Cond.initialized RX12, Cond.fieldLink RX12 89 "TimeMachine$Program" "textSize" "I", Cond.fieldLink RX12 92 "TimeMachine$Program" "dataStart" "I", Cond.fieldLink RX12 95 "TimeMachine$Program" "size" "I", Cond.fieldLink RX12 98 "TimeMachine$Program" "labels" "I", Cond.fieldLink RX12 101 "TimeMachine$Program" "constants" "I"] ++ (u_ws RX8 TX8 10 ++ (ow_dm_X12_programOf ++ [])))
theorem gd_dm_X12_program : ∀ w ∈ ow_dm_X12_program, (w.onTables && w.keeps) = true ∨ ∃ ty, w = Cond.arrayClass ty := List.forall_mem_cons.mpr ⟨good_of_word rfl, List.forall_mem_append.mpr ⟨fun w h => good_of_word (List.all_eq_true.mp (by decide +kernel) w h), List.forall_mem_append.mpr ⟨gu_X8, List.forall_mem_append.mpr ⟨gd_dm_X12_programOf, fun _ h => nomatch h⟩⟩⟩⟩
theorem hi_dm_X12_program_X8 : ∀ w ∈ u_ws RX8 TX8 10, w ∈ ow_dm_X12_program := fun w h => List.mem_cons_of_mem _ (List.mem_append_right _ (List.mem_append_left _ h))
theorem gi_dm_X12_program_0 : GoodIn ow_dm_X12_program (wsV RX12 85 RX12 yX12_programOf ow_dm_X12_programOf) := goodIn_app (goodIn_of _ (by decide +kernel)) (fun w h => ⟨List.mem_cons_of_mem _ (List.mem_append_right _ (List.mem_append_right _ (List.mem_append_left _ h))), gd_dm_X12_programOf w h⟩)
def dj_X12_program_0 (p : Program) (l : Launch) (e : Env) (s : State) (m : MethodId) (args : Array Value) (below : List Frame) (meth : Method) (c : Code) (Q : State → Prop) (A : Nat → Prop) (dC : Nat → ClassId) (dI : Nat → Nat → Nat) (a : Nat → Nat) (ac : Nat → ClassId) (g : Int32 → Int32 → (St × Rw × (St) × (St × (St)) × (St) × (St × (St × (St × (St)))) × (St) × (St) × (Nat → St) × (Nat → St) × (Nat → St × (St))) → Option (Int32 × (St × Rw × (St) × (St × (St)) × (St) × (St × (St × (St × (St)))) × (St) × (St) × (Nat → St) × (Nat → St) × (Nat → St × (St))))) (r : Int32 × (St × Rw × (St) × (St × (St)) × (St) × (St × (St × (St × (St)))) × (St) × (St) × (Nat → St) × (Nat → St) × (Nat → St × (St)))) : Prop := ∀ (v0 : Int32) (v1 : Int32) (s0 : St × Rw × (St) × (St × (St)) × (St) × (St × (St × (St × (St)))) × (St) × (St) × (Nat → St) × (Nat → St) × (Nat → St × (St))) (H : Heap) (locs : List Loc) (ls : Array Slot), g v0 v1 s0 = some r → va_P (dC, dI) vwCl (dw_X12 a ac s0) H → va_D A (dw_X12 a ac s0) → va_S A s.heap H locs → lv_has ls 4 [(0, .ref (a 0)), (1, .int v0), (2, .int v1)] → W p l e (headSpec ow_dm_X12_program ({ frames := 1, cells := 0, slots := 0, locals := 21 })).room s m args below meth c H locs 0 0 Q (F0 m 0 ls [])
set_option maxHeartbeats 40000000 in
set_option maxRecDepth 100000 in
theorem db_X12_program_0 {p : Program} {l : Launch} {e : Env} {s : State} {m : MethodId} {args : Array Value} {below : List Frame} {meth : Method} {c : Code} {Q : State → Prop} {A : Nat → Prop} {dC : Nat → ClassId} {dI : Nat → Nat → Nat} {a : Nat → Nat} {ac : Nat → ClassId} {n : Nat} {r : Int32 × (St × Rw × (St) × (St × (St)) × (St) × (St × (St × (St × (St)))) × (St) × (St) × (Nat → St) × (Nat → St) × (Nat → St × (St)))} (C : nd_C p l s m args c A (dC, dI) cX12_program 4 RX12 ow_dm_X12_program (dk_X12 ac)) (K : nd_Ki p l e (headSpec ow_dm_X12_program ({ frames := 1, cells := 0, slots := 0, locals := 21 })).room s m args below meth c Q A (dC, dI) cX12_program .int (St × Rw × (St) × (St × (St)) × (St) × (St × (St × (St × (St)))) × (St) × (St) × (Nat → St) × (Nat → St) × (Nat → St × (St))) (dw_X12 a ac) r) : dj_X12_program_0 p l e s m args below meth c Q A dC dI a ac (df_X12_program_0 n (a 15) (a 3)) r := by
  obtain ⟨hlt, hx, hb, hml, hown, hts, hN, hA, hK⟩ := id C
  intro v0 v1 s0 H locs ls h hP hD hS hl
  unfold df_X12_program_0 at h
  refine lv_aload_n hx hb dX12_program_0 rfl (lv_at hl 0 rfl) ?_
  refine lv_iload_n hx hb dX12_program_1 rfl (lv_at hl 1 rfl) ?_
  obtain ⟨q1, s2, hq, h⟩ := nd_b2_e h
  have hPc := hP
  have hDc := hD
  have hKc := hK
  have hFc := nd_rs hD hS hA
  refine nd_cVq (As := [.int v0]) (rest := []) (q := Option.map (fun j => a (0 + j * 5 + 57)) q1) (w' := dw_X12 a ac s2) ⟨hx, hb, hml, hown, hts⟩ (fun sz => dm_X12_programOf l hlt dC dI a ac n (v0) s0 hq sz) (cwV 1 hts gi_dm_X12_program_0 rfl rfl rfl (by decide +kernel) ⟨Nat.le_of_ble_eq_true rfl, Nat.le_of_ble_eq_true rfl⟩) hPc hDc hKc hS hA hN (va_recv hKc hPc (ci := 13) (q0 := 0) rfl rfl) rfl hl.1 rfl (Nat.le_of_ble_eq_true rfl) dX12_program_2 (fun H locs hP1 hD1 hk1 hS => ?_)
  have hP := hP1
  have hD := hD1.weaken (fun k q _ h => hFc q.1 h)
  cases hrj4 : q1 with
  | none =>
    have h := nd_mN h hrj4
    refine W.eq (g2 := F0 m 5 ls [.null]) (by first | rfl | (show F0 m _ ls (va_rf (Option.map (fun j => a (0 + j * 5 + 57)) q1) :: _) = _; rw [hrj4]; rfl)) ?_
    refine lv_astore_nN (lv' := [(3, .null), (0, .ref (a 0)), (1, .int v0), (2, .int v1)]) hx hb dX12_program_5 rfl hl (by decide) rfl (fun ls hl => ?_)
    refine lv_aload_nN hx hb dX12_program_6 rfl (lv_at hl 0 rfl) ?_
    refine lv_ifnonnullN hx hb dX12_program_7 ?_
    refine lv_iconst (v := (-1)) hx hb dX12_program_10 (by decide) ?_
    exact K _ _ _ _ _ _ dX12_program_11 rfl (Option.some.inj h).symm hP hD hS
  | some j4 =>
    have h := nd_mS h hrj4
    refine W.eq (g2 := F0 m 5 ls [.ref (a (0 + j4 * 5 + 57))]) (by first | rfl | (show F0 m _ ls (va_rf (Option.map (fun j => a (0 + j * 5 + 57)) q1) :: _) = _; rw [hrj4]; rfl)) ?_
    refine lv_astore_n (lv' := [(3, .ref (a (0 + j4 * 5 + 57))), (0, .ref (a 0)), (1, .int v0), (2, .int v1)]) hx hb dX12_program_5 rfl hl (by decide) rfl (fun ls hl => ?_)
    refine lv_aload_n hx hb dX12_program_6 rfl (lv_at hl 0 rfl) ?_
    refine lv_ifnonnull (tgt := 12) hx hb dX12_program_7 (by decide) ?_
    refine lv_iload_n hx hb dX12_program_12 rfl (lv_at hl 3 rfl) ?_
    by_cases c5 : v1 = 0
    · have h := nd_pos h c5
      refine lv_tableIn (off := 35) (tgt := 48) hx hb dX12_program_13 (by rw [c5]; decide) (by rw [c5]; decide) (by rw [c5]; decide) (by decide) ?_
      refine lv_aload_n hx hb dX12_program_48 rfl (lv_at hl 0 rfl) ?_
      obtain ⟨l6, h⟩ := nd_lt_e h
      refine va_get (D := (dC, dI)) (ci := 9) (v := .int (sI (s2.2.2.2.2.2.2.2.2.1 j4) 0)) (C := RX8) (T := TX8) (N := 10) hx hb hts hi_dm_X12_program_X8 hown hK (dl_X12_P8 l6 hP) 0 rfl rfl 1 (by decide) (hts (.fieldLink RX12 89 "TimeMachine$Program" "textSize" "I") (List.mem_of_getElem? (i := 5) rfl)) (fun _ h9 => h9) rfl dX12_program_49 ?_
      exact K _ _ _ _ _ _ dX12_program_52 rfl (Option.some.inj h).symm hP hD hS
    have h := nd_neg h c5
    by_cases c7 : v1 = 1
    · have h := nd_pos h c7
      refine lv_tableIn (off := 40) (tgt := 53) hx hb dX12_program_13 (by rw [c7]; decide) (by rw [c7]; decide) (by rw [c7]; decide) (by decide) ?_
      refine lv_aload_n hx hb dX12_program_53 rfl (lv_at hl 0 rfl) ?_
      obtain ⟨l8, h⟩ := nd_lt_e h
      refine va_get (D := (dC, dI)) (ci := 9) (v := .int (sI (s2.2.2.2.2.2.2.2.2.1 j4) 1)) (C := RX8) (T := TX8) (N := 10) hx hb hts hi_dm_X12_program_X8 hown hK (dl_X12_P8 l8 hP) 0 rfl rfl 2 (by decide) (hts (.fieldLink RX12 92 "TimeMachine$Program" "dataStart" "I") (List.mem_of_getElem? (i := 6) rfl)) (fun _ h9 => h9) rfl dX12_program_54 ?_
      exact K _ _ _ _ _ _ dX12_program_57 rfl (Option.some.inj h).symm hP hD hS
    have h := nd_neg h c7
    by_cases c9 : v1 = 2
    · have h := nd_pos h c9
      refine lv_tableIn (off := 45) (tgt := 58) hx hb dX12_program_13 (by rw [c9]; decide) (by rw [c9]; decide) (by rw [c9]; decide) (by decide) ?_
      refine lv_aload_n hx hb dX12_program_58 rfl (lv_at hl 0 rfl) ?_
      obtain ⟨l10, h⟩ := nd_lt_e h
      refine va_get (D := (dC, dI)) (ci := 9) (v := .int (sI (s2.2.2.2.2.2.2.2.2.1 j4) 2)) (C := RX8) (T := TX8) (N := 10) hx hb hts hi_dm_X12_program_X8 hown hK (dl_X12_P8 l10 hP) 0 rfl rfl 3 (by decide) (hts (.fieldLink RX12 95 "TimeMachine$Program" "size" "I") (List.mem_of_getElem? (i := 7) rfl)) (fun _ h9 => h9) rfl dX12_program_59 ?_
      exact K _ _ _ _ _ _ dX12_program_62 rfl (Option.some.inj h).symm hP hD hS
    have h := nd_neg h c9
    by_cases c11 : v1 = 3
    · have h := nd_pos h c11
      refine lv_tableIn (off := 50) (tgt := 63) hx hb dX12_program_13 (by rw [c11]; decide) (by rw [c11]; decide) (by rw [c11]; decide) (by decide) ?_
      refine lv_aload_n hx hb dX12_program_63 rfl (lv_at hl 0 rfl) ?_
      obtain ⟨l12, h⟩ := nd_lt_e h
      refine va_get (D := (dC, dI)) (ci := 9) (v := .int (sI (s2.2.2.2.2.2.2.2.2.1 j4) 4)) (C := RX8) (T := TX8) (N := 10) hx hb hts hi_dm_X12_program_X8 hown hK (dl_X12_P8 l12 hP) 0 rfl rfl 6 (by decide) (hts (.fieldLink RX12 98 "TimeMachine$Program" "labels" "I") (List.mem_of_getElem? (i := 8) rfl)) (fun _ h9 => h9) rfl dX12_program_64 ?_
      exact K _ _ _ _ _ _ dX12_program_67 rfl (Option.some.inj h).symm hP hD hS
    have h := nd_neg h c11
    by_cases c13 : v1 = 4
    · have h := nd_pos h c13
      refine lv_tableIn (off := 55) (tgt := 68) hx hb dX12_program_13 (by rw [c13]; decide) (by rw [c13]; decide) (by rw [c13]; decide) (by decide) ?_
      refine lv_aload_n hx hb dX12_program_68 rfl (lv_at hl 0 rfl) ?_
      obtain ⟨l14, h⟩ := nd_lt_e h
      refine va_get (D := (dC, dI)) (ci := 9) (v := .int (sI (s2.2.2.2.2.2.2.2.2.1 j4) 3)) (C := RX8) (T := TX8) (N := 10) hx hb hts hi_dm_X12_program_X8 hown hK (dl_X12_P8 l14 hP) 0 rfl rfl 4 (by decide) (hts (.fieldLink RX12 101 "TimeMachine$Program" "constants" "I") (List.mem_of_getElem? (i := 9) rfl)) (fun _ h9 => h9) rfl dX12_program_69 ?_
      exact K _ _ _ _ _ _ dX12_program_72 rfl (Option.some.inj h).symm hP hD hS
    have h := nd_neg h c13
    refine lv_tableOut (tgt := 73) hx hb dX12_program_13 (by have g0 := nv_nei c5 (k := 0) (by decide); have g1 := nv_nei c7 (k := 1) (by decide); have g2 := nv_nei c9 (k := 2) (by decide); have g3 := nv_nei c11 (k := 3) (by decide); have g4 := nv_nei c13 (k := 4) (by decide); omega) (by decide) ?_
    refine lv_iconst (v := (-1)) hx hb dX12_program_73 (by decide) ?_
    exact K _ _ _ _ _ _ dX12_program_74 rfl (Option.some.inj h).symm hP hD hS
set_option maxHeartbeats 40000000 in
set_option maxRecDepth 100000 in
theorem dm_X12_program (l : Launch) (hlt : l.stackTraces = false) (dC : Nat → ClassId) (dI : Nat → Nat → Nat) (a : Nat → Nat) (ac : Nat → ClassId) (n : Nat) (v0 : Int32) (v1 : Int32) (s0 : St × Rw × (St) × (St × (St)) × (St) × (St × (St × (St × (St)))) × (St) × (St) × (Nat → St) × (Nat → St) × (Nat → St × (St))) {r : Int32 × (St × Rw × (St) × (St × (St)) × (St) × (St × (St × (St × (St)))) × (St) × (St) × (Nat → St) × (Nat → St) × (Nat → St × (St)))} (h : df_X12_program n (a 15) (a 3) v0 v1 s0 = some r) (sz : Nat) : Met l yX12_program ow_dm_X12_program ({ frames := 1, cells := 0, slots := 0, locals := 21 }) (va_Pc [.ref (a 0), .int v0, .int v1] (fun U => U.heap.size = sz ∧ va_P (dC, dI) vwCl (dw_X12 a ac s0) U.heap ∧ va_K (dC, dI) vwCl (dk_X12 ac) U ∧ va_D (fun _ => True) (dw_X12 a ac s0) ∧ nv_E dI (va_A (dw_X12 a ac s0) sz) U)) (va_Qi (fun x _ => x = r.1) (fun (_ : Unit) t => va_P (dC, dI) vwCl (dw_X12 a ac r.2) t.heap ∧ va_K (dC, dI) vwCl (dk_X12 ac) t ∧ va_D (va_A (dw_X12 a ac s0) sz) (dw_X12 a ac r.2)) (va_A (dw_X12 a ac s0) sz)) 0 0 (va_A (dw_X12 a ac s0) sz) := by
  refine Met.ofW (cc := cX12_program) (maxL := 4) (ret := (some .int)) (by decide) rfl ?_
  intro p e s m args below meth c s₁ B hml hv
  obtain ⟨rfl, hsz, hP, hK, hD0, hN⟩ := hv
  have hx := B.exec
  have hb := B.bytes
  have hr := B.returns
  have hts := atoms_spec (ws := ow_dm_X12_program) B.pre
  have hown : s.vm.findClass RX12 = some m.cls := findClass_of_methodNamed B.named
  have hlocks := B.notSynchronized
  subst hsz
  have hD := hD0.self (sz := s.heap.size)
  generalize hAe : va_A (dw_X12 a ac s0) s.heap.size = A at hD hN ⊢
  have hA : ∀ q : Nat, s.heap.size ≤ q → A q := fun q h => by rw [← hAe]; exact Or.inr h
  have hl := lv_entry ([.ref (a 0), .int v0, .int v1]) (n := 4) (Nat.le_of_ble_eq_true rfl)
  rw [lg_entry_eq]
  generalize (lg_sl ([.ref (a 0), .int v0, .int v1]) ++ List.replicate (4 - (lg_sl ([.ref (a 0), .int v0, .int v1])).length) Slot.unset).toArray = ls at hl ⊢
  have hl : lv_has ls 4 [(0, .ref (a 0)), (1, .int v0), (2, .int v1)] := hl
  exact db_X12_program_0 (dC := dC) (dI := dI) (a := a) (ac := ac) (n := n) (r := r) ⟨hlt, hx, hb, hml, hown, hts, hN, hA, hK⟩ (fun pc v τ H locs ls d z er hP hD hS => by subst er; exact W.zret (v := v) hx hb hr z (fun t ht hW => ⟨⟨v, (), rfl, rfl, by rw [ht]; exact hP, va_K.moved hW.alike hK, hD⟩, hS.F ht⟩) hS.2.2 d) v0 v1 s0 _ _ _ h hP hD va_S.rf (lv_sub hl [0, 1, 2] rfl)
def ow_dm_X12_image : List Cond := Cond.code yX12_image cX12_image 4 (some .int) :: ([Cond.methodLink RX12 85 yX12_programOf, Cond.instanceMethod yX12_programOf, Cond.selects RX12 yX12_programOf yX12_programOf, Cond.initialized RX12, Cond.fieldLink RX12 95 "TimeMachine$Program" "size" "I", Cond.fieldLink RX12 104 "TimeMachine$Program" "image" "[B"] ++ (u_ws RX8 TX8 10 ++ (ow_dm_X12_programOf ++ [])))
theorem gd_dm_X12_image : ∀ w ∈ ow_dm_X12_image, (w.onTables && w.keeps) = true ∨ ∃ ty, w = Cond.arrayClass ty := List.forall_mem_cons.mpr ⟨good_of_word rfl, List.forall_mem_append.mpr ⟨fun w h => good_of_word (List.all_eq_true.mp (by decide +kernel) w h), List.forall_mem_append.mpr ⟨gu_X8, List.forall_mem_append.mpr ⟨gd_dm_X12_programOf, fun _ h => nomatch h⟩⟩⟩⟩
theorem hi_dm_X12_image_X8 : ∀ w ∈ u_ws RX8 TX8 10, w ∈ ow_dm_X12_image := fun w h => List.mem_cons_of_mem _ (List.mem_append_right _ (List.mem_append_left _ h))
theorem gi_dm_X12_image_0 : GoodIn ow_dm_X12_image (wsV RX12 85 RX12 yX12_programOf ow_dm_X12_programOf) := goodIn_app (goodIn_of _ (by decide +kernel)) (fun w h => ⟨List.mem_cons_of_mem _ (List.mem_append_right _ (List.mem_append_right _ (List.mem_append_left _ h))), gd_dm_X12_programOf w h⟩)
def dj_X12_image_36 (p : Program) (l : Launch) (e : Env) (s : State) (m : MethodId) (args : Array Value) (below : List Frame) (meth : Method) (c : Code) (Q : State → Prop) (A : Nat → Prop) (dC : Nat → ClassId) (dI : Nat → Nat → Nat) (a : Nat → Nat) (ac : Nat → ClassId) (g : Int32 → (St × Rw × (St) × (St × (St)) × (St) × (St × (St × (St × (St)))) × (St) × (St) × (Nat → St) × (Nat → St) × (Nat → St × (St))) → Option (Int32 × (St × Rw × (St) × (St × (St)) × (St) × (St × (St × (St × (St)))) × (St) × (St) × (Nat → St) × (Nat → St) × (Nat → St × (St))))) (r : Int32 × (St × Rw × (St) × (St × (St)) × (St) × (St × (St × (St × (St)))) × (St) × (St) × (Nat → St) × (Nat → St) × (Nat → St × (St)))) : Prop := ∀ (y0 : Int32) (s0 : St × Rw × (St) × (St × (St)) × (St) × (St × (St × (St × (St)))) × (St) × (St) × (Nat → St) × (Nat → St) × (Nat → St × (St))) (H : Heap) (locs : List Loc) (ls : Array Slot), g y0 s0 = some r → va_P (dC, dI) vwCl (dw_X12 a ac s0) H → va_D A (dw_X12 a ac s0) → va_S A s.heap H locs → lv_has ls 4 [] → W p l e (headSpec ow_dm_X12_image ({ frames := 1, cells := 0, slots := 0, locals := 21 })).room s m args below meth c H locs 0 0 Q (F0 m 36 ls [.int y0])
def dj_X12_image_22 (p : Program) (l : Launch) (e : Env) (s : State) (m : MethodId) (args : Array Value) (below : List Frame) (meth : Method) (c : Code) (Q : State → Prop) (A : Nat → Prop) (dC : Nat → ClassId) (dI : Nat → Nat → Nat) (a : Nat → Nat) (ac : Nat → ClassId) (g : (St × Rw × (St) × (St × (St)) × (St) × (St × (St × (St × (St)))) × (St) × (St) × (Nat → St) × (Nat → St) × (Nat → St × (St))) → Option (Int32 × (St × Rw × (St) × (St × (St)) × (St) × (St × (St × (St × (St)))) × (St) × (St) × (Nat → St) × (Nat → St) × (Nat → St × (St))))) (r : Int32 × (St × Rw × (St) × (St × (St)) × (St) × (St × (St × (St × (St)))) × (St) × (St) × (Nat → St) × (Nat → St) × (Nat → St × (St)))) : Prop := ∀ (s0 : St × Rw × (St) × (St × (St)) × (St) × (St × (St × (St × (St)))) × (St) × (St) × (Nat → St) × (Nat → St) × (Nat → St × (St))) (H : Heap) (locs : List Loc) (ls : Array Slot), g s0 = some r → va_P (dC, dI) vwCl (dw_X12 a ac s0) H → va_D A (dw_X12 a ac s0) → va_S A s.heap H locs → lv_has ls 4 [] → W p l e (headSpec ow_dm_X12_image ({ frames := 1, cells := 0, slots := 0, locals := 21 })).room s m args below meth c H locs 0 0 Q (F0 m 22 ls [])
def dj_X12_image_0 (p : Program) (l : Launch) (e : Env) (s : State) (m : MethodId) (args : Array Value) (below : List Frame) (meth : Method) (c : Code) (Q : State → Prop) (A : Nat → Prop) (dC : Nat → ClassId) (dI : Nat → Nat → Nat) (a : Nat → Nat) (ac : Nat → ClassId) (g : Int32 → Int32 → (St × Rw × (St) × (St × (St)) × (St) × (St × (St × (St × (St)))) × (St) × (St) × (Nat → St) × (Nat → St) × (Nat → St × (St))) → Option (Int32 × (St × Rw × (St) × (St × (St)) × (St) × (St × (St × (St × (St)))) × (St) × (St) × (Nat → St) × (Nat → St) × (Nat → St × (St))))) (r : Int32 × (St × Rw × (St) × (St × (St)) × (St) × (St × (St × (St × (St)))) × (St) × (St) × (Nat → St) × (Nat → St) × (Nat → St × (St)))) : Prop := ∀ (v0 : Int32) (v1 : Int32) (s0 : St × Rw × (St) × (St × (St)) × (St) × (St × (St × (St × (St)))) × (St) × (St) × (Nat → St) × (Nat → St) × (Nat → St × (St))) (H : Heap) (locs : List Loc) (ls : Array Slot), g v0 v1 s0 = some r → va_P (dC, dI) vwCl (dw_X12 a ac s0) H → va_D A (dw_X12 a ac s0) → va_S A s.heap H locs → lv_has ls 4 [(0, .ref (a 0)), (1, .int v0), (2, .int v1)] → W p l e (headSpec ow_dm_X12_image ({ frames := 1, cells := 0, slots := 0, locals := 21 })).room s m args below meth c H locs 0 0 Q (F0 m 0 ls [])
set_option maxHeartbeats 40000000 in
set_option maxRecDepth 100000 in
theorem db_X12_image_36 {p : Program} {l : Launch} {e : Env} {s : State} {m : MethodId} {args : Array Value} {below : List Frame} {meth : Method} {c : Code} {Q : State → Prop} {A : Nat → Prop} {dC : Nat → ClassId} {dI : Nat → Nat → Nat} {a : Nat → Nat} {ac : Nat → ClassId} {n : Nat} {r : Int32 × (St × Rw × (St) × (St × (St)) × (St) × (St × (St × (St × (St)))) × (St) × (St) × (Nat → St) × (Nat → St) × (Nat → St × (St)))} (C : nd_C p l s m args c A (dC, dI) cX12_image 4 RX12 ow_dm_X12_image (dk_X12 ac)) (K : nd_Ki p l e (headSpec ow_dm_X12_image ({ frames := 1, cells := 0, slots := 0, locals := 21 })).room s m args below meth c Q A (dC, dI) cX12_image .int (St × Rw × (St) × (St × (St)) × (St) × (St × (St × (St × (St)))) × (St) × (St) × (Nat → St) × (Nat → St) × (Nat → St × (St))) (dw_X12 a ac) r) : dj_X12_image_36 p l e s m args below meth c Q A dC dI a ac (df_X12_image_36 n (a 15) (a 3)) r := by
  obtain ⟨hlt, hx, hb, hml, hown, hts, hN, hA, hK⟩ := id C
  intro y0 s0 H locs ls h hP hD hS hl
  unfold df_X12_image_36 at h
  exact K _ _ _ _ _ _ dX12_image_36 rfl (Option.some.inj h).symm hP hD hS
set_option maxHeartbeats 40000000 in
set_option maxRecDepth 100000 in
theorem db_X12_image_22 {p : Program} {l : Launch} {e : Env} {s : State} {m : MethodId} {args : Array Value} {below : List Frame} {meth : Method} {c : Code} {Q : State → Prop} {A : Nat → Prop} {dC : Nat → ClassId} {dI : Nat → Nat → Nat} {a : Nat → Nat} {ac : Nat → ClassId} {n : Nat} {r : Int32 × (St × Rw × (St) × (St × (St)) × (St) × (St × (St × (St × (St)))) × (St) × (St) × (Nat → St) × (Nat → St) × (Nat → St × (St)))} (C : nd_C p l s m args c A (dC, dI) cX12_image 4 RX12 ow_dm_X12_image (dk_X12 ac)) (K : nd_Ki p l e (headSpec ow_dm_X12_image ({ frames := 1, cells := 0, slots := 0, locals := 21 })).room s m args below meth c Q A (dC, dI) cX12_image .int (St × Rw × (St) × (St × (St)) × (St) × (St × (St × (St × (St)))) × (St) × (St) × (Nat → St) × (Nat → St) × (Nat → St × (St))) (dw_X12 a ac) r) : dj_X12_image_22 p l e s m args below meth c Q A dC dI a ac (df_X12_image_22 n (a 15) (a 3)) r := by
  obtain ⟨hlt, hx, hb, hml, hown, hts, hN, hA, hK⟩ := id C
  intro s0 H locs ls h hP hD hS hl
  unfold df_X12_image_22 at h
  refine lv_iconst (v := (-1)) hx hb dX12_image_22 (by decide) ?_
  refine lv_goto (tgt := 36) hx hb dX12_image_23 (by decide) ?_
  exact (db_X12_image_36 C K) ((-1)) s0 _ _ _ h hP hD hS (lv_sub hl [] rfl)
set_option maxHeartbeats 40000000 in
set_option maxRecDepth 100000 in
theorem db_X12_image_0 {p : Program} {l : Launch} {e : Env} {s : State} {m : MethodId} {args : Array Value} {below : List Frame} {meth : Method} {c : Code} {Q : State → Prop} {A : Nat → Prop} {dC : Nat → ClassId} {dI : Nat → Nat → Nat} {a : Nat → Nat} {ac : Nat → ClassId} {n : Nat} {r : Int32 × (St × Rw × (St) × (St × (St)) × (St) × (St × (St × (St × (St)))) × (St) × (St) × (Nat → St) × (Nat → St) × (Nat → St × (St)))} (C : nd_C p l s m args c A (dC, dI) cX12_image 4 RX12 ow_dm_X12_image (dk_X12 ac)) (K : nd_Ki p l e (headSpec ow_dm_X12_image ({ frames := 1, cells := 0, slots := 0, locals := 21 })).room s m args below meth c Q A (dC, dI) cX12_image .int (St × Rw × (St) × (St × (St)) × (St) × (St × (St × (St × (St)))) × (St) × (St) × (Nat → St) × (Nat → St) × (Nat → St × (St))) (dw_X12 a ac) r) : dj_X12_image_0 p l e s m args below meth c Q A dC dI a ac (df_X12_image_0 n (a 15) (a 3)) r := by
  obtain ⟨hlt, hx, hb, hml, hown, hts, hN, hA, hK⟩ := id C
  intro v0 v1 s0 H locs ls h hP hD hS hl
  unfold df_X12_image_0 at h
  refine lv_aload_n hx hb dX12_image_0 rfl (lv_at hl 0 rfl) ?_
  refine lv_iload_n hx hb dX12_image_1 rfl (lv_at hl 1 rfl) ?_
  obtain ⟨q1, s2, hq, h⟩ := nd_b2_e h
  have hPc := hP
  have hDc := hD
  have hKc := hK
  have hFc := nd_rs hD hS hA
  refine nd_cVq (As := [.int v0]) (rest := []) (q := Option.map (fun j => a (0 + j * 5 + 57)) q1) (w' := dw_X12 a ac s2) ⟨hx, hb, hml, hown, hts⟩ (fun sz => dm_X12_programOf l hlt dC dI a ac n (v0) s0 hq sz) (cwV 1 hts gi_dm_X12_image_0 rfl rfl rfl (by decide +kernel) ⟨Nat.le_of_ble_eq_true rfl, Nat.le_of_ble_eq_true rfl⟩) hPc hDc hKc hS hA hN (va_recv hKc hPc (ci := 13) (q0 := 0) rfl rfl) rfl hl.1 rfl (Nat.le_of_ble_eq_true rfl) dX12_image_2 (fun H locs hP1 hD1 hk1 hS => ?_)
  have hP := hP1
  have hD := hD1.weaken (fun k q _ h => hFc q.1 h)
  cases hrj4 : q1 with
  | none =>
    have h := nd_mN h hrj4
    refine W.eq (g2 := F0 m 5 ls [.null]) (by first | rfl | (show F0 m _ ls (va_rf (Option.map (fun j => a (0 + j * 5 + 57)) q1) :: _) = _; rw [hrj4]; rfl)) ?_
    refine lv_astore_nN (lv' := [(3, .null), (0, .ref (a 0)), (1, .int v0), (2, .int v1)]) hx hb dX12_image_5 rfl hl (by decide) rfl (fun ls hl => ?_)
    refine lv_aload_nN hx hb dX12_image_6 rfl (lv_at hl 0 rfl) ?_
    refine lv_ifnullN (tgt := 22) hx hb dX12_image_7 (by decide) ?_
    exact (db_X12_image_22 C K)  s2 _ _ _ h hP hD hS (lv_sub hl [] rfl)
  | some j4 =>
    have h := nd_mS h hrj4
    refine W.eq (g2 := F0 m 5 ls [.ref (a (0 + j4 * 5 + 57))]) (by first | rfl | (show F0 m _ ls (va_rf (Option.map (fun j => a (0 + j * 5 + 57)) q1) :: _) = _; rw [hrj4]; rfl)) ?_
    refine lv_astore_n (lv' := [(3, .ref (a (0 + j4 * 5 + 57))), (0, .ref (a 0)), (1, .int v0), (2, .int v1)]) hx hb dX12_image_5 rfl hl (by decide) rfl (fun ls hl => ?_)
    refine lv_aload_n hx hb dX12_image_6 rfl (lv_at hl 0 rfl) ?_
    refine lv_ifnull hx hb dX12_image_7 ?_
    refine lv_iload_n hx hb dX12_image_10 rfl (lv_at hl 3 rfl) ?_
    refine lv_if_lt (tgt := 22) hx hb dX12_image_11 (by decide) (fun c5 => ?_) (fun c5 => ?_)
    · have h := nd_pos h c5
      exact (db_X12_image_22 C K)  s2 _ _ _ h hP hD hS (lv_sub hl [] rfl)
    · have h := nd_neg h c5
      refine lv_iload_n hx hb dX12_image_14 rfl (lv_at hl 3 rfl) ?_
      refine lv_aload_n hx hb dX12_image_15 rfl (lv_at hl 0 rfl) ?_
      obtain ⟨l6, h⟩ := nd_lt_e h
      refine va_get (D := (dC, dI)) (ci := 9) (v := .int (sI (s2.2.2.2.2.2.2.2.2.1 j4) 2)) (C := RX8) (T := TX8) (N := 10) hx hb hts hi_dm_X12_image_X8 hown hK (dl_X12_P8 l6 hP) 0 rfl rfl 3 (by decide) (hts (.fieldLink RX12 95 "TimeMachine$Program" "size" "I") (List.mem_of_getElem? (i := 5) rfl)) (fun _ h9 => h9) rfl dX12_image_16 ?_
      refine lv_icmp_lt (tgt := 26) hx hb dX12_image_19 (by decide) (fun c7 => ?_) (fun c7 => ?_)
      · have h := nd_pos h c7
        refine lv_aload_n hx hb dX12_image_26 rfl (lv_at hl 0 rfl) ?_
        refine va_get (D := (dC, dI)) (ci := 9) (v := .ref (a (1 + j4 * 5 + 57))) (C := RX8) (T := TX8) (N := 10) hx hb hts hi_dm_X12_image_X8 hown hK (dl_X12_P8 l6 hP) 0 rfl rfl 0 (by decide) (hts (.fieldLink RX12 104 "TimeMachine$Program" "image" "[B") (List.mem_of_getElem? (i := 6) rfl)) (fun _ h9 => h9) rfl dX12_image_27 ?_
        refine lv_iload_n hx hb dX12_image_30 rfl (lv_at hl 3 rfl) ?_
        obtain ⟨i8, h⟩ := nd_ck_e h
        refine va_bald (i := v1) hx hb (dq_X12_P8 l6 hK) (dl_X12_P8 l6 hP) 1 0 rfl rfl i8 dX12_image_31 ?_
        refine lv_sipush (v := 255) hx hb dX12_image_32 (by decide) ?_
        refine lv_iand hx hb dX12_image_35 ?_
        exact (db_X12_image_36 C K) (((sR (s2.2.2.2.2.2.2.2.2.1 j4) 0 (Int32.toNatClampNeg v1)) &&& 255)) s2 _ _ _ h hP hD hS (lv_sub hl [] rfl)
      · have h := nd_neg h c7
        exact (db_X12_image_22 C K)  s2 _ _ _ h hP hD hS (lv_sub hl [] rfl)
set_option maxHeartbeats 40000000 in
set_option maxRecDepth 100000 in
theorem dm_X12_image (l : Launch) (hlt : l.stackTraces = false) (dC : Nat → ClassId) (dI : Nat → Nat → Nat) (a : Nat → Nat) (ac : Nat → ClassId) (n : Nat) (v0 : Int32) (v1 : Int32) (s0 : St × Rw × (St) × (St × (St)) × (St) × (St × (St × (St × (St)))) × (St) × (St) × (Nat → St) × (Nat → St) × (Nat → St × (St))) {r : Int32 × (St × Rw × (St) × (St × (St)) × (St) × (St × (St × (St × (St)))) × (St) × (St) × (Nat → St) × (Nat → St) × (Nat → St × (St)))} (h : df_X12_image n (a 15) (a 3) v0 v1 s0 = some r) (sz : Nat) : Met l yX12_image ow_dm_X12_image ({ frames := 1, cells := 0, slots := 0, locals := 21 }) (va_Pc [.ref (a 0), .int v0, .int v1] (fun U => U.heap.size = sz ∧ va_P (dC, dI) vwCl (dw_X12 a ac s0) U.heap ∧ va_K (dC, dI) vwCl (dk_X12 ac) U ∧ va_D (fun _ => True) (dw_X12 a ac s0) ∧ nv_E dI (va_A (dw_X12 a ac s0) sz) U)) (va_Qi (fun x _ => x = r.1) (fun (_ : Unit) t => va_P (dC, dI) vwCl (dw_X12 a ac r.2) t.heap ∧ va_K (dC, dI) vwCl (dk_X12 ac) t ∧ va_D (va_A (dw_X12 a ac s0) sz) (dw_X12 a ac r.2)) (va_A (dw_X12 a ac s0) sz)) 0 0 (va_A (dw_X12 a ac s0) sz) := by
  refine Met.ofW (cc := cX12_image) (maxL := 4) (ret := (some .int)) (by decide) rfl ?_
  intro p e s m args below meth c s₁ B hml hv
  obtain ⟨rfl, hsz, hP, hK, hD0, hN⟩ := hv
  have hx := B.exec
  have hb := B.bytes
  have hr := B.returns
  have hts := atoms_spec (ws := ow_dm_X12_image) B.pre
  have hown : s.vm.findClass RX12 = some m.cls := findClass_of_methodNamed B.named
  have hlocks := B.notSynchronized
  subst hsz
  have hD := hD0.self (sz := s.heap.size)
  generalize hAe : va_A (dw_X12 a ac s0) s.heap.size = A at hD hN ⊢
  have hA : ∀ q : Nat, s.heap.size ≤ q → A q := fun q h => by rw [← hAe]; exact Or.inr h
  have hl := lv_entry ([.ref (a 0), .int v0, .int v1]) (n := 4) (Nat.le_of_ble_eq_true rfl)
  rw [lg_entry_eq]
  generalize (lg_sl ([.ref (a 0), .int v0, .int v1]) ++ List.replicate (4 - (lg_sl ([.ref (a 0), .int v0, .int v1])).length) Slot.unset).toArray = ls at hl ⊢
  have hl : lv_has ls 4 [(0, .ref (a 0)), (1, .int v0), (2, .int v1)] := hl
  exact db_X12_image_0 (dC := dC) (dI := dI) (a := a) (ac := ac) (n := n) (r := r) ⟨hlt, hx, hb, hml, hown, hts, hN, hA, hK⟩ (fun pc v τ H locs ls d z er hP hD hS => by subst er; exact W.zret (v := v) hx hb hr z (fun t ht hW => ⟨⟨v, (), rfl, rfl, by rw [ht]; exact hP, va_K.moved hW.alike hK, hD⟩, hS.F ht⟩) hS.2.2 d) v0 v1 s0 _ _ _ h hP hD va_S.rf (lv_sub hl [0, 1, 2] rfl)
def ow_dm_X12_label : List Cond := Cond.code yX12_label cX12_label 4 (some .int) :: ([Cond.methodLink RX12 85 yX12_programOf, Cond.instanceMethod yX12_programOf, Cond.selects RX12 yX12_programOf yX12_programOf, Cond.initialized RX12, Cond.fieldLink RX12 98 "TimeMachine$Program" "labels" "I", Cond.fieldLink RX12 107 "TimeMachine$Program" "label" "[I"] ++ (u_ws RX8 TX8 10 ++ (ow_dm_X12_programOf ++ [])))
theorem gd_dm_X12_label : ∀ w ∈ ow_dm_X12_label, (w.onTables && w.keeps) = true ∨ ∃ ty, w = Cond.arrayClass ty := List.forall_mem_cons.mpr ⟨good_of_word rfl, List.forall_mem_append.mpr ⟨fun w h => good_of_word (List.all_eq_true.mp (by decide +kernel) w h), List.forall_mem_append.mpr ⟨gu_X8, List.forall_mem_append.mpr ⟨gd_dm_X12_programOf, fun _ h => nomatch h⟩⟩⟩⟩
theorem hi_dm_X12_label_X8 : ∀ w ∈ u_ws RX8 TX8 10, w ∈ ow_dm_X12_label := fun w h => List.mem_cons_of_mem _ (List.mem_append_right _ (List.mem_append_left _ h))
theorem gi_dm_X12_label_0 : GoodIn ow_dm_X12_label (wsV RX12 85 RX12 yX12_programOf ow_dm_X12_programOf) := goodIn_app (goodIn_of _ (by decide +kernel)) (fun w h => ⟨List.mem_cons_of_mem _ (List.mem_append_right _ (List.mem_append_right _ (List.mem_append_left _ h))), gd_dm_X12_programOf w h⟩)
def dj_X12_label_32 (p : Program) (l : Launch) (e : Env) (s : State) (m : MethodId) (args : Array Value) (below : List Frame) (meth : Method) (c : Code) (Q : State → Prop) (A : Nat → Prop) (dC : Nat → ClassId) (dI : Nat → Nat → Nat) (a : Nat → Nat) (ac : Nat → ClassId) (g : Int32 → (St × Rw × (St) × (St × (St)) × (St) × (St × (St × (St × (St)))) × (St) × (St) × (Nat → St) × (Nat → St) × (Nat → St × (St))) → Option (Int32 × (St × Rw × (St) × (St × (St)) × (St) × (St × (St × (St × (St)))) × (St) × (St) × (Nat → St) × (Nat → St) × (Nat → St × (St))))) (r : Int32 × (St × Rw × (St) × (St × (St)) × (St) × (St × (St × (St × (St)))) × (St) × (St) × (Nat → St) × (Nat → St) × (Nat → St × (St)))) : Prop := ∀ (y0 : Int32) (s0 : St × Rw × (St) × (St × (St)) × (St) × (St × (St × (St × (St)))) × (St) × (St) × (Nat → St) × (Nat → St) × (Nat → St × (St))) (H : Heap) (locs : List Loc) (ls : Array Slot), g y0 s0 = some r → va_P (dC, dI) vwCl (dw_X12 a ac s0) H → va_D A (dw_X12 a ac s0) → va_S A s.heap H locs → lv_has ls 4 [] → W p l e (headSpec ow_dm_X12_label ({ frames := 1, cells := 0, slots := 0, locals := 21 })).room s m args below meth c H locs 0 0 Q (F0 m 32 ls [.int y0])
def dj_X12_label_22 (p : Program) (l : Launch) (e : Env) (s : State) (m : MethodId) (args : Array Value) (below : List Frame) (meth : Method) (c : Code) (Q : State → Prop) (A : Nat → Prop) (dC : Nat → ClassId) (dI : Nat → Nat → Nat) (a : Nat → Nat) (ac : Nat → ClassId) (g : (St × Rw × (St) × (St × (St)) × (St) × (St × (St × (St × (St)))) × (St) × (St) × (Nat → St) × (Nat → St) × (Nat → St × (St))) → Option (Int32 × (St × Rw × (St) × (St × (St)) × (St) × (St × (St × (St × (St)))) × (St) × (St) × (Nat → St) × (Nat → St) × (Nat → St × (St))))) (r : Int32 × (St × Rw × (St) × (St × (St)) × (St) × (St × (St × (St × (St)))) × (St) × (St) × (Nat → St) × (Nat → St) × (Nat → St × (St)))) : Prop := ∀ (s0 : St × Rw × (St) × (St × (St)) × (St) × (St × (St × (St × (St)))) × (St) × (St) × (Nat → St) × (Nat → St) × (Nat → St × (St))) (H : Heap) (locs : List Loc) (ls : Array Slot), g s0 = some r → va_P (dC, dI) vwCl (dw_X12 a ac s0) H → va_D A (dw_X12 a ac s0) → va_S A s.heap H locs → lv_has ls 4 [] → W p l e (headSpec ow_dm_X12_label ({ frames := 1, cells := 0, slots := 0, locals := 21 })).room s m args below meth c H locs 0 0 Q (F0 m 22 ls [])
def dj_X12_label_0 (p : Program) (l : Launch) (e : Env) (s : State) (m : MethodId) (args : Array Value) (below : List Frame) (meth : Method) (c : Code) (Q : State → Prop) (A : Nat → Prop) (dC : Nat → ClassId) (dI : Nat → Nat → Nat) (a : Nat → Nat) (ac : Nat → ClassId) (g : Int32 → Int32 → (St × Rw × (St) × (St × (St)) × (St) × (St × (St × (St × (St)))) × (St) × (St) × (Nat → St) × (Nat → St) × (Nat → St × (St))) → Option (Int32 × (St × Rw × (St) × (St × (St)) × (St) × (St × (St × (St × (St)))) × (St) × (St) × (Nat → St) × (Nat → St) × (Nat → St × (St))))) (r : Int32 × (St × Rw × (St) × (St × (St)) × (St) × (St × (St × (St × (St)))) × (St) × (St) × (Nat → St) × (Nat → St) × (Nat → St × (St)))) : Prop := ∀ (v0 : Int32) (v1 : Int32) (s0 : St × Rw × (St) × (St × (St)) × (St) × (St × (St × (St × (St)))) × (St) × (St) × (Nat → St) × (Nat → St) × (Nat → St × (St))) (H : Heap) (locs : List Loc) (ls : Array Slot), g v0 v1 s0 = some r → va_P (dC, dI) vwCl (dw_X12 a ac s0) H → va_D A (dw_X12 a ac s0) → va_S A s.heap H locs → lv_has ls 4 [(0, .ref (a 0)), (1, .int v0), (2, .int v1)] → W p l e (headSpec ow_dm_X12_label ({ frames := 1, cells := 0, slots := 0, locals := 21 })).room s m args below meth c H locs 0 0 Q (F0 m 0 ls [])
set_option maxHeartbeats 40000000 in
set_option maxRecDepth 100000 in
theorem db_X12_label_32 {p : Program} {l : Launch} {e : Env} {s : State} {m : MethodId} {args : Array Value} {below : List Frame} {meth : Method} {c : Code} {Q : State → Prop} {A : Nat → Prop} {dC : Nat → ClassId} {dI : Nat → Nat → Nat} {a : Nat → Nat} {ac : Nat → ClassId} {n : Nat} {r : Int32 × (St × Rw × (St) × (St × (St)) × (St) × (St × (St × (St × (St)))) × (St) × (St) × (Nat → St) × (Nat → St) × (Nat → St × (St)))} (C : nd_C p l s m args c A (dC, dI) cX12_label 4 RX12 ow_dm_X12_label (dk_X12 ac)) (K : nd_Ki p l e (headSpec ow_dm_X12_label ({ frames := 1, cells := 0, slots := 0, locals := 21 })).room s m args below meth c Q A (dC, dI) cX12_label .int (St × Rw × (St) × (St × (St)) × (St) × (St × (St × (St × (St)))) × (St) × (St) × (Nat → St) × (Nat → St) × (Nat → St × (St))) (dw_X12 a ac) r) : dj_X12_label_32 p l e s m args below meth c Q A dC dI a ac (df_X12_label_32 n (a 15) (a 3)) r := by
  obtain ⟨hlt, hx, hb, hml, hown, hts, hN, hA, hK⟩ := id C
  intro y0 s0 H locs ls h hP hD hS hl
  unfold df_X12_label_32 at h
  exact K _ _ _ _ _ _ dX12_label_32 rfl (Option.some.inj h).symm hP hD hS
set_option maxHeartbeats 40000000 in
set_option maxRecDepth 100000 in
theorem db_X12_label_22 {p : Program} {l : Launch} {e : Env} {s : State} {m : MethodId} {args : Array Value} {below : List Frame} {meth : Method} {c : Code} {Q : State → Prop} {A : Nat → Prop} {dC : Nat → ClassId} {dI : Nat → Nat → Nat} {a : Nat → Nat} {ac : Nat → ClassId} {n : Nat} {r : Int32 × (St × Rw × (St) × (St × (St)) × (St) × (St × (St × (St × (St)))) × (St) × (St) × (Nat → St) × (Nat → St) × (Nat → St × (St)))} (C : nd_C p l s m args c A (dC, dI) cX12_label 4 RX12 ow_dm_X12_label (dk_X12 ac)) (K : nd_Ki p l e (headSpec ow_dm_X12_label ({ frames := 1, cells := 0, slots := 0, locals := 21 })).room s m args below meth c Q A (dC, dI) cX12_label .int (St × Rw × (St) × (St × (St)) × (St) × (St × (St × (St × (St)))) × (St) × (St) × (Nat → St) × (Nat → St) × (Nat → St × (St))) (dw_X12 a ac) r) : dj_X12_label_22 p l e s m args below meth c Q A dC dI a ac (df_X12_label_22 n (a 15) (a 3)) r := by
  obtain ⟨hlt, hx, hb, hml, hown, hts, hN, hA, hK⟩ := id C
  intro s0 H locs ls h hP hD hS hl
  unfold df_X12_label_22 at h
  refine lv_iconst (v := (-1)) hx hb dX12_label_22 (by decide) ?_
  refine lv_goto (tgt := 32) hx hb dX12_label_23 (by decide) ?_
  exact (db_X12_label_32 C K) ((-1)) s0 _ _ _ h hP hD hS (lv_sub hl [] rfl)
set_option maxHeartbeats 40000000 in
set_option maxRecDepth 100000 in
theorem db_X12_label_0 {p : Program} {l : Launch} {e : Env} {s : State} {m : MethodId} {args : Array Value} {below : List Frame} {meth : Method} {c : Code} {Q : State → Prop} {A : Nat → Prop} {dC : Nat → ClassId} {dI : Nat → Nat → Nat} {a : Nat → Nat} {ac : Nat → ClassId} {n : Nat} {r : Int32 × (St × Rw × (St) × (St × (St)) × (St) × (St × (St × (St × (St)))) × (St) × (St) × (Nat → St) × (Nat → St) × (Nat → St × (St)))} (C : nd_C p l s m args c A (dC, dI) cX12_label 4 RX12 ow_dm_X12_label (dk_X12 ac)) (K : nd_Ki p l e (headSpec ow_dm_X12_label ({ frames := 1, cells := 0, slots := 0, locals := 21 })).room s m args below meth c Q A (dC, dI) cX12_label .int (St × Rw × (St) × (St × (St)) × (St) × (St × (St × (St × (St)))) × (St) × (St) × (Nat → St) × (Nat → St) × (Nat → St × (St))) (dw_X12 a ac) r) : dj_X12_label_0 p l e s m args below meth c Q A dC dI a ac (df_X12_label_0 n (a 15) (a 3)) r := by
  obtain ⟨hlt, hx, hb, hml, hown, hts, hN, hA, hK⟩ := id C
  intro v0 v1 s0 H locs ls h hP hD hS hl
  unfold df_X12_label_0 at h
  refine lv_aload_n hx hb dX12_label_0 rfl (lv_at hl 0 rfl) ?_
  refine lv_iload_n hx hb dX12_label_1 rfl (lv_at hl 1 rfl) ?_
  obtain ⟨q1, s2, hq, h⟩ := nd_b2_e h
  have hPc := hP
  have hDc := hD
  have hKc := hK
  have hFc := nd_rs hD hS hA
  refine nd_cVq (As := [.int v0]) (rest := []) (q := Option.map (fun j => a (0 + j * 5 + 57)) q1) (w' := dw_X12 a ac s2) ⟨hx, hb, hml, hown, hts⟩ (fun sz => dm_X12_programOf l hlt dC dI a ac n (v0) s0 hq sz) (cwV 1 hts gi_dm_X12_label_0 rfl rfl rfl (by decide +kernel) ⟨Nat.le_of_ble_eq_true rfl, Nat.le_of_ble_eq_true rfl⟩) hPc hDc hKc hS hA hN (va_recv hKc hPc (ci := 13) (q0 := 0) rfl rfl) rfl hl.1 rfl (Nat.le_of_ble_eq_true rfl) dX12_label_2 (fun H locs hP1 hD1 hk1 hS => ?_)
  have hP := hP1
  have hD := hD1.weaken (fun k q _ h => hFc q.1 h)
  cases hrj4 : q1 with
  | none =>
    have h := nd_mN h hrj4
    refine W.eq (g2 := F0 m 5 ls [.null]) (by first | rfl | (show F0 m _ ls (va_rf (Option.map (fun j => a (0 + j * 5 + 57)) q1) :: _) = _; rw [hrj4]; rfl)) ?_
    refine lv_astore_nN (lv' := [(3, .null), (0, .ref (a 0)), (1, .int v0), (2, .int v1)]) hx hb dX12_label_5 rfl hl (by decide) rfl (fun ls hl => ?_)
    refine lv_aload_nN hx hb dX12_label_6 rfl (lv_at hl 0 rfl) ?_
    refine lv_ifnullN (tgt := 22) hx hb dX12_label_7 (by decide) ?_
    exact (db_X12_label_22 C K)  s2 _ _ _ h hP hD hS (lv_sub hl [] rfl)
  | some j4 =>
    have h := nd_mS h hrj4
    refine W.eq (g2 := F0 m 5 ls [.ref (a (0 + j4 * 5 + 57))]) (by first | rfl | (show F0 m _ ls (va_rf (Option.map (fun j => a (0 + j * 5 + 57)) q1) :: _) = _; rw [hrj4]; rfl)) ?_
    refine lv_astore_n (lv' := [(3, .ref (a (0 + j4 * 5 + 57))), (0, .ref (a 0)), (1, .int v0), (2, .int v1)]) hx hb dX12_label_5 rfl hl (by decide) rfl (fun ls hl => ?_)
    refine lv_aload_n hx hb dX12_label_6 rfl (lv_at hl 0 rfl) ?_
    refine lv_ifnull hx hb dX12_label_7 ?_
    refine lv_iload_n hx hb dX12_label_10 rfl (lv_at hl 3 rfl) ?_
    refine lv_if_lt (tgt := 22) hx hb dX12_label_11 (by decide) (fun c5 => ?_) (fun c5 => ?_)
    · have h := nd_pos h c5
      exact (db_X12_label_22 C K)  s2 _ _ _ h hP hD hS (lv_sub hl [] rfl)
    · have h := nd_neg h c5
      refine lv_iload_n hx hb dX12_label_14 rfl (lv_at hl 3 rfl) ?_
      refine lv_aload_n hx hb dX12_label_15 rfl (lv_at hl 0 rfl) ?_
      obtain ⟨l6, h⟩ := nd_lt_e h
      refine va_get (D := (dC, dI)) (ci := 9) (v := .int (sI (s2.2.2.2.2.2.2.2.2.1 j4) 4)) (C := RX8) (T := TX8) (N := 10) hx hb hts hi_dm_X12_label_X8 hown hK (dl_X12_P8 l6 hP) 0 rfl rfl 6 (by decide) (hts (.fieldLink RX12 98 "TimeMachine$Program" "labels" "I") (List.mem_of_getElem? (i := 5) rfl)) (fun _ h9 => h9) rfl dX12_label_16 ?_
      refine lv_icmp_lt (tgt := 26) hx hb dX12_label_19 (by decide) (fun c7 => ?_) (fun c7 => ?_)
      · have h := nd_pos h c7
        refine lv_aload_n hx hb dX12_label_26 rfl (lv_at hl 0 rfl) ?_
        refine va_get (D := (dC, dI)) (ci := 9) (v := .ref (a (2 + j4 * 5 + 57))) (C := RX8) (T := TX8) (N := 10) hx hb hts hi_dm_X12_label_X8 hown hK (dl_X12_P8 l6 hP) 0 rfl rfl 5 (by decide) (hts (.fieldLink RX12 107 "TimeMachine$Program" "label" "[I") (List.mem_of_getElem? (i := 6) rfl)) (fun _ h9 => h9) rfl dX12_label_27 ?_
        refine lv_iload_n hx hb dX12_label_30 rfl (lv_at hl 3 rfl) ?_
        obtain ⟨i8, h⟩ := nd_ck_e h
        refine va_iald (i := v1) hx hb (dq_X12_P8 l6 hK) (dl_X12_P8 l6 hP) 2 1 rfl rfl i8 dX12_label_31 ?_
        exact (db_X12_label_32 C K) ((sR (s2.2.2.2.2.2.2.2.2.1 j4) 1 (Int32.toNatClampNeg v1))) s2 _ _ _ h hP hD hS (lv_sub hl [] rfl)
      · have h := nd_neg h c7
        exact (db_X12_label_22 C K)  s2 _ _ _ h hP hD hS (lv_sub hl [] rfl)
set_option maxHeartbeats 40000000 in
set_option maxRecDepth 100000 in
theorem dm_X12_label (l : Launch) (hlt : l.stackTraces = false) (dC : Nat → ClassId) (dI : Nat → Nat → Nat) (a : Nat → Nat) (ac : Nat → ClassId) (n : Nat) (v0 : Int32) (v1 : Int32) (s0 : St × Rw × (St) × (St × (St)) × (St) × (St × (St × (St × (St)))) × (St) × (St) × (Nat → St) × (Nat → St) × (Nat → St × (St))) {r : Int32 × (St × Rw × (St) × (St × (St)) × (St) × (St × (St × (St × (St)))) × (St) × (St) × (Nat → St) × (Nat → St) × (Nat → St × (St)))} (h : df_X12_label n (a 15) (a 3) v0 v1 s0 = some r) (sz : Nat) : Met l yX12_label ow_dm_X12_label ({ frames := 1, cells := 0, slots := 0, locals := 21 }) (va_Pc [.ref (a 0), .int v0, .int v1] (fun U => U.heap.size = sz ∧ va_P (dC, dI) vwCl (dw_X12 a ac s0) U.heap ∧ va_K (dC, dI) vwCl (dk_X12 ac) U ∧ va_D (fun _ => True) (dw_X12 a ac s0) ∧ nv_E dI (va_A (dw_X12 a ac s0) sz) U)) (va_Qi (fun x _ => x = r.1) (fun (_ : Unit) t => va_P (dC, dI) vwCl (dw_X12 a ac r.2) t.heap ∧ va_K (dC, dI) vwCl (dk_X12 ac) t ∧ va_D (va_A (dw_X12 a ac s0) sz) (dw_X12 a ac r.2)) (va_A (dw_X12 a ac s0) sz)) 0 0 (va_A (dw_X12 a ac s0) sz) := by
  refine Met.ofW (cc := cX12_label) (maxL := 4) (ret := (some .int)) (by decide) rfl ?_
  intro p e s m args below meth c s₁ B hml hv
  obtain ⟨rfl, hsz, hP, hK, hD0, hN⟩ := hv
  have hx := B.exec
  have hb := B.bytes
  have hr := B.returns
  have hts := atoms_spec (ws := ow_dm_X12_label) B.pre
  have hown : s.vm.findClass RX12 = some m.cls := findClass_of_methodNamed B.named
  have hlocks := B.notSynchronized
  subst hsz
  have hD := hD0.self (sz := s.heap.size)
  generalize hAe : va_A (dw_X12 a ac s0) s.heap.size = A at hD hN ⊢
  have hA : ∀ q : Nat, s.heap.size ≤ q → A q := fun q h => by rw [← hAe]; exact Or.inr h
  have hl := lv_entry ([.ref (a 0), .int v0, .int v1]) (n := 4) (Nat.le_of_ble_eq_true rfl)
  rw [lg_entry_eq]
  generalize (lg_sl ([.ref (a 0), .int v0, .int v1]) ++ List.replicate (4 - (lg_sl ([.ref (a 0), .int v0, .int v1])).length) Slot.unset).toArray = ls at hl ⊢
  have hl : lv_has ls 4 [(0, .ref (a 0)), (1, .int v0), (2, .int v1)] := hl
  exact db_X12_label_0 (dC := dC) (dI := dI) (a := a) (ac := ac) (n := n) (r := r) ⟨hlt, hx, hb, hml, hown, hts, hN, hA, hK⟩ (fun pc v τ H locs ls d z er hP hD hS => by subst er; exact W.zret (v := v) hx hb hr z (fun t ht hW => ⟨⟨v, (), rfl, rfl, by rw [ht]; exact hP, va_K.moved hW.alike hK, hD⟩, hS.F ht⟩) hS.2.2 d) v0 v1 s0 _ _ _ h hP hD va_S.rf (lv_sub hl [0, 1, 2] rfl)
set_option maxHeartbeats 40000000 in
set_option maxRecDepth 100000 in
theorem de_wX12_X8_11 {a : Nat → Nat} {ac : Nat → ClassId} {j1 : Nat} {τ : St} : ([dw_X8 (fun k => a (k + j1 * 5 + 57)) (fun k => ac (k + j1 * 5 + 57)) (τ)] : List va_W).flatten = dw_X8 (fun k => a (k + j1 * 5 + 57)) (fun k => ac (k + j1 * 5 + 57)) τ := by
  first
  | (simp only [List.flatten_cons, List.flatten_nil, List.append_nil]; done)
  | (simp only [List.flatten_cons, List.flatten_nil, List.append_nil]; rfl)
set_option maxHeartbeats 40000000 in
set_option maxRecDepth 100000 in
theorem dp_wX12_X8_11 {D : va_G} {H : Heap} {a : Nat → Nat} {ac : Nat → ClassId} {σ : St × Rw × (St) × (St × (St)) × (St) × (St × (St × (St × (St)))) × (St) × (St) × (Nat → St) × (Nat → St) × (Nat → St × (St))} {j1 : Nat} (hj1 : j1 < 9) (h : va_P D vwCl (dw_X12 a ac σ) H) : va_P D vwCl (dw_X8 (fun k => a (k + j1 * 5 + 57)) (fun k => ac (k + j1 * 5 + 57)) (σ.2.2.2.2.2.2.2.2.1 j1)) H := by
  have h2 := nd_vp (segs := dg_X12 a ac σ) (ix := [18 + j1]) (old := [dw_X8 (fun k => a (k + j1 * 5 + 57)) (fun k => ac (k + j1 * 5 + 57)) (σ.2.2.2.2.2.2.2.2.1 j1)]) h (nd_co (dx_X12_P8 hj1) rfl)
  have e := de_wX12_X8_11 (a := a) (ac := ac) (j1 := j1) (τ := (σ.2.2.2.2.2.2.2.2.1 j1))
  exact e ▸ h2
set_option maxHeartbeats 40000000 in
set_option maxRecDepth 100000 in
theorem dd_wX12_X8_11 {A : Nat → Prop} {a : Nat → Nat} {ac : Nat → ClassId} {σ : St × Rw × (St) × (St × (St)) × (St) × (St × (St × (St × (St)))) × (St) × (St) × (Nat → St) × (Nat → St) × (Nat → St × (St))} {j1 : Nat} (hj1 : j1 < 9) (h : va_D A (dw_X12 a ac σ)) : va_D A (dw_X8 (fun k => a (k + j1 * 5 + 57)) (fun k => ac (k + j1 * 5 + 57)) (σ.2.2.2.2.2.2.2.2.1 j1)) := by
  have h2 := nd_vd (segs := dg_X12 a ac σ) (ix := [18 + j1]) (old := [dw_X8 (fun k => a (k + j1 * 5 + 57)) (fun k => ac (k + j1 * 5 + 57)) (σ.2.2.2.2.2.2.2.2.1 j1)]) h (nd_co (dx_X12_P8 hj1) rfl) (by simp only [List.nodup_cons, List.mem_cons, List.not_mem_nil, List.nodup_nil, or_false, not_false_eq_true, and_true, true_and] <;> omega)
  have e := de_wX12_X8_11 (a := a) (ac := ac) (j1 := j1) (τ := (σ.2.2.2.2.2.2.2.2.1 j1))
  exact e ▸ h2
set_option maxHeartbeats 40000000 in
set_option maxRecDepth 100000 in
theorem dy_wX12_X8_11 {D : va_G} {U : State} {ac : Nat → ClassId} {j1 : Nat} (hj1 : j1 < 9) (h : va_K D vwCl (dk_X12 ac) U) : va_K D vwCl (dk_X8 (fun k => ac (k + j1 * 5 + 57))) U := (dq_X12_P8 hj1 h)
set_option maxHeartbeats 40000000 in
set_option maxRecDepth 100000 in
theorem dn_wX12_X8_11 {A0 : Nat → Prop} {D : va_G} {H H1 : Heap} {a : Nat → Nat} {ac : Nat → ClassId} {σ : St × Rw × (St) × (St × (St)) × (St) × (St × (St × (St × (St)))) × (St) × (St) × (Nat → St) × (Nat → St) × (Nat → St × (St))} {τ : St} {j1 : Nat} (hj1 : j1 < 9) (hP : va_P D vwCl (dw_X12 a ac σ) H) (hD : va_D A0 (dw_X12 a ac σ)) (hA : ∀ q : Nat, H.size ≤ q → A0 q) (hk : ∀ q : Nat, q < H.size → ¬ va_A (dw_X8 (fun k => a (k + j1 * 5 + 57)) (fun k => ac (k + j1 * 5 + 57)) (σ.2.2.2.2.2.2.2.2.1 j1)) H.size q → H1[q]? = H[q]?) (h1 : va_P D vwCl (dw_X8 (fun k => a (k + j1 * 5 + 57)) (fun k => ac (k + j1 * 5 + 57)) τ) H1) (h2 : va_D (va_A (dw_X8 (fun k => a (k + j1 * 5 + 57)) (fun k => ac (k + j1 * 5 + 57)) (σ.2.2.2.2.2.2.2.2.1 j1)) H.size) (dw_X8 (fun k => a (k + j1 * 5 + 57)) (fun k => ac (k + j1 * 5 + 57)) τ)) : va_P D vwCl (dw_X12 a ac (σ.1, (σ.2.1, (σ.2.2.1, (σ.2.2.2.1, (σ.2.2.2.2.1, (σ.2.2.2.2.2.1, (σ.2.2.2.2.2.2.1, (σ.2.2.2.2.2.2.2.1, ((fun i => if i = j1 then τ else σ.2.2.2.2.2.2.2.2.1 i), σ.2.2.2.2.2.2.2.2.2)))))))))) H1 ∧ va_D A0 (dw_X12 a ac (σ.1, (σ.2.1, (σ.2.2.1, (σ.2.2.2.1, (σ.2.2.2.2.1, (σ.2.2.2.2.2.1, (σ.2.2.2.2.2.2.1, (σ.2.2.2.2.2.2.2.1, ((fun i => if i = j1 then τ else σ.2.2.2.2.2.2.2.2.1 i), σ.2.2.2.2.2.2.2.2.2)))))))))) := by
  have eo := de_wX12_X8_11 (a := a) (ac := ac) (j1 := j1) (τ := (σ.2.2.2.2.2.2.2.2.1 j1))
  have en := de_wX12_X8_11 (a := a) (ac := ac) (j1 := j1) (τ := τ)
  have h := nd_vn (segs := dg_X12 a ac σ) (ix := [18 + j1]) (old := [dw_X8 (fun k => a (k + j1 * 5 + 57)) (fun k => ac (k + j1 * 5 + 57)) (σ.2.2.2.2.2.2.2.2.1 j1)]) (new := [dw_X8 (fun k => a (k + j1 * 5 + 57)) (fun k => ac (k + j1 * 5 + 57)) (τ)]) hP hD (nd_co (dx_X12_P8 hj1) rfl) rfl (fun q z y => hk q z (fun w => y (eo ▸ w))) (en ▸ h1)
  have e0 : (dg_X12 a ac σ).set (18 + j1) (dw_X8 (fun k => a (k + j1 * 5 + 57)) (fun k => ac (k + j1 * 5 + 57)) (τ)) = dg_X12 a ac (σ.1, (σ.2.1, (σ.2.2.1, (σ.2.2.2.1, (σ.2.2.2.2.1, (σ.2.2.2.2.2.1, (σ.2.2.2.2.2.2.1, (σ.2.2.2.2.2.2.2.1, ((fun i => if i = j1 then (τ) else σ.2.2.2.2.2.2.2.2.1 i), σ.2.2.2.2.2.2.2.2.2))))))))) := dz_X12_P8 hj1
  have ee : nd_sets (dg_X12 a ac σ) [18 + j1] [dw_X8 (fun k => a (k + j1 * 5 + 57)) (fun k => ac (k + j1 * 5 + 57)) (τ)] = dg_X12 a ac (σ.1, (σ.2.1, (σ.2.2.1, (σ.2.2.2.1, (σ.2.2.2.2.1, (σ.2.2.2.2.2.1, (σ.2.2.2.2.2.2.1, (σ.2.2.2.2.2.2.2.1, ((fun i => if i = j1 then (τ) else σ.2.2.2.2.2.2.2.2.1 i), σ.2.2.2.2.2.2.2.2.2))))))))) := by
    show (dg_X12 a ac σ).set (18 + j1) (dw_X8 (fun k => a (k + j1 * 5 + 57)) (fun k => ac (k + j1 * 5 + 57)) (τ)) = _
    rw [e0]
  have hz : va_P D vwCl (dg_X12 a ac (σ.1, (σ.2.1, (σ.2.2.1, (σ.2.2.2.1, (σ.2.2.2.2.1, (σ.2.2.2.2.2.1, (σ.2.2.2.2.2.2.1, (σ.2.2.2.2.2.2.2.1, ((fun i => if i = j1 then (τ) else σ.2.2.2.2.2.2.2.2.1 i), σ.2.2.2.2.2.2.2.2.2)))))))))).flatten H1 := by rw [← ee]; exact h
  exact ⟨hz, nd_Da hD dA_X12⟩
def ow_dm_X12_before : List Cond := Cond.code yX12_before cX12_before 4 (some .int) :: ([Cond.methodLink RX12 85 yX12_programOf, Cond.instanceMethod yX12_programOf, Cond.selects RX12 yX12_programOf yX12_programOf, Cond.initialized RX12, Cond.methodLink RX12 111 yX8_labelUpTo, Cond.instanceMethod yX8_labelUpTo, Cond.selects RX8 yX8_labelUpTo yX8_labelUpTo, Cond.initialized RX8] ++ (ow_dm_X12_programOf ++ (ow_dm_X8_labelUpTo ++ [])))
theorem gd_dm_X12_before : ∀ w ∈ ow_dm_X12_before, (w.onTables && w.keeps) = true ∨ ∃ ty, w = Cond.arrayClass ty := List.forall_mem_cons.mpr ⟨good_of_word rfl, List.forall_mem_append.mpr ⟨fun w h => good_of_word (List.all_eq_true.mp (by decide +kernel) w h), List.forall_mem_append.mpr ⟨gd_dm_X12_programOf, List.forall_mem_append.mpr ⟨gd_dm_X8_labelUpTo, fun _ h => nomatch h⟩⟩⟩⟩
theorem gi_dm_X12_before_0 : GoodIn ow_dm_X12_before (wsV RX12 85 RX12 yX12_programOf ow_dm_X12_programOf) := goodIn_app (goodIn_of _ (by decide +kernel)) (fun w h => ⟨List.mem_cons_of_mem _ (List.mem_append_right _ (List.mem_append_left _ h)), gd_dm_X12_programOf w h⟩)
theorem gi_dm_X12_before_1 : GoodIn ow_dm_X12_before (wsV RX12 111 RX8 yX8_labelUpTo ow_dm_X8_labelUpTo) := goodIn_app (goodIn_of _ (by decide +kernel)) (fun w h => ⟨List.mem_cons_of_mem _ (List.mem_append_right _ (List.mem_append_right _ (List.mem_append_left _ h))), gd_dm_X8_labelUpTo w h⟩)
def dj_X12_before_19 (p : Program) (l : Launch) (e : Env) (s : State) (m : MethodId) (args : Array Value) (below : List Frame) (meth : Method) (c : Code) (Q : State → Prop) (A : Nat → Prop) (dC : Nat → ClassId) (dI : Nat → Nat → Nat) (a : Nat → Nat) (ac : Nat → ClassId) (g : Int32 → (St × Rw × (St) × (St × (St)) × (St) × (St × (St × (St × (St)))) × (St) × (St) × (Nat → St) × (Nat → St) × (Nat → St × (St))) → Option (Int32 × (St × Rw × (St) × (St × (St)) × (St) × (St × (St × (St × (St)))) × (St) × (St) × (Nat → St) × (Nat → St) × (Nat → St × (St))))) (r : Int32 × (St × Rw × (St) × (St × (St)) × (St) × (St × (St × (St × (St)))) × (St) × (St) × (Nat → St) × (Nat → St) × (Nat → St × (St)))) : Prop := ∀ (y0 : Int32) (s0 : St × Rw × (St) × (St × (St)) × (St) × (St × (St × (St × (St)))) × (St) × (St) × (Nat → St) × (Nat → St) × (Nat → St × (St))) (H : Heap) (locs : List Loc) (ls : Array Slot), g y0 s0 = some r → va_P (dC, dI) vwCl (dw_X12 a ac s0) H → va_D A (dw_X12 a ac s0) → va_S A s.heap H locs → lv_has ls 4 [] → W p l e (headSpec ow_dm_X12_before ({ frames := 1, cells := 0, slots := 0, locals := 23 })).room s m args below meth c H locs 0 0 Q (F0 m 19 ls [.int y0])
def dj_X12_before_0 (p : Program) (l : Launch) (e : Env) (s : State) (m : MethodId) (args : Array Value) (below : List Frame) (meth : Method) (c : Code) (Q : State → Prop) (A : Nat → Prop) (dC : Nat → ClassId) (dI : Nat → Nat → Nat) (a : Nat → Nat) (ac : Nat → ClassId) (g : Int32 → Int32 → (St × Rw × (St) × (St × (St)) × (St) × (St × (St × (St × (St)))) × (St) × (St) × (Nat → St) × (Nat → St) × (Nat → St × (St))) → Option (Int32 × (St × Rw × (St) × (St × (St)) × (St) × (St × (St × (St × (St)))) × (St) × (St) × (Nat → St) × (Nat → St) × (Nat → St × (St))))) (r : Int32 × (St × Rw × (St) × (St × (St)) × (St) × (St × (St × (St × (St)))) × (St) × (St) × (Nat → St) × (Nat → St) × (Nat → St × (St)))) : Prop := ∀ (v0 : Int32) (v1 : Int32) (s0 : St × Rw × (St) × (St × (St)) × (St) × (St × (St × (St × (St)))) × (St) × (St) × (Nat → St) × (Nat → St) × (Nat → St × (St))) (H : Heap) (locs : List Loc) (ls : Array Slot), g v0 v1 s0 = some r → va_P (dC, dI) vwCl (dw_X12 a ac s0) H → va_D A (dw_X12 a ac s0) → va_S A s.heap H locs → lv_has ls 4 [(0, .ref (a 0)), (1, .int v0), (2, .int v1)] → W p l e (headSpec ow_dm_X12_before ({ frames := 1, cells := 0, slots := 0, locals := 23 })).room s m args below meth c H locs 0 0 Q (F0 m 0 ls [])
set_option maxHeartbeats 40000000 in
set_option maxRecDepth 100000 in
theorem db_X12_before_19 {p : Program} {l : Launch} {e : Env} {s : State} {m : MethodId} {args : Array Value} {below : List Frame} {meth : Method} {c : Code} {Q : State → Prop} {A : Nat → Prop} {dC : Nat → ClassId} {dI : Nat → Nat → Nat} {a : Nat → Nat} {ac : Nat → ClassId} {n : Nat} {r : Int32 × (St × Rw × (St) × (St × (St)) × (St) × (St × (St × (St × (St)))) × (St) × (St) × (Nat → St) × (Nat → St) × (Nat → St × (St)))} (C : nd_C p l s m args c A (dC, dI) cX12_before 4 RX12 ow_dm_X12_before (dk_X12 ac)) (K : nd_Ki p l e (headSpec ow_dm_X12_before ({ frames := 1, cells := 0, slots := 0, locals := 23 })).room s m args below meth c Q A (dC, dI) cX12_before .int (St × Rw × (St) × (St × (St)) × (St) × (St × (St × (St × (St)))) × (St) × (St) × (Nat → St) × (Nat → St) × (Nat → St × (St))) (dw_X12 a ac) r) : dj_X12_before_19 p l e s m args below meth c Q A dC dI a ac (df_X12_before_19 n (a 15) (a 3)) r := by
  obtain ⟨hlt, hx, hb, hml, hown, hts, hN, hA, hK⟩ := id C
  intro y0 s0 H locs ls h hP hD hS hl
  unfold df_X12_before_19 at h
  exact K _ _ _ _ _ _ dX12_before_19 rfl (Option.some.inj h).symm hP hD hS
set_option maxHeartbeats 40000000 in
set_option maxRecDepth 100000 in
theorem db_X12_before_0 {p : Program} {l : Launch} {e : Env} {s : State} {m : MethodId} {args : Array Value} {below : List Frame} {meth : Method} {c : Code} {Q : State → Prop} {A : Nat → Prop} {dC : Nat → ClassId} {dI : Nat → Nat → Nat} {a : Nat → Nat} {ac : Nat → ClassId} {n : Nat} {r : Int32 × (St × Rw × (St) × (St × (St)) × (St) × (St × (St × (St × (St)))) × (St) × (St) × (Nat → St) × (Nat → St) × (Nat → St × (St)))} (C : nd_C p l s m args c A (dC, dI) cX12_before 4 RX12 ow_dm_X12_before (dk_X12 ac)) (K : nd_Ki p l e (headSpec ow_dm_X12_before ({ frames := 1, cells := 0, slots := 0, locals := 23 })).room s m args below meth c Q A (dC, dI) cX12_before .int (St × Rw × (St) × (St × (St)) × (St) × (St × (St × (St × (St)))) × (St) × (St) × (Nat → St) × (Nat → St) × (Nat → St × (St))) (dw_X12 a ac) r) : dj_X12_before_0 p l e s m args below meth c Q A dC dI a ac (df_X12_before_0 n (a 15) (a 3)) r := by
  obtain ⟨hlt, hx, hb, hml, hown, hts, hN, hA, hK⟩ := id C
  intro v0 v1 s0 H locs ls h hP hD hS hl
  unfold df_X12_before_0 at h
  refine lv_aload_n hx hb dX12_before_0 rfl (lv_at hl 0 rfl) ?_
  refine lv_iload_n hx hb dX12_before_1 rfl (lv_at hl 1 rfl) ?_
  obtain ⟨q1, s2, hq, h⟩ := nd_b2_e h
  have hPc := hP
  have hDc := hD
  have hKc := hK
  have hFc := nd_rs hD hS hA
  refine nd_cVq (As := [.int v0]) (rest := []) (q := Option.map (fun j => a (0 + j * 5 + 57)) q1) (w' := dw_X12 a ac s2) ⟨hx, hb, hml, hown, hts⟩ (fun sz => dm_X12_programOf l hlt dC dI a ac n (v0) s0 hq sz) (cwV 1 hts gi_dm_X12_before_0 rfl rfl rfl (by decide +kernel) ⟨Nat.le_of_ble_eq_true rfl, Nat.le_of_ble_eq_true rfl⟩) hPc hDc hKc hS hA hN (va_recv hKc hPc (ci := 13) (q0 := 0) rfl rfl) rfl hl.1 rfl (Nat.le_of_ble_eq_true rfl) dX12_before_2 (fun H locs hP1 hD1 hk1 hS => ?_)
  have hP := hP1
  have hD := hD1.weaken (fun k q _ h => hFc q.1 h)
  cases hrj4 : q1 with
  | none =>
    have h := nd_mN h hrj4
    refine W.eq (g2 := F0 m 5 ls [.null]) (by first | rfl | (show F0 m _ ls (va_rf (Option.map (fun j => a (0 + j * 5 + 57)) q1) :: _) = _; rw [hrj4]; rfl)) ?_
    refine lv_astore_nN (lv' := [(3, .null), (0, .ref (a 0)), (1, .int v0), (2, .int v1)]) hx hb dX12_before_5 rfl hl (by decide) rfl (fun ls hl => ?_)
    refine lv_aload_nN hx hb dX12_before_6 rfl (lv_at hl 0 rfl) ?_
    refine lv_ifnonnullN hx hb dX12_before_7 ?_
    refine lv_iconst (v := (-1)) hx hb dX12_before_10 (by decide) ?_
    refine lv_goto (tgt := 19) hx hb dX12_before_11 (by decide) ?_
    exact (db_X12_before_19 C K) ((-1)) s2 _ _ _ h hP hD hS (lv_sub hl [] rfl)
  | some j4 =>
    have h := nd_mS h hrj4
    refine W.eq (g2 := F0 m 5 ls [.ref (a (0 + j4 * 5 + 57))]) (by first | rfl | (show F0 m _ ls (va_rf (Option.map (fun j => a (0 + j * 5 + 57)) q1) :: _) = _; rw [hrj4]; rfl)) ?_
    refine lv_astore_n (lv' := [(3, .ref (a (0 + j4 * 5 + 57))), (0, .ref (a 0)), (1, .int v0), (2, .int v1)]) hx hb dX12_before_5 rfl hl (by decide) rfl (fun ls hl => ?_)
    refine lv_aload_n hx hb dX12_before_6 rfl (lv_at hl 0 rfl) ?_
    refine lv_ifnonnull (tgt := 14) hx hb dX12_before_7 (by decide) ?_
    refine lv_aload_n hx hb dX12_before_14 rfl (lv_at hl 0 rfl) ?_
    refine lv_iload_n hx hb dX12_before_15 rfl (lv_at hl 3 rfl) ?_
    obtain ⟨l5, h⟩ := nd_lt_e h
    obtain ⟨q6, s7, hq, h⟩ := nd_b2_e h
    have hPc := dp_wX12_X8_11 l5 hP
    have hDc := dd_wX12_X8_11 l5 hD
    have hKc := dy_wX12_X8_11 l5 hK
    have hFc := nd_rs hDc hS hA
    have hzA : ∀ q : Nat, H.size ≤ q → A q := fun q h => hA q (Nat.le_trans hS.1 h)
    refine nd_cVi (As := [.int v1]) (rest := []) (q := q6) (w' := dw_X8 (fun k => a (k + j4 * 5 + 57)) (fun k => ac (k + j4 * 5 + 57)) s7) ⟨hx, hb, hml, hown, hts⟩ (fun sz => dm_X8_labelUpTo l hlt dC dI (fun k => a (k + j4 * 5 + 57)) (fun k => ac (k + j4 * 5 + 57)) n (v1) (s2.2.2.2.2.2.2.2.2.1 j4) hq sz) (cwV 1 hts gi_dm_X12_before_1 rfl rfl rfl (by decide +kernel) ⟨Nat.le_of_ble_eq_true rfl, Nat.le_of_ble_eq_true rfl⟩) hPc hDc hKc hS hA hN (va_recv hKc hPc (ci := 9) (q0 := 0) rfl rfl) rfl hl.1 rfl (Nat.le_of_ble_eq_true rfl) dX12_before_16 (fun H locs hP1 hD1 hk1 hS => ?_)
    obtain ⟨hP, hD⟩ := dn_wX12_X8_11 l5 hP hD hzA hk1 hP1 hD1
    obtain ⟨s9, es9, h⟩ := nd_let_e h
    have hP : va_P (dC, dI) vwCl (dw_X12 a ac s9) H := by rw [es9]; exact hP
    have hD : va_D A (dw_X12 a ac s9) := by rw [es9]; exact hD
    exact (db_X12_before_19 C K) (q6) s9 _ _ _ h hP hD hS (lv_sub hl [] rfl)
set_option maxHeartbeats 40000000 in
set_option maxRecDepth 100000 in
theorem dm_X12_before (l : Launch) (hlt : l.stackTraces = false) (dC : Nat → ClassId) (dI : Nat → Nat → Nat) (a : Nat → Nat) (ac : Nat → ClassId) (n : Nat) (v0 : Int32) (v1 : Int32) (s0 : St × Rw × (St) × (St × (St)) × (St) × (St × (St × (St × (St)))) × (St) × (St) × (Nat → St) × (Nat → St) × (Nat → St × (St))) {r : Int32 × (St × Rw × (St) × (St × (St)) × (St) × (St × (St × (St × (St)))) × (St) × (St) × (Nat → St) × (Nat → St) × (Nat → St × (St)))} (h : df_X12_before n (a 15) (a 3) v0 v1 s0 = some r) (sz : Nat) : Met l yX12_before ow_dm_X12_before ({ frames := 1, cells := 0, slots := 0, locals := 23 }) (va_Pc [.ref (a 0), .int v0, .int v1] (fun U => U.heap.size = sz ∧ va_P (dC, dI) vwCl (dw_X12 a ac s0) U.heap ∧ va_K (dC, dI) vwCl (dk_X12 ac) U ∧ va_D (fun _ => True) (dw_X12 a ac s0) ∧ nv_E dI (va_A (dw_X12 a ac s0) sz) U)) (va_Qi (fun x _ => x = r.1) (fun (_ : Unit) t => va_P (dC, dI) vwCl (dw_X12 a ac r.2) t.heap ∧ va_K (dC, dI) vwCl (dk_X12 ac) t ∧ va_D (va_A (dw_X12 a ac s0) sz) (dw_X12 a ac r.2)) (va_A (dw_X12 a ac s0) sz)) 0 0 (va_A (dw_X12 a ac s0) sz) := by
  refine Met.ofW (cc := cX12_before) (maxL := 4) (ret := (some .int)) (by decide) rfl ?_
  intro p e s m args below meth c s₁ B hml hv
  obtain ⟨rfl, hsz, hP, hK, hD0, hN⟩ := hv
  have hx := B.exec
  have hb := B.bytes
  have hr := B.returns
  have hts := atoms_spec (ws := ow_dm_X12_before) B.pre
  have hown : s.vm.findClass RX12 = some m.cls := findClass_of_methodNamed B.named
  have hlocks := B.notSynchronized
  subst hsz
  have hD := hD0.self (sz := s.heap.size)
  generalize hAe : va_A (dw_X12 a ac s0) s.heap.size = A at hD hN ⊢
  have hA : ∀ q : Nat, s.heap.size ≤ q → A q := fun q h => by rw [← hAe]; exact Or.inr h
  have hl := lv_entry ([.ref (a 0), .int v0, .int v1]) (n := 4) (Nat.le_of_ble_eq_true rfl)
  rw [lg_entry_eq]
  generalize (lg_sl ([.ref (a 0), .int v0, .int v1]) ++ List.replicate (4 - (lg_sl ([.ref (a 0), .int v0, .int v1])).length) Slot.unset).toArray = ls at hl ⊢
  have hl : lv_has ls 4 [(0, .ref (a 0)), (1, .int v0), (2, .int v1)] := hl
  exact db_X12_before_0 (dC := dC) (dI := dI) (a := a) (ac := ac) (n := n) (r := r) ⟨hlt, hx, hb, hml, hown, hts, hN, hA, hK⟩ (fun pc v τ H locs ls d z er hP hD hS => by subst er; exact W.zret (v := v) hx hb hr z (fun t ht hW => ⟨⟨v, (), rfl, rfl, by rw [ht]; exact hP, va_K.moved hW.alike hK, hD⟩, hS.F ht⟩) hS.2.2 d) v0 v1 s0 _ _ _ h hP hD va_S.rf (lv_sub hl [0, 1, 2] rfl)
def ow_dm_X12_line : List Cond := Cond.code yX12_line cX12_line 4 (some .int) :: ([Cond.methodLink RX12 85 yX12_programOf, Cond.instanceMethod yX12_programOf, Cond.selects RX12 yX12_programOf yX12_programOf, Cond.initialized RX12, Cond.methodLink RX12 115 yX8_lineOf, Cond.instanceMethod yX8_lineOf, Cond.selects RX8 yX8_lineOf yX8_lineOf, Cond.initialized RX8] ++ (ow_dm_X12_programOf ++ (ow_dm_X8_lineOf ++ [])))
theorem gd_dm_X12_line : ∀ w ∈ ow_dm_X12_line, (w.onTables && w.keeps) = true ∨ ∃ ty, w = Cond.arrayClass ty := List.forall_mem_cons.mpr ⟨good_of_word rfl, List.forall_mem_append.mpr ⟨fun w h => good_of_word (List.all_eq_true.mp (by decide +kernel) w h), List.forall_mem_append.mpr ⟨gd_dm_X12_programOf, List.forall_mem_append.mpr ⟨gd_dm_X8_lineOf, fun _ h => nomatch h⟩⟩⟩⟩
theorem gi_dm_X12_line_0 : GoodIn ow_dm_X12_line (wsV RX12 85 RX12 yX12_programOf ow_dm_X12_programOf) := goodIn_app (goodIn_of _ (by decide +kernel)) (fun w h => ⟨List.mem_cons_of_mem _ (List.mem_append_right _ (List.mem_append_left _ h)), gd_dm_X12_programOf w h⟩)
theorem gi_dm_X12_line_1 : GoodIn ow_dm_X12_line (wsV RX12 115 RX8 yX8_lineOf ow_dm_X8_lineOf) := goodIn_app (goodIn_of _ (by decide +kernel)) (fun w h => ⟨List.mem_cons_of_mem _ (List.mem_append_right _ (List.mem_append_right _ (List.mem_append_left _ h))), gd_dm_X8_lineOf w h⟩)
def dj_X12_line_19 (p : Program) (l : Launch) (e : Env) (s : State) (m : MethodId) (args : Array Value) (below : List Frame) (meth : Method) (c : Code) (Q : State → Prop) (A : Nat → Prop) (dC : Nat → ClassId) (dI : Nat → Nat → Nat) (a : Nat → Nat) (ac : Nat → ClassId) (g : Int32 → (St × Rw × (St) × (St × (St)) × (St) × (St × (St × (St × (St)))) × (St) × (St) × (Nat → St) × (Nat → St) × (Nat → St × (St))) → Option (Int32 × (St × Rw × (St) × (St × (St)) × (St) × (St × (St × (St × (St)))) × (St) × (St) × (Nat → St) × (Nat → St) × (Nat → St × (St))))) (r : Int32 × (St × Rw × (St) × (St × (St)) × (St) × (St × (St × (St × (St)))) × (St) × (St) × (Nat → St) × (Nat → St) × (Nat → St × (St)))) : Prop := ∀ (y0 : Int32) (s0 : St × Rw × (St) × (St × (St)) × (St) × (St × (St × (St × (St)))) × (St) × (St) × (Nat → St) × (Nat → St) × (Nat → St × (St))) (H : Heap) (locs : List Loc) (ls : Array Slot), g y0 s0 = some r → va_P (dC, dI) vwCl (dw_X12 a ac s0) H → va_D A (dw_X12 a ac s0) → va_S A s.heap H locs → lv_has ls 4 [] → W p l e (headSpec ow_dm_X12_line ({ frames := 1, cells := 0, slots := 0, locals := 23 })).room s m args below meth c H locs 0 0 Q (F0 m 19 ls [.int y0])
def dj_X12_line_0 (p : Program) (l : Launch) (e : Env) (s : State) (m : MethodId) (args : Array Value) (below : List Frame) (meth : Method) (c : Code) (Q : State → Prop) (A : Nat → Prop) (dC : Nat → ClassId) (dI : Nat → Nat → Nat) (a : Nat → Nat) (ac : Nat → ClassId) (g : Int32 → Int32 → (St × Rw × (St) × (St × (St)) × (St) × (St × (St × (St × (St)))) × (St) × (St) × (Nat → St) × (Nat → St) × (Nat → St × (St))) → Option (Int32 × (St × Rw × (St) × (St × (St)) × (St) × (St × (St × (St × (St)))) × (St) × (St) × (Nat → St) × (Nat → St) × (Nat → St × (St))))) (r : Int32 × (St × Rw × (St) × (St × (St)) × (St) × (St × (St × (St × (St)))) × (St) × (St) × (Nat → St) × (Nat → St) × (Nat → St × (St)))) : Prop := ∀ (v0 : Int32) (v1 : Int32) (s0 : St × Rw × (St) × (St × (St)) × (St) × (St × (St × (St × (St)))) × (St) × (St) × (Nat → St) × (Nat → St) × (Nat → St × (St))) (H : Heap) (locs : List Loc) (ls : Array Slot), g v0 v1 s0 = some r → va_P (dC, dI) vwCl (dw_X12 a ac s0) H → va_D A (dw_X12 a ac s0) → va_S A s.heap H locs → lv_has ls 4 [(0, .ref (a 0)), (1, .int v0), (2, .int v1)] → W p l e (headSpec ow_dm_X12_line ({ frames := 1, cells := 0, slots := 0, locals := 23 })).room s m args below meth c H locs 0 0 Q (F0 m 0 ls [])
set_option maxHeartbeats 40000000 in
set_option maxRecDepth 100000 in
theorem db_X12_line_19 {p : Program} {l : Launch} {e : Env} {s : State} {m : MethodId} {args : Array Value} {below : List Frame} {meth : Method} {c : Code} {Q : State → Prop} {A : Nat → Prop} {dC : Nat → ClassId} {dI : Nat → Nat → Nat} {a : Nat → Nat} {ac : Nat → ClassId} {n : Nat} {r : Int32 × (St × Rw × (St) × (St × (St)) × (St) × (St × (St × (St × (St)))) × (St) × (St) × (Nat → St) × (Nat → St) × (Nat → St × (St)))} (C : nd_C p l s m args c A (dC, dI) cX12_line 4 RX12 ow_dm_X12_line (dk_X12 ac)) (K : nd_Ki p l e (headSpec ow_dm_X12_line ({ frames := 1, cells := 0, slots := 0, locals := 23 })).room s m args below meth c Q A (dC, dI) cX12_line .int (St × Rw × (St) × (St × (St)) × (St) × (St × (St × (St × (St)))) × (St) × (St) × (Nat → St) × (Nat → St) × (Nat → St × (St))) (dw_X12 a ac) r) : dj_X12_line_19 p l e s m args below meth c Q A dC dI a ac (df_X12_line_19 n (a 15) (a 3)) r := by
  obtain ⟨hlt, hx, hb, hml, hown, hts, hN, hA, hK⟩ := id C
  intro y0 s0 H locs ls h hP hD hS hl
  unfold df_X12_line_19 at h
  exact K _ _ _ _ _ _ dX12_line_19 rfl (Option.some.inj h).symm hP hD hS
set_option maxHeartbeats 40000000 in
set_option maxRecDepth 100000 in
theorem db_X12_line_0 {p : Program} {l : Launch} {e : Env} {s : State} {m : MethodId} {args : Array Value} {below : List Frame} {meth : Method} {c : Code} {Q : State → Prop} {A : Nat → Prop} {dC : Nat → ClassId} {dI : Nat → Nat → Nat} {a : Nat → Nat} {ac : Nat → ClassId} {n : Nat} {r : Int32 × (St × Rw × (St) × (St × (St)) × (St) × (St × (St × (St × (St)))) × (St) × (St) × (Nat → St) × (Nat → St) × (Nat → St × (St)))} (C : nd_C p l s m args c A (dC, dI) cX12_line 4 RX12 ow_dm_X12_line (dk_X12 ac)) (K : nd_Ki p l e (headSpec ow_dm_X12_line ({ frames := 1, cells := 0, slots := 0, locals := 23 })).room s m args below meth c Q A (dC, dI) cX12_line .int (St × Rw × (St) × (St × (St)) × (St) × (St × (St × (St × (St)))) × (St) × (St) × (Nat → St) × (Nat → St) × (Nat → St × (St))) (dw_X12 a ac) r) : dj_X12_line_0 p l e s m args below meth c Q A dC dI a ac (df_X12_line_0 n (a 15) (a 3)) r := by
  obtain ⟨hlt, hx, hb, hml, hown, hts, hN, hA, hK⟩ := id C
  intro v0 v1 s0 H locs ls h hP hD hS hl
  unfold df_X12_line_0 at h
  refine lv_aload_n hx hb dX12_line_0 rfl (lv_at hl 0 rfl) ?_
  refine lv_iload_n hx hb dX12_line_1 rfl (lv_at hl 1 rfl) ?_
  obtain ⟨q1, s2, hq, h⟩ := nd_b2_e h
  have hPc := hP
  have hDc := hD
  have hKc := hK
  have hFc := nd_rs hD hS hA
  refine nd_cVq (As := [.int v0]) (rest := []) (q := Option.map (fun j => a (0 + j * 5 + 57)) q1) (w' := dw_X12 a ac s2) ⟨hx, hb, hml, hown, hts⟩ (fun sz => dm_X12_programOf l hlt dC dI a ac n (v0) s0 hq sz) (cwV 1 hts gi_dm_X12_line_0 rfl rfl rfl (by decide +kernel) ⟨Nat.le_of_ble_eq_true rfl, Nat.le_of_ble_eq_true rfl⟩) hPc hDc hKc hS hA hN (va_recv hKc hPc (ci := 13) (q0 := 0) rfl rfl) rfl hl.1 rfl (Nat.le_of_ble_eq_true rfl) dX12_line_2 (fun H locs hP1 hD1 hk1 hS => ?_)
  have hP := hP1
  have hD := hD1.weaken (fun k q _ h => hFc q.1 h)
  cases hrj4 : q1 with
  | none =>
    have h := nd_mN h hrj4
    refine W.eq (g2 := F0 m 5 ls [.null]) (by first | rfl | (show F0 m _ ls (va_rf (Option.map (fun j => a (0 + j * 5 + 57)) q1) :: _) = _; rw [hrj4]; rfl)) ?_
    refine lv_astore_nN (lv' := [(3, .null), (0, .ref (a 0)), (1, .int v0), (2, .int v1)]) hx hb dX12_line_5 rfl hl (by decide) rfl (fun ls hl => ?_)
    refine lv_aload_nN hx hb dX12_line_6 rfl (lv_at hl 0 rfl) ?_
    refine lv_ifnonnullN hx hb dX12_line_7 ?_
    refine lv_iconst (v := 0) hx hb dX12_line_10 (by decide) ?_
    refine lv_goto (tgt := 19) hx hb dX12_line_11 (by decide) ?_
    exact (db_X12_line_19 C K) (0) s2 _ _ _ h hP hD hS (lv_sub hl [] rfl)
  | some j4 =>
    have h := nd_mS h hrj4
    refine W.eq (g2 := F0 m 5 ls [.ref (a (0 + j4 * 5 + 57))]) (by first | rfl | (show F0 m _ ls (va_rf (Option.map (fun j => a (0 + j * 5 + 57)) q1) :: _) = _; rw [hrj4]; rfl)) ?_
    refine lv_astore_n (lv' := [(3, .ref (a (0 + j4 * 5 + 57))), (0, .ref (a 0)), (1, .int v0), (2, .int v1)]) hx hb dX12_line_5 rfl hl (by decide) rfl (fun ls hl => ?_)
    refine lv_aload_n hx hb dX12_line_6 rfl (lv_at hl 0 rfl) ?_
    refine lv_ifnonnull (tgt := 14) hx hb dX12_line_7 (by decide) ?_
    refine lv_aload_n hx hb dX12_line_14 rfl (lv_at hl 0 rfl) ?_
    refine lv_iload_n hx hb dX12_line_15 rfl (lv_at hl 3 rfl) ?_
    obtain ⟨l5, h⟩ := nd_lt_e h
    obtain ⟨q6, s7, hq, h⟩ := nd_b2_e h
    have hPc := dp_wX12_X8_11 l5 hP
    have hDc := dd_wX12_X8_11 l5 hD
    have hKc := dy_wX12_X8_11 l5 hK
    have hFc := nd_rs hDc hS hA
    have hzA : ∀ q : Nat, H.size ≤ q → A q := fun q h => hA q (Nat.le_trans hS.1 h)
    refine nd_cVi (As := [.int v1]) (rest := []) (q := q6) (w' := dw_X8 (fun k => a (k + j4 * 5 + 57)) (fun k => ac (k + j4 * 5 + 57)) s7) ⟨hx, hb, hml, hown, hts⟩ (fun sz => dm_X8_lineOf l hlt dC dI (fun k => a (k + j4 * 5 + 57)) (fun k => ac (k + j4 * 5 + 57)) n (v1) (s2.2.2.2.2.2.2.2.2.1 j4) hq sz) (cwV 1 hts gi_dm_X12_line_1 rfl rfl rfl (by decide +kernel) ⟨Nat.le_of_ble_eq_true rfl, Nat.le_of_ble_eq_true rfl⟩) hPc hDc hKc hS hA hN (va_recv hKc hPc (ci := 9) (q0 := 0) rfl rfl) rfl hl.1 rfl (Nat.le_of_ble_eq_true rfl) dX12_line_16 (fun H locs hP1 hD1 hk1 hS => ?_)
    obtain ⟨hP, hD⟩ := dn_wX12_X8_11 l5 hP hD hzA hk1 hP1 hD1
    obtain ⟨s9, es9, h⟩ := nd_let_e h
    have hP : va_P (dC, dI) vwCl (dw_X12 a ac s9) H := by rw [es9]; exact hP
    have hD : va_D A (dw_X12 a ac s9) := by rw [es9]; exact hD
    exact (db_X12_line_19 C K) (q6) s9 _ _ _ h hP hD hS (lv_sub hl [] rfl)
set_option maxHeartbeats 40000000 in
set_option maxRecDepth 100000 in
theorem dm_X12_line (l : Launch) (hlt : l.stackTraces = false) (dC : Nat → ClassId) (dI : Nat → Nat → Nat) (a : Nat → Nat) (ac : Nat → ClassId) (n : Nat) (v0 : Int32) (v1 : Int32) (s0 : St × Rw × (St) × (St × (St)) × (St) × (St × (St × (St × (St)))) × (St) × (St) × (Nat → St) × (Nat → St) × (Nat → St × (St))) {r : Int32 × (St × Rw × (St) × (St × (St)) × (St) × (St × (St × (St × (St)))) × (St) × (St) × (Nat → St) × (Nat → St) × (Nat → St × (St)))} (h : df_X12_line n (a 15) (a 3) v0 v1 s0 = some r) (sz : Nat) : Met l yX12_line ow_dm_X12_line ({ frames := 1, cells := 0, slots := 0, locals := 23 }) (va_Pc [.ref (a 0), .int v0, .int v1] (fun U => U.heap.size = sz ∧ va_P (dC, dI) vwCl (dw_X12 a ac s0) U.heap ∧ va_K (dC, dI) vwCl (dk_X12 ac) U ∧ va_D (fun _ => True) (dw_X12 a ac s0) ∧ nv_E dI (va_A (dw_X12 a ac s0) sz) U)) (va_Qi (fun x _ => x = r.1) (fun (_ : Unit) t => va_P (dC, dI) vwCl (dw_X12 a ac r.2) t.heap ∧ va_K (dC, dI) vwCl (dk_X12 ac) t ∧ va_D (va_A (dw_X12 a ac s0) sz) (dw_X12 a ac r.2)) (va_A (dw_X12 a ac s0) sz)) 0 0 (va_A (dw_X12 a ac s0) sz) := by
  refine Met.ofW (cc := cX12_line) (maxL := 4) (ret := (some .int)) (by decide) rfl ?_
  intro p e s m args below meth c s₁ B hml hv
  obtain ⟨rfl, hsz, hP, hK, hD0, hN⟩ := hv
  have hx := B.exec
  have hb := B.bytes
  have hr := B.returns
  have hts := atoms_spec (ws := ow_dm_X12_line) B.pre
  have hown : s.vm.findClass RX12 = some m.cls := findClass_of_methodNamed B.named
  have hlocks := B.notSynchronized
  subst hsz
  have hD := hD0.self (sz := s.heap.size)
  generalize hAe : va_A (dw_X12 a ac s0) s.heap.size = A at hD hN ⊢
  have hA : ∀ q : Nat, s.heap.size ≤ q → A q := fun q h => by rw [← hAe]; exact Or.inr h
  have hl := lv_entry ([.ref (a 0), .int v0, .int v1]) (n := 4) (Nat.le_of_ble_eq_true rfl)
  rw [lg_entry_eq]
  generalize (lg_sl ([.ref (a 0), .int v0, .int v1]) ++ List.replicate (4 - (lg_sl ([.ref (a 0), .int v0, .int v1])).length) Slot.unset).toArray = ls at hl ⊢
  have hl : lv_has ls 4 [(0, .ref (a 0)), (1, .int v0), (2, .int v1)] := hl
  exact db_X12_line_0 (dC := dC) (dI := dI) (a := a) (ac := ac) (n := n) (r := r) ⟨hlt, hx, hb, hml, hown, hts, hN, hA, hK⟩ (fun pc v τ H locs ls d z er hP hD hS => by subst er; exact W.zret (v := v) hx hb hr z (fun t ht hW => ⟨⟨v, (), rfl, rfl, by rw [ht]; exact hP, va_K.moved hW.alike hK, hD⟩, hS.F ht⟩) hS.2.2 d) v0 v1 s0 _ _ _ h hP hD va_S.rf (lv_sub hl [0, 1, 2] rfl)
set_option maxHeartbeats 40000000 in
set_option maxRecDepth 100000 in
theorem de_wX12_X11_12 {a : Nat → Nat} {ac : Nat → ClassId} {σ : St × Rw × (St) × (St × (St)) × (St) × (St × (St × (St × (St)))) × (St) × (St) × (Nat → St) × (Nat → St) × (Nat → St × (St))} : dw_X12 a ac σ = ([dw_X12o a ac (σ.1), [(a 1, .inl (ac 1, 9, .inr (.inr (.inr (.inr (fun i => Option.map (fun j => a (0 + j * 5 + 57)) ((σ.2.1) 4 i)))))))], [(a 2, .inl (ac 2, 9, .inr (.inr (.inr (.inr (fun i => Option.map (fun j => a (0 + j * 9 + 102)) ((σ.2.1) 5 i)))))))], dw_LG (fun k => a (k + 3)) (fun k => ac (k + 3)) (σ.2.2.1), dwo_X1 (fun k => a (k + 4)) (fun k => ac (k + 4)) (σ.2.2.2.1.1), dwc_X9 (fun k => a (k + 7)) (fun k => ac (k + 7)) (σ.2.2.2.1.2), [(a 15, .inl (ac 15, 32768, .inl (sR (σ.2.2.2.1.2) 7)))]] : List va_W).flatten ++ dw_X11 (fun k => a (k + 16)) (fun k => ac (k + 16)) (σ.2.2.2.2.1, σ.2.1, σ.2.2.2.2.2.1, σ.2.2.2.2.2.2.1, σ.2.2.2.2.2.2.2.1, σ.2.2.2.2.2.2.2.2.1, σ.2.2.2.2.2.2.2.2.2.1, σ.2.2.2.2.2.2.2.2.2.2) := by
  unfold dw_X12 dw_X11
  rw [← List.flatten_append]
  rfl
set_option maxHeartbeats 40000000 in
set_option maxRecDepth 100000 in
theorem dp_wX12_X11_12 {D : va_G} {H : Heap} {a : Nat → Nat} {ac : Nat → ClassId} {σ : St × Rw × (St) × (St × (St)) × (St) × (St × (St × (St × (St)))) × (St) × (St) × (Nat → St) × (Nat → St) × (Nat → St × (St))} (h : va_P D vwCl (dw_X12 a ac σ) H) : va_P D vwCl (dw_X11 (fun k => a (k + 16)) (fun k => ac (k + 16)) (σ.2.2.2.2.1, σ.2.1, σ.2.2.2.2.2.1, σ.2.2.2.2.2.2.1, σ.2.2.2.2.2.2.2.1, σ.2.2.2.2.2.2.2.2.1, σ.2.2.2.2.2.2.2.2.2.1, σ.2.2.2.2.2.2.2.2.2.2)) H := by
  rw [de_wX12_X11_12] at h
  exact nd_pr h
set_option maxHeartbeats 40000000 in
set_option maxRecDepth 100000 in
theorem dd_wX12_X11_12 {A : Nat → Prop} {a : Nat → Nat} {ac : Nat → ClassId} {σ : St × Rw × (St) × (St × (St)) × (St) × (St × (St × (St × (St)))) × (St) × (St) × (Nat → St) × (Nat → St) × (Nat → St × (St))} (h : va_D A (dw_X12 a ac σ)) : va_D A (dw_X11 (fun k => a (k + 16)) (fun k => ac (k + 16)) (σ.2.2.2.2.1, σ.2.1, σ.2.2.2.2.2.1, σ.2.2.2.2.2.2.1, σ.2.2.2.2.2.2.2.1, σ.2.2.2.2.2.2.2.2.1, σ.2.2.2.2.2.2.2.2.2.1, σ.2.2.2.2.2.2.2.2.2.2)) := by
  rw [de_wX12_X11_12] at h
  exact nd_dr h
set_option maxHeartbeats 40000000 in
set_option maxRecDepth 100000 in
theorem dy_wX12_X11_12 {D : va_G} {U : State} {ac : Nat → ClassId} (h : va_K D vwCl (dk_X12 ac) U) : va_K D vwCl (dk_X11 (fun k => ac (k + 16))) U := (va_K.app (h.sub [13, 14, 15, 16, 17, 18, 19, 20, 21, 22, 23, 24, 25, 26, 27, 28, 29, 30, 31, 32, 33, 34, 35, 36, 37, 38, 39, 40, 41, 42, 43, 44, 45, 46] rfl) (nd_ks h (fun q hq => List.mem_append_right _ hq)))
set_option maxHeartbeats 40000000 in
set_option maxRecDepth 100000 in
theorem dn_wX12_X11_12 {A0 : Nat → Prop} {D : va_G} {H H1 : Heap} {a : Nat → Nat} {ac : Nat → ClassId} {σ : St × Rw × (St) × (St × (St)) × (St) × (St × (St × (St × (St)))) × (St) × (St) × (Nat → St) × (Nat → St) × (Nat → St × (St))} {τ : St × Rw × (St × (St × (St × (St)))) × (St) × (St) × (Nat → St) × (Nat → St) × (Nat → St × (St))} (hP : va_P D vwCl (dw_X12 a ac σ) H) (hD : va_D A0 (dw_X12 a ac σ)) (hA : ∀ q : Nat, H.size ≤ q → A0 q) (hk : ∀ q : Nat, q < H.size → ¬ va_A (dw_X11 (fun k => a (k + 16)) (fun k => ac (k + 16)) (σ.2.2.2.2.1, σ.2.1, σ.2.2.2.2.2.1, σ.2.2.2.2.2.2.1, σ.2.2.2.2.2.2.2.1, σ.2.2.2.2.2.2.2.2.1, σ.2.2.2.2.2.2.2.2.2.1, σ.2.2.2.2.2.2.2.2.2.2)) H.size q → H1[q]? = H[q]?) (h1 : va_P D vwCl (dw_X11 (fun k => a (k + 16)) (fun k => ac (k + 16)) τ) H1) (h2 : va_D (va_A (dw_X11 (fun k => a (k + 16)) (fun k => ac (k + 16)) (σ.2.2.2.2.1, σ.2.1, σ.2.2.2.2.2.1, σ.2.2.2.2.2.2.1, σ.2.2.2.2.2.2.2.1, σ.2.2.2.2.2.2.2.2.1, σ.2.2.2.2.2.2.2.2.2.1, σ.2.2.2.2.2.2.2.2.2.2)) H.size) (dw_X11 (fun k => a (k + 16)) (fun k => ac (k + 16)) τ)) : va_P D vwCl (dw_X12 a ac (σ.1, (nd_mix 4 τ.2.1 σ.2.1), σ.2.2.1, σ.2.2.2.1, τ.1, τ.2.2.1, τ.2.2.2.1, τ.2.2.2.2.1, τ.2.2.2.2.2.1, τ.2.2.2.2.2.2.1, τ.2.2.2.2.2.2.2)) H1 ∧ va_D A0 (dw_X12 a ac (σ.1, (nd_mix 4 τ.2.1 σ.2.1), σ.2.2.1, σ.2.2.2.1, τ.1, τ.2.2.1, τ.2.2.2.1, τ.2.2.2.2.1, τ.2.2.2.2.2.1, τ.2.2.2.2.2.2.1, τ.2.2.2.2.2.2.2)) := by
  have hD0 := hD
  rw [de_wX12_X11_12] at hP hD
  obtain ⟨g1, -, -⟩ := nd_stepR hP hD hk h1 h2
  have e2 : dg_X11 (fun k => a (k + 16)) (fun k => ac (k + 16)) ((σ.1, (nd_mix 4 τ.2.1 σ.2.1), σ.2.2.1, σ.2.2.2.1, τ.1, τ.2.2.1, τ.2.2.2.1, τ.2.2.2.2.1, τ.2.2.2.2.2.1, τ.2.2.2.2.2.2.1, τ.2.2.2.2.2.2.2).2.2.2.2.1, (σ.1, (nd_mix 4 τ.2.1 σ.2.1), σ.2.2.1, σ.2.2.2.1, τ.1, τ.2.2.1, τ.2.2.2.1, τ.2.2.2.2.1, τ.2.2.2.2.2.1, τ.2.2.2.2.2.2.1, τ.2.2.2.2.2.2.2).2.1, (σ.1, (nd_mix 4 τ.2.1 σ.2.1), σ.2.2.1, σ.2.2.2.1, τ.1, τ.2.2.1, τ.2.2.2.1, τ.2.2.2.2.1, τ.2.2.2.2.2.1, τ.2.2.2.2.2.2.1, τ.2.2.2.2.2.2.2).2.2.2.2.2.1, (σ.1, (nd_mix 4 τ.2.1 σ.2.1), σ.2.2.1, σ.2.2.2.1, τ.1, τ.2.2.1, τ.2.2.2.1, τ.2.2.2.2.1, τ.2.2.2.2.2.1, τ.2.2.2.2.2.2.1, τ.2.2.2.2.2.2.2).2.2.2.2.2.2.1, (σ.1, (nd_mix 4 τ.2.1 σ.2.1), σ.2.2.1, σ.2.2.2.1, τ.1, τ.2.2.1, τ.2.2.2.1, τ.2.2.2.2.1, τ.2.2.2.2.2.1, τ.2.2.2.2.2.2.1, τ.2.2.2.2.2.2.2).2.2.2.2.2.2.2.1, (σ.1, (nd_mix 4 τ.2.1 σ.2.1), σ.2.2.1, σ.2.2.2.1, τ.1, τ.2.2.1, τ.2.2.2.1, τ.2.2.2.2.1, τ.2.2.2.2.2.1, τ.2.2.2.2.2.2.1, τ.2.2.2.2.2.2.2).2.2.2.2.2.2.2.2.1, (σ.1, (nd_mix 4 τ.2.1 σ.2.1), σ.2.2.1, σ.2.2.2.1, τ.1, τ.2.2.1, τ.2.2.2.1, τ.2.2.2.2.1, τ.2.2.2.2.2.1, τ.2.2.2.2.2.2.1, τ.2.2.2.2.2.2.2).2.2.2.2.2.2.2.2.2.1, (σ.1, (nd_mix 4 τ.2.1 σ.2.1), σ.2.2.1, σ.2.2.2.1, τ.1, τ.2.2.1, τ.2.2.2.1, τ.2.2.2.2.1, τ.2.2.2.2.2.1, τ.2.2.2.2.2.2.1, τ.2.2.2.2.2.2.2).2.2.2.2.2.2.2.2.2.2) = dg_X11 (fun k => a (k + 16)) (fun k => ac (k + 16)) τ := rfl
  have hz : va_P D vwCl (dw_X12 a ac (σ.1, (nd_mix 4 τ.2.1 σ.2.1), σ.2.2.1, σ.2.2.2.1, τ.1, τ.2.2.1, τ.2.2.2.1, τ.2.2.2.2.1, τ.2.2.2.2.2.1, τ.2.2.2.2.2.2.1, τ.2.2.2.2.2.2.2)) H1 := by
    rw [de_wX12_X11_12]
    unfold dw_X11 at g1 ⊢
    rw [e2]
    exact g1
  exact ⟨hz, nd_Da hD0 dA_X12⟩
def ow_dm_X12_boot : List Cond := Cond.code yX12_boot cX12_boot 2 none :: ([Cond.classLink RX12 70 "java/lang/IllegalArgumentException", Cond.initialized "java/lang/IllegalArgumentException", Cond.fieldLink RX12 16 "TimeMachine" "programs" "[LTimeMachine$Program;", Cond.classLink RX12 118 "java/lang/IllegalStateException", Cond.initialized "java/lang/IllegalStateException", Cond.fieldLink RX12 33 "TimeMachine" "timeline" "LTimeMachine$Timeline;", Cond.methodLink RX12 121 yX11_startWithout, Cond.instanceMethod yX11_startWithout, Cond.selects RX11 yX11_startWithout yX11_startWithout, Cond.initialized RX11] ++ (u_ws RX12 TX12 12 ++ (ow_dm_X11_startWithout ++ ((vx_at0 RX12 72 "java/lang/IllegalArgumentException" ["java/lang/RuntimeException", "java/lang/Exception"]).filter goodWord ++ ((vx_at0 RX12 120 "java/lang/IllegalStateException" ["java/lang/RuntimeException", "java/lang/Exception"]).filter goodWord ++ [])))))
theorem gd_dm_X12_boot : ∀ w ∈ ow_dm_X12_boot, (w.onTables && w.keeps) = true ∨ ∃ ty, w = Cond.arrayClass ty := List.forall_mem_cons.mpr ⟨good_of_word rfl, List.forall_mem_append.mpr ⟨fun w h => good_of_word (List.all_eq_true.mp (by decide +kernel) w h), List.forall_mem_append.mpr ⟨gu_X12, List.forall_mem_append.mpr ⟨gd_dm_X11_startWithout, List.forall_mem_append.mpr ⟨fun w h => good_of_word (List.mem_filter.mp h).2, List.forall_mem_append.mpr ⟨fun w h => good_of_word (List.mem_filter.mp h).2, fun _ h => nomatch h⟩⟩⟩⟩⟩⟩
theorem hi_dm_X12_boot_X12 : ∀ w ∈ u_ws RX12 TX12 12, w ∈ ow_dm_X12_boot := fun w h => List.mem_cons_of_mem _ (List.mem_append_right _ (List.mem_append_left _ h))
theorem gi_dm_X12_boot_0 : GoodIn ow_dm_X12_boot (wsV RX12 121 RX11 yX11_startWithout ow_dm_X11_startWithout) := goodIn_app (goodIn_of _ (by decide +kernel)) (fun w h => ⟨List.mem_cons_of_mem _ (List.mem_append_right _ (List.mem_append_right _ (List.mem_append_left _ h))), gd_dm_X11_startWithout w h⟩)
def dj_X12_boot_9 (p : Program) (l : Launch) (e : Env) (s : State) (m : MethodId) (args : Array Value) (below : List Frame) (meth : Method) (c : Code) (Q : State → Prop) (A : Nat → Prop) (dC : Nat → ClassId) (dI : Nat → Nat → Nat) (a : Nat → Nat) (ac : Nat → ClassId) (g : (St × Rw × (St) × (St × (St)) × (St) × (St × (St × (St × (St)))) × (St) × (St) × (Nat → St) × (Nat → St) × (Nat → St × (St))) → Option ((St × Rw × (St) × (St × (St)) × (St) × (St × (St × (St × (St)))) × (St) × (St) × (Nat → St) × (Nat → St) × (Nat → St × (St))) ⊕ (String × (St × Rw × (St) × (St × (St)) × (St) × (St × (St × (St × (St)))) × (St) × (St) × (Nat → St) × (Nat → St) × (Nat → St × (St)))))) (r : (St × Rw × (St) × (St × (St)) × (St) × (St × (St × (St × (St)))) × (St) × (St) × (Nat → St) × (Nat → St) × (Nat → St × (St))) ⊕ (String × (St × Rw × (St) × (St × (St)) × (St) × (St × (St × (St × (St)))) × (St) × (St) × (Nat → St) × (Nat → St) × (Nat → St × (St))))) : Prop := ∀ (s0 : St × Rw × (St) × (St × (St)) × (St) × (St × (St × (St × (St)))) × (St) × (St) × (Nat → St) × (Nat → St) × (Nat → St × (St))) (H : Heap) (locs : List Loc) (ls : Array Slot), g s0 = some r → va_P (dC, dI) vwCl (dw_X12 a ac s0) H → va_D A (dw_X12 a ac s0) → va_S A s.heap H locs → lv_has ls 2 [] → W p l e (headSpec ow_dm_X12_boot ({ frames := 6, cells := 1, slots := 6, locals := 148 })).room s m args below meth c H locs 0 0 Q (F0 m 9 ls [])
def dj_X12_boot_0 (p : Program) (l : Launch) (e : Env) (s : State) (m : MethodId) (args : Array Value) (below : List Frame) (meth : Method) (c : Code) (Q : State → Prop) (A : Nat → Prop) (dC : Nat → ClassId) (dI : Nat → Nat → Nat) (a : Nat → Nat) (ac : Nat → ClassId) (g : Int32 → (St × Rw × (St) × (St × (St)) × (St) × (St × (St × (St × (St)))) × (St) × (St) × (Nat → St) × (Nat → St) × (Nat → St × (St))) → Option ((St × Rw × (St) × (St × (St)) × (St) × (St × (St × (St × (St)))) × (St) × (St) × (Nat → St) × (Nat → St) × (Nat → St × (St))) ⊕ (String × (St × Rw × (St) × (St × (St)) × (St) × (St × (St × (St × (St)))) × (St) × (St) × (Nat → St) × (Nat → St) × (Nat → St × (St)))))) (r : (St × Rw × (St) × (St × (St)) × (St) × (St × (St × (St × (St)))) × (St) × (St) × (Nat → St) × (Nat → St) × (Nat → St × (St))) ⊕ (String × (St × Rw × (St) × (St × (St)) × (St) × (St × (St × (St × (St)))) × (St) × (St) × (Nat → St) × (Nat → St) × (Nat → St × (St))))) : Prop := ∀ (v0 : Int32) (s0 : St × Rw × (St) × (St × (St)) × (St) × (St × (St × (St × (St)))) × (St) × (St) × (Nat → St) × (Nat → St) × (Nat → St × (St))) (H : Heap) (locs : List Loc) (ls : Array Slot), g v0 s0 = some r → va_P (dC, dI) vwCl (dw_X12 a ac s0) H → va_D A (dw_X12 a ac s0) → va_S A s.heap H locs → lv_has ls 2 [(0, .ref (a 0)), (1, .int v0)] → W p l e (headSpec ow_dm_X12_boot ({ frames := 6, cells := 1, slots := 6, locals := 148 })).room s m args below meth c H locs 0 0 Q (F0 m 0 ls [])
set_option maxHeartbeats 40000000 in
set_option maxRecDepth 100000 in
theorem db_X12_boot_9 {p : Program} {l : Launch} {e : Env} {s : State} {m : MethodId} {args : Array Value} {below : List Frame} {meth : Method} {c : Code} {Qc : Array Value → State → Outcome → State → Prop} {A : Nat → Prop} {dC : Nat → ClassId} {dI : Nat → Nat → Nat} {a : Nat → Nat} {ac : Nat → ClassId} {n : Nat} {r : (St × Rw × (St) × (St × (St)) × (St) × (St × (St × (St × (St)))) × (St) × (St) × (Nat → St) × (Nat → St) × (Nat → St × (St))) ⊕ (String × (St × Rw × (St) × (St × (St)) × (St) × (St × (St × (St × (St)))) × (St) × (St) × (Nat → St) × (Nat → St) × (Nat → St × (St))))} (C : nd_C p l s m args c A (dC, dI) cX12_boot 2 RX12 ow_dm_X12_boot (dk_X12 ac)) (CX : nv_Dc s ∧ (∀ x ∈ c.exceptionTable.toList, False) ∧ meth.locks = false) (K : nd_Tv p l e (headSpec ow_dm_X12_boot ({ frames := 6, cells := 1, slots := 6, locals := 148 })).room s m args below meth c (vx_MQ below Qc (nd_XC (dC, dI) (St × Rw × (St) × (St × (St)) × (St) × (St × (St × (St × (St)))) × (St) × (St) × (Nat → St) × (Nat → St) × (Nat → St × (St))) (dw_X12 a ac) A r) args s 1 6 A) A (dC, dI) cX12_boot (St × Rw × (St) × (St × (St)) × (St) × (St × (St × (St × (St)))) × (St) × (St) × (Nat → St) × (Nat → St) × (Nat → St × (St))) (dw_X12 a ac) r) : dj_X12_boot_9 p l e s m args below meth c (vx_MQ below Qc (nd_XC (dC, dI) (St × Rw × (St) × (St × (St)) × (St) × (St × (St × (St × (St)))) × (St) × (St) × (Nat → St) × (Nat → St) × (Nat → St × (St))) (dw_X12 a ac) A r) args s 1 6 A) A dC dI a ac (df_X12_boot_9 n (a 15) (a 3)) r := by
  obtain ⟨hDe, htb, hlocks⟩ := id CX
  obtain ⟨hlt, hx, hb, hml, hown, hts, hN, hA, hK⟩ := id C
  intro s0 H locs ls h hP hD hS hl
  unfold df_X12_boot_9 at h
  exact vx_throw0 (own := RX12) (cls := "java/lang/IllegalArgumentException") (names := ["java/lang/RuntimeException", "java/lang/Exception"]) (ik := 70) (ic := 72) (A := A) hx hb hlt hown (by decide +kernel) (by decide +kernel) (hts (.classLink RX12 70 "java/lang/IllegalArgumentException") (List.mem_of_getElem? (i := 1) rfl)) (hts (.initialized "java/lang/IllegalArgumentException") (List.mem_of_getElem? (i := 2) rfl)) (vx_hat (B := [.castable "java/lang/IllegalArgumentException" "java/lang/IllegalArgumentException", .declares ⟨"java/lang/RuntimeException", "<init>", "()V"⟩, .declares ⟨"java/lang/Exception", "<init>", "()V"⟩, .declares ⟨"java/lang/Throwable", "<init>", "()V"⟩]) (fun w h => hts w (List.mem_cons_of_mem _ (List.mem_append_right _ (List.mem_append_right _ (List.mem_append_right _ (List.mem_append_left _ h)))))) (by decide +kernel) (vx_c (va_Nw.use rfl hN.2.2.2.2.2.2.2.1) (vx_c (va_Nw.use rfl (hDe _ (by decide +kernel))) (vx_c (va_Nw.use rfl (hDe _ (by decide +kernel))) (vx_c (va_Nw.use rfl (hDe _ (by decide +kernel))) vx_n))))) (by decide +kernel) hN.2.2.2.2.2.1 hN.2.2.2.2.2.2.1 hS (by rw [hml]; exact hl.1) dX12_boot_9 dX12_boot_12 dX12_boot_13 dX12_boot_16 (fun x9 h9 => (htb x9 h9).elim) (Nat.le_of_ble_eq_true rfl) (Nat.le_of_ble_eq_true rfl) (by decide +kernel) (by decide +kernel) hlocks (fun t hvm hz hk => ⟨s0, trivial, ⟨(Option.some.inj h).symm, hP.kept (fun k q hq => hk q.1 (hP k q hq).lt), hD⟩, Nat.le_trans hS.1 hz, fun q h1 h2 => (hk q (Nat.lt_of_lt_of_le h1 hS.1)).trans (hS.2.1 q h1 h2)⟩) hS.2.2 (by decide +kernel) (by decide +kernel)
set_option maxHeartbeats 40000000 in
set_option maxRecDepth 100000 in
theorem db_X12_boot_0 {p : Program} {l : Launch} {e : Env} {s : State} {m : MethodId} {args : Array Value} {below : List Frame} {meth : Method} {c : Code} {Qc : Array Value → State → Outcome → State → Prop} {A : Nat → Prop} {dC : Nat → ClassId} {dI : Nat → Nat → Nat} {a : Nat → Nat} {ac : Nat → ClassId} {n : Nat} {r : (St × Rw × (St) × (St × (St)) × (St) × (St × (St × (St × (St)))) × (St) × (St) × (Nat → St) × (Nat → St) × (Nat → St × (St))) ⊕ (String × (St × Rw × (St) × (St × (St)) × (St) × (St × (St × (St × (St)))) × (St) × (St) × (Nat → St) × (Nat → St) × (Nat → St × (St))))} (C : nd_C p l s m args c A (dC, dI) cX12_boot 2 RX12 ow_dm_X12_boot (dk_X12 ac)) (CX : nv_Dc s ∧ (∀ x ∈ c.exceptionTable.toList, False) ∧ meth.locks = false) (K : nd_Tv p l e (headSpec ow_dm_X12_boot ({ frames := 6, cells := 1, slots := 6, locals := 148 })).room s m args below meth c (vx_MQ below Qc (nd_XC (dC, dI) (St × Rw × (St) × (St × (St)) × (St) × (St × (St × (St × (St)))) × (St) × (St) × (Nat → St) × (Nat → St) × (Nat → St × (St))) (dw_X12 a ac) A r) args s 1 6 A) A (dC, dI) cX12_boot (St × Rw × (St) × (St × (St)) × (St) × (St × (St × (St × (St)))) × (St) × (St) × (Nat → St) × (Nat → St) × (Nat → St × (St))) (dw_X12 a ac) r) : dj_X12_boot_0 p l e s m args below meth c (vx_MQ below Qc (nd_XC (dC, dI) (St × Rw × (St) × (St × (St)) × (St) × (St × (St × (St × (St)))) × (St) × (St) × (Nat → St) × (Nat → St) × (Nat → St × (St))) (dw_X12 a ac) A r) args s 1 6 A) A dC dI a ac (df_X12_boot_0 n (a 15) (a 3)) r := by
  obtain ⟨hDe, htb, hlocks⟩ := id CX
  obtain ⟨hlt, hx, hb, hml, hown, hts, hN, hA, hK⟩ := id C
  intro v0 s0 H locs ls h hP hD hS hl
  unfold df_X12_boot_0 at h
  refine lv_iload_n hx hb dX12_boot_0 rfl (lv_at hl 1 rfl) ?_
  refine lv_if_lt (tgt := 9) hx hb dX12_boot_1 (by decide) (fun c1 => ?_) (fun c1 => ?_)
  · have h := nd_pos h c1
    exact (db_X12_boot_9 C CX K)  s0 _ _ _ h hP hD hS (lv_sub hl [] rfl)
  · have h := nd_neg h c1
    refine lv_iload_n hx hb dX12_boot_4 rfl (lv_at hl 1 rfl) ?_
    refine lv_iconst (v := 4) hx hb dX12_boot_5 (by decide) ?_
    refine lv_icmp_lt (tgt := 17) hx hb dX12_boot_6 (by decide) (fun c2 => ?_) (fun c2 => ?_)
    · have h := nd_pos h c2
      refine lv_aload_n hx hb dX12_boot_17 rfl (lv_at hl 0 rfl) ?_
      refine va_get (D := (dC, dI)) (ci := 13) (v := .ref (a 54)) (C := RX12) (T := TX12) (N := 12) hx hb hts hi_dm_X12_boot_X12 hown hK hP 0 rfl rfl 3 (by decide) (hts (.fieldLink RX12 16 "TimeMachine" "programs" "[LTimeMachine$Program;") (List.mem_of_getElem? (i := 3) rfl)) (fun _ h9 => h9) rfl dX12_boot_18 ?_
      refine lv_iload_n hx hb dX12_boot_21 rfl (lv_at hl 1 rfl) ?_
      obtain ⟨i3, h⟩ := nd_ck_e h
      refine va_aldq (i := v0) hx hb hK hP 54 44 rfl rfl i3 dX12_boot_22 ?_
      cases hrj4 : s0.2.1 1 (Int32.toNatClampNeg v0) with
      | none =>
        have h := nd_mN h hrj4
        refine W.eq (g2 := F0 m 23 ls [.null]) (by first | rfl | (show F0 m _ ls (va_rf (Option.map (fun j => a (0 + j * 5 + 57)) (s0.2.1 1 (Int32.toNatClampNeg v0))) :: _) = _; rw [hrj4]; rfl)) ?_
        refine lv_ifnonnullN hx hb dX12_boot_23 ?_
        exact vx_throw0 (own := RX12) (cls := "java/lang/IllegalStateException") (names := ["java/lang/RuntimeException", "java/lang/Exception"]) (ik := 118) (ic := 120) (A := A) hx hb hlt hown (by decide +kernel) (by decide +kernel) (hts (.classLink RX12 118 "java/lang/IllegalStateException") (List.mem_of_getElem? (i := 4) rfl)) (hts (.initialized "java/lang/IllegalStateException") (List.mem_of_getElem? (i := 5) rfl)) (vx_hat (B := [.castable "java/lang/IllegalStateException" "java/lang/IllegalStateException", .declares ⟨"java/lang/RuntimeException", "<init>", "()V"⟩, .declares ⟨"java/lang/Exception", "<init>", "()V"⟩, .declares ⟨"java/lang/Throwable", "<init>", "()V"⟩]) (fun w h => hts w (List.mem_cons_of_mem _ (List.mem_append_right _ (List.mem_append_right _ (List.mem_append_right _ (List.mem_append_right _ (List.mem_append_left _ h))))))) (by decide +kernel) (vx_c (va_Nw.use rfl hN.2.2.2.2.2.2.2.2.1) (vx_c (va_Nw.use rfl (hDe _ (by decide +kernel))) (vx_c (va_Nw.use rfl (hDe _ (by decide +kernel))) (vx_c (va_Nw.use rfl (hDe _ (by decide +kernel))) vx_n))))) (by decide +kernel) hN.2.2.2.2.2.1 hN.2.2.2.2.2.2.1 hS (by rw [hml]; exact hl.1) dX12_boot_26 dX12_boot_29 dX12_boot_30 dX12_boot_33 (fun x9 h9 => (htb x9 h9).elim) (Nat.le_of_ble_eq_true rfl) (Nat.le_of_ble_eq_true rfl) (by decide +kernel) (by decide +kernel) hlocks (fun t hvm hz hk => ⟨s0, trivial, ⟨(Option.some.inj h).symm, hP.kept (fun k q hq => hk q.1 (hP k q hq).lt), hD⟩, Nat.le_trans hS.1 hz, fun q h1 h2 => (hk q (Nat.lt_of_lt_of_le h1 hS.1)).trans (hS.2.1 q h1 h2)⟩) hS.2.2 (by decide +kernel) (by decide +kernel)
      | some j4 =>
        have h := nd_mS h hrj4
        refine W.eq (g2 := F0 m 23 ls [.ref (a (0 + j4 * 5 + 57))]) (by first | rfl | (show F0 m _ ls (va_rf (Option.map (fun j => a (0 + j * 5 + 57)) (s0.2.1 1 (Int32.toNatClampNeg v0))) :: _) = _; rw [hrj4]; rfl)) ?_
        refine lv_ifnonnull (tgt := 34) hx hb dX12_boot_23 (by decide) ?_
        refine lv_aload_n hx hb dX12_boot_34 rfl (lv_at hl 0 rfl) ?_
        refine va_get (D := (dC, dI)) (ci := 13) (v := .ref (a 16)) (C := RX12) (T := TX12) (N := 12) hx hb hts hi_dm_X12_boot_X12 hown hK hP 0 rfl rfl 6 (by decide) (hts (.fieldLink RX12 33 "TimeMachine" "timeline" "LTimeMachine$Timeline;") (List.mem_of_getElem? (i := 6) rfl)) (fun _ h9 => h9) rfl dX12_boot_35 ?_
        refine lv_aload_n hx hb dX12_boot_38 rfl (lv_at hl 0 rfl) ?_
        refine va_get (D := (dC, dI)) (ci := 13) (v := .ref (a 54)) (C := RX12) (T := TX12) (N := 12) hx hb hts hi_dm_X12_boot_X12 hown hK hP 0 rfl rfl 3 (by decide) (hts (.fieldLink RX12 16 "TimeMachine" "programs" "[LTimeMachine$Program;") (List.mem_of_getElem? (i := 3) rfl)) (fun _ h9 => h9) rfl dX12_boot_39 ?_
        refine lv_iload_n hx hb dX12_boot_42 rfl (lv_at hl 1 rfl) ?_
        obtain ⟨s6, hq, h⟩ := nd_b1_e h
        have hPc := dp_wX12_X11_12 hP
        have hDc := dd_wX12_X11_12 hD
        have hKc := dy_wX12_X11_12 hK
        have hFc := nd_rs hDc hS hA
        have hzA : ∀ q : Nat, H.size ≤ q → A q := fun q h => hA q (Nat.le_trans hS.1 h)
        refine nd_cVv (As := [.ref (a 54), .int v0]) (rest := []) (w' := dw_X11 (fun k => a (k + 16)) (fun k => ac (k + 16)) s6) ⟨hx, hb, hml, hown, hts⟩ (fun sz => dm_X11_startWithout l hlt dC dI (fun k => a (k + 16)) (fun k => ac (k + 16)) n (v0) (s0.2.2.2.2.1, s0.2.1, s0.2.2.2.2.2.1, s0.2.2.2.2.2.2.1, s0.2.2.2.2.2.2.2.1, s0.2.2.2.2.2.2.2.2.1, s0.2.2.2.2.2.2.2.2.2.1, s0.2.2.2.2.2.2.2.2.2.2) hq sz) (cwV 2 hts gi_dm_X12_boot_0 rfl rfl rfl (by decide +kernel) ⟨Nat.le_of_ble_eq_true rfl, Nat.le_of_ble_eq_true rfl⟩) hPc hDc hKc hS hA hN (va_recv hKc hPc (ci := 12) (q0 := 0) rfl rfl) rfl hl.1 rfl (Nat.le_of_ble_eq_true rfl) dX12_boot_43 (fun H locs hP1 hD1 hk1 hS => ?_)
        obtain ⟨hP, hD⟩ := dn_wX12_X11_12 hP hD hzA hk1 hP1 hD1
        obtain ⟨s8, es8, h⟩ := nd_let_e h
        have hP : va_P (dC, dI) vwCl (dw_X12 a ac s8) H := by rw [es8]; exact hP
        have hD : va_D A (dw_X12 a ac s8) := by rw [es8]; exact hD
        exact K _ _ _ _ _ dX12_boot_46 (Option.some.inj h).symm hP hD hS
    · have h := nd_neg h c2
      exact (db_X12_boot_9 C CX K)  s0 _ _ _ h hP hD hS (lv_sub hl [] rfl)
set_option maxHeartbeats 40000000 in
set_option maxRecDepth 100000 in
theorem dm_X12_boot (l : Launch) (hlt : l.stackTraces = false) (dC : Nat → ClassId) (dI : Nat → Nat → Nat) (a : Nat → Nat) (ac : Nat → ClassId) (n : Nat) (v0 : Int32) (s0 : St × Rw × (St) × (St × (St)) × (St) × (St × (St × (St × (St)))) × (St) × (St) × (Nat → St) × (Nat → St) × (Nat → St × (St))) {r : (St × Rw × (St) × (St × (St)) × (St) × (St × (St × (St × (St)))) × (St) × (St) × (Nat → St) × (Nat → St) × (Nat → St × (St))) ⊕ (String × (St × Rw × (St) × (St × (St)) × (St) × (St × (St × (St × (St)))) × (St) × (St) × (Nat → St) × (Nat → St) × (Nat → St × (St))))} (h : df_X12_boot n (a 15) (a 3) v0 s0 = some r) (sz : Nat) : vx_Met l yX12_boot ow_dm_X12_boot ({ frames := 6, cells := 1, slots := 6, locals := 148 }) (va_Pc [.ref (a 0), .int v0] (fun U => U.heap.size = sz ∧ va_P (dC, dI) vwCl (dw_X12 a ac s0) U.heap ∧ va_K (dC, dI) vwCl (dk_X12 ac) U ∧ va_D (fun _ => True) (dw_X12 a ac s0) ∧ nv_E dI (va_A (dw_X12 a ac s0) sz) U ∧ nv_Dc U)) (va_Qv (fun u => r = Sum.inl u) (fun (u : St × Rw × (St) × (St × (St)) × (St) × (St × (St × (St × (St)))) × (St) × (St) × (Nat → St) × (Nat → St) × (Nat → St × (St))) t => va_P (dC, dI) vwCl (dw_X12 a ac u) t.heap ∧ va_K (dC, dI) vwCl (dk_X12 ac) t ∧ va_D (va_A (dw_X12 a ac s0) sz) (dw_X12 a ac u)) (va_A (dw_X12 a ac s0) sz)) (nd_XC (dC, dI) (St × Rw × (St) × (St × (St)) × (St) × (St × (St × (St × (St)))) × (St) × (St) × (Nat → St) × (Nat → St) × (Nat → St × (St))) (dw_X12 a ac) (va_A (dw_X12 a ac s0) sz) r) 1 6 (va_A (dw_X12 a ac s0) sz) := by
  refine vx_ofW (cc := cX12_boot) (maxL := 2) (ret := none) (by decide) rfl ?_
  intro p e s m args below meth c s₁ B hml htb hv
  obtain ⟨rfl, hsz, hP, hK, hD0, hN, hDe⟩ := hv
  have hx := B.exec
  have hb := B.bytes
  have hr := B.returns
  have hts := atoms_spec (ws := ow_dm_X12_boot) B.pre
  have hown : s.vm.findClass RX12 = some m.cls := findClass_of_methodNamed B.named
  have hlocks := B.notSynchronized
  subst hsz
  have hD := hD0.self (sz := s.heap.size)
  generalize hAe : va_A (dw_X12 a ac s0) s.heap.size = A at hD hN ⊢
  have hA : ∀ q : Nat, s.heap.size ≤ q → A q := fun q h => by rw [← hAe]; exact Or.inr h
  have hl := lv_entry ([.ref (a 0), .int v0]) (n := 2) (Nat.le_of_ble_eq_true rfl)
  rw [lg_entry_eq]
  generalize (lg_sl ([.ref (a 0), .int v0]) ++ List.replicate (2 - (lg_sl ([.ref (a 0), .int v0])).length) Slot.unset).toArray = ls at hl ⊢
  have hl : lv_has ls 2 [(0, .ref (a 0)), (1, .int v0)] := hl
  exact db_X12_boot_0 (dC := dC) (dI := dI) (a := a) (ac := ac) (n := n) (r := r) ⟨hlt, hx, hb, hml, hown, hts, hN, hA, hK⟩ ⟨hDe, htb, hlocks⟩ (fun pc τ H locs ls d er hP hD hS => by subst er; exact W.widen (k := 1) (n := 6) (by decide) (by decide) (vx_ret (W.vret hx hb hr (fun t ht hW => ⟨⟨τ, rfl, rfl, by rw [ht]; exact hP, va_K.moved hW.alike hK, hD⟩, hS.F ht⟩) hS.2.2 d))) v0 s0 _ _ _ h hP hD va_S.rf (lv_sub hl [0, 1] rfl)
set_option maxHeartbeats 40000000 in
set_option maxRecDepth 100000 in
theorem de_wX12_X3s_13 {a : Nat → Nat} {ac : Nat → ClassId} {τ : St × (St)} : ([[(a 15, .inl (ac 15, 32768, .inl (sR (pR nd_st0 7 (sR τ.1 0)) 7)))], dw_X3c (fun k => a (k + 43)) (fun k => ac (k + 43)) (τ.2)] : List va_W).flatten = dw_X3s (fun k => a (if k < 1 then k + 15 else k - 1 + 43)) (fun k => ac (if k < 1 then k + 15 else k - 1 + 43)) τ := by
  first
  | (simp only [List.flatten_cons, List.flatten_nil, List.append_nil]; done)
  | (simp only [List.flatten_cons, List.flatten_nil, List.append_nil]; rfl)
set_option maxHeartbeats 40000000 in
set_option maxRecDepth 100000 in
theorem dp_wX12_X3s_13 {D : va_G} {H : Heap} {a : Nat → Nat} {ac : Nat → ClassId} {σ : St × Rw × (St) × (St × (St)) × (St) × (St × (St × (St × (St)))) × (St) × (St) × (Nat → St) × (Nat → St) × (Nat → St × (St))} (h : va_P D vwCl (dw_X12 a ac σ) H) : va_P D vwCl (dw_X3s (fun k => a (if k < 1 then k + 15 else k - 1 + 43)) (fun k => ac (if k < 1 then k + 15 else k - 1 + 43)) ((pR nd_st0 0 (sR σ.2.2.2.1.2 7)), σ.2.2.2.2.2.2.1)) H := by
  have h2 := nd_vp (segs := dg_X12 a ac σ) (ix := [6, 12]) (old := [[(a 15, .inl (ac 15, 32768, .inl (sR (σ.2.2.2.1.2) 7)))], dw_X3c (fun k => a (k + 43)) (fun k => ac (k + 43)) (σ.2.2.2.2.2.2.1)]) h (nd_co rfl (nd_co rfl rfl))
  have e := de_wX12_X3s_13 (a := a) (ac := ac) (τ := ((pR nd_st0 0 (sR σ.2.2.2.1.2 7)), σ.2.2.2.2.2.2.1))
  exact e ▸ h2
set_option maxHeartbeats 40000000 in
set_option maxRecDepth 100000 in
theorem dd_wX12_X3s_13 {A : Nat → Prop} {a : Nat → Nat} {ac : Nat → ClassId} {σ : St × Rw × (St) × (St × (St)) × (St) × (St × (St × (St × (St)))) × (St) × (St) × (Nat → St) × (Nat → St) × (Nat → St × (St))} (h : va_D A (dw_X12 a ac σ)) : va_D A (dw_X3s (fun k => a (if k < 1 then k + 15 else k - 1 + 43)) (fun k => ac (if k < 1 then k + 15 else k - 1 + 43)) ((pR nd_st0 0 (sR σ.2.2.2.1.2 7)), σ.2.2.2.2.2.2.1)) := by
  have h2 := nd_vd (segs := dg_X12 a ac σ) (ix := [6, 12]) (old := [[(a 15, .inl (ac 15, 32768, .inl (sR (σ.2.2.2.1.2) 7)))], dw_X3c (fun k => a (k + 43)) (fun k => ac (k + 43)) (σ.2.2.2.2.2.2.1)]) h (nd_co rfl (nd_co rfl rfl)) (by decide)
  have e := de_wX12_X3s_13 (a := a) (ac := ac) (τ := ((pR nd_st0 0 (sR σ.2.2.2.1.2 7)), σ.2.2.2.2.2.2.1))
  exact e ▸ h2
set_option maxHeartbeats 40000000 in
set_option maxRecDepth 100000 in
theorem dy_wX12_X3s_13 {D : va_G} {U : State} {ac : Nat → ClassId} (h : va_K D vwCl (dk_X12 ac) U) : va_K D vwCl (dk_X3s (fun k => ac (if k < 1 then k + 15 else k - 1 + 43))) U := (va_K.app (h.sub [12] rfl) (h.sub [35, 36, 37, 38] rfl))
set_option maxHeartbeats 40000000 in
set_option maxRecDepth 100000 in
theorem dn_wX12_X3s_13 {A0 : Nat → Prop} {D : va_G} {H H1 : Heap} {a : Nat → Nat} {ac : Nat → ClassId} {σ : St × Rw × (St) × (St × (St)) × (St) × (St × (St × (St × (St)))) × (St) × (St) × (Nat → St) × (Nat → St) × (Nat → St × (St))} {τ : St × (St)} (hP : va_P D vwCl (dw_X12 a ac σ) H) (hD : va_D A0 (dw_X12 a ac σ)) (hA : ∀ q : Nat, H.size ≤ q → A0 q) (hk : ∀ q : Nat, q < H.size → ¬ va_A (dw_X3s (fun k => a (if k < 1 then k + 15 else k - 1 + 43)) (fun k => ac (if k < 1 then k + 15 else k - 1 + 43)) ((pR nd_st0 0 (sR σ.2.2.2.1.2 7)), σ.2.2.2.2.2.2.1)) H.size q → H1[q]? = H[q]?) (h1 : va_P D vwCl (dw_X3s (fun k => a (if k < 1 then k + 15 else k - 1 + 43)) (fun k => ac (if k < 1 then k + 15 else k - 1 + 43)) τ) H1) (h2 : va_D (va_A (dw_X3s (fun k => a (if k < 1 then k + 15 else k - 1 + 43)) (fun k => ac (if k < 1 then k + 15 else k - 1 + 43)) ((pR nd_st0 0 (sR σ.2.2.2.1.2 7)), σ.2.2.2.2.2.2.1)) H.size) (dw_X3s (fun k => a (if k < 1 then k + 15 else k - 1 + 43)) (fun k => ac (if k < 1 then k + 15 else k - 1 + 43)) τ)) : va_P D vwCl (dw_X12 a ac ((σ.1, (σ.2.1, (σ.2.2.1, ((σ.2.2.2.1.1, (pR σ.2.2.2.1.2 7 (sR τ.1 0))), σ.2.2.2.2)))).1, ((σ.1, (σ.2.1, (σ.2.2.1, ((σ.2.2.2.1.1, (pR σ.2.2.2.1.2 7 (sR τ.1 0))), σ.2.2.2.2)))).2.1, ((σ.1, (σ.2.1, (σ.2.2.1, ((σ.2.2.2.1.1, (pR σ.2.2.2.1.2 7 (sR τ.1 0))), σ.2.2.2.2)))).2.2.1, ((σ.1, (σ.2.1, (σ.2.2.1, ((σ.2.2.2.1.1, (pR σ.2.2.2.1.2 7 (sR τ.1 0))), σ.2.2.2.2)))).2.2.2.1, ((σ.1, (σ.2.1, (σ.2.2.1, ((σ.2.2.2.1.1, (pR σ.2.2.2.1.2 7 (sR τ.1 0))), σ.2.2.2.2)))).2.2.2.2.1, ((σ.1, (σ.2.1, (σ.2.2.1, ((σ.2.2.2.1.1, (pR σ.2.2.2.1.2 7 (sR τ.1 0))), σ.2.2.2.2)))).2.2.2.2.2.1, (τ.2, (σ.1, (σ.2.1, (σ.2.2.1, ((σ.2.2.2.1.1, (pR σ.2.2.2.1.2 7 (sR τ.1 0))), σ.2.2.2.2)))).2.2.2.2.2.2.2)))))))) H1 ∧ va_D A0 (dw_X12 a ac ((σ.1, (σ.2.1, (σ.2.2.1, ((σ.2.2.2.1.1, (pR σ.2.2.2.1.2 7 (sR τ.1 0))), σ.2.2.2.2)))).1, ((σ.1, (σ.2.1, (σ.2.2.1, ((σ.2.2.2.1.1, (pR σ.2.2.2.1.2 7 (sR τ.1 0))), σ.2.2.2.2)))).2.1, ((σ.1, (σ.2.1, (σ.2.2.1, ((σ.2.2.2.1.1, (pR σ.2.2.2.1.2 7 (sR τ.1 0))), σ.2.2.2.2)))).2.2.1, ((σ.1, (σ.2.1, (σ.2.2.1, ((σ.2.2.2.1.1, (pR σ.2.2.2.1.2 7 (sR τ.1 0))), σ.2.2.2.2)))).2.2.2.1, ((σ.1, (σ.2.1, (σ.2.2.1, ((σ.2.2.2.1.1, (pR σ.2.2.2.1.2 7 (sR τ.1 0))), σ.2.2.2.2)))).2.2.2.2.1, ((σ.1, (σ.2.1, (σ.2.2.1, ((σ.2.2.2.1.1, (pR σ.2.2.2.1.2 7 (sR τ.1 0))), σ.2.2.2.2)))).2.2.2.2.2.1, (τ.2, (σ.1, (σ.2.1, (σ.2.2.1, ((σ.2.2.2.1.1, (pR σ.2.2.2.1.2 7 (sR τ.1 0))), σ.2.2.2.2)))).2.2.2.2.2.2.2)))))))) := by
  have eo := de_wX12_X3s_13 (a := a) (ac := ac) (τ := ((pR nd_st0 0 (sR σ.2.2.2.1.2 7)), σ.2.2.2.2.2.2.1))
  have en := de_wX12_X3s_13 (a := a) (ac := ac) (τ := τ)
  have h := nd_vn (segs := dg_X12 a ac σ) (ix := [6, 12]) (old := [[(a 15, .inl (ac 15, 32768, .inl (sR (σ.2.2.2.1.2) 7)))], dw_X3c (fun k => a (k + 43)) (fun k => ac (k + 43)) (σ.2.2.2.2.2.2.1)]) (new := [[(a 15, .inl (ac 15, 32768, .inl (sR (pR nd_st0 7 (sR τ.1 0)) 7)))], dw_X3c (fun k => a (k + 43)) (fun k => ac (k + 43)) (τ.2)]) hP hD (nd_co rfl (nd_co rfl rfl)) rfl (fun q z y => hk q z (fun w => y (eo ▸ w))) (en ▸ h1)
  have ee : nd_sets (dg_X12 a ac σ) [6, 12] [[(a 15, .inl (ac 15, 32768, .inl (sR (pR nd_st0 7 (sR τ.1 0)) 7)))], dw_X3c (fun k => a (k + 43)) (fun k => ac (k + 43)) (τ.2)] = dg_X12 a ac ((σ.1, (σ.2.1, (σ.2.2.1, ((σ.2.2.2.1.1, (pR σ.2.2.2.1.2 7 (sR τ.1 0))), σ.2.2.2.2)))).1, ((σ.1, (σ.2.1, (σ.2.2.1, ((σ.2.2.2.1.1, (pR σ.2.2.2.1.2 7 (sR τ.1 0))), σ.2.2.2.2)))).2.1, ((σ.1, (σ.2.1, (σ.2.2.1, ((σ.2.2.2.1.1, (pR σ.2.2.2.1.2 7 (sR τ.1 0))), σ.2.2.2.2)))).2.2.1, ((σ.1, (σ.2.1, (σ.2.2.1, ((σ.2.2.2.1.1, (pR σ.2.2.2.1.2 7 (sR τ.1 0))), σ.2.2.2.2)))).2.2.2.1, ((σ.1, (σ.2.1, (σ.2.2.1, ((σ.2.2.2.1.1, (pR σ.2.2.2.1.2 7 (sR τ.1 0))), σ.2.2.2.2)))).2.2.2.2.1, ((σ.1, (σ.2.1, (σ.2.2.1, ((σ.2.2.2.1.1, (pR σ.2.2.2.1.2 7 (sR τ.1 0))), σ.2.2.2.2)))).2.2.2.2.2.1, (τ.2, (σ.1, (σ.2.1, (σ.2.2.1, ((σ.2.2.2.1.1, (pR σ.2.2.2.1.2 7 (sR τ.1 0))), σ.2.2.2.2)))).2.2.2.2.2.2.2))))))) := rfl
  have hz : va_P D vwCl (dg_X12 a ac ((σ.1, (σ.2.1, (σ.2.2.1, ((σ.2.2.2.1.1, (pR σ.2.2.2.1.2 7 (sR τ.1 0))), σ.2.2.2.2)))).1, ((σ.1, (σ.2.1, (σ.2.2.1, ((σ.2.2.2.1.1, (pR σ.2.2.2.1.2 7 (sR τ.1 0))), σ.2.2.2.2)))).2.1, ((σ.1, (σ.2.1, (σ.2.2.1, ((σ.2.2.2.1.1, (pR σ.2.2.2.1.2 7 (sR τ.1 0))), σ.2.2.2.2)))).2.2.1, ((σ.1, (σ.2.1, (σ.2.2.1, ((σ.2.2.2.1.1, (pR σ.2.2.2.1.2 7 (sR τ.1 0))), σ.2.2.2.2)))).2.2.2.1, ((σ.1, (σ.2.1, (σ.2.2.1, ((σ.2.2.2.1.1, (pR σ.2.2.2.1.2 7 (sR τ.1 0))), σ.2.2.2.2)))).2.2.2.2.1, ((σ.1, (σ.2.1, (σ.2.2.1, ((σ.2.2.2.1.1, (pR σ.2.2.2.1.2 7 (sR τ.1 0))), σ.2.2.2.2)))).2.2.2.2.2.1, (τ.2, (σ.1, (σ.2.1, (σ.2.2.1, ((σ.2.2.2.1.1, (pR σ.2.2.2.1.2 7 (sR τ.1 0))), σ.2.2.2.2)))).2.2.2.2.2.2.2)))))))).flatten H1 := by rw [← ee]; exact h
  exact ⟨hz, nd_Da hD dA_X12⟩
set_option maxHeartbeats 40000000 in
set_option maxRecDepth 100000 in
theorem de_wX12_X3s_14 {a : Nat → Nat} {ac : Nat → ClassId} {τ : St × (St)} : ([[(a 15, .inl (ac 15, 32768, .inl (sR (pR nd_st0 7 (sR τ.1 0)) 7)))], dw_X3c (fun k => a (k + 48)) (fun k => ac (k + 48)) (τ.2)] : List va_W).flatten = dw_X3s (fun k => a (if k < 1 then k + 15 else k - 1 + 48)) (fun k => ac (if k < 1 then k + 15 else k - 1 + 48)) τ := by
  first
  | (simp only [List.flatten_cons, List.flatten_nil, List.append_nil]; done)
  | (simp only [List.flatten_cons, List.flatten_nil, List.append_nil]; rfl)
set_option maxHeartbeats 40000000 in
set_option maxRecDepth 100000 in
theorem dp_wX12_X3s_14 {D : va_G} {H : Heap} {a : Nat → Nat} {ac : Nat → ClassId} {σ : St × Rw × (St) × (St × (St)) × (St) × (St × (St × (St × (St)))) × (St) × (St) × (Nat → St) × (Nat → St) × (Nat → St × (St))} (h : va_P D vwCl (dw_X12 a ac σ) H) : va_P D vwCl (dw_X3s (fun k => a (if k < 1 then k + 15 else k - 1 + 48)) (fun k => ac (if k < 1 then k + 15 else k - 1 + 48)) ((pR nd_st0 0 (sR σ.2.2.2.1.2 7)), σ.2.2.2.2.2.2.2.1)) H := by
  have h2 := nd_vp (segs := dg_X12 a ac σ) (ix := [6, 13]) (old := [[(a 15, .inl (ac 15, 32768, .inl (sR (σ.2.2.2.1.2) 7)))], dw_X3c (fun k => a (k + 48)) (fun k => ac (k + 48)) (σ.2.2.2.2.2.2.2.1)]) h (nd_co rfl (nd_co rfl rfl))
  have e := de_wX12_X3s_14 (a := a) (ac := ac) (τ := ((pR nd_st0 0 (sR σ.2.2.2.1.2 7)), σ.2.2.2.2.2.2.2.1))
  exact e ▸ h2
set_option maxHeartbeats 40000000 in
set_option maxRecDepth 100000 in
theorem dd_wX12_X3s_14 {A : Nat → Prop} {a : Nat → Nat} {ac : Nat → ClassId} {σ : St × Rw × (St) × (St × (St)) × (St) × (St × (St × (St × (St)))) × (St) × (St) × (Nat → St) × (Nat → St) × (Nat → St × (St))} (h : va_D A (dw_X12 a ac σ)) : va_D A (dw_X3s (fun k => a (if k < 1 then k + 15 else k - 1 + 48)) (fun k => ac (if k < 1 then k + 15 else k - 1 + 48)) ((pR nd_st0 0 (sR σ.2.2.2.1.2 7)), σ.2.2.2.2.2.2.2.1)) := by
  have h2 := nd_vd (segs := dg_X12 a ac σ) (ix := [6, 13]) (old := [[(a 15, .inl (ac 15, 32768, .inl (sR (σ.2.2.2.1.2) 7)))], dw_X3c (fun k => a (k + 48)) (fun k => ac (k + 48)) (σ.2.2.2.2.2.2.2.1)]) h (nd_co rfl (nd_co rfl rfl)) (by decide)
  have e := de_wX12_X3s_14 (a := a) (ac := ac) (τ := ((pR nd_st0 0 (sR σ.2.2.2.1.2 7)), σ.2.2.2.2.2.2.2.1))
  exact e ▸ h2
set_option maxHeartbeats 40000000 in
set_option maxRecDepth 100000 in
theorem dy_wX12_X3s_14 {D : va_G} {U : State} {ac : Nat → ClassId} (h : va_K D vwCl (dk_X12 ac) U) : va_K D vwCl (dk_X3s (fun k => ac (if k < 1 then k + 15 else k - 1 + 48))) U := (va_K.app (h.sub [12] rfl) (h.sub [39, 40, 41, 42] rfl))
set_option maxHeartbeats 40000000 in
set_option maxRecDepth 100000 in
theorem dn_wX12_X3s_14 {A0 : Nat → Prop} {D : va_G} {H H1 : Heap} {a : Nat → Nat} {ac : Nat → ClassId} {σ : St × Rw × (St) × (St × (St)) × (St) × (St × (St × (St × (St)))) × (St) × (St) × (Nat → St) × (Nat → St) × (Nat → St × (St))} {τ : St × (St)} (hP : va_P D vwCl (dw_X12 a ac σ) H) (hD : va_D A0 (dw_X12 a ac σ)) (hA : ∀ q : Nat, H.size ≤ q → A0 q) (hk : ∀ q : Nat, q < H.size → ¬ va_A (dw_X3s (fun k => a (if k < 1 then k + 15 else k - 1 + 48)) (fun k => ac (if k < 1 then k + 15 else k - 1 + 48)) ((pR nd_st0 0 (sR σ.2.2.2.1.2 7)), σ.2.2.2.2.2.2.2.1)) H.size q → H1[q]? = H[q]?) (h1 : va_P D vwCl (dw_X3s (fun k => a (if k < 1 then k + 15 else k - 1 + 48)) (fun k => ac (if k < 1 then k + 15 else k - 1 + 48)) τ) H1) (h2 : va_D (va_A (dw_X3s (fun k => a (if k < 1 then k + 15 else k - 1 + 48)) (fun k => ac (if k < 1 then k + 15 else k - 1 + 48)) ((pR nd_st0 0 (sR σ.2.2.2.1.2 7)), σ.2.2.2.2.2.2.2.1)) H.size) (dw_X3s (fun k => a (if k < 1 then k + 15 else k - 1 + 48)) (fun k => ac (if k < 1 then k + 15 else k - 1 + 48)) τ)) : va_P D vwCl (dw_X12 a ac ((σ.1, (σ.2.1, (σ.2.2.1, ((σ.2.2.2.1.1, (pR σ.2.2.2.1.2 7 (sR τ.1 0))), σ.2.2.2.2)))).1, ((σ.1, (σ.2.1, (σ.2.2.1, ((σ.2.2.2.1.1, (pR σ.2.2.2.1.2 7 (sR τ.1 0))), σ.2.2.2.2)))).2.1, ((σ.1, (σ.2.1, (σ.2.2.1, ((σ.2.2.2.1.1, (pR σ.2.2.2.1.2 7 (sR τ.1 0))), σ.2.2.2.2)))).2.2.1, ((σ.1, (σ.2.1, (σ.2.2.1, ((σ.2.2.2.1.1, (pR σ.2.2.2.1.2 7 (sR τ.1 0))), σ.2.2.2.2)))).2.2.2.1, ((σ.1, (σ.2.1, (σ.2.2.1, ((σ.2.2.2.1.1, (pR σ.2.2.2.1.2 7 (sR τ.1 0))), σ.2.2.2.2)))).2.2.2.2.1, ((σ.1, (σ.2.1, (σ.2.2.1, ((σ.2.2.2.1.1, (pR σ.2.2.2.1.2 7 (sR τ.1 0))), σ.2.2.2.2)))).2.2.2.2.2.1, ((σ.1, (σ.2.1, (σ.2.2.1, ((σ.2.2.2.1.1, (pR σ.2.2.2.1.2 7 (sR τ.1 0))), σ.2.2.2.2)))).2.2.2.2.2.2.1, (τ.2, (σ.1, (σ.2.1, (σ.2.2.1, ((σ.2.2.2.1.1, (pR σ.2.2.2.1.2 7 (sR τ.1 0))), σ.2.2.2.2)))).2.2.2.2.2.2.2.2))))))))) H1 ∧ va_D A0 (dw_X12 a ac ((σ.1, (σ.2.1, (σ.2.2.1, ((σ.2.2.2.1.1, (pR σ.2.2.2.1.2 7 (sR τ.1 0))), σ.2.2.2.2)))).1, ((σ.1, (σ.2.1, (σ.2.2.1, ((σ.2.2.2.1.1, (pR σ.2.2.2.1.2 7 (sR τ.1 0))), σ.2.2.2.2)))).2.1, ((σ.1, (σ.2.1, (σ.2.2.1, ((σ.2.2.2.1.1, (pR σ.2.2.2.1.2 7 (sR τ.1 0))), σ.2.2.2.2)))).2.2.1, ((σ.1, (σ.2.1, (σ.2.2.1, ((σ.2.2.2.1.1, (pR σ.2.2.2.1.2 7 (sR τ.1 0))), σ.2.2.2.2)))).2.2.2.1, ((σ.1, (σ.2.1, (σ.2.2.1, ((σ.2.2.2.1.1, (pR σ.2.2.2.1.2 7 (sR τ.1 0))), σ.2.2.2.2)))).2.2.2.2.1, ((σ.1, (σ.2.1, (σ.2.2.1, ((σ.2.2.2.1.1, (pR σ.2.2.2.1.2 7 (sR τ.1 0))), σ.2.2.2.2)))).2.2.2.2.2.1, ((σ.1, (σ.2.1, (σ.2.2.1, ((σ.2.2.2.1.1, (pR σ.2.2.2.1.2 7 (sR τ.1 0))), σ.2.2.2.2)))).2.2.2.2.2.2.1, (τ.2, (σ.1, (σ.2.1, (σ.2.2.1, ((σ.2.2.2.1.1, (pR σ.2.2.2.1.2 7 (sR τ.1 0))), σ.2.2.2.2)))).2.2.2.2.2.2.2.2))))))))) := by
  have eo := de_wX12_X3s_14 (a := a) (ac := ac) (τ := ((pR nd_st0 0 (sR σ.2.2.2.1.2 7)), σ.2.2.2.2.2.2.2.1))
  have en := de_wX12_X3s_14 (a := a) (ac := ac) (τ := τ)
  have h := nd_vn (segs := dg_X12 a ac σ) (ix := [6, 13]) (old := [[(a 15, .inl (ac 15, 32768, .inl (sR (σ.2.2.2.1.2) 7)))], dw_X3c (fun k => a (k + 48)) (fun k => ac (k + 48)) (σ.2.2.2.2.2.2.2.1)]) (new := [[(a 15, .inl (ac 15, 32768, .inl (sR (pR nd_st0 7 (sR τ.1 0)) 7)))], dw_X3c (fun k => a (k + 48)) (fun k => ac (k + 48)) (τ.2)]) hP hD (nd_co rfl (nd_co rfl rfl)) rfl (fun q z y => hk q z (fun w => y (eo ▸ w))) (en ▸ h1)
  have ee : nd_sets (dg_X12 a ac σ) [6, 13] [[(a 15, .inl (ac 15, 32768, .inl (sR (pR nd_st0 7 (sR τ.1 0)) 7)))], dw_X3c (fun k => a (k + 48)) (fun k => ac (k + 48)) (τ.2)] = dg_X12 a ac ((σ.1, (σ.2.1, (σ.2.2.1, ((σ.2.2.2.1.1, (pR σ.2.2.2.1.2 7 (sR τ.1 0))), σ.2.2.2.2)))).1, ((σ.1, (σ.2.1, (σ.2.2.1, ((σ.2.2.2.1.1, (pR σ.2.2.2.1.2 7 (sR τ.1 0))), σ.2.2.2.2)))).2.1, ((σ.1, (σ.2.1, (σ.2.2.1, ((σ.2.2.2.1.1, (pR σ.2.2.2.1.2 7 (sR τ.1 0))), σ.2.2.2.2)))).2.2.1, ((σ.1, (σ.2.1, (σ.2.2.1, ((σ.2.2.2.1.1, (pR σ.2.2.2.1.2 7 (sR τ.1 0))), σ.2.2.2.2)))).2.2.2.1, ((σ.1, (σ.2.1, (σ.2.2.1, ((σ.2.2.2.1.1, (pR σ.2.2.2.1.2 7 (sR τ.1 0))), σ.2.2.2.2)))).2.2.2.2.1, ((σ.1, (σ.2.1, (σ.2.2.1, ((σ.2.2.2.1.1, (pR σ.2.2.2.1.2 7 (sR τ.1 0))), σ.2.2.2.2)))).2.2.2.2.2.1, ((σ.1, (σ.2.1, (σ.2.2.1, ((σ.2.2.2.1.1, (pR σ.2.2.2.1.2 7 (sR τ.1 0))), σ.2.2.2.2)))).2.2.2.2.2.2.1, (τ.2, (σ.1, (σ.2.1, (σ.2.2.1, ((σ.2.2.2.1.1, (pR σ.2.2.2.1.2 7 (sR τ.1 0))), σ.2.2.2.2)))).2.2.2.2.2.2.2.2)))))))) := rfl
  have hz : va_P D vwCl (dg_X12 a ac ((σ.1, (σ.2.1, (σ.2.2.1, ((σ.2.2.2.1.1, (pR σ.2.2.2.1.2 7 (sR τ.1 0))), σ.2.2.2.2)))).1, ((σ.1, (σ.2.1, (σ.2.2.1, ((σ.2.2.2.1.1, (pR σ.2.2.2.1.2 7 (sR τ.1 0))), σ.2.2.2.2)))).2.1, ((σ.1, (σ.2.1, (σ.2.2.1, ((σ.2.2.2.1.1, (pR σ.2.2.2.1.2 7 (sR τ.1 0))), σ.2.2.2.2)))).2.2.1, ((σ.1, (σ.2.1, (σ.2.2.1, ((σ.2.2.2.1.1, (pR σ.2.2.2.1.2 7 (sR τ.1 0))), σ.2.2.2.2)))).2.2.2.1, ((σ.1, (σ.2.1, (σ.2.2.1, ((σ.2.2.2.1.1, (pR σ.2.2.2.1.2 7 (sR τ.1 0))), σ.2.2.2.2)))).2.2.2.2.1, ((σ.1, (σ.2.1, (σ.2.2.1, ((σ.2.2.2.1.1, (pR σ.2.2.2.1.2 7 (sR τ.1 0))), σ.2.2.2.2)))).2.2.2.2.2.1, ((σ.1, (σ.2.1, (σ.2.2.1, ((σ.2.2.2.1.1, (pR σ.2.2.2.1.2 7 (sR τ.1 0))), σ.2.2.2.2)))).2.2.2.2.2.2.1, (τ.2, (σ.1, (σ.2.1, (σ.2.2.1, ((σ.2.2.2.1.1, (pR σ.2.2.2.1.2 7 (sR τ.1 0))), σ.2.2.2.2)))).2.2.2.2.2.2.2.2))))))))).flatten H1 := by rw [← ee]; exact h
  exact ⟨hz, nd_Da hD dA_X12⟩
def ow_dm_X12_replay : List Cond := Cond.code yX12_replay cX12_replay 3 (some .int) :: ([Cond.classLink RX12 70 "java/lang/IllegalArgumentException", Cond.initialized "java/lang/IllegalArgumentException", Cond.fieldLink RX12 16 "TimeMachine" "programs" "[LTimeMachine$Program;", Cond.classLink RX12 118 "java/lang/IllegalStateException", Cond.initialized "java/lang/IllegalStateException", Cond.fieldLink RX12 33 "TimeMachine" "timeline" "LTimeMachine$Timeline;", Cond.fieldLink RX12 125 "TimeMachine$Timeline" "spareEvents" "LTimeMachine$Events;", Cond.fieldLink RX12 10 "TimeMachine" "tape" "[B", Cond.methodLink RX12 77 yX12_useTape, Cond.instanceMethod yX12_useTape, Cond.selects RX12 yX12_useTape yX12_useTape, Cond.initialized RX12, Cond.methodLink RX12 129 yX3_readLog, Cond.instanceMethod yX3_readLog, Cond.selects RX3 yX3_readLog yX3_readLog, Cond.initialized RX3, Cond.methodLink RX12 135 yX11_startWith, Cond.instanceMethod yX11_startWith, Cond.selects RX11 yX11_startWith yX11_startWith, Cond.initialized RX11] ++ (u_ws RX12 TX12 12 ++ (u_ws RX11 TX11 16 ++ (ow_dm_X12_useTape ++ (ow_dm_X3_readLog ++ (ow_dm_X11_startWith ++ ((vx_at0 RX12 72 "java/lang/IllegalArgumentException" ["java/lang/RuntimeException", "java/lang/Exception"]).filter goodWord ++ ((vx_at0 RX12 120 "java/lang/IllegalStateException" ["java/lang/RuntimeException", "java/lang/Exception"]).filter goodWord ++ []))))))))
theorem gd_dm_X12_replay : ∀ w ∈ ow_dm_X12_replay, (w.onTables && w.keeps) = true ∨ ∃ ty, w = Cond.arrayClass ty := List.forall_mem_cons.mpr ⟨good_of_word rfl, List.forall_mem_append.mpr ⟨fun w h => good_of_word (List.all_eq_true.mp (by decide +kernel) w h), List.forall_mem_append.mpr ⟨gu_X12, List.forall_mem_append.mpr ⟨gu_X11, List.forall_mem_append.mpr ⟨gd_dm_X12_useTape, List.forall_mem_append.mpr ⟨gd_dm_X3_readLog, List.forall_mem_append.mpr ⟨gd_dm_X11_startWith, List.forall_mem_append.mpr ⟨fun w h => good_of_word (List.mem_filter.mp h).2, List.forall_mem_append.mpr ⟨fun w h => good_of_word (List.mem_filter.mp h).2, fun _ h => nomatch h⟩⟩⟩⟩⟩⟩⟩⟩⟩
theorem hi_dm_X12_replay_X12 : ∀ w ∈ u_ws RX12 TX12 12, w ∈ ow_dm_X12_replay := fun w h => List.mem_cons_of_mem _ (List.mem_append_right _ (List.mem_append_left _ h))
theorem hi_dm_X12_replay_X11 : ∀ w ∈ u_ws RX11 TX11 16, w ∈ ow_dm_X12_replay := fun w h => List.mem_cons_of_mem _ (List.mem_append_right _ (List.mem_append_right _ (List.mem_append_left _ h)))
theorem gi_dm_X12_replay_0 : GoodIn ow_dm_X12_replay (wsV RX12 77 RX12 yX12_useTape ow_dm_X12_useTape) := goodIn_app (goodIn_of _ (by decide +kernel)) (fun w h => ⟨List.mem_cons_of_mem _ (List.mem_append_right _ (List.mem_append_right _ (List.mem_append_right _ (List.mem_append_left _ h)))), gd_dm_X12_useTape w h⟩)
theorem gi_dm_X12_replay_1 : GoodIn ow_dm_X12_replay (wsV RX12 129 RX3 yX3_readLog ow_dm_X3_readLog) := goodIn_app (goodIn_of _ (by decide +kernel)) (fun w h => ⟨List.mem_cons_of_mem _ (List.mem_append_right _ (List.mem_append_right _ (List.mem_append_right _ (List.mem_append_right _ (List.mem_append_left _ h))))), gd_dm_X3_readLog w h⟩)
theorem gi_dm_X12_replay_2 : GoodIn ow_dm_X12_replay (wsV RX12 135 RX11 yX11_startWith ow_dm_X11_startWith) := goodIn_app (goodIn_of _ (by decide +kernel)) (fun w h => ⟨List.mem_cons_of_mem _ (List.mem_append_right _ (List.mem_append_right _ (List.mem_append_right _ (List.mem_append_right _ (List.mem_append_right _ (List.mem_append_left _ h)))))), gd_dm_X11_startWith w h⟩)
def dj_X12_replay_9 (p : Program) (l : Launch) (e : Env) (s : State) (m : MethodId) (args : Array Value) (below : List Frame) (meth : Method) (c : Code) (Q : State → Prop) (A : Nat → Prop) (dC : Nat → ClassId) (dI : Nat → Nat → Nat) (a : Nat → Nat) (ac : Nat → ClassId) (g : (St × Rw × (St) × (St × (St)) × (St) × (St × (St × (St × (St)))) × (St) × (St) × (Nat → St) × (Nat → St) × (Nat → St × (St))) → Option ((Int32 × (St × Rw × (St) × (St × (St)) × (St) × (St × (St × (St × (St)))) × (St) × (St) × (Nat → St) × (Nat → St) × (Nat → St × (St)))) ⊕ (String × (St × Rw × (St) × (St × (St)) × (St) × (St × (St × (St × (St)))) × (St) × (St) × (Nat → St) × (Nat → St) × (Nat → St × (St)))))) (r : (Int32 × (St × Rw × (St) × (St × (St)) × (St) × (St × (St × (St × (St)))) × (St) × (St) × (Nat → St) × (Nat → St) × (Nat → St × (St)))) ⊕ (String × (St × Rw × (St) × (St × (St)) × (St) × (St × (St × (St × (St)))) × (St) × (St) × (Nat → St) × (Nat → St) × (Nat → St × (St))))) : Prop := ∀ (s0 : St × Rw × (St) × (St × (St)) × (St) × (St × (St × (St × (St)))) × (St) × (St) × (Nat → St) × (Nat → St) × (Nat → St × (St))) (H : Heap) (locs : List Loc) (ls : Array Slot), g s0 = some r → va_P (dC, dI) vwCl (dw_X12 a ac s0) H → va_D A (dw_X12 a ac s0) → va_S A s.heap H locs → lv_has ls 3 [] → W p l e (headSpec ow_dm_X12_replay ({ frames := 6, cells := 1, slots := 6, locals := 152 })).room s m args below meth c H locs 0 0 Q (F0 m 9 ls [])
def dj_X12_replay_69 (p : Program) (l : Launch) (e : Env) (s : State) (m : MethodId) (args : Array Value) (below : List Frame) (meth : Method) (c : Code) (Q : State → Prop) (A : Nat → Prop) (dC : Nat → ClassId) (dI : Nat → Nat → Nat) (a : Nat → Nat) (ac : Nat → ClassId) (g : Int32 → (St × Rw × (St) × (St × (St)) × (St) × (St × (St × (St × (St)))) × (St) × (St) × (Nat → St) × (Nat → St) × (Nat → St × (St))) → Option ((Int32 × (St × Rw × (St) × (St × (St)) × (St) × (St × (St × (St × (St)))) × (St) × (St) × (Nat → St) × (Nat → St) × (Nat → St × (St)))) ⊕ (String × (St × Rw × (St) × (St × (St)) × (St) × (St × (St × (St × (St)))) × (St) × (St) × (Nat → St) × (Nat → St) × (Nat → St × (St)))))) (r : (Int32 × (St × Rw × (St) × (St × (St)) × (St) × (St × (St × (St × (St)))) × (St) × (St) × (Nat → St) × (Nat → St) × (Nat → St × (St)))) ⊕ (String × (St × Rw × (St) × (St × (St)) × (St) × (St × (St × (St × (St)))) × (St) × (St) × (Nat → St) × (Nat → St) × (Nat → St × (St))))) : Prop := ∀ (x2 : Int32) (s0 : St × Rw × (St) × (St × (St)) × (St) × (St × (St × (St × (St)))) × (St) × (St) × (Nat → St) × (Nat → St) × (Nat → St × (St))) (H : Heap) (locs : List Loc) (ls : Array Slot), g x2 s0 = some r → va_P (dC, dI) vwCl (dw_X12 a ac s0) H → va_D A (dw_X12 a ac s0) → va_S A s.heap H locs → lv_has ls 3 [(2, .int x2)] → W p l e (headSpec ow_dm_X12_replay ({ frames := 6, cells := 1, slots := 6, locals := 152 })).room s m args below meth c H locs 0 0 Q (F0 m 69 ls [])
def dj_X12_replay_0 (p : Program) (l : Launch) (e : Env) (s : State) (m : MethodId) (args : Array Value) (below : List Frame) (meth : Method) (c : Code) (Q : State → Prop) (A : Nat → Prop) (dC : Nat → ClassId) (dI : Nat → Nat → Nat) (a : Nat → Nat) (ac : Nat → ClassId) (g : Int32 → (St × Rw × (St) × (St × (St)) × (St) × (St × (St × (St × (St)))) × (St) × (St) × (Nat → St) × (Nat → St) × (Nat → St × (St))) → Option ((Int32 × (St × Rw × (St) × (St × (St)) × (St) × (St × (St × (St × (St)))) × (St) × (St) × (Nat → St) × (Nat → St) × (Nat → St × (St)))) ⊕ (String × (St × Rw × (St) × (St × (St)) × (St) × (St × (St × (St × (St)))) × (St) × (St) × (Nat → St) × (Nat → St) × (Nat → St × (St)))))) (r : (Int32 × (St × Rw × (St) × (St × (St)) × (St) × (St × (St × (St × (St)))) × (St) × (St) × (Nat → St) × (Nat → St) × (Nat → St × (St)))) ⊕ (String × (St × Rw × (St) × (St × (St)) × (St) × (St × (St × (St × (St)))) × (St) × (St) × (Nat → St) × (Nat → St) × (Nat → St × (St))))) : Prop := ∀ (v0 : Int32) (s0 : St × Rw × (St) × (St × (St)) × (St) × (St × (St × (St × (St)))) × (St) × (St) × (Nat → St) × (Nat → St) × (Nat → St × (St))) (H : Heap) (locs : List Loc) (ls : Array Slot), g v0 s0 = some r → va_P (dC, dI) vwCl (dw_X12 a ac s0) H → va_D A (dw_X12 a ac s0) → va_S A s.heap H locs → lv_has ls 3 [(0, .ref (a 0)), (1, .int v0)] → W p l e (headSpec ow_dm_X12_replay ({ frames := 6, cells := 1, slots := 6, locals := 152 })).room s m args below meth c H locs 0 0 Q (F0 m 0 ls [])
set_option maxHeartbeats 40000000 in
set_option maxRecDepth 100000 in
theorem db_X12_replay_9 {p : Program} {l : Launch} {e : Env} {s : State} {m : MethodId} {args : Array Value} {below : List Frame} {meth : Method} {c : Code} {Qc : Array Value → State → Outcome → State → Prop} {A : Nat → Prop} {dC : Nat → ClassId} {dI : Nat → Nat → Nat} {a : Nat → Nat} {ac : Nat → ClassId} {n : Nat} {r : (Int32 × (St × Rw × (St) × (St × (St)) × (St) × (St × (St × (St × (St)))) × (St) × (St) × (Nat → St) × (Nat → St) × (Nat → St × (St)))) ⊕ (String × (St × Rw × (St) × (St × (St)) × (St) × (St × (St × (St × (St)))) × (St) × (St) × (Nat → St) × (Nat → St) × (Nat → St × (St))))} (C : nd_C p l s m args c A (dC, dI) cX12_replay 3 RX12 ow_dm_X12_replay (dk_X12 ac)) (CX : nv_Dc s ∧ (∀ x ∈ c.exceptionTable.toList, False) ∧ meth.locks = false) (K : nd_Ti p l e (headSpec ow_dm_X12_replay ({ frames := 6, cells := 1, slots := 6, locals := 152 })).room s m args below meth c (vx_MQ below Qc (nd_XC (dC, dI) (St × Rw × (St) × (St × (St)) × (St) × (St × (St × (St × (St)))) × (St) × (St) × (Nat → St) × (Nat → St) × (Nat → St × (St))) (dw_X12 a ac) A r) args s 1 6 A) A (dC, dI) cX12_replay .int (St × Rw × (St) × (St × (St)) × (St) × (St × (St × (St × (St)))) × (St) × (St) × (Nat → St) × (Nat → St) × (Nat → St × (St))) (dw_X12 a ac) r) : dj_X12_replay_9 p l e s m args below meth c (vx_MQ below Qc (nd_XC (dC, dI) (St × Rw × (St) × (St × (St)) × (St) × (St × (St × (St × (St)))) × (St) × (St) × (Nat → St) × (Nat → St) × (Nat → St × (St))) (dw_X12 a ac) A r) args s 1 6 A) A dC dI a ac (df_X12_replay_9 n (a 15) (a 3)) r := by
  obtain ⟨hDe, htb, hlocks⟩ := id CX
  obtain ⟨hlt, hx, hb, hml, hown, hts, hN, hA, hK⟩ := id C
  intro s0 H locs ls h hP hD hS hl
  unfold df_X12_replay_9 at h
  exact vx_throw0 (own := RX12) (cls := "java/lang/IllegalArgumentException") (names := ["java/lang/RuntimeException", "java/lang/Exception"]) (ik := 70) (ic := 72) (A := A) hx hb hlt hown (by decide +kernel) (by decide +kernel) (hts (.classLink RX12 70 "java/lang/IllegalArgumentException") (List.mem_of_getElem? (i := 1) rfl)) (hts (.initialized "java/lang/IllegalArgumentException") (List.mem_of_getElem? (i := 2) rfl)) (vx_hat (B := [.castable "java/lang/IllegalArgumentException" "java/lang/IllegalArgumentException", .declares ⟨"java/lang/RuntimeException", "<init>", "()V"⟩, .declares ⟨"java/lang/Exception", "<init>", "()V"⟩, .declares ⟨"java/lang/Throwable", "<init>", "()V"⟩]) (fun w h => hts w (List.mem_cons_of_mem _ (List.mem_append_right _ (List.mem_append_right _ (List.mem_append_right _ (List.mem_append_right _ (List.mem_append_right _ (List.mem_append_right _ (List.mem_append_left _ h))))))))) (by decide +kernel) (vx_c (va_Nw.use rfl hN.2.2.2.2.2.2.2.1) (vx_c (va_Nw.use rfl (hDe _ (by decide +kernel))) (vx_c (va_Nw.use rfl (hDe _ (by decide +kernel))) (vx_c (va_Nw.use rfl (hDe _ (by decide +kernel))) vx_n))))) (by decide +kernel) hN.2.2.2.2.2.1 hN.2.2.2.2.2.2.1 hS (by rw [hml]; exact hl.1) dX12_replay_9 dX12_replay_12 dX12_replay_13 dX12_replay_16 (fun x9 h9 => (htb x9 h9).elim) (Nat.le_of_ble_eq_true rfl) (Nat.le_of_ble_eq_true rfl) (by decide +kernel) (by decide +kernel) hlocks (fun t hvm hz hk => ⟨s0, trivial, ⟨(Option.some.inj h).symm, hP.kept (fun k q hq => hk q.1 (hP k q hq).lt), hD⟩, Nat.le_trans hS.1 hz, fun q h1 h2 => (hk q (Nat.lt_of_lt_of_le h1 hS.1)).trans (hS.2.1 q h1 h2)⟩) hS.2.2 (by decide +kernel) (by decide +kernel)
set_option maxHeartbeats 40000000 in
set_option maxRecDepth 100000 in
theorem db_X12_replay_69 {p : Program} {l : Launch} {e : Env} {s : State} {m : MethodId} {args : Array Value} {below : List Frame} {meth : Method} {c : Code} {Qc : Array Value → State → Outcome → State → Prop} {A : Nat → Prop} {dC : Nat → ClassId} {dI : Nat → Nat → Nat} {a : Nat → Nat} {ac : Nat → ClassId} {n : Nat} {r : (Int32 × (St × Rw × (St) × (St × (St)) × (St) × (St × (St × (St × (St)))) × (St) × (St) × (Nat → St) × (Nat → St) × (Nat → St × (St)))) ⊕ (String × (St × Rw × (St) × (St × (St)) × (St) × (St × (St × (St × (St)))) × (St) × (St) × (Nat → St) × (Nat → St) × (Nat → St × (St))))} (C : nd_C p l s m args c A (dC, dI) cX12_replay 3 RX12 ow_dm_X12_replay (dk_X12 ac)) (CX : nv_Dc s ∧ (∀ x ∈ c.exceptionTable.toList, False) ∧ meth.locks = false) (K : nd_Ti p l e (headSpec ow_dm_X12_replay ({ frames := 6, cells := 1, slots := 6, locals := 152 })).room s m args below meth c (vx_MQ below Qc (nd_XC (dC, dI) (St × Rw × (St) × (St × (St)) × (St) × (St × (St × (St × (St)))) × (St) × (St) × (Nat → St) × (Nat → St) × (Nat → St × (St))) (dw_X12 a ac) A r) args s 1 6 A) A (dC, dI) cX12_replay .int (St × Rw × (St) × (St × (St)) × (St) × (St × (St × (St × (St)))) × (St) × (St) × (Nat → St) × (Nat → St) × (Nat → St × (St))) (dw_X12 a ac) r) : dj_X12_replay_69 p l e s m args below meth c (vx_MQ below Qc (nd_XC (dC, dI) (St × Rw × (St) × (St × (St)) × (St) × (St × (St × (St × (St)))) × (St) × (St) × (Nat → St) × (Nat → St) × (Nat → St × (St))) (dw_X12 a ac) A r) args s 1 6 A) A dC dI a ac (df_X12_replay_69 n (a 15) (a 3)) r := by
  obtain ⟨hDe, htb, hlocks⟩ := id CX
  obtain ⟨hlt, hx, hb, hml, hown, hts, hN, hA, hK⟩ := id C
  intro x2 s0 H locs ls h hP hD hS hl
  unfold df_X12_replay_69 at h
  refine lv_iload_n hx hb dX12_replay_69 rfl (lv_at hl 0 rfl) ?_
  exact K _ _ _ _ _ _ dX12_replay_70 rfl (Option.some.inj h).symm hP hD hS
set_option maxHeartbeats 40000000 in
set_option maxRecDepth 100000 in
theorem db_X12_replay_0 {p : Program} {l : Launch} {e : Env} {s : State} {m : MethodId} {args : Array Value} {below : List Frame} {meth : Method} {c : Code} {Qc : Array Value → State → Outcome → State → Prop} {A : Nat → Prop} {dC : Nat → ClassId} {dI : Nat → Nat → Nat} {a : Nat → Nat} {ac : Nat → ClassId} {n : Nat} {r : (Int32 × (St × Rw × (St) × (St × (St)) × (St) × (St × (St × (St × (St)))) × (St) × (St) × (Nat → St) × (Nat → St) × (Nat → St × (St)))) ⊕ (String × (St × Rw × (St) × (St × (St)) × (St) × (St × (St × (St × (St)))) × (St) × (St) × (Nat → St) × (Nat → St) × (Nat → St × (St))))} (C : nd_C p l s m args c A (dC, dI) cX12_replay 3 RX12 ow_dm_X12_replay (dk_X12 ac)) (CX : nv_Dc s ∧ (∀ x ∈ c.exceptionTable.toList, False) ∧ meth.locks = false) (K : nd_Ti p l e (headSpec ow_dm_X12_replay ({ frames := 6, cells := 1, slots := 6, locals := 152 })).room s m args below meth c (vx_MQ below Qc (nd_XC (dC, dI) (St × Rw × (St) × (St × (St)) × (St) × (St × (St × (St × (St)))) × (St) × (St) × (Nat → St) × (Nat → St) × (Nat → St × (St))) (dw_X12 a ac) A r) args s 1 6 A) A (dC, dI) cX12_replay .int (St × Rw × (St) × (St × (St)) × (St) × (St × (St × (St × (St)))) × (St) × (St) × (Nat → St) × (Nat → St) × (Nat → St × (St))) (dw_X12 a ac) r) : dj_X12_replay_0 p l e s m args below meth c (vx_MQ below Qc (nd_XC (dC, dI) (St × Rw × (St) × (St × (St)) × (St) × (St × (St × (St × (St)))) × (St) × (St) × (Nat → St) × (Nat → St) × (Nat → St × (St))) (dw_X12 a ac) A r) args s 1 6 A) A dC dI a ac (df_X12_replay_0 n (a 15) (a 3)) r := by
  obtain ⟨hDe, htb, hlocks⟩ := id CX
  obtain ⟨hlt, hx, hb, hml, hown, hts, hN, hA, hK⟩ := id C
  intro v0 s0 H locs ls h hP hD hS hl
  unfold df_X12_replay_0 at h
  refine lv_iload_n hx hb dX12_replay_0 rfl (lv_at hl 1 rfl) ?_
  refine lv_if_lt (tgt := 9) hx hb dX12_replay_1 (by decide) (fun c1 => ?_) (fun c1 => ?_)
  · have h := nd_pos h c1
    exact (db_X12_replay_9 C CX K)  s0 _ _ _ h hP hD hS (lv_sub hl [] rfl)
  · have h := nd_neg h c1
    refine lv_iload_n hx hb dX12_replay_4 rfl (lv_at hl 1 rfl) ?_
    refine lv_iconst (v := 4) hx hb dX12_replay_5 (by decide) ?_
    refine lv_icmp_lt (tgt := 17) hx hb dX12_replay_6 (by decide) (fun c2 => ?_) (fun c2 => ?_)
    · have h := nd_pos h c2
      refine lv_aload_n hx hb dX12_replay_17 rfl (lv_at hl 0 rfl) ?_
      refine va_get (D := (dC, dI)) (ci := 13) (v := .ref (a 54)) (C := RX12) (T := TX12) (N := 12) hx hb hts hi_dm_X12_replay_X12 hown hK hP 0 rfl rfl 3 (by decide) (hts (.fieldLink RX12 16 "TimeMachine" "programs" "[LTimeMachine$Program;") (List.mem_of_getElem? (i := 3) rfl)) (fun _ h9 => h9) rfl dX12_replay_18 ?_
      refine lv_iload_n hx hb dX12_replay_21 rfl (lv_at hl 1 rfl) ?_
      obtain ⟨i3, h⟩ := nd_ck_e h
      refine va_aldq (i := v0) hx hb hK hP 54 44 rfl rfl i3 dX12_replay_22 ?_
      cases hrj4 : s0.2.1 1 (Int32.toNatClampNeg v0) with
      | none =>
        have h := nd_mN h hrj4
        refine W.eq (g2 := F0 m 23 ls [.null]) (by first | rfl | (show F0 m _ ls (va_rf (Option.map (fun j => a (0 + j * 5 + 57)) (s0.2.1 1 (Int32.toNatClampNeg v0))) :: _) = _; rw [hrj4]; rfl)) ?_
        refine lv_ifnonnullN hx hb dX12_replay_23 ?_
        exact vx_throw0 (own := RX12) (cls := "java/lang/IllegalStateException") (names := ["java/lang/RuntimeException", "java/lang/Exception"]) (ik := 118) (ic := 120) (A := A) hx hb hlt hown (by decide +kernel) (by decide +kernel) (hts (.classLink RX12 118 "java/lang/IllegalStateException") (List.mem_of_getElem? (i := 4) rfl)) (hts (.initialized "java/lang/IllegalStateException") (List.mem_of_getElem? (i := 5) rfl)) (vx_hat (B := [.castable "java/lang/IllegalStateException" "java/lang/IllegalStateException", .declares ⟨"java/lang/RuntimeException", "<init>", "()V"⟩, .declares ⟨"java/lang/Exception", "<init>", "()V"⟩, .declares ⟨"java/lang/Throwable", "<init>", "()V"⟩]) (fun w h => hts w (List.mem_cons_of_mem _ (List.mem_append_right _ (List.mem_append_right _ (List.mem_append_right _ (List.mem_append_right _ (List.mem_append_right _ (List.mem_append_right _ (List.mem_append_right _ (List.mem_append_left _ h)))))))))) (by decide +kernel) (vx_c (va_Nw.use rfl hN.2.2.2.2.2.2.2.2.1) (vx_c (va_Nw.use rfl (hDe _ (by decide +kernel))) (vx_c (va_Nw.use rfl (hDe _ (by decide +kernel))) (vx_c (va_Nw.use rfl (hDe _ (by decide +kernel))) vx_n))))) (by decide +kernel) hN.2.2.2.2.2.1 hN.2.2.2.2.2.2.1 hS (by rw [hml]; exact hl.1) dX12_replay_26 dX12_replay_29 dX12_replay_30 dX12_replay_33 (fun x9 h9 => (htb x9 h9).elim) (Nat.le_of_ble_eq_true rfl) (Nat.le_of_ble_eq_true rfl) (by decide +kernel) (by decide +kernel) hlocks (fun t hvm hz hk => ⟨s0, trivial, ⟨(Option.some.inj h).symm, hP.kept (fun k q hq => hk q.1 (hP k q hq).lt), hD⟩, Nat.le_trans hS.1 hz, fun q h1 h2 => (hk q (Nat.lt_of_lt_of_le h1 hS.1)).trans (hS.2.1 q h1 h2)⟩) hS.2.2 (by decide +kernel) (by decide +kernel)
      | some j4 =>
        have h := nd_mS h hrj4
        refine W.eq (g2 := F0 m 23 ls [.ref (a (0 + j4 * 5 + 57))]) (by first | rfl | (show F0 m _ ls (va_rf (Option.map (fun j => a (0 + j * 5 + 57)) (s0.2.1 1 (Int32.toNatClampNeg v0))) :: _) = _; rw [hrj4]; rfl)) ?_
        refine lv_ifnonnull (tgt := 34) hx hb dX12_replay_23 (by decide) ?_
        refine lv_aload_n hx hb dX12_replay_34 rfl (lv_at hl 0 rfl) ?_
        refine va_get (D := (dC, dI)) (ci := 13) (v := .ref (a 16)) (C := RX12) (T := TX12) (N := 12) hx hb hts hi_dm_X12_replay_X12 hown hK hP 0 rfl rfl 6 (by decide) (hts (.fieldLink RX12 33 "TimeMachine" "timeline" "LTimeMachine$Timeline;") (List.mem_of_getElem? (i := 6) rfl)) (fun _ h9 => h9) rfl dX12_replay_35 ?_
        by_cases o5 : sO s0.2.2.2.2.1 1 = some 27
        · have h := nd_pos h o5
          refine va_get (D := (dC, dI)) (ci := 12) (v := .ref (a 43)) (C := RX11) (T := TX11) (N := 16) hx hb hts hi_dm_X12_replay_X11 hown hK hP 16 rfl rfl 2 (by decide) (hts (.fieldLink RX12 125 "TimeMachine$Timeline" "spareEvents" "LTimeMachine$Events;") (List.mem_of_getElem? (i := 7) rfl)) (fun _ h9 => h9) (congrArg (fun z => some (va_rf (Option.map (fun k => a (k + 16)) z))) o5) dX12_replay_38 ?_
          refine lv_aload_n hx hb dX12_replay_41 rfl (lv_at hl 0 rfl) ?_
          refine va_get (D := (dC, dI)) (ci := 13) (v := .ref (a 15)) (C := RX12) (T := TX12) (N := 12) hx hb hts hi_dm_X12_replay_X12 hown hK hP 0 rfl rfl 0 (by decide) (hts (.fieldLink RX12 10 "TimeMachine" "tape" "[B") (List.mem_of_getElem? (i := 8) rfl)) (fun _ h9 => h9) rfl dX12_replay_42 ?_
          refine lv_aload_n hx hb dX12_replay_45 rfl (lv_at hl 0 rfl) ?_
          obtain ⟨q6, s7, hq, h⟩ := nd_b2_e h
          have hPc := hP
          have hDc := hD
          have hKc := hK
          have hFc := nd_rs hD hS hA
          refine nd_cVi (As := []) (rest := [.ref (a 15), .ref (a 43)]) (q := q6) (w' := dw_X12 a ac s7) ⟨hx, hb, hml, hown, hts⟩ (fun sz => dm_X12_useTape l hlt dC dI a ac n  s0 hq sz) (cwV 0 hts gi_dm_X12_replay_0 rfl rfl rfl (by decide +kernel) ⟨Nat.le_of_ble_eq_true rfl, Nat.le_of_ble_eq_true rfl⟩) hPc hDc hKc hS hA hN (va_recv hKc hPc (ci := 13) (q0 := 0) rfl rfl) rfl hl.1 rfl (Nat.le_of_ble_eq_true rfl) dX12_replay_46 (fun H locs hP1 hD1 hk1 hS => ?_)
          have hP := hP1
          have hD := hD1.weaken (fun k q _ h => hFc q.1 h)
          obtain ⟨q9, s10, hq, h⟩ := nd_b2_e h
          have hPc := dp_wX12_X3s_13 hP
          have hDc := dd_wX12_X3s_13 hD
          have hKc := dy_wX12_X3s_13 hK
          have hFc := nd_rs hDc hS hA
          have hzA : ∀ q : Nat, H.size ≤ q → A q := fun q h => hA q (Nat.le_trans hS.1 h)
          refine nd_cVi (As := [.ref (a 15), .int q6]) (rest := []) (q := q9) (w' := dw_X3s (fun k => a (if k < 1 then k + 15 else k - 1 + 43)) (fun k => ac (if k < 1 then k + 15 else k - 1 + 43)) s10) ⟨hx, hb, hml, hown, hts⟩ (fun sz => dm_X3_readLog l hlt dC dI (fun k => a (if k < 1 then k + 15 else k - 1 + 43)) (fun k => ac (if k < 1 then k + 15 else k - 1 + 43)) n (q6) ((pR nd_st0 0 (sR s7.2.2.2.1.2 7)), s7.2.2.2.2.2.2.1) hq sz) (cwV 2 hts gi_dm_X12_replay_1 rfl rfl rfl (by decide +kernel) ⟨Nat.le_of_ble_eq_true rfl, Nat.le_of_ble_eq_true rfl⟩) hPc hDc hKc hS hA hN (va_recv hKc hPc (ci := 4) (q0 := 1) rfl rfl) rfl hl.1 rfl (Nat.le_of_ble_eq_true rfl) dX12_replay_49 (fun H locs hP1 hD1 hk1 hS => ?_)
          obtain ⟨hP, hD⟩ := dn_wX12_X3s_13 hP hD hzA hk1 hP1 hD1
          obtain ⟨s12, es12, h⟩ := nd_let_e h
          have hP : va_P (dC, dI) vwCl (dw_X12 a ac s12) H := by rw [es12]; exact hP
          have hD : va_D A (dw_X12 a ac s12) := by rw [es12]; exact hD
          refine lv_istore_n (lv' := [(2, .int q9), (0, .ref (a 0)), (1, .int v0)]) hx hb dX12_replay_52 rfl hl (by decide) rfl (fun ls hl => ?_)
          refine lv_iload_n hx hb dX12_replay_53 rfl (lv_at hl 0 rfl) ?_
          refine lv_if_lt (tgt := 69) hx hb dX12_replay_54 (by decide) (fun c13 => ?_) (fun c13 => ?_)
          · have h := nd_pos h c13
            exact (db_X12_replay_69 C CX K) (q9) s12 _ _ _ h hP hD hS (lv_sub hl [0] rfl)
          · have h := nd_neg h c13
            refine lv_aload_n hx hb dX12_replay_57 rfl (lv_at hl 1 rfl) ?_
            refine va_get (D := (dC, dI)) (ci := 13) (v := .ref (a 16)) (C := RX12) (T := TX12) (N := 12) hx hb hts hi_dm_X12_replay_X12 hown hK hP 0 rfl rfl 6 (by decide) (hts (.fieldLink RX12 33 "TimeMachine" "timeline" "LTimeMachine$Timeline;") (List.mem_of_getElem? (i := 6) rfl)) (fun _ h9 => h9) rfl dX12_replay_58 ?_
            refine lv_aload_n hx hb dX12_replay_61 rfl (lv_at hl 1 rfl) ?_
            refine va_get (D := (dC, dI)) (ci := 13) (v := .ref (a 54)) (C := RX12) (T := TX12) (N := 12) hx hb hts hi_dm_X12_replay_X12 hown hK hP 0 rfl rfl 3 (by decide) (hts (.fieldLink RX12 16 "TimeMachine" "programs" "[LTimeMachine$Program;") (List.mem_of_getElem? (i := 3) rfl)) (fun _ h9 => h9) rfl dX12_replay_62 ?_
            refine lv_iload_n hx hb dX12_replay_65 rfl (lv_at hl 2 rfl) ?_
            obtain ⟨s15, hq, h⟩ := nd_b1_e h
            have hPc := dp_wX12_X11_12 hP
            have hDc := dd_wX12_X11_12 hD
            have hKc := dy_wX12_X11_12 hK
            have hFc := nd_rs hDc hS hA
            have hzA : ∀ q : Nat, H.size ≤ q → A q := fun q h => hA q (Nat.le_trans hS.1 h)
            refine nd_cVv (As := [.ref (a 54), .int v0]) (rest := []) (w' := dw_X11 (fun k => a (k + 16)) (fun k => ac (k + 16)) s15) ⟨hx, hb, hml, hown, hts⟩ (fun sz => dm_X11_startWith l hlt dC dI (fun k => a (k + 16)) (fun k => ac (k + 16)) n (v0) (s12.2.2.2.2.1, s12.2.1, s12.2.2.2.2.2.1, s12.2.2.2.2.2.2.1, s12.2.2.2.2.2.2.2.1, s12.2.2.2.2.2.2.2.2.1, s12.2.2.2.2.2.2.2.2.2.1, s12.2.2.2.2.2.2.2.2.2.2) hq sz) (cwV 2 hts gi_dm_X12_replay_2 rfl rfl rfl (by decide +kernel) ⟨Nat.le_of_ble_eq_true rfl, Nat.le_of_ble_eq_true rfl⟩) hPc hDc hKc hS hA hN (va_recv hKc hPc (ci := 12) (q0 := 0) rfl rfl) rfl hl.1 rfl (Nat.le_of_ble_eq_true rfl) dX12_replay_66 (fun H locs hP1 hD1 hk1 hS => ?_)
            obtain ⟨hP, hD⟩ := dn_wX12_X11_12 hP hD hzA hk1 hP1 hD1
            obtain ⟨s17, es17, h⟩ := nd_let_e h
            have hP : va_P (dC, dI) vwCl (dw_X12 a ac s17) H := by rw [es17]; exact hP
            have hD : va_D A (dw_X12 a ac s17) := by rw [es17]; exact hD
            exact (db_X12_replay_69 C CX K) (q9) s17 _ _ _ h hP hD hS (lv_sub hl [0] rfl)
        have h := nd_neg h o5
        by_cases o18 : sO s0.2.2.2.2.1 1 = some 32
        · have h := nd_pos h o18
          refine va_get (D := (dC, dI)) (ci := 12) (v := .ref (a 48)) (C := RX11) (T := TX11) (N := 16) hx hb hts hi_dm_X12_replay_X11 hown hK hP 16 rfl rfl 2 (by decide) (hts (.fieldLink RX12 125 "TimeMachine$Timeline" "spareEvents" "LTimeMachine$Events;") (List.mem_of_getElem? (i := 7) rfl)) (fun _ h9 => h9) (congrArg (fun z => some (va_rf (Option.map (fun k => a (k + 16)) z))) o18) dX12_replay_38 ?_
          refine lv_aload_n hx hb dX12_replay_41 rfl (lv_at hl 0 rfl) ?_
          refine va_get (D := (dC, dI)) (ci := 13) (v := .ref (a 15)) (C := RX12) (T := TX12) (N := 12) hx hb hts hi_dm_X12_replay_X12 hown hK hP 0 rfl rfl 0 (by decide) (hts (.fieldLink RX12 10 "TimeMachine" "tape" "[B") (List.mem_of_getElem? (i := 8) rfl)) (fun _ h9 => h9) rfl dX12_replay_42 ?_
          refine lv_aload_n hx hb dX12_replay_45 rfl (lv_at hl 0 rfl) ?_
          obtain ⟨q19, s20, hq, h⟩ := nd_b2_e h
          have hPc := hP
          have hDc := hD
          have hKc := hK
          have hFc := nd_rs hD hS hA
          refine nd_cVi (As := []) (rest := [.ref (a 15), .ref (a 48)]) (q := q19) (w' := dw_X12 a ac s20) ⟨hx, hb, hml, hown, hts⟩ (fun sz => dm_X12_useTape l hlt dC dI a ac n  s0 hq sz) (cwV 0 hts gi_dm_X12_replay_0 rfl rfl rfl (by decide +kernel) ⟨Nat.le_of_ble_eq_true rfl, Nat.le_of_ble_eq_true rfl⟩) hPc hDc hKc hS hA hN (va_recv hKc hPc (ci := 13) (q0 := 0) rfl rfl) rfl hl.1 rfl (Nat.le_of_ble_eq_true rfl) dX12_replay_46 (fun H locs hP1 hD1 hk1 hS => ?_)
          have hP := hP1
          have hD := hD1.weaken (fun k q _ h => hFc q.1 h)
          obtain ⟨q22, s23, hq, h⟩ := nd_b2_e h
          have hPc := dp_wX12_X3s_14 hP
          have hDc := dd_wX12_X3s_14 hD
          have hKc := dy_wX12_X3s_14 hK
          have hFc := nd_rs hDc hS hA
          have hzA : ∀ q : Nat, H.size ≤ q → A q := fun q h => hA q (Nat.le_trans hS.1 h)
          refine nd_cVi (As := [.ref (a 15), .int q19]) (rest := []) (q := q22) (w' := dw_X3s (fun k => a (if k < 1 then k + 15 else k - 1 + 48)) (fun k => ac (if k < 1 then k + 15 else k - 1 + 48)) s23) ⟨hx, hb, hml, hown, hts⟩ (fun sz => dm_X3_readLog l hlt dC dI (fun k => a (if k < 1 then k + 15 else k - 1 + 48)) (fun k => ac (if k < 1 then k + 15 else k - 1 + 48)) n (q19) ((pR nd_st0 0 (sR s20.2.2.2.1.2 7)), s20.2.2.2.2.2.2.2.1) hq sz) (cwV 2 hts gi_dm_X12_replay_1 rfl rfl rfl (by decide +kernel) ⟨Nat.le_of_ble_eq_true rfl, Nat.le_of_ble_eq_true rfl⟩) hPc hDc hKc hS hA hN (va_recv hKc hPc (ci := 4) (q0 := 1) rfl rfl) rfl hl.1 rfl (Nat.le_of_ble_eq_true rfl) dX12_replay_49 (fun H locs hP1 hD1 hk1 hS => ?_)
          obtain ⟨hP, hD⟩ := dn_wX12_X3s_14 hP hD hzA hk1 hP1 hD1
          obtain ⟨s25, es25, h⟩ := nd_let_e h
          have hP : va_P (dC, dI) vwCl (dw_X12 a ac s25) H := by rw [es25]; exact hP
          have hD : va_D A (dw_X12 a ac s25) := by rw [es25]; exact hD
          refine lv_istore_n (lv' := [(2, .int q22), (0, .ref (a 0)), (1, .int v0)]) hx hb dX12_replay_52 rfl hl (by decide) rfl (fun ls hl => ?_)
          refine lv_iload_n hx hb dX12_replay_53 rfl (lv_at hl 0 rfl) ?_
          refine lv_if_lt (tgt := 69) hx hb dX12_replay_54 (by decide) (fun c26 => ?_) (fun c26 => ?_)
          · have h := nd_pos h c26
            exact (db_X12_replay_69 C CX K) (q22) s25 _ _ _ h hP hD hS (lv_sub hl [0] rfl)
          · have h := nd_neg h c26
            refine lv_aload_n hx hb dX12_replay_57 rfl (lv_at hl 1 rfl) ?_
            refine va_get (D := (dC, dI)) (ci := 13) (v := .ref (a 16)) (C := RX12) (T := TX12) (N := 12) hx hb hts hi_dm_X12_replay_X12 hown hK hP 0 rfl rfl 6 (by decide) (hts (.fieldLink RX12 33 "TimeMachine" "timeline" "LTimeMachine$Timeline;") (List.mem_of_getElem? (i := 6) rfl)) (fun _ h9 => h9) rfl dX12_replay_58 ?_
            refine lv_aload_n hx hb dX12_replay_61 rfl (lv_at hl 1 rfl) ?_
            refine va_get (D := (dC, dI)) (ci := 13) (v := .ref (a 54)) (C := RX12) (T := TX12) (N := 12) hx hb hts hi_dm_X12_replay_X12 hown hK hP 0 rfl rfl 3 (by decide) (hts (.fieldLink RX12 16 "TimeMachine" "programs" "[LTimeMachine$Program;") (List.mem_of_getElem? (i := 3) rfl)) (fun _ h9 => h9) rfl dX12_replay_62 ?_
            refine lv_iload_n hx hb dX12_replay_65 rfl (lv_at hl 2 rfl) ?_
            obtain ⟨s28, hq, h⟩ := nd_b1_e h
            have hPc := dp_wX12_X11_12 hP
            have hDc := dd_wX12_X11_12 hD
            have hKc := dy_wX12_X11_12 hK
            have hFc := nd_rs hDc hS hA
            have hzA : ∀ q : Nat, H.size ≤ q → A q := fun q h => hA q (Nat.le_trans hS.1 h)
            refine nd_cVv (As := [.ref (a 54), .int v0]) (rest := []) (w' := dw_X11 (fun k => a (k + 16)) (fun k => ac (k + 16)) s28) ⟨hx, hb, hml, hown, hts⟩ (fun sz => dm_X11_startWith l hlt dC dI (fun k => a (k + 16)) (fun k => ac (k + 16)) n (v0) (s25.2.2.2.2.1, s25.2.1, s25.2.2.2.2.2.1, s25.2.2.2.2.2.2.1, s25.2.2.2.2.2.2.2.1, s25.2.2.2.2.2.2.2.2.1, s25.2.2.2.2.2.2.2.2.2.1, s25.2.2.2.2.2.2.2.2.2.2) hq sz) (cwV 2 hts gi_dm_X12_replay_2 rfl rfl rfl (by decide +kernel) ⟨Nat.le_of_ble_eq_true rfl, Nat.le_of_ble_eq_true rfl⟩) hPc hDc hKc hS hA hN (va_recv hKc hPc (ci := 12) (q0 := 0) rfl rfl) rfl hl.1 rfl (Nat.le_of_ble_eq_true rfl) dX12_replay_66 (fun H locs hP1 hD1 hk1 hS => ?_)
            obtain ⟨hP, hD⟩ := dn_wX12_X11_12 hP hD hzA hk1 hP1 hD1
            obtain ⟨s30, es30, h⟩ := nd_let_e h
            have hP : va_P (dC, dI) vwCl (dw_X12 a ac s30) H := by rw [es30]; exact hP
            have hD : va_D A (dw_X12 a ac s30) := by rw [es30]; exact hD
            exact (db_X12_replay_69 C CX K) (q22) s30 _ _ _ h hP hD hS (lv_sub hl [0] rfl)
        have h := nd_neg h o18
        exact nomatch h
    · have h := nd_neg h c2
      exact (db_X12_replay_9 C CX K)  s0 _ _ _ h hP hD hS (lv_sub hl [] rfl)
set_option maxHeartbeats 40000000 in
set_option maxRecDepth 100000 in
theorem dm_X12_replay (l : Launch) (hlt : l.stackTraces = false) (dC : Nat → ClassId) (dI : Nat → Nat → Nat) (a : Nat → Nat) (ac : Nat → ClassId) (n : Nat) (v0 : Int32) (s0 : St × Rw × (St) × (St × (St)) × (St) × (St × (St × (St × (St)))) × (St) × (St) × (Nat → St) × (Nat → St) × (Nat → St × (St))) {r : (Int32 × (St × Rw × (St) × (St × (St)) × (St) × (St × (St × (St × (St)))) × (St) × (St) × (Nat → St) × (Nat → St) × (Nat → St × (St)))) ⊕ (String × (St × Rw × (St) × (St × (St)) × (St) × (St × (St × (St × (St)))) × (St) × (St) × (Nat → St) × (Nat → St) × (Nat → St × (St))))} (h : df_X12_replay n (a 15) (a 3) v0 s0 = some r) (sz : Nat) : vx_Met l yX12_replay ow_dm_X12_replay ({ frames := 6, cells := 1, slots := 6, locals := 152 }) (va_Pc [.ref (a 0), .int v0] (fun U => U.heap.size = sz ∧ va_P (dC, dI) vwCl (dw_X12 a ac s0) U.heap ∧ va_K (dC, dI) vwCl (dk_X12 ac) U ∧ va_D (fun _ => True) (dw_X12 a ac s0) ∧ nv_E dI (va_A (dw_X12 a ac s0) sz) U ∧ nv_Dc U)) (va_Qi (fun x u => r = Sum.inl (x, u)) (fun (u : St × Rw × (St) × (St × (St)) × (St) × (St × (St × (St × (St)))) × (St) × (St) × (Nat → St) × (Nat → St) × (Nat → St × (St))) t => va_P (dC, dI) vwCl (dw_X12 a ac u) t.heap ∧ va_K (dC, dI) vwCl (dk_X12 ac) t ∧ va_D (va_A (dw_X12 a ac s0) sz) (dw_X12 a ac u)) (va_A (dw_X12 a ac s0) sz)) (nd_XC (dC, dI) (St × Rw × (St) × (St × (St)) × (St) × (St × (St × (St × (St)))) × (St) × (St) × (Nat → St) × (Nat → St) × (Nat → St × (St))) (dw_X12 a ac) (va_A (dw_X12 a ac s0) sz) r) 1 6 (va_A (dw_X12 a ac s0) sz) := by
  refine vx_ofW (cc := cX12_replay) (maxL := 3) (ret := (some .int)) (by decide) rfl ?_
  intro p e s m args below meth c s₁ B hml htb hv
  obtain ⟨rfl, hsz, hP, hK, hD0, hN, hDe⟩ := hv
  have hx := B.exec
  have hb := B.bytes
  have hr := B.returns
  have hts := atoms_spec (ws := ow_dm_X12_replay) B.pre
  have hown : s.vm.findClass RX12 = some m.cls := findClass_of_methodNamed B.named
  have hlocks := B.notSynchronized
  subst hsz
  have hD := hD0.self (sz := s.heap.size)
  generalize hAe : va_A (dw_X12 a ac s0) s.heap.size = A at hD hN ⊢
  have hA : ∀ q : Nat, s.heap.size ≤ q → A q := fun q h => by rw [← hAe]; exact Or.inr h
  have hl := lv_entry ([.ref (a 0), .int v0]) (n := 3) (Nat.le_of_ble_eq_true rfl)
  rw [lg_entry_eq]
  generalize (lg_sl ([.ref (a 0), .int v0]) ++ List.replicate (3 - (lg_sl ([.ref (a 0), .int v0])).length) Slot.unset).toArray = ls at hl ⊢
  have hl : lv_has ls 3 [(0, .ref (a 0)), (1, .int v0)] := hl
  exact db_X12_replay_0 (dC := dC) (dI := dI) (a := a) (ac := ac) (n := n) (r := r) ⟨hlt, hx, hb, hml, hown, hts, hN, hA, hK⟩ ⟨hDe, htb, hlocks⟩ (fun pc v τ H locs ls d z er hP hD hS => by subst er; exact W.widen (k := 1) (n := 6) (by decide) (by decide) (vx_ret (W.zret (v := v) hx hb hr z (fun t ht hW => ⟨⟨v, τ, rfl, rfl, by rw [ht]; exact hP, va_K.moved hW.alike hK, hD⟩, hS.F ht⟩) hS.2.2 d))) v0 s0 _ _ _ h hP hD va_S.rf (lv_sub hl [0, 1] rfl)

