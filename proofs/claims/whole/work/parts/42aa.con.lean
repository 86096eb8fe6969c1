def ow_dm_X19_program : List Cond := .code yX19_program cX19_program 3 (some .int) :: ([.fieldLink RX19 113 "TimeMachineModel" "code" "I", .methodLink RX19 172 yX19_isProgram, .instanceMethod yX19_isProgram, .selects RX19 yX19_isProgram yX19_isProgram, .initialized RX19, .fieldLink RX19 27 "TimeMachineModel" "constants" "[I", .fieldLink RX19 35 "TimeMachineModel" "labels" "[[I", .fieldLink RX19 24 "TimeMachineModel" "ends" "[I", .fieldLink RX19 21 "TimeMachineModel" "data" "[I", .fieldLink RX19 18 "TimeMachineModel" "text" "[I"] ++ (u_ws RX19 TX19 36 ++ (ow_dm_X19_isProgram ++ [])))
theorem gd_dm_X19_program : ∀ w ∈ ow_dm_X19_program, (w.onTables && w.keeps) = true ∨ ∃ ty, w = Cond.arrayClass ty := List.forall_mem_cons.mpr ⟨good_of_word rfl, List.forall_mem_append.mpr ⟨fun w h => good_of_word (List.all_eq_true.mp (by decide +kernel) w h), List.forall_mem_append.mpr ⟨gu_X19, List.forall_mem_append.mpr ⟨gd_dm_X19_isProgram, fun _ h => nomatch h⟩⟩⟩⟩
theorem hi_dm_X19_program_X19 : ∀ w ∈ u_ws RX19 TX19 36, w ∈ ow_dm_X19_program := fun w h => List.mem_cons_of_mem _ (List.mem_append_right _ (List.mem_append_left _ h))
theorem gi_dm_X19_program_0 : GoodIn ow_dm_X19_program (wsV RX19 172 RX19 yX19_isProgram ow_dm_X19_isProgram) := goodIn_app (goodIn_of _ (by decide +kernel)) (fun w h => ⟨List.mem_cons_of_mem _ (List.mem_append_right _ (List.mem_append_right _ (List.mem_append_left _ h))), gd_dm_X19_isProgram w h⟩)
def dj_X19_program_86 (p : Program) (l : Launch) (e : Env) (s : State) (m : MethodId) (args : Array Value) (below : List Frame) (meth : Method) (c : Code) (Q : State → Prop) (A : Nat → Prop) (dC : Nat → ClassId) (dI : Nat → Nat → Nat) (a : Nat → Nat) (ac : Nat → ClassId) (g : Int32 → ((St × (St) × (St × (St × (St))) × (St) × (St)) × Lb) → Option (Int32 × ((St × (St) × (St × (St × (St))) × (St) × (St)) × Lb))) (r : Int32 × ((St × (St) × (St × (St × (St))) × (St) × (St)) × Lb)) : Prop := ∀ (y0 : Int32) (s0 : (St × (St) × (St × (St × (St))) × (St) × (St)) × Lb) (H : Heap) (locs : List Loc) (ls : Array Slot), g y0 s0 = some r → va_P (dC, dI) vwCl (dw_X19L a ac s0) H → va_D A (dw_X19L a ac s0) → va_S A s.heap H locs → lv_has ls 3 [] → W p l e (headSpec ow_dm_X19_program ({ frames := 2, cells := 0, slots := 0, locals := 46 })).room s m args below meth c H locs 0 0 Q (F0 m 86 ls [.int y0])
def dj_X19_program_0 (p : Program) (l : Launch) (e : Env) (s : State) (m : MethodId) (args : Array Value) (below : List Frame) (meth : Method) (c : Code) (Q : State → Prop) (A : Nat → Prop) (dC : Nat → ClassId) (dI : Nat → Nat → Nat) (a : Nat → Nat) (ac : Nat → ClassId) (g : Int32 → Int32 → ((St × (St) × (St × (St × (St))) × (St) × (St)) × Lb) → Option (Int32 × ((St × (St) × (St × (St × (St))) × (St) × (St)) × Lb))) (r : Int32 × ((St × (St) × (St × (St × (St))) × (St) × (St)) × Lb)) : Prop := ∀ (v0 : Int32) (v1 : Int32) (s0 : (St × (St) × (St × (St × (St))) × (St) × (St)) × Lb) (H : Heap) (locs : List Loc) (ls : Array Slot), g v0 v1 s0 = some r → va_P (dC, dI) vwCl (dw_X19L a ac s0) H → va_D A (dw_X19L a ac s0) → va_S A s.heap H locs → lv_has ls 3 [(0, .ref (a 0)), (1, .int v0), (2, .int v1)] → W p l e (headSpec ow_dm_X19_program ({ frames := 2, cells := 0, slots := 0, locals := 46 })).room s m args below meth c H locs 0 0 Q (F0 m 0 ls [])
set_option maxHeartbeats 40000000 in
set_option maxRecDepth 100000 in
theorem db_X19_program_86 {p : Program} {l : Launch} {e : Env} {s : State} {m : MethodId} {args : Array Value} {below : List Frame} {meth : Method} {c : Code} {Q : State → Prop} {A : Nat → Prop} {dC : Nat → ClassId} {dI : Nat → Nat → Nat} {a : Nat → Nat} {ac : Nat → ClassId} {n : Nat} {r : Int32 × ((St × (St) × (St × (St × (St))) × (St) × (St)) × Lb)} (C : nd_C p l s m args c A (dC, dI) cX19_program 3 RX19 ow_dm_X19_program (dk_X19L ac)) (K : nd_Ki p l e (headSpec ow_dm_X19_program ({ frames := 2, cells := 0, slots := 0, locals := 46 })).room s m args below meth c Q A (dC, dI) cX19_program .int ((St × (St) × (St × (St × (St))) × (St) × (St)) × Lb) (dw_X19L a ac) r) : dj_X19_program_86 p l e s m args below meth c Q A dC dI a ac (df_X19_program_86 n) r := by
  obtain ⟨hlt, hx, hb, hml, hown, hts, hN, hA, hK⟩ := id C
  intro y0 s0 H locs ls h hP hD hS hl
  unfold df_X19_program_86 at h
  exact K _ _ _ _ _ _ dX19_program_86 rfl (Option.some.inj h).symm hP hD hS
set_option maxHeartbeats 40000000 in
set_option maxRecDepth 100000 in
theorem db_X19_program_0 {p : Program} {l : Launch} {e : Env} {s : State} {m : MethodId} {args : Array Value} {below : List Frame} {meth : Method} {c : Code} {Q : State → Prop} {A : Nat → Prop} {dC : Nat → ClassId} {dI : Nat → Nat → Nat} {a : Nat → Nat} {ac : Nat → ClassId} {n : Nat} {r : Int32 × ((St × (St) × (St × (St × (St))) × (St) × (St)) × Lb)} (C : nd_C p l s m args c A (dC, dI) cX19_program 3 RX19 ow_dm_X19_program (dk_X19L ac)) (K : nd_Ki p l e (headSpec ow_dm_X19_program ({ frames := 2, cells := 0, slots := 0, locals := 46 })).room s m args below meth c Q A (dC, dI) cX19_program .int ((St × (St) × (St × (St × (St))) × (St) × (St)) × Lb) (dw_X19L a ac) r) : dj_X19_program_0 p l e s m args below meth c Q A dC dI a ac (df_X19_program_0 n) r := by
  obtain ⟨hlt, hx, hb, hml, hown, hts, hN, hA, hK⟩ := id C
  intro v0 v1 s0 H locs ls h hP hD hS hl
  unfold df_X19_program_0 at h
  refine lv_aload_n hx hb dX19_program_0 rfl (lv_at hl 0 rfl) ?_
  refine lv_iconst (v := 0) hx hb dX19_program_1 (by decide) ?_
  refine va_put (D := (dC, dI)) (ci := 20) (v := .int 0) (ty := .int) (C := RX19) (T := TX19) (N := 36) hx hb hts hi_dm_X19_program_X19 tyX19 tyX19_ok nmX19 hown hK hP hD hS 0 rfl rfl 0 (by decide) (hts (.fieldLink RX19 113 "TimeMachineModel" "code" "I") (List.mem_of_getElem? (i := 1) rfl)) (fun _ h9 => h9) rfl (by decide +kernel) rfl rfl (Nat.le_of_ble_eq_true rfl) dX19_program_2 (fun H locs hP hD hS => ?_)
  obtain ⟨s1, es1, h⟩ := nd_let_e h
  have hP : va_P (dC, dI) vwCl (dw_X19L a ac s1) H := by rw [es1]; exact hP
  have hD : va_D A (dw_X19L a ac s1) := by rw [es1]; exact hD
  refine lv_aload_n hx hb dX19_program_5 rfl (lv_at hl 0 rfl) ?_
  refine lv_iload_n hx hb dX19_program_6 rfl (lv_at hl 1 rfl) ?_
  obtain ⟨q2, s3, hq, h⟩ := nd_b2_e h
  have hPc := dp_X19L_0 hP
  have hDc := dd_X19L_0 hD
  have hKc := dy_X19L_0 hK
  have hFc := nd_rs hDc hS hA
  have hzA : ∀ q : Nat, H.size ≤ q → A q := fun q h => hA q (Nat.le_trans hS.1 h)
  refine nd_cVi (As := [.int v0]) (rest := []) (q := q2) (w' := dw_X19 (fun k => a (k + 0)) (fun k => ac (k + 0)) s3) ⟨hx, hb, hml, hown, hts⟩ (fun sz => dm_X19_isProgram l hlt dC dI (fun k => a (k + 0)) (fun k => ac (k + 0)) n (v0) s1.1 hq sz) (cwV 1 hts gi_dm_X19_program_0 rfl rfl rfl (by decide +kernel) ⟨Nat.le_of_ble_eq_true rfl, Nat.le_of_ble_eq_true rfl⟩) hPc hDc hKc hS hA hN (va_recv hKc hPc (ci := 20) (q0 := 0) rfl rfl) rfl hl.1 rfl (Nat.le_of_ble_eq_true rfl) dX19_program_7 (fun H locs hP1 hD1 hk1 hS => ?_)
  obtain ⟨hP, hD⟩ := dn_X19L_0 hP hD hzA hk1 hP1 hD1
  obtain ⟨s5, es5, h⟩ := nd_let_e h
  have hP : va_P (dC, dI) vwCl (dw_X19L a ac s5) H := by rw [es5]; exact hP
  have hD : va_D A (dw_X19L a ac s5) := by rw [es5]; exact hD
  refine lv_if_ne (tgt := 15) hx hb dX19_program_10 (by decide) (fun c6 => ?_) (fun c6 => ?_)
  · have h := nd_neg h c6
    refine lv_iload_n hx hb dX19_program_15 rfl (lv_at hl 2 rfl) ?_
    refine lv_if_ne (tgt := 28) hx hb dX19_program_16 (by decide) (fun c7 => ?_) (fun c7 => ?_)
    · have h := nd_neg h c7
      refine lv_iload_n hx hb dX19_program_28 rfl (lv_at hl 2 rfl) ?_
      refine lv_iconst (v := 1) hx hb dX19_program_29 (by decide) ?_
      refine lv_icmp_ne (tgt := 42) hx hb dX19_program_30 (by decide) (fun c8 => ?_) (fun c8 => ?_)
      · have h := nd_neg h c8
        refine lv_iload_n hx hb dX19_program_42 rfl (lv_at hl 2 rfl) ?_
        refine lv_iconst (v := 2) hx hb dX19_program_43 (by decide) ?_
        refine lv_icmp_ne (tgt := 56) hx hb dX19_program_44 (by decide) (fun c9 => ?_) (fun c9 => ?_)
        · have h := nd_neg h c9
          refine lv_iload_n hx hb dX19_program_56 rfl (lv_at hl 2 rfl) ?_
          refine lv_iconst (v := 3) hx hb dX19_program_57 (by decide) ?_
          refine lv_icmp_ne (tgt := 71) hx hb dX19_program_58 (by decide) (fun c10 => ?_) (fun c10 => ?_)
          · have h := nd_neg h c10
            refine lv_iload_n hx hb dX19_program_71 rfl (lv_at hl 2 rfl) ?_
            refine lv_iconst (v := 4) hx hb dX19_program_72 (by decide) ?_
            refine lv_icmp_ne (tgt := 85) hx hb dX19_program_73 (by decide) (fun c11 => ?_) (fun c11 => ?_)
            · have h := nd_neg h c11
              refine lv_iconst (v := (-1)) hx hb dX19_program_85 (by decide) ?_
              exact (db_X19_program_86 C K) ((-1)) s5 _ _ _ h hP hD hS (lv_sub hl [] rfl)
            · have h := nd_pos h c11
              refine lv_aload_n hx hb dX19_program_76 rfl (lv_at hl 0 rfl) ?_
              refine va_get (D := (dC, dI)) (ci := 20) (v := .ref (a 5)) (C := RX19) (T := TX19) (N := 36) hx hb hts hi_dm_X19_program_X19 hown hK hP 0 rfl rfl 8 (by decide) (hts (.fieldLink RX19 27 "TimeMachineModel" "constants" "[I") (List.mem_of_getElem? (i := 6) rfl)) (fun _ h9 => h9) rfl dX19_program_77 ?_
              refine lv_iload_n hx hb dX19_program_80 rfl (lv_at hl 1 rfl) ?_
              obtain ⟨i12, h⟩ := nd_ck_e h
              refine va_iald (i := v0) hx hb hK hP 5 4 rfl rfl i12 dX19_program_81 ?_
              refine lv_goto (tgt := 86) hx hb dX19_program_82 (by decide) ?_
              exact (db_X19_program_86 C K) ((sR s5.1.1 4 (Int32.toNatClampNeg v0))) s5 _ _ _ h hP hD hS (lv_sub hl [] rfl)
          · have h := nd_pos h c10
            refine lv_aload_n hx hb dX19_program_61 rfl (lv_at hl 0 rfl) ?_
            obtain ⟨o13, h⟩ := nd_o_e h
            refine va_get (D := (dC, dI)) (ci := 20) (v := .ref (a 96)) (C := RX19) (T := TX19) (N := 36) hx hb hts hi_dm_X19_program_X19 hown hK hP 0 rfl rfl 10 (by decide) (hts (.fieldLink RX19 35 "TimeMachineModel" "labels" "[[I") (List.mem_of_getElem? (i := 7) rfl)) (fun _ h9 => h9) (congrArg (fun z => some (va_rf (Option.map a z))) o13) dX19_program_62 ?_
            refine lv_iload_n hx hb dX19_program_65 rfl (lv_at hl 1 rfl) ?_
            obtain ⟨i14, h⟩ := nd_ck_e h
            obtain ⟨x15, hx15, h⟩ := nd_l_e h
            refine nv_aldg (i := v0) hx hb hK hP 96 89 rfl rfl i14 dX19_program_66 ?_
            refine W.eq (g2 := F0 m 67 ls [.ref x15.1]) (by show F0 m _ ls (va_rf (Option.map (fun x => x.1) (s5.2 (Int32.toNatClampNeg v0))) :: _) = _; rw [hx15]; rfl) ?_
            refine va_alen (v := Int32.ofNat x15.2.1) hx hb (hK.sub [1] rfl) (dlab hP hx15 (Nat.not_le.mp fun q9 => i14 (Or.inr q9))) 0 0 rfl rfl rfl dX19_program_67 ?_
            refine lv_goto (tgt := 86) hx hb dX19_program_68 (by decide) ?_
            exact (db_X19_program_86 C K) ((Int32.ofNat x15.2.1)) s5 _ _ _ h hP hD hS (lv_sub hl [] rfl)
        · have h := nd_pos h c9
          refine lv_aload_n hx hb dX19_program_47 rfl (lv_at hl 0 rfl) ?_
          refine va_get (D := (dC, dI)) (ci := 20) (v := .ref (a 4)) (C := RX19) (T := TX19) (N := 36) hx hb hts hi_dm_X19_program_X19 hown hK hP 0 rfl rfl 7 (by decide) (hts (.fieldLink RX19 24 "TimeMachineModel" "ends" "[I") (List.mem_of_getElem? (i := 8) rfl)) (fun _ h9 => h9) rfl dX19_program_48 ?_
          refine lv_iload_n hx hb dX19_program_51 rfl (lv_at hl 1 rfl) ?_
          obtain ⟨i16, h⟩ := nd_ck_e h
          refine va_iald (i := v0) hx hb hK hP 4 3 rfl rfl i16 dX19_program_52 ?_
          refine lv_goto (tgt := 86) hx hb dX19_program_53 (by decide) ?_
          exact (db_X19_program_86 C K) ((sR s5.1.1 3 (Int32.toNatClampNeg v0))) s5 _ _ _ h hP hD hS (lv_sub hl [] rfl)
      · have h := nd_pos h c8
        refine lv_aload_n hx hb dX19_program_33 rfl (lv_at hl 0 rfl) ?_
        refine va_get (D := (dC, dI)) (ci := 20) (v := .ref (a 3)) (C := RX19) (T := TX19) (N := 36) hx hb hts hi_dm_X19_program_X19 hown hK hP 0 rfl rfl 6 (by decide) (hts (.fieldLink RX19 21 "TimeMachineModel" "data" "[I") (List.mem_of_getElem? (i := 9) rfl)) (fun _ h9 => h9) rfl dX19_program_34 ?_
        refine lv_iload_n hx hb dX19_program_37 rfl (lv_at hl 1 rfl) ?_
        obtain ⟨i17, h⟩ := nd_ck_e h
        refine va_iald (i := v0) hx hb hK hP 3 2 rfl rfl i17 dX19_program_38 ?_
        refine lv_goto (tgt := 86) hx hb dX19_program_39 (by decide) ?_
        exact (db_X19_program_86 C K) ((sR s5.1.1 2 (Int32.toNatClampNeg v0))) s5 _ _ _ h hP hD hS (lv_sub hl [] rfl)
    · have h := nd_pos h c7
      refine lv_aload_n hx hb dX19_program_19 rfl (lv_at hl 0 rfl) ?_
      refine va_get (D := (dC, dI)) (ci := 20) (v := .ref (a 2)) (C := RX19) (T := TX19) (N := 36) hx hb hts hi_dm_X19_program_X19 hown hK hP 0 rfl rfl 5 (by decide) (hts (.fieldLink RX19 18 "TimeMachineModel" "text" "[I") (List.mem_of_getElem? (i := 10) rfl)) (fun _ h9 => h9) rfl dX19_program_20 ?_
      refine lv_iload_n hx hb dX19_program_23 rfl (lv_at hl 1 rfl) ?_
      obtain ⟨i18, h⟩ := nd_ck_e h
      refine va_iald (i := v0) hx hb hK hP 2 1 rfl rfl i18 dX19_program_24 ?_
      refine lv_goto (tgt := 86) hx hb dX19_program_25 (by decide) ?_
      exact (db_X19_program_86 C K) ((sR s5.1.1 1 (Int32.toNatClampNeg v0))) s5 _ _ _ h hP hD hS (lv_sub hl [] rfl)
  · have h := nd_pos h c6
    refine lv_iconst (v := (-1)) hx hb dX19_program_13 (by decide) ?_
    exact K _ _ _ _ _ _ dX19_program_14 rfl (Option.some.inj h).symm hP hD hS
set_option maxHeartbeats 40000000 in
set_option maxRecDepth 100000 in
theorem dm_X19_program (l : Launch) (hlt : l.stackTraces = false) (dC : Nat → ClassId) (dI : Nat → Nat → Nat) (a : Nat → Nat) (ac : Nat → ClassId) (n : Nat) (v0 : Int32) (v1 : Int32) (s0 : (St × (St) × (St × (St × (St))) × (St) × (St)) × Lb) {r : Int32 × ((St × (St) × (St × (St × (St))) × (St) × (St)) × Lb)} (h : df_X19_program n v0 v1 s0 = some r) (sz : Nat) : Met l yX19_program ow_dm_X19_program ({ frames := 2, cells := 0, slots := 0, locals := 46 }) (va_Pc [.ref (a 0), .int v0, .int v1] (fun U => U.heap.size = sz ∧ va_P (dC, dI) vwCl (dw_X19L a ac s0) U.heap ∧ va_K (dC, dI) vwCl (dk_X19L ac) U ∧ va_D (fun _ => True) (dw_X19L a ac s0) ∧ nv_E (va_A (dw_X19L a ac s0) sz) U)) (va_Qi (fun x _ => x = r.1) (fun (_ : Unit) t => va_P (dC, dI) vwCl (dw_X19L a ac r.2) t.heap ∧ va_K (dC, dI) vwCl (dk_X19L ac) t ∧ va_D (va_A (dw_X19L a ac s0) sz) (dw_X19L a ac r.2)) (va_A (dw_X19L a ac s0) sz)) 0 0 (va_A (dw_X19L a ac s0) sz) := by
  refine Met.ofW (cc := cX19_program) (maxL := 3) (ret := (some .int)) (by decide) rfl ?_
  intro p e s m args below meth c s₁ B hml hv
  obtain ⟨rfl, hsz, hP, hK, hD0, hN⟩ := hv
  have hx := B.exec
  have hb := B.bytes
  have hr := B.returns
  have hts := atoms_spec (ws := ow_dm_X19_program) B.pre
  have hown : s.vm.findClass RX19 = some m.cls := findClass_of_methodNamed B.named
  have hlocks := B.notSynchronized
  subst hsz
  have hD := hD0.self (sz := s.heap.size)
  generalize hAe : va_A (dw_X19L a ac s0) s.heap.size = A at hD hN ⊢
  have hA : ∀ q : Nat, s.heap.size ≤ q → A q := fun q h => by rw [← hAe]; exact Or.inr h
  have hl := lv_entry ([.ref (a 0), .int v0, .int v1]) (n := 3) (Nat.le_of_ble_eq_true rfl)
  rw [lg_entry_eq]
  generalize (lg_sl ([.ref (a 0), .int v0, .int v1]) ++ List.replicate (3 - (lg_sl ([.ref (a 0), .int v0, .int v1])).length) Slot.unset).toArray = ls at hl ⊢
  have hl : lv_has ls 3 [(0, .ref (a 0)), (1, .int v0), (2, .int v1)] := hl
  exact db_X19_program_0 (dC := dC) (dI := dI) (a := a) (ac := ac) (n := n) (r := r) ⟨hlt, hx, hb, hml, hown, hts, hN, hA, hK⟩ (fun pc v τ H locs ls d z er hP hD hS => by subst er; exact W.zret (v := v) hx hb hr z (fun t ht hW => ⟨⟨v, (), rfl, rfl, by rw [ht]; exact hP, va_K.moved hW.alike hK, hD⟩, hS.F ht⟩) hS.2.2 d) v0 v1 s0 _ _ _ h hP hD va_S.rf (lv_sub hl [0, 1, 2] rfl)
def ow_dm_X19_label : List Cond := .code yX19_label cX19_label 3 (some .int) :: ([.fieldLink RX19 113 "TimeMachineModel" "code" "I", .methodLink RX19 172 yX19_isProgram, .instanceMethod yX19_isProgram, .selects RX19 yX19_isProgram yX19_isProgram, .initialized RX19, .fieldLink RX19 35 "TimeMachineModel" "labels" "[[I"] ++ (u_ws RX19 TX19 36 ++ (ow_dm_X19_isProgram ++ [])))
theorem gd_dm_X19_label : ∀ w ∈ ow_dm_X19_label, (w.onTables && w.keeps) = true ∨ ∃ ty, w = Cond.arrayClass ty := List.forall_mem_cons.mpr ⟨good_of_word rfl, List.forall_mem_append.mpr ⟨fun w h => good_of_word (List.all_eq_true.mp (by decide +kernel) w h), List.forall_mem_append.mpr ⟨gu_X19, List.forall_mem_append.mpr ⟨gd_dm_X19_isProgram, fun _ h => nomatch h⟩⟩⟩⟩
theorem hi_dm_X19_label_X19 : ∀ w ∈ u_ws RX19 TX19 36, w ∈ ow_dm_X19_label := fun w h => List.mem_cons_of_mem _ (List.mem_append_right _ (List.mem_append_left _ h))
theorem gi_dm_X19_label_0 : GoodIn ow_dm_X19_label (wsV RX19 172 RX19 yX19_isProgram ow_dm_X19_isProgram) := goodIn_app (goodIn_of _ (by decide +kernel)) (fun w h => ⟨List.mem_cons_of_mem _ (List.mem_append_right _ (List.mem_append_right _ (List.mem_append_left _ h))), gd_dm_X19_isProgram w h⟩)
def dj_X19_label_40 (p : Program) (l : Launch) (e : Env) (s : State) (m : MethodId) (args : Array Value) (below : List Frame) (meth : Method) (c : Code) (Q : State → Prop) (A : Nat → Prop) (dC : Nat → ClassId) (dI : Nat → Nat → Nat) (a : Nat → Nat) (ac : Nat → ClassId) (g : Int32 → ((St × (St) × (St × (St × (St))) × (St) × (St)) × Lb) → Option (Int32 × ((St × (St) × (St × (St × (St))) × (St) × (St)) × Lb))) (r : Int32 × ((St × (St) × (St × (St × (St))) × (St) × (St)) × Lb)) : Prop := ∀ (y0 : Int32) (s0 : (St × (St) × (St × (St × (St))) × (St) × (St)) × Lb) (H : Heap) (locs : List Loc) (ls : Array Slot), g y0 s0 = some r → va_P (dC, dI) vwCl (dw_X19L a ac s0) H → va_D A (dw_X19L a ac s0) → va_S A s.heap H locs → lv_has ls 3 [] → W p l e (headSpec ow_dm_X19_label ({ frames := 2, cells := 0, slots := 0, locals := 46 })).room s m args below meth c H locs 0 0 Q (F0 m 40 ls [.int y0])
def dj_X19_label_39 (p : Program) (l : Launch) (e : Env) (s : State) (m : MethodId) (args : Array Value) (below : List Frame) (meth : Method) (c : Code) (Q : State → Prop) (A : Nat → Prop) (dC : Nat → ClassId) (dI : Nat → Nat → Nat) (a : Nat → Nat) (ac : Nat → ClassId) (g : ((St × (St) × (St × (St × (St))) × (St) × (St)) × Lb) → Option (Int32 × ((St × (St) × (St × (St × (St))) × (St) × (St)) × Lb))) (r : Int32 × ((St × (St) × (St × (St × (St))) × (St) × (St)) × Lb)) : Prop := ∀ (s0 : (St × (St) × (St × (St × (St))) × (St) × (St)) × Lb) (H : Heap) (locs : List Loc) (ls : Array Slot), g s0 = some r → va_P (dC, dI) vwCl (dw_X19L a ac s0) H → va_D A (dw_X19L a ac s0) → va_S A s.heap H locs → lv_has ls 3 [] → W p l e (headSpec ow_dm_X19_label ({ frames := 2, cells := 0, slots := 0, locals := 46 })).room s m args below meth c H locs 0 0 Q (F0 m 39 ls [])
def dj_X19_label_0 (p : Program) (l : Launch) (e : Env) (s : State) (m : MethodId) (args : Array Value) (below : List Frame) (meth : Method) (c : Code) (Q : State → Prop) (A : Nat → Prop) (dC : Nat → ClassId) (dI : Nat → Nat → Nat) (a : Nat → Nat) (ac : Nat → ClassId) (g : Int32 → Int32 → ((St × (St) × (St × (St × (St))) × (St) × (St)) × Lb) → Option (Int32 × ((St × (St) × (St × (St × (St))) × (St) × (St)) × Lb))) (r : Int32 × ((St × (St) × (St × (St × (St))) × (St) × (St)) × Lb)) : Prop := ∀ (v0 : Int32) (v1 : Int32) (s0 : (St × (St) × (St × (St × (St))) × (St) × (St)) × Lb) (H : Heap) (locs : List Loc) (ls : Array Slot), g v0 v1 s0 = some r → va_P (dC, dI) vwCl (dw_X19L a ac s0) H → va_D A (dw_X19L a ac s0) → va_S A s.heap H locs → lv_has ls 3 [(0, .ref (a 0)), (1, .int v0), (2, .int v1)] → W p l e (headSpec ow_dm_X19_label ({ frames := 2, cells := 0, slots := 0, locals := 46 })).room s m args below meth c H locs 0 0 Q (F0 m 0 ls [])
set_option maxHeartbeats 40000000 in
set_option maxRecDepth 100000 in
theorem db_X19_label_40 {p : Program} {l : Launch} {e : Env} {s : State} {m : MethodId} {args : Array Value} {below : List Frame} {meth : Method} {c : Code} {Q : State → Prop} {A : Nat → Prop} {dC : Nat → ClassId} {dI : Nat → Nat → Nat} {a : Nat → Nat} {ac : Nat → ClassId} {n : Nat} {r : Int32 × ((St × (St) × (St × (St × (St))) × (St) × (St)) × Lb)} (C : nd_C p l s m args c A (dC, dI) cX19_label 3 RX19 ow_dm_X19_label (dk_X19L ac)) (K : nd_Ki p l e (headSpec ow_dm_X19_label ({ frames := 2, cells := 0, slots := 0, locals := 46 })).room s m args below meth c Q A (dC, dI) cX19_label .int ((St × (St) × (St × (St × (St))) × (St) × (St)) × Lb) (dw_X19L a ac) r) : dj_X19_label_40 p l e s m args below meth c Q A dC dI a ac (df_X19_label_40 n) r := by
  obtain ⟨hlt, hx, hb, hml, hown, hts, hN, hA, hK⟩ := id C
  intro y0 s0 H locs ls h hP hD hS hl
  unfold df_X19_label_40 at h
  exact K _ _ _ _ _ _ dX19_label_40 rfl (Option.some.inj h).symm hP hD hS
set_option maxHeartbeats 40000000 in
set_option maxRecDepth 100000 in
theorem db_X19_label_39 {p : Program} {l : Launch} {e : Env} {s : State} {m : MethodId} {args : Array Value} {below : List Frame} {meth : Method} {c : Code} {Q : State → Prop} {A : Nat → Prop} {dC : Nat → ClassId} {dI : Nat → Nat → Nat} {a : Nat → Nat} {ac : Nat → ClassId} {n : Nat} {r : Int32 × ((St × (St) × (St × (St × (St))) × (St) × (St)) × Lb)} (C : nd_C p l s m args c A (dC, dI) cX19_label 3 RX19 ow_dm_X19_label (dk_X19L ac)) (K : nd_Ki p l e (headSpec ow_dm_X19_label ({ frames := 2, cells := 0, slots := 0, locals := 46 })).room s m args below meth c Q A (dC, dI) cX19_label .int ((St × (St) × (St × (St × (St))) × (St) × (St)) × Lb) (dw_X19L a ac) r) : dj_X19_label_39 p l e s m args below meth c Q A dC dI a ac (df_X19_label_39 n) r := by
  obtain ⟨hlt, hx, hb, hml, hown, hts, hN, hA, hK⟩ := id C
  intro s0 H locs ls h hP hD hS hl
  unfold df_X19_label_39 at h
  refine lv_iconst (v := (-1)) hx hb dX19_label_39 (by decide) ?_
  exact (db_X19_label_40 C K) ((-1)) s0 _ _ _ h hP hD hS (lv_sub hl [] rfl)
set_option maxHeartbeats 40000000 in
set_option maxRecDepth 100000 in
theorem db_X19_label_0 {p : Program} {l : Launch} {e : Env} {s : State} {m : MethodId} {args : Array Value} {below : List Frame} {meth : Method} {c : Code} {Q : State → Prop} {A : Nat → Prop} {dC : Nat → ClassId} {dI : Nat → Nat → Nat} {a : Nat → Nat} {ac : Nat → ClassId} {n : Nat} {r : Int32 × ((St × (St) × (St × (St × (St))) × (St) × (St)) × Lb)} (C : nd_C p l s m args c A (dC, dI) cX19_label 3 RX19 ow_dm_X19_label (dk_X19L ac)) (K : nd_Ki p l e (headSpec ow_dm_X19_label ({ frames := 2, cells := 0, slots := 0, locals := 46 })).room s m args below meth c Q A (dC, dI) cX19_label .int ((St × (St) × (St × (St × (St))) × (St) × (St)) × Lb) (dw_X19L a ac) r) : dj_X19_label_0 p l e s m args below meth c Q A dC dI a ac (df_X19_label_0 n) r := by
  obtain ⟨hlt, hx, hb, hml, hown, hts, hN, hA, hK⟩ := id C
  intro v0 v1 s0 H locs ls h hP hD hS hl
  unfold df_X19_label_0 at h
  refine lv_aload_n hx hb dX19_label_0 rfl (lv_at hl 0 rfl) ?_
  refine lv_iconst (v := 0) hx hb dX19_label_1 (by decide) ?_
  refine va_put (D := (dC, dI)) (ci := 20) (v := .int 0) (ty := .int) (C := RX19) (T := TX19) (N := 36) hx hb hts hi_dm_X19_label_X19 tyX19 tyX19_ok nmX19 hown hK hP hD hS 0 rfl rfl 0 (by decide) (hts (.fieldLink RX19 113 "TimeMachineModel" "code" "I") (List.mem_of_getElem? (i := 1) rfl)) (fun _ h9 => h9) rfl (by decide +kernel) rfl rfl (Nat.le_of_ble_eq_true rfl) dX19_label_2 (fun H locs hP hD hS => ?_)
  obtain ⟨s1, es1, h⟩ := nd_let_e h
  have hP : va_P (dC, dI) vwCl (dw_X19L a ac s1) H := by rw [es1]; exact hP
  have hD : va_D A (dw_X19L a ac s1) := by rw [es1]; exact hD
  refine lv_aload_n hx hb dX19_label_5 rfl (lv_at hl 0 rfl) ?_
  refine lv_iload_n hx hb dX19_label_6 rfl (lv_at hl 1 rfl) ?_
  obtain ⟨q2, s3, hq, h⟩ := nd_b2_e h
  have hPc := dp_X19L_0 hP
  have hDc := dd_X19L_0 hD
  have hKc := dy_X19L_0 hK
  have hFc := nd_rs hDc hS hA
  have hzA : ∀ q : Nat, H.size ≤ q → A q := fun q h => hA q (Nat.le_trans hS.1 h)
  refine nd_cVi (As := [.int v0]) (rest := []) (q := q2) (w' := dw_X19 (fun k => a (k + 0)) (fun k => ac (k + 0)) s3) ⟨hx, hb, hml, hown, hts⟩ (fun sz => dm_X19_isProgram l hlt dC dI (fun k => a (k + 0)) (fun k => ac (k + 0)) n (v0) s1.1 hq sz) (cwV 1 hts gi_dm_X19_label_0 rfl rfl rfl (by decide +kernel) ⟨Nat.le_of_ble_eq_true rfl, Nat.le_of_ble_eq_true rfl⟩) hPc hDc hKc hS hA hN (va_recv hKc hPc (ci := 20) (q0 := 0) rfl rfl) rfl hl.1 rfl (Nat.le_of_ble_eq_true rfl) dX19_label_7 (fun H locs hP1 hD1 hk1 hS => ?_)
  obtain ⟨hP, hD⟩ := dn_X19L_0 hP hD hzA hk1 hP1 hD1
  obtain ⟨s5, es5, h⟩ := nd_let_e h
  have hP : va_P (dC, dI) vwCl (dw_X19L a ac s5) H := by rw [es5]; exact hP
  have hD : va_D A (dw_X19L a ac s5) := by rw [es5]; exact hD
  refine lv_if_eq (tgt := 39) hx hb dX19_label_10 (by decide) (fun c6 => ?_) (fun c6 => ?_)
  · have h := nd_pos h c6
    exact (db_X19_label_39 C K)  s5 _ _ _ h hP hD hS (lv_sub hl [] rfl)
  · have h := nd_neg h c6
    refine lv_iload_n hx hb dX19_label_13 rfl (lv_at hl 2 rfl) ?_
    refine lv_if_lt (tgt := 39) hx hb dX19_label_14 (by decide) (fun c7 => ?_) (fun c7 => ?_)
    · have h := nd_pos h c7
      exact (db_X19_label_39 C K)  s5 _ _ _ h hP hD hS (lv_sub hl [] rfl)
    · have h := nd_neg h c7
      refine lv_iload_n hx hb dX19_label_17 rfl (lv_at hl 2 rfl) ?_
      refine lv_aload_n hx hb dX19_label_18 rfl (lv_at hl 0 rfl) ?_
      obtain ⟨o8, h⟩ := nd_o_e h
      refine va_get (D := (dC, dI)) (ci := 20) (v := .ref (a 96)) (C := RX19) (T := TX19) (N := 36) hx hb hts hi_dm_X19_label_X19 hown hK hP 0 rfl rfl 10 (by decide) (hts (.fieldLink RX19 35 "TimeMachineModel" "labels" "[[I") (List.mem_of_getElem? (i := 6) rfl)) (fun _ h9 => h9) (congrArg (fun z => some (va_rf (Option.map a z))) o8) dX19_label_19 ?_
      refine lv_iload_n hx hb dX19_label_22 rfl (lv_at hl 1 rfl) ?_
      obtain ⟨i9, h⟩ := nd_ck_e h
      obtain ⟨x10, hx10, h⟩ := nd_l_e h
      refine nv_aldg (i := v0) hx hb hK hP 96 89 rfl rfl i9 dX19_label_23 ?_
      refine W.eq (g2 := F0 m 24 ls [.ref x10.1, .int v1]) (by show F0 m _ ls (va_rf (Option.map (fun x => x.1) (s5.2 (Int32.toNatClampNeg v0))) :: _) = _; rw [hx10]; rfl) ?_
      refine va_alen (v := Int32.ofNat x10.2.1) hx hb (hK.sub [1] rfl) (dlab hP hx10 (Nat.not_le.mp fun q9 => i9 (Or.inr q9))) 0 0 rfl rfl rfl dX19_label_24 ?_
      refine lv_icmp_ge (tgt := 39) hx hb dX19_label_25 (by decide) (fun c11 => ?_) (fun c11 => ?_)
      · have h := nd_pos h c11
        exact (db_X19_label_39 C K)  s5 _ _ _ h hP hD hS (lv_sub hl [] rfl)
      · have h := nd_neg h c11
        refine lv_aload_n hx hb dX19_label_28 rfl (lv_at hl 0 rfl) ?_
        obtain ⟨o12, h⟩ := nd_o_e h
        refine va_get (D := (dC, dI)) (ci := 20) (v := .ref (a 96)) (C := RX19) (T := TX19) (N := 36) hx hb hts hi_dm_X19_label_X19 hown hK hP 0 rfl rfl 10 (by decide) (hts (.fieldLink RX19 35 "TimeMachineModel" "labels" "[[I") (List.mem_of_getElem? (i := 6) rfl)) (fun _ h9 => h9) (congrArg (fun z => some (va_rf (Option.map a z))) o12) dX19_label_29 ?_
        refine lv_iload_n hx hb dX19_label_32 rfl (lv_at hl 1 rfl) ?_
        obtain ⟨i13, h⟩ := nd_ck_e h
        obtain ⟨x14, hx14, h⟩ := nd_l_e h
        refine nv_aldg (i := v0) hx hb hK hP 96 89 rfl rfl i13 dX19_label_33 ?_
        refine W.eq (g2 := F0 m 34 ls [.ref x14.1]) (by show F0 m _ ls (va_rf (Option.map (fun x => x.1) (s5.2 (Int32.toNatClampNeg v0))) :: _) = _; rw [hx14]; rfl) ?_
        refine lv_iload_n hx hb dX19_label_34 rfl (lv_at hl 2 rfl) ?_
        obtain ⟨i15, h⟩ := nd_ck_e h
        refine va_iald (i := v1) hx hb (hK.sub [1] rfl) (dlab hP hx14 (Nat.not_le.mp fun q9 => i13 (Or.inr q9))) 0 0 rfl rfl i15 dX19_label_35 ?_
        refine lv_goto (tgt := 40) hx hb dX19_label_36 (by decide) ?_
        exact (db_X19_label_40 C K) ((x14.2.2 (Int32.toNatClampNeg v1))) s5 _ _ _ h hP hD hS (lv_sub hl [] rfl)
set_option maxHeartbeats 40000000 in
set_option maxRecDepth 100000 in
theorem dm_X19_label (l : Launch) (hlt : l.stackTraces = false) (dC : Nat → ClassId) (dI : Nat → Nat → Nat) (a : Nat → Nat) (ac : Nat → ClassId) (n : Nat) (v0 : Int32) (v1 : Int32) (s0 : (St × (St) × (St × (St × (St))) × (St) × (St)) × Lb) {r : Int32 × ((St × (St) × (St × (St × (St))) × (St) × (St)) × Lb)} (h : df_X19_label n v0 v1 s0 = some r) (sz : Nat) : Met l yX19_label ow_dm_X19_label ({ frames := 2, cells := 0, slots := 0, locals := 46 }) (va_Pc [.ref (a 0), .int v0, .int v1] (fun U => U.heap.size = sz ∧ va_P (dC, dI) vwCl (dw_X19L a ac s0) U.heap ∧ va_K (dC, dI) vwCl (dk_X19L ac) U ∧ va_D (fun _ => True) (dw_X19L a ac s0) ∧ nv_E (va_A (dw_X19L a ac s0) sz) U)) (va_Qi (fun x _ => x = r.1) (fun (_ : Unit) t => va_P (dC, dI) vwCl (dw_X19L a ac r.2) t.heap ∧ va_K (dC, dI) vwCl (dk_X19L ac) t ∧ va_D (va_A (dw_X19L a ac s0) sz) (dw_X19L a ac r.2)) (va_A (dw_X19L a ac s0) sz)) 0 0 (va_A (dw_X19L a ac s0) sz) := by
  refine Met.ofW (cc := cX19_label) (maxL := 3) (ret := (some .int)) (by decide) rfl ?_
  intro p e s m args below meth c s₁ B hml hv
  obtain ⟨rfl, hsz, hP, hK, hD0, hN⟩ := hv
  have hx := B.exec
  have hb := B.bytes
  have hr := B.returns
  have hts := atoms_spec (ws := ow_dm_X19_label) B.pre
  have hown : s.vm.findClass RX19 = some m.cls := findClass_of_methodNamed B.named
  have hlocks := B.notSynchronized
  subst hsz
  have hD := hD0.self (sz := s.heap.size)
  generalize hAe : va_A (dw_X19L a ac s0) s.heap.size = A at hD hN ⊢
  have hA : ∀ q : Nat, s.heap.size ≤ q → A q := fun q h => by rw [← hAe]; exact Or.inr h
  have hl := lv_entry ([.ref (a 0), .int v0, .int v1]) (n := 3) (Nat.le_of_ble_eq_true rfl)
  rw [lg_entry_eq]
  generalize (lg_sl ([.ref (a 0), .int v0, .int v1]) ++ List.replicate (3 - (lg_sl ([.ref (a 0), .int v0, .int v1])).length) Slot.unset).toArray = ls at hl ⊢
  have hl : lv_has ls 3 [(0, .ref (a 0)), (1, .int v0), (2, .int v1)] := hl
  exact db_X19_label_0 (dC := dC) (dI := dI) (a := a) (ac := ac) (n := n) (r := r) ⟨hlt, hx, hb, hml, hown, hts, hN, hA, hK⟩ (fun pc v τ H locs ls d z er hP hD hS => by subst er; exact W.zret (v := v) hx hb hr z (fun t ht hW => ⟨⟨v, (), rfl, rfl, by rw [ht]; exact hP, va_K.moved hW.alike hK, hD⟩, hS.F ht⟩) hS.2.2 d) v0 v1 s0 _ _ _ h hP hD va_S.rf (lv_sub hl [0, 1, 2] rfl)
def ow_dm_X19_before : List Cond := .code yX19_before cX19_before 5 (some .int) :: ([.fieldLink RX19 113 "TimeMachineModel" "code" "I", .methodLink RX19 172 yX19_isProgram, .instanceMethod yX19_isProgram, .selects RX19 yX19_isProgram yX19_isProgram, .initialized RX19, .fieldLink RX19 35 "TimeMachineModel" "labels" "[[I"] ++ (u_ws RX19 TX19 36 ++ (ow_dm_X19_isProgram ++ [])))
theorem gd_dm_X19_before : ∀ w ∈ ow_dm_X19_before, (w.onTables && w.keeps) = true ∨ ∃ ty, w = Cond.arrayClass ty := List.forall_mem_cons.mpr ⟨good_of_word rfl, List.forall_mem_append.mpr ⟨fun w h => good_of_word (List.all_eq_true.mp (by decide +kernel) w h), List.forall_mem_append.mpr ⟨gu_X19, List.forall_mem_append.mpr ⟨gd_dm_X19_isProgram, fun _ h => nomatch h⟩⟩⟩⟩
theorem hi_dm_X19_before_X19 : ∀ w ∈ u_ws RX19 TX19 36, w ∈ ow_dm_X19_before := fun w h => List.mem_cons_of_mem _ (List.mem_append_right _ (List.mem_append_left _ h))
theorem gi_dm_X19_before_0 : GoodIn ow_dm_X19_before (wsV RX19 172 RX19 yX19_isProgram ow_dm_X19_isProgram) := goodIn_app (goodIn_of _ (by decide +kernel)) (fun w h => ⟨List.mem_cons_of_mem _ (List.mem_append_right _ (List.mem_append_right _ (List.mem_append_left _ h))), gd_dm_X19_isProgram w h⟩)
def dj_X19_before_81 (p : Program) (l : Launch) (e : Env) (s : State) (m : MethodId) (args : Array Value) (below : List Frame) (meth : Method) (c : Code) (Q : State → Prop) (A : Nat → Prop) (dC : Nat → ClassId) (dI : Nat → Nat → Nat) (a : Nat → Nat) (ac : Nat → ClassId) (g : Int32 → ((St × (St) × (St × (St × (St))) × (St) × (St)) × Lb) → Option (Int32 × ((St × (St) × (St × (St × (St))) × (St) × (St)) × Lb))) (r : Int32 × ((St × (St) × (St × (St × (St))) × (St) × (St)) × Lb)) : Prop := ∀ (x3 : Int32) (s0 : (St × (St) × (St × (St × (St))) × (St) × (St)) × Lb) (H : Heap) (locs : List Loc) (ls : Array Slot), g x3 s0 = some r → va_P (dC, dI) vwCl (dw_X19L a ac s0) H → va_D A (dw_X19L a ac s0) → va_S A s.heap H locs → lv_has ls 5 [(3, .int x3)] → W p l e (headSpec ow_dm_X19_before ({ frames := 2, cells := 0, slots := 0, locals := 46 })).room s m args below meth c H locs 0 0 Q (F0 m 81 ls [])
def dj_X19_before_74 (p : Program) (l : Launch) (e : Env) (s : State) (m : MethodId) (args : Array Value) (below : List Frame) (meth : Method) (c : Code) (Q : State → Prop) (A : Nat → Prop) (dC : Nat → ClassId) (dI : Nat → Nat → Nat) (a : Nat → Nat) (ac : Nat → ClassId) (g : Int32 → Int32 → Int32 → Int32 → ((St × (St) × (St × (St × (St))) × (St) × (St)) × Lb) → Option (Int32 × ((St × (St) × (St × (St × (St))) × (St) × (St)) × Lb))) (r : Int32 × ((St × (St) × (St × (St × (St))) × (St) × (St)) × Lb)) : Prop := ∀ (x1 : Int32) (x2 : Int32) (x4 : Int32) (y0 : Int32) (s0 : (St × (St) × (St × (St × (St))) × (St) × (St)) × Lb) (H : Heap) (locs : List Loc) (ls : Array Slot), g x1 x2 x4 y0 s0 = some r → va_P (dC, dI) vwCl (dw_X19L a ac s0) H → va_D A (dw_X19L a ac s0) → va_S A s.heap H locs → lv_has ls 5 [(0, .ref (a 0)), (1, .int x1), (2, .int x2), (4, .int x4)] → W p l e (headSpec ow_dm_X19_before ({ frames := 2, cells := 0, slots := 0, locals := 46 })).room s m args below meth c H locs 0 0 Q (F0 m 74 ls [.int y0])
def dj_X19_before_73 (p : Program) (l : Launch) (e : Env) (s : State) (m : MethodId) (args : Array Value) (below : List Frame) (meth : Method) (c : Code) (Q : State → Prop) (A : Nat → Prop) (dC : Nat → ClassId) (dI : Nat → Nat → Nat) (a : Nat → Nat) (ac : Nat → ClassId) (g : Int32 → Int32 → Int32 → Int32 → ((St × (St) × (St × (St × (St))) × (St) × (St)) × Lb) → Option (Int32 × ((St × (St) × (St × (St × (St))) × (St) × (St)) × Lb))) (r : Int32 × ((St × (St) × (St × (St × (St))) × (St) × (St)) × Lb)) : Prop := ∀ (x1 : Int32) (x2 : Int32) (x3 : Int32) (x4 : Int32) (s0 : (St × (St) × (St × (St × (St))) × (St) × (St)) × Lb) (H : Heap) (locs : List Loc) (ls : Array Slot), g x1 x2 x3 x4 s0 = some r → va_P (dC, dI) vwCl (dw_X19L a ac s0) H → va_D A (dw_X19L a ac s0) → va_S A s.heap H locs → lv_has ls 5 [(0, .ref (a 0)), (1, .int x1), (2, .int x2), (3, .int x3), (4, .int x4)] → W p l e (headSpec ow_dm_X19_before ({ frames := 2, cells := 0, slots := 0, locals := 46 })).room s m args below meth c H locs 0 0 Q (F0 m 73 ls [])
def dj_X19_before_68 (p : Program) (l : Launch) (e : Env) (s : State) (m : MethodId) (args : Array Value) (below : List Frame) (meth : Method) (c : Code) (Q : State → Prop) (A : Nat → Prop) (dC : Nat → ClassId) (dI : Nat → Nat → Nat) (a : Nat → Nat) (ac : Nat → ClassId) (g : Int32 → Int32 → Int32 → ((St × (St) × (St × (St × (St))) × (St) × (St)) × Lb) → Option (Int32 × ((St × (St) × (St × (St × (St))) × (St) × (St)) × Lb))) (r : Int32 × ((St × (St) × (St × (St × (St))) × (St) × (St)) × Lb)) : Prop := ∀ (x1 : Int32) (x2 : Int32) (x4 : Int32) (s0 : (St × (St) × (St × (St × (St))) × (St) × (St)) × Lb) (H : Heap) (locs : List Loc) (ls : Array Slot), g x1 x2 x4 s0 = some r → va_P (dC, dI) vwCl (dw_X19L a ac s0) H → va_D A (dw_X19L a ac s0) → va_S A s.heap H locs → lv_has ls 5 [(0, .ref (a 0)), (1, .int x1), (2, .int x2), (4, .int x4)] → W p l e (headSpec ow_dm_X19_before ({ frames := 2, cells := 0, slots := 0, locals := 46 })).room s m args below meth c H locs 0 0 Q (F0 m 68 ls [])
def dj_X19_before_10 (p : Program) (l : Launch) (e : Env) (s : State) (m : MethodId) (args : Array Value) (below : List Frame) (meth : Method) (c : Code) (Q : State → Prop) (A : Nat → Prop) (dC : Nat → ClassId) (dI : Nat → Nat → Nat) (a : Nat → Nat) (ac : Nat → ClassId) (g : Int32 → Int32 → Int32 → Int32 → ((St × (St) × (St × (St × (St))) × (St) × (St)) × Lb) → Option (Int32 × ((St × (St) × (St × (St × (St))) × (St) × (St)) × Lb))) (r : Int32 × ((St × (St) × (St × (St × (St))) × (St) × (St)) × Lb)) : Prop := ∀ (x1 : Int32) (x2 : Int32) (x3 : Int32) (x4 : Int32) (s0 : (St × (St) × (St × (St × (St))) × (St) × (St)) × Lb) (H : Heap) (locs : List Loc) (ls : Array Slot), g x1 x2 x3 x4 s0 = some r → va_P (dC, dI) vwCl (dw_X19L a ac s0) H → va_D A (dw_X19L a ac s0) → va_S A s.heap H locs → lv_has ls 5 [(0, .ref (a 0)), (1, .int x1), (2, .int x2), (3, .int x3), (4, .int x4)] → W p l e (headSpec ow_dm_X19_before ({ frames := 2, cells := 0, slots := 0, locals := 46 })).room s m args below meth c H locs 0 0 Q (F0 m 10 ls [])
def dj_X19_before_0 (p : Program) (l : Launch) (e : Env) (s : State) (m : MethodId) (args : Array Value) (below : List Frame) (meth : Method) (c : Code) (Q : State → Prop) (A : Nat → Prop) (dC : Nat → ClassId) (dI : Nat → Nat → Nat) (a : Nat → Nat) (ac : Nat → ClassId) (g : Int32 → Int32 → ((St × (St) × (St × (St × (St))) × (St) × (St)) × Lb) → Option (Int32 × ((St × (St) × (St × (St × (St))) × (St) × (St)) × Lb))) (r : Int32 × ((St × (St) × (St × (St × (St))) × (St) × (St)) × Lb)) : Prop := ∀ (v0 : Int32) (v1 : Int32) (s0 : (St × (St) × (St × (St × (St))) × (St) × (St)) × Lb) (H : Heap) (locs : List Loc) (ls : Array Slot), g v0 v1 s0 = some r → va_P (dC, dI) vwCl (dw_X19L a ac s0) H → va_D A (dw_X19L a ac s0) → va_S A s.heap H locs → lv_has ls 5 [(0, .ref (a 0)), (1, .int v0), (2, .int v1)] → W p l e (headSpec ow_dm_X19_before ({ frames := 2, cells := 0, slots := 0, locals := 46 })).room s m args below meth c H locs 0 0 Q (F0 m 0 ls [])
set_option maxHeartbeats 40000000 in
set_option maxRecDepth 100000 in
theorem db_X19_before_81 {p : Program} {l : Launch} {e : Env} {s : State} {m : MethodId} {args : Array Value} {below : List Frame} {meth : Method} {c : Code} {Q : State → Prop} {A : Nat → Prop} {dC : Nat → ClassId} {dI : Nat → Nat → Nat} {a : Nat → Nat} {ac : Nat → ClassId} {n : Nat} {r : Int32 × ((St × (St) × (St × (St × (St))) × (St) × (St)) × Lb)} (C : nd_C p l s m args c A (dC, dI) cX19_before 5 RX19 ow_dm_X19_before (dk_X19L ac)) (K : nd_Ki p l e (headSpec ow_dm_X19_before ({ frames := 2, cells := 0, slots := 0, locals := 46 })).room s m args below meth c Q A (dC, dI) cX19_before .int ((St × (St) × (St × (St × (St))) × (St) × (St)) × Lb) (dw_X19L a ac) r) : dj_X19_before_81 p l e s m args below meth c Q A dC dI a ac (df_X19_before_81 n) r := by
  obtain ⟨hlt, hx, hb, hml, hown, hts, hN, hA, hK⟩ := id C
  intro x3 s0 H locs ls h hP hD hS hl
  unfold df_X19_before_81 at h
  refine lv_iload_n hx hb dX19_before_81 rfl (lv_at hl 0 rfl) ?_
  exact K _ _ _ _ _ _ dX19_before_82 rfl (Option.some.inj h).symm hP hD hS
set_option maxHeartbeats 40000000 in
set_option maxRecDepth 100000 in
theorem db_X19_before_74 {p : Program} {l : Launch} {e : Env} {s : State} {m : MethodId} {args : Array Value} {below : List Frame} {meth : Method} {c : Code} {Q : State → Prop} {A : Nat → Prop} {dC : Nat → ClassId} {dI : Nat → Nat → Nat} {a : Nat → Nat} {ac : Nat → ClassId} {n : Nat} {r : Int32 × ((St × (St) × (St × (St × (St))) × (St) × (St)) × Lb)} (C : nd_C p l s m args c A (dC, dI) cX19_before 5 RX19 ow_dm_X19_before (dk_X19L ac)) (K : nd_Ki p l e (headSpec ow_dm_X19_before ({ frames := 2, cells := 0, slots := 0, locals := 46 })).room s m args below meth c Q A (dC, dI) cX19_before .int ((St × (St) × (St × (St × (St))) × (St) × (St)) × Lb) (dw_X19L a ac) r) {g10 : Int32 → Int32 → Int32 → Int32 → ((St × (St) × (St × (St × (St))) × (St) × (St)) × Lb) → Option (Int32 × ((St × (St) × (St × (St × (St))) × (St) × (St)) × Lb))} (J10 : dj_X19_before_10 p l e s m args below meth c Q A dC dI a ac g10 r) : dj_X19_before_74 p l e s m args below meth c Q A dC dI a ac (df_X19_before_74 n g10) r := by
  obtain ⟨hlt, hx, hb, hml, hown, hts, hN, hA, hK⟩ := id C
  intro x1 x2 x4 y0 s0 H locs ls h hP hD hS hl
  unfold df_X19_before_74 at h
  refine lv_istore_n (lv' := [(3, .int y0), (0, .ref (a 0)), (1, .int x1), (2, .int x2), (4, .int x4)]) hx hb dX19_before_74 rfl hl (by decide) rfl (fun ls hl => ?_)
  obtain ⟨z16, ez16, h⟩ := nd_let_e h
  refine lv_iinc (v := z16) (lv' := [(4, .int z16), (3, .int y0), (0, .ref (a 0)), (1, .int x1), (2, .int x2)]) hx hb dX19_before_75 hl (k := 4) rfl (by rw [ez16]) (by decide) rfl (fun ls hl => ?_)
  refine lv_goto (tgt := 10) hx hb dX19_before_78 (by decide) ?_
  exact (J10) (x1) (x2) (y0) (z16) s0 _ _ _ h hP hD hS (lv_sub hl [2, 3, 4, 1, 0] rfl)
set_option maxHeartbeats 40000000 in
set_option maxRecDepth 100000 in
theorem db_X19_before_73 {p : Program} {l : Launch} {e : Env} {s : State} {m : MethodId} {args : Array Value} {below : List Frame} {meth : Method} {c : Code} {Q : State → Prop} {A : Nat → Prop} {dC : Nat → ClassId} {dI : Nat → Nat → Nat} {a : Nat → Nat} {ac : Nat → ClassId} {n : Nat} {r : Int32 × ((St × (St) × (St × (St × (St))) × (St) × (St)) × Lb)} (C : nd_C p l s m args c A (dC, dI) cX19_before 5 RX19 ow_dm_X19_before (dk_X19L ac)) (K : nd_Ki p l e (headSpec ow_dm_X19_before ({ frames := 2, cells := 0, slots := 0, locals := 46 })).room s m args below meth c Q A (dC, dI) cX19_before .int ((St × (St) × (St × (St × (St))) × (St) × (St)) × Lb) (dw_X19L a ac) r) {g10 : Int32 → Int32 → Int32 → Int32 → ((St × (St) × (St × (St × (St))) × (St) × (St)) × Lb) → Option (Int32 × ((St × (St) × (St × (St × (St))) × (St) × (St)) × Lb))} (J10 : dj_X19_before_10 p l e s m args below meth c Q A dC dI a ac g10 r) : dj_X19_before_73 p l e s m args below meth c Q A dC dI a ac (df_X19_before_73 n g10) r := by
  obtain ⟨hlt, hx, hb, hml, hown, hts, hN, hA, hK⟩ := id C
  intro x1 x2 x3 x4 s0 H locs ls h hP hD hS hl
  unfold df_X19_before_73 at h
  refine lv_iload_n hx hb dX19_before_73 rfl (lv_at hl 3 rfl) ?_
  exact (db_X19_before_74 C K J10) (x1) (x2) (x4) (x3) s0 _ _ _ h hP hD hS (lv_sub hl [0, 1, 2, 4] rfl)
set_option maxHeartbeats 40000000 in
set_option maxRecDepth 100000 in
theorem db_X19_before_68 {p : Program} {l : Launch} {e : Env} {s : State} {m : MethodId} {args : Array Value} {below : List Frame} {meth : Method} {c : Code} {Q : State → Prop} {A : Nat → Prop} {dC : Nat → ClassId} {dI : Nat → Nat → Nat} {a : Nat → Nat} {ac : Nat → ClassId} {n : Nat} {r : Int32 × ((St × (St) × (St × (St × (St))) × (St) × (St)) × Lb)} (C : nd_C p l s m args c A (dC, dI) cX19_before 5 RX19 ow_dm_X19_before (dk_X19L ac)) (K : nd_Ki p l e (headSpec ow_dm_X19_before ({ frames := 2, cells := 0, slots := 0, locals := 46 })).room s m args below meth c Q A (dC, dI) cX19_before .int ((St × (St) × (St × (St × (St))) × (St) × (St)) × Lb) (dw_X19L a ac) r) {g10 : Int32 → Int32 → Int32 → Int32 → ((St × (St) × (St × (St × (St))) × (St) × (St)) × Lb) → Option (Int32 × ((St × (St) × (St × (St × (St))) × (St) × (St)) × Lb))} (J10 : dj_X19_before_10 p l e s m args below meth c Q A dC dI a ac g10 r) : dj_X19_before_68 p l e s m args below meth c Q A dC dI a ac (df_X19_before_68 n g10) r := by
  obtain ⟨hlt, hx, hb, hml, hown, hts, hN, hA, hK⟩ := id C
  intro x1 x2 x4 s0 H locs ls h hP hD hS hl
  unfold df_X19_before_68 at h
  refine lv_iload hx hb dX19_before_68 (lv_at hl 3 rfl) ?_
  refine lv_goto (tgt := 74) hx hb dX19_before_70 (by decide) ?_
  exact (db_X19_before_74 C K J10) (x1) (x2) (x4) (x4) s0 _ _ _ h hP hD hS (lv_sub hl [0, 1, 2, 3] rfl)
set_option maxHeartbeats 40000000 in
set_option maxRecDepth 100000 in
theorem dB_X19_before_10 {p : Program} {l : Launch} {e : Env} {s : State} {m : MethodId} {args : Array Value} {below : List Frame} {meth : Method} {c : Code} {Q : State → Prop} {A : Nat → Prop} {dC : Nat → ClassId} {dI : Nat → Nat → Nat} {a : Nat → Nat} {ac : Nat → ClassId} {n : Nat} {r : Int32 × ((St × (St) × (St × (St × (St))) × (St) × (St)) × Lb)} (C : nd_C p l s m args c A (dC, dI) cX19_before 5 RX19 ow_dm_X19_before (dk_X19L ac)) (K : nd_Ki p l e (headSpec ow_dm_X19_before ({ frames := 2, cells := 0, slots := 0, locals := 46 })).room s m args below meth c Q A (dC, dI) cX19_before .int ((St × (St) × (St × (St × (St))) × (St) × (St)) × Lb) (dw_X19L a ac) r) {g10 : Int32 → Int32 → Int32 → Int32 → ((St × (St) × (St × (St × (St))) × (St) × (St)) × Lb) → Option (Int32 × ((St × (St) × (St × (St × (St))) × (St) × (St)) × Lb))} (J10 : dj_X19_before_10 p l e s m args below meth c Q A dC dI a ac g10 r) : dj_X19_before_10 p l e s m args below meth c Q A dC dI a ac (dF_X19_before_10 n g10) r := by
  obtain ⟨hlt, hx, hb, hml, hown, hts, hN, hA, hK⟩ := id C
  intro x1 x2 x3 x4 s0 H locs ls h hP hD hS hl
  unfold dF_X19_before_10 at h
  refine lv_aload_n hx hb dX19_before_10 rfl (lv_at hl 0 rfl) ?_
  refine lv_iload_n hx hb dX19_before_11 rfl (lv_at hl 1 rfl) ?_
  obtain ⟨q2, s3, hq, h⟩ := nd_b2_e h
  have hPc := dp_X19L_0 hP
  have hDc := dd_X19L_0 hD
  have hKc := dy_X19L_0 hK
  have hFc := nd_rs hDc hS hA
  have hzA : ∀ q : Nat, H.size ≤ q → A q := fun q h => hA q (Nat.le_trans hS.1 h)
  refine nd_cVi (As := [.int x1]) (rest := []) (q := q2) (w' := dw_X19 (fun k => a (k + 0)) (fun k => ac (k + 0)) s3) ⟨hx, hb, hml, hown, hts⟩ (fun sz => dm_X19_isProgram l hlt dC dI (fun k => a (k + 0)) (fun k => ac (k + 0)) n (x1) s0.1 hq sz) (cwV 1 hts gi_dm_X19_before_0 rfl rfl rfl (by decide +kernel) ⟨Nat.le_of_ble_eq_true rfl, Nat.le_of_ble_eq_true rfl⟩) hPc hDc hKc hS hA hN (va_recv hKc hPc (ci := 20) (q0 := 0) rfl rfl) rfl hl.1 rfl (Nat.le_of_ble_eq_true rfl) dX19_before_12 (fun H locs hP1 hD1 hk1 hS => ?_)
  obtain ⟨hP, hD⟩ := dn_X19L_0 hP hD hzA hk1 hP1 hD1
  obtain ⟨s5, es5, h⟩ := nd_let_e h
  have hP : va_P (dC, dI) vwCl (dw_X19L a ac s5) H := by rw [es5]; exact hP
  have hD : va_D A (dw_X19L a ac s5) := by rw [es5]; exact hD
  refine lv_if_eq (tgt := 81) hx hb dX19_before_15 (by decide) (fun c6 => ?_) (fun c6 => ?_)
  · have h := nd_pos h c6
    exact (db_X19_before_81 C K) (x3) s5 _ _ _ h hP hD hS (lv_sub hl [3] rfl)
  · have h := nd_neg h c6
    refine lv_iload hx hb dX19_before_18 (lv_at hl 4 rfl) ?_
    refine lv_aload_n hx hb dX19_before_20 rfl (lv_at hl 0 rfl) ?_
    obtain ⟨o7, h⟩ := nd_o_e h
    refine va_get (D := (dC, dI)) (ci := 20) (v := .ref (a 96)) (C := RX19) (T := TX19) (N := 36) hx hb hts hi_dm_X19_before_X19 hown hK hP 0 rfl rfl 10 (by decide) (hts (.fieldLink RX19 35 "TimeMachineModel" "labels" "[[I") (List.mem_of_getElem? (i := 6) rfl)) (fun _ h9 => h9) (congrArg (fun z => some (va_rf (Option.map a z))) o7) dX19_before_21 ?_
    refine lv_iload_n hx hb dX19_before_24 rfl (lv_at hl 1 rfl) ?_
    obtain ⟨i8, h⟩ := nd_ck_e h
    obtain ⟨x9, hx9, h⟩ := nd_l_e h
    refine nv_aldg (i := x1) hx hb hK hP 96 89 rfl rfl i8 dX19_before_25 ?_
    refine W.eq (g2 := F0 m 26 ls [.ref x9.1, .int x4]) (by show F0 m _ ls (va_rf (Option.map (fun x => x.1) (s5.2 (Int32.toNatClampNeg x1))) :: _) = _; rw [hx9]; rfl) ?_
    refine va_alen (v := Int32.ofNat x9.2.1) hx hb (hK.sub [1] rfl) (dlab hP hx9 (Nat.not_le.mp fun q9 => i8 (Or.inr q9))) 0 0 rfl rfl rfl dX19_before_26 ?_
    refine lv_icmp_ge (tgt := 81) hx hb dX19_before_27 (by decide) (fun c10 => ?_) (fun c10 => ?_)
    · have h := nd_pos h c10
      exact (db_X19_before_81 C K) (x3) s5 _ _ _ h hP hD hS (lv_sub hl [3] rfl)
    · have h := nd_neg h c10
      refine lv_aload_n hx hb dX19_before_30 rfl (lv_at hl 0 rfl) ?_
      obtain ⟨o11, h⟩ := nd_o_e h
      refine va_get (D := (dC, dI)) (ci := 20) (v := .ref (a 96)) (C := RX19) (T := TX19) (N := 36) hx hb hts hi_dm_X19_before_X19 hown hK hP 0 rfl rfl 10 (by decide) (hts (.fieldLink RX19 35 "TimeMachineModel" "labels" "[[I") (List.mem_of_getElem? (i := 6) rfl)) (fun _ h9 => h9) (congrArg (fun z => some (va_rf (Option.map a z))) o11) dX19_before_31 ?_
      refine lv_iload_n hx hb dX19_before_34 rfl (lv_at hl 1 rfl) ?_
      obtain ⟨i12, h⟩ := nd_ck_e h
      obtain ⟨x13, hx13, h⟩ := nd_l_e h
      refine nv_aldg (i := x1) hx hb hK hP 96 89 rfl rfl i12 dX19_before_35 ?_
      refine W.eq (g2 := F0 m 36 ls [.ref x13.1]) (by show F0 m _ ls (va_rf (Option.map (fun x => x.1) (s5.2 (Int32.toNatClampNeg x1))) :: _) = _; rw [hx13]; rfl) ?_
      refine lv_iload hx hb dX19_before_36 (lv_at hl 4 rfl) ?_
      obtain ⟨i14, h⟩ := nd_ck_e h
      refine va_iald (i := x4) hx hb (hK.sub [1] rfl) (dlab hP hx13 (Nat.not_le.mp fun q9 => i12 (Or.inr q9))) 0 0 rfl rfl i14 dX19_before_38 ?_
      refine lv_iload_n hx hb dX19_before_39 rfl (lv_at hl 2 rfl) ?_
      refine lv_icmp_gt (tgt := 73) hx hb dX19_before_40 (by decide) (fun c15 => ?_) (fun c15 => ?_)
      · have h := nd_pos h c15
        exact (db_X19_before_73 C K J10) (x1) (x2) (x3) (x4) s5 _ _ _ h hP hD hS (lv_sub hl [0, 1, 2, 3, 4] rfl)
      · have h := nd_neg h c15
        refine lv_iload_n hx hb dX19_before_43 rfl (lv_at hl 3 rfl) ?_
        refine lv_iconst (v := (-1)) hx hb dX19_before_44 (by decide) ?_
        refine lv_icmp_eq (tgt := 68) hx hb dX19_before_45 (by decide) (fun c17 => ?_) (fun c17 => ?_)
        · have h := nd_pos h c17
          exact (db_X19_before_68 C K J10) (x1) (x2) (x4) s5 _ _ _ h hP hD hS (lv_sub hl [0, 1, 2, 4] rfl)
        · have h := nd_neg h c17
          refine lv_aload_n hx hb dX19_before_48 rfl (lv_at hl 0 rfl) ?_
          obtain ⟨o18, h⟩ := nd_o_e h
          refine va_get (D := (dC, dI)) (ci := 20) (v := .ref (a 96)) (C := RX19) (T := TX19) (N := 36) hx hb hts hi_dm_X19_before_X19 hown hK hP 0 rfl rfl 10 (by decide) (hts (.fieldLink RX19 35 "TimeMachineModel" "labels" "[[I") (List.mem_of_getElem? (i := 6) rfl)) (fun _ h9 => h9) (congrArg (fun z => some (va_rf (Option.map a z))) o18) dX19_before_49 ?_
          refine lv_iload_n hx hb dX19_before_52 rfl (lv_at hl 1 rfl) ?_
          obtain ⟨i19, h⟩ := nd_ck_e h
          obtain ⟨x20, hx20, h⟩ := nd_l_e h
          refine nv_aldg (i := x1) hx hb hK hP 96 89 rfl rfl i19 dX19_before_53 ?_
          refine W.eq (g2 := F0 m 54 ls [.ref x20.1]) (by show F0 m _ ls (va_rf (Option.map (fun x => x.1) (s5.2 (Int32.toNatClampNeg x1))) :: _) = _; rw [hx20]; rfl) ?_
          refine lv_iload hx hb dX19_before_54 (lv_at hl 4 rfl) ?_
          obtain ⟨i21, h⟩ := nd_ck_e h
          refine va_iald (i := x4) hx hb (hK.sub [1] rfl) (dlab hP hx20 (Nat.not_le.mp fun q9 => i19 (Or.inr q9))) 0 0 rfl rfl i21 dX19_before_56 ?_
          refine lv_aload_n hx hb dX19_before_57 rfl (lv_at hl 0 rfl) ?_
          obtain ⟨o22, h⟩ := nd_o_e h
          refine va_get (D := (dC, dI)) (ci := 20) (v := .ref (a 96)) (C := RX19) (T := TX19) (N := 36) hx hb hts hi_dm_X19_before_X19 hown hK hP 0 rfl rfl 10 (by decide) (hts (.fieldLink RX19 35 "TimeMachineModel" "labels" "[[I") (List.mem_of_getElem? (i := 6) rfl)) (fun _ h9 => h9) (congrArg (fun z => some (va_rf (Option.map a z))) o22) dX19_before_58 ?_
          refine lv_iload_n hx hb dX19_before_61 rfl (lv_at hl 1 rfl) ?_
          obtain ⟨i23, h⟩ := nd_ck_e h
          obtain ⟨x24, hx24, h⟩ := nd_l_e h
          refine nv_aldg (i := x1) hx hb hK hP 96 89 rfl rfl i23 dX19_before_62 ?_
          refine W.eq (g2 := F0 m 63 ls [.ref x24.1, .int (x20.2.2 (Int32.toNatClampNeg x4))]) (by show F0 m _ ls (va_rf (Option.map (fun x => x.1) (s5.2 (Int32.toNatClampNeg x1))) :: _) = _; rw [hx24]; rfl) ?_
          refine lv_iload_n hx hb dX19_before_63 rfl (lv_at hl 3 rfl) ?_
          obtain ⟨i25, h⟩ := nd_ck_e h
          refine va_iald (i := x3) hx hb (hK.sub [1] rfl) (dlab hP hx24 (Nat.not_le.mp fun q9 => i23 (Or.inr q9))) 0 0 rfl rfl i25 dX19_before_64 ?_
          refine lv_icmp_lt (tgt := 73) hx hb dX19_before_65 (by decide) (fun c26 => ?_) (fun c26 => ?_)
          · have h := nd_pos h c26
            exact (db_X19_before_73 C K J10) (x1) (x2) (x3) (x4) s5 _ _ _ h hP hD hS (lv_sub hl [0, 1, 2, 3, 4] rfl)
          · have h := nd_neg h c26
            exact (db_X19_before_68 C K J10) (x1) (x2) (x4) s5 _ _ _ h hP hD hS (lv_sub hl [0, 1, 2, 4] rfl)
set_option maxHeartbeats 40000000 in
set_option maxRecDepth 100000 in
theorem db_X19_before_10 {p : Program} {l : Launch} {e : Env} {s : State} {m : MethodId} {args : Array Value} {below : List Frame} {meth : Method} {c : Code} {Q : State → Prop} {A : Nat → Prop} {dC : Nat → ClassId} {dI : Nat → Nat → Nat} {a : Nat → Nat} {ac : Nat → ClassId} {n : Nat} {r : Int32 × ((St × (St) × (St × (St × (St))) × (St) × (St)) × Lb)} (C : nd_C p l s m args c A (dC, dI) cX19_before 5 RX19 ow_dm_X19_before (dk_X19L ac)) (K : nd_Ki p l e (headSpec ow_dm_X19_before ({ frames := 2, cells := 0, slots := 0, locals := 46 })).room s m args below meth c Q A (dC, dI) cX19_before .int ((St × (St) × (St × (St × (St))) × (St) × (St)) × Lb) (dw_X19L a ac) r) (k : Nat) : dj_X19_before_10 p l e s m args below meth c Q A dC dI a ac (df_X19_before_10 n k) r := by
  induction k with
  | zero => intro x1 x2 x3 x4 s0 H locs ls h; exact nomatch (show (none : Option (Int32 × ((St × (St) × (St × (St × (St))) × (St) × (St)) × Lb))) = some r from h)
  | succ k ih => exact dB_X19_before_10 C K ih
set_option maxHeartbeats 40000000 in
set_option maxRecDepth 100000 in
theorem db_X19_before_0 {p : Program} {l : Launch} {e : Env} {s : State} {m : MethodId} {args : Array Value} {below : List Frame} {meth : Method} {c : Code} {Q : State → Prop} {A : Nat → Prop} {dC : Nat → ClassId} {dI : Nat → Nat → Nat} {a : Nat → Nat} {ac : Nat → ClassId} {n : Nat} {r : Int32 × ((St × (St) × (St × (St × (St))) × (St) × (St)) × Lb)} (C : nd_C p l s m args c A (dC, dI) cX19_before 5 RX19 ow_dm_X19_before (dk_X19L ac)) (K : nd_Ki p l e (headSpec ow_dm_X19_before ({ frames := 2, cells := 0, slots := 0, locals := 46 })).room s m args below meth c Q A (dC, dI) cX19_before .int ((St × (St) × (St × (St × (St))) × (St) × (St)) × Lb) (dw_X19L a ac) r) : dj_X19_before_0 p l e s m args below meth c Q A dC dI a ac (df_X19_before_0 n) r := by
  obtain ⟨hlt, hx, hb, hml, hown, hts, hN, hA, hK⟩ := id C
  intro v0 v1 s0 H locs ls h hP hD hS hl
  unfold df_X19_before_0 at h
  refine lv_aload_n hx hb dX19_before_0 rfl (lv_at hl 0 rfl) ?_
  refine lv_iconst (v := 0) hx hb dX19_before_1 (by decide) ?_
  refine va_put (D := (dC, dI)) (ci := 20) (v := .int 0) (ty := .int) (C := RX19) (T := TX19) (N := 36) hx hb hts hi_dm_X19_before_X19 tyX19 tyX19_ok nmX19 hown hK hP hD hS 0 rfl rfl 0 (by decide) (hts (.fieldLink RX19 113 "TimeMachineModel" "code" "I") (List.mem_of_getElem? (i := 1) rfl)) (fun _ h9 => h9) rfl (by decide +kernel) rfl rfl (Nat.le_of_ble_eq_true rfl) dX19_before_2 (fun H locs hP hD hS => ?_)
  obtain ⟨s1, es1, h⟩ := nd_let_e h
  have hP : va_P (dC, dI) vwCl (dw_X19L a ac s1) H := by rw [es1]; exact hP
  have hD : va_D A (dw_X19L a ac s1) := by rw [es1]; exact hD
  refine lv_iconst (v := (-1)) hx hb dX19_before_5 (by decide) ?_
  refine lv_istore_n (lv' := [(3, .int (-1)), (0, .ref (a 0)), (1, .int v0), (2, .int v1)]) hx hb dX19_before_6 rfl hl (by decide) rfl (fun ls hl => ?_)
  refine lv_iconst (v := 0) hx hb dX19_before_7 (by decide) ?_
  refine lv_istore (lv' := [(4, .int 0), (3, .int (-1)), (0, .ref (a 0)), (1, .int v0), (2, .int v1)]) hx hb dX19_before_8 hl (by decide) rfl (fun ls hl => ?_)
  exact (db_X19_before_10 C K n) (v0) (v1) ((-1)) (0) s1 _ _ _ h hP hD hS (lv_sub hl [2, 3, 4, 1, 0] rfl)
set_option maxHeartbeats 40000000 in
set_option maxRecDepth 100000 in
theorem dm_X19_before (l : Launch) (hlt : l.stackTraces = false) (dC : Nat → ClassId) (dI : Nat → Nat → Nat) (a : Nat → Nat) (ac : Nat → ClassId) (n : Nat) (v0 : Int32) (v1 : Int32) (s0 : (St × (St) × (St × (St × (St))) × (St) × (St)) × Lb) {r : Int32 × ((St × (St) × (St × (St × (St))) × (St) × (St)) × Lb)} (h : df_X19_before n v0 v1 s0 = some r) (sz : Nat) : Met l yX19_before ow_dm_X19_before ({ frames := 2, cells := 0, slots := 0, locals := 46 }) (va_Pc [.ref (a 0), .int v0, .int v1] (fun U => U.heap.size = sz ∧ va_P (dC, dI) vwCl (dw_X19L a ac s0) U.heap ∧ va_K (dC, dI) vwCl (dk_X19L ac) U ∧ va_D (fun _ => True) (dw_X19L a ac s0) ∧ nv_E (va_A (dw_X19L a ac s0) sz) U)) (va_Qi (fun x _ => x = r.1) (fun (_ : Unit) t => va_P (dC, dI) vwCl (dw_X19L a ac r.2) t.heap ∧ va_K (dC, dI) vwCl (dk_X19L ac) t ∧ va_D (va_A (dw_X19L a ac s0) sz) (dw_X19L a ac r.2)) (va_A (dw_X19L a ac s0) sz)) 0 0 (va_A (dw_X19L a ac s0) sz) := by
  refine Met.ofW (cc := cX19_before) (maxL := 5) (ret := (some .int)) (by decide) rfl ?_
  intro p e s m args below meth c s₁ B hml hv
  obtain ⟨rfl, hsz, hP, hK, hD0, hN⟩ := hv
  have hx := B.exec
  have hb := B.bytes
  have hr := B.returns
  have hts := atoms_spec (ws := ow_dm_X19_before) B.pre
  have hown : s.vm.findClass RX19 = some m.cls := findClass_of_methodNamed B.named
  have hlocks := B.notSynchronized
  subst hsz
  have hD := hD0.self (sz := s.heap.size)
  generalize hAe : va_A (dw_X19L a ac s0) s.heap.size = A at hD hN ⊢
  have hA : ∀ q : Nat, s.heap.size ≤ q → A q := fun q h => by rw [← hAe]; exact Or.inr h
  have hl := lv_entry ([.ref (a 0), .int v0, .int v1]) (n := 5) (Nat.le_of_ble_eq_true rfl)
  rw [lg_entry_eq]
  generalize (lg_sl ([.ref (a 0), .int v0, .int v1]) ++ List.replicate (5 - (lg_sl ([.ref (a 0), .int v0, .int v1])).length) Slot.unset).toArray = ls at hl ⊢
  have hl : lv_has ls 5 [(0, .ref (a 0)), (1, .int v0), (2, .int v1)] := hl
  exact db_X19_before_0 (dC := dC) (dI := dI) (a := a) (ac := ac) (n := n) (r := r) ⟨hlt, hx, hb, hml, hown, hts, hN, hA, hK⟩ (fun pc v τ H locs ls d z er hP hD hS => by subst er; exact W.zret (v := v) hx hb hr z (fun t ht hW => ⟨⟨v, (), rfl, rfl, by rw [ht]; exact hP, va_K.moved hW.alike hK, hD⟩, hS.F ht⟩) hS.2.2 d) v0 v1 s0 _ _ _ h hP hD va_S.rf (lv_sub hl [0, 1, 2] rfl)
def ow_dm_X12_putOnTape : List Cond := .code yX12_putOnTape cX12_putOnTape 3 none :: ([.fieldLink RX12 58 "TimeMachine" "taped" "I", .constant RX12 9 (32768), .fieldLink RX12 10 "TimeMachine" "tape" "[B"] ++ (u_ws RX12 TX12 12 ++ []))
theorem gd_dm_X12_putOnTape : ∀ w ∈ ow_dm_X12_putOnTape, (w.onTables && w.keeps) = true ∨ ∃ ty, w = Cond.arrayClass ty := List.forall_mem_cons.mpr ⟨good_of_word rfl, List.forall_mem_append.mpr ⟨fun w h => good_of_word (List.all_eq_true.mp (by decide +kernel) w h), List.forall_mem_append.mpr ⟨gu_X12, fun _ h => nomatch h⟩⟩⟩
theorem hi_dm_X12_putOnTape_X12 : ∀ w ∈ u_ws RX12 TX12 12, w ∈ ow_dm_X12_putOnTape := fun w h => List.mem_cons_of_mem _ (List.mem_append_right _ (List.mem_append_left _ h))
def dj_X12_putOnTape_39 (p : Program) (l : Launch) (e : Env) (s : State) (m : MethodId) (args : Array Value) (below : List Frame) (meth : Method) (c : Code) (Q : State → Prop) (A : Nat → Prop) (dC : Nat → ClassId) (dI : Nat → Nat → Nat) (a : Nat → Nat) (ac : Nat → ClassId) (g : Int32 → Int32 → (St × Rw × (St) × (St × (St)) × (St) × (St × (St × (St × (St)))) × (St) × (St) × (Nat → St) × (Nat → St) × (Nat → St × (St))) → Option (St × Rw × (St) × (St × (St)) × (St) × (St × (St × (St × (St)))) × (St) × (St) × (Nat → St) × (Nat → St) × (Nat → St × (St)))) (r : St × Rw × (St) × (St × (St)) × (St) × (St × (St × (St × (St)))) × (St) × (St) × (Nat → St) × (Nat → St) × (Nat → St × (St))) : Prop := ∀ (x1 : Int32) (x2 : Int32) (s0 : St × Rw × (St) × (St × (St)) × (St) × (St × (St × (St × (St)))) × (St) × (St) × (Nat → St) × (Nat → St) × (Nat → St × (St))) (H : Heap) (locs : List Loc) (ls : Array Slot), g x1 x2 s0 = some r → va_P (dC, dI) vwCl (dw_X12 a ac s0) H → va_D A (dw_X12 a ac s0) → va_S A s.heap H locs → lv_has ls 3 [(0, .ref (a 0)), (1, .int x1), (2, .int x2)] → W p l e (headSpec ow_dm_X12_putOnTape ({ frames := 0, cells := 0, slots := 0, locals := 0 })).room s m args below meth c H locs 0 0 Q (F0 m 39 ls [])
def dj_X12_putOnTape_3 (p : Program) (l : Launch) (e : Env) (s : State) (m : MethodId) (args : Array Value) (below : List Frame) (meth : Method) (c : Code) (Q : State → Prop) (A : Nat → Prop) (dC : Nat → ClassId) (dI : Nat → Nat → Nat) (a : Nat → Nat) (ac : Nat → ClassId) (g : Int32 → Int32 → (St × Rw × (St) × (St × (St)) × (St) × (St × (St × (St × (St)))) × (St) × (St) × (Nat → St) × (Nat → St) × (Nat → St × (St))) → Option (St × Rw × (St) × (St × (St)) × (St) × (St × (St × (St × (St)))) × (St) × (St) × (Nat → St) × (Nat → St) × (Nat → St × (St)))) (r : St × Rw × (St) × (St × (St)) × (St) × (St × (St × (St × (St)))) × (St) × (St) × (Nat → St) × (Nat → St) × (Nat → St × (St))) : Prop := ∀ (x1 : Int32) (x2 : Int32) (s0 : St × Rw × (St) × (St × (St)) × (St) × (St × (St × (St × (St)))) × (St) × (St) × (Nat → St) × (Nat → St) × (Nat → St × (St))) (H : Heap) (locs : List Loc) (ls : Array Slot), g x1 x2 s0 = some r → va_P (dC, dI) vwCl (dw_X12 a ac s0) H → va_D A (dw_X12 a ac s0) → va_S A s.heap H locs → lv_has ls 3 [(0, .ref (a 0)), (1, .int x1), (2, .int x2)] → W p l e (headSpec ow_dm_X12_putOnTape ({ frames := 0, cells := 0, slots := 0, locals := 0 })).room s m args below meth c H locs 0 0 Q (F0 m 3 ls [])
def dj_X12_putOnTape_0 (p : Program) (l : Launch) (e : Env) (s : State) (m : MethodId) (args : Array Value) (below : List Frame) (meth : Method) (c : Code) (Q : State → Prop) (A : Nat → Prop) (dC : Nat → ClassId) (dI : Nat → Nat → Nat) (a : Nat → Nat) (ac : Nat → ClassId) (g : Int32 → (St × Rw × (St) × (St × (St)) × (St) × (St × (St × (St × (St)))) × (St) × (St) × (Nat → St) × (Nat → St) × (Nat → St × (St))) → Option (St × Rw × (St) × (St × (St)) × (St) × (St × (St × (St × (St)))) × (St) × (St) × (Nat → St) × (Nat → St) × (Nat → St × (St)))) (r : St × Rw × (St) × (St × (St)) × (St) × (St × (St × (St × (St)))) × (St) × (St) × (Nat → St) × (Nat → St) × (Nat → St × (St))) : Prop := ∀ (v0 : Int32) (s0 : St × Rw × (St) × (St × (St)) × (St) × (St × (St × (St × (St)))) × (St) × (St) × (Nat → St) × (Nat → St) × (Nat → St × (St))) (H : Heap) (locs : List Loc) (ls : Array Slot), g v0 s0 = some r → va_P (dC, dI) vwCl (dw_X12 a ac s0) H → va_D A (dw_X12 a ac s0) → va_S A s.heap H locs → lv_has ls 3 [(0, .ref (a 0)), (1, .int v0)] → W p l e (headSpec ow_dm_X12_putOnTape ({ frames := 0, cells := 0, slots := 0, locals := 0 })).room s m args below meth c H locs 0 0 Q (F0 m 0 ls [])
set_option maxHeartbeats 40000000 in
set_option maxRecDepth 100000 in
theorem db_X12_putOnTape_39 {p : Program} {l : Launch} {e : Env} {s : State} {m : MethodId} {args : Array Value} {below : List Frame} {meth : Method} {c : Code} {Q : State → Prop} {A : Nat → Prop} {dC : Nat → ClassId} {dI : Nat → Nat → Nat} {a : Nat → Nat} {ac : Nat → ClassId} {n : Nat} {r : St × Rw × (St) × (St × (St)) × (St) × (St × (St × (St × (St)))) × (St) × (St) × (Nat → St) × (Nat → St) × (Nat → St × (St))} (C : nd_C p l s m args c A (dC, dI) cX12_putOnTape 3 RX12 ow_dm_X12_putOnTape (dk_X12 ac)) (K : nd_Kv p l e (headSpec ow_dm_X12_putOnTape ({ frames := 0, cells := 0, slots := 0, locals := 0 })).room s m args below meth c Q A (dC, dI) cX12_putOnTape (St × Rw × (St) × (St × (St)) × (St) × (St × (St × (St × (St)))) × (St) × (St) × (Nat → St) × (Nat → St) × (Nat → St × (St))) (dw_X12 a ac) r) {g3 : Int32 → Int32 → (St × Rw × (St) × (St × (St)) × (St) × (St × (St × (St × (St)))) × (St) × (St) × (Nat → St) × (Nat → St) × (Nat → St × (St))) → Option (St × Rw × (St) × (St × (St)) × (St) × (St × (St × (St × (St)))) × (St) × (St) × (Nat → St) × (Nat → St) × (Nat → St × (St)))} (J3 : dj_X12_putOnTape_3 p l e s m args below meth c Q A dC dI a ac g3 r) : dj_X12_putOnTape_39 p l e s m args below meth c Q A dC dI a ac (df_X12_putOnTape_39 n (a 15) (a 3) g3) r := by
  obtain ⟨hlt, hx, hb, hml, hown, hts, hN, hA, hK⟩ := id C
  intro x1 x2 s0 H locs ls h hP hD hS hl
  unfold df_X12_putOnTape_39 at h
  obtain ⟨z3, ez3, h⟩ := nd_let_e h
  refine lv_iinc (v := z3) (lv' := [(2, .int z3), (0, .ref (a 0)), (1, .int x1)]) hx hb dX12_putOnTape_39 hl (k := 2) rfl (by rw [ez3]) (by decide) rfl (fun ls hl => ?_)
  refine lv_goto (tgt := 3) hx hb dX12_putOnTape_42 (by decide) ?_
  exact (J3) (x1) (z3) s0 _ _ _ h hP hD hS (lv_sub hl [1, 2, 0] rfl)
set_option maxHeartbeats 40000000 in
set_option maxRecDepth 100000 in
theorem dB_X12_putOnTape_3 {p : Program} {l : Launch} {e : Env} {s : State} {m : MethodId} {args : Array Value} {below : List Frame} {meth : Method} {c : Code} {Q : State → Prop} {A : Nat → Prop} {dC : Nat → ClassId} {dI : Nat → Nat → Nat} {a : Nat → Nat} {ac : Nat → ClassId} {n : Nat} {r : St × Rw × (St) × (St × (St)) × (St) × (St × (St × (St × (St)))) × (St) × (St) × (Nat → St) × (Nat → St) × (Nat → St × (St))} (C : nd_C p l s m args c A (dC, dI) cX12_putOnTape 3 RX12 ow_dm_X12_putOnTape (dk_X12 ac)) (K : nd_Kv p l e (headSpec ow_dm_X12_putOnTape ({ frames := 0, cells := 0, slots := 0, locals := 0 })).room s m args below meth c Q A (dC, dI) cX12_putOnTape (St × Rw × (St) × (St × (St)) × (St) × (St × (St × (St × (St)))) × (St) × (St) × (Nat → St) × (Nat → St) × (Nat → St × (St))) (dw_X12 a ac) r) {g3 : Int32 → Int32 → (St × Rw × (St) × (St × (St)) × (St) × (St × (St × (St × (St)))) × (St) × (St) × (Nat → St) × (Nat → St) × (Nat → St × (St))) → Option (St × Rw × (St) × (St × (St)) × (St) × (St × (St × (St × (St)))) × (St) × (St) × (Nat → St) × (Nat → St) × (Nat → St × (St)))} (J3 : dj_X12_putOnTape_3 p l e s m args below meth c Q A dC dI a ac g3 r) : dj_X12_putOnTape_3 p l e s m args below meth c Q A dC dI a ac (dF_X12_putOnTape_3 n (a 15) (a 3) g3) r := by
  obtain ⟨hlt, hx, hb, hml, hown, hts, hN, hA, hK⟩ := id C
  intro x1 x2 s0 H locs ls h hP hD hS hl
  unfold dF_X12_putOnTape_3 at h
  refine lv_iload_n hx hb dX12_putOnTape_3 rfl (lv_at hl 2 rfl) ?_
  refine lv_if_lt (tgt := 45) hx hb dX12_putOnTape_4 (by decide) (fun c1 => ?_) (fun c1 => ?_)
  · have h := nd_pos h c1
    exact K _ _ _ _ _ dX12_putOnTape_45 (Option.some.inj h).symm hP hD hS
  · have h := nd_neg h c1
    refine lv_aload_n hx hb dX12_putOnTape_7 rfl (lv_at hl 0 rfl) ?_
    refine va_get (D := (dC, dI)) (ci := 13) (v := .int (sI s0.1 0)) (C := RX12) (T := TX12) (N := 12) hx hb hts hi_dm_X12_putOnTape_X12 hown hK hP 0 rfl rfl 1 (by decide) (hts (.fieldLink RX12 58 "TimeMachine" "taped" "I") (List.mem_of_getElem? (i := 1) rfl)) (fun _ h9 => h9) rfl dX12_putOnTape_8 ?_
    refine lv_ldc hx hb hown (hts (.constant RX12 9 (32768)) (List.mem_of_getElem? (i := 2) rfl)) dX12_putOnTape_11 ?_
    refine lv_icmp_ge (tgt := 39) hx hb dX12_putOnTape_13 (by decide) (fun c2 => ?_) (fun c2 => ?_)
    · have h := nd_pos h c2
      exact (db_X12_putOnTape_39 C K J3) (x1) (x2) s0 _ _ _ h hP hD hS (lv_sub hl [0, 1, 2] rfl)
    · have h := nd_neg h c2
      refine lv_aload_n hx hb dX12_putOnTape_16 rfl (lv_at hl 0 rfl) ?_
      refine va_get (D := (dC, dI)) (ci := 13) (v := .ref (a 15)) (C := RX12) (T := TX12) (N := 12) hx hb hts hi_dm_X12_putOnTape_X12 hown hK hP 0 rfl rfl 0 (by decide) (hts (.fieldLink RX12 10 "TimeMachine" "tape" "[B") (List.mem_of_getElem? (i := 3) rfl)) (fun _ h9 => h9) rfl dX12_putOnTape_17 ?_
      refine lv_aload_n hx hb dX12_putOnTape_20 rfl (lv_at hl 0 rfl) ?_
      refine va_get (D := (dC, dI)) (ci := 13) (v := .int (sI s0.1 0)) (C := RX12) (T := TX12) (N := 12) hx hb hts hi_dm_X12_putOnTape_X12 hown hK hP 0 rfl rfl 1 (by decide) (hts (.fieldLink RX12 58 "TimeMachine" "taped" "I") (List.mem_of_getElem? (i := 1) rfl)) (fun _ h9 => h9) rfl dX12_putOnTape_21 ?_
      refine lv_iload_n hx hb dX12_putOnTape_24 rfl (lv_at hl 1 rfl) ?_
      refine lv_iload_n hx hb dX12_putOnTape_25 rfl (lv_at hl 2 rfl) ?_
      refine lv_ishr hx hb dX12_putOnTape_26 ?_
      refine lv_i2b hx hb dX12_putOnTape_27 rfl ?_
      obtain ⟨i4, h⟩ := nd_ck_e h
      refine va_bast (i := (sI s0.1 0)) (x := ((((x1 : Int32) >>> ((x2 : Int32) &&& 31)) : Int32).toInt8.toInt32)) hx hb hK hP hD hS 15 12 rfl rfl i4 dX12_putOnTape_28 (fun H locs hP hD hS => ?_)
      obtain ⟨s5, es5, h⟩ := nd_let_e h
      have hP : va_P (dC, dI) vwCl (dw_X12 a ac s5) H := by rw [es5]; exact hP
      have hD : va_D A (dw_X12 a ac s5) := by rw [es5]; exact hD
      refine lv_aload_n hx hb dX12_putOnTape_29 rfl (lv_at hl 0 rfl) ?_
      refine lv_dup hx hb dX12_putOnTape_30 rfl ?_
      refine va_get (D := (dC, dI)) (ci := 13) (v := .int (sI s5.1 0)) (C := RX12) (T := TX12) (N := 12) hx hb hts hi_dm_X12_putOnTape_X12 hown hK hP 0 rfl rfl 1 (by decide) (hts (.fieldLink RX12 58 "TimeMachine" "taped" "I") (List.mem_of_getElem? (i := 1) rfl)) (fun _ h9 => h9) rfl dX12_putOnTape_31 ?_
      refine lv_iconst (v := 1) hx hb dX12_putOnTape_34 (by decide) ?_
      refine lv_iadd hx hb dX12_putOnTape_35 ?_
      refine va_put (D := (dC, dI)) (ci := 13) (v := .int ((sI s5.1 0) + 1)) (ty := .int) (C := RX12) (T := TX12) (N := 12) hx hb hts hi_dm_X12_putOnTape_X12 tyX12 tyX12_ok nmX12 hown hK hP hD hS 0 rfl rfl 1 (by decide) (hts (.fieldLink RX12 58 "TimeMachine" "taped" "I") (List.mem_of_getElem? (i := 1) rfl)) (fun _ h9 => h9) rfl (by decide +kernel) rfl rfl (Nat.le_of_ble_eq_true rfl) dX12_putOnTape_36 (fun H locs hP hD hS => ?_)
      obtain ⟨s6, es6, h⟩ := nd_let_e h
      have hP : va_P (dC, dI) vwCl (dw_X12 a ac s6) H := by rw [es6]; exact hP
      have hD : va_D A (dw_X12 a ac s6) := by rw [es6]; exact hD
      exact (db_X12_putOnTape_39 C K J3) (x1) (x2) s6 _ _ _ h hP hD hS (lv_sub hl [0, 1, 2] rfl)
set_option maxHeartbeats 40000000 in
set_option maxRecDepth 100000 in
theorem db_X12_putOnTape_3 {p : Program} {l : Launch} {e : Env} {s : State} {m : MethodId} {args : Array Value} {below : List Frame} {meth : Method} {c : Code} {Q : State → Prop} {A : Nat → Prop} {dC : Nat → ClassId} {dI : Nat → Nat → Nat} {a : Nat → Nat} {ac : Nat → ClassId} {n : Nat} {r : St × Rw × (St) × (St × (St)) × (St) × (St × (St × (St × (St)))) × (St) × (St) × (Nat → St) × (Nat → St) × (Nat → St × (St))} (C : nd_C p l s m args c A (dC, dI) cX12_putOnTape 3 RX12 ow_dm_X12_putOnTape (dk_X12 ac)) (K : nd_Kv p l e (headSpec ow_dm_X12_putOnTape ({ frames := 0, cells := 0, slots := 0, locals := 0 })).room s m args below meth c Q A (dC, dI) cX12_putOnTape (St × Rw × (St) × (St × (St)) × (St) × (St × (St × (St × (St)))) × (St) × (St) × (Nat → St) × (Nat → St) × (Nat → St × (St))) (dw_X12 a ac) r) (k : Nat) : dj_X12_putOnTape_3 p l e s m args below meth c Q A dC dI a ac (df_X12_putOnTape_3 n (a 15) (a 3) k) r := by
  induction k with
  | zero => intro x1 x2 s0 H locs ls h; exact nomatch (show (none : Option (St × Rw × (St) × (St × (St)) × (St) × (St × (St × (St × (St)))) × (St) × (St) × (Nat → St) × (Nat → St) × (Nat → St × (St)))) = some r from h)
  | succ k ih => exact dB_X12_putOnTape_3 C K ih
set_option maxHeartbeats 40000000 in
set_option maxRecDepth 100000 in
theorem db_X12_putOnTape_0 {p : Program} {l : Launch} {e : Env} {s : State} {m : MethodId} {args : Array Value} {below : List Frame} {meth : Method} {c : Code} {Q : State → Prop} {A : Nat → Prop} {dC : Nat → ClassId} {dI : Nat → Nat → Nat} {a : Nat → Nat} {ac : Nat → ClassId} {n : Nat} {r : St × Rw × (St) × (St × (St)) × (St) × (St × (St × (St × (St)))) × (St) × (St) × (Nat → St) × (Nat → St) × (Nat → St × (St))} (C : nd_C p l s m args c A (dC, dI) cX12_putOnTape 3 RX12 ow_dm_X12_putOnTape (dk_X12 ac)) (K : nd_Kv p l e (headSpec ow_dm_X12_putOnTape ({ frames := 0, cells := 0, slots := 0, locals := 0 })).room s m args below meth c Q A (dC, dI) cX12_putOnTape (St × Rw × (St) × (St × (St)) × (St) × (St × (St × (St × (St)))) × (St) × (St) × (Nat → St) × (Nat → St) × (Nat → St × (St))) (dw_X12 a ac) r) : dj_X12_putOnTape_0 p l e s m args below meth c Q A dC dI a ac (df_X12_putOnTape_0 n (a 15) (a 3)) r := by
  obtain ⟨hlt, hx, hb, hml, hown, hts, hN, hA, hK⟩ := id C
  intro v0 s0 H locs ls h hP hD hS hl
  unfold df_X12_putOnTape_0 at h
  refine lv_bipush (v := 24) hx hb dX12_putOnTape_0 (by decide) ?_
  refine lv_istore_n (lv' := [(2, .int 24), (0, .ref (a 0)), (1, .int v0)]) hx hb dX12_putOnTape_2 rfl hl (by decide) rfl (fun ls hl => ?_)
  exact (db_X12_putOnTape_3 C K n) (v0) (24) s0 _ _ _ h hP hD hS (lv_sub hl [1, 2, 0] rfl)
set_option maxHeartbeats 40000000 in
set_option maxRecDepth 100000 in
theorem dm_X12_putOnTape (l : Launch) (hlt : l.stackTraces = false) (dC : Nat → ClassId) (dI : Nat → Nat → Nat) (a : Nat → Nat) (ac : Nat → ClassId) (n : Nat) (v0 : Int32) (s0 : St × Rw × (St) × (St × (St)) × (St) × (St × (St × (St × (St)))) × (St) × (St) × (Nat → St) × (Nat → St) × (Nat → St × (St))) {r : St × Rw × (St) × (St × (St)) × (St) × (St × (St × (St × (St)))) × (St) × (St) × (Nat → St) × (Nat → St) × (Nat → St × (St))} (h : df_X12_putOnTape n (a 15) (a 3) v0 s0 = some r) (sz : Nat) : Met l yX12_putOnTape ow_dm_X12_putOnTape ({ frames := 0, cells := 0, slots := 0, locals := 0 }) (va_Pc [.ref (a 0), .int v0] (fun U => U.heap.size = sz ∧ va_P (dC, dI) vwCl (dw_X12 a ac s0) U.heap ∧ va_K (dC, dI) vwCl (dk_X12 ac) U ∧ va_D (fun _ => True) (dw_X12 a ac s0) ∧ nv_E (va_A (dw_X12 a ac s0) sz) U)) (va_Qv (fun _ => True) (fun (_ : Unit) t => va_P (dC, dI) vwCl (dw_X12 a ac r) t.heap ∧ va_K (dC, dI) vwCl (dk_X12 ac) t ∧ va_D (va_A (dw_X12 a ac s0) sz) (dw_X12 a ac r)) (va_A (dw_X12 a ac s0) sz)) 0 0 (va_A (dw_X12 a ac s0) sz) := by
  refine Met.ofW (cc := cX12_putOnTape) (maxL := 3) (ret := none) (by decide) rfl ?_
  intro p e s m args below meth c s₁ B hml hv
  obtain ⟨rfl, hsz, hP, hK, hD0, hN⟩ := hv
  have hx := B.exec
  have hb := B.bytes
  have hr := B.returns
  have hts := atoms_spec (ws := ow_dm_X12_putOnTape) B.pre
  have hown : s.vm.findClass RX12 = some m.cls := findClass_of_methodNamed B.named
  have hlocks := B.notSynchronized
  subst hsz
  have hD := hD0.self (sz := s.heap.size)
  generalize hAe : va_A (dw_X12 a ac s0) s.heap.size = A at hD hN ⊢
  have hA : ∀ q : Nat, s.heap.size ≤ q → A q := fun q h => by rw [← hAe]; exact Or.inr h
  have hl := lv_entry ([.ref (a 0), .int v0]) (n := 3) (Nat.le_of_ble_eq_true rfl)
  rw [lg_entry_eq]
  generalize (lg_sl ([.ref (a 0), .int v0]) ++ List.replicate (3 - (lg_sl ([.ref (a 0), .int v0])).length) Slot.unset).toArray = ls at hl ⊢
  have hl : lv_has ls 3 [(0, .ref (a 0)), (1, .int v0)] := hl
  exact db_X12_putOnTape_0 (dC := dC) (dI := dI) (a := a) (ac := ac) (n := n) (r := r) ⟨hlt, hx, hb, hml, hown, hts, hN, hA, hK⟩ (fun pc τ H locs ls d er hP hD hS => by subst er; exact W.vret hx hb hr (fun t ht hW => ⟨⟨(), rfl, trivial, by rw [ht]; exact hP, va_K.moved hW.alike hK, hD⟩, hS.F ht⟩) hS.2.2 d) v0 s0 _ _ _ h hP hD va_S.rf (lv_sub hl [0, 1] rfl)
def ow_dm_X12_feed : List Cond := .code yX12_feed cX12_feed 6 (some .int) :: ([.fieldLink RX12 58 "TimeMachine" "taped" "I", .constant RX12 9 (32768), .methodLink RX12 62 yX12_putOnTape, .instanceMethod yX12_putOnTape, .selects RX12 yX12_putOnTape yX12_putOnTape, .initialized RX12, .fieldLink RX12 66 "TimeMachine" "fresh" "Z"] ++ (u_ws RX12 TX12 12 ++ (ow_dm_X12_putOnTape ++ [])))
theorem gd_dm_X12_feed : ∀ w ∈ ow_dm_X12_feed, (w.onTables && w.keeps) = true ∨ ∃ ty, w = Cond.arrayClass ty := List.forall_mem_cons.mpr ⟨good_of_word rfl, List.forall_mem_append.mpr ⟨fun w h => good_of_word (List.all_eq_true.mp (by decide +kernel) w h), List.forall_mem_append.mpr ⟨gu_X12, List.forall_mem_append.mpr ⟨gd_dm_X12_putOnTape, fun _ h => nomatch h⟩⟩⟩⟩
theorem hi_dm_X12_feed_X12 : ∀ w ∈ u_ws RX12 TX12 12, w ∈ ow_dm_X12_feed := fun w h => List.mem_cons_of_mem _ (List.mem_append_right _ (List.mem_append_left _ h))
theorem gi_dm_X12_feed_0 : GoodIn ow_dm_X12_feed (wsV RX12 62 RX12 yX12_putOnTape ow_dm_X12_putOnTape) := goodIn_app (goodIn_of _ (by decide +kernel)) (fun w h => ⟨List.mem_cons_of_mem _ (List.mem_append_right _ (List.mem_append_right _ (List.mem_append_left _ h))), gd_dm_X12_putOnTape w h⟩)
def dj_X12_feed_0 (p : Program) (l : Launch) (e : Env) (s : State) (m : MethodId) (args : Array Value) (below : List Frame) (meth : Method) (c : Code) (Q : State → Prop) (A : Nat → Prop) (dC : Nat → ClassId) (dI : Nat → Nat → Nat) (a : Nat → Nat) (ac : Nat → ClassId) (g : Int32 → Int32 → Int32 → Int32 → Int32 → (St × Rw × (St) × (St × (St)) × (St) × (St × (St × (St × (St)))) × (St) × (St) × (Nat → St) × (Nat → St) × (Nat → St × (St))) → Option (Int32 × (St × Rw × (St) × (St × (St)) × (St) × (St × (St × (St × (St)))) × (St) × (St) × (Nat → St) × (Nat → St) × (Nat → St × (St))))) (r : Int32 × (St × Rw × (St) × (St × (St)) × (St) × (St × (St × (St × (St)))) × (St) × (St) × (Nat → St) × (Nat → St) × (Nat → St × (St)))) : Prop := ∀ (v0 : Int32) (v1 : Int32) (v2 : Int32) (v3 : Int32) (v4 : Int32) (s0 : St × Rw × (St) × (St × (St)) × (St) × (St × (St × (St × (St)))) × (St) × (St) × (Nat → St) × (Nat → St) × (Nat → St × (St))) (H : Heap) (locs : List Loc) (ls : Array Slot), g v0 v1 v2 v3 v4 s0 = some r → va_P (dC, dI) vwCl (dw_X12 a ac s0) H → va_D A (dw_X12 a ac s0) → va_S A s.heap H locs → lv_has ls 6 [(0, .ref (a 0)), (1, .int v0), (2, .int v1), (3, .int v2), (4, .int v3), (5, .int v4)] → W p l e (headSpec ow_dm_X12_feed ({ frames := 1, cells := 0, slots := 0, locals := 22 })).room s m args below meth c H locs 0 0 Q (F0 m 0 ls [])
set_option maxHeartbeats 40000000 in
set_option maxRecDepth 100000 in
theorem db_X12_feed_0 {p : Program} {l : Launch} {e : Env} {s : State} {m : MethodId} {args : Array Value} {below : List Frame} {meth : Method} {c : Code} {Q : State → Prop} {A : Nat → Prop} {dC : Nat → ClassId} {dI : Nat → Nat → Nat} {a : Nat → Nat} {ac : Nat → ClassId} {n : Nat} {r : Int32 × (St × Rw × (St) × (St × (St)) × (St) × (St × (St × (St × (St)))) × (St) × (St) × (Nat → St) × (Nat → St) × (Nat → St × (St)))} (C : nd_C p l s m args c A (dC, dI) cX12_feed 6 RX12 ow_dm_X12_feed (dk_X12 ac)) (K : nd_Ki p l e (headSpec ow_dm_X12_feed ({ frames := 1, cells := 0, slots := 0, locals := 22 })).room s m args below meth c Q A (dC, dI) cX12_feed .int (St × Rw × (St) × (St × (St)) × (St) × (St × (St × (St × (St)))) × (St) × (St) × (Nat → St) × (Nat → St) × (Nat → St × (St))) (dw_X12 a ac) r) : dj_X12_feed_0 p l e s m args below meth c Q A dC dI a ac (df_X12_feed_0 n (a 15) (a 3)) r := by
  obtain ⟨hlt, hx, hb, hml, hown, hts, hN, hA, hK⟩ := id C
  intro v0 v1 v2 v3 v4 s0 H locs ls h hP hD hS hl
  unfold df_X12_feed_0 at h
  refine lv_aload_n hx hb dX12_feed_0 rfl (lv_at hl 0 rfl) ?_
  refine va_get (D := (dC, dI)) (ci := 13) (v := .int (sI s0.1 0)) (C := RX12) (T := TX12) (N := 12) hx hb hts hi_dm_X12_feed_X12 hown hK hP 0 rfl rfl 1 (by decide) (hts (.fieldLink RX12 58 "TimeMachine" "taped" "I") (List.mem_of_getElem? (i := 1) rfl)) (fun _ h9 => h9) rfl dX12_feed_1 ?_
  refine lv_bipush (v := 20) hx hb dX12_feed_4 (by decide) ?_
  refine lv_iadd hx hb dX12_feed_6 ?_
  refine lv_ldc hx hb hown (hts (.constant RX12 9 (32768)) (List.mem_of_getElem? (i := 2) rfl)) dX12_feed_7 ?_
  refine lv_icmp_le (tgt := 14) hx hb dX12_feed_9 (by decide) (fun c1 => ?_) (fun c1 => ?_)
  · have h := nd_pos h c1
    refine lv_aload_n hx hb dX12_feed_14 rfl (lv_at hl 0 rfl) ?_
    refine lv_iload_n hx hb dX12_feed_15 rfl (lv_at hl 1 rfl) ?_
    obtain ⟨s3, hq, h⟩ := nd_b1_e h
    have hPc := hP
    have hDc := hD
    have hKc := hK
    have hFc := nd_rs hD hS hA
    refine nd_cVv (As := [.int v0]) (rest := []) (w' := dw_X12 a ac s3) ⟨hx, hb, hml, hown, hts⟩ (fun sz => dm_X12_putOnTape l hlt dC dI a ac n (v0) s0 hq sz) (cwV 1 hts gi_dm_X12_feed_0 rfl rfl rfl (by decide +kernel) ⟨Nat.le_of_ble_eq_true rfl, Nat.le_of_ble_eq_true rfl⟩) hPc hDc hKc hS hA hN (va_recv hKc hPc (ci := 13) (q0 := 0) rfl rfl) rfl hl.1 rfl (Nat.le_of_ble_eq_true rfl) dX12_feed_16 (fun H locs hP1 hD1 hk1 hS => ?_)
    have hP := hP1
    have hD := hD1.weaken (fun k q _ h => hFc q.1 h)
    refine lv_aload_n hx hb dX12_feed_19 rfl (lv_at hl 0 rfl) ?_
    refine lv_iload_n hx hb dX12_feed_20 rfl (lv_at hl 2 rfl) ?_
    obtain ⟨s6, hq, h⟩ := nd_b1_e h
    have hPc := hP
    have hDc := hD
    have hKc := hK
    have hFc := nd_rs hD hS hA
    refine nd_cVv (As := [.int v1]) (rest := []) (w' := dw_X12 a ac s6) ⟨hx, hb, hml, hown, hts⟩ (fun sz => dm_X12_putOnTape l hlt dC dI a ac n (v1) s3 hq sz) (cwV 1 hts gi_dm_X12_feed_0 rfl rfl rfl (by decide +kernel) ⟨Nat.le_of_ble_eq_true rfl, Nat.le_of_ble_eq_true rfl⟩) hPc hDc hKc hS hA hN (va_recv hKc hPc (ci := 13) (q0 := 0) rfl rfl) rfl hl.1 rfl (Nat.le_of_ble_eq_true rfl) dX12_feed_21 (fun H locs hP1 hD1 hk1 hS => ?_)
    have hP := hP1
    have hD := hD1.weaken (fun k q _ h => hFc q.1 h)
    refine lv_aload_n hx hb dX12_feed_24 rfl (lv_at hl 0 rfl) ?_
    refine lv_iload_n hx hb dX12_feed_25 rfl (lv_at hl 3 rfl) ?_
    obtain ⟨s9, hq, h⟩ := nd_b1_e h
    have hPc := hP
    have hDc := hD
    have hKc := hK
    have hFc := nd_rs hD hS hA
    refine nd_cVv (As := [.int v2]) (rest := []) (w' := dw_X12 a ac s9) ⟨hx, hb, hml, hown, hts⟩ (fun sz => dm_X12_putOnTape l hlt dC dI a ac n (v2) s6 hq sz) (cwV 1 hts gi_dm_X12_feed_0 rfl rfl rfl (by decide +kernel) ⟨Nat.le_of_ble_eq_true rfl, Nat.le_of_ble_eq_true rfl⟩) hPc hDc hKc hS hA hN (va_recv hKc hPc (ci := 13) (q0 := 0) rfl rfl) rfl hl.1 rfl (Nat.le_of_ble_eq_true rfl) dX12_feed_26 (fun H locs hP1 hD1 hk1 hS => ?_)
    have hP := hP1
    have hD := hD1.weaken (fun k q _ h => hFc q.1 h)
    refine lv_aload_n hx hb dX12_feed_29 rfl (lv_at hl 0 rfl) ?_
    refine lv_iload hx hb dX12_feed_30 (lv_at hl 4 rfl) ?_
    obtain ⟨s12, hq, h⟩ := nd_b1_e h
    have hPc := hP
    have hDc := hD
    have hKc := hK
    have hFc := nd_rs hD hS hA
    refine nd_cVv (As := [.int v3]) (rest := []) (w' := dw_X12 a ac s12) ⟨hx, hb, hml, hown, hts⟩ (fun sz => dm_X12_putOnTape l hlt dC dI a ac n (v3) s9 hq sz) (cwV 1 hts gi_dm_X12_feed_0 rfl rfl rfl (by decide +kernel) ⟨Nat.le_of_ble_eq_true rfl, Nat.le_of_ble_eq_true rfl⟩) hPc hDc hKc hS hA hN (va_recv hKc hPc (ci := 13) (q0 := 0) rfl rfl) rfl hl.1 rfl (Nat.le_of_ble_eq_true rfl) dX12_feed_32 (fun H locs hP1 hD1 hk1 hS => ?_)
    have hP := hP1
    have hD := hD1.weaken (fun k q _ h => hFc q.1 h)
    refine lv_aload_n hx hb dX12_feed_35 rfl (lv_at hl 0 rfl) ?_
    refine lv_iload hx hb dX12_feed_36 (lv_at hl 5 rfl) ?_
    obtain ⟨s15, hq, h⟩ := nd_b1_e h
    have hPc := hP
    have hDc := hD
    have hKc := hK
    have hFc := nd_rs hD hS hA
    refine nd_cVv (As := [.int v4]) (rest := []) (w' := dw_X12 a ac s15) ⟨hx, hb, hml, hown, hts⟩ (fun sz => dm_X12_putOnTape l hlt dC dI a ac n (v4) s12 hq sz) (cwV 1 hts gi_dm_X12_feed_0 rfl rfl rfl (by decide +kernel) ⟨Nat.le_of_ble_eq_true rfl, Nat.le_of_ble_eq_true rfl⟩) hPc hDc hKc hS hA hN (va_recv hKc hPc (ci := 13) (q0 := 0) rfl rfl) rfl hl.1 rfl (Nat.le_of_ble_eq_true rfl) dX12_feed_38 (fun H locs hP1 hD1 hk1 hS => ?_)
    have hP := hP1
    have hD := hD1.weaken (fun k q _ h => hFc q.1 h)
    refine lv_aload_n hx hb dX12_feed_41 rfl (lv_at hl 0 rfl) ?_
    refine lv_iconst (v := 1) hx hb dX12_feed_42 (by decide) ?_
    refine va_put (D := (dC, dI)) (ci := 13) (v := .int 1) (ty := .boolean) (C := RX12) (T := TX12) (N := 12) hx hb hts hi_dm_X12_feed_X12 tyX12 tyX12_ok nmX12 hown hK hP hD hS 0 rfl rfl 2 (by decide) (hts (.fieldLink RX12 66 "TimeMachine" "fresh" "Z") (List.mem_of_getElem? (i := 7) rfl)) (fun _ h9 => h9) rfl (by decide +kernel) (by first | rfl | decide) rfl (Nat.le_of_ble_eq_true rfl) dX12_feed_43 (fun H locs hP hD hS => ?_)
    obtain ⟨s17, es17, h⟩ := nd_let_e h
    have hP : va_P (dC, dI) vwCl (dw_X12 a ac s17) H := by rw [es17]; exact hP
    have hD : va_D A (dw_X12 a ac s17) := by rw [es17]; exact hD
    refine lv_aload_n hx hb dX12_feed_46 rfl (lv_at hl 0 rfl) ?_
    refine va_get (D := (dC, dI)) (ci := 13) (v := .int (sI s17.1 0)) (C := RX12) (T := TX12) (N := 12) hx hb hts hi_dm_X12_feed_X12 hown hK hP 0 rfl rfl 1 (by decide) (hts (.fieldLink RX12 58 "TimeMachine" "taped" "I") (List.mem_of_getElem? (i := 1) rfl)) (fun _ h9 => h9) rfl dX12_feed_47 ?_
    exact K _ _ _ _ _ _ dX12_feed_50 rfl (Option.some.inj h).symm hP hD hS
  · have h := nd_neg h c1
    refine lv_iconst (v := (-1)) hx hb dX12_feed_12 (by decide) ?_
    exact K _ _ _ _ _ _ dX12_feed_13 rfl (Option.some.inj h).symm hP hD hS
set_option maxHeartbeats 40000000 in
set_option maxRecDepth 100000 in
theorem dm_X12_feed (l : Launch) (hlt : l.stackTraces = false) (dC : Nat → ClassId) (dI : Nat → Nat → Nat) (a : Nat → Nat) (ac : Nat → ClassId) (n : Nat) (v0 : Int32) (v1 : Int32) (v2 : Int32) (v3 : Int32) (v4 : Int32) (s0 : St × Rw × (St) × (St × (St)) × (St) × (St × (St × (St × (St)))) × (St) × (St) × (Nat → St) × (Nat → St) × (Nat → St × (St))) {r : Int32 × (St × Rw × (St) × (St × (St)) × (St) × (St × (St × (St × (St)))) × (St) × (St) × (Nat → St) × (Nat → St) × (Nat → St × (St)))} (h : df_X12_feed n (a 15) (a 3) v0 v1 v2 v3 v4 s0 = some r) (sz : Nat) : Met l yX12_feed ow_dm_X12_feed ({ frames := 1, cells := 0, slots := 0, locals := 22 }) (va_Pc [.ref (a 0), .int v0, .int v1, .int v2, .int v3, .int v4] (fun U => U.heap.size = sz ∧ va_P (dC, dI) vwCl (dw_X12 a ac s0) U.heap ∧ va_K (dC, dI) vwCl (dk_X12 ac) U ∧ va_D (fun _ => True) (dw_X12 a ac s0) ∧ nv_E (va_A (dw_X12 a ac s0) sz) U)) (va_Qi (fun x _ => x = r.1) (fun (_ : Unit) t => va_P (dC, dI) vwCl (dw_X12 a ac r.2) t.heap ∧ va_K (dC, dI) vwCl (dk_X12 ac) t ∧ va_D (va_A (dw_X12 a ac s0) sz) (dw_X12 a ac r.2)) (va_A (dw_X12 a ac s0) sz)) 0 0 (va_A (dw_X12 a ac s0) sz) := by
  refine Met.ofW (cc := cX12_feed) (maxL := 6) (ret := (some .int)) (by decide) rfl ?_
  intro p e s m args below meth c s₁ B hml hv
  obtain ⟨rfl, hsz, hP, hK, hD0, hN⟩ := hv
  have hx := B.exec
  have hb := B.bytes
  have hr := B.returns
  have hts := atoms_spec (ws := ow_dm_X12_feed) B.pre
  have hown : s.vm.findClass RX12 = some m.cls := findClass_of_methodNamed B.named
  have hlocks := B.notSynchronized
  subst hsz
  have hD := hD0.self (sz := s.heap.size)
  generalize hAe : va_A (dw_X12 a ac s0) s.heap.size = A at hD hN ⊢
  have hA : ∀ q : Nat, s.heap.size ≤ q → A q := fun q h => by rw [← hAe]; exact Or.inr h
  have hl := lv_entry ([.ref (a 0), .int v0, .int v1, .int v2, .int v3, .int v4]) (n := 6) (Nat.le_of_ble_eq_true rfl)
  rw [lg_entry_eq]
  generalize (lg_sl ([.ref (a 0), .int v0, .int v1, .int v2, .int v3, .int v4]) ++ List.replicate (6 - (lg_sl ([.ref (a 0), .int v0, .int v1, .int v2, .int v3, .int v4])).length) Slot.unset).toArray = ls at hl ⊢
  have hl : lv_has ls 6 [(0, .ref (a 0)), (1, .int v0), (2, .int v1), (3, .int v2), (4, .int v3), (5, .int v4)] := hl
  exact db_X12_feed_0 (dC := dC) (dI := dI) (a := a) (ac := ac) (n := n) (r := r) ⟨hlt, hx, hb, hml, hown, hts, hN, hA, hK⟩ (fun pc v τ H locs ls d z er hP hD hS => by subst er; exact W.zret (v := v) hx hb hr z (fun t ht hW => ⟨⟨v, (), rfl, rfl, by rw [ht]; exact hP, va_K.moved hW.alike hK, hD⟩, hS.F ht⟩) hS.2.2 d) v0 v1 v2 v3 v4 s0 _ _ _ h hP hD va_S.rf (lv_sub hl [0, 1, 2, 3, 4, 5] rfl)
def ow_dm_X12_end : List Cond := .code yX12_end cX12_end 2 (some .int) :: ([.fieldLink RX12 66 "TimeMachine" "fresh" "Z", .fieldLink RX12 58 "TimeMachine" "taped" "I"] ++ (u_ws RX12 TX12 12 ++ []))
theorem gd_dm_X12_end : ∀ w ∈ ow_dm_X12_end, (w.onTables && w.keeps) = true ∨ ∃ ty, w = Cond.arrayClass ty := List.forall_mem_cons.mpr ⟨good_of_word rfl, List.forall_mem_append.mpr ⟨fun w h => good_of_word (List.all_eq_true.mp (by decide +kernel) w h), List.forall_mem_append.mpr ⟨gu_X12, fun _ h => nomatch h⟩⟩⟩
theorem hi_dm_X12_end_X12 : ∀ w ∈ u_ws RX12 TX12 12, w ∈ ow_dm_X12_end := fun w h => List.mem_cons_of_mem _ (List.mem_append_right _ (List.mem_append_left _ h))
def dj_X12_end_17 (p : Program) (l : Launch) (e : Env) (s : State) (m : MethodId) (args : Array Value) (below : List Frame) (meth : Method) (c : Code) (Q : State → Prop) (A : Nat → Prop) (dC : Nat → ClassId) (dI : Nat → Nat → Nat) (a : Nat → Nat) (ac : Nat → ClassId) (g : (St × Rw × (St) × (St × (St)) × (St) × (St × (St × (St × (St)))) × (St) × (St) × (Nat → St) × (Nat → St) × (Nat → St × (St))) → Option (Int32 × (St × Rw × (St) × (St × (St)) × (St) × (St × (St × (St × (St)))) × (St) × (St) × (Nat → St) × (Nat → St) × (Nat → St × (St))))) (r : Int32 × (St × Rw × (St) × (St × (St)) × (St) × (St × (St × (St × (St)))) × (St) × (St) × (Nat → St) × (Nat → St) × (Nat → St × (St)))) : Prop := ∀ (s0 : St × Rw × (St) × (St × (St)) × (St) × (St × (St × (St × (St)))) × (St) × (St) × (Nat → St) × (Nat → St) × (Nat → St × (St))) (H : Heap) (locs : List Loc) (ls : Array Slot), g s0 = some r → va_P (dC, dI) vwCl (dw_X12 a ac s0) H → va_D A (dw_X12 a ac s0) → va_S A s.heap H locs → lv_has ls 2 [] → W p l e (headSpec ow_dm_X12_end ({ frames := 0, cells := 0, slots := 0, locals := 0 })).room s m args below meth c H locs 0 0 Q (F0 m 17 ls [])
def dj_X12_end_0 (p : Program) (l : Launch) (e : Env) (s : State) (m : MethodId) (args : Array Value) (below : List Frame) (meth : Method) (c : Code) (Q : State → Prop) (A : Nat → Prop) (dC : Nat → ClassId) (dI : Nat → Nat → Nat) (a : Nat → Nat) (ac : Nat → ClassId) (g : Int32 → (St × Rw × (St) × (St × (St)) × (St) × (St × (St × (St × (St)))) × (St) × (St) × (Nat → St) × (Nat → St) × (Nat → St × (St))) → Option (Int32 × (St × Rw × (St) × (St × (St)) × (St) × (St × (St × (St × (St)))) × (St) × (St) × (Nat → St) × (Nat → St) × (Nat → St × (St))))) (r : Int32 × (St × Rw × (St) × (St × (St)) × (St) × (St × (St × (St × (St)))) × (St) × (St) × (Nat → St) × (Nat → St) × (Nat → St × (St)))) : Prop := ∀ (v0 : Int32) (s0 : St × Rw × (St) × (St × (St)) × (St) × (St × (St × (St × (St)))) × (St) × (St) × (Nat → St) × (Nat → St) × (Nat → St × (St))) (H : Heap) (locs : List Loc) (ls : Array Slot), g v0 s0 = some r → va_P (dC, dI) vwCl (dw_X12 a ac s0) H → va_D A (dw_X12 a ac s0) → va_S A s.heap H locs → lv_has ls 2 [(0, .ref (a 0)), (1, .int v0)] → W p l e (headSpec ow_dm_X12_end ({ frames := 0, cells := 0, slots := 0, locals := 0 })).room s m args below meth c H locs 0 0 Q (F0 m 0 ls [])
set_option maxHeartbeats 40000000 in
set_option maxRecDepth 100000 in
theorem db_X12_end_17 {p : Program} {l : Launch} {e : Env} {s : State} {m : MethodId} {args : Array Value} {below : List Frame} {meth : Method} {c : Code} {Q : State → Prop} {A : Nat → Prop} {dC : Nat → ClassId} {dI : Nat → Nat → Nat} {a : Nat → Nat} {ac : Nat → ClassId} {n : Nat} {r : Int32 × (St × Rw × (St) × (St × (St)) × (St) × (St × (St × (St × (St)))) × (St) × (St) × (Nat → St) × (Nat → St) × (Nat → St × (St)))} (C : nd_C p l s m args c A (dC, dI) cX12_end 2 RX12 ow_dm_X12_end (dk_X12 ac)) (K : nd_Ki p l e (headSpec ow_dm_X12_end ({ frames := 0, cells := 0, slots := 0, locals := 0 })).room s m args below meth c Q A (dC, dI) cX12_end .int (St × Rw × (St) × (St × (St)) × (St) × (St × (St × (St × (St)))) × (St) × (St) × (Nat → St) × (Nat → St) × (Nat → St × (St))) (dw_X12 a ac) r) : dj_X12_end_17 p l e s m args below meth c Q A dC dI a ac (df_X12_end_17 n (a 15) (a 3)) r := by
  obtain ⟨hlt, hx, hb, hml, hown, hts, hN, hA, hK⟩ := id C
  intro s0 H locs ls h hP hD hS hl
  unfold df_X12_end_17 at h
  refine lv_iconst (v := (-1)) hx hb dX12_end_17 (by decide) ?_
  exact K _ _ _ _ _ _ dX12_end_18 rfl (Option.some.inj h).symm hP hD hS
set_option maxHeartbeats 40000000 in
set_option maxRecDepth 100000 in
theorem db_X12_end_0 {p : Program} {l : Launch} {e : Env} {s : State} {m : MethodId} {args : Array Value} {below : List Frame} {meth : Method} {c : Code} {Q : State → Prop} {A : Nat → Prop} {dC : Nat → ClassId} {dI : Nat → Nat → Nat} {a : Nat → Nat} {ac : Nat → ClassId} {n : Nat} {r : Int32 × (St × Rw × (St) × (St × (St)) × (St) × (St × (St × (St × (St)))) × (St) × (St) × (Nat → St) × (Nat → St) × (Nat → St × (St)))} (C : nd_C p l s m args c A (dC, dI) cX12_end 2 RX12 ow_dm_X12_end (dk_X12 ac)) (K : nd_Ki p l e (headSpec ow_dm_X12_end ({ frames := 0, cells := 0, slots := 0, locals := 0 })).room s m args below meth c Q A (dC, dI) cX12_end .int (St × Rw × (St) × (St × (St)) × (St) × (St × (St × (St × (St)))) × (St) × (St) × (Nat → St) × (Nat → St) × (Nat → St × (St))) (dw_X12 a ac) r) : dj_X12_end_0 p l e s m args below meth c Q A dC dI a ac (df_X12_end_0 n (a 15) (a 3)) r := by
  obtain ⟨hlt, hx, hb, hml, hown, hts, hN, hA, hK⟩ := id C
  intro v0 s0 H locs ls h hP hD hS hl
  unfold df_X12_end_0 at h
  refine lv_iload_n hx hb dX12_end_0 rfl (lv_at hl 1 rfl) ?_
  refine lv_if_lt (tgt := 17) hx hb dX12_end_1 (by decide) (fun c1 => ?_) (fun c1 => ?_)
  · have h := nd_pos h c1
    exact (db_X12_end_17 C K)  s0 _ _ _ h hP hD hS (lv_sub hl [] rfl)
  · have h := nd_neg h c1
    refine lv_iload_n hx hb dX12_end_4 rfl (lv_at hl 1 rfl) ?_
    refine lv_bipush (v := 20) hx hb dX12_end_5 (by decide) ?_
    refine lv_icmp_gt (tgt := 17) hx hb dX12_end_7 (by decide) (fun c2 => ?_) (fun c2 => ?_)
    · have h := nd_pos h c2
      exact (db_X12_end_17 C K)  s0 _ _ _ h hP hD hS (lv_sub hl [] rfl)
    · have h := nd_neg h c2
      refine lv_aload_n hx hb dX12_end_10 rfl (lv_at hl 0 rfl) ?_
      refine va_get (D := (dC, dI)) (ci := 13) (v := .int (sI s0.1 1)) (C := RX12) (T := TX12) (N := 12) hx hb hts hi_dm_X12_end_X12 hown hK hP 0 rfl rfl 2 (by decide) (hts (.fieldLink RX12 66 "TimeMachine" "fresh" "Z") (List.mem_of_getElem? (i := 1) rfl)) (fun _ h9 => h9) rfl dX12_end_11 ?_
      refine lv_if_ne (tgt := 19) hx hb dX12_end_14 (by decide) (fun c3 => ?_) (fun c3 => ?_)
      · have h := nd_neg h c3
        refine lv_aload_n hx hb dX12_end_19 rfl (lv_at hl 0 rfl) ?_
        refine lv_dup hx hb dX12_end_20 rfl ?_
        refine va_get (D := (dC, dI)) (ci := 13) (v := .int (sI s0.1 0)) (C := RX12) (T := TX12) (N := 12) hx hb hts hi_dm_X12_end_X12 hown hK hP 0 rfl rfl 1 (by decide) (hts (.fieldLink RX12 58 "TimeMachine" "taped" "I") (List.mem_of_getElem? (i := 2) rfl)) (fun _ h9 => h9) rfl dX12_end_21 ?_
        refine lv_bipush (v := 20) hx hb dX12_end_24 (by decide) ?_
        refine lv_iload_n hx hb dX12_end_26 rfl (lv_at hl 1 rfl) ?_
        refine lv_isub hx hb dX12_end_27 ?_
        refine lv_isub hx hb dX12_end_28 ?_
        refine va_put (D := (dC, dI)) (ci := 13) (v := .int ((sI s0.1 0) - (20 - v0))) (ty := .int) (C := RX12) (T := TX12) (N := 12) hx hb hts hi_dm_X12_end_X12 tyX12 tyX12_ok nmX12 hown hK hP hD hS 0 rfl rfl 1 (by decide) (hts (.fieldLink RX12 58 "TimeMachine" "taped" "I") (List.mem_of_getElem? (i := 2) rfl)) (fun _ h9 => h9) rfl (by decide +kernel) rfl rfl (Nat.le_of_ble_eq_true rfl) dX12_end_29 (fun H locs hP hD hS => ?_)
        obtain ⟨s4, es4, h⟩ := nd_let_e h
        have hP : va_P (dC, dI) vwCl (dw_X12 a ac s4) H := by rw [es4]; exact hP
        have hD : va_D A (dw_X12 a ac s4) := by rw [es4]; exact hD
        refine lv_aload_n hx hb dX12_end_32 rfl (lv_at hl 0 rfl) ?_
        refine lv_iconst (v := 0) hx hb dX12_end_33 (by decide) ?_
        refine va_put (D := (dC, dI)) (ci := 13) (v := .int 0) (ty := .boolean) (C := RX12) (T := TX12) (N := 12) hx hb hts hi_dm_X12_end_X12 tyX12 tyX12_ok nmX12 hown hK hP hD hS 0 rfl rfl 2 (by decide) (hts (.fieldLink RX12 66 "TimeMachine" "fresh" "Z") (List.mem_of_getElem? (i := 1) rfl)) (fun _ h9 => h9) rfl (by decide +kernel) (by first | rfl | decide) rfl (Nat.le_of_ble_eq_true rfl) dX12_end_34 (fun H locs hP hD hS => ?_)
        obtain ⟨s5, es5, h⟩ := nd_let_e h
        have hP : va_P (dC, dI) vwCl (dw_X12 a ac s5) H := by rw [es5]; exact hP
        have hD : va_D A (dw_X12 a ac s5) := by rw [es5]; exact hD
        refine lv_aload_n hx hb dX12_end_37 rfl (lv_at hl 0 rfl) ?_
        refine va_get (D := (dC, dI)) (ci := 13) (v := .int (sI s5.1 0)) (C := RX12) (T := TX12) (N := 12) hx hb hts hi_dm_X12_end_X12 hown hK hP 0 rfl rfl 1 (by decide) (hts (.fieldLink RX12 58 "TimeMachine" "taped" "I") (List.mem_of_getElem? (i := 2) rfl)) (fun _ h9 => h9) rfl dX12_end_38 ?_
        exact K _ _ _ _ _ _ dX12_end_41 rfl (Option.some.inj h).symm hP hD hS
      · have h := nd_pos h c3
        exact (db_X12_end_17 C K)  s0 _ _ _ h hP hD hS (lv_sub hl [] rfl)
set_option maxHeartbeats 40000000 in
set_option maxRecDepth 100000 in
theorem dm_X12_end (l : Launch) (hlt : l.stackTraces = false) (dC : Nat → ClassId) (dI : Nat → Nat → Nat) (a : Nat → Nat) (ac : Nat → ClassId) (n : Nat) (v0 : Int32) (s0 : St × Rw × (St) × (St × (St)) × (St) × (St × (St × (St × (St)))) × (St) × (St) × (Nat → St) × (Nat → St) × (Nat → St × (St))) {r : Int32 × (St × Rw × (St) × (St × (St)) × (St) × (St × (St × (St × (St)))) × (St) × (St) × (Nat → St) × (Nat → St) × (Nat → St × (St)))} (h : df_X12_end n (a 15) (a 3) v0 s0 = some r) (sz : Nat) : Met l yX12_end ow_dm_X12_end ({ frames := 0, cells := 0, slots := 0, locals := 0 }) (va_Pc [.ref (a 0), .int v0] (fun U => U.heap.size = sz ∧ va_P (dC, dI) vwCl (dw_X12 a ac s0) U.heap ∧ va_K (dC, dI) vwCl (dk_X12 ac) U ∧ va_D (fun _ => True) (dw_X12 a ac s0) ∧ nv_E (va_A (dw_X12 a ac s0) sz) U)) (va_Qi (fun x _ => x = r.1) (fun (_ : Unit) t => va_P (dC, dI) vwCl (dw_X12 a ac r.2) t.heap ∧ va_K (dC, dI) vwCl (dk_X12 ac) t ∧ va_D (va_A (dw_X12 a ac s0) sz) (dw_X12 a ac r.2)) (va_A (dw_X12 a ac s0) sz)) 0 0 (va_A (dw_X12 a ac s0) sz) := by
  refine Met.ofW (cc := cX12_end) (maxL := 2) (ret := (some .int)) (by decide) rfl ?_
  intro p e s m args below meth c s₁ B hml hv
  obtain ⟨rfl, hsz, hP, hK, hD0, hN⟩ := hv
  have hx := B.exec
  have hb := B.bytes
  have hr := B.returns
  have hts := atoms_spec (ws := ow_dm_X12_end) B.pre
  have hown : s.vm.findClass RX12 = some m.cls := findClass_of_methodNamed B.named
  have hlocks := B.notSynchronized
  subst hsz
  have hD := hD0.self (sz := s.heap.size)
  generalize hAe : va_A (dw_X12 a ac s0) s.heap.size = A at hD hN ⊢
  have hA : ∀ q : Nat, s.heap.size ≤ q → A q := fun q h => by rw [← hAe]; exact Or.inr h
  have hl := lv_entry ([.ref (a 0), .int v0]) (n := 2) (Nat.le_of_ble_eq_true rfl)
  rw [lg_entry_eq]
  generalize (lg_sl ([.ref (a 0), .int v0]) ++ List.replicate (2 - (lg_sl ([.ref (a 0), .int v0])).length) Slot.unset).toArray = ls at hl ⊢
  have hl : lv_has ls 2 [(0, .ref (a 0)), (1, .int v0)] := hl
  exact db_X12_end_0 (dC := dC) (dI := dI) (a := a) (ac := ac) (n := n) (r := r) ⟨hlt, hx, hb, hml, hown, hts, hN, hA, hK⟩ (fun pc v τ H locs ls d z er hP hD hS => by subst er; exact W.zret (v := v) hx hb hr z (fun t ht hW => ⟨⟨v, (), rfl, rfl, by rw [ht]; exact hP, va_K.moved hW.alike hK, hD⟩, hS.F ht⟩) hS.2.2 d) v0 s0 _ _ _ h hP hD va_S.rf (lv_sub hl [0, 1] rfl)
def ow_dm_X12_isUsedProgram : List Cond := .code yX12_isUsedProgram cX12_isUsedProgram 3 (some .boolean) :: ([.fieldLink RX12 16 "TimeMachine" "programs" "[LTimeMachine$Program;", .fieldLink RX12 33 "TimeMachine" "timeline" "LTimeMachine$Timeline;", .fieldLink RX12 297 "TimeMachine$Timeline" "programs" "[LTimeMachine$Program;"] ++ (u_ws RX12 TX12 12 ++ (u_ws RX11 TX11 16 ++ [])))
theorem gd_dm_X12_isUsedProgram : ∀ w ∈ ow_dm_X12_isUsedProgram, (w.onTables && w.keeps) = true ∨ ∃ ty, w = Cond.arrayClass ty := List.forall_mem_cons.mpr ⟨good_of_word rfl, List.forall_mem_append.mpr ⟨fun w h => good_of_word (List.all_eq_true.mp (by decide +kernel) w h), List.forall_mem_append.mpr ⟨gu_X12, List.forall_mem_append.mpr ⟨gu_X11, fun _ h => nomatch h⟩⟩⟩⟩
theorem hi_dm_X12_isUsedProgram_X12 : ∀ w ∈ u_ws RX12 TX12 12, w ∈ ow_dm_X12_isUsedProgram := fun w h => List.mem_cons_of_mem _ (List.mem_append_right _ (List.mem_append_left _ h))
theorem hi_dm_X12_isUsedProgram_X11 : ∀ w ∈ u_ws RX11 TX11 16, w ∈ ow_dm_X12_isUsedProgram := fun w h => List.mem_cons_of_mem _ (List.mem_append_right _ (List.mem_append_right _ (List.mem_append_left _ h)))
def dj_X12_isUsedProgram_30 (p : Program) (l : Launch) (e : Env) (s : State) (m : MethodId) (args : Array Value) (below : List Frame) (meth : Method) (c : Code) (Q : State → Prop) (A : Nat → Prop) (dC : Nat → ClassId) (dI : Nat → Nat → Nat) (a : Nat → Nat) (ac : Nat → ClassId) (g : (St × Rw × (St) × (St × (St)) × (St) × (St × (St × (St × (St)))) × (St) × (St) × (Nat → St) × (Nat → St) × (Nat → St × (St))) → Option (Int32 × (St × Rw × (St) × (St × (St)) × (St) × (St × (St × (St × (St)))) × (St) × (St) × (Nat → St) × (Nat → St) × (Nat → St × (St))))) (r : Int32 × (St × Rw × (St) × (St × (St)) × (St) × (St × (St × (St × (St)))) × (St) × (St) × (Nat → St) × (Nat → St) × (Nat → St × (St)))) : Prop := ∀ (s0 : St × Rw × (St) × (St × (St)) × (St) × (St × (St × (St × (St)))) × (St) × (St) × (Nat → St) × (Nat → St) × (Nat → St × (St))) (H : Heap) (locs : List Loc) (ls : Array Slot), g s0 = some r → va_P (dC, dI) vwCl (dw_X12 a ac s0) H → va_D A (dw_X12 a ac s0) → va_S A s.heap H locs → lv_has ls 3 [] → W p l e (headSpec ow_dm_X12_isUsedProgram ({ frames := 0, cells := 0, slots := 0, locals := 0 })).room s m args below meth c H locs 0 0 Q (F0 m 30 ls [])
def dj_X12_isUsedProgram_2 (p : Program) (l : Launch) (e : Env) (s : State) (m : MethodId) (args : Array Value) (below : List Frame) (meth : Method) (c : Code) (Q : State → Prop) (A : Nat → Prop) (dC : Nat → ClassId) (dI : Nat → Nat → Nat) (a : Nat → Nat) (ac : Nat → ClassId) (g : Nat → Int32 → (St × Rw × (St) × (St × (St)) × (St) × (St × (St × (St × (St)))) × (St) × (St) × (Nat → St) × (Nat → St) × (Nat → St × (St))) → Option (Int32 × (St × Rw × (St) × (St × (St)) × (St) × (St × (St × (St × (St)))) × (St) × (St) × (Nat → St) × (Nat → St) × (Nat → St × (St))))) (r : Int32 × (St × Rw × (St) × (St × (St)) × (St) × (St × (St × (St × (St)))) × (St) × (St) × (Nat → St) × (Nat → St) × (Nat → St × (St)))) : Prop := ∀ (x1 : Nat) (x2 : Int32) (s0 : St × Rw × (St) × (St × (St)) × (St) × (St × (St × (St × (St)))) × (St) × (St) × (Nat → St) × (Nat → St) × (Nat → St × (St))) (H : Heap) (locs : List Loc) (ls : Array Slot), g x1 x2 s0 = some r → va_P (dC, dI) vwCl (dw_X12 a ac s0) H → va_D A (dw_X12 a ac s0) → va_S A s.heap H locs → lv_has ls 3 [(0, .ref (a 0)), (1, .ref (a (0 + x1 * 5 + 57))), (2, .int x2)] → W p l e (headSpec ow_dm_X12_isUsedProgram ({ frames := 0, cells := 0, slots := 0, locals := 0 })).room s m args below meth c H locs 0 0 Q (F0 m 2 ls [])
def dj_X12_isUsedProgram_0 (p : Program) (l : Launch) (e : Env) (s : State) (m : MethodId) (args : Array Value) (below : List Frame) (meth : Method) (c : Code) (Q : State → Prop) (A : Nat → Prop) (dC : Nat → ClassId) (dI : Nat → Nat → Nat) (a : Nat → Nat) (ac : Nat → ClassId) (g : Nat → (St × Rw × (St) × (St × (St)) × (St) × (St × (St × (St × (St)))) × (St) × (St) × (Nat → St) × (Nat → St) × (Nat → St × (St))) → Option (Int32 × (St × Rw × (St) × (St × (St)) × (St) × (St × (St × (St × (St)))) × (St) × (St) × (Nat → St) × (Nat → St) × (Nat → St × (St))))) (r : Int32 × (St × Rw × (St) × (St × (St)) × (St) × (St × (St × (St × (St)))) × (St) × (St) × (Nat → St) × (Nat → St) × (Nat → St × (St)))) : Prop := ∀ (v0 : Nat) (s0 : St × Rw × (St) × (St × (St)) × (St) × (St × (St × (St × (St)))) × (St) × (St) × (Nat → St) × (Nat → St) × (Nat → St × (St))) (H : Heap) (locs : List Loc) (ls : Array Slot), g v0 s0 = some r → va_P (dC, dI) vwCl (dw_X12 a ac s0) H → va_D A (dw_X12 a ac s0) → va_S A s.heap H locs → lv_has ls 3 [(0, .ref (a 0)), (1, .ref (a (0 + v0 * 5 + 57)))] → W p l e (headSpec ow_dm_X12_isUsedProgram ({ frames := 0, cells := 0, slots := 0, locals := 0 })).room s m args below meth c H locs 0 0 Q (F0 m 0 ls [])
set_option maxHeartbeats 40000000 in
set_option maxRecDepth 100000 in
theorem db_X12_isUsedProgram_30 {p : Program} {l : Launch} {e : Env} {s : State} {m : MethodId} {args : Array Value} {below : List Frame} {meth : Method} {c : Code} {Q : State → Prop} {A : Nat → Prop} {dC : Nat → ClassId} {dI : Nat → Nat → Nat} {a : Nat → Nat} {ac : Nat → ClassId} {n : Nat} {r : Int32 × (St × Rw × (St) × (St × (St)) × (St) × (St × (St × (St × (St)))) × (St) × (St) × (Nat → St) × (Nat → St) × (Nat → St × (St)))} (C : nd_C p l s m args c A (dC, dI) cX12_isUsedProgram 3 RX12 ow_dm_X12_isUsedProgram (dk_X12 ac)) (K : nd_Ki p l e (headSpec ow_dm_X12_isUsedProgram ({ frames := 0, cells := 0, slots := 0, locals := 0 })).room s m args below meth c Q A (dC, dI) cX12_isUsedProgram .boolean (St × Rw × (St) × (St × (St)) × (St) × (St × (St × (St × (St)))) × (St) × (St) × (Nat → St) × (Nat → St) × (Nat → St × (St))) (dw_X12 a ac) r) : dj_X12_isUsedProgram_30 p l e s m args below meth c Q A dC dI a ac (df_X12_isUsedProgram_30 n (a 15) (a 3)) r := by
  obtain ⟨hlt, hx, hb, hml, hown, hts, hN, hA, hK⟩ := id C
  intro s0 H locs ls h hP hD hS hl
  unfold df_X12_isUsedProgram_30 at h
  refine lv_iconst (v := 1) hx hb dX12_isUsedProgram_30 (by decide) ?_
  exact K _ _ _ _ _ _ dX12_isUsedProgram_31 (by first | rfl | decide) (Option.some.inj h).symm hP hD hS
set_option maxHeartbeats 40000000 in
set_option maxRecDepth 100000 in
theorem dB_X12_isUsedProgram_2 {p : Program} {l : Launch} {e : Env} {s : State} {m : MethodId} {args : Array Value} {below : List Frame} {meth : Method} {c : Code} {Q : State → Prop} {A : Nat → Prop} {dC : Nat → ClassId} {dI : Nat → Nat → Nat} {a : Nat → Nat} {ac : Nat → ClassId} {n : Nat} {r : Int32 × (St × Rw × (St) × (St × (St)) × (St) × (St × (St × (St × (St)))) × (St) × (St) × (Nat → St) × (Nat → St) × (Nat → St × (St)))} (C : nd_C p l s m args c A (dC, dI) cX12_isUsedProgram 3 RX12 ow_dm_X12_isUsedProgram (dk_X12 ac)) (K : nd_Ki p l e (headSpec ow_dm_X12_isUsedProgram ({ frames := 0, cells := 0, slots := 0, locals := 0 })).room s m args below meth c Q A (dC, dI) cX12_isUsedProgram .boolean (St × Rw × (St) × (St × (St)) × (St) × (St × (St × (St × (St)))) × (St) × (St) × (Nat → St) × (Nat → St) × (Nat → St × (St))) (dw_X12 a ac) r) {g2 : Nat → Int32 → (St × Rw × (St) × (St × (St)) × (St) × (St × (St × (St × (St)))) × (St) × (St) × (Nat → St) × (Nat → St) × (Nat → St × (St))) → Option (Int32 × (St × Rw × (St) × (St × (St)) × (St) × (St × (St × (St × (St)))) × (St) × (St) × (Nat → St) × (Nat → St) × (Nat → St × (St))))} (J2 : dj_X12_isUsedProgram_2 p l e s m args below meth c Q A dC dI a ac g2 r) : dj_X12_isUsedProgram_2 p l e s m args below meth c Q A dC dI a ac (dF_X12_isUsedProgram_2 n (a 15) (a 3) g2) r := by
  obtain ⟨hlt, hx, hb, hml, hown, hts, hN, hA, hK⟩ := id C
  intro x1 x2 s0 H locs ls h hP hD hS hl
  unfold dF_X12_isUsedProgram_2 at h
  refine lv_iload_n hx hb dX12_isUsedProgram_2 rfl (lv_at hl 2 rfl) ?_
  refine lv_iconst (v := 4) hx hb dX12_isUsedProgram_3 (by decide) ?_
  refine lv_icmp_ge (tgt := 38) hx hb dX12_isUsedProgram_4 (by decide) (fun c1 => ?_) (fun c1 => ?_)
  · have h := nd_pos h c1
    refine lv_iconst (v := 0) hx hb dX12_isUsedProgram_38 (by decide) ?_
    exact K _ _ _ _ _ _ dX12_isUsedProgram_39 (by first | rfl | decide) (Option.some.inj h).symm hP hD hS
  · have h := nd_neg h c1
    refine lv_aload_n hx hb dX12_isUsedProgram_7 rfl (lv_at hl 0 rfl) ?_
    refine va_get (D := (dC, dI)) (ci := 13) (v := .ref (a 54)) (C := RX12) (T := TX12) (N := 12) hx hb hts hi_dm_X12_isUsedProgram_X12 hown hK hP 0 rfl rfl 3 (by decide) (hts (.fieldLink RX12 16 "TimeMachine" "programs" "[LTimeMachine$Program;") (List.mem_of_getElem? (i := 1) rfl)) (fun _ h9 => h9) rfl dX12_isUsedProgram_8 ?_
    refine lv_iload_n hx hb dX12_isUsedProgram_11 rfl (lv_at hl 2 rfl) ?_
    obtain ⟨i2, h⟩ := nd_ck_e h
    refine va_aldq (i := x2) hx hb hK hP 54 44 rfl rfl i2 dX12_isUsedProgram_12 ?_
    cases hrj3 : s0.2.1 1 (Int32.toNatClampNeg x2) with
    | none =>
      have h := nd_mN h hrj3
      refine W.eq (g2 := F0 m 13 ls [.null]) (by first | rfl | (show F0 m _ ls (va_rf (Option.map (fun j => a (0 + j * 5 + 57)) (s0.2.1 1 (Int32.toNatClampNeg x2))) :: _) = _; rw [hrj3]; rfl)) ?_
      refine lv_aload_n hx hb dX12_isUsedProgram_13 rfl (lv_at hl 1 rfl) ?_
      refine W.eq (g2 := F0 m 14 ls [va_rf (some (a (0 + x1 * 5 + 57))), va_rf (none)]) rfl ?_
      refine lv_acmp_eq (tgt := 30) hx hb dX12_isUsedProgram_14 (by decide) (fun h9 => absurd h9 (by simp)) (fun _ => ?_)
      refine lv_aload_n hx hb dX12_isUsedProgram_17 rfl (lv_at hl 0 rfl) ?_
      refine va_get (D := (dC, dI)) (ci := 13) (v := .ref (a 16)) (C := RX12) (T := TX12) (N := 12) hx hb hts hi_dm_X12_isUsedProgram_X12 hown hK hP 0 rfl rfl 6 (by decide) (hts (.fieldLink RX12 33 "TimeMachine" "timeline" "LTimeMachine$Timeline;") (List.mem_of_getElem? (i := 2) rfl)) (fun _ h9 => h9) rfl dX12_isUsedProgram_18 ?_
      refine va_get (D := (dC, dI)) (ci := 12) (v := .ref (a 53)) (C := RX11) (T := TX11) (N := 16) hx hb hts hi_dm_X12_isUsedProgram_X11 hown hK hP 16 rfl rfl 0 (by decide) (hts (.fieldLink RX12 297 "TimeMachine$Timeline" "programs" "[LTimeMachine$Program;") (List.mem_of_getElem? (i := 3) rfl)) (fun _ h9 => h9) rfl dX12_isUsedProgram_21 ?_
      refine lv_iload_n hx hb dX12_isUsedProgram_24 rfl (lv_at hl 2 rfl) ?_
      obtain ⟨i4, h⟩ := nd_ck_e h
      refine va_aldq (i := x2) hx hb hK hP 53 43 rfl rfl i4 dX12_isUsedProgram_25 ?_
      cases hrj5 : s0.2.1 0 (Int32.toNatClampNeg x2) with
      | none =>
        have h := nd_mN h hrj5
        refine W.eq (g2 := F0 m 26 ls [.null]) (by first | rfl | (show F0 m _ ls (va_rf (Option.map (fun j => a (0 + j * 5 + 57)) (s0.2.1 0 (Int32.toNatClampNeg x2))) :: _) = _; rw [hrj5]; rfl)) ?_
        refine lv_aload_n hx hb dX12_isUsedProgram_26 rfl (lv_at hl 1 rfl) ?_
        refine W.eq (g2 := F0 m 27 ls [va_rf (some (a (0 + x1 * 5 + 57))), va_rf (none)]) rfl ?_
        refine lv_acmp_ne (tgt := 32) hx hb dX12_isUsedProgram_27 (by decide) (fun _ => ?_) (fun h9 => absurd h9 (by simp))
        obtain ⟨z6, ez6, h⟩ := nd_let_e h
        refine lv_iinc (v := z6) (lv' := [(2, .int z6), (0, .ref (a 0)), (1, .ref (a (0 + x1 * 5 + 57)))]) hx hb dX12_isUsedProgram_32 hl (k := 2) rfl (by rw [ez6]) (by decide) rfl (fun ls hl => ?_)
        refine lv_goto (tgt := 2) hx hb dX12_isUsedProgram_35 (by decide) ?_
        exact (J2) (x1) (z6) s0 _ _ _ h hP hD hS (lv_sub hl [1, 2, 0] rfl)
      | some j5 =>
        have h := nd_mS h hrj5
        refine W.eq (g2 := F0 m 26 ls [.ref (a (0 + j5 * 5 + 57))]) (by first | rfl | (show F0 m _ ls (va_rf (Option.map (fun j => a (0 + j * 5 + 57)) (s0.2.1 0 (Int32.toNatClampNeg x2))) :: _) = _; rw [hrj5]; rfl)) ?_
        refine lv_aload_n hx hb dX12_isUsedProgram_26 rfl (lv_at hl 1 rfl) ?_
        refine W.eq (g2 := F0 m 27 ls [va_rf (some (a (0 + x1 * 5 + 57))), va_rf (some (a (0 + j5 * 5 + 57)))]) rfl ?_
        obtain ⟨l7, h⟩ := nd_lt_e h
        obtain ⟨l8, h⟩ := nd_lt_e h
        refine lv_acmp_ne (tgt := 32) hx hb dX12_isUsedProgram_27 (by decide) (fun c9 => ?_) (fun c9 => ?_)
        · have c9 : ¬ j5 = x1 := fun e9 => c9 (by rw [e9])
          have h := nd_neg h c9
          obtain ⟨z10, ez10, h⟩ := nd_let_e h
          refine lv_iinc (v := z10) (lv' := [(2, .int z10), (0, .ref (a 0)), (1, .ref (a (0 + x1 * 5 + 57)))]) hx hb dX12_isUsedProgram_32 hl (k := 2) rfl (by rw [ez10]) (by decide) rfl (fun ls hl => ?_)
          refine lv_goto (tgt := 2) hx hb dX12_isUsedProgram_35 (by decide) ?_
          exact (J2) (x1) (z10) s0 _ _ _ h hP hD hS (lv_sub hl [1, 2, 0] rfl)
        · have c9 : j5 = x1 := di_X12_P8 l7 l8 hD (Option.some.inj c9)
          have h := nd_pos h c9
          exact (db_X12_isUsedProgram_30 C K)  s0 _ _ _ h hP hD hS (lv_sub hl [] rfl)
    | some j3 =>
      have h := nd_mS h hrj3
      refine W.eq (g2 := F0 m 13 ls [.ref (a (0 + j3 * 5 + 57))]) (by first | rfl | (show F0 m _ ls (va_rf (Option.map (fun j => a (0 + j * 5 + 57)) (s0.2.1 1 (Int32.toNatClampNeg x2))) :: _) = _; rw [hrj3]; rfl)) ?_
      refine lv_aload_n hx hb dX12_isUsedProgram_13 rfl (lv_at hl 1 rfl) ?_
      refine W.eq (g2 := F0 m 14 ls [va_rf (some (a (0 + x1 * 5 + 57))), va_rf (some (a (0 + j3 * 5 + 57)))]) rfl ?_
      obtain ⟨l11, h⟩ := nd_lt_e h
      obtain ⟨l12, h⟩ := nd_lt_e h
      refine lv_acmp_eq (tgt := 30) hx hb dX12_isUsedProgram_14 (by decide) (fun c13 => ?_) (fun c13 => ?_)
      · have c13 : j3 = x1 := di_X12_P8 l11 l12 hD (Option.some.inj c13)
        have h := nd_pos h c13
        exact (db_X12_isUsedProgram_30 C K)  s0 _ _ _ h hP hD hS (lv_sub hl [] rfl)
      · have c13 : ¬ j3 = x1 := fun e9 => c13 (by rw [e9])
        have h := nd_neg h c13
        refine lv_aload_n hx hb dX12_isUsedProgram_17 rfl (lv_at hl 0 rfl) ?_
        refine va_get (D := (dC, dI)) (ci := 13) (v := .ref (a 16)) (C := RX12) (T := TX12) (N := 12) hx hb hts hi_dm_X12_isUsedProgram_X12 hown hK hP 0 rfl rfl 6 (by decide) (hts (.fieldLink RX12 33 "TimeMachine" "timeline" "LTimeMachine$Timeline;") (List.mem_of_getElem? (i := 2) rfl)) (fun _ h9 => h9) rfl dX12_isUsedProgram_18 ?_
        refine va_get (D := (dC, dI)) (ci := 12) (v := .ref (a 53)) (C := RX11) (T := TX11) (N := 16) hx hb hts hi_dm_X12_isUsedProgram_X11 hown hK hP 16 rfl rfl 0 (by decide) (hts (.fieldLink RX12 297 "TimeMachine$Timeline" "programs" "[LTimeMachine$Program;") (List.mem_of_getElem? (i := 3) rfl)) (fun _ h9 => h9) rfl dX12_isUsedProgram_21 ?_
        refine lv_iload_n hx hb dX12_isUsedProgram_24 rfl (lv_at hl 2 rfl) ?_
        obtain ⟨i14, h⟩ := nd_ck_e h
        refine va_aldq (i := x2) hx hb hK hP 53 43 rfl rfl i14 dX12_isUsedProgram_25 ?_
        cases hrj15 : s0.2.1 0 (Int32.toNatClampNeg x2) with
        | none =>
          have h := nd_mN h hrj15
          refine W.eq (g2 := F0 m 26 ls [.null]) (by first | rfl | (show F0 m _ ls (va_rf (Option.map (fun j => a (0 + j * 5 + 57)) (s0.2.1 0 (Int32.toNatClampNeg x2))) :: _) = _; rw [hrj15]; rfl)) ?_
          refine lv_aload_n hx hb dX12_isUsedProgram_26 rfl (lv_at hl 1 rfl) ?_
          refine W.eq (g2 := F0 m 27 ls [va_rf (some (a (0 + x1 * 5 + 57))), va_rf (none)]) rfl ?_
          refine lv_acmp_ne (tgt := 32) hx hb dX12_isUsedProgram_27 (by decide) (fun _ => ?_) (fun h9 => absurd h9 (by simp))
          obtain ⟨z16, ez16, h⟩ := nd_let_e h
          refine lv_iinc (v := z16) (lv' := [(2, .int z16), (0, .ref (a 0)), (1, .ref (a (0 + x1 * 5 + 57)))]) hx hb dX12_isUsedProgram_32 hl (k := 2) rfl (by rw [ez16]) (by decide) rfl (fun ls hl => ?_)
          refine lv_goto (tgt := 2) hx hb dX12_isUsedProgram_35 (by decide) ?_
          exact (J2) (x1) (z16) s0 _ _ _ h hP hD hS (lv_sub hl [1, 2, 0] rfl)
        | some j15 =>
          have h := nd_mS h hrj15
          refine W.eq (g2 := F0 m 26 ls [.ref (a (0 + j15 * 5 + 57))]) (by first | rfl | (show F0 m _ ls (va_rf (Option.map (fun j => a (0 + j * 5 + 57)) (s0.2.1 0 (Int32.toNatClampNeg x2))) :: _) = _; rw [hrj15]; rfl)) ?_
          refine lv_aload_n hx hb dX12_isUsedProgram_26 rfl (lv_at hl 1 rfl) ?_
          refine W.eq (g2 := F0 m 27 ls [va_rf (some (a (0 + x1 * 5 + 57))), va_rf (some (a (0 + j15 * 5 + 57)))]) rfl ?_
          obtain ⟨l17, h⟩ := nd_lt_e h
          refine lv_acmp_ne (tgt := 32) hx hb dX12_isUsedProgram_27 (by decide) (fun c18 => ?_) (fun c18 => ?_)
          · have c18 : ¬ j15 = x1 := fun e9 => c18 (by rw [e9])
            have h := nd_neg h c18
            obtain ⟨z19, ez19, h⟩ := nd_let_e h
            refine lv_iinc (v := z19) (lv' := [(2, .int z19), (0, .ref (a 0)), (1, .ref (a (0 + x1 * 5 + 57)))]) hx hb dX12_isUsedProgram_32 hl (k := 2) rfl (by rw [ez19]) (by decide) rfl (fun ls hl => ?_)
            refine lv_goto (tgt := 2) hx hb dX12_isUsedProgram_35 (by decide) ?_
            exact (J2) (x1) (z19) s0 _ _ _ h hP hD hS (lv_sub hl [1, 2, 0] rfl)
          · have c18 : j15 = x1 := di_X12_P8 l17 l12 hD (Option.some.inj c18)
            have h := nd_pos h c18
            exact (db_X12_isUsedProgram_30 C K)  s0 _ _ _ h hP hD hS (lv_sub hl [] rfl)
set_option maxHeartbeats 40000000 in
set_option maxRecDepth 100000 in
theorem db_X12_isUsedProgram_2 {p : Program} {l : Launch} {e : Env} {s : State} {m : MethodId} {args : Array Value} {below : List Frame} {meth : Method} {c : Code} {Q : State → Prop} {A : Nat → Prop} {dC : Nat → ClassId} {dI : Nat → Nat → Nat} {a : Nat → Nat} {ac : Nat → ClassId} {n : Nat} {r : Int32 × (St × Rw × (St) × (St × (St)) × (St) × (St × (St × (St × (St)))) × (St) × (St) × (Nat → St) × (Nat → St) × (Nat → St × (St)))} (C : nd_C p l s m args c A (dC, dI) cX12_isUsedProgram 3 RX12 ow_dm_X12_isUsedProgram (dk_X12 ac)) (K : nd_Ki p l e (headSpec ow_dm_X12_isUsedProgram ({ frames := 0, cells := 0, slots := 0, locals := 0 })).room s m args below meth c Q A (dC, dI) cX12_isUsedProgram .boolean (St × Rw × (St) × (St × (St)) × (St) × (St × (St × (St × (St)))) × (St) × (St) × (Nat → St) × (Nat → St) × (Nat → St × (St))) (dw_X12 a ac) r) (k : Nat) : dj_X12_isUsedProgram_2 p l e s m args below meth c Q A dC dI a ac (df_X12_isUsedProgram_2 n (a 15) (a 3) k) r := by
  induction k with
  | zero => intro x1 x2 s0 H locs ls h; exact nomatch (show (none : Option (Int32 × (St × Rw × (St) × (St × (St)) × (St) × (St × (St × (St × (St)))) × (St) × (St) × (Nat → St) × (Nat → St) × (Nat → St × (St))))) = some r from h)
  | succ k ih => exact dB_X12_isUsedProgram_2 C K ih
set_option maxHeartbeats 40000000 in
set_option maxRecDepth 100000 in
theorem db_X12_isUsedProgram_0 {p : Program} {l : Launch} {e : Env} {s : State} {m : MethodId} {args : Array Value} {below : List Frame} {meth : Method} {c : Code} {Q : State → Prop} {A : Nat → Prop} {dC : Nat → ClassId} {dI : Nat → Nat → Nat} {a : Nat → Nat} {ac : Nat → ClassId} {n : Nat} {r : Int32 × (St × Rw × (St) × (St × (St)) × (St) × (St × (St × (St × (St)))) × (St) × (St) × (Nat → St) × (Nat → St) × (Nat → St × (St)))} (C : nd_C p l s m args c A (dC, dI) cX12_isUsedProgram 3 RX12 ow_dm_X12_isUsedProgram (dk_X12 ac)) (K : nd_Ki p l e (headSpec ow_dm_X12_isUsedProgram ({ frames := 0, cells := 0, slots := 0, locals := 0 })).room s m args below meth c Q A (dC, dI) cX12_isUsedProgram .boolean (St × Rw × (St) × (St × (St)) × (St) × (St × (St × (St × (St)))) × (St) × (St) × (Nat → St) × (Nat → St) × (Nat → St × (St))) (dw_X12 a ac) r) : dj_X12_isUsedProgram_0 p l e s m args below meth c Q A dC dI a ac (df_X12_isUsedProgram_0 n (a 15) (a 3)) r := by
  obtain ⟨hlt, hx, hb, hml, hown, hts, hN, hA, hK⟩ := id C
  intro v0 s0 H locs ls h hP hD hS hl
  unfold df_X12_isUsedProgram_0 at h
  refine lv_iconst (v := 0) hx hb dX12_isUsedProgram_0 (by decide) ?_
  refine lv_istore_n (lv' := [(2, .int 0), (0, .ref (a 0)), (1, .ref (a (0 + v0 * 5 + 57)))]) hx hb dX12_isUsedProgram_1 rfl hl (by decide) rfl (fun ls hl => ?_)
  exact (db_X12_isUsedProgram_2 C K n) (v0) (0) s0 _ _ _ h hP hD hS (lv_sub hl [1, 2, 0] rfl)
set_option maxHeartbeats 40000000 in
set_option maxRecDepth 100000 in
theorem dm_X12_isUsedProgram (l : Launch) (hlt : l.stackTraces = false) (dC : Nat → ClassId) (dI : Nat → Nat → Nat) (a : Nat → Nat) (ac : Nat → ClassId) (n : Nat) (v0 : Nat) (s0 : St × Rw × (St) × (St × (St)) × (St) × (St × (St × (St × (St)))) × (St) × (St) × (Nat → St) × (Nat → St) × (Nat → St × (St))) {r : Int32 × (St × Rw × (St) × (St × (St)) × (St) × (St × (St × (St × (St)))) × (St) × (St) × (Nat → St) × (Nat → St) × (Nat → St × (St)))} (h : df_X12_isUsedProgram n (a 15) (a 3) v0 s0 = some r) (sz : Nat) : Met l yX12_isUsedProgram ow_dm_X12_isUsedProgram ({ frames := 0, cells := 0, slots := 0, locals := 0 }) (va_Pc [.ref (a 0), .ref (a (0 + v0 * 5 + 57))] (fun U => U.heap.size = sz ∧ va_P (dC, dI) vwCl (dw_X12 a ac s0) U.heap ∧ va_K (dC, dI) vwCl (dk_X12 ac) U ∧ va_D (fun _ => True) (dw_X12 a ac s0) ∧ nv_E (va_A (dw_X12 a ac s0) sz) U)) (va_Qi (fun x _ => x = r.1) (fun (_ : Unit) t => va_P (dC, dI) vwCl (dw_X12 a ac r.2) t.heap ∧ va_K (dC, dI) vwCl (dk_X12 ac) t ∧ va_D (va_A (dw_X12 a ac s0) sz) (dw_X12 a ac r.2)) (va_A (dw_X12 a ac s0) sz)) 0 0 (va_A (dw_X12 a ac s0) sz) := by
  refine Met.ofW (cc := cX12_isUsedProgram) (maxL := 3) (ret := (some .boolean)) (by decide) rfl ?_
  intro p e s m args below meth c s₁ B hml hv
  obtain ⟨rfl, hsz, hP, hK, hD0, hN⟩ := hv
  have hx := B.exec
  have hb := B.bytes
  have hr := B.returns
  have hts := atoms_spec (ws := ow_dm_X12_isUsedProgram) B.pre
  have hown : s.vm.findClass RX12 = some m.cls := findClass_of_methodNamed B.named
  have hlocks := B.notSynchronized
  subst hsz
  have hD := hD0.self (sz := s.heap.size)
  generalize hAe : va_A (dw_X12 a ac s0) s.heap.size = A at hD hN ⊢
  have hA : ∀ q : Nat, s.heap.size ≤ q → A q := fun q h => by rw [← hAe]; exact Or.inr h
  have hl := lv_entry ([.ref (a 0), .ref (a (0 + v0 * 5 + 57))]) (n := 3) (Nat.le_of_ble_eq_true rfl)
  rw [lg_entry_eq]
  generalize (lg_sl ([.ref (a 0), .ref (a (0 + v0 * 5 + 57))]) ++ List.replicate (3 - (lg_sl ([.ref (a 0), .ref (a (0 + v0 * 5 + 57))])).length) Slot.unset).toArray = ls at hl ⊢
  have hl : lv_has ls 3 [(0, .ref (a 0)), (1, .ref (a (0 + v0 * 5 + 57)))] := hl
  exact db_X12_isUsedProgram_0 (dC := dC) (dI := dI) (a := a) (ac := ac) (n := n) (r := r) ⟨hlt, hx, hb, hml, hown, hts, hN, hA, hK⟩ (fun pc v τ H locs ls d z er hP hD hS => by subst er; exact W.zret (v := v) hx hb hr z (fun t ht hW => ⟨⟨v, (), rfl, rfl, by rw [ht]; exact hP, va_K.moved hW.alike hK, hD⟩, hS.F ht⟩) hS.2.2 d) v0 s0 _ _ _ h hP hD va_S.rf (lv_sub hl [0, 1] rfl)
def ow_dm_X12_unusedProgram : List Cond := .code yX12_unusedProgram cX12_unusedProgram 2 (some (.object "TimeMachine$Program")) :: ([.fieldLink RX12 20 "TimeMachine" "programPool" "[LTimeMachine$Program;", .methodLink RX12 293 yX12_isUsedProgram, .instanceMethod yX12_isUsedProgram, .selects RX12 yX12_isUsedProgram yX12_isUsedProgram, .initialized RX12] ++ (u_ws RX12 TX12 12 ++ (ow_dm_X12_isUsedProgram ++ [])))
theorem gd_dm_X12_unusedProgram : ∀ w ∈ ow_dm_X12_unusedProgram, (w.onTables && w.keeps) = true ∨ ∃ ty, w = Cond.arrayClass ty := List.forall_mem_cons.mpr ⟨good_of_word rfl, List.forall_mem_append.mpr ⟨fun w h => good_of_word (List.all_eq_true.mp (by decide +kernel) w h), List.forall_mem_append.mpr ⟨gu_X12, List.forall_mem_append.mpr ⟨gd_dm_X12_isUsedProgram, fun _ h => nomatch h⟩⟩⟩⟩
theorem hi_dm_X12_unusedProgram_X12 : ∀ w ∈ u_ws RX12 TX12 12, w ∈ ow_dm_X12_unusedProgram := fun w h => List.mem_cons_of_mem _ (List.mem_append_right _ (List.mem_append_left _ h))
theorem gi_dm_X12_unusedProgram_0 : GoodIn ow_dm_X12_unusedProgram (wsV RX12 293 RX12 yX12_isUsedProgram ow_dm_X12_isUsedProgram) := goodIn_app (goodIn_of _ (by decide +kernel)) (fun w h => ⟨List.mem_cons_of_mem _ (List.mem_append_right _ (List.mem_append_right _ (List.mem_append_left _ h))), gd_dm_X12_isUsedProgram w h⟩)
def dj_X12_unusedProgram_32 (p : Program) (l : Launch) (e : Env) (s : State) (m : MethodId) (args : Array Value) (below : List Frame) (meth : Method) (c : Code) (Q : State → Prop) (A : Nat → Prop) (dC : Nat → ClassId) (dI : Nat → Nat → Nat) (a : Nat → Nat) (ac : Nat → ClassId) (g : Int32 → (St × Rw × (St) × (St × (St)) × (St) × (St × (St × (St × (St)))) × (St) × (St) × (Nat → St) × (Nat → St) × (Nat → St × (St))) → Option (Option Nat × (St × Rw × (St) × (St × (St)) × (St) × (St × (St × (St × (St)))) × (St) × (St) × (Nat → St) × (Nat → St) × (Nat → St × (St))))) (r : Option Nat × (St × Rw × (St) × (St × (St)) × (St) × (St × (St × (St × (St)))) × (St) × (St) × (Nat → St) × (Nat → St) × (Nat → St × (St)))) : Prop := ∀ (x1 : Int32) (s0 : St × Rw × (St) × (St × (St)) × (St) × (St × (St × (St × (St)))) × (St) × (St) × (Nat → St) × (Nat → St) × (Nat → St × (St))) (H : Heap) (locs : List Loc) (ls : Array Slot), g x1 s0 = some r → va_P (dC, dI) vwCl (dw_X12 a ac s0) H → va_D A (dw_X12 a ac s0) → va_S A s.heap H locs → lv_has ls 2 [(0, .ref (a 0)), (1, .int x1)] → W p l e (headSpec ow_dm_X12_unusedProgram ({ frames := 1, cells := 0, slots := 0, locals := 22 })).room s m args below meth c H locs 0 0 Q (F0 m 32 ls [])
def dj_X12_unusedProgram_2 (p : Program) (l : Launch) (e : Env) (s : State) (m : MethodId) (args : Array Value) (below : List Frame) (meth : Method) (c : Code) (Q : State → Prop) (A : Nat → Prop) (dC : Nat → ClassId) (dI : Nat → Nat → Nat) (a : Nat → Nat) (ac : Nat → ClassId) (g : Int32 → (St × Rw × (St) × (St × (St)) × (St) × (St × (St × (St × (St)))) × (St) × (St) × (Nat → St) × (Nat → St) × (Nat → St × (St))) → Option (Option Nat × (St × Rw × (St) × (St × (St)) × (St) × (St × (St × (St × (St)))) × (St) × (St) × (Nat → St) × (Nat → St) × (Nat → St × (St))))) (r : Option Nat × (St × Rw × (St) × (St × (St)) × (St) × (St × (St × (St × (St)))) × (St) × (St) × (Nat → St) × (Nat → St) × (Nat → St × (St)))) : Prop := ∀ (x1 : Int32) (s0 : St × Rw × (St) × (St × (St)) × (St) × (St × (St × (St × (St)))) × (St) × (St) × (Nat → St) × (Nat → St) × (Nat → St × (St))) (H : Heap) (locs : List Loc) (ls : Array Slot), g x1 s0 = some r → va_P (dC, dI) vwCl (dw_X12 a ac s0) H → va_D A (dw_X12 a ac s0) → va_S A s.heap H locs → lv_has ls 2 [(0, .ref (a 0)), (1, .int x1)] → W p l e (headSpec ow_dm_X12_unusedProgram ({ frames := 1, cells := 0, slots := 0, locals := 22 })).room s m args below meth c H locs 0 0 Q (F0 m 2 ls [])
def dj_X12_unusedProgram_0 (p : Program) (l : Launch) (e : Env) (s : State) (m : MethodId) (args : Array Value) (below : List Frame) (meth : Method) (c : Code) (Q : State → Prop) (A : Nat → Prop) (dC : Nat → ClassId) (dI : Nat → Nat → Nat) (a : Nat → Nat) (ac : Nat → ClassId) (g : (St × Rw × (St) × (St × (St)) × (St) × (St × (St × (St × (St)))) × (St) × (St) × (Nat → St) × (Nat → St) × (Nat → St × (St))) → Option (Option Nat × (St × Rw × (St) × (St × (St)) × (St) × (St × (St × (St × (St)))) × (St) × (St) × (Nat → St) × (Nat → St) × (Nat → St × (St))))) (r : Option Nat × (St × Rw × (St) × (St × (St)) × (St) × (St × (St × (St × (St)))) × (St) × (St) × (Nat → St) × (Nat → St) × (Nat → St × (St)))) : Prop := ∀ (s0 : St × Rw × (St) × (St × (St)) × (St) × (St × (St × (St × (St)))) × (St) × (St) × (Nat → St) × (Nat → St) × (Nat → St × (St))) (H : Heap) (locs : List Loc) (ls : Array Slot), g s0 = some r → va_P (dC, dI) vwCl (dw_X12 a ac s0) H → va_D A (dw_X12 a ac s0) → va_S A s.heap H locs → lv_has ls 2 [(0, .ref (a 0))] → W p l e (headSpec ow_dm_X12_unusedProgram ({ frames := 1, cells := 0, slots := 0, locals := 22 })).room s m args below meth c H locs 0 0 Q (F0 m 0 ls [])
set_option maxHeartbeats 40000000 in
set_option maxRecDepth 100000 in
theorem db_X12_unusedProgram_32 {p : Program} {l : Launch} {e : Env} {s : State} {m : MethodId} {args : Array Value} {below : List Frame} {meth : Method} {c : Code} {Q : State → Prop} {A : Nat → Prop} {dC : Nat → ClassId} {dI : Nat → Nat → Nat} {a : Nat → Nat} {ac : Nat → ClassId} {n : Nat} {r : Option Nat × (St × Rw × (St) × (St × (St)) × (St) × (St × (St × (St × (St)))) × (St) × (St) × (Nat → St) × (Nat → St) × (Nat → St × (St)))} (C : nd_C p l s m args c A (dC, dI) cX12_unusedProgram 2 RX12 ow_dm_X12_unusedProgram (dk_X12 ac)) (K : nd_Kq p l e (headSpec ow_dm_X12_unusedProgram ({ frames := 1, cells := 0, slots := 0, locals := 22 })).room s m args below meth c Q A (dC, dI) cX12_unusedProgram (St × Rw × (St) × (St × (St)) × (St) × (St × (St × (St × (St)))) × (St) × (St) × (Nat → St) × (Nat → St) × (Nat → St × (St))) (dw_X12 a ac) (fun j => a (0 + j * 5 + 57)) r) : dj_X12_unusedProgram_32 p l e s m args below meth c Q A dC dI a ac (df_X12_unusedProgram_32 n (a 15) (a 3)) r := by
  obtain ⟨hlt, hx, hb, hml, hown, hts, hN, hA, hK⟩ := id C
  intro x1 s0 H locs ls h hP hD hS hl
  unfold df_X12_unusedProgram_32 at h
  refine lv_aload_n hx hb dX12_unusedProgram_32 rfl (lv_at hl 0 rfl) ?_
  refine va_get (D := (dC, dI)) (ci := 13) (v := .ref (a 1)) (C := RX12) (T := TX12) (N := 12) hx hb hts hi_dm_X12_unusedProgram_X12 hown hK hP 0 rfl rfl 4 (by decide) (hts (.fieldLink RX12 20 "TimeMachine" "programPool" "[LTimeMachine$Program;") (List.mem_of_getElem? (i := 1) rfl)) (fun _ h9 => h9) rfl dX12_unusedProgram_33 ?_
  refine lv_iload_n hx hb dX12_unusedProgram_36 rfl (lv_at hl 1 rfl) ?_
  obtain ⟨i3, h⟩ := nd_ck_e h
  refine va_aldq (i := x1) hx hb hK hP 1 0 rfl rfl i3 dX12_unusedProgram_37 ?_
  cases hrj4 : s0.2.1 4 (Int32.toNatClampNeg x1) with
  | none =>
    have h := nd_mN h hrj4
    refine W.eq (g2 := F0 m 38 ls [.null]) (by first | rfl | (show F0 m _ ls (va_rf (Option.map (fun j => a (0 + j * 5 + 57)) (s0.2.1 4 (Int32.toNatClampNeg x1))) :: _) = _; rw [hrj4]; rfl)) ?_
    exact K _ none _ _ _ _ dX12_unusedProgram_38 (Option.some.inj h).symm hP hD hS
  | some j4 =>
    have h := nd_mS h hrj4
    refine W.eq (g2 := F0 m 38 ls [.ref (a (0 + j4 * 5 + 57))]) (by first | rfl | (show F0 m _ ls (va_rf (Option.map (fun j => a (0 + j * 5 + 57)) (s0.2.1 4 (Int32.toNatClampNeg x1))) :: _) = _; rw [hrj4]; rfl)) ?_
    exact K _ (some j4) _ _ _ _ dX12_unusedProgram_38 (Option.some.inj h).symm hP hD hS
set_option maxHeartbeats 40000000 in
set_option maxRecDepth 100000 in
theorem dB_X12_unusedProgram_2 {p : Program} {l : Launch} {e : Env} {s : State} {m : MethodId} {args : Array Value} {below : List Frame} {meth : Method} {c : Code} {Q : State → Prop} {A : Nat → Prop} {dC : Nat → ClassId} {dI : Nat → Nat → Nat} {a : Nat → Nat} {ac : Nat → ClassId} {n : Nat} {r : Option Nat × (St × Rw × (St) × (St × (St)) × (St) × (St × (St × (St × (St)))) × (St) × (St) × (Nat → St) × (Nat → St) × (Nat → St × (St)))} (C : nd_C p l s m args c A (dC, dI) cX12_unusedProgram 2 RX12 ow_dm_X12_unusedProgram (dk_X12 ac)) (K : nd_Kq p l e (headSpec ow_dm_X12_unusedProgram ({ frames := 1, cells := 0, slots := 0, locals := 22 })).room s m args below meth c Q A (dC, dI) cX12_unusedProgram (St × Rw × (St) × (St × (St)) × (St) × (St × (St × (St × (St)))) × (St) × (St) × (Nat → St) × (Nat → St) × (Nat → St × (St))) (dw_X12 a ac) (fun j => a (0 + j * 5 + 57)) r) {g2 : Int32 → (St × Rw × (St) × (St × (St)) × (St) × (St × (St × (St × (St)))) × (St) × (St) × (Nat → St) × (Nat → St) × (Nat → St × (St))) → Option (Option Nat × (St × Rw × (St) × (St × (St)) × (St) × (St × (St × (St × (St)))) × (St) × (St) × (Nat → St) × (Nat → St) × (Nat → St × (St))))} (J2 : dj_X12_unusedProgram_2 p l e s m args below meth c Q A dC dI a ac g2 r) : dj_X12_unusedProgram_2 p l e s m args below meth c Q A dC dI a ac (dF_X12_unusedProgram_2 n (a 15) (a 3) g2) r := by
  obtain ⟨hlt, hx, hb, hml, hown, hts, hN, hA, hK⟩ := id C
  intro x1 s0 H locs ls h hP hD hS hl
  unfold dF_X12_unusedProgram_2 at h
  refine lv_iload_n hx hb dX12_unusedProgram_2 rfl (lv_at hl 1 rfl) ?_
  refine lv_aload_n hx hb dX12_unusedProgram_3 rfl (lv_at hl 0 rfl) ?_
  refine va_get (D := (dC, dI)) (ci := 13) (v := .ref (a 1)) (C := RX12) (T := TX12) (N := 12) hx hb hts hi_dm_X12_unusedProgram_X12 hown hK hP 0 rfl rfl 4 (by decide) (hts (.fieldLink RX12 20 "TimeMachine" "programPool" "[LTimeMachine$Program;") (List.mem_of_getElem? (i := 1) rfl)) (fun _ h9 => h9) rfl dX12_unusedProgram_4 ?_
  refine va_alen (v := 9) hx hb hK hP 1 0 rfl rfl (show Int32.ofNat 9 = 9 by decide) dX12_unusedProgram_7 ?_
  refine lv_iconst (v := 1) hx hb dX12_unusedProgram_8 (by decide) ?_
  refine lv_isub hx hb dX12_unusedProgram_9 ?_
  refine lv_topi (fun z1 ez1 => ?_)
  obtain rfl : z1 = 8 := ez1.trans (by decide)
  refine lv_icmp_ge (tgt := 32) hx hb dX12_unusedProgram_10 (by decide) (fun c2 => ?_) (fun c2 => ?_)
  · have h := nd_pos h c2
    exact (db_X12_unusedProgram_32 C K) (x1) s0 _ _ _ h hP hD hS (lv_sub hl [0, 1] rfl)
  · have h := nd_neg h c2
    refine lv_aload_n hx hb dX12_unusedProgram_13 rfl (lv_at hl 0 rfl) ?_
    refine lv_aload_n hx hb dX12_unusedProgram_14 rfl (lv_at hl 0 rfl) ?_
    refine va_get (D := (dC, dI)) (ci := 13) (v := .ref (a 1)) (C := RX12) (T := TX12) (N := 12) hx hb hts hi_dm_X12_unusedProgram_X12 hown hK hP 0 rfl rfl 4 (by decide) (hts (.fieldLink RX12 20 "TimeMachine" "programPool" "[LTimeMachine$Program;") (List.mem_of_getElem? (i := 1) rfl)) (fun _ h9 => h9) rfl dX12_unusedProgram_15 ?_
    refine lv_iload_n hx hb dX12_unusedProgram_18 rfl (lv_at hl 1 rfl) ?_
    obtain ⟨i5, h⟩ := nd_ck_e h
    refine va_aldq (i := x1) hx hb hK hP 1 0 rfl rfl i5 dX12_unusedProgram_19 ?_
    cases hrj6 : s0.2.1 4 (Int32.toNatClampNeg x1) with
    | none =>
      have h := nd_mN h hrj6
      refine W.eq (g2 := F0 m 20 ls [.null, .ref (a 0)]) (by first | rfl | (show F0 m _ ls (va_rf (Option.map (fun j => a (0 + j * 5 + 57)) (s0.2.1 4 (Int32.toNatClampNeg x1))) :: _) = _; rw [hrj6]; rfl)) ?_
      exact nomatch h
    | some j6 =>
      have h := nd_mS h hrj6
      refine W.eq (g2 := F0 m 20 ls [.ref (a (0 + j6 * 5 + 57)), .ref (a 0)]) (by first | rfl | (show F0 m _ ls (va_rf (Option.map (fun j => a (0 + j * 5 + 57)) (s0.2.1 4 (Int32.toNatClampNeg x1))) :: _) = _; rw [hrj6]; rfl)) ?_
      obtain ⟨q7, s8, hq, h⟩ := nd_b2_e h
      have hPc := hP
      have hDc := hD
      have hKc := hK
      have hFc := nd_rs hD hS hA
      refine nd_cVi (As := [.ref (a (0 + j6 * 5 + 57))]) (rest := []) (q := q7) (w' := dw_X12 a ac s8) ⟨hx, hb, hml, hown, hts⟩ (fun sz => dm_X12_isUsedProgram l hlt dC dI a ac n (j6) s0 hq sz) (cwV 1 hts gi_dm_X12_unusedProgram_0 rfl rfl rfl (by decide +kernel) ⟨Nat.le_of_ble_eq_true rfl, Nat.le_of_ble_eq_true rfl⟩) hPc hDc hKc hS hA hN (va_recv hKc hPc (ci := 13) (q0 := 0) rfl rfl) rfl hl.1 rfl (Nat.le_of_ble_eq_true rfl) dX12_unusedProgram_20 (fun H locs hP1 hD1 hk1 hS => ?_)
      have hP := hP1
      have hD := hD1.weaken (fun k q _ h => hFc q.1 h)
      refine lv_if_eq (tgt := 32) hx hb dX12_unusedProgram_23 (by decide) (fun c10 => ?_) (fun c10 => ?_)
      · have h := nd_pos h c10
        exact (db_X12_unusedProgram_32 C K) (x1) s8 _ _ _ h hP hD hS (lv_sub hl [0, 1] rfl)
      · have h := nd_neg h c10
        obtain ⟨z11, ez11, h⟩ := nd_let_e h
        refine lv_iinc (v := z11) (lv' := [(1, .int z11), (0, .ref (a 0))]) hx hb dX12_unusedProgram_26 hl (k := 1) rfl (by rw [ez11]) (by decide) rfl (fun ls hl => ?_)
        refine lv_goto (tgt := 2) hx hb dX12_unusedProgram_29 (by decide) ?_
        exact (J2) (z11) s8 _ _ _ h hP hD hS (lv_sub hl [1, 0] rfl)
set_option maxHeartbeats 40000000 in
set_option maxRecDepth 100000 in
theorem db_X12_unusedProgram_2 {p : Program} {l : Launch} {e : Env} {s : State} {m : MethodId} {args : Array Value} {below : List Frame} {meth : Method} {c : Code} {Q : State → Prop} {A : Nat → Prop} {dC : Nat → ClassId} {dI : Nat → Nat → Nat} {a : Nat → Nat} {ac : Nat → ClassId} {n : Nat} {r : Option Nat × (St × Rw × (St) × (St × (St)) × (St) × (St × (St × (St × (St)))) × (St) × (St) × (Nat → St) × (Nat → St) × (Nat → St × (St)))} (C : nd_C p l s m args c A (dC, dI) cX12_unusedProgram 2 RX12 ow_dm_X12_unusedProgram (dk_X12 ac)) (K : nd_Kq p l e (headSpec ow_dm_X12_unusedProgram ({ frames := 1, cells := 0, slots := 0, locals := 22 })).room s m args below meth c Q A (dC, dI) cX12_unusedProgram (St × Rw × (St) × (St × (St)) × (St) × (St × (St × (St × (St)))) × (St) × (St) × (Nat → St) × (Nat → St) × (Nat → St × (St))) (dw_X12 a ac) (fun j => a (0 + j * 5 + 57)) r) (k : Nat) : dj_X12_unusedProgram_2 p l e s m args below meth c Q A dC dI a ac (df_X12_unusedProgram_2 n (a 15) (a 3) k) r := by
  induction k with
  | zero => intro x1 s0 H locs ls h; exact nomatch (show (none : Option (Option Nat × (St × Rw × (St) × (St × (St)) × (St) × (St × (St × (St × (St)))) × (St) × (St) × (Nat → St) × (Nat → St) × (Nat → St × (St))))) = some r from h)
  | succ k ih => exact dB_X12_unusedProgram_2 C K ih
set_option maxHeartbeats 40000000 in
set_option maxRecDepth 100000 in
theorem db_X12_unusedProgram_0 {p : Program} {l : Launch} {e : Env} {s : State} {m : MethodId} {args : Array Value} {below : List Frame} {meth : Method} {c : Code} {Q : State → Prop} {A : Nat → Prop} {dC : Nat → ClassId} {dI : Nat → Nat → Nat} {a : Nat → Nat} {ac : Nat → ClassId} {n : Nat} {r : Option Nat × (St × Rw × (St) × (St × (St)) × (St) × (St × (St × (St × (St)))) × (St) × (St) × (Nat → St) × (Nat → St) × (Nat → St × (St)))} (C : nd_C p l s m args c A (dC, dI) cX12_unusedProgram 2 RX12 ow_dm_X12_unusedProgram (dk_X12 ac)) (K : nd_Kq p l e (headSpec ow_dm_X12_unusedProgram ({ frames := 1, cells := 0, slots := 0, locals := 22 })).room s m args below meth c Q A (dC, dI) cX12_unusedProgram (St × Rw × (St) × (St × (St)) × (St) × (St × (St × (St × (St)))) × (St) × (St) × (Nat → St) × (Nat → St) × (Nat → St × (St))) (dw_X12 a ac) (fun j => a (0 + j * 5 + 57)) r) : dj_X12_unusedProgram_0 p l e s m args below meth c Q A dC dI a ac (df_X12_unusedProgram_0 n (a 15) (a 3)) r := by
  obtain ⟨hlt, hx, hb, hml, hown, hts, hN, hA, hK⟩ := id C
  intro s0 H locs ls h hP hD hS hl
  unfold df_X12_unusedProgram_0 at h
  refine lv_iconst (v := 0) hx hb dX12_unusedProgram_0 (by decide) ?_
  refine lv_istore_n (lv' := [(1, .int 0), (0, .ref (a 0))]) hx hb dX12_unusedProgram_1 rfl hl (by decide) rfl (fun ls hl => ?_)
  exact (db_X12_unusedProgram_2 C K n) (0) s0 _ _ _ h hP hD hS (lv_sub hl [1, 0] rfl)
set_option maxHeartbeats 40000000 in
set_option maxRecDepth 100000 in
theorem dm_X12_unusedProgram (l : Launch) (hlt : l.stackTraces = false) (dC : Nat → ClassId) (dI : Nat → Nat → Nat) (a : Nat → Nat) (ac : Nat → ClassId) (n : Nat) (s0 : St × Rw × (St) × (St × (St)) × (St) × (St × (St × (St × (St)))) × (St) × (St) × (Nat → St) × (Nat → St) × (Nat → St × (St))) {r : Option Nat × (St × Rw × (St) × (St × (St)) × (St) × (St × (St × (St × (St)))) × (St) × (St) × (Nat → St) × (Nat → St) × (Nat → St × (St)))} (h : df_X12_unusedProgram n (a 15) (a 3) s0 = some r) (sz : Nat) : Met l yX12_unusedProgram ow_dm_X12_unusedProgram ({ frames := 1, cells := 0, slots := 0, locals := 22 }) (va_Pc [.ref (a 0)] (fun U => U.heap.size = sz ∧ va_P (dC, dI) vwCl (dw_X12 a ac s0) U.heap ∧ va_K (dC, dI) vwCl (dk_X12 ac) U ∧ va_D (fun _ => True) (dw_X12 a ac s0) ∧ nv_E (va_A (dw_X12 a ac s0) sz) U)) (va_Qq (fun x _ => x = Option.map (fun j => a (0 + j * 5 + 57)) r.1) (fun (_ : Unit) t => va_P (dC, dI) vwCl (dw_X12 a ac r.2) t.heap ∧ va_K (dC, dI) vwCl (dk_X12 ac) t ∧ va_D (va_A (dw_X12 a ac s0) sz) (dw_X12 a ac r.2)) (va_A (dw_X12 a ac s0) sz)) 0 0 (va_A (dw_X12 a ac s0) sz) := by
  refine Met.ofW (cc := cX12_unusedProgram) (maxL := 2) (ret := (some (.object "TimeMachine$Program"))) (by decide) rfl ?_
  intro p e s m args below meth c s₁ B hml hv
  obtain ⟨rfl, hsz, hP, hK, hD0, hN⟩ := hv
  have hx := B.exec
  have hb := B.bytes
  have hr := B.returns
  have hts := atoms_spec (ws := ow_dm_X12_unusedProgram) B.pre
  have hown : s.vm.findClass RX12 = some m.cls := findClass_of_methodNamed B.named
  have hlocks := B.notSynchronized
  subst hsz
  have hD := hD0.self (sz := s.heap.size)
  generalize hAe : va_A (dw_X12 a ac s0) s.heap.size = A at hD hN ⊢
  have hA : ∀ q : Nat, s.heap.size ≤ q → A q := fun q h => by rw [← hAe]; exact Or.inr h
  have hl := lv_entry ([.ref (a 0)]) (n := 2) (Nat.le_of_ble_eq_true rfl)
  rw [lg_entry_eq]
  generalize (lg_sl ([.ref (a 0)]) ++ List.replicate (2 - (lg_sl ([.ref (a 0)])).length) Slot.unset).toArray = ls at hl ⊢
  have hl : lv_has ls 2 [(0, .ref (a 0))] := hl
  exact db_X12_unusedProgram_0 (dC := dC) (dI := dI) (a := a) (ac := ac) (n := n) (r := r) ⟨hlt, hx, hb, hml, hown, hts, hN, hA, hK⟩ (fun pc o τ H locs ls d er hP hD hS => by subst er; exact W.aret (v := va_rf (Option.map (fun j => a (0 + j * 5 + 57)) o)) hx hb hr (by first | exact Or.inl ⟨_, rfl⟩ | exact Or.inr ⟨_, rfl⟩) (va_rf_or _) (fun t ht hW => ⟨⟨Option.map (fun j => a (0 + j * 5 + 57)) o, (), rfl, rfl, by rw [ht]; exact hP, va_K.moved hW.alike hK, hD⟩, hS.F ht⟩) hS.2.2 d) s0 _ _ _ h hP hD va_S.rf (lv_sub hl [0] rfl)
def ow_dm_X12_useTape : List Cond := .code yX12_useTape cX12_useTape 2 (some .int) :: ([.fieldLink RX12 58 "TimeMachine" "taped" "I", .fieldLink RX12 66 "TimeMachine" "fresh" "Z"] ++ (u_ws RX12 TX12 12 ++ []))
theorem gd_dm_X12_useTape : ∀ w ∈ ow_dm_X12_useTape, (w.onTables && w.keeps) = true ∨ ∃ ty, w = Cond.arrayClass ty := List.forall_mem_cons.mpr ⟨good_of_word rfl, List.forall_mem_append.mpr ⟨fun w h => good_of_word (List.all_eq_true.mp (by decide +kernel) w h), List.forall_mem_append.mpr ⟨gu_X12, fun _ h => nomatch h⟩⟩⟩
theorem hi_dm_X12_useTape_X12 : ∀ w ∈ u_ws RX12 TX12 12, w ∈ ow_dm_X12_useTape := fun w h => List.mem_cons_of_mem _ (List.mem_append_right _ (List.mem_append_left _ h))
def dj_X12_useTape_0 (p : Program) (l : Launch) (e : Env) (s : State) (m : MethodId) (args : Array Value) (below : List Frame) (meth : Method) (c : Code) (Q : State → Prop) (A : Nat → Prop) (dC : Nat → ClassId) (dI : Nat → Nat → Nat) (a : Nat → Nat) (ac : Nat → ClassId) (g : (St × Rw × (St) × (St × (St)) × (St) × (St × (St × (St × (St)))) × (St) × (St) × (Nat → St) × (Nat → St) × (Nat → St × (St))) → Option (Int32 × (St × Rw × (St) × (St × (St)) × (St) × (St × (St × (St × (St)))) × (St) × (St) × (Nat → St) × (Nat → St) × (Nat → St × (St))))) (r : Int32 × (St × Rw × (St) × (St × (St)) × (St) × (St × (St × (St × (St)))) × (St) × (St) × (Nat → St) × (Nat → St) × (Nat → St × (St)))) : Prop := ∀ (s0 : St × Rw × (St) × (St × (St)) × (St) × (St × (St × (St × (St)))) × (St) × (St) × (Nat → St) × (Nat → St) × (Nat → St × (St))) (H : Heap) (locs : List Loc) (ls : Array Slot), g s0 = some r → va_P (dC, dI) vwCl (dw_X12 a ac s0) H → va_D A (dw_X12 a ac s0) → va_S A s.heap H locs → lv_has ls 2 [(0, .ref (a 0))] → W p l e (headSpec ow_dm_X12_useTape ({ frames := 0, cells := 0, slots := 0, locals := 0 })).room s m args below meth c H locs 0 0 Q (F0 m 0 ls [])
set_option maxHeartbeats 40000000 in
set_option maxRecDepth 100000 in
theorem db_X12_useTape_0 {p : Program} {l : Launch} {e : Env} {s : State} {m : MethodId} {args : Array Value} {below : List Frame} {meth : Method} {c : Code} {Q : State → Prop} {A : Nat → Prop} {dC : Nat → ClassId} {dI : Nat → Nat → Nat} {a : Nat → Nat} {ac : Nat → ClassId} {n : Nat} {r : Int32 × (St × Rw × (St) × (St × (St)) × (St) × (St × (St × (St × (St)))) × (St) × (St) × (Nat → St) × (Nat → St) × (Nat → St × (St)))} (C : nd_C p l s m args c A (dC, dI) cX12_useTape 2 RX12 ow_dm_X12_useTape (dk_X12 ac)) (K : nd_Ki p l e (headSpec ow_dm_X12_useTape ({ frames := 0, cells := 0, slots := 0, locals := 0 })).room s m args below meth c Q A (dC, dI) cX12_useTape .int (St × Rw × (St) × (St × (St)) × (St) × (St × (St × (St × (St)))) × (St) × (St) × (Nat → St) × (Nat → St) × (Nat → St × (St))) (dw_X12 a ac) r) : dj_X12_useTape_0 p l e s m args below meth c Q A dC dI a ac (df_X12_useTape_0 n (a 15) (a 3)) r := by
  obtain ⟨hlt, hx, hb, hml, hown, hts, hN, hA, hK⟩ := id C
  intro s0 H locs ls h hP hD hS hl
  unfold df_X12_useTape_0 at h
  refine lv_aload_n hx hb dX12_useTape_0 rfl (lv_at hl 0 rfl) ?_
  refine va_get (D := (dC, dI)) (ci := 13) (v := .int (sI s0.1 0)) (C := RX12) (T := TX12) (N := 12) hx hb hts hi_dm_X12_useTape_X12 hown hK hP 0 rfl rfl 1 (by decide) (hts (.fieldLink RX12 58 "TimeMachine" "taped" "I") (List.mem_of_getElem? (i := 1) rfl)) (fun _ h9 => h9) rfl dX12_useTape_1 ?_
  refine lv_topi (fun z1 ez1 => ?_)
  have h := nd_at h ez1
  refine lv_istore_n (lv' := [(1, .int z1), (0, .ref (a 0))]) hx hb dX12_useTape_4 rfl hl (by decide) rfl (fun ls hl => ?_)
  refine lv_aload_n hx hb dX12_useTape_5 rfl (lv_at hl 1 rfl) ?_
  refine lv_iconst (v := 0) hx hb dX12_useTape_6 (by decide) ?_
  refine va_put (D := (dC, dI)) (ci := 13) (v := .int 0) (ty := .int) (C := RX12) (T := TX12) (N := 12) hx hb hts hi_dm_X12_useTape_X12 tyX12 tyX12_ok nmX12 hown hK hP hD hS 0 rfl rfl 1 (by decide) (hts (.fieldLink RX12 58 "TimeMachine" "taped" "I") (List.mem_of_getElem? (i := 1) rfl)) (fun _ h9 => h9) rfl (by decide +kernel) rfl rfl (Nat.le_of_ble_eq_true rfl) dX12_useTape_7 (fun H locs hP hD hS => ?_)
  obtain ⟨s2, es2, h⟩ := nd_let_e h
  have hP : va_P (dC, dI) vwCl (dw_X12 a ac s2) H := by rw [es2]; exact hP
  have hD : va_D A (dw_X12 a ac s2) := by rw [es2]; exact hD
  refine lv_aload_n hx hb dX12_useTape_10 rfl (lv_at hl 1 rfl) ?_
  refine lv_iconst (v := 0) hx hb dX12_useTape_11 (by decide) ?_
  refine va_put (D := (dC, dI)) (ci := 13) (v := .int 0) (ty := .boolean) (C := RX12) (T := TX12) (N := 12) hx hb hts hi_dm_X12_useTape_X12 tyX12 tyX12_ok nmX12 hown hK hP hD hS 0 rfl rfl 2 (by decide) (hts (.fieldLink RX12 66 "TimeMachine" "fresh" "Z") (List.mem_of_getElem? (i := 2) rfl)) (fun _ h9 => h9) rfl (by decide +kernel) (by first | rfl | decide) rfl (Nat.le_of_ble_eq_true rfl) dX12_useTape_12 (fun H locs hP hD hS => ?_)
  obtain ⟨s3, es3, h⟩ := nd_let_e h
  have hP : va_P (dC, dI) vwCl (dw_X12 a ac s3) H := by rw [es3]; exact hP
  have hD : va_D A (dw_X12 a ac s3) := by rw [es3]; exact hD
  refine lv_iload_n hx hb dX12_useTape_15 rfl (lv_at hl 0 rfl) ?_
  exact K _ _ _ _ _ _ dX12_useTape_16 rfl (Option.some.inj h).symm hP hD hS
set_option maxHeartbeats 40000000 in
set_option maxRecDepth 100000 in
theorem dm_X12_useTape (l : Launch) (hlt : l.stackTraces = false) (dC : Nat → ClassId) (dI : Nat → Nat → Nat) (a : Nat → Nat) (ac : Nat → ClassId) (n : Nat) (s0 : St × Rw × (St) × (St × (St)) × (St) × (St × (St × (St × (St)))) × (St) × (St) × (Nat → St) × (Nat → St) × (Nat → St × (St))) {r : Int32 × (St × Rw × (St) × (St × (St)) × (St) × (St × (St × (St × (St)))) × (St) × (St) × (Nat → St) × (Nat → St) × (Nat → St × (St)))} (h : df_X12_useTape n (a 15) (a 3) s0 = some r) (sz : Nat) : Met l yX12_useTape ow_dm_X12_useTape ({ frames := 0, cells := 0, slots := 0, locals := 0 }) (va_Pc [.ref (a 0)] (fun U => U.heap.size = sz ∧ va_P (dC, dI) vwCl (dw_X12 a ac s0) U.heap ∧ va_K (dC, dI) vwCl (dk_X12 ac) U ∧ va_D (fun _ => True) (dw_X12 a ac s0) ∧ nv_E (va_A (dw_X12 a ac s0) sz) U)) (va_Qi (fun x _ => x = r.1) (fun (_ : Unit) t => va_P (dC, dI) vwCl (dw_X12 a ac r.2) t.heap ∧ va_K (dC, dI) vwCl (dk_X12 ac) t ∧ va_D (va_A (dw_X12 a ac s0) sz) (dw_X12 a ac r.2)) (va_A (dw_X12 a ac s0) sz)) 0 0 (va_A (dw_X12 a ac s0) sz) := by
  refine Met.ofW (cc := cX12_useTape) (maxL := 2) (ret := (some .int)) (by decide) rfl ?_
  intro p e s m args below meth c s₁ B hml hv
  obtain ⟨rfl, hsz, hP, hK, hD0, hN⟩ := hv
  have hx := B.exec
  have hb := B.bytes
  have hr := B.returns
  have hts := atoms_spec (ws := ow_dm_X12_useTape) B.pre
  have hown : s.vm.findClass RX12 = some m.cls := findClass_of_methodNamed B.named
  have hlocks := B.notSynchronized
  subst hsz
  have hD := hD0.self (sz := s.heap.size)
  generalize hAe : va_A (dw_X12 a ac s0) s.heap.size = A at hD hN ⊢
  have hA : ∀ q : Nat, s.heap.size ≤ q → A q := fun q h => by rw [← hAe]; exact Or.inr h
  have hl := lv_entry ([.ref (a 0)]) (n := 2) (Nat.le_of_ble_eq_true rfl)
  rw [lg_entry_eq]
  generalize (lg_sl ([.ref (a 0)]) ++ List.replicate (2 - (lg_sl ([.ref (a 0)])).length) Slot.unset).toArray = ls at hl ⊢
  have hl : lv_has ls 2 [(0, .ref (a 0))] := hl
  exact db_X12_useTape_0 (dC := dC) (dI := dI) (a := a) (ac := ac) (n := n) (r := r) ⟨hlt, hx, hb, hml, hown, hts, hN, hA, hK⟩ (fun pc v τ H locs ls d z er hP hD hS => by subst er; exact W.zret (v := v) hx hb hr z (fun t ht hW => ⟨⟨v, (), rfl, rfl, by rw [ht]; exact hP, va_K.moved hW.alike hK, hD⟩, hS.F ht⟩) hS.2.2 d) s0 _ _ _ h hP hD va_S.rf (lv_sub hl [0] rfl)
def ow_dm_X12_programOf : List Cond := .code yX12_programOf cX12_programOf 2 (some (.object "TimeMachine$Program")) :: ([.fieldLink RX12 16 "TimeMachine" "programs" "[LTimeMachine$Program;"] ++ (u_ws RX12 TX12 12 ++ []))
theorem gd_dm_X12_programOf : ∀ w ∈ ow_dm_X12_programOf, (w.onTables && w.keeps) = true ∨ ∃ ty, w = Cond.arrayClass ty := List.forall_mem_cons.mpr ⟨good_of_word rfl, List.forall_mem_append.mpr ⟨fun w h => good_of_word (List.all_eq_true.mp (by decide +kernel) w h), List.forall_mem_append.mpr ⟨gu_X12, fun _ h => nomatch h⟩⟩⟩
theorem hi_dm_X12_programOf_X12 : ∀ w ∈ u_ws RX12 TX12 12, w ∈ ow_dm_X12_programOf := fun w h => List.mem_cons_of_mem _ (List.mem_append_right _ (List.mem_append_left _ h))
def dj_X12_programOf_19 (p : Program) (l : Launch) (e : Env) (s : State) (m : MethodId) (args : Array Value) (below : List Frame) (meth : Method) (c : Code) (Q : State → Prop) (A : Nat → Prop) (dC : Nat → ClassId) (dI : Nat → Nat → Nat) (a : Nat → Nat) (ac : Nat → ClassId) (g : Option Nat → (St × Rw × (St) × (St × (St)) × (St) × (St × (St × (St × (St)))) × (St) × (St) × (Nat → St) × (Nat → St) × (Nat → St × (St))) → Option (Option Nat × (St × Rw × (St) × (St × (St)) × (St) × (St × (St × (St × (St)))) × (St) × (St) × (Nat → St) × (Nat → St) × (Nat → St × (St))))) (r : Option Nat × (St × Rw × (St) × (St × (St)) × (St) × (St × (St × (St × (St)))) × (St) × (St) × (Nat → St) × (Nat → St) × (Nat → St × (St)))) : Prop := ∀ (y0 : Option Nat) (s0 : St × Rw × (St) × (St × (St)) × (St) × (St × (St × (St × (St)))) × (St) × (St) × (Nat → St) × (Nat → St) × (Nat → St × (St))) (H : Heap) (locs : List Loc) (ls : Array Slot), g y0 s0 = some r → va_P (dC, dI) vwCl (dw_X12 a ac s0) H → va_D A (dw_X12 a ac s0) → va_S A s.heap H locs → lv_has ls 2 [] → W p l e (headSpec ow_dm_X12_programOf ({ frames := 0, cells := 0, slots := 0, locals := 0 })).room s m args below meth c H locs 0 0 Q (F0 m 19 ls [va_rf (Option.map (fun j => a (0 + j * 5 + 57)) y0)])
def dj_X12_programOf_9 (p : Program) (l : Launch) (e : Env) (s : State) (m : MethodId) (args : Array Value) (below : List Frame) (meth : Method) (c : Code) (Q : State → Prop) (A : Nat → Prop) (dC : Nat → ClassId) (dI : Nat → Nat → Nat) (a : Nat → Nat) (ac : Nat → ClassId) (g : (St × Rw × (St) × (St × (St)) × (St) × (St × (St × (St × (St)))) × (St) × (St) × (Nat → St) × (Nat → St) × (Nat → St × (St))) → Option (Option Nat × (St × Rw × (St) × (St × (St)) × (St) × (St × (St × (St × (St)))) × (St) × (St) × (Nat → St) × (Nat → St) × (Nat → St × (St))))) (r : Option Nat × (St × Rw × (St) × (St × (St)) × (St) × (St × (St × (St × (St)))) × (St) × (St) × (Nat → St) × (Nat → St) × (Nat → St × (St)))) : Prop := ∀ (s0 : St × Rw × (St) × (St × (St)) × (St) × (St × (St × (St × (St)))) × (St) × (St) × (Nat → St) × (Nat → St) × (Nat → St × (St))) (H : Heap) (locs : List Loc) (ls : Array Slot), g s0 = some r → va_P (dC, dI) vwCl (dw_X12 a ac s0) H → va_D A (dw_X12 a ac s0) → va_S A s.heap H locs → lv_has ls 2 [] → W p l e (headSpec ow_dm_X12_programOf ({ frames := 0, cells := 0, slots := 0, locals := 0 })).room s m args below meth c H locs 0 0 Q (F0 m 9 ls [])
def dj_X12_programOf_0 (p : Program) (l : Launch) (e : Env) (s : State) (m : MethodId) (args : Array Value) (below : List Frame) (meth : Method) (c : Code) (Q : State → Prop) (A : Nat → Prop) (dC : Nat → ClassId) (dI : Nat → Nat → Nat) (a : Nat → Nat) (ac : Nat → ClassId) (g : Int32 → (St × Rw × (St) × (St × (St)) × (St) × (St × (St × (St × (St)))) × (St) × (St) × (Nat → St) × (Nat → St) × (Nat → St × (St))) → Option (Option Nat × (St × Rw × (St) × (St × (St)) × (St) × (St × (St × (St × (St)))) × (St) × (St) × (Nat → St) × (Nat → St) × (Nat → St × (St))))) (r : Option Nat × (St × Rw × (St) × (St × (St)) × (St) × (St × (St × (St × (St)))) × (St) × (St) × (Nat → St) × (Nat → St) × (Nat → St × (St)))) : Prop := ∀ (v0 : Int32) (s0 : St × Rw × (St) × (St × (St)) × (St) × (St × (St × (St × (St)))) × (St) × (St) × (Nat → St) × (Nat → St) × (Nat → St × (St))) (H : Heap) (locs : List Loc) (ls : Array Slot), g v0 s0 = some r → va_P (dC, dI) vwCl (dw_X12 a ac s0) H → va_D A (dw_X12 a ac s0) → va_S A s.heap H locs → lv_has ls 2 [(0, .ref (a 0)), (1, .int v0)] → W p l e (headSpec ow_dm_X12_programOf ({ frames := 0, cells := 0, slots := 0, locals := 0 })).room s m args below meth c H locs 0 0 Q (F0 m 0 ls [])
set_option maxHeartbeats 40000000 in
set_option maxRecDepth 100000 in
theorem db_X12_programOf_19 {p : Program} {l : Launch} {e : Env} {s : State} {m : MethodId} {args : Array Value} {below : List Frame} {meth : Method} {c : Code} {Q : State → Prop} {A : Nat → Prop} {dC : Nat → ClassId} {dI : Nat → Nat → Nat} {a : Nat → Nat} {ac : Nat → ClassId} {n : Nat} {r : Option Nat × (St × Rw × (St) × (St × (St)) × (St) × (St × (St × (St × (St)))) × (St) × (St) × (Nat → St) × (Nat → St) × (Nat → St × (St)))} (C : nd_C p l s m args c A (dC, dI) cX12_programOf 2 RX12 ow_dm_X12_programOf (dk_X12 ac)) (K : nd_Kq p l e (headSpec ow_dm_X12_programOf ({ frames := 0, cells := 0, slots := 0, locals := 0 })).room s m args below meth c Q A (dC, dI) cX12_programOf (St × Rw × (St) × (St × (St)) × (St) × (St × (St × (St × (St)))) × (St) × (St) × (Nat → St) × (Nat → St) × (Nat → St × (St))) (dw_X12 a ac) (fun j => a (0 + j * 5 + 57)) r) : dj_X12_programOf_19 p l e s m args below meth c Q A dC dI a ac (df_X12_programOf_19 n (a 15) (a 3)) r := by
  obtain ⟨hlt, hx, hb, hml, hown, hts, hN, hA, hK⟩ := id C
  intro y0 s0 H locs ls h hP hD hS hl
  unfold df_X12_programOf_19 at h
  cases hrj2 : y0 with
  | none =>
    subst hrj2
    have h := nd_mN h rfl
    have hl : lv_has ls 2 [] := hl
    refine W.eq (g2 := F0 m 19 ls [.null]) rfl ?_
    exact K _ none _ _ _ _ dX12_programOf_19 (Option.some.inj h).symm hP hD hS
  | some j2 =>
    subst hrj2
    have h := nd_mS h rfl
    have hl : lv_has ls 2 [] := hl
    refine W.eq (g2 := F0 m 19 ls [.ref (a (0 + j2 * 5 + 57))]) rfl ?_
    exact K _ (some j2) _ _ _ _ dX12_programOf_19 (Option.some.inj h).symm hP hD hS
set_option maxHeartbeats 40000000 in
set_option maxRecDepth 100000 in
theorem db_X12_programOf_9 {p : Program} {l : Launch} {e : Env} {s : State} {m : MethodId} {args : Array Value} {below : List Frame} {meth : Method} {c : Code} {Q : State → Prop} {A : Nat → Prop} {dC : Nat → ClassId} {dI : Nat → Nat → Nat} {a : Nat → Nat} {ac : Nat → ClassId} {n : Nat} {r : Option Nat × (St × Rw × (St) × (St × (St)) × (St) × (St × (St × (St × (St)))) × (St) × (St) × (Nat → St) × (Nat → St) × (Nat → St × (St)))} (C : nd_C p l s m args c A (dC, dI) cX12_programOf 2 RX12 ow_dm_X12_programOf (dk_X12 ac)) (K : nd_Kq p l e (headSpec ow_dm_X12_programOf ({ frames := 0, cells := 0, slots := 0, locals := 0 })).room s m args below meth c Q A (dC, dI) cX12_programOf (St × Rw × (St) × (St × (St)) × (St) × (St × (St × (St × (St)))) × (St) × (St) × (Nat → St) × (Nat → St) × (Nat → St × (St))) (dw_X12 a ac) (fun j => a (0 + j * 5 + 57)) r) : dj_X12_programOf_9 p l e s m args below meth c Q A dC dI a ac (df_X12_programOf_9 n (a 15) (a 3)) r := by
  obtain ⟨hlt, hx, hb, hml, hown, hts, hN, hA, hK⟩ := id C
  intro s0 H locs ls h hP hD hS hl
  unfold df_X12_programOf_9 at h
  refine lv_null hx hb dX12_programOf_9 ?_
  refine lv_goto (tgt := 19) hx hb dX12_programOf_10 (by decide) ?_
  exact (db_X12_programOf_19 C K) (none) s0 _ _ _ h hP hD hS (lv_sub hl [] rfl)
set_option maxHeartbeats 40000000 in
set_option maxRecDepth 100000 in
theorem db_X12_programOf_0 {p : Program} {l : Launch} {e : Env} {s : State} {m : MethodId} {args : Array Value} {below : List Frame} {meth : Method} {c : Code} {Q : State → Prop} {A : Nat → Prop} {dC : Nat → ClassId} {dI : Nat → Nat → Nat} {a : Nat → Nat} {ac : Nat → ClassId} {n : Nat} {r : Option Nat × (St × Rw × (St) × (St × (St)) × (St) × (St × (St × (St × (St)))) × (St) × (St) × (Nat → St) × (Nat → St) × (Nat → St × (St)))} (C : nd_C p l s m args c A (dC, dI) cX12_programOf 2 RX12 ow_dm_X12_programOf (dk_X12 ac)) (K : nd_Kq p l e (headSpec ow_dm_X12_programOf ({ frames := 0, cells := 0, slots := 0, locals := 0 })).room s m args below meth c Q A (dC, dI) cX12_programOf (St × Rw × (St) × (St × (St)) × (St) × (St × (St × (St × (St)))) × (St) × (St) × (Nat → St) × (Nat → St) × (Nat → St × (St))) (dw_X12 a ac) (fun j => a (0 + j * 5 + 57)) r) : dj_X12_programOf_0 p l e s m args below meth c Q A dC dI a ac (df_X12_programOf_0 n (a 15) (a 3)) r := by
  obtain ⟨hlt, hx, hb, hml, hown, hts, hN, hA, hK⟩ := id C
  intro v0 s0 H locs ls h hP hD hS hl
  unfold df_X12_programOf_0 at h
  refine lv_iload_n hx hb dX12_programOf_0 rfl (lv_at hl 1 rfl) ?_
  refine lv_if_lt (tgt := 9) hx hb dX12_programOf_1 (by decide) (fun c1 => ?_) (fun c1 => ?_)
  · have h := nd_pos h c1
    exact (db_X12_programOf_9 C K)  s0 _ _ _ h hP hD hS (lv_sub hl [] rfl)
  · have h := nd_neg h c1
    refine lv_iload_n hx hb dX12_programOf_4 rfl (lv_at hl 1 rfl) ?_
    refine lv_iconst (v := 4) hx hb dX12_programOf_5 (by decide) ?_
    refine lv_icmp_lt (tgt := 13) hx hb dX12_programOf_6 (by decide) (fun c3 => ?_) (fun c3 => ?_)
    · have h := nd_pos h c3
      refine lv_aload_n hx hb dX12_programOf_13 rfl (lv_at hl 0 rfl) ?_
      refine va_get (D := (dC, dI)) (ci := 13) (v := .ref (a 54)) (C := RX12) (T := TX12) (N := 12) hx hb hts hi_dm_X12_programOf_X12 hown hK hP 0 rfl rfl 3 (by decide) (hts (.fieldLink RX12 16 "TimeMachine" "programs" "[LTimeMachine$Program;") (List.mem_of_getElem? (i := 1) rfl)) (fun _ h9 => h9) rfl dX12_programOf_14 ?_
      refine lv_iload_n hx hb dX12_programOf_17 rfl (lv_at hl 1 rfl) ?_
      obtain ⟨i4, h⟩ := nd_ck_e h
      refine va_aldq (i := v0) hx hb hK hP 54 44 rfl rfl i4 dX12_programOf_18 ?_
      cases hrj5 : s0.2.1 1 (Int32.toNatClampNeg v0) with
      | none =>
        have h := nd_mN h hrj5
        refine W.eq (g2 := F0 m 19 ls [.null]) (by first | rfl | (show F0 m _ ls (va_rf (Option.map (fun j => a (0 + j * 5 + 57)) (s0.2.1 1 (Int32.toNatClampNeg v0))) :: _) = _; rw [hrj5]; rfl)) ?_
        exact (db_X12_programOf_19 C K) (none) s0 _ _ _ h hP hD hS (lv_sub hl [] rfl)
      | some j5 =>
        have h := nd_mS h hrj5
        refine W.eq (g2 := F0 m 19 ls [.ref (a (0 + j5 * 5 + 57))]) (by first | rfl | (show F0 m _ ls (va_rf (Option.map (fun j => a (0 + j * 5 + 57)) (s0.2.1 1 (Int32.toNatClampNeg v0))) :: _) = _; rw [hrj5]; rfl)) ?_
        exact (db_X12_programOf_19 C K) (some j5) s0 _ _ _ h hP hD hS (lv_sub hl [] rfl)
    · have h := nd_neg h c3
      exact (db_X12_programOf_9 C K)  s0 _ _ _ h hP hD hS (lv_sub hl [] rfl)
set_option maxHeartbeats 40000000 in
set_option maxRecDepth 100000 in
theorem dm_X12_programOf (l : Launch) (hlt : l.stackTraces = false) (dC : Nat → ClassId) (dI : Nat → Nat → Nat) (a : Nat → Nat) (ac : Nat → ClassId) (n : Nat) (v0 : Int32) (s0 : St × Rw × (St) × (St × (St)) × (St) × (St × (St × (St × (St)))) × (St) × (St) × (Nat → St) × (Nat → St) × (Nat → St × (St))) {r : Option Nat × (St × Rw × (St) × (St × (St)) × (St) × (St × (St × (St × (St)))) × (St) × (St) × (Nat → St) × (Nat → St) × (Nat → St × (St)))} (h : df_X12_programOf n (a 15) (a 3) v0 s0 = some r) (sz : Nat) : Met l yX12_programOf ow_dm_X12_programOf ({ frames := 0, cells := 0, slots := 0, locals := 0 }) (va_Pc [.ref (a 0), .int v0] (fun U => U.heap.size = sz ∧ va_P (dC, dI) vwCl (dw_X12 a ac s0) U.heap ∧ va_K (dC, dI) vwCl (dk_X12 ac) U ∧ va_D (fun _ => True) (dw_X12 a ac s0) ∧ nv_E (va_A (dw_X12 a ac s0) sz) U)) (va_Qq (fun x _ => x = Option.map (fun j => a (0 + j * 5 + 57)) r.1) (fun (_ : Unit) t => va_P (dC, dI) vwCl (dw_X12 a ac r.2) t.heap ∧ va_K (dC, dI) vwCl (dk_X12 ac) t ∧ va_D (va_A (dw_X12 a ac s0) sz) (dw_X12 a ac r.2)) (va_A (dw_X12 a ac s0) sz)) 0 0 (va_A (dw_X12 a ac s0) sz) := by
  refine Met.ofW (cc := cX12_programOf) (maxL := 2) (ret := (some (.object "TimeMachine$Program"))) (by decide) rfl ?_
  intro p e s m args below meth c s₁ B hml hv
  obtain ⟨rfl, hsz, hP, hK, hD0, hN⟩ := hv
  have hx := B.exec
  have hb := B.bytes
  have hr := B.returns
  have hts := atoms_spec (ws := ow_dm_X12_programOf) B.pre
  have hown : s.vm.findClass RX12 = some m.cls := findClass_of_methodNamed B.named
  have hlocks := B.notSynchronized
  subst hsz
  have hD := hD0.self (sz := s.heap.size)
  generalize hAe : va_A (dw_X12 a ac s0) s.heap.size = A at hD hN ⊢
  have hA : ∀ q : Nat, s.heap.size ≤ q → A q := fun q h => by rw [← hAe]; exact Or.inr h
  have hl := lv_entry ([.ref (a 0), .int v0]) (n := 2) (Nat.le_of_ble_eq_true rfl)
  rw [lg_entry_eq]
  generalize (lg_sl ([.ref (a 0), .int v0]) ++ List.replicate (2 - (lg_sl ([.ref (a 0), .int v0])).length) Slot.unset).toArray = ls at hl ⊢
  have hl : lv_has ls 2 [(0, .ref (a 0)), (1, .int v0)] := hl
  exact db_X12_programOf_0 (dC := dC) (dI := dI) (a := a) (ac := ac) (n := n) (r := r) ⟨hlt, hx, hb, hml, hown, hts, hN, hA, hK⟩ (fun pc o τ H locs ls d er hP hD hS => by subst er; exact W.aret (v := va_rf (Option.map (fun j => a (0 + j * 5 + 57)) o)) hx hb hr (by first | exact Or.inl ⟨_, rfl⟩ | exact Or.inr ⟨_, rfl⟩) (va_rf_or _) (fun t ht hW => ⟨⟨Option.map (fun j => a (0 + j * 5 + 57)) o, (), rfl, rfl, by rw [ht]; exact hP, va_K.moved hW.alike hK, hD⟩, hS.F ht⟩) hS.2.2 d) v0 s0 _ _ _ h hP hD va_S.rf (lv_sub hl [0, 1] rfl)
def ow_dm_X12_program : List Cond := .code yX12_program cX12_program 4 (some .int) :: ([.methodLink RX12 85 yX12_programOf, .instanceMethod yX12_programOf, .selects RX12 yX12_programOf yX12_programOf, .initialized RX12, .fieldLink RX12 89 "TimeMachine$Program" "textSize" "I", .fieldLink RX12 92 "TimeMachine$Program" "dataStart" "I", .fieldLink RX12 95 "TimeMachine$Program" "size" "I", .fieldLink RX12 98 "TimeMachine$Program" "labels" "I", .fieldLink RX12 101 "TimeMachine$Program" "constants" "I"] ++ (u_ws RX8 TX8 10 ++ (ow_dm_X12_programOf ++ [])))
theorem gd_dm_X12_program : ∀ w ∈ ow_dm_X12_program, (w.onTables && w.keeps) = true ∨ ∃ ty, w = Cond.arrayClass ty := List.forall_mem_cons.mpr ⟨good_of_word rfl, List.forall_mem_append.mpr ⟨fun w h => good_of_word (List.all_eq_true.mp (by decide +kernel) w h), List.forall_mem_append.mpr ⟨gu_X8, List.forall_mem_append.mpr ⟨gd_dm_X12_programOf, fun _ h => nomatch h⟩⟩⟩⟩
theorem hi_dm_X12_program_X8 : ∀ w ∈ u_ws RX8 TX8 10, w ∈ ow_dm_X12_program := fun w h => List.mem_cons_of_mem _ (List.mem_append_right _ (List.mem_append_left _ h))
theorem gi_dm_X12_program_0 : GoodIn ow_dm_X12_program (wsV RX12 85 RX12 yX12_programOf ow_dm_X12_programOf) := goodIn_app (goodIn_of _ (by decide +kernel)) (fun w h => ⟨List.mem_cons_of_mem _ (List.mem_append_right _ (List.mem_append_right _ (List.mem_append_left _ h))), gd_dm_X12_programOf w h⟩)
def dj_X12_program_0 (p : Program) (l : Launch) (e : Env) (s : State) (m : MethodId) (args : Array Value) (below : List Frame) (meth : Method) (c : Code) (Q : State → Prop) (A : Nat → Prop) (dC : Nat → ClassId) (dI : Nat → Nat → Nat) (a : Nat → Nat) (ac : Nat → ClassId) (g : Int32 → Int32 → (St × Rw × (St) × (St × (St)) × (St) × (St × (St × (St × (St)))) × (St) × (St) × (Nat → St) × (Nat → St) × (Nat → St × (St))) → Option (Int32 × (St × Rw × (St) × (St × (St)) × (St) × (St × (St × (St × (St)))) × (St) × (St) × (Nat → St) × (Nat → St) × (Nat → St × (St))))) (r : Int32 × (St × Rw × (St) × (St × (St)) × (St) × (St × (St × (St × (St)))) × (St) × (St) × (Nat → St) × (Nat → St) × (Nat → St × (St)))) : Prop := ∀ (v0 : Int32) (v1 : Int32) (s0 : St × Rw × (St) × (St × (St)) × (St) × (St × (St × (St × (St)))) × (St) × (St) × (Nat → St) × (Nat → St) × (Nat → St × (St))) (H : Heap) (locs : List Loc) (ls : Array Slot), g v0 v1 s0 = some r → va_P (dC, dI) vwCl (dw_X12 a ac s0) H → va_D A (dw_X12 a ac s0) → va_S A s.heap H locs → lv_has ls 4 [(0, .ref (a 0)), (1, .int v0), (2, .int v1)] → W p l e (headSpec ow_dm_X12_program ({ frames := 1, cells := 0, slots := 0, locals := 21 })).room s m args below meth c H locs 0 0 Q (F0 m 0 ls [])
set_option maxHeartbeats 40000000 in
set_option maxRecDepth 100000 in
theorem db_X12_program_0 {p : Program} {l : Launch} {e : Env} {s : State} {m : MethodId} {args : Array Value} {below : List Frame} {meth : Method} {c : Code} {Q : State → Prop} {A : Nat → Prop} {dC : Nat → ClassId} {dI : Nat → Nat → Nat} {a : Nat → Nat} {ac : Nat → ClassId} {n : Nat} {r : Int32 × (St × Rw × (St) × (St × (St)) × (St) × (St × (St × (St × (St)))) × (St) × (St) × (Nat → St) × (Nat → St) × (Nat → St × (St)))} (C : nd_C p l s m args c A (dC, dI) cX12_program 4 RX12 ow_dm_X12_program (dk_X12 ac)) (K : nd_Ki p l e (headSpec ow_dm_X12_program ({ frames := 1, cells := 0, slots := 0, locals := 21 })).room s m args below meth c Q A (dC, dI) cX12_program .int (St × Rw × (St) × (St × (St)) × (St) × (St × (St × (St × (St)))) × (St) × (St) × (Nat → St) × (Nat → St) × (Nat → St × (St))) (dw_X12 a ac) r) : dj_X12_program_0 p l e s m args below meth c Q A dC dI a ac (df_X12_program_0 n (a 15) (a 3)) r := by
  obtain ⟨hlt, hx, hb, hml, hown, hts, hN, hA, hK⟩ := id C
  intro v0 v1 s0 H locs ls h hP hD hS hl
  unfold df_X12_program_0 at h
  refine lv_aload_n hx hb dX12_program_0 rfl (lv_at hl 0 rfl) ?_
  refine lv_iload_n hx hb dX12_program_1 rfl (lv_at hl 1 rfl) ?_
  obtain ⟨q1, s2, hq, h⟩ := nd_b2_e h
  have hPc := hP
  have hDc := hD
  have hKc := hK
  have hFc := nd_rs hD hS hA
  refine nd_cVq (As := [.int v0]) (rest := []) (q := Option.map (fun j => a (0 + j * 5 + 57)) q1) (w' := dw_X12 a ac s2) ⟨hx, hb, hml, hown, hts⟩ (fun sz => dm_X12_programOf l hlt dC dI a ac n (v0) s0 hq sz) (cwV 1 hts gi_dm_X12_program_0 rfl rfl rfl (by decide +kernel) ⟨Nat.le_of_ble_eq_true rfl, Nat.le_of_ble_eq_true rfl⟩) hPc hDc hKc hS hA hN (va_recv hKc hPc (ci := 13) (q0 := 0) rfl rfl) rfl hl.1 rfl (Nat.le_of_ble_eq_true rfl) dX12_program_2 (fun H locs hP1 hD1 hk1 hS => ?_)
  have hP := hP1
  have hD := hD1.weaken (fun k q _ h => hFc q.1 h)
  cases hrj4 : q1 with
  | none =>
    have h := nd_mN h hrj4
    refine W.eq (g2 := F0 m 5 ls [.null]) (by first | rfl | (show F0 m _ ls (va_rf (Option.map (fun j => a (0 + j * 5 + 57)) q1) :: _) = _; rw [hrj4]; rfl)) ?_
    refine lv_astore_nN (lv' := [(3, .null), (0, .ref (a 0)), (1, .int v0), (2, .int v1)]) hx hb dX12_program_5 rfl hl (by decide) rfl (fun ls hl => ?_)
    refine lv_aload_nN hx hb dX12_program_6 rfl (lv_at hl 0 rfl) ?_
    refine lv_ifnonnullN hx hb dX12_program_7 ?_
    refine lv_iconst (v := (-1)) hx hb dX12_program_10 (by decide) ?_
    exact K _ _ _ _ _ _ dX12_program_11 rfl (Option.some.inj h).symm hP hD hS
  | some j4 =>
    have h := nd_mS h hrj4
    refine W.eq (g2 := F0 m 5 ls [.ref (a (0 + j4 * 5 + 57))]) (by first | rfl | (show F0 m _ ls (va_rf (Option.map (fun j => a (0 + j * 5 + 57)) q1) :: _) = _; rw [hrj4]; rfl)) ?_
    refine lv_astore_n (lv' := [(3, .ref (a (0 + j4 * 5 + 57))), (0, .ref (a 0)), (1, .int v0), (2, .int v1)]) hx hb dX12_program_5 rfl hl (by decide) rfl (fun ls hl => ?_)
    refine lv_aload_n hx hb dX12_program_6 rfl (lv_at hl 0 rfl) ?_
    refine lv_ifnonnull (tgt := 12) hx hb dX12_program_7 (by decide) ?_
    refine lv_iload_n hx hb dX12_program_12 rfl (lv_at hl 3 rfl) ?_
    by_cases c5 : v1 = 0
    · have h := nd_pos h c5
      refine lv_tableIn (off := 35) (tgt := 48) hx hb dX12_program_13 (by rw [c5]; decide) (by rw [c5]; decide) (by rw [c5]; decide) (by decide) ?_
      refine lv_aload_n hx hb dX12_program_48 rfl (lv_at hl 0 rfl) ?_
      obtain ⟨l6, h⟩ := nd_lt_e h
      refine va_get (D := (dC, dI)) (ci := 9) (v := .int (sI (s2.2.2.2.2.2.2.2.2.1 j4) 0)) (C := RX8) (T := TX8) (N := 10) hx hb hts hi_dm_X12_program_X8 hown hK (dl_X12_P8 l6 hP) 0 rfl rfl 1 (by decide) (hts (.fieldLink RX12 89 "TimeMachine$Program" "textSize" "I") (List.mem_of_getElem? (i := 5) rfl)) (fun _ h9 => h9) rfl dX12_program_49 ?_
      exact K _ _ _ _ _ _ dX12_program_52 rfl (Option.some.inj h).symm hP hD hS
    have h := nd_neg h c5
    by_cases c7 : v1 = 1
    · have h := nd_pos h c7
      refine lv_tableIn (off := 40) (tgt := 53) hx hb dX12_program_13 (by rw [c7]; decide) (by rw [c7]; decide) (by rw [c7]; decide) (by decide) ?_
      refine lv_aload_n hx hb dX12_program_53 rfl (lv_at hl 0 rfl) ?_
      obtain ⟨l8, h⟩ := nd_lt_e h
      refine va_get (D := (dC, dI)) (ci := 9) (v := .int (sI (s2.2.2.2.2.2.2.2.2.1 j4) 1)) (C := RX8) (T := TX8) (N := 10) hx hb hts hi_dm_X12_program_X8 hown hK (dl_X12_P8 l8 hP) 0 rfl rfl 2 (by decide) (hts (.fieldLink RX12 92 "TimeMachine$Program" "dataStart" "I") (List.mem_of_getElem? (i := 6) rfl)) (fun _ h9 => h9) rfl dX12_program_54 ?_
      exact K _ _ _ _ _ _ dX12_program_57 rfl (Option.some.inj h).symm hP hD hS
    have h := nd_neg h c7
    by_cases c9 : v1 = 2
    · have h := nd_pos h c9
      refine lv_tableIn (off := 45) (tgt := 58) hx hb dX12_program_13 (by rw [c9]; decide) (by rw [c9]; decide) (by rw [c9]; decide) (by decide) ?_
      refine lv_aload_n hx hb dX12_program_58 rfl (lv_at hl 0 rfl) ?_
      obtain ⟨l10, h⟩ := nd_lt_e h
      refine va_get (D := (dC, dI)) (ci := 9) (v := .int (sI (s2.2.2.2.2.2.2.2.2.1 j4) 2)) (C := RX8) (T := TX8) (N := 10) hx hb hts hi_dm_X12_program_X8 hown hK (dl_X12_P8 l10 hP) 0 rfl rfl 3 (by decide) (hts (.fieldLink RX12 95 "TimeMachine$Program" "size" "I") (List.mem_of_getElem? (i := 7) rfl)) (fun _ h9 => h9) rfl dX12_program_59 ?_
      exact K _ _ _ _ _ _ dX12_program_62 rfl (Option.some.inj h).symm hP hD hS
    have h := nd_neg h c9
    by_cases c11 : v1 = 3
    · have h := nd_pos h c11
      refine lv_tableIn (off := 50) (tgt := 63) hx hb dX12_program_13 (by rw [c11]; decide) (by rw [c11]; decide) (by rw [c11]; decide) (by decide) ?_
      refine lv_aload_n hx hb dX12_program_63 rfl (lv_at hl 0 rfl) ?_
      obtain ⟨l12, h⟩ := nd_lt_e h
      refine va_get (D := (dC, dI)) (ci := 9) (v := .int (sI (s2.2.2.2.2.2.2.2.2.1 j4) 4)) (C := RX8) (T := TX8) (N := 10) hx hb hts hi_dm_X12_program_X8 hown hK (dl_X12_P8 l12 hP) 0 rfl rfl 6 (by decide) (hts (.fieldLink RX12 98 "TimeMachine$Program" "labels" "I") (List.mem_of_getElem? (i := 8) rfl)) (fun _ h9 => h9) rfl dX12_program_64 ?_
      exact K _ _ _ _ _ _ dX12_program_67 rfl (Option.some.inj h).symm hP hD hS
    have h := nd_neg h c11
    by_cases c13 : v1 = 4
    · have h := nd_pos h c13
      refine lv_tableIn (off := 55) (tgt := 68) hx hb dX12_program_13 (by rw [c13]; decide) (by rw [c13]; decide) (by rw [c13]; decide) (by decide) ?_
      refine lv_aload_n hx hb dX12_program_68 rfl (lv_at hl 0 rfl) ?_
      obtain ⟨l14, h⟩ := nd_lt_e h
      refine va_get (D := (dC, dI)) (ci := 9) (v := .int (sI (s2.2.2.2.2.2.2.2.2.1 j4) 3)) (C := RX8) (T := TX8) (N := 10) hx hb hts hi_dm_X12_program_X8 hown hK (dl_X12_P8 l14 hP) 0 rfl rfl 4 (by decide) (hts (.fieldLink RX12 101 "TimeMachine$Program" "constants" "I") (List.mem_of_getElem? (i := 9) rfl)) (fun _ h9 => h9) rfl dX12_program_69 ?_
      exact K _ _ _ _ _ _ dX12_program_72 rfl (Option.some.inj h).symm hP hD hS
    have h := nd_neg h c13
    refine lv_tableOut (tgt := 73) hx hb dX12_program_13 (by have g0 := nv_nei c5 (k := 0) (by decide); have g1 := nv_nei c7 (k := 1) (by decide); have g2 := nv_nei c9 (k := 2) (by decide); have g3 := nv_nei c11 (k := 3) (by decide); have g4 := nv_nei c13 (k := 4) (by decide); omega) (by decide) ?_
    refine lv_iconst (v := (-1)) hx hb dX12_program_73 (by decide) ?_
    exact K _ _ _ _ _ _ dX12_program_74 rfl (Option.some.inj h).symm hP hD hS
