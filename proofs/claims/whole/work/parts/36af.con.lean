set_option maxHeartbeats 40000000 in
set_option maxRecDepth 100000 in
theorem db_X19_event_82 {p : Program} {l : Launch} {e : Env} {s : State} {m : MethodId} {args : Array Value} {below : List Frame} {meth : Method} {c : Code} {Q : State → Prop} {A : Nat → Prop} {dC : Nat → ClassId} {dI : Nat → Nat → Nat} {a : Nat → Nat} {ac : Nat → ClassId} {n : Nat} {r : Int64 × (St × (St) × (St × (St × (St))) × (St) × (St))} (C : nd_C p l s m args c A (dC, dI) cX19_event 3 RX19 ow_dm_X19_event (dk_X19 ac)) (K : nd_Kl p l e (headSpec ow_dm_X19_event ({ frames := 0, cells := 0, slots := 0, locals := 0 })).room s m args below meth c Q A (dC, dI) cX19_event (St × (St) × (St × (St × (St))) × (St) × (St)) (dw_X19 a ac) r) : dj_X19_event_82 p l e s m args below meth c Q A dC dI a ac (df_X19_event_82 n) r := by
  obtain ⟨hlt, hx, hb, hml, hown, hts, hN, hA, hK⟩ := id C
  intro y0 s0 H locs ls h hP hD hS hl
  unfold df_X19_event_82 at h
  exact K _ _ _ _ _ _ dX19_event_82 (Option.some.inj h).symm hP hD hS
set_option maxHeartbeats 40000000 in
set_option maxRecDepth 100000 in
theorem db_X19_event_0 {p : Program} {l : Launch} {e : Env} {s : State} {m : MethodId} {args : Array Value} {below : List Frame} {meth : Method} {c : Code} {Q : State → Prop} {A : Nat → Prop} {dC : Nat → ClassId} {dI : Nat → Nat → Nat} {a : Nat → Nat} {ac : Nat → ClassId} {n : Nat} {r : Int64 × (St × (St) × (St × (St × (St))) × (St) × (St))} (C : nd_C p l s m args c A (dC, dI) cX19_event 3 RX19 ow_dm_X19_event (dk_X19 ac)) (K : nd_Kl p l e (headSpec ow_dm_X19_event ({ frames := 0, cells := 0, slots := 0, locals := 0 })).room s m args below meth c Q A (dC, dI) cX19_event (St × (St) × (St × (St × (St))) × (St) × (St)) (dw_X19 a ac) r) : dj_X19_event_0 p l e s m args below meth c Q A dC dI a ac (df_X19_event_0 n) r := by
  obtain ⟨hlt, hx, hb, hml, hown, hts, hN, hA, hK⟩ := id C
  intro v0 v1 s0 H locs ls h hP hD hS hl
  unfold df_X19_event_0 at h
  refine lv_aload_n hx hb dX19_event_0 rfl (lv_at hl 0 rfl) ?_
  refine lv_iconst (v := 0) hx hb dX19_event_1 (by decide) ?_
  refine va_put (D := (dC, dI)) (ci := 20) (v := .int 0) (ty := .int) (C := RX19) (T := TX19) (N := 36) hx hb hts hi_dm_X19_event_X19 tyX19 tyX19_ok nmX19 hown hK hP hD hS 0 rfl rfl 0 (by decide) (hts (.fieldLink RX19 113 "TimeMachineModel" "code" "I") (List.mem_of_getElem? (i := 1) rfl)) (fun _ h9 => h9) rfl (by decide +kernel) rfl rfl (Nat.le_of_ble_eq_true rfl) dX19_event_2 (fun H locs hP hD hS => ?_)
  obtain ⟨s1, es1, h⟩ := nd_let_e h
  have hP : va_P (dC, dI) vwCl (dw_X19 a ac s1) H := by rw [es1]; exact hP
  have hD : va_D A (dw_X19 a ac s1) := by rw [es1]; exact hD
  refine lv_iload_n hx hb dX19_event_5 rfl (lv_at hl 1 rfl) ?_
  refine lv_if_lt (tgt := 17) hx hb dX19_event_6 (by decide) (fun c2 => ?_) (fun c2 => ?_)
  · have h := nd_pos h c2
    exact (db_X19_event_17 C K)  s1 _ _ _ h hP hD hS (lv_sub hl [] rfl)
  · have h := nd_neg h c2
    refine lv_iload_n hx hb dX19_event_9 rfl (lv_at hl 1 rfl) ?_
    refine lv_aload_n hx hb dX19_event_10 rfl (lv_at hl 0 rfl) ?_
    refine va_get (D := (dC, dI)) (ci := 20) (v := .int (sI s1.1 8)) (C := RX19) (T := TX19) (N := 36) hx hb hts hi_dm_X19_event_X19 hown hK hP 0 rfl rfl 22 (by decide) (hts (.fieldLink RX19 192 "TimeMachineModel" "events" "I") (List.mem_of_getElem? (i := 3) rfl)) (fun _ h9 => h9) rfl dX19_event_11 ?_
    refine lv_icmp_lt (tgt := 21) hx hb dX19_event_14 (by decide) (fun c3 => ?_) (fun c3 => ?_)
    · have h := nd_pos h c3
      refine lv_iload_n hx hb dX19_event_21 rfl (lv_at hl 2 rfl) ?_
      refine lv_if_ne (tgt := 35) hx hb dX19_event_22 (by decide) (fun c4 => ?_) (fun c4 => ?_)
      · have h := nd_neg h c4
        refine lv_iload_n hx hb dX19_event_35 rfl (lv_at hl 2 rfl) ?_
        refine lv_iconst (v := 1) hx hb dX19_event_36 (by decide) ?_
        refine lv_icmp_ne (tgt := 50) hx hb dX19_event_37 (by decide) (fun c5 => ?_) (fun c5 => ?_)
        · have h := nd_neg h c5
          refine lv_iload_n hx hb dX19_event_50 rfl (lv_at hl 2 rfl) ?_
          refine lv_iconst (v := 2) hx hb dX19_event_51 (by decide) ?_
          refine lv_icmp_ne (tgt := 64) hx hb dX19_event_52 (by decide) (fun c6 => ?_) (fun c6 => ?_)
          · have h := nd_neg h c6
            refine lv_iload_n hx hb dX19_event_64 rfl (lv_at hl 2 rfl) ?_
            refine lv_iconst (v := 3) hx hb dX19_event_65 (by decide) ?_
            refine lv_icmp_ne (tgt := 79) hx hb dX19_event_66 (by decide) (fun c7 => ?_) (fun c7 => ?_)
            · have h := nd_neg h c7
              refine lv_ldc2 hx hb hown (hts (.constantLong RX19 292 (-1)) (List.mem_of_getElem? (i := 2) rfl)) dX19_event_79 ?_
              exact (db_X19_event_82 C K) ((-1)) s1 _ _ _ h hP hD hS (lv_sub hl [] rfl)
            · have h := nd_pos h c7
              refine lv_aload_n hx hb dX19_event_69 rfl (lv_at hl 0 rfl) ?_
              refine va_get (D := (dC, dI)) (ci := 20) (v := .ref (a 7)) (C := RX19) (T := TX19) (N := 36) hx hb hts hi_dm_X19_event_X19 hown hK hP 0 rfl rfl 27 (by decide) (hts (.fieldLink RX19 88 "TimeMachineModel" "b" "[I") (List.mem_of_getElem? (i := 4) rfl)) (fun _ h9 => h9) rfl dX19_event_70 ?_
              refine lv_iload_n hx hb dX19_event_73 rfl (lv_at hl 1 rfl) ?_
              obtain ⟨i8, h⟩ := nd_ck_e h
              refine va_iald (i := v0) hx hb hK hP 7 6 rfl rfl i8 dX19_event_74 ?_
              refine lv_i2l hx hb dX19_event_75 rfl ?_
              refine lv_goto (tgt := 82) hx hb dX19_event_76 (by decide) ?_
              exact (db_X19_event_82 C K) ((((sR s1.1 6 (Int32.toNatClampNeg v0)) : Int32).toInt64)) s1 _ _ _ h hP hD hS (lv_sub hl [] rfl)
          · have h := nd_pos h c6
            refine lv_aload_n hx hb dX19_event_55 rfl (lv_at hl 0 rfl) ?_
            refine va_get (D := (dC, dI)) (ci := 20) (v := .ref (a 11)) (C := RX19) (T := TX19) (N := 36) hx hb hts hi_dm_X19_event_X19 hown hK hP 0 rfl rfl 31 (by decide) (hts (.fieldLink RX19 100 "TimeMachineModel" "a" "[J") (List.mem_of_getElem? (i := 5) rfl)) (fun _ h9 => h9) rfl dX19_event_56 ?_
            refine lv_iload_n hx hb dX19_event_59 rfl (lv_at hl 1 rfl) ?_
            obtain ⟨i9, h⟩ := nd_ck_e h
            refine va_lald (i := v0) hx hb hK hP 11 10 rfl rfl i9 dX19_event_60 ?_
            refine lv_goto (tgt := 82) hx hb dX19_event_61 (by decide) ?_
            exact (db_X19_event_82 C K) ((sQ s1.1 0 (Int32.toNatClampNeg v0))) s1 _ _ _ h hP hD hS (lv_sub hl [] rfl)
        · have h := nd_pos h c5
          refine lv_aload_n hx hb dX19_event_40 rfl (lv_at hl 0 rfl) ?_
          refine va_get (D := (dC, dI)) (ci := 20) (v := .ref (a 8)) (C := RX19) (T := TX19) (N := 36) hx hb hts hi_dm_X19_event_X19 hown hK hP 0 rfl rfl 28 (by decide) (hts (.fieldLink RX19 91 "TimeMachineModel" "when" "[I") (List.mem_of_getElem? (i := 6) rfl)) (fun _ h9 => h9) rfl dX19_event_41 ?_
          refine lv_iload_n hx hb dX19_event_44 rfl (lv_at hl 1 rfl) ?_
          obtain ⟨i10, h⟩ := nd_ck_e h
          refine va_iald (i := v0) hx hb hK hP 8 7 rfl rfl i10 dX19_event_45 ?_
          refine lv_i2l hx hb dX19_event_46 rfl ?_
          refine lv_goto (tgt := 82) hx hb dX19_event_47 (by decide) ?_
          exact (db_X19_event_82 C K) ((((sR s1.1 7 (Int32.toNatClampNeg v0)) : Int32).toInt64)) s1 _ _ _ h hP hD hS (lv_sub hl [] rfl)
      · have h := nd_pos h c4
        refine lv_aload_n hx hb dX19_event_25 rfl (lv_at hl 0 rfl) ?_
        refine va_get (D := (dC, dI)) (ci := 20) (v := .ref (a 6)) (C := RX19) (T := TX19) (N := 36) hx hb hts hi_dm_X19_event_X19 hown hK hP 0 rfl rfl 26 (by decide) (hts (.fieldLink RX19 85 "TimeMachineModel" "kind" "[I") (List.mem_of_getElem? (i := 7) rfl)) (fun _ h9 => h9) rfl dX19_event_26 ?_
        refine lv_iload_n hx hb dX19_event_29 rfl (lv_at hl 1 rfl) ?_
        obtain ⟨i11, h⟩ := nd_ck_e h
        refine va_iald (i := v0) hx hb hK hP 6 5 rfl rfl i11 dX19_event_30 ?_
        refine lv_i2l hx hb dX19_event_31 rfl ?_
        refine lv_goto (tgt := 82) hx hb dX19_event_32 (by decide) ?_
        exact (db_X19_event_82 C K) ((((sR s1.1 5 (Int32.toNatClampNeg v0)) : Int32).toInt64)) s1 _ _ _ h hP hD hS (lv_sub hl [] rfl)
    · have h := nd_neg h c3
      exact (db_X19_event_17 C K)  s1 _ _ _ h hP hD hS (lv_sub hl [] rfl)
set_option maxHeartbeats 40000000 in
set_option maxRecDepth 100000 in
theorem dm_X19_event (l : Launch) (hlt : l.stackTraces = false) (dC : Nat → ClassId) (dI : Nat → Nat → Nat) (a : Nat → Nat) (ac : Nat → ClassId) (n : Nat) (v0 : Int32) (v1 : Int32) (s0 : St × (St) × (St × (St × (St))) × (St) × (St)) {r : Int64 × (St × (St) × (St × (St × (St))) × (St) × (St))} (h : df_X19_event n v0 v1 s0 = some r) (sz : Nat) : Met l yX19_event ow_dm_X19_event ({ frames := 0, cells := 0, slots := 0, locals := 0 }) (va_Pc [.ref (a 0), .int v0, .int v1] (fun U => U.heap.size = sz ∧ va_P (dC, dI) vwCl (dw_X19 a ac s0) U.heap ∧ va_K (dC, dI) vwCl (dk_X19 ac) U ∧ va_D (fun _ => True) (dw_X19 a ac s0) ∧ nv_E (va_A (dw_X19 a ac s0) sz) U)) (va_Ql (fun x _ => x = r.1) (fun (_ : Unit) t => va_P (dC, dI) vwCl (dw_X19 a ac r.2) t.heap ∧ va_K (dC, dI) vwCl (dk_X19 ac) t ∧ va_D (va_A (dw_X19 a ac s0) sz) (dw_X19 a ac r.2)) (va_A (dw_X19 a ac s0) sz)) 0 0 (va_A (dw_X19 a ac s0) sz) := by
  refine Met.ofW (cc := cX19_event) (maxL := 3) (ret := (some .long)) (by decide) rfl ?_
  intro p e s m args below meth c s₁ B hml hv
  obtain ⟨rfl, hsz, hP, hK, hD0, hN⟩ := hv
  have hx := B.exec
  have hb := B.bytes
  have hr := B.returns
  have hts := atoms_spec (ws := ow_dm_X19_event) B.pre
  have hown : s.vm.findClass RX19 = some m.cls := findClass_of_methodNamed B.named
  have hlocks := B.notSynchronized
  subst hsz
  have hD := hD0.self (sz := s.heap.size)
  generalize hAe : va_A (dw_X19 a ac s0) s.heap.size = A at hD hN ⊢
  have hA : ∀ q : Nat, s.heap.size ≤ q → A q := fun q h => by rw [← hAe]; exact Or.inr h
  have hl := lv_entry ([.ref (a 0), .int v0, .int v1]) (n := 3) (Nat.le_of_ble_eq_true rfl)
  rw [lg_entry_eq]
  generalize (lg_sl ([.ref (a 0), .int v0, .int v1]) ++ List.replicate (3 - (lg_sl ([.ref (a 0), .int v0, .int v1])).length) Slot.unset).toArray = ls at hl ⊢
  have hl : lv_has ls 3 [(0, .ref (a 0)), (1, .int v0), (2, .int v1)] := hl
  exact db_X19_event_0 (dC := dC) (dI := dI) (a := a) (ac := ac) (n := n) (r := r) ⟨hlt, hx, hb, hml, hown, hts, hN, hA, hK⟩ (fun pc v τ H locs ls d er hP hD hS => by subst er; exact W.lret (v := v) hx hb hr (fun t ht hW => ⟨⟨v, (), rfl, rfl, by rw [ht]; exact hP, va_K.moved hW.alike hK, hD⟩, hS.F ht⟩) hS.2.2 d) v0 v1 s0 _ _ _ h hP hD va_S.rf (lv_sub hl [0, 1, 2] rfl)
