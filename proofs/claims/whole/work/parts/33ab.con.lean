set_option maxHeartbeats 40000000 in
set_option maxRecDepth 100000 in
theorem db_X15_least_37 {p : Program} {l : Launch} {e : Env} {s : State} {m : MethodId} {args : Array Value} {below : List Frame} {meth : Method} {c : Code} {Q : State → Prop} {A : Nat → Prop} {dC : Nat → ClassId} {dI : Nat → Nat → Nat} {a : Nat → Nat} {ac : Nat → ClassId} {n : Nat} {r : Int32 × (St × (St × (St)))} (C : nd_C p l s m args c A (dC, dI) cX15_least 7 RX15 ow_dm_X15_least (dk_X15 ac)) (K : nd_Ki p l e (headSpec ow_dm_X15_least ({ frames := 1, cells := 0, slots := 0, locals := 20 })).room s m args below meth c Q A (dC, dI) cX15_least .int (St × (St × (St))) (dw_X15 a ac) r) {g8 : Int32 → Int32 → Int32 → Int32 → (St × (St × (St))) → Option (Int32 × (St × (St × (St))))} (J8 : dj_X15_least_8 p l e s m args below meth c Q A dC dI a ac g8 r) : dj_X15_least_37 p l e s m args below meth c Q A dC dI a ac (df_X15_least_37 n g8) r := by
  obtain ⟨hlt, hx, hb, hml, hown, hts, hN, hA, hK⟩ := id C
  intro x2 x3 x5 s0 H locs ls h hP hD hS hl
  unfold df_X15_least_37 at h
  refine lv_aload_n hx hb dX15_least_37 rfl (lv_at hl 0 rfl) ?_
  refine va_get (D := (dC, dI)) (ci := 16) (v := .ref (a 5)) (C := RX15) (T := TX15) (N := 28) hx hb hts hi_dm_X15_least_X15 hown hK hP 0 rfl rfl 6 (by decide) (hts (.fieldLink RX15 24 "TimeMachineModel$Conditions" "partner" "[I") (List.mem_of_getElem? (i := 2) rfl)) (fun _ h9 => h9) rfl dX15_least_38 ?_
  refine lv_iload hx hb dX15_least_41 (lv_at hl 3 rfl) ?_
  obtain ⟨i5, h⟩ := nd_ck_e h
  refine va_iald (i := x5) hx hb hK hP 5 4 rfl rfl i5 dX15_least_43 ?_
  refine lv_topi (fun z6 ez6 => ?_)
  have h := nd_at h ez6
  refine lv_istore (lv' := [(5, .int z6), (0, .ref (a 0)), (2, .int x2), (3, .int x3)]) hx hb dX15_least_44 hl (by decide) rfl (fun ls hl => ?_)
  refine lv_iconst (v := 1) hx hb dX15_least_46 (by decide) ?_
  refine lv_istore (lv' := [(4, .int 1), (5, .int z6), (0, .ref (a 0)), (2, .int x2), (3, .int x3)]) hx hb dX15_least_47 hl (by decide) rfl (fun ls hl => ?_)
  refine lv_goto (tgt := 103) hx hb dX15_least_49 (by decide) ?_
  exact (db_X15_least_103 C K J8) (x2) (x3) (1) (z6) s0 _ _ _ h hP hD hS (lv_sub hl [2, 3, 4, 0, 1] rfl)
set_option maxHeartbeats 40000000 in
set_option maxRecDepth 100000 in
theorem db_X15_least_101 {p : Program} {l : Launch} {e : Env} {s : State} {m : MethodId} {args : Array Value} {below : List Frame} {meth : Method} {c : Code} {Q : State → Prop} {A : Nat → Prop} {dC : Nat → ClassId} {dI : Nat → Nat → Nat} {a : Nat → Nat} {ac : Nat → ClassId} {n : Nat} {r : Int32 × (St × (St × (St)))} (C : nd_C p l s m args c A (dC, dI) cX15_least 7 RX15 ow_dm_X15_least (dk_X15 ac)) (K : nd_Ki p l e (headSpec ow_dm_X15_least ({ frames := 1, cells := 0, slots := 0, locals := 20 })).room s m args below meth c Q A (dC, dI) cX15_least .int (St × (St × (St))) (dw_X15 a ac) r) {g8 : Int32 → Int32 → Int32 → Int32 → (St × (St × (St))) → Option (Int32 × (St × (St × (St))))} (J8 : dj_X15_least_8 p l e s m args below meth c Q A dC dI a ac g8 r) : dj_X15_least_101 p l e s m args below meth c Q A dC dI a ac (df_X15_least_101 n g8) r := by
  obtain ⟨hlt, hx, hb, hml, hown, hts, hN, hA, hK⟩ := id C
  intro x2 x3 x5 y0 s0 H locs ls h hP hD hS hl
  unfold df_X15_least_101 at h
  refine lv_istore (lv' := [(4, .int y0), (0, .ref (a 0)), (2, .int x2), (3, .int x3), (5, .int x5)]) hx hb dX15_least_101 hl (by decide) rfl (fun ls hl => ?_)
  exact (db_X15_least_103 C K J8) (x2) (x3) (y0) (x5) s0 _ _ _ h hP hD hS (lv_sub hl [1, 2, 3, 0, 4] rfl)
set_option maxHeartbeats 40000000 in
set_option maxRecDepth 100000 in
theorem db_X15_least_89 {p : Program} {l : Launch} {e : Env} {s : State} {m : MethodId} {args : Array Value} {below : List Frame} {meth : Method} {c : Code} {Q : State → Prop} {A : Nat → Prop} {dC : Nat → ClassId} {dI : Nat → Nat → Nat} {a : Nat → Nat} {ac : Nat → ClassId} {n : Nat} {r : Int32 × (St × (St × (St)))} (C : nd_C p l s m args c A (dC, dI) cX15_least 7 RX15 ow_dm_X15_least (dk_X15 ac)) (K : nd_Ki p l e (headSpec ow_dm_X15_least ({ frames := 1, cells := 0, slots := 0, locals := 20 })).room s m args below meth c Q A (dC, dI) cX15_least .int (St × (St × (St))) (dw_X15 a ac) r) {g8 : Int32 → Int32 → Int32 → Int32 → (St × (St × (St))) → Option (Int32 × (St × (St × (St))))} (J8 : dj_X15_least_8 p l e s m args below meth c Q A dC dI a ac g8 r) : dj_X15_least_89 p l e s m args below meth c Q A dC dI a ac (df_X15_least_89 n g8) r := by
  obtain ⟨hlt, hx, hb, hml, hown, hts, hN, hA, hK⟩ := id C
  intro x2 x3 x5 x6 s0 H locs ls h hP hD hS hl
  unfold df_X15_least_89 at h
  refine lv_iload hx hb dX15_least_89 (lv_at hl 4 rfl) ?_
  refine lv_bipush (v := 10) hx hb dX15_least_91 (by decide) ?_
  refine lv_icmp_ge (tgt := 100) hx hb dX15_least_93 (by decide) (fun c10 => ?_) (fun c10 => ?_)
  · have h := nd_pos h c10
    refine lv_iconst (v := 0) hx hb dX15_least_100 (by decide) ?_
    exact (db_X15_least_101 C K J8) (x2) (x3) (x5) (0) s0 _ _ _ h hP hD hS (lv_sub hl [0, 1, 2, 3] rfl)
  · have h := nd_neg h c10
    refine lv_iconst (v := 1) hx hb dX15_least_96 (by decide) ?_
    refine lv_goto (tgt := 101) hx hb dX15_least_97 (by decide) ?_
    exact (db_X15_least_101 C K J8) (x2) (x3) (x5) (1) s0 _ _ _ h hP hD hS (lv_sub hl [0, 1, 2, 3] rfl)
set_option maxHeartbeats 40000000 in
set_option maxRecDepth 100000 in
theorem db_X15_least_86 {p : Program} {l : Launch} {e : Env} {s : State} {m : MethodId} {args : Array Value} {below : List Frame} {meth : Method} {c : Code} {Q : State → Prop} {A : Nat → Prop} {dC : Nat → ClassId} {dI : Nat → Nat → Nat} {a : Nat → Nat} {ac : Nat → ClassId} {n : Nat} {r : Int32 × (St × (St × (St)))} (C : nd_C p l s m args c A (dC, dI) cX15_least 7 RX15 ow_dm_X15_least (dk_X15 ac)) (K : nd_Ki p l e (headSpec ow_dm_X15_least ({ frames := 1, cells := 0, slots := 0, locals := 20 })).room s m args below meth c Q A (dC, dI) cX15_least .int (St × (St × (St))) (dw_X15 a ac) r) {g8 : Int32 → Int32 → Int32 → Int32 → (St × (St × (St))) → Option (Int32 × (St × (St × (St))))} (J8 : dj_X15_least_8 p l e s m args below meth c Q A dC dI a ac g8 r) : dj_X15_least_86 p l e s m args below meth c Q A dC dI a ac (df_X15_least_86 n g8) r := by
  obtain ⟨hlt, hx, hb, hml, hown, hts, hN, hA, hK⟩ := id C
  intro x2 x5 x6 s0 H locs ls h hP hD hS hl
  unfold df_X15_least_86 at h
  refine lv_iload hx hb dX15_least_86 (lv_at hl 2 rfl) ?_
  refine lv_istore_n (lv' := [(3, .int x5), (0, .ref (a 0)), (2, .int x2), (5, .int x5), (6, .int x6)]) hx hb dX15_least_88 rfl hl (by decide) rfl (fun ls hl => ?_)
  exact (db_X15_least_89 C K J8) (x2) (x5) (x5) (x6) s0 _ _ _ h hP hD hS (lv_sub hl [1, 2, 0, 3, 4] rfl)
set_option maxHeartbeats 40000000 in
set_option maxRecDepth 100000 in
theorem dB_X15_least_8 {p : Program} {l : Launch} {e : Env} {s : State} {m : MethodId} {args : Array Value} {below : List Frame} {meth : Method} {c : Code} {Q : State → Prop} {A : Nat → Prop} {dC : Nat → ClassId} {dI : Nat → Nat → Nat} {a : Nat → Nat} {ac : Nat → ClassId} {n : Nat} {r : Int32 × (St × (St × (St)))} (C : nd_C p l s m args c A (dC, dI) cX15_least 7 RX15 ow_dm_X15_least (dk_X15 ac)) (K : nd_Ki p l e (headSpec ow_dm_X15_least ({ frames := 1, cells := 0, slots := 0, locals := 20 })).room s m args below meth c Q A (dC, dI) cX15_least .int (St × (St × (St))) (dw_X15 a ac) r) {g8 : Int32 → Int32 → Int32 → Int32 → (St × (St × (St))) → Option (Int32 × (St × (St × (St))))} (J8 : dj_X15_least_8 p l e s m args below meth c Q A dC dI a ac g8 r) : dj_X15_least_8 p l e s m args below meth c Q A dC dI a ac (dF_X15_least_8 n g8) r := by
  obtain ⟨hlt, hx, hb, hml, hown, hts, hN, hA, hK⟩ := id C
  intro x2 x3 x4 x5 s0 H locs ls h hP hD hS hl
  unfold dF_X15_least_8 at h
  refine lv_iload hx hb dX15_least_8 (lv_at hl 4 rfl) ?_
  refine lv_iload_n hx hb dX15_least_10 rfl (lv_at hl 1 rfl) ?_
  refine lv_icmp_ge (tgt := 109) hx hb dX15_least_11 (by decide) (fun c1 => ?_) (fun c1 => ?_)
  · have h := nd_pos h c1
    refine lv_iload_n hx hb dX15_least_109 rfl (lv_at hl 2 rfl) ?_
    exact K _ _ _ _ _ _ dX15_least_110 rfl (Option.some.inj h).symm hP hD hS
  · have h := nd_neg h c1
    refine lv_aload_n hx hb dX15_least_14 rfl (lv_at hl 0 rfl) ?_
    refine va_get (D := (dC, dI)) (ci := 16) (v := .ref (a 4)) (C := RX15) (T := TX15) (N := 28) hx hb hts hi_dm_X15_least_X15 hown hK hP 0 rfl rfl 5 (by decide) (hts (.fieldLink RX15 21 "TimeMachineModel$Conditions" "kind" "[I") (List.mem_of_getElem? (i := 1) rfl)) (fun _ h9 => h9) rfl dX15_least_15 ?_
    refine lv_iload hx hb dX15_least_18 (lv_at hl 4 rfl) ?_
    obtain ⟨i2, h⟩ := nd_ck_e h
    refine va_iald (i := x5) hx hb hK hP 4 3 rfl rfl i2 dX15_least_20 ?_
    refine lv_topi (fun z3 ez3 => ?_)
    have h := nd_at h ez3
    refine lv_istore (lv' := [(6, .int z3), (0, .ref (a 0)), (2, .int x2), (3, .int x3), (4, .int x4), (5, .int x5)]) hx hb dX15_least_21 hl (by decide) rfl (fun ls hl => ?_)
    refine lv_iload hx hb dX15_least_23 (lv_at hl 0 rfl) ?_
    refine lv_bipush (v := 30) hx hb dX15_least_25 (by decide) ?_
    refine lv_icmp_eq (tgt := 37) hx hb dX15_least_27 (by decide) (fun c4 => ?_) (fun c4 => ?_)
    · have h := nd_pos h c4
      exact (db_X15_least_37 C K J8) (x2) (x3) (x5) s0 _ _ _ h hP hD hS (lv_sub hl [1, 2, 3, 5] rfl)
    · have h := nd_neg h c4
      refine lv_iload hx hb dX15_least_30 (lv_at hl 0 rfl) ?_
      refine lv_bipush (v := 32) hx hb dX15_least_32 (by decide) ?_
      refine lv_icmp_ne (tgt := 52) hx hb dX15_least_34 (by decide) (fun c8 => ?_) (fun c8 => ?_)
      · have h := nd_neg h c8
        refine lv_iload hx hb dX15_least_52 (lv_at hl 4 rfl) ?_
        refine lv_if_eq (tgt := 89) hx hb dX15_least_54 (by decide) (fun c9 => ?_) (fun c9 => ?_)
        · have h := nd_pos h c9
          exact (db_X15_least_89 C K J8) (x2) (x3) (x5) (z3) s0 _ _ _ h hP hD hS (lv_sub hl [1, 2, 3, 5, 0] rfl)
        · have h := nd_neg h c9
          refine lv_iload hx hb dX15_least_57 (lv_at hl 0 rfl) ?_
          obtain ⟨q11, s12, hq, h⟩ := nd_b2_e h
          have hPc : va_P (dC, dI) vwCl (dw_P a ac ()) H := nd_p0
          have hDc : va_D A (dw_P a ac ()) := nd_d0
          have hKc : va_K (dC, dI) vwCl (dk_P ac) s := nd_y0 hK
          have hFc : ∀ q, va_A (dw_P a ac ()) H.size q → A q := nd_r0 hS hA
          refine nd_cSi (As := [.int z3]) (rest := []) (q := q11) (w' := dw_P a ac s12) ⟨hx, hb, hml, hown, hts⟩ (fun sz => dm_X15_isBetween l hlt dC dI a ac n (z3) () hq sz) (cwS 1 hts gi_dm_X15_least_0 rfl rfl rfl (by decide +kernel) ⟨Nat.le_of_ble_eq_true rfl, Nat.le_of_ble_eq_true rfl⟩) hPc hDc hKc hS hA hN rfl hl.1 rfl (Nat.le_of_ble_eq_true rfl) dX15_least_59 (fun H locs hP1 hD1 hk1 hS => ?_)
          have hP := nd_n0 hP hk1
          refine lv_if_eq (tgt := 89) hx hb dX15_least_62 (by decide) (fun c14 => ?_) (fun c14 => ?_)
          · have h := nd_pos h c14
            exact (db_X15_least_89 C K J8) (x2) (x3) (x5) (z3) s0 _ _ _ h hP hD hS (lv_sub hl [1, 2, 3, 5, 0] rfl)
          · have h := nd_neg h c14
            refine lv_iload_n hx hb dX15_least_65 rfl (lv_at hl 3 rfl) ?_
            refine lv_if_lt (tgt := 86) hx hb dX15_least_66 (by decide) (fun c15 => ?_) (fun c15 => ?_)
            · have h := nd_pos h c15
              exact (db_X15_least_86 C K J8) (x2) (x5) (z3) s0 _ _ _ h hP hD hS (lv_sub hl [1, 2, 5, 0] rfl)
            · have h := nd_neg h c15
              refine lv_iload hx hb dX15_least_69 (lv_at hl 0 rfl) ?_
              obtain ⟨q16, s17, hq, h⟩ := nd_b2_e h
              have hPc : va_P (dC, dI) vwCl (dw_P a ac ()) H := nd_p0
              have hDc : va_D A (dw_P a ac ()) := nd_d0
              have hKc : va_K (dC, dI) vwCl (dk_P ac) s := nd_y0 hK
              have hFc : ∀ q, va_A (dw_P a ac ()) H.size q → A q := nd_r0 hS hA
              refine nd_cSi (As := [.int z3]) (rest := []) (q := q16) (w' := dw_P a ac s17) ⟨hx, hb, hml, hown, hts⟩ (fun sz => dm_X15_rank l hlt dC dI a ac n (z3) () hq sz) (cwS 1 hts gi_dm_X15_least_1 rfl rfl rfl (by decide +kernel) ⟨Nat.le_of_ble_eq_true rfl, Nat.le_of_ble_eq_true rfl⟩) hPc hDc hKc hS hA hN rfl hl.1 rfl (Nat.le_of_ble_eq_true rfl) dX15_least_71 (fun H locs hP1 hD1 hk1 hS => ?_)
              have hP := nd_n0 hP hk1
              refine lv_aload_n hx hb dX15_least_74 rfl (lv_at hl 1 rfl) ?_
              refine va_get (D := (dC, dI)) (ci := 16) (v := .ref (a 4)) (C := RX15) (T := TX15) (N := 28) hx hb hts hi_dm_X15_least_X15 hown hK hP 0 rfl rfl 5 (by decide) (hts (.fieldLink RX15 21 "TimeMachineModel$Conditions" "kind" "[I") (List.mem_of_getElem? (i := 1) rfl)) (fun _ h9 => h9) rfl dX15_least_75 ?_
              refine lv_iload_n hx hb dX15_least_78 rfl (lv_at hl 3 rfl) ?_
              obtain ⟨i19, h⟩ := nd_ck_e h
              refine va_iald (i := x3) hx hb hK hP 4 3 rfl rfl i19 dX15_least_79 ?_
              obtain ⟨q20, s21, hq, h⟩ := nd_b2_e h
              have hPc : va_P (dC, dI) vwCl (dw_P a ac ()) H := nd_p0
              have hDc : va_D A (dw_P a ac ()) := nd_d0
              have hKc : va_K (dC, dI) vwCl (dk_P ac) s := nd_y0 hK
              have hFc : ∀ q, va_A (dw_P a ac ()) H.size q → A q := nd_r0 hS hA
              refine nd_cSi (As := [.int (sR s0.1 3 (Int32.toNatClampNeg x3))]) (rest := [.int q16]) (q := q20) (w' := dw_P a ac s21) ⟨hx, hb, hml, hown, hts⟩ (fun sz => dm_X15_rank l hlt dC dI a ac n ((sR s0.1 3 (Int32.toNatClampNeg x3))) () hq sz) (cwS 1 hts gi_dm_X15_least_1 rfl rfl rfl (by decide +kernel) ⟨Nat.le_of_ble_eq_true rfl, Nat.le_of_ble_eq_true rfl⟩) hPc hDc hKc hS hA hN rfl hl.1 rfl (Nat.le_of_ble_eq_true rfl) dX15_least_80 (fun H locs hP1 hD1 hk1 hS => ?_)
              have hP := nd_n0 hP hk1
              refine lv_icmp_gt (tgt := 89) hx hb dX15_least_83 (by decide) (fun c23 => ?_) (fun c23 => ?_)
              · have h := nd_pos h c23
                exact (db_X15_least_89 C K J8) (x2) (x3) (x5) (z3) s0 _ _ _ h hP hD hS (lv_sub hl [1, 2, 3, 5, 0] rfl)
              · have h := nd_neg h c23
                exact (db_X15_least_86 C K J8) (x2) (x5) (z3) s0 _ _ _ h hP hD hS (lv_sub hl [1, 2, 5, 0] rfl)
      · have h := nd_pos h c8
        exact (db_X15_least_37 C K J8) (x2) (x3) (x5) s0 _ _ _ h hP hD hS (lv_sub hl [1, 2, 3, 5] rfl)
set_option maxHeartbeats 40000000 in
set_option maxRecDepth 100000 in
theorem db_X15_least_8 {p : Program} {l : Launch} {e : Env} {s : State} {m : MethodId} {args : Array Value} {below : List Frame} {meth : Method} {c : Code} {Q : State → Prop} {A : Nat → Prop} {dC : Nat → ClassId} {dI : Nat → Nat → Nat} {a : Nat → Nat} {ac : Nat → ClassId} {n : Nat} {r : Int32 × (St × (St × (St)))} (C : nd_C p l s m args c A (dC, dI) cX15_least 7 RX15 ow_dm_X15_least (dk_X15 ac)) (K : nd_Ki p l e (headSpec ow_dm_X15_least ({ frames := 1, cells := 0, slots := 0, locals := 20 })).room s m args below meth c Q A (dC, dI) cX15_least .int (St × (St × (St))) (dw_X15 a ac) r) (k : Nat) : dj_X15_least_8 p l e s m args below meth c Q A dC dI a ac (df_X15_least_8 n k) r := by
  induction k with
  | zero => intro x2 x3 x4 x5 s0 H locs ls h; exact nomatch (show (none : Option (Int32 × (St × (St × (St))))) = some r from h)
  | succ k ih => exact dB_X15_least_8 C K ih
set_option maxHeartbeats 40000000 in
set_option maxRecDepth 100000 in
theorem db_X15_least_0 {p : Program} {l : Launch} {e : Env} {s : State} {m : MethodId} {args : Array Value} {below : List Frame} {meth : Method} {c : Code} {Q : State → Prop} {A : Nat → Prop} {dC : Nat → ClassId} {dI : Nat → Nat → Nat} {a : Nat → Nat} {ac : Nat → ClassId} {n : Nat} {r : Int32 × (St × (St × (St)))} (C : nd_C p l s m args c A (dC, dI) cX15_least 7 RX15 ow_dm_X15_least (dk_X15 ac)) (K : nd_Ki p l e (headSpec ow_dm_X15_least ({ frames := 1, cells := 0, slots := 0, locals := 20 })).room s m args below meth c Q A (dC, dI) cX15_least .int (St × (St × (St))) (dw_X15 a ac) r) : dj_X15_least_0 p l e s m args below meth c Q A dC dI a ac (df_X15_least_0 n) r := by
  obtain ⟨hlt, hx, hb, hml, hown, hts, hN, hA, hK⟩ := id C
  intro v0 v1 s0 H locs ls h hP hD hS hl
  unfold df_X15_least_0 at h
  refine lv_iconst (v := (-1)) hx hb dX15_least_0 (by decide) ?_
  refine lv_istore_n (lv' := [(3, .int (-1)), (0, .ref (a 0)), (1, .int v0), (2, .int v1)]) hx hb dX15_least_1 rfl hl (by decide) rfl (fun ls hl => ?_)
  refine lv_iconst (v := 0) hx hb dX15_least_2 (by decide) ?_
  refine lv_istore (lv' := [(4, .int 0), (3, .int (-1)), (0, .ref (a 0)), (1, .int v0), (2, .int v1)]) hx hb dX15_least_3 hl (by decide) rfl (fun ls hl => ?_)
  refine lv_iload_n hx hb dX15_least_5 rfl (lv_at hl 3 rfl) ?_
  refine lv_istore (lv' := [(5, .int v0), (4, .int 0), (3, .int (-1)), (0, .ref (a 0)), (1, .int v0), (2, .int v1)]) hx hb dX15_least_6 hl (by decide) rfl (fun ls hl => ?_)
  exact (db_X15_least_8 C K n) (v1) ((-1)) (0) (v0) s0 _ _ _ h hP hD hS (lv_sub hl [3, 5, 2, 1, 0] rfl)
set_option maxHeartbeats 40000000 in
set_option maxRecDepth 100000 in
theorem dm_X15_least (l : Launch) (hlt : l.stackTraces = false) (dC : Nat → ClassId) (dI : Nat → Nat → Nat) (a : Nat → Nat) (ac : Nat → ClassId) (n : Nat) (v0 : Int32) (v1 : Int32) (s0 : St × (St × (St))) {r : Int32 × (St × (St × (St)))} (h : df_X15_least n v0 v1 s0 = some r) (sz : Nat) : Met l yX15_least ow_dm_X15_least ({ frames := 1, cells := 0, slots := 0, locals := 20 }) (va_Pc [.ref (a 0), .int v0, .int v1] (fun U => U.heap.size = sz ∧ va_P (dC, dI) vwCl (dw_X15 a ac s0) U.heap ∧ va_K (dC, dI) vwCl (dk_X15 ac) U ∧ va_D (fun _ => True) (dw_X15 a ac s0) ∧ nv_E dI (va_A (dw_X15 a ac s0) sz) U)) (va_Qi (fun x _ => x = r.1) (fun (_ : Unit) t => va_P (dC, dI) vwCl (dw_X15 a ac r.2) t.heap ∧ va_K (dC, dI) vwCl (dk_X15 ac) t ∧ va_D (va_A (dw_X15 a ac s0) sz) (dw_X15 a ac r.2)) (va_A (dw_X15 a ac s0) sz)) 0 0 (va_A (dw_X15 a ac s0) sz) := by
  refine Met.ofW (cc := cX15_least) (maxL := 7) (ret := (some .int)) (by decide) rfl ?_
  intro p e s m args below meth c s₁ B hml hv
  obtain ⟨rfl, hsz, hP, hK, hD0, hN⟩ := hv
  have hx := B.exec
  have hb := B.bytes
  have hr := B.returns
  have hts := atoms_spec (ws := ow_dm_X15_least) B.pre
  have hown : s.vm.findClass RX15 = some m.cls := findClass_of_methodNamed B.named
  have hlocks := B.notSynchronized
  subst hsz
  have hD := hD0.self (sz := s.heap.size)
  generalize hAe : va_A (dw_X15 a ac s0) s.heap.size = A at hD hN ⊢
  have hA : ∀ q : Nat, s.heap.size ≤ q → A q := fun q h => by rw [← hAe]; exact Or.inr h
  have hl := lv_entry ([.ref (a 0), .int v0, .int v1]) (n := 7) (Nat.le_of_ble_eq_true rfl)
  rw [lg_entry_eq]
  generalize (lg_sl ([.ref (a 0), .int v0, .int v1]) ++ List.replicate (7 - (lg_sl ([.ref (a 0), .int v0, .int v1])).length) Slot.unset).toArray = ls at hl ⊢
  have hl : lv_has ls 7 [(0, .ref (a 0)), (1, .int v0), (2, .int v1)] := hl
  exact db_X15_least_0 (dC := dC) (dI := dI) (a := a) (ac := ac) (n := n) (r := r) ⟨hlt, hx, hb, hml, hown, hts, hN, hA, hK⟩ (fun pc v τ H locs ls d z er hP hD hS => by subst er; exact W.zret (v := v) hx hb hr z (fun t ht hW => ⟨⟨v, (), rfl, rfl, by rw [ht]; exact hP, va_K.moved hW.alike hK, hD⟩, hS.F ht⟩) hS.2.2 d) v0 v1 s0 _ _ _ h hP hD va_S.rf (lv_sub hl [0, 1, 2] rfl)
def ow_dm_X15_begin : List Cond := Cond.code yX15_begin cX15_begin 3 none :: ([Cond.fieldLink RX15 46 "TimeMachineModel$Conditions" "first" "[I", Cond.fieldLink RX15 164 "TimeMachineModel$Conditions" "begun" "I", Cond.fieldLink RX15 49 "TimeMachineModel$Conditions" "last" "[I", Cond.fieldLink RX15 55 "TimeMachineModel$Conditions" "stage" "[I"] ++ (u_ws RX15 TX15 28 ++ []))
theorem gd_dm_X15_begin : ∀ w ∈ ow_dm_X15_begin, (w.onTables && w.keeps) = true ∨ ∃ ty, w = Cond.arrayClass ty := List.forall_mem_cons.mpr ⟨good_of_word rfl, List.forall_mem_append.mpr ⟨fun w h => good_of_word (List.all_eq_true.mp (by decide +kernel) w h), List.forall_mem_append.mpr ⟨gu_X15, fun _ h => nomatch h⟩⟩⟩
theorem hi_dm_X15_begin_X15 : ∀ w ∈ u_ws RX15 TX15 28, w ∈ ow_dm_X15_begin := fun w h => List.mem_cons_of_mem _ (List.mem_append_right _ (List.mem_append_left _ h))
def dj_X15_begin_0 (p : Program) (l : Launch) (e : Env) (s : State) (m : MethodId) (args : Array Value) (below : List Frame) (meth : Method) (c : Code) (Q : State → Prop) (A : Nat → Prop) (dC : Nat → ClassId) (dI : Nat → Nat → Nat) (a : Nat → Nat) (ac : Nat → ClassId) (g : Int32 → Int32 → (St × (St × (St))) → Option (St × (St × (St)))) (r : St × (St × (St))) : Prop := ∀ (v0 : Int32) (v1 : Int32) (s0 : St × (St × (St))) (H : Heap) (locs : List Loc) (ls : Array Slot), g v0 v1 s0 = some r → va_P (dC, dI) vwCl (dw_X15 a ac s0) H → va_D A (dw_X15 a ac s0) → va_S A s.heap H locs → lv_has ls 3 [(0, .ref (a 0)), (1, .int v0), (2, .int v1)] → W p l e (headSpec ow_dm_X15_begin ({ frames := 0, cells := 0, slots := 0, locals := 0 })).room s m args below meth c H locs 0 0 Q (F0 m 0 ls [])
set_option maxHeartbeats 40000000 in
set_option maxRecDepth 100000 in
theorem db_X15_begin_0 {p : Program} {l : Launch} {e : Env} {s : State} {m : MethodId} {args : Array Value} {below : List Frame} {meth : Method} {c : Code} {Q : State → Prop} {A : Nat → Prop} {dC : Nat → ClassId} {dI : Nat → Nat → Nat} {a : Nat → Nat} {ac : Nat → ClassId} {n : Nat} {r : St × (St × (St))} (C : nd_C p l s m args c A (dC, dI) cX15_begin 3 RX15 ow_dm_X15_begin (dk_X15 ac)) (K : nd_Kv p l e (headSpec ow_dm_X15_begin ({ frames := 0, cells := 0, slots := 0, locals := 0 })).room s m args below meth c Q A (dC, dI) cX15_begin (St × (St × (St))) (dw_X15 a ac) r) : dj_X15_begin_0 p l e s m args below meth c Q A dC dI a ac (df_X15_begin_0 n) r := by
  obtain ⟨hlt, hx, hb, hml, hown, hts, hN, hA, hK⟩ := id C
  intro v0 v1 s0 H locs ls h hP hD hS hl
  unfold df_X15_begin_0 at h
  refine lv_aload_n hx hb dX15_begin_0 rfl (lv_at hl 0 rfl) ?_
  refine va_get (D := (dC, dI)) (ci := 16) (v := .ref (a 12)) (C := RX15) (T := TX15) (N := 28) hx hb hts hi_dm_X15_begin_X15 hown hK hP 0 rfl rfl 23 (by decide) (hts (.fieldLink RX15 46 "TimeMachineModel$Conditions" "first" "[I") (List.mem_of_getElem? (i := 1) rfl)) (fun _ h9 => h9) rfl dX15_begin_1 ?_
  refine lv_aload_n hx hb dX15_begin_4 rfl (lv_at hl 0 rfl) ?_
  refine va_get (D := (dC, dI)) (ci := 16) (v := .int (sI s0.1 7)) (C := RX15) (T := TX15) (N := 28) hx hb hts hi_dm_X15_begin_X15 hown hK hP 0 rfl rfl 20 (by decide) (hts (.fieldLink RX15 164 "TimeMachineModel$Conditions" "begun" "I") (List.mem_of_getElem? (i := 2) rfl)) (fun _ h9 => h9) rfl dX15_begin_5 ?_
  refine lv_iload_n hx hb dX15_begin_8 rfl (lv_at hl 1 rfl) ?_
  obtain ⟨i1, h⟩ := nd_ck_e h
  refine va_iast (i := (sI s0.1 7)) (x := v0) hx hb hK hP hD hS 12 11 rfl rfl i1 dX15_begin_9 (fun H locs hP hD hS => ?_)
  obtain ⟨s2, es2, h⟩ := nd_let_e h
  have hP : va_P (dC, dI) vwCl (dw_X15 a ac s2) H := by rw [es2]; exact hP
  have hD : va_D A (dw_X15 a ac s2) := by rw [es2]; exact hD
  refine lv_aload_n hx hb dX15_begin_10 rfl (lv_at hl 0 rfl) ?_
  refine va_get (D := (dC, dI)) (ci := 16) (v := .ref (a 13)) (C := RX15) (T := TX15) (N := 28) hx hb hts hi_dm_X15_begin_X15 hown hK hP 0 rfl rfl 24 (by decide) (hts (.fieldLink RX15 49 "TimeMachineModel$Conditions" "last" "[I") (List.mem_of_getElem? (i := 3) rfl)) (fun _ h9 => h9) rfl dX15_begin_11 ?_
  refine lv_aload_n hx hb dX15_begin_14 rfl (lv_at hl 0 rfl) ?_
  refine va_get (D := (dC, dI)) (ci := 16) (v := .int (sI s2.1 7)) (C := RX15) (T := TX15) (N := 28) hx hb hts hi_dm_X15_begin_X15 hown hK hP 0 rfl rfl 20 (by decide) (hts (.fieldLink RX15 164 "TimeMachineModel$Conditions" "begun" "I") (List.mem_of_getElem? (i := 2) rfl)) (fun _ h9 => h9) rfl dX15_begin_15 ?_
  refine lv_iload_n hx hb dX15_begin_18 rfl (lv_at hl 2 rfl) ?_
  obtain ⟨i3, h⟩ := nd_ck_e h
  refine va_iast (i := (sI s2.1 7)) (x := v1) hx hb hK hP hD hS 13 12 rfl rfl i3 dX15_begin_19 (fun H locs hP hD hS => ?_)
  obtain ⟨s4, es4, h⟩ := nd_let_e h
  have hP : va_P (dC, dI) vwCl (dw_X15 a ac s4) H := by rw [es4]; exact hP
  have hD : va_D A (dw_X15 a ac s4) := by rw [es4]; exact hD
  refine lv_aload_n hx hb dX15_begin_20 rfl (lv_at hl 0 rfl) ?_
  refine va_get (D := (dC, dI)) (ci := 16) (v := .ref (a 15)) (C := RX15) (T := TX15) (N := 28) hx hb hts hi_dm_X15_begin_X15 hown hK hP 0 rfl rfl 26 (by decide) (hts (.fieldLink RX15 55 "TimeMachineModel$Conditions" "stage" "[I") (List.mem_of_getElem? (i := 4) rfl)) (fun _ h9 => h9) rfl dX15_begin_21 ?_
  refine lv_aload_n hx hb dX15_begin_24 rfl (lv_at hl 0 rfl) ?_
  refine va_get (D := (dC, dI)) (ci := 16) (v := .int (sI s4.1 7)) (C := RX15) (T := TX15) (N := 28) hx hb hts hi_dm_X15_begin_X15 hown hK hP 0 rfl rfl 20 (by decide) (hts (.fieldLink RX15 164 "TimeMachineModel$Conditions" "begun" "I") (List.mem_of_getElem? (i := 2) rfl)) (fun _ h9 => h9) rfl dX15_begin_25 ?_
  refine lv_iconst (v := 0) hx hb dX15_begin_28 (by decide) ?_
  obtain ⟨i5, h⟩ := nd_ck_e h
  refine va_iast (i := (sI s4.1 7)) (x := 0) hx hb hK hP hD hS 15 14 rfl rfl i5 dX15_begin_29 (fun H locs hP hD hS => ?_)
  obtain ⟨s6, es6, h⟩ := nd_let_e h
  have hP : va_P (dC, dI) vwCl (dw_X15 a ac s6) H := by rw [es6]; exact hP
  have hD : va_D A (dw_X15 a ac s6) := by rw [es6]; exact hD
  refine lv_aload_n hx hb dX15_begin_30 rfl (lv_at hl 0 rfl) ?_
  refine lv_dup hx hb dX15_begin_31 rfl ?_
  refine va_get (D := (dC, dI)) (ci := 16) (v := .int (sI s6.1 7)) (C := RX15) (T := TX15) (N := 28) hx hb hts hi_dm_X15_begin_X15 hown hK hP 0 rfl rfl 20 (by decide) (hts (.fieldLink RX15 164 "TimeMachineModel$Conditions" "begun" "I") (List.mem_of_getElem? (i := 2) rfl)) (fun _ h9 => h9) rfl dX15_begin_32 ?_
  refine lv_iconst (v := 1) hx hb dX15_begin_35 (by decide) ?_
  refine lv_iadd hx hb dX15_begin_36 ?_
  refine va_put (D := (dC, dI)) (ci := 16) (v := .int ((sI s6.1 7) + 1)) (ty := .int) (C := RX15) (T := TX15) (N := 28) hx hb hts hi_dm_X15_begin_X15 tyX15 tyX15_ok nmX15 hown hK hP hD hS 0 rfl rfl 20 (by decide) (hts (.fieldLink RX15 164 "TimeMachineModel$Conditions" "begun" "I") (List.mem_of_getElem? (i := 2) rfl)) (fun _ h9 => h9) rfl (by decide +kernel) rfl rfl (Nat.le_of_ble_eq_true rfl) dX15_begin_37 (fun H locs hP hD hS => ?_)
  obtain ⟨s7, es7, h⟩ := nd_let_e h
  have hP : va_P (dC, dI) vwCl (dw_X15 a ac s7) H := by rw [es7]; exact hP
  have hD : va_D A (dw_X15 a ac s7) := by rw [es7]; exact hD
  exact K _ _ _ _ _ dX15_begin_40 (Option.some.inj h).symm hP hD hS
set_option maxHeartbeats 40000000 in
set_option maxRecDepth 100000 in
theorem dm_X15_begin (l : Launch) (hlt : l.stackTraces = false) (dC : Nat → ClassId) (dI : Nat → Nat → Nat) (a : Nat → Nat) (ac : Nat → ClassId) (n : Nat) (v0 : Int32) (v1 : Int32) (s0 : St × (St × (St))) {r : St × (St × (St))} (h : df_X15_begin n v0 v1 s0 = some r) (sz : Nat) : Met l yX15_begin ow_dm_X15_begin ({ frames := 0, cells := 0, slots := 0, locals := 0 }) (va_Pc [.ref (a 0), .int v0, .int v1] (fun U => U.heap.size = sz ∧ va_P (dC, dI) vwCl (dw_X15 a ac s0) U.heap ∧ va_K (dC, dI) vwCl (dk_X15 ac) U ∧ va_D (fun _ => True) (dw_X15 a ac s0) ∧ nv_E dI (va_A (dw_X15 a ac s0) sz) U)) (va_Qv (fun _ => True) (fun (_ : Unit) t => va_P (dC, dI) vwCl (dw_X15 a ac r) t.heap ∧ va_K (dC, dI) vwCl (dk_X15 ac) t ∧ va_D (va_A (dw_X15 a ac s0) sz) (dw_X15 a ac r)) (va_A (dw_X15 a ac s0) sz)) 0 0 (va_A (dw_X15 a ac s0) sz) := by
  refine Met.ofW (cc := cX15_begin) (maxL := 3) (ret := none) (by decide) rfl ?_
  intro p e s m args below meth c s₁ B hml hv
  obtain ⟨rfl, hsz, hP, hK, hD0, hN⟩ := hv
  have hx := B.exec
  have hb := B.bytes
  have hr := B.returns
  have hts := atoms_spec (ws := ow_dm_X15_begin) B.pre
  have hown : s.vm.findClass RX15 = some m.cls := findClass_of_methodNamed B.named
  have hlocks := B.notSynchronized
  subst hsz
  have hD := hD0.self (sz := s.heap.size)
  generalize hAe : va_A (dw_X15 a ac s0) s.heap.size = A at hD hN ⊢
  have hA : ∀ q : Nat, s.heap.size ≤ q → A q := fun q h => by rw [← hAe]; exact Or.inr h
  have hl := lv_entry ([.ref (a 0), .int v0, .int v1]) (n := 3) (Nat.le_of_ble_eq_true rfl)
  rw [lg_entry_eq]
  generalize (lg_sl ([.ref (a 0), .int v0, .int v1]) ++ List.replicate (3 - (lg_sl ([.ref (a 0), .int v0, .int v1])).length) Slot.unset).toArray = ls at hl ⊢
  have hl : lv_has ls 3 [(0, .ref (a 0)), (1, .int v0), (2, .int v1)] := hl
  exact db_X15_begin_0 (dC := dC) (dI := dI) (a := a) (ac := ac) (n := n) (r := r) ⟨hlt, hx, hb, hml, hown, hts, hN, hA, hK⟩ (fun pc τ H locs ls d er hP hD hS => by subst er; exact W.vret hx hb hr (fun t ht hW => ⟨⟨(), rfl, trivial, by rw [ht]; exact hP, va_K.moved hW.alike hK, hD⟩, hS.F ht⟩) hS.2.2 d) v0 v1 s0 _ _ _ h hP hD va_S.rf (lv_sub hl [0, 1, 2] rfl)
def ow_dm_X15_give : List Cond := Cond.code yX15_give cX15_give 3 none :: ([Cond.fieldLink RX15 164 "TimeMachineModel$Conditions" "begun" "I", Cond.fieldLink RX15 167 "TimeMachineModel$Conditions" "result" "J"] ++ (u_ws RX15 TX15 28 ++ []))
theorem gd_dm_X15_give : ∀ w ∈ ow_dm_X15_give, (w.onTables && w.keeps) = true ∨ ∃ ty, w = Cond.arrayClass ty := List.forall_mem_cons.mpr ⟨good_of_word rfl, List.forall_mem_append.mpr ⟨fun w h => good_of_word (List.all_eq_true.mp (by decide +kernel) w h), List.forall_mem_append.mpr ⟨gu_X15, fun _ h => nomatch h⟩⟩⟩
theorem hi_dm_X15_give_X15 : ∀ w ∈ u_ws RX15 TX15 28, w ∈ ow_dm_X15_give := fun w h => List.mem_cons_of_mem _ (List.mem_append_right _ (List.mem_append_left _ h))
def dj_X15_give_0 (p : Program) (l : Launch) (e : Env) (s : State) (m : MethodId) (args : Array Value) (below : List Frame) (meth : Method) (c : Code) (Q : State → Prop) (A : Nat → Prop) (dC : Nat → ClassId) (dI : Nat → Nat → Nat) (a : Nat → Nat) (ac : Nat → ClassId) (g : Int64 → (St × (St × (St))) → Option (St × (St × (St)))) (r : St × (St × (St))) : Prop := ∀ (v0 : Int64) (s0 : St × (St × (St))) (H : Heap) (locs : List Loc) (ls : Array Slot), g v0 s0 = some r → va_P (dC, dI) vwCl (dw_X15 a ac s0) H → va_D A (dw_X15 a ac s0) → va_S A s.heap H locs → lv_has ls 3 [(0, .ref (a 0)), (1, .long v0)] → W p l e (headSpec ow_dm_X15_give ({ frames := 0, cells := 0, slots := 0, locals := 0 })).room s m args below meth c H locs 0 0 Q (F0 m 0 ls [])
set_option maxHeartbeats 40000000 in
set_option maxRecDepth 100000 in
theorem db_X15_give_0 {p : Program} {l : Launch} {e : Env} {s : State} {m : MethodId} {args : Array Value} {below : List Frame} {meth : Method} {c : Code} {Q : State → Prop} {A : Nat → Prop} {dC : Nat → ClassId} {dI : Nat → Nat → Nat} {a : Nat → Nat} {ac : Nat → ClassId} {n : Nat} {r : St × (St × (St))} (C : nd_C p l s m args c A (dC, dI) cX15_give 3 RX15 ow_dm_X15_give (dk_X15 ac)) (K : nd_Kv p l e (headSpec ow_dm_X15_give ({ frames := 0, cells := 0, slots := 0, locals := 0 })).room s m args below meth c Q A (dC, dI) cX15_give (St × (St × (St))) (dw_X15 a ac) r) : dj_X15_give_0 p l e s m args below meth c Q A dC dI a ac (df_X15_give_0 n) r := by
  obtain ⟨hlt, hx, hb, hml, hown, hts, hN, hA, hK⟩ := id C
  intro v0 s0 H locs ls h hP hD hS hl
  unfold df_X15_give_0 at h
  refine lv_aload_n hx hb dX15_give_0 rfl (lv_at hl 0 rfl) ?_
  refine lv_dup hx hb dX15_give_1 rfl ?_
  refine va_get (D := (dC, dI)) (ci := 16) (v := .int (sI s0.1 7)) (C := RX15) (T := TX15) (N := 28) hx hb hts hi_dm_X15_give_X15 hown hK hP 0 rfl rfl 20 (by decide) (hts (.fieldLink RX15 164 "TimeMachineModel$Conditions" "begun" "I") (List.mem_of_getElem? (i := 1) rfl)) (fun _ h9 => h9) rfl dX15_give_2 ?_
  refine lv_iconst (v := 1) hx hb dX15_give_5 (by decide) ?_
  refine lv_isub hx hb dX15_give_6 ?_
  refine va_put (D := (dC, dI)) (ci := 16) (v := .int ((sI s0.1 7) - 1)) (ty := .int) (C := RX15) (T := TX15) (N := 28) hx hb hts hi_dm_X15_give_X15 tyX15 tyX15_ok nmX15 hown hK hP hD hS 0 rfl rfl 20 (by decide) (hts (.fieldLink RX15 164 "TimeMachineModel$Conditions" "begun" "I") (List.mem_of_getElem? (i := 1) rfl)) (fun _ h9 => h9) rfl (by decide +kernel) rfl rfl (Nat.le_of_ble_eq_true rfl) dX15_give_7 (fun H locs hP hD hS => ?_)
  obtain ⟨s1, es1, h⟩ := nd_let_e h
  have hP : va_P (dC, dI) vwCl (dw_X15 a ac s1) H := by rw [es1]; exact hP
  have hD : va_D A (dw_X15 a ac s1) := by rw [es1]; exact hD
  refine lv_aload_n hx hb dX15_give_10 rfl (lv_at hl 0 rfl) ?_
  refine lv_lload_n hx hb dX15_give_11 rfl (lv_at hl 1 rfl) ?_
  refine va_put (D := (dC, dI)) (ci := 16) (v := .long v0) (ty := .long) (C := RX15) (T := TX15) (N := 28) hx hb hts hi_dm_X15_give_X15 tyX15 tyX15_ok nmX15 hown hK hP hD hS 0 rfl rfl 22 (by decide) (hts (.fieldLink RX15 167 "TimeMachineModel$Conditions" "result" "J") (List.mem_of_getElem? (i := 2) rfl)) (fun _ h9 => h9) rfl (by decide +kernel) rfl rfl (Nat.le_of_ble_eq_true rfl) dX15_give_12 (fun H locs hP hD hS => ?_)
  obtain ⟨s2, es2, h⟩ := nd_let_e h
  have hP : va_P (dC, dI) vwCl (dw_X15 a ac s2) H := by rw [es2]; exact hP
  have hD : va_D A (dw_X15 a ac s2) := by rw [es2]; exact hD
  exact K _ _ _ _ _ dX15_give_15 (Option.some.inj h).symm hP hD hS
set_option maxHeartbeats 40000000 in
set_option maxRecDepth 100000 in
theorem dm_X15_give (l : Launch) (hlt : l.stackTraces = false) (dC : Nat → ClassId) (dI : Nat → Nat → Nat) (a : Nat → Nat) (ac : Nat → ClassId) (n : Nat) (v0 : Int64) (s0 : St × (St × (St))) {r : St × (St × (St))} (h : df_X15_give n v0 s0 = some r) (sz : Nat) : Met l yX15_give ow_dm_X15_give ({ frames := 0, cells := 0, slots := 0, locals := 0 }) (va_Pc [.ref (a 0), .long v0] (fun U => U.heap.size = sz ∧ va_P (dC, dI) vwCl (dw_X15 a ac s0) U.heap ∧ va_K (dC, dI) vwCl (dk_X15 ac) U ∧ va_D (fun _ => True) (dw_X15 a ac s0) ∧ nv_E dI (va_A (dw_X15 a ac s0) sz) U)) (va_Qv (fun _ => True) (fun (_ : Unit) t => va_P (dC, dI) vwCl (dw_X15 a ac r) t.heap ∧ va_K (dC, dI) vwCl (dk_X15 ac) t ∧ va_D (va_A (dw_X15 a ac s0) sz) (dw_X15 a ac r)) (va_A (dw_X15 a ac s0) sz)) 0 0 (va_A (dw_X15 a ac s0) sz) := by
  refine Met.ofW (cc := cX15_give) (maxL := 3) (ret := none) (by decide) rfl ?_
  intro p e s m args below meth c s₁ B hml hv
  obtain ⟨rfl, hsz, hP, hK, hD0, hN⟩ := hv
  have hx := B.exec
  have hb := B.bytes
  have hr := B.returns
  have hts := atoms_spec (ws := ow_dm_X15_give) B.pre
  have hown : s.vm.findClass RX15 = some m.cls := findClass_of_methodNamed B.named
  have hlocks := B.notSynchronized
  subst hsz
  have hD := hD0.self (sz := s.heap.size)
  generalize hAe : va_A (dw_X15 a ac s0) s.heap.size = A at hD hN ⊢
  have hA : ∀ q : Nat, s.heap.size ≤ q → A q := fun q h => by rw [← hAe]; exact Or.inr h
  have hl := lv_entry ([.ref (a 0), .long v0]) (n := 3) (Nat.le_of_ble_eq_true rfl)
  rw [lg_entry_eq]
  generalize (lg_sl ([.ref (a 0), .long v0]) ++ List.replicate (3 - (lg_sl ([.ref (a 0), .long v0])).length) Slot.unset).toArray = ls at hl ⊢
  have hl : lv_has ls 3 [(0, .ref (a 0)), (1, .long v0)] := hl
  exact db_X15_give_0 (dC := dC) (dI := dI) (a := a) (ac := ac) (n := n) (r := r) ⟨hlt, hx, hb, hml, hown, hts, hN, hA, hK⟩ (fun pc τ H locs ls d er hP hD hS => by subst er; exact W.vret hx hb hr (fun t ht hW => ⟨⟨(), rfl, trivial, by rw [ht]; exact hP, va_K.moved hW.alike hK, hD⟩, hS.F ht⟩) hS.2.2 d) v0 s0 _ _ _ h hP hD va_S.rf (lv_sub hl [0, 1] rfl)
def ow_dm_X15_fail : List Cond := Cond.code yX15_fail cX15_fail 1 none :: ([Cond.fieldLink RX15 170 "TimeMachineModel$Conditions" "failed" "Z", Cond.fieldLink RX15 164 "TimeMachineModel$Conditions" "begun" "I", Cond.fieldLink RX15 167 "TimeMachineModel$Conditions" "result" "J"] ++ (u_ws RX15 TX15 28 ++ []))
theorem gd_dm_X15_fail : ∀ w ∈ ow_dm_X15_fail, (w.onTables && w.keeps) = true ∨ ∃ ty, w = Cond.arrayClass ty := List.forall_mem_cons.mpr ⟨good_of_word rfl, List.forall_mem_append.mpr ⟨fun w h => good_of_word (List.all_eq_true.mp (by decide +kernel) w h), List.forall_mem_append.mpr ⟨gu_X15, fun _ h => nomatch h⟩⟩⟩
theorem hi_dm_X15_fail_X15 : ∀ w ∈ u_ws RX15 TX15 28, w ∈ ow_dm_X15_fail := fun w h => List.mem_cons_of_mem _ (List.mem_append_right _ (List.mem_append_left _ h))
def dj_X15_fail_0 (p : Program) (l : Launch) (e : Env) (s : State) (m : MethodId) (args : Array Value) (below : List Frame) (meth : Method) (c : Code) (Q : State → Prop) (A : Nat → Prop) (dC : Nat → ClassId) (dI : Nat → Nat → Nat) (a : Nat → Nat) (ac : Nat → ClassId) (g : (St × (St × (St))) → Option (St × (St × (St)))) (r : St × (St × (St))) : Prop := ∀ (s0 : St × (St × (St))) (H : Heap) (locs : List Loc) (ls : Array Slot), g s0 = some r → va_P (dC, dI) vwCl (dw_X15 a ac s0) H → va_D A (dw_X15 a ac s0) → va_S A s.heap H locs → lv_has ls 1 [(0, .ref (a 0))] → W p l e (headSpec ow_dm_X15_fail ({ frames := 0, cells := 0, slots := 0, locals := 0 })).room s m args below meth c H locs 0 0 Q (F0 m 0 ls [])
set_option maxHeartbeats 40000000 in
set_option maxRecDepth 100000 in
theorem db_X15_fail_0 {p : Program} {l : Launch} {e : Env} {s : State} {m : MethodId} {args : Array Value} {below : List Frame} {meth : Method} {c : Code} {Q : State → Prop} {A : Nat → Prop} {dC : Nat → ClassId} {dI : Nat → Nat → Nat} {a : Nat → Nat} {ac : Nat → ClassId} {n : Nat} {r : St × (St × (St))} (C : nd_C p l s m args c A (dC, dI) cX15_fail 1 RX15 ow_dm_X15_fail (dk_X15 ac)) (K : nd_Kv p l e (headSpec ow_dm_X15_fail ({ frames := 0, cells := 0, slots := 0, locals := 0 })).room s m args below meth c Q A (dC, dI) cX15_fail (St × (St × (St))) (dw_X15 a ac) r) : dj_X15_fail_0 p l e s m args below meth c Q A dC dI a ac (df_X15_fail_0 n) r := by
  obtain ⟨hlt, hx, hb, hml, hown, hts, hN, hA, hK⟩ := id C
  intro s0 H locs ls h hP hD hS hl
  unfold df_X15_fail_0 at h
  refine lv_aload_n hx hb dX15_fail_0 rfl (lv_at hl 0 rfl) ?_
  refine lv_iconst (v := 1) hx hb dX15_fail_1 (by decide) ?_
  refine va_put (D := (dC, dI)) (ci := 16) (v := .int 1) (ty := .boolean) (C := RX15) (T := TX15) (N := 28) hx hb hts hi_dm_X15_fail_X15 tyX15 tyX15_ok nmX15 hown hK hP hD hS 0 rfl rfl 21 (by decide) (hts (.fieldLink RX15 170 "TimeMachineModel$Conditions" "failed" "Z") (List.mem_of_getElem? (i := 1) rfl)) (fun _ h9 => h9) rfl (by decide +kernel) (by first | rfl | decide) rfl (Nat.le_of_ble_eq_true rfl) dX15_fail_2 (fun H locs hP hD hS => ?_)
  obtain ⟨s1, es1, h⟩ := nd_let_e h
  have hP : va_P (dC, dI) vwCl (dw_X15 a ac s1) H := by rw [es1]; exact hP
  have hD : va_D A (dw_X15 a ac s1) := by rw [es1]; exact hD
  refine lv_aload_n hx hb dX15_fail_5 rfl (lv_at hl 0 rfl) ?_
  refine lv_iconst (v := 0) hx hb dX15_fail_6 (by decide) ?_
  refine va_put (D := (dC, dI)) (ci := 16) (v := .int 0) (ty := .int) (C := RX15) (T := TX15) (N := 28) hx hb hts hi_dm_X15_fail_X15 tyX15 tyX15_ok nmX15 hown hK hP hD hS 0 rfl rfl 20 (by decide) (hts (.fieldLink RX15 164 "TimeMachineModel$Conditions" "begun" "I") (List.mem_of_getElem? (i := 2) rfl)) (fun _ h9 => h9) rfl (by decide +kernel) rfl rfl (Nat.le_of_ble_eq_true rfl) dX15_fail_7 (fun H locs hP hD hS => ?_)
  obtain ⟨s2, es2, h⟩ := nd_let_e h
  have hP : va_P (dC, dI) vwCl (dw_X15 a ac s2) H := by rw [es2]; exact hP
  have hD : va_D A (dw_X15 a ac s2) := by rw [es2]; exact hD
  refine lv_aload_n hx hb dX15_fail_10 rfl (lv_at hl 0 rfl) ?_
  refine lv_lconst (v := 0) hx hb dX15_fail_11 (by decide) ?_
  refine va_put (D := (dC, dI)) (ci := 16) (v := .long 0) (ty := .long) (C := RX15) (T := TX15) (N := 28) hx hb hts hi_dm_X15_fail_X15 tyX15 tyX15_ok nmX15 hown hK hP hD hS 0 rfl rfl 22 (by decide) (hts (.fieldLink RX15 167 "TimeMachineModel$Conditions" "result" "J") (List.mem_of_getElem? (i := 3) rfl)) (fun _ h9 => h9) rfl (by decide +kernel) rfl rfl (Nat.le_of_ble_eq_true rfl) dX15_fail_12 (fun H locs hP hD hS => ?_)
  obtain ⟨s3, es3, h⟩ := nd_let_e h
  have hP : va_P (dC, dI) vwCl (dw_X15 a ac s3) H := by rw [es3]; exact hP
  have hD : va_D A (dw_X15 a ac s3) := by rw [es3]; exact hD
  exact K _ _ _ _ _ dX15_fail_15 (Option.some.inj h).symm hP hD hS
set_option maxHeartbeats 40000000 in
set_option maxRecDepth 100000 in
theorem dm_X15_fail (l : Launch) (hlt : l.stackTraces = false) (dC : Nat → ClassId) (dI : Nat → Nat → Nat) (a : Nat → Nat) (ac : Nat → ClassId) (n : Nat) (s0 : St × (St × (St))) {r : St × (St × (St))} (h : df_X15_fail n s0 = some r) (sz : Nat) : Met l yX15_fail ow_dm_X15_fail ({ frames := 0, cells := 0, slots := 0, locals := 0 }) (va_Pc [.ref (a 0)] (fun U => U.heap.size = sz ∧ va_P (dC, dI) vwCl (dw_X15 a ac s0) U.heap ∧ va_K (dC, dI) vwCl (dk_X15 ac) U ∧ va_D (fun _ => True) (dw_X15 a ac s0) ∧ nv_E dI (va_A (dw_X15 a ac s0) sz) U)) (va_Qv (fun _ => True) (fun (_ : Unit) t => va_P (dC, dI) vwCl (dw_X15 a ac r) t.heap ∧ va_K (dC, dI) vwCl (dk_X15 ac) t ∧ va_D (va_A (dw_X15 a ac s0) sz) (dw_X15 a ac r)) (va_A (dw_X15 a ac s0) sz)) 0 0 (va_A (dw_X15 a ac s0) sz) := by
  refine Met.ofW (cc := cX15_fail) (maxL := 1) (ret := none) (by decide) rfl ?_
  intro p e s m args below meth c s₁ B hml hv
  obtain ⟨rfl, hsz, hP, hK, hD0, hN⟩ := hv
  have hx := B.exec
  have hb := B.bytes
  have hr := B.returns
  have hts := atoms_spec (ws := ow_dm_X15_fail) B.pre
  have hown : s.vm.findClass RX15 = some m.cls := findClass_of_methodNamed B.named
  have hlocks := B.notSynchronized
  subst hsz
  have hD := hD0.self (sz := s.heap.size)
  generalize hAe : va_A (dw_X15 a ac s0) s.heap.size = A at hD hN ⊢
  have hA : ∀ q : Nat, s.heap.size ≤ q → A q := fun q h => by rw [← hAe]; exact Or.inr h
  have hl := lv_entry ([.ref (a 0)]) (n := 1) (Nat.le_of_ble_eq_true rfl)
  rw [lg_entry_eq]
  generalize (lg_sl ([.ref (a 0)]) ++ List.replicate (1 - (lg_sl ([.ref (a 0)])).length) Slot.unset).toArray = ls at hl ⊢
  have hl : lv_has ls 1 [(0, .ref (a 0))] := hl
  exact db_X15_fail_0 (dC := dC) (dI := dI) (a := a) (ac := ac) (n := n) (r := r) ⟨hlt, hx, hb, hml, hown, hts, hN, hA, hK⟩ (fun pc τ H locs ls d er hP hD hS => by subst er; exact W.vret hx hb hr (fun t ht hW => ⟨⟨(), rfl, trivial, by rw [ht]; exact hP, va_K.moved hW.alike hK, hD⟩, hS.F ht⟩) hS.2.2 d) s0 _ _ _ h hP hD va_S.rf (lv_sub hl [0] rfl)
def ow_dm_X15_access : List Cond := Cond.code yX15_access cX15_access 7 none :: ([Cond.fieldLink RX15 61 "TimeMachineModel$Conditions" "m" "LTimeMachineModel$Machine;", Cond.methodLink RX15 224 yX16_has, Cond.instanceMethod yX16_has, Cond.selects RX16 yX16_has yX16_has, Cond.initialized RX16, Cond.methodLink RX15 191 yX15_give, Cond.instanceMethod yX15_give, Cond.selects RX15 yX15_give yX15_give, Cond.initialized RX15, Cond.methodLink RX15 228 yX16_cell, Cond.instanceMethod yX16_cell, Cond.selects RX16 yX16_cell yX16_cell, Cond.methodLink RX15 217 yX15_fail, Cond.instanceMethod yX15_fail, Cond.selects RX15 yX15_fail yX15_fail] ++ (u_ws RX15 TX15 28 ++ (ow_dm_X16_has ++ (ow_dm_X15_give ++ (ow_dm_X16_cell ++ (ow_dm_X15_fail ++ []))))))
theorem gd_dm_X15_access : ∀ w ∈ ow_dm_X15_access, (w.onTables && w.keeps) = true ∨ ∃ ty, w = Cond.arrayClass ty := List.forall_mem_cons.mpr ⟨good_of_word rfl, List.forall_mem_append.mpr ⟨fun w h => good_of_word (List.all_eq_true.mp (by decide +kernel) w h), List.forall_mem_append.mpr ⟨gu_X15, List.forall_mem_append.mpr ⟨gd_dm_X16_has, List.forall_mem_append.mpr ⟨gd_dm_X15_give, List.forall_mem_append.mpr ⟨gd_dm_X16_cell, List.forall_mem_append.mpr ⟨gd_dm_X15_fail, fun _ h => nomatch h⟩⟩⟩⟩⟩⟩⟩
theorem hi_dm_X15_access_X15 : ∀ w ∈ u_ws RX15 TX15 28, w ∈ ow_dm_X15_access := fun w h => List.mem_cons_of_mem _ (List.mem_append_right _ (List.mem_append_left _ h))
theorem gi_dm_X15_access_0 : GoodIn ow_dm_X15_access (wsV RX15 224 RX16 yX16_has ow_dm_X16_has) := goodIn_app (goodIn_of _ (by decide +kernel)) (fun w h => ⟨List.mem_cons_of_mem _ (List.mem_append_right _ (List.mem_append_right _ (List.mem_append_left _ h))), gd_dm_X16_has w h⟩)
theorem gi_dm_X15_access_1 : GoodIn ow_dm_X15_access (wsV RX15 191 RX15 yX15_give ow_dm_X15_give) := goodIn_app (goodIn_of _ (by decide +kernel)) (fun w h => ⟨List.mem_cons_of_mem _ (List.mem_append_right _ (List.mem_append_right _ (List.mem_append_right _ (List.mem_append_left _ h)))), gd_dm_X15_give w h⟩)
theorem gi_dm_X15_access_2 : GoodIn ow_dm_X15_access (wsV RX15 228 RX16 yX16_cell ow_dm_X16_cell) := goodIn_app (goodIn_of _ (by decide +kernel)) (fun w h => ⟨List.mem_cons_of_mem _ (List.mem_append_right _ (List.mem_append_right _ (List.mem_append_right _ (List.mem_append_right _ (List.mem_append_left _ h))))), gd_dm_X16_cell w h⟩)
theorem gi_dm_X15_access_3 : GoodIn ow_dm_X15_access (wsV RX15 217 RX15 yX15_fail ow_dm_X15_fail) := goodIn_app (goodIn_of _ (by decide +kernel)) (fun w h => ⟨List.mem_cons_of_mem _ (List.mem_append_right _ (List.mem_append_right _ (List.mem_append_right _ (List.mem_append_right _ (List.mem_append_right _ (List.mem_append_left _ h)))))), gd_dm_X15_fail w h⟩)
def dj_X15_access_105 (p : Program) (l : Launch) (e : Env) (s : State) (m : MethodId) (args : Array Value) (below : List Frame) (meth : Method) (c : Code) (Q : State → Prop) (A : Nat → Prop) (dC : Nat → ClassId) (dI : Nat → Nat → Nat) (a : Nat → Nat) (ac : Nat → ClassId) (g : Int64 → (St × (St × (St))) → Option (St × (St × (St)))) (r : St × (St × (St))) : Prop := ∀ (y1 : Int64) (s0 : St × (St × (St))) (H : Heap) (locs : List Loc) (ls : Array Slot), g y1 s0 = some r → va_P (dC, dI) vwCl (dw_X15 a ac s0) H → va_D A (dw_X15 a ac s0) → va_S A s.heap H locs → lv_has ls 7 [] → W p l e (headSpec ow_dm_X15_access ({ frames := 3, cells := 0, slots := 0, locals := 65 })).room s m args below meth c H locs 0 0 Q (F0 m 105 ls [.long y1, .ref (a 0)])
def dj_X15_access_47 (p : Program) (l : Launch) (e : Env) (s : State) (m : MethodId) (args : Array Value) (below : List Frame) (meth : Method) (c : Code) (Q : State → Prop) (A : Nat → Prop) (dC : Nat → ClassId) (dI : Nat → Nat → Nat) (a : Nat → Nat) (ac : Nat → ClassId) (g : Int64 → Int32 → Int32 → Int32 → (St × (St × (St))) → Option (St × (St × (St)))) (r : St × (St × (St))) : Prop := ∀ (x2 : Int64) (x4 : Int32) (x5 : Int32) (x6 : Int32) (s0 : St × (St × (St))) (H : Heap) (locs : List Loc) (ls : Array Slot), g x2 x4 x5 x6 s0 = some r → va_P (dC, dI) vwCl (dw_X15 a ac s0) H → va_D A (dw_X15 a ac s0) → va_S A s.heap H locs → lv_has ls 7 [(0, .ref (a 0)), (2, .long x2), (4, .int x4), (5, .int x5), (6, .int x6)] → W p l e (headSpec ow_dm_X15_access ({ frames := 3, cells := 0, slots := 0, locals := 65 })).room s m args below meth c H locs 0 0 Q (F0 m 47 ls [])
def dj_X15_access_21 (p : Program) (l : Launch) (e : Env) (s : State) (m : MethodId) (args : Array Value) (below : List Frame) (meth : Method) (c : Code) (Q : State → Prop) (A : Nat → Prop) (dC : Nat → ClassId) (dI : Nat → Nat → Nat) (a : Nat → Nat) (ac : Nat → ClassId) (g : Int64 → Int32 → (St × (St × (St))) → Option (St × (St × (St)))) (r : St × (St × (St))) : Prop := ∀ (x2 : Int64) (y0 : Int32) (s0 : St × (St × (St))) (H : Heap) (locs : List Loc) (ls : Array Slot), g x2 y0 s0 = some r → va_P (dC, dI) vwCl (dw_X15 a ac s0) H → va_D A (dw_X15 a ac s0) → va_S A s.heap H locs → lv_has ls 7 [(0, .ref (a 0)), (2, .long x2)] → W p l e (headSpec ow_dm_X15_access ({ frames := 3, cells := 0, slots := 0, locals := 65 })).room s m args below meth c H locs 0 0 Q (F0 m 21 ls [.int y0])
def dj_X15_access_0 (p : Program) (l : Launch) (e : Env) (s : State) (m : MethodId) (args : Array Value) (below : List Frame) (meth : Method) (c : Code) (Q : State → Prop) (A : Nat → Prop) (dC : Nat → ClassId) (dI : Nat → Nat → Nat) (a : Nat → Nat) (ac : Nat → ClassId) (g : Int32 → Int64 → (St × (St × (St))) → Option (St × (St × (St)))) (r : St × (St × (St))) : Prop := ∀ (v0 : Int32) (v1 : Int64) (s0 : St × (St × (St))) (H : Heap) (locs : List Loc) (ls : Array Slot), g v0 v1 s0 = some r → va_P (dC, dI) vwCl (dw_X15 a ac s0) H → va_D A (dw_X15 a ac s0) → va_S A s.heap H locs → lv_has ls 7 [(0, .ref (a 0)), (1, .int v0), (2, .long v1)] → W p l e (headSpec ow_dm_X15_access ({ frames := 3, cells := 0, slots := 0, locals := 65 })).room s m args below meth c H locs 0 0 Q (F0 m 0 ls [])
set_option maxHeartbeats 40000000 in
set_option maxRecDepth 100000 in
theorem db_X15_access_105 {p : Program} {l : Launch} {e : Env} {s : State} {m : MethodId} {args : Array Value} {below : List Frame} {meth : Method} {c : Code} {Q : State → Prop} {A : Nat → Prop} {dC : Nat → ClassId} {dI : Nat → Nat → Nat} {a : Nat → Nat} {ac : Nat → ClassId} {n : Nat} {r : St × (St × (St))} (C : nd_C p l s m args c A (dC, dI) cX15_access 7 RX15 ow_dm_X15_access (dk_X15 ac)) (K : nd_Kv p l e (headSpec ow_dm_X15_access ({ frames := 3, cells := 0, slots := 0, locals := 65 })).room s m args below meth c Q A (dC, dI) cX15_access (St × (St × (St))) (dw_X15 a ac) r) : dj_X15_access_105 p l e s m args below meth c Q A dC dI a ac (df_X15_access_105 n) r := by
  obtain ⟨hlt, hx, hb, hml, hown, hts, hN, hA, hK⟩ := id C
  intro y1 s0 H locs ls h hP hD hS hl
  unfold df_X15_access_105 at h
  obtain ⟨s11, hq, h⟩ := nd_b1_e h
  have hPc := hP
  have hDc := hD
  have hKc := hK
  have hFc := nd_rs hD hS hA
  refine nd_cVv (As := [.long y1]) (rest := []) (w' := dw_X15 a ac s11) ⟨hx, hb, hml, hown, hts⟩ (fun sz => dm_X15_give l hlt dC dI a ac n (y1) s0 hq sz) (cwV 1 hts gi_dm_X15_access_1 rfl rfl rfl (by decide +kernel) ⟨Nat.le_of_ble_eq_true rfl, Nat.le_of_ble_eq_true rfl⟩) hPc hDc hKc hS hA hN (va_recv hKc hPc (ci := 16) (q0 := 0) rfl rfl) rfl hl.1 rfl (Nat.le_of_ble_eq_true rfl) dX15_access_105 (fun H locs hP1 hD1 hk1 hS => ?_)
  have hP := hP1
  have hD := hD1.weaken (fun k q _ h => hFc q.1 h)
  exact K _ _ _ _ _ dX15_access_108 (Option.some.inj h).symm hP hD hS
set_option maxHeartbeats 40000000 in
set_option maxRecDepth 100000 in
theorem dB_X15_access_47 {p : Program} {l : Launch} {e : Env} {s : State} {m : MethodId} {args : Array Value} {below : List Frame} {meth : Method} {c : Code} {Q : State → Prop} {A : Nat → Prop} {dC : Nat → ClassId} {dI : Nat → Nat → Nat} {a : Nat → Nat} {ac : Nat → ClassId} {n : Nat} {r : St × (St × (St))} (C : nd_C p l s m args c A (dC, dI) cX15_access 7 RX15 ow_dm_X15_access (dk_X15 ac)) (K : nd_Kv p l e (headSpec ow_dm_X15_access ({ frames := 3, cells := 0, slots := 0, locals := 65 })).room s m args below meth c Q A (dC, dI) cX15_access (St × (St × (St))) (dw_X15 a ac) r) {g47 : Int64 → Int32 → Int32 → Int32 → (St × (St × (St))) → Option (St × (St × (St)))} (J47 : dj_X15_access_47 p l e s m args below meth c Q A dC dI a ac g47 r) : dj_X15_access_47 p l e s m args below meth c Q A dC dI a ac (dF_X15_access_47 n g47) r := by
  obtain ⟨hlt, hx, hb, hml, hown, hts, hN, hA, hK⟩ := id C
  intro x2 x4 x5 x6 s0 H locs ls h hP hD hS hl
  unfold dF_X15_access_47 at h
  refine lv_iload hx hb dX15_access_47 (lv_at hl 4 rfl) ?_
  refine lv_iload hx hb dX15_access_49 (lv_at hl 2 rfl) ?_
  refine lv_icmp_ge (tgt := 83) hx hb dX15_access_51 (by decide) (fun c8 => ?_) (fun c8 => ?_)
  · have h := nd_pos h c8
    refine lv_aload_n hx hb dX15_access_83 rfl (lv_at hl 0 rfl) ?_
    refine lv_iload hx hb dX15_access_84 (lv_at hl 2 rfl) ?_
    refine lv_iconst (v := 2) hx hb dX15_access_86 (by decide) ?_
    refine lv_icmp_ne (tgt := 102) hx hb dX15_access_87 (by decide) (fun c9 => ?_) (fun c9 => ?_)
    · have h := nd_neg h c9
      refine lv_iload hx hb dX15_access_102 (lv_at hl 3 rfl) ?_
      refine lv_i2l hx hb dX15_access_104 rfl ?_
      exact (db_X15_access_105 C K) ((x5.toInt64)) s0 _ _ _ h hP hD hS (lv_sub hl [] rfl)
    · have h := nd_pos h c9
      refine lv_iload hx hb dX15_access_90 (lv_at hl 3 rfl) ?_
      refine lv_bipush (v := 16) hx hb dX15_access_92 (by decide) ?_
      refine lv_ishl hx hb dX15_access_94 ?_
      refine lv_bipush (v := 16) hx hb dX15_access_95 (by decide) ?_
      refine lv_ishr hx hb dX15_access_97 ?_
      refine lv_i2l hx hb dX15_access_98 rfl ?_
      refine lv_goto (tgt := 105) hx hb dX15_access_99 (by decide) ?_
      exact (db_X15_access_105 C K) (((((((x5 : Int32) <<< ((16 : Int32) &&& 31)) : Int32) >>> ((16 : Int32) &&& 31)) : Int32).toInt64)) s0 _ _ _ h hP hD hS (lv_sub hl [] rfl)
  · have h := nd_neg h c8
    refine lv_iload hx hb dX15_access_54 (lv_at hl 3 rfl) ?_
    refine lv_aload_n hx hb dX15_access_56 rfl (lv_at hl 0 rfl) ?_
    refine va_get (D := (dC, dI)) (ci := 16) (v := .ref (a 17)) (C := RX15) (T := TX15) (N := 28) hx hb hts hi_dm_X15_access_X15 hown hK hP 0 rfl rfl 0 (by decide) (hts (.fieldLink RX15 61 "TimeMachineModel$Conditions" "m" "LTimeMachineModel$Machine;") (List.mem_of_getElem? (i := 1) rfl)) (fun _ h9 => h9) rfl dX15_access_57 ?_
    refine lv_lload_n hx hb dX15_access_60 rfl (lv_at hl 1 rfl) ?_
    refine lv_l2i hx hb dX15_access_61 rfl ?_
    refine lv_iload hx hb dX15_access_62 (lv_at hl 4 rfl) ?_
    refine lv_iadd hx hb dX15_access_64 ?_
    obtain ⟨q13, s14, hq, h⟩ := nd_b2_e h
    have hPc := dp_X15_17 hP
    have hDc := dd_X15_17 hD
    have hKc := dy_X15_17 hK
    have hFc := nd_rs hDc hS hA
    have hzA : ∀ q : Nat, H.size ≤ q → A q := fun q h => hA q (Nat.le_trans hS.1 h)
    refine nd_cVi (As := [.int ((x2.toInt32) + x6)]) (rest := [.int x5]) (q := q13) (w' := dw_X16 (fun k => a (k + 17)) (fun k => ac (k + 17)) s14) ⟨hx, hb, hml, hown, hts⟩ (fun sz => dm_X16_cell l hlt dC dI (fun k => a (k + 17)) (fun k => ac (k + 17)) n (((x2.toInt32) + x6)) s0.2 hq sz) (cwV 1 hts gi_dm_X15_access_2 rfl rfl rfl (by decide +kernel) ⟨Nat.le_of_ble_eq_true rfl, Nat.le_of_ble_eq_true rfl⟩) hPc hDc hKc hS hA hN (va_recv hKc hPc (ci := 17) (q0 := 0) rfl rfl) rfl hl.1 rfl (Nat.le_of_ble_eq_true rfl) dX15_access_65 (fun H locs hP1 hD1 hk1 hS => ?_)
    obtain ⟨hP, hD⟩ := dn_X15_17 hP hD hzA hk1 hP1 hD1
    obtain ⟨s16, es16, h⟩ := nd_let_e h
    have hP : va_P (dC, dI) vwCl (dw_X15 a ac s16) H := by rw [es16]; exact hP
    have hD : va_D A (dw_X15 a ac s16) := by rw [es16]; exact hD
    refine lv_bipush (v := 8) hx hb dX15_access_68 (by decide) ?_
    refine lv_iload hx hb dX15_access_70 (lv_at hl 4 rfl) ?_
    refine lv_imul hx hb dX15_access_72 ?_
    refine lv_ishl hx hb dX15_access_73 ?_
    refine lv_ior hx hb dX15_access_74 ?_
    refine lv_topi (fun z17 ez17 => ?_)
    have h := nd_at h ez17
    refine lv_istore (lv' := [(5, .int z17), (0, .ref (a 0)), (2, .long x2), (4, .int x4), (6, .int x6)]) hx hb dX15_access_75 hl (by decide) rfl (fun ls hl => ?_)
    obtain ⟨z18, ez18, h⟩ := nd_let_e h
    refine lv_iinc (v := z18) (lv' := [(6, .int z18), (5, .int z17), (0, .ref (a 0)), (2, .long x2), (4, .int x4)]) hx hb dX15_access_77 hl (k := 4) rfl (by rw [ez18]) (by decide) rfl (fun ls hl => ?_)
    refine lv_goto (tgt := 47) hx hb dX15_access_80 (by decide) ?_
    exact (J47) (x2) (x4) (z17) (z18) s16 _ _ _ h hP hD hS (lv_sub hl [2, 3, 4, 1, 0] rfl)
set_option maxHeartbeats 40000000 in
set_option maxRecDepth 100000 in
theorem db_X15_access_47 {p : Program} {l : Launch} {e : Env} {s : State} {m : MethodId} {args : Array Value} {below : List Frame} {meth : Method} {c : Code} {Q : State → Prop} {A : Nat → Prop} {dC : Nat → ClassId} {dI : Nat → Nat → Nat} {a : Nat → Nat} {ac : Nat → ClassId} {n : Nat} {r : St × (St × (St))} (C : nd_C p l s m args c A (dC, dI) cX15_access 7 RX15 ow_dm_X15_access (dk_X15 ac)) (K : nd_Kv p l e (headSpec ow_dm_X15_access ({ frames := 3, cells := 0, slots := 0, locals := 65 })).room s m args below meth c Q A (dC, dI) cX15_access (St × (St × (St))) (dw_X15 a ac) r) (k : Nat) : dj_X15_access_47 p l e s m args below meth c Q A dC dI a ac (df_X15_access_47 n k) r := by
  induction k with
  | zero => intro x2 x4 x5 x6 s0 H locs ls h; exact nomatch (show (none : Option (St × (St × (St)))) = some r from h)
  | succ k ih => exact dB_X15_access_47 C K ih
set_option maxHeartbeats 40000000 in
set_option maxRecDepth 100000 in
theorem db_X15_access_21 {p : Program} {l : Launch} {e : Env} {s : State} {m : MethodId} {args : Array Value} {below : List Frame} {meth : Method} {c : Code} {Q : State → Prop} {A : Nat → Prop} {dC : Nat → ClassId} {dI : Nat → Nat → Nat} {a : Nat → Nat} {ac : Nat → ClassId} {n : Nat} {r : St × (St × (St))} (C : nd_C p l s m args c A (dC, dI) cX15_access 7 RX15 ow_dm_X15_access (dk_X15 ac)) (K : nd_Kv p l e (headSpec ow_dm_X15_access ({ frames := 3, cells := 0, slots := 0, locals := 65 })).room s m args below meth c Q A (dC, dI) cX15_access (St × (St × (St))) (dw_X15 a ac) r) : dj_X15_access_21 p l e s m args below meth c Q A dC dI a ac (df_X15_access_21 n) r := by
  obtain ⟨hlt, hx, hb, hml, hown, hts, hN, hA, hK⟩ := id C
  intro x2 y0 s0 H locs ls h hP hD hS hl
  unfold df_X15_access_21 at h
  refine lv_istore (lv' := [(4, .int y0), (0, .ref (a 0)), (2, .long x2)]) hx hb dX15_access_21 hl (by decide) rfl (fun ls hl => ?_)
  refine lv_aload_n hx hb dX15_access_23 rfl (lv_at hl 1 rfl) ?_
  refine va_get (D := (dC, dI)) (ci := 16) (v := .ref (a 17)) (C := RX15) (T := TX15) (N := 28) hx hb hts hi_dm_X15_access_X15 hown hK hP 0 rfl rfl 0 (by decide) (hts (.fieldLink RX15 61 "TimeMachineModel$Conditions" "m" "LTimeMachineModel$Machine;") (List.mem_of_getElem? (i := 1) rfl)) (fun _ h9 => h9) rfl dX15_access_24 ?_
  refine lv_lload_n hx hb dX15_access_27 rfl (lv_at hl 2 rfl) ?_
  refine lv_iload hx hb dX15_access_28 (lv_at hl 0 rfl) ?_
  obtain ⟨q3, s4, hq, h⟩ := nd_b2_e h
  have hPc := dp_X15_17 hP
  have hDc := dd_X15_17 hD
  have hKc := dy_X15_17 hK
  have hFc := nd_rs hDc hS hA
  have hzA : ∀ q : Nat, H.size ≤ q → A q := fun q h => hA q (Nat.le_trans hS.1 h)
  refine nd_cVi (As := [.long x2, .int y0]) (rest := []) (q := q3) (w' := dw_X16 (fun k => a (k + 17)) (fun k => ac (k + 17)) s4) ⟨hx, hb, hml, hown, hts⟩ (fun sz => dm_X16_has l hlt dC dI (fun k => a (k + 17)) (fun k => ac (k + 17)) n (x2) (y0) s0.2 hq sz) (cwV 2 hts gi_dm_X15_access_0 rfl rfl rfl (by decide +kernel) ⟨Nat.le_of_ble_eq_true rfl, Nat.le_of_ble_eq_true rfl⟩) hPc hDc hKc hS hA hN (va_recv hKc hPc (ci := 17) (q0 := 0) rfl rfl) rfl hl.1 rfl (Nat.le_of_ble_eq_true rfl) dX15_access_30 (fun H locs hP1 hD1 hk1 hS => ?_)
  obtain ⟨hP, hD⟩ := dn_X15_17 hP hD hzA hk1 hP1 hD1
  obtain ⟨s6, es6, h⟩ := nd_let_e h
  have hP : va_P (dC, dI) vwCl (dw_X15 a ac s6) H := by rw [es6]; exact hP
  have hD : va_D A (dw_X15 a ac s6) := by rw [es6]; exact hD
  refine lv_if_ne (tgt := 41) hx hb dX15_access_33 (by decide) (fun c7 => ?_) (fun c7 => ?_)
  · have h := nd_neg h c7
    refine lv_iconst (v := 0) hx hb dX15_access_41 (by decide) ?_
    refine lv_istore (lv' := [(5, .int 0), (4, .int y0), (0, .ref (a 0)), (2, .long x2)]) hx hb dX15_access_42 hl (by decide) rfl (fun ls hl => ?_)
    refine lv_iconst (v := 0) hx hb dX15_access_44 (by decide) ?_
    refine lv_istore (lv' := [(6, .int 0), (5, .int 0), (4, .int y0), (0, .ref (a 0)), (2, .long x2)]) hx hb dX15_access_45 hl (by decide) rfl (fun ls hl => ?_)
    exact (db_X15_access_47 C K n) (x2) (y0) (0) (0) s6 _ _ _ h hP hD hS (lv_sub hl [3, 4, 2, 1, 0] rfl)
  · have h := nd_pos h c7
    refine lv_aload_n hx hb dX15_access_36 rfl (lv_at hl 1 rfl) ?_
    obtain ⟨s20, hq, h⟩ := nd_b1_e h
    have hPc := hP
    have hDc := hD
    have hKc := hK
    have hFc := nd_rs hD hS hA
    refine nd_cVv (As := []) (rest := []) (w' := dw_X15 a ac s20) ⟨hx, hb, hml, hown, hts⟩ (fun sz => dm_X15_fail l hlt dC dI a ac n  s6 hq sz) (cwV 0 hts gi_dm_X15_access_3 rfl rfl rfl (by decide +kernel) ⟨Nat.le_of_ble_eq_true rfl, Nat.le_of_ble_eq_true rfl⟩) hPc hDc hKc hS hA hN (va_recv hKc hPc (ci := 16) (q0 := 0) rfl rfl) rfl hl.1 rfl (Nat.le_of_ble_eq_true rfl) dX15_access_37 (fun H locs hP1 hD1 hk1 hS => ?_)
    have hP := hP1
    have hD := hD1.weaken (fun k q _ h => hFc q.1 h)
    exact K _ _ _ _ _ dX15_access_40 (Option.some.inj h).symm hP hD hS
set_option maxHeartbeats 40000000 in
set_option maxRecDepth 100000 in
theorem db_X15_access_0 {p : Program} {l : Launch} {e : Env} {s : State} {m : MethodId} {args : Array Value} {below : List Frame} {meth : Method} {c : Code} {Q : State → Prop} {A : Nat → Prop} {dC : Nat → ClassId} {dI : Nat → Nat → Nat} {a : Nat → Nat} {ac : Nat → ClassId} {n : Nat} {r : St × (St × (St))} (C : nd_C p l s m args c A (dC, dI) cX15_access 7 RX15 ow_dm_X15_access (dk_X15 ac)) (K : nd_Kv p l e (headSpec ow_dm_X15_access ({ frames := 3, cells := 0, slots := 0, locals := 65 })).room s m args below meth c Q A (dC, dI) cX15_access (St × (St × (St))) (dw_X15 a ac) r) : dj_X15_access_0 p l e s m args below meth c Q A dC dI a ac (df_X15_access_0 n) r := by
  obtain ⟨hlt, hx, hb, hml, hown, hts, hN, hA, hK⟩ := id C
  intro v0 v1 s0 H locs ls h hP hD hS hl
  unfold df_X15_access_0 at h
  refine lv_iload_n hx hb dX15_access_0 rfl (lv_at hl 1 rfl) ?_
  refine lv_bipush (v := 32) hx hb dX15_access_1 (by decide) ?_
  refine lv_icmp_ne (tgt := 10) hx hb dX15_access_3 (by decide) (fun c1 => ?_) (fun c1 => ?_)
  · have h := nd_neg h c1
    refine lv_iload_n hx hb dX15_access_10 rfl (lv_at hl 1 rfl) ?_
    refine lv_bipush (v := 7) hx hb dX15_access_11 (by decide) ?_
    refine lv_icmp_ne (tgt := 20) hx hb dX15_access_13 (by decide) (fun c2 => ?_) (fun c2 => ?_)
    · have h := nd_neg h c2
      refine lv_iconst (v := 1) hx hb dX15_access_20 (by decide) ?_
      exact (db_X15_access_21 C K) (v1) (1) s0 _ _ _ h hP hD hS (lv_sub hl [0, 2] rfl)
    · have h := nd_pos h c2
      refine lv_iconst (v := 2) hx hb dX15_access_16 (by decide) ?_
      refine lv_goto (tgt := 21) hx hb dX15_access_17 (by decide) ?_
      exact (db_X15_access_21 C K) (v1) (2) s0 _ _ _ h hP hD hS (lv_sub hl [0, 2] rfl)
  · have h := nd_pos h c1
    refine lv_iconst (v := 4) hx hb dX15_access_6 (by decide) ?_
    refine lv_goto (tgt := 21) hx hb dX15_access_7 (by decide) ?_
    exact (db_X15_access_21 C K) (v1) (4) s0 _ _ _ h hP hD hS (lv_sub hl [0, 2] rfl)
set_option maxHeartbeats 40000000 in
set_option maxRecDepth 100000 in
theorem dm_X15_access (l : Launch) (hlt : l.stackTraces = false) (dC : Nat → ClassId) (dI : Nat → Nat → Nat) (a : Nat → Nat) (ac : Nat → ClassId) (n : Nat) (v0 : Int32) (v1 : Int64) (s0 : St × (St × (St))) {r : St × (St × (St))} (h : df_X15_access n v0 v1 s0 = some r) (sz : Nat) : Met l yX15_access ow_dm_X15_access ({ frames := 3, cells := 0, slots := 0, locals := 65 }) (va_Pc [.ref (a 0), .int v0, .long v1] (fun U => U.heap.size = sz ∧ va_P (dC, dI) vwCl (dw_X15 a ac s0) U.heap ∧ va_K (dC, dI) vwCl (dk_X15 ac) U ∧ va_D (fun _ => True) (dw_X15 a ac s0) ∧ nv_E dI (va_A (dw_X15 a ac s0) sz) U)) (va_Qv (fun _ => True) (fun (_ : Unit) t => va_P (dC, dI) vwCl (dw_X15 a ac r) t.heap ∧ va_K (dC, dI) vwCl (dk_X15 ac) t ∧ va_D (va_A (dw_X15 a ac s0) sz) (dw_X15 a ac r)) (va_A (dw_X15 a ac s0) sz)) 0 0 (va_A (dw_X15 a ac s0) sz) := by
  refine Met.ofW (cc := cX15_access) (maxL := 7) (ret := none) (by decide) rfl ?_
  intro p e s m args below meth c s₁ B hml hv
  obtain ⟨rfl, hsz, hP, hK, hD0, hN⟩ := hv
  have hx := B.exec
  have hb := B.bytes
  have hr := B.returns
  have hts := atoms_spec (ws := ow_dm_X15_access) B.pre
  have hown : s.vm.findClass RX15 = some m.cls := findClass_of_methodNamed B.named
  have hlocks := B.notSynchronized
  subst hsz
  have hD := hD0.self (sz := s.heap.size)
  generalize hAe : va_A (dw_X15 a ac s0) s.heap.size = A at hD hN ⊢
  have hA : ∀ q : Nat, s.heap.size ≤ q → A q := fun q h => by rw [← hAe]; exact Or.inr h
  have hl := lv_entry ([.ref (a 0), .int v0, .long v1]) (n := 7) (Nat.le_of_ble_eq_true rfl)
  rw [lg_entry_eq]
  generalize (lg_sl ([.ref (a 0), .int v0, .long v1]) ++ List.replicate (7 - (lg_sl ([.ref (a 0), .int v0, .long v1])).length) Slot.unset).toArray = ls at hl ⊢
  have hl : lv_has ls 7 [(0, .ref (a 0)), (1, .int v0), (2, .long v1)] := hl
  exact db_X15_access_0 (dC := dC) (dI := dI) (a := a) (ac := ac) (n := n) (r := r) ⟨hlt, hx, hb, hml, hown, hts, hN, hA, hK⟩ (fun pc τ H locs ls d er hP hD hS => by subst er; exact W.vret hx hb hr (fun t ht hW => ⟨⟨(), rfl, trivial, by rw [ht]; exact hP, va_K.moved hW.alike hK, hD⟩, hS.F ht⟩) hS.2.2 d) v0 v1 s0 _ _ _ h hP hD va_S.rf (lv_sub hl [0, 1, 2] rfl)
def ow_dm_X15_truth : List Cond := Cond.code yX15_truth cX15_truth 1 (some .long) :: ([] ++ [])
theorem gd_dm_X15_truth : ∀ w ∈ ow_dm_X15_truth, (w.onTables && w.keeps) = true ∨ ∃ ty, w = Cond.arrayClass ty := List.forall_mem_cons.mpr ⟨good_of_word rfl, List.forall_mem_append.mpr ⟨fun w h => good_of_word (List.all_eq_true.mp (by decide +kernel) w h), fun _ h => nomatch h⟩⟩
def dj_X15_truth_9 (p : Program) (l : Launch) (e : Env) (s : State) (m : MethodId) (args : Array Value) (below : List Frame) (meth : Method) (c : Code) (Q : State → Prop) (A : Nat → Prop) (dC : Nat → ClassId) (dI : Nat → Nat → Nat) (a : Nat → Nat) (ac : Nat → ClassId) (g : Int64 → (Unit) → Option (Int64 × (Unit))) (r : Int64 × (Unit)) : Prop := ∀ (y0 : Int64) (s0 : Unit) (H : Heap) (locs : List Loc) (ls : Array Slot), g y0 s0 = some r → va_P (dC, dI) vwCl (dw_P a ac s0) H → va_D A (dw_P a ac s0) → va_S A s.heap H locs → lv_has ls 1 [] → W p l e (headSpec ow_dm_X15_truth ({ frames := 0, cells := 0, slots := 0, locals := 0 })).room s m args below meth c H locs 0 0 Q (F0 m 9 ls [.long y0])
def dj_X15_truth_0 (p : Program) (l : Launch) (e : Env) (s : State) (m : MethodId) (args : Array Value) (below : List Frame) (meth : Method) (c : Code) (Q : State → Prop) (A : Nat → Prop) (dC : Nat → ClassId) (dI : Nat → Nat → Nat) (a : Nat → Nat) (ac : Nat → ClassId) (g : Int32 → (Unit) → Option (Int64 × (Unit))) (r : Int64 × (Unit)) : Prop := ∀ (v0 : Int32) (s0 : Unit) (H : Heap) (locs : List Loc) (ls : Array Slot), g v0 s0 = some r → va_P (dC, dI) vwCl (dw_P a ac s0) H → va_D A (dw_P a ac s0) → va_S A s.heap H locs → lv_has ls 1 [(0, .int v0)] → W p l e (headSpec ow_dm_X15_truth ({ frames := 0, cells := 0, slots := 0, locals := 0 })).room s m args below meth c H locs 0 0 Q (F0 m 0 ls [])
set_option maxHeartbeats 40000000 in
set_option maxRecDepth 100000 in
theorem db_X15_truth_9 {p : Program} {l : Launch} {e : Env} {s : State} {m : MethodId} {args : Array Value} {below : List Frame} {meth : Method} {c : Code} {Q : State → Prop} {A : Nat → Prop} {dC : Nat → ClassId} {dI : Nat → Nat → Nat} {a : Nat → Nat} {ac : Nat → ClassId} {n : Nat} {r : Int64 × (Unit)} (C : nd_C p l s m args c A (dC, dI) cX15_truth 1 RX15 ow_dm_X15_truth (dk_P ac)) (K : nd_Kl p l e (headSpec ow_dm_X15_truth ({ frames := 0, cells := 0, slots := 0, locals := 0 })).room s m args below meth c Q A (dC, dI) cX15_truth (Unit) (dw_P a ac) r) : dj_X15_truth_9 p l e s m args below meth c Q A dC dI a ac (df_X15_truth_9 n) r := by
  obtain ⟨hlt, hx, hb, hml, hown, hts, hN, hA, hK⟩ := id C
  intro y0 s0 H locs ls h hP hD hS hl
  unfold df_X15_truth_9 at h
  exact K _ _ _ _ _ _ dX15_truth_9 (Option.some.inj h).symm hP hD hS
set_option maxHeartbeats 40000000 in
set_option maxRecDepth 100000 in
theorem db_X15_truth_0 {p : Program} {l : Launch} {e : Env} {s : State} {m : MethodId} {args : Array Value} {below : List Frame} {meth : Method} {c : Code} {Q : State → Prop} {A : Nat → Prop} {dC : Nat → ClassId} {dI : Nat → Nat → Nat} {a : Nat → Nat} {ac : Nat → ClassId} {n : Nat} {r : Int64 × (Unit)} (C : nd_C p l s m args c A (dC, dI) cX15_truth 1 RX15 ow_dm_X15_truth (dk_P ac)) (K : nd_Kl p l e (headSpec ow_dm_X15_truth ({ frames := 0, cells := 0, slots := 0, locals := 0 })).room s m args below meth c Q A (dC, dI) cX15_truth (Unit) (dw_P a ac) r) : dj_X15_truth_0 p l e s m args below meth c Q A dC dI a ac (df_X15_truth_0 n) r := by
  obtain ⟨hlt, hx, hb, hml, hown, hts, hN, hA, hK⟩ := id C
  intro v0 s0 H locs ls h hP hD hS hl
  unfold df_X15_truth_0 at h
  refine lv_iload_n hx hb dX15_truth_0 rfl (lv_at hl 0 rfl) ?_
  refine lv_if_eq (tgt := 8) hx hb dX15_truth_1 (by decide) (fun c1 => ?_) (fun c1 => ?_)
  · have h := nd_pos h c1
    refine lv_lconst (v := 0) hx hb dX15_truth_8 (by decide) ?_
    exact (db_X15_truth_9 C K) (0) s0 _ _ _ h hP hD hS (lv_sub hl [] rfl)
  · have h := nd_neg h c1
    refine lv_lconst (v := 1) hx hb dX15_truth_4 (by decide) ?_
    refine lv_goto (tgt := 9) hx hb dX15_truth_5 (by decide) ?_
    exact (db_X15_truth_9 C K) (1) s0 _ _ _ h hP hD hS (lv_sub hl [] rfl)
set_option maxHeartbeats 40000000 in
set_option maxRecDepth 100000 in
theorem dm_X15_truth (l : Launch) (hlt : l.stackTraces = false) (dC : Nat → ClassId) (dI : Nat → Nat → Nat) (a : Nat → Nat) (ac : Nat → ClassId) (n : Nat) (v0 : Int32) (s0 : Unit) {r : Int64 × (Unit)} (h : df_X15_truth n v0 s0 = some r) (sz : Nat) : Met l yX15_truth ow_dm_X15_truth ({ frames := 0, cells := 0, slots := 0, locals := 0 }) (va_Pc [.int v0] (fun U => U.heap.size = sz ∧ va_P (dC, dI) vwCl (dw_P a ac s0) U.heap ∧ va_K (dC, dI) vwCl (dk_P ac) U ∧ va_D (fun _ => True) (dw_P a ac s0) ∧ nv_E dI (va_A (dw_P a ac s0) sz) U)) (va_Ql (fun x _ => x = r.1) (fun (_ : Unit) t => va_P (dC, dI) vwCl (dw_P a ac r.2) t.heap ∧ va_K (dC, dI) vwCl (dk_P ac) t ∧ va_D (va_A (dw_P a ac s0) sz) (dw_P a ac r.2)) (va_A (dw_P a ac s0) sz)) 0 0 (va_A (dw_P a ac s0) sz) := by
  refine Met.ofW (cc := cX15_truth) (maxL := 1) (ret := (some .long)) (by decide) rfl ?_
  intro p e s m args below meth c s₁ B hml hv
  obtain ⟨rfl, hsz, hP, hK, hD0, hN⟩ := hv
  have hx := B.exec
  have hb := B.bytes
  have hr := B.returns
  have hts := atoms_spec (ws := ow_dm_X15_truth) B.pre
  have hown : s.vm.findClass RX15 = some m.cls := findClass_of_methodNamed B.named
  have hlocks := B.notSynchronized
  subst hsz
  have hD := hD0.self (sz := s.heap.size)
  generalize hAe : va_A (dw_P a ac s0) s.heap.size = A at hD hN ⊢
  have hA : ∀ q : Nat, s.heap.size ≤ q → A q := fun q h => by rw [← hAe]; exact Or.inr h
  have hl := lv_entry ([.int v0]) (n := 1) (Nat.le_of_ble_eq_true rfl)
  rw [lg_entry_eq]
  generalize (lg_sl ([.int v0]) ++ List.replicate (1 - (lg_sl ([.int v0])).length) Slot.unset).toArray = ls at hl ⊢
  have hl : lv_has ls 1 [(0, .int v0)] := hl
  exact db_X15_truth_0 (dC := dC) (dI := dI) (a := a) (ac := ac) (n := n) (r := r) ⟨hlt, hx, hb, hml, hown, hts, hN, hA, hK⟩ (fun pc v τ H locs ls d er hP hD hS => by subst er; exact W.lret (v := v) hx hb hr (fun t ht hW => ⟨⟨v, (), rfl, rfl, by rw [ht]; exact hP, va_K.moved hW.alike hK, hD⟩, hS.F ht⟩) hS.2.2 d) v0 s0 _ _ _ h hP hD va_S.rf (lv_sub hl [0] rfl)
def ow_dm_X15_both : List Cond := Cond.code yX15_both cX15_both 5 (some .long) :: ([Cond.methodLink RX15 207 yX15_truth, Cond.static yX15_truth, Cond.initialized RX15, Cond.constantLong RX15 231 (63)] ++ (ow_dm_X15_truth ++ []))
theorem gd_dm_X15_both : ∀ w ∈ ow_dm_X15_both, (w.onTables && w.keeps) = true ∨ ∃ ty, w = Cond.arrayClass ty := List.forall_mem_cons.mpr ⟨good_of_word rfl, List.forall_mem_append.mpr ⟨fun w h => good_of_word (List.all_eq_true.mp (by decide +kernel) w h), List.forall_mem_append.mpr ⟨gd_dm_X15_truth, fun _ h => nomatch h⟩⟩⟩
theorem gi_dm_X15_both_0 : GoodIn ow_dm_X15_both (wsS RX15 207 yX15_truth ow_dm_X15_truth) := goodIn_app (goodIn_of _ (by decide +kernel)) (fun w h => ⟨List.mem_cons_of_mem _ (List.mem_append_right _ (List.mem_append_left _ h)), gd_dm_X15_truth w h⟩)
def dj_X15_both_95 (p : Program) (l : Launch) (e : Env) (s : State) (m : MethodId) (args : Array Value) (below : List Frame) (meth : Method) (c : Code) (Q : State → Prop) (A : Nat → Prop) (dC : Nat → ClassId) (dI : Nat → Nat → Nat) (a : Nat → Nat) (ac : Nat → ClassId) (g : Int32 → (Unit) → Option (Int64 × (Unit))) (r : Int64 × (Unit)) : Prop := ∀ (y0 : Int32) (s0 : Unit) (H : Heap) (locs : List Loc) (ls : Array Slot), g y0 s0 = some r → va_P (dC, dI) vwCl (dw_P a ac s0) H → va_D A (dw_P a ac s0) → va_S A s.heap H locs → lv_has ls 5 [] → W p l e (headSpec ow_dm_X15_both ({ frames := 1, cells := 0, slots := 0, locals := 20 })).room s m args below meth c H locs 0 0 Q (F0 m 95 ls [.int y0])
def dj_X15_both_84 (p : Program) (l : Launch) (e : Env) (s : State) (m : MethodId) (args : Array Value) (below : List Frame) (meth : Method) (c : Code) (Q : State → Prop) (A : Nat → Prop) (dC : Nat → ClassId) (dI : Nat → Nat → Nat) (a : Nat → Nat) (ac : Nat → ClassId) (g : Int64 → (Unit) → Option (Int64 × (Unit))) (r : Int64 × (Unit)) : Prop := ∀ (x3 : Int64) (s0 : Unit) (H : Heap) (locs : List Loc) (ls : Array Slot), g x3 s0 = some r → va_P (dC, dI) vwCl (dw_P a ac s0) H → va_D A (dw_P a ac s0) → va_S A s.heap H locs → lv_has ls 5 [(3, .long x3)] → W p l e (headSpec ow_dm_X15_both ({ frames := 1, cells := 0, slots := 0, locals := 20 })).room s m args below meth c H locs 0 0 Q (F0 m 84 ls [])
def dj_X15_both_110 (p : Program) (l : Launch) (e : Env) (s : State) (m : MethodId) (args : Array Value) (below : List Frame) (meth : Method) (c : Code) (Q : State → Prop) (A : Nat → Prop) (dC : Nat → ClassId) (dI : Nat → Nat → Nat) (a : Nat → Nat) (ac : Nat → ClassId) (g : Int32 → (Unit) → Option (Int64 × (Unit))) (r : Int64 × (Unit)) : Prop := ∀ (y0 : Int32) (s0 : Unit) (H : Heap) (locs : List Loc) (ls : Array Slot), g y0 s0 = some r → va_P (dC, dI) vwCl (dw_P a ac s0) H → va_D A (dw_P a ac s0) → va_S A s.heap H locs → lv_has ls 5 [] → W p l e (headSpec ow_dm_X15_both ({ frames := 1, cells := 0, slots := 0, locals := 20 })).room s m args below meth c H locs 0 0 Q (F0 m 110 ls [.int y0])
def dj_X15_both_125 (p : Program) (l : Launch) (e : Env) (s : State) (m : MethodId) (args : Array Value) (below : List Frame) (meth : Method) (c : Code) (Q : State → Prop) (A : Nat → Prop) (dC : Nat → ClassId) (dI : Nat → Nat → Nat) (a : Nat → Nat) (ac : Nat → ClassId) (g : Int32 → (Unit) → Option (Int64 × (Unit))) (r : Int64 × (Unit)) : Prop := ∀ (y0 : Int32) (s0 : Unit) (H : Heap) (locs : List Loc) (ls : Array Slot), g y0 s0 = some r → va_P (dC, dI) vwCl (dw_P a ac s0) H → va_D A (dw_P a ac s0) → va_S A s.heap H locs → lv_has ls 5 [] → W p l e (headSpec ow_dm_X15_both ({ frames := 1, cells := 0, slots := 0, locals := 20 })).room s m args below meth c H locs 0 0 Q (F0 m 125 ls [.int y0])
def dj_X15_both_140 (p : Program) (l : Launch) (e : Env) (s : State) (m : MethodId) (args : Array Value) (below : List Frame) (meth : Method) (c : Code) (Q : State → Prop) (A : Nat → Prop) (dC : Nat → ClassId) (dI : Nat → Nat → Nat) (a : Nat → Nat) (ac : Nat → ClassId) (g : Int32 → (Unit) → Option (Int64 × (Unit))) (r : Int64 × (Unit)) : Prop := ∀ (y0 : Int32) (s0 : Unit) (H : Heap) (locs : List Loc) (ls : Array Slot), g y0 s0 = some r → va_P (dC, dI) vwCl (dw_P a ac s0) H → va_D A (dw_P a ac s0) → va_S A s.heap H locs → lv_has ls 5 [] → W p l e (headSpec ow_dm_X15_both ({ frames := 1, cells := 0, slots := 0, locals := 20 })).room s m args below meth c H locs 0 0 Q (F0 m 140 ls [.int y0])
def dj_X15_both_155 (p : Program) (l : Launch) (e : Env) (s : State) (m : MethodId) (args : Array Value) (below : List Frame) (meth : Method) (c : Code) (Q : State → Prop) (A : Nat → Prop) (dC : Nat → ClassId) (dI : Nat → Nat → Nat) (a : Nat → Nat) (ac : Nat → ClassId) (g : Int32 → (Unit) → Option (Int64 × (Unit))) (r : Int64 × (Unit)) : Prop := ∀ (y0 : Int32) (s0 : Unit) (H : Heap) (locs : List Loc) (ls : Array Slot), g y0 s0 = some r → va_P (dC, dI) vwCl (dw_P a ac s0) H → va_D A (dw_P a ac s0) → va_S A s.heap H locs → lv_has ls 5 [] → W p l e (headSpec ow_dm_X15_both ({ frames := 1, cells := 0, slots := 0, locals := 20 })).room s m args below meth c H locs 0 0 Q (F0 m 155 ls [.int y0])
def dj_X15_both_170 (p : Program) (l : Launch) (e : Env) (s : State) (m : MethodId) (args : Array Value) (below : List Frame) (meth : Method) (c : Code) (Q : State → Prop) (A : Nat → Prop) (dC : Nat → ClassId) (dI : Nat → Nat → Nat) (a : Nat → Nat) (ac : Nat → ClassId) (g : Int32 → (Unit) → Option (Int64 × (Unit))) (r : Int64 × (Unit)) : Prop := ∀ (y0 : Int32) (s0 : Unit) (H : Heap) (locs : List Loc) (ls : Array Slot), g y0 s0 = some r → va_P (dC, dI) vwCl (dw_P a ac s0) H → va_D A (dw_P a ac s0) → va_S A s.heap H locs → lv_has ls 5 [] → W p l e (headSpec ow_dm_X15_both ({ frames := 1, cells := 0, slots := 0, locals := 20 })).room s m args below meth c H locs 0 0 Q (F0 m 170 ls [.int y0])
def dj_X15_both_185 (p : Program) (l : Launch) (e : Env) (s : State) (m : MethodId) (args : Array Value) (below : List Frame) (meth : Method) (c : Code) (Q : State → Prop) (A : Nat → Prop) (dC : Nat → ClassId) (dI : Nat → Nat → Nat) (a : Nat → Nat) (ac : Nat → ClassId) (g : Int32 → (Unit) → Option (Int64 × (Unit))) (r : Int64 × (Unit)) : Prop := ∀ (y0 : Int32) (s0 : Unit) (H : Heap) (locs : List Loc) (ls : Array Slot), g y0 s0 = some r → va_P (dC, dI) vwCl (dw_P a ac s0) H → va_D A (dw_P a ac s0) → va_S A s.heap H locs → lv_has ls 5 [] → W p l e (headSpec ow_dm_X15_both ({ frames := 1, cells := 0, slots := 0, locals := 20 })).room s m args below meth c H locs 0 0 Q (F0 m 185 ls [.int y0])
def dj_X15_both_0 (p : Program) (l : Launch) (e : Env) (s : State) (m : MethodId) (args : Array Value) (below : List Frame) (meth : Method) (c : Code) (Q : State → Prop) (A : Nat → Prop) (dC : Nat → ClassId) (dI : Nat → Nat → Nat) (a : Nat → Nat) (ac : Nat → ClassId) (g : Int32 → Int64 → Int64 → (Unit) → Option (Int64 × (Unit))) (r : Int64 × (Unit)) : Prop := ∀ (v0 : Int32) (v1 : Int64) (v2 : Int64) (s0 : Unit) (H : Heap) (locs : List Loc) (ls : Array Slot), g v0 v1 v2 s0 = some r → va_P (dC, dI) vwCl (dw_P a ac s0) H → va_D A (dw_P a ac s0) → va_S A s.heap H locs → lv_has ls 5 [(0, .int v0), (1, .long v1), (3, .long v2)] → W p l e (headSpec ow_dm_X15_both ({ frames := 1, cells := 0, slots := 0, locals := 20 })).room s m args below meth c H locs 0 0 Q (F0 m 0 ls [])
set_option maxHeartbeats 40000000 in
set_option maxRecDepth 100000 in
theorem db_X15_both_95 {p : Program} {l : Launch} {e : Env} {s : State} {m : MethodId} {args : Array Value} {below : List Frame} {meth : Method} {c : Code} {Q : State → Prop} {A : Nat → Prop} {dC : Nat → ClassId} {dI : Nat → Nat → Nat} {a : Nat → Nat} {ac : Nat → ClassId} {n : Nat} {r : Int64 × (Unit)} (C : nd_C p l s m args c A (dC, dI) cX15_both 5 RX15 ow_dm_X15_both (dk_P ac)) (K : nd_Kl p l e (headSpec ow_dm_X15_both ({ frames := 1, cells := 0, slots := 0, locals := 20 })).room s m args below meth c Q A (dC, dI) cX15_both (Unit) (dw_P a ac) r) : dj_X15_both_95 p l e s m args below meth c Q A dC dI a ac (df_X15_both_95 n) r := by
  obtain ⟨hlt, hx, hb, hml, hown, hts, hN, hA, hK⟩ := id C
  intro y0 s0 H locs ls h hP hD hS hl
  unfold df_X15_both_95 at h
  obtain ⟨q3, s4, hq, h⟩ := nd_b2_e h
  have hPc : va_P (dC, dI) vwCl (dw_P a ac ()) H := nd_p0
  have hDc : va_D A (dw_P a ac ()) := nd_d0
  have hKc : va_K (dC, dI) vwCl (dk_P ac) s := nd_y0 hK
  have hFc : ∀ q, va_A (dw_P a ac ()) H.size q → A q := nd_r0 hS hA
  refine nd_cSl (As := [.int y0]) (rest := []) (q := q3) (w' := dw_P a ac s4) ⟨hx, hb, hml, hown, hts⟩ (fun sz => dm_X15_truth l hlt dC dI a ac n (y0) () hq sz) (cwS 1 hts gi_dm_X15_both_0 rfl rfl rfl (by decide +kernel) ⟨Nat.le_of_ble_eq_true rfl, Nat.le_of_ble_eq_true rfl⟩) hPc hDc hKc hS hA hN rfl hl.1 rfl (Nat.le_of_ble_eq_true rfl) dX15_both_95 (fun H locs hP1 hD1 hk1 hS => ?_)
  have hP := nd_n0 hP hk1
  exact K _ _ _ _ _ _ dX15_both_98 (Option.some.inj h).symm hP hD hS
set_option maxHeartbeats 40000000 in
set_option maxRecDepth 100000 in
theorem db_X15_both_84 {p : Program} {l : Launch} {e : Env} {s : State} {m : MethodId} {args : Array Value} {below : List Frame} {meth : Method} {c : Code} {Q : State → Prop} {A : Nat → Prop} {dC : Nat → ClassId} {dI : Nat → Nat → Nat} {a : Nat → Nat} {ac : Nat → ClassId} {n : Nat} {r : Int64 × (Unit)} (C : nd_C p l s m args c A (dC, dI) cX15_both 5 RX15 ow_dm_X15_both (dk_P ac)) (K : nd_Kl p l e (headSpec ow_dm_X15_both ({ frames := 1, cells := 0, slots := 0, locals := 20 })).room s m args below meth c Q A (dC, dI) cX15_both (Unit) (dw_P a ac) r) : dj_X15_both_84 p l e s m args below meth c Q A dC dI a ac (df_X15_both_84 n) r := by
  obtain ⟨hlt, hx, hb, hml, hown, hts, hN, hA, hK⟩ := id C
  intro x3 s0 H locs ls h hP hD hS hl
  unfold df_X15_both_84 at h
  refine lv_lload_n hx hb dX15_both_84 rfl (lv_at hl 0 rfl) ?_
  refine lv_lconst (v := 0) hx hb dX15_both_85 (by decide) ?_
  refine W.lcmp hx hb dX15_both_86 ?_
  refine lv_if_eq (tgt := 94) hx hb dX15_both_87 (by decide) (fun c2 => ?_) (fun c2 => ?_)
  · have h := nd_pos h c2
    refine lv_iconst (v := 0) hx hb dX15_both_94 (by decide) ?_
    exact (db_X15_both_95 C K) (0) s0 _ _ _ h hP hD hS (lv_sub hl [] rfl)
  · have h := nd_neg h c2
    refine lv_iconst (v := 1) hx hb dX15_both_90 (by decide) ?_
    refine lv_goto (tgt := 95) hx hb dX15_both_91 (by decide) ?_
    exact (db_X15_both_95 C K) (1) s0 _ _ _ h hP hD hS (lv_sub hl [] rfl)
set_option maxHeartbeats 40000000 in
set_option maxRecDepth 100000 in
theorem db_X15_both_110 {p : Program} {l : Launch} {e : Env} {s : State} {m : MethodId} {args : Array Value} {below : List Frame} {meth : Method} {c : Code} {Q : State → Prop} {A : Nat → Prop} {dC : Nat → ClassId} {dI : Nat → Nat → Nat} {a : Nat → Nat} {ac : Nat → ClassId} {n : Nat} {r : Int64 × (Unit)} (C : nd_C p l s m args c A (dC, dI) cX15_both 5 RX15 ow_dm_X15_both (dk_P ac)) (K : nd_Kl p l e (headSpec ow_dm_X15_both ({ frames := 1, cells := 0, slots := 0, locals := 20 })).room s m args below meth c Q A (dC, dI) cX15_both (Unit) (dw_P a ac) r) : dj_X15_both_110 p l e s m args below meth c Q A dC dI a ac (df_X15_both_110 n) r := by
  obtain ⟨hlt, hx, hb, hml, hown, hts, hN, hA, hK⟩ := id C
  intro y0 s0 H locs ls h hP hD hS hl
  unfold df_X15_both_110 at h
  obtain ⟨q9, s10, hq, h⟩ := nd_b2_e h
  have hPc : va_P (dC, dI) vwCl (dw_P a ac ()) H := nd_p0
  have hDc : va_D A (dw_P a ac ()) := nd_d0
  have hKc : va_K (dC, dI) vwCl (dk_P ac) s := nd_y0 hK
  have hFc : ∀ q, va_A (dw_P a ac ()) H.size q → A q := nd_r0 hS hA
  refine nd_cSl (As := [.int y0]) (rest := []) (q := q9) (w' := dw_P a ac s10) ⟨hx, hb, hml, hown, hts⟩ (fun sz => dm_X15_truth l hlt dC dI a ac n (y0) () hq sz) (cwS 1 hts gi_dm_X15_both_0 rfl rfl rfl (by decide +kernel) ⟨Nat.le_of_ble_eq_true rfl, Nat.le_of_ble_eq_true rfl⟩) hPc hDc hKc hS hA hN rfl hl.1 rfl (Nat.le_of_ble_eq_true rfl) dX15_both_110 (fun H locs hP1 hD1 hk1 hS => ?_)
  have hP := nd_n0 hP hk1
  exact K _ _ _ _ _ _ dX15_both_113 (Option.some.inj h).symm hP hD hS
set_option maxHeartbeats 40000000 in
set_option maxRecDepth 100000 in
theorem db_X15_both_125 {p : Program} {l : Launch} {e : Env} {s : State} {m : MethodId} {args : Array Value} {below : List Frame} {meth : Method} {c : Code} {Q : State → Prop} {A : Nat → Prop} {dC : Nat → ClassId} {dI : Nat → Nat → Nat} {a : Nat → Nat} {ac : Nat → ClassId} {n : Nat} {r : Int64 × (Unit)} (C : nd_C p l s m args c A (dC, dI) cX15_both 5 RX15 ow_dm_X15_both (dk_P ac)) (K : nd_Kl p l e (headSpec ow_dm_X15_both ({ frames := 1, cells := 0, slots := 0, locals := 20 })).room s m args below meth c Q A (dC, dI) cX15_both (Unit) (dw_P a ac) r) : dj_X15_both_125 p l e s m args below meth c Q A dC dI a ac (df_X15_both_125 n) r := by
  obtain ⟨hlt, hx, hb, hml, hown, hts, hN, hA, hK⟩ := id C
  intro y0 s0 H locs ls h hP hD hS hl
  unfold df_X15_both_125 at h
  obtain ⟨q14, s15, hq, h⟩ := nd_b2_e h
  have hPc : va_P (dC, dI) vwCl (dw_P a ac ()) H := nd_p0
  have hDc : va_D A (dw_P a ac ()) := nd_d0
  have hKc : va_K (dC, dI) vwCl (dk_P ac) s := nd_y0 hK
  have hFc : ∀ q, va_A (dw_P a ac ()) H.size q → A q := nd_r0 hS hA
  refine nd_cSl (As := [.int y0]) (rest := []) (q := q14) (w' := dw_P a ac s15) ⟨hx, hb, hml, hown, hts⟩ (fun sz => dm_X15_truth l hlt dC dI a ac n (y0) () hq sz) (cwS 1 hts gi_dm_X15_both_0 rfl rfl rfl (by decide +kernel) ⟨Nat.le_of_ble_eq_true rfl, Nat.le_of_ble_eq_true rfl⟩) hPc hDc hKc hS hA hN rfl hl.1 rfl (Nat.le_of_ble_eq_true rfl) dX15_both_125 (fun H locs hP1 hD1 hk1 hS => ?_)
  have hP := nd_n0 hP hk1
  exact K _ _ _ _ _ _ dX15_both_128 (Option.some.inj h).symm hP hD hS
set_option maxHeartbeats 40000000 in
set_option maxRecDepth 100000 in
theorem db_X15_both_140 {p : Program} {l : Launch} {e : Env} {s : State} {m : MethodId} {args : Array Value} {below : List Frame} {meth : Method} {c : Code} {Q : State → Prop} {A : Nat → Prop} {dC : Nat → ClassId} {dI : Nat → Nat → Nat} {a : Nat → Nat} {ac : Nat → ClassId} {n : Nat} {r : Int64 × (Unit)} (C : nd_C p l s m args c A (dC, dI) cX15_both 5 RX15 ow_dm_X15_both (dk_P ac)) (K : nd_Kl p l e (headSpec ow_dm_X15_both ({ frames := 1, cells := 0, slots := 0, locals := 20 })).room s m args below meth c Q A (dC, dI) cX15_both (Unit) (dw_P a ac) r) : dj_X15_both_140 p l e s m args below meth c Q A dC dI a ac (df_X15_both_140 n) r := by
  obtain ⟨hlt, hx, hb, hml, hown, hts, hN, hA, hK⟩ := id C
  intro y0 s0 H locs ls h hP hD hS hl
  unfold df_X15_both_140 at h
  obtain ⟨q19, s20, hq, h⟩ := nd_b2_e h
  have hPc : va_P (dC, dI) vwCl (dw_P a ac ()) H := nd_p0
  have hDc : va_D A (dw_P a ac ()) := nd_d0
  have hKc : va_K (dC, dI) vwCl (dk_P ac) s := nd_y0 hK
  have hFc : ∀ q, va_A (dw_P a ac ()) H.size q → A q := nd_r0 hS hA
  refine nd_cSl (As := [.int y0]) (rest := []) (q := q19) (w' := dw_P a ac s20) ⟨hx, hb, hml, hown, hts⟩ (fun sz => dm_X15_truth l hlt dC dI a ac n (y0) () hq sz) (cwS 1 hts gi_dm_X15_both_0 rfl rfl rfl (by decide +kernel) ⟨Nat.le_of_ble_eq_true rfl, Nat.le_of_ble_eq_true rfl⟩) hPc hDc hKc hS hA hN rfl hl.1 rfl (Nat.le_of_ble_eq_true rfl) dX15_both_140 (fun H locs hP1 hD1 hk1 hS => ?_)
  have hP := nd_n0 hP hk1
  exact K _ _ _ _ _ _ dX15_both_143 (Option.some.inj h).symm hP hD hS
set_option maxHeartbeats 40000000 in
set_option maxRecDepth 100000 in
theorem db_X15_both_155 {p : Program} {l : Launch} {e : Env} {s : State} {m : MethodId} {args : Array Value} {below : List Frame} {meth : Method} {c : Code} {Q : State → Prop} {A : Nat → Prop} {dC : Nat → ClassId} {dI : Nat → Nat → Nat} {a : Nat → Nat} {ac : Nat → ClassId} {n : Nat} {r : Int64 × (Unit)} (C : nd_C p l s m args c A (dC, dI) cX15_both 5 RX15 ow_dm_X15_both (dk_P ac)) (K : nd_Kl p l e (headSpec ow_dm_X15_both ({ frames := 1, cells := 0, slots := 0, locals := 20 })).room s m args below meth c Q A (dC, dI) cX15_both (Unit) (dw_P a ac) r) : dj_X15_both_155 p l e s m args below meth c Q A dC dI a ac (df_X15_both_155 n) r := by
  obtain ⟨hlt, hx, hb, hml, hown, hts, hN, hA, hK⟩ := id C
  intro y0 s0 H locs ls h hP hD hS hl
  unfold df_X15_both_155 at h
  obtain ⟨q24, s25, hq, h⟩ := nd_b2_e h
  have hPc : va_P (dC, dI) vwCl (dw_P a ac ()) H := nd_p0
  have hDc : va_D A (dw_P a ac ()) := nd_d0
  have hKc : va_K (dC, dI) vwCl (dk_P ac) s := nd_y0 hK
  have hFc : ∀ q, va_A (dw_P a ac ()) H.size q → A q := nd_r0 hS hA
  refine nd_cSl (As := [.int y0]) (rest := []) (q := q24) (w' := dw_P a ac s25) ⟨hx, hb, hml, hown, hts⟩ (fun sz => dm_X15_truth l hlt dC dI a ac n (y0) () hq sz) (cwS 1 hts gi_dm_X15_both_0 rfl rfl rfl (by decide +kernel) ⟨Nat.le_of_ble_eq_true rfl, Nat.le_of_ble_eq_true rfl⟩) hPc hDc hKc hS hA hN rfl hl.1 rfl (Nat.le_of_ble_eq_true rfl) dX15_both_155 (fun H locs hP1 hD1 hk1 hS => ?_)
  have hP := nd_n0 hP hk1
  exact K _ _ _ _ _ _ dX15_both_158 (Option.some.inj h).symm hP hD hS
set_option maxHeartbeats 40000000 in
set_option maxRecDepth 100000 in
theorem db_X15_both_170 {p : Program} {l : Launch} {e : Env} {s : State} {m : MethodId} {args : Array Value} {below : List Frame} {meth : Method} {c : Code} {Q : State → Prop} {A : Nat → Prop} {dC : Nat → ClassId} {dI : Nat → Nat → Nat} {a : Nat → Nat} {ac : Nat → ClassId} {n : Nat} {r : Int64 × (Unit)} (C : nd_C p l s m args c A (dC, dI) cX15_both 5 RX15 ow_dm_X15_both (dk_P ac)) (K : nd_Kl p l e (headSpec ow_dm_X15_both ({ frames := 1, cells := 0, slots := 0, locals := 20 })).room s m args below meth c Q A (dC, dI) cX15_both (Unit) (dw_P a ac) r) : dj_X15_both_170 p l e s m args below meth c Q A dC dI a ac (df_X15_both_170 n) r := by
  obtain ⟨hlt, hx, hb, hml, hown, hts, hN, hA, hK⟩ := id C
  intro y0 s0 H locs ls h hP hD hS hl
  unfold df_X15_both_170 at h
  obtain ⟨q29, s30, hq, h⟩ := nd_b2_e h
  have hPc : va_P (dC, dI) vwCl (dw_P a ac ()) H := nd_p0
  have hDc : va_D A (dw_P a ac ()) := nd_d0
  have hKc : va_K (dC, dI) vwCl (dk_P ac) s := nd_y0 hK
  have hFc : ∀ q, va_A (dw_P a ac ()) H.size q → A q := nd_r0 hS hA
  refine nd_cSl (As := [.int y0]) (rest := []) (q := q29) (w' := dw_P a ac s30) ⟨hx, hb, hml, hown, hts⟩ (fun sz => dm_X15_truth l hlt dC dI a ac n (y0) () hq sz) (cwS 1 hts gi_dm_X15_both_0 rfl rfl rfl (by decide +kernel) ⟨Nat.le_of_ble_eq_true rfl, Nat.le_of_ble_eq_true rfl⟩) hPc hDc hKc hS hA hN rfl hl.1 rfl (Nat.le_of_ble_eq_true rfl) dX15_both_170 (fun H locs hP1 hD1 hk1 hS => ?_)
  have hP := nd_n0 hP hk1
  exact K _ _ _ _ _ _ dX15_both_173 (Option.some.inj h).symm hP hD hS
set_option maxHeartbeats 40000000 in
set_option maxRecDepth 100000 in
theorem db_X15_both_185 {p : Program} {l : Launch} {e : Env} {s : State} {m : MethodId} {args : Array Value} {below : List Frame} {meth : Method} {c : Code} {Q : State → Prop} {A : Nat → Prop} {dC : Nat → ClassId} {dI : Nat → Nat → Nat} {a : Nat → Nat} {ac : Nat → ClassId} {n : Nat} {r : Int64 × (Unit)} (C : nd_C p l s m args c A (dC, dI) cX15_both 5 RX15 ow_dm_X15_both (dk_P ac)) (K : nd_Kl p l e (headSpec ow_dm_X15_both ({ frames := 1, cells := 0, slots := 0, locals := 20 })).room s m args below meth c Q A (dC, dI) cX15_both (Unit) (dw_P a ac) r) : dj_X15_both_185 p l e s m args below meth c Q A dC dI a ac (df_X15_both_185 n) r := by
  obtain ⟨hlt, hx, hb, hml, hown, hts, hN, hA, hK⟩ := id C
  intro y0 s0 H locs ls h hP hD hS hl
  unfold df_X15_both_185 at h
  obtain ⟨q34, s35, hq, h⟩ := nd_b2_e h
  have hPc : va_P (dC, dI) vwCl (dw_P a ac ()) H := nd_p0
  have hDc : va_D A (dw_P a ac ()) := nd_d0
  have hKc : va_K (dC, dI) vwCl (dk_P ac) s := nd_y0 hK
  have hFc : ∀ q, va_A (dw_P a ac ()) H.size q → A q := nd_r0 hS hA
  refine nd_cSl (As := [.int y0]) (rest := []) (q := q34) (w' := dw_P a ac s35) ⟨hx, hb, hml, hown, hts⟩ (fun sz => dm_X15_truth l hlt dC dI a ac n (y0) () hq sz) (cwS 1 hts gi_dm_X15_both_0 rfl rfl rfl (by decide +kernel) ⟨Nat.le_of_ble_eq_true rfl, Nat.le_of_ble_eq_true rfl⟩) hPc hDc hKc hS hA hN rfl hl.1 rfl (Nat.le_of_ble_eq_true rfl) dX15_both_185 (fun H locs hP1 hD1 hk1 hS => ?_)
  have hP := nd_n0 hP hk1
  exact K _ _ _ _ _ _ dX15_both_188 (Option.some.inj h).symm hP hD hS
set_option maxHeartbeats 40000000 in
set_option maxRecDepth 100000 in
theorem db_X15_both_0 {p : Program} {l : Launch} {e : Env} {s : State} {m : MethodId} {args : Array Value} {below : List Frame} {meth : Method} {c : Code} {Q : State → Prop} {A : Nat → Prop} {dC : Nat → ClassId} {dI : Nat → Nat → Nat} {a : Nat → Nat} {ac : Nat → ClassId} {n : Nat} {r : Int64 × (Unit)} (C : nd_C p l s m args c A (dC, dI) cX15_both 5 RX15 ow_dm_X15_both (dk_P ac)) (K : nd_Kl p l e (headSpec ow_dm_X15_both ({ frames := 1, cells := 0, slots := 0, locals := 20 })).room s m args below meth c Q A (dC, dI) cX15_both (Unit) (dw_P a ac) r) : dj_X15_both_0 p l e s m args below meth c Q A dC dI a ac (df_X15_both_0 n) r := by
  obtain ⟨hlt, hx, hb, hml, hown, hts, hN, hA, hK⟩ := id C
  intro v0 v1 v2 s0 H locs ls h hP hD hS hl
  unfold df_X15_both_0 at h
  refine lv_iload_n hx hb dX15_both_0 rfl (lv_at hl 0 rfl) ?_
  by_cases c1 : v0 = 10
  · have h := nd_pos h c1
    refine lv_tableIn (off := 83) (tgt := 84) hx hb dX15_both_1 (by rw [c1]; decide) (by rw [c1]; decide) (by rw [c1]; decide) (by decide) ?_
    exact (db_X15_both_84 C K) (v2) s0 _ _ _ h hP hD hS (lv_sub hl [2] rfl)
  have h := nd_neg h c1
  by_cases c6 : v0 = 11
  · have h := nd_pos h c6
    refine lv_tableIn (off := 83) (tgt := 84) hx hb dX15_both_1 (by rw [c6]; decide) (by rw [c6]; decide) (by rw [c6]; decide) (by decide) ?_
    exact (db_X15_both_84 C K) (v2) s0 _ _ _ h hP hD hS (lv_sub hl [2] rfl)
  have h := nd_neg h c6
  by_cases c7 : v0 = 12
  · have h := nd_pos h c7
    refine lv_tableIn (off := 98) (tgt := 99) hx hb dX15_both_1 (by rw [c7]; decide) (by rw [c7]; decide) (by rw [c7]; decide) (by decide) ?_
    refine lv_lload_n hx hb dX15_both_99 rfl (lv_at hl 1 rfl) ?_
    refine lv_lload_n hx hb dX15_both_100 rfl (lv_at hl 2 rfl) ?_
    refine W.lcmp hx hb dX15_both_101 ?_
    refine lv_if_ne (tgt := 109) hx hb dX15_both_102 (by decide) (fun c8 => ?_) (fun c8 => ?_)
    · have h := nd_neg h c8
      refine lv_iconst (v := 0) hx hb dX15_both_109 (by decide) ?_
      exact (db_X15_both_110 C K) (0) s0 _ _ _ h hP hD hS (lv_sub hl [] rfl)
    · have h := nd_pos h c8
      refine lv_iconst (v := 1) hx hb dX15_both_105 (by decide) ?_
      refine lv_goto (tgt := 110) hx hb dX15_both_106 (by decide) ?_
      exact (db_X15_both_110 C K) (1) s0 _ _ _ h hP hD hS (lv_sub hl [] rfl)
  have h := nd_neg h c7
  by_cases c12 : v0 = 13
  · have h := nd_pos h c12
    refine lv_tableIn (off := 113) (tgt := 114) hx hb dX15_both_1 (by rw [c12]; decide) (by rw [c12]; decide) (by rw [c12]; decide) (by decide) ?_
    refine lv_lload_n hx hb dX15_both_114 rfl (lv_at hl 1 rfl) ?_
    refine lv_lload_n hx hb dX15_both_115 rfl (lv_at hl 2 rfl) ?_
    refine W.lcmp hx hb dX15_both_116 ?_
    refine lv_if_eq (tgt := 124) hx hb dX15_both_117 (by decide) (fun c13 => ?_) (fun c13 => ?_)
    · have h := nd_pos h c13
      refine lv_iconst (v := 0) hx hb dX15_both_124 (by decide) ?_
      exact (db_X15_both_125 C K) (0) s0 _ _ _ h hP hD hS (lv_sub hl [] rfl)
    · have h := nd_neg h c13
      refine lv_iconst (v := 1) hx hb dX15_both_120 (by decide) ?_
      refine lv_goto (tgt := 125) hx hb dX15_both_121 (by decide) ?_
      exact (db_X15_both_125 C K) (1) s0 _ _ _ h hP hD hS (lv_sub hl [] rfl)
  have h := nd_neg h c12
  by_cases c17 : v0 = 14
  · have h := nd_pos h c17
    refine lv_tableIn (off := 128) (tgt := 129) hx hb dX15_both_1 (by rw [c17]; decide) (by rw [c17]; decide) (by rw [c17]; decide) (by decide) ?_
    refine lv_lload_n hx hb dX15_both_129 rfl (lv_at hl 1 rfl) ?_
    refine lv_lload_n hx hb dX15_both_130 rfl (lv_at hl 2 rfl) ?_
    refine W.lcmp hx hb dX15_both_131 ?_
    refine lv_if_ge (tgt := 139) hx hb dX15_both_132 (by decide) (fun c18 => ?_) (fun c18 => ?_)
    · have h := nd_pos h c18
      refine lv_iconst (v := 0) hx hb dX15_both_139 (by decide) ?_
      exact (db_X15_both_140 C K) (0) s0 _ _ _ h hP hD hS (lv_sub hl [] rfl)
    · have h := nd_neg h c18
      refine lv_iconst (v := 1) hx hb dX15_both_135 (by decide) ?_
      refine lv_goto (tgt := 140) hx hb dX15_both_136 (by decide) ?_
      exact (db_X15_both_140 C K) (1) s0 _ _ _ h hP hD hS (lv_sub hl [] rfl)
  have h := nd_neg h c17
  by_cases c22 : v0 = 15
  · have h := nd_pos h c22
    refine lv_tableIn (off := 143) (tgt := 144) hx hb dX15_both_1 (by rw [c22]; decide) (by rw [c22]; decide) (by rw [c22]; decide) (by decide) ?_
    refine lv_lload_n hx hb dX15_both_144 rfl (lv_at hl 1 rfl) ?_
    refine lv_lload_n hx hb dX15_both_145 rfl (lv_at hl 2 rfl) ?_
    refine W.lcmp hx hb dX15_both_146 ?_
    refine lv_if_gt (tgt := 154) hx hb dX15_both_147 (by decide) (fun c23 => ?_) (fun c23 => ?_)
    · have h := nd_pos h c23
      refine lv_iconst (v := 0) hx hb dX15_both_154 (by decide) ?_
      exact (db_X15_both_155 C K) (0) s0 _ _ _ h hP hD hS (lv_sub hl [] rfl)
    · have h := nd_neg h c23
      refine lv_iconst (v := 1) hx hb dX15_both_150 (by decide) ?_
      refine lv_goto (tgt := 155) hx hb dX15_both_151 (by decide) ?_
      exact (db_X15_both_155 C K) (1) s0 _ _ _ h hP hD hS (lv_sub hl [] rfl)
  have h := nd_neg h c22
  by_cases c27 : v0 = 16
  · have h := nd_pos h c27
    refine lv_tableIn (off := 158) (tgt := 159) hx hb dX15_both_1 (by rw [c27]; decide) (by rw [c27]; decide) (by rw [c27]; decide) (by decide) ?_
    refine lv_lload_n hx hb dX15_both_159 rfl (lv_at hl 1 rfl) ?_
    refine lv_lload_n hx hb dX15_both_160 rfl (lv_at hl 2 rfl) ?_
    refine W.lcmp hx hb dX15_both_161 ?_
    refine lv_if_le (tgt := 169) hx hb dX15_both_162 (by decide) (fun c28 => ?_) (fun c28 => ?_)
    · have h := nd_pos h c28
      refine lv_iconst (v := 0) hx hb dX15_both_169 (by decide) ?_
      exact (db_X15_both_170 C K) (0) s0 _ _ _ h hP hD hS (lv_sub hl [] rfl)
    · have h := nd_neg h c28
      refine lv_iconst (v := 1) hx hb dX15_both_165 (by decide) ?_
      refine lv_goto (tgt := 170) hx hb dX15_both_166 (by decide) ?_
      exact (db_X15_both_170 C K) (1) s0 _ _ _ h hP hD hS (lv_sub hl [] rfl)
  have h := nd_neg h c27
  by_cases c32 : v0 = 17
  · have h := nd_pos h c32
    refine lv_tableIn (off := 173) (tgt := 174) hx hb dX15_both_1 (by rw [c32]; decide) (by rw [c32]; decide) (by rw [c32]; decide) (by decide) ?_
    refine lv_lload_n hx hb dX15_both_174 rfl (lv_at hl 1 rfl) ?_
    refine lv_lload_n hx hb dX15_both_175 rfl (lv_at hl 2 rfl) ?_
    refine W.lcmp hx hb dX15_both_176 ?_
    refine lv_if_lt (tgt := 184) hx hb dX15_both_177 (by decide) (fun c33 => ?_) (fun c33 => ?_)
    · have h := nd_pos h c33
      refine lv_iconst (v := 0) hx hb dX15_both_184 (by decide) ?_
      exact (db_X15_both_185 C K) (0) s0 _ _ _ h hP hD hS (lv_sub hl [] rfl)
    · have h := nd_neg h c33
      refine lv_iconst (v := 1) hx hb dX15_both_180 (by decide) ?_
      refine lv_goto (tgt := 185) hx hb dX15_both_181 (by decide) ?_
      exact (db_X15_both_185 C K) (1) s0 _ _ _ h hP hD hS (lv_sub hl [] rfl)
  have h := nd_neg h c32
  by_cases c37 : v0 = 18
  · have h := nd_pos h c37
    refine lv_tableIn (off := 188) (tgt := 189) hx hb dX15_both_1 (by rw [c37]; decide) (by rw [c37]; decide) (by rw [c37]; decide) (by decide) ?_
    refine lv_lload_n hx hb dX15_both_189 rfl (lv_at hl 1 rfl) ?_
    refine lv_lload_n hx hb dX15_both_190 rfl (lv_at hl 2 rfl) ?_
    refine lv_lor hx hb dX15_both_191 ?_
    exact K _ _ _ _ _ _ dX15_both_192 (Option.some.inj h).symm hP hD hS
  have h := nd_neg h c37
  by_cases c38 : v0 = 19
  · have h := nd_pos h c38
    refine lv_tableIn (off := 192) (tgt := 193) hx hb dX15_both_1 (by rw [c38]; decide) (by rw [c38]; decide) (by rw [c38]; decide) (by decide) ?_
    refine lv_lload_n hx hb dX15_both_193 rfl (lv_at hl 1 rfl) ?_
    refine lv_lload_n hx hb dX15_both_194 rfl (lv_at hl 2 rfl) ?_
    refine lv_lxor hx hb dX15_both_195 ?_
    exact K _ _ _ _ _ _ dX15_both_196 (Option.some.inj h).symm hP hD hS
  have h := nd_neg h c38
  by_cases c39 : v0 = 20
  · have h := nd_pos h c39
    refine lv_tableIn (off := 196) (tgt := 197) hx hb dX15_both_1 (by rw [c39]; decide) (by rw [c39]; decide) (by rw [c39]; decide) (by decide) ?_
    refine lv_lload_n hx hb dX15_both_197 rfl (lv_at hl 1 rfl) ?_
    refine lv_lload_n hx hb dX15_both_198 rfl (lv_at hl 2 rfl) ?_
    refine lv_land hx hb dX15_both_199 ?_
    exact K _ _ _ _ _ _ dX15_both_200 (Option.some.inj h).symm hP hD hS
  have h := nd_neg h c39
  by_cases c40 : v0 = 21
  · have h := nd_pos h c40
    refine lv_tableIn (off := 200) (tgt := 201) hx hb dX15_both_1 (by rw [c40]; decide) (by rw [c40]; decide) (by rw [c40]; decide) (by decide) ?_
    refine lv_lload_n hx hb dX15_both_201 rfl (lv_at hl 1 rfl) ?_
    refine lv_lload_n hx hb dX15_both_202 rfl (lv_at hl 2 rfl) ?_
    refine lv_ldc2 hx hb hown (hts (.constantLong RX15 231 (63)) (List.mem_of_getElem? (i := 4) rfl)) dX15_both_203 ?_
    refine lv_land hx hb dX15_both_206 ?_
    refine lv_l2i hx hb dX15_both_207 rfl ?_
    refine lv_lshl hx hb dX15_both_208 rfl ?_
    exact K _ _ _ _ _ _ dX15_both_209 (Option.some.inj h).symm hP hD hS
  have h := nd_neg h c40
  by_cases c41 : v0 = 22
  · have h := nd_pos h c41
    refine lv_tableIn (off := 209) (tgt := 210) hx hb dX15_both_1 (by rw [c41]; decide) (by rw [c41]; decide) (by rw [c41]; decide) (by decide) ?_
    refine lv_lload_n hx hb dX15_both_210 rfl (lv_at hl 1 rfl) ?_
    refine lv_lload_n hx hb dX15_both_211 rfl (lv_at hl 2 rfl) ?_
    refine lv_ldc2 hx hb hown (hts (.constantLong RX15 231 (63)) (List.mem_of_getElem? (i := 4) rfl)) dX15_both_212 ?_
    refine lv_land hx hb dX15_both_215 ?_
    refine lv_l2i hx hb dX15_both_216 rfl ?_
    refine lv_lshr hx hb dX15_both_217 rfl ?_
    exact K _ _ _ _ _ _ dX15_both_218 (Option.some.inj h).symm hP hD hS
  have h := nd_neg h c41
  by_cases c42 : v0 = 23
  · have h := nd_pos h c42
    refine lv_tableIn (off := 218) (tgt := 219) hx hb dX15_both_1 (by rw [c42]; decide) (by rw [c42]; decide) (by rw [c42]; decide) (by decide) ?_
    refine lv_lload_n hx hb dX15_both_219 rfl (lv_at hl 1 rfl) ?_
    refine lv_lload_n hx hb dX15_both_220 rfl (lv_at hl 2 rfl) ?_
    refine lv_ladd hx hb dX15_both_221 ?_
    exact K _ _ _ _ _ _ dX15_both_222 (Option.some.inj h).symm hP hD hS
  have h := nd_neg h c42
  by_cases c43 : v0 = 24
  · have h := nd_pos h c43
    refine lv_tableIn (off := 222) (tgt := 223) hx hb dX15_both_1 (by rw [c43]; decide) (by rw [c43]; decide) (by rw [c43]; decide) (by decide) ?_
    refine lv_lload_n hx hb dX15_both_223 rfl (lv_at hl 1 rfl) ?_
    refine lv_lload_n hx hb dX15_both_224 rfl (lv_at hl 2 rfl) ?_
    refine lv_lsub hx hb dX15_both_225 ?_
    exact K _ _ _ _ _ _ dX15_both_226 (Option.some.inj h).symm hP hD hS
  have h := nd_neg h c43
  by_cases c44 : v0 = 25
  · have h := nd_pos h c44
    refine lv_tableIn (off := 226) (tgt := 227) hx hb dX15_both_1 (by rw [c44]; decide) (by rw [c44]; decide) (by rw [c44]; decide) (by decide) ?_
    refine lv_lload_n hx hb dX15_both_227 rfl (lv_at hl 1 rfl) ?_
    refine lv_lload_n hx hb dX15_both_228 rfl (lv_at hl 2 rfl) ?_
    refine lv_lmul hx hb dX15_both_229 ?_
    exact K _ _ _ _ _ _ dX15_both_230 (Option.some.inj h).symm hP hD hS
  have h := nd_neg h c44
  by_cases c45 : v0 = 26
  · have h := nd_pos h c45
    refine lv_tableIn (off := 230) (tgt := 231) hx hb dX15_both_1 (by rw [c45]; decide) (by rw [c45]; decide) (by rw [c45]; decide) (by decide) ?_
    refine lv_lload_n hx hb dX15_both_231 rfl (lv_at hl 1 rfl) ?_
    refine lv_lload_n hx hb dX15_both_232 rfl (lv_at hl 2 rfl) ?_
    obtain ⟨i46, h⟩ := nd_nz_e h
    refine lv_ldiv hx hb dX15_both_233 i46 ?_
    exact K _ _ _ _ _ _ dX15_both_234 (Option.some.inj h).symm hP hD hS
  have h := nd_neg h c45
  refine lv_tableOut (tgt := 235) hx hb dX15_both_1 (by have g0 := nv_nei c1 (k := 10) (by decide); have g1 := nv_nei c6 (k := 11) (by decide); have g2 := nv_nei c7 (k := 12) (by decide); have g3 := nv_nei c12 (k := 13) (by decide); have g4 := nv_nei c17 (k := 14) (by decide); have g5 := nv_nei c22 (k := 15) (by decide); have g6 := nv_nei c27 (k := 16) (by decide); have g7 := nv_nei c32 (k := 17) (by decide); have g8 := nv_nei c37 (k := 18) (by decide); have g9 := nv_nei c38 (k := 19) (by decide); have g10 := nv_nei c39 (k := 20) (by decide); have g11 := nv_nei c40 (k := 21) (by decide); have g12 := nv_nei c41 (k := 22) (by decide); have g13 := nv_nei c42 (k := 23) (by decide); have g14 := nv_nei c43 (k := 24) (by decide); have g15 := nv_nei c44 (k := 25) (by decide); have g16 := nv_nei c45 (k := 26) (by decide); omega) (by decide) ?_
  refine lv_lload_n hx hb dX15_both_235 rfl (lv_at hl 1 rfl) ?_
  refine lv_lload_n hx hb dX15_both_236 rfl (lv_at hl 2 rfl) ?_
  obtain ⟨i47, h⟩ := nd_nz_e h
  refine lv_lrem hx hb dX15_both_237 i47 ?_
  exact K _ _ _ _ _ _ dX15_both_238 (Option.some.inj h).symm hP hD hS
set_option maxHeartbeats 40000000 in
set_option maxRecDepth 100000 in
theorem dm_X15_both (l : Launch) (hlt : l.stackTraces = false) (dC : Nat → ClassId) (dI : Nat → Nat → Nat) (a : Nat → Nat) (ac : Nat → ClassId) (n : Nat) (v0 : Int32) (v1 : Int64) (v2 : Int64) (s0 : Unit) {r : Int64 × (Unit)} (h : df_X15_both n v0 v1 v2 s0 = some r) (sz : Nat) : Met l yX15_both ow_dm_X15_both ({ frames := 1, cells := 0, slots := 0, locals := 20 }) (va_Pc [.int v0, .long v1, .long v2] (fun U => U.heap.size = sz ∧ va_P (dC, dI) vwCl (dw_P a ac s0) U.heap ∧ va_K (dC, dI) vwCl (dk_P ac) U ∧ va_D (fun _ => True) (dw_P a ac s0) ∧ nv_E dI (va_A (dw_P a ac s0) sz) U)) (va_Ql (fun x _ => x = r.1) (fun (_ : Unit) t => va_P (dC, dI) vwCl (dw_P a ac r.2) t.heap ∧ va_K (dC, dI) vwCl (dk_P ac) t ∧ va_D (va_A (dw_P a ac s0) sz) (dw_P a ac r.2)) (va_A (dw_P a ac s0) sz)) 0 0 (va_A (dw_P a ac s0) sz) := by
  refine Met.ofW (cc := cX15_both) (maxL := 5) (ret := (some .long)) (by decide) rfl ?_
  intro p e s m args below meth c s₁ B hml hv
  obtain ⟨rfl, hsz, hP, hK, hD0, hN⟩ := hv
  have hx := B.exec
  have hb := B.bytes
  have hr := B.returns
  have hts := atoms_spec (ws := ow_dm_X15_both) B.pre
  have hown : s.vm.findClass RX15 = some m.cls := findClass_of_methodNamed B.named
  have hlocks := B.notSynchronized
  subst hsz
  have hD := hD0.self (sz := s.heap.size)
  generalize hAe : va_A (dw_P a ac s0) s.heap.size = A at hD hN ⊢
  have hA : ∀ q : Nat, s.heap.size ≤ q → A q := fun q h => by rw [← hAe]; exact Or.inr h
  have hl := lv_entry ([.int v0, .long v1, .long v2]) (n := 5) (Nat.le_of_ble_eq_true rfl)
  rw [lg_entry_eq]
  generalize (lg_sl ([.int v0, .long v1, .long v2]) ++ List.replicate (5 - (lg_sl ([.int v0, .long v1, .long v2])).length) Slot.unset).toArray = ls at hl ⊢
  have hl : lv_has ls 5 [(0, .int v0), (1, .long v1), (3, .long v2)] := hl
  exact db_X15_both_0 (dC := dC) (dI := dI) (a := a) (ac := ac) (n := n) (r := r) ⟨hlt, hx, hb, hml, hown, hts, hN, hA, hK⟩ (fun pc v τ H locs ls d er hP hD hS => by subst er; exact W.lret (v := v) hx hb hr (fun t ht hW => ⟨⟨v, (), rfl, rfl, by rw [ht]; exact hP, va_K.moved hW.alike hK, hD⟩, hS.F ht⟩) hS.2.2 d) v0 v1 v2 s0 _ _ _ h hP hD va_S.rf (lv_sub hl [0, 1, 2] rfl)
def ow_dm_X15_join : List Cond := Cond.code yX15_join cX15_join 9 none :: ([Cond.fieldLink RX15 52 "TimeMachineModel$Conditions" "sign" "[I", Cond.fieldLink RX15 21 "TimeMachineModel$Conditions" "kind" "[I", Cond.fieldLink RX15 58 "TimeMachineModel$Conditions" "left" "[J", Cond.fieldLink RX15 167 "TimeMachineModel$Conditions" "result" "J", Cond.fieldLink RX15 46 "TimeMachineModel$Conditions" "first" "[I", Cond.methodLink RX15 213 yX15_access, Cond.instanceMethod yX15_access, Cond.selects RX15 yX15_access yX15_access, Cond.initialized RX15, Cond.methodLink RX15 220 yX15_both, Cond.static yX15_both, Cond.methodLink RX15 191 yX15_give, Cond.instanceMethod yX15_give, Cond.selects RX15 yX15_give yX15_give, Cond.methodLink RX15 217 yX15_fail, Cond.instanceMethod yX15_fail, Cond.selects RX15 yX15_fail yX15_fail, Cond.fieldLink RX15 31 "TimeMachineModel$Conditions" "before" "[J", Cond.methodLink RX15 207 yX15_truth, Cond.static yX15_truth, Cond.constantLong RX15 211 (-1)] ++ (u_ws RX15 TX15 28 ++ (ow_dm_X15_access ++ (ow_dm_X15_both ++ (ow_dm_X15_give ++ (ow_dm_X15_fail ++ (ow_dm_X15_truth ++ [])))))))
theorem gd_dm_X15_join : ∀ w ∈ ow_dm_X15_join, (w.onTables && w.keeps) = true ∨ ∃ ty, w = Cond.arrayClass ty := List.forall_mem_cons.mpr ⟨good_of_word rfl, List.forall_mem_append.mpr ⟨fun w h => good_of_word (List.all_eq_true.mp (by decide +kernel) w h), List.forall_mem_append.mpr ⟨gu_X15, List.forall_mem_append.mpr ⟨gd_dm_X15_access, List.forall_mem_append.mpr ⟨gd_dm_X15_both, List.forall_mem_append.mpr ⟨gd_dm_X15_give, List.forall_mem_append.mpr ⟨gd_dm_X15_fail, List.forall_mem_append.mpr ⟨gd_dm_X15_truth, fun _ h => nomatch h⟩⟩⟩⟩⟩⟩⟩⟩
theorem hi_dm_X15_join_X15 : ∀ w ∈ u_ws RX15 TX15 28, w ∈ ow_dm_X15_join := fun w h => List.mem_cons_of_mem _ (List.mem_append_right _ (List.mem_append_left _ h))
theorem gi_dm_X15_join_0 : GoodIn ow_dm_X15_join (wsV RX15 213 RX15 yX15_access ow_dm_X15_access) := goodIn_app (goodIn_of _ (by decide +kernel)) (fun w h => ⟨List.mem_cons_of_mem _ (List.mem_append_right _ (List.mem_append_right _ (List.mem_append_left _ h))), gd_dm_X15_access w h⟩)
theorem gi_dm_X15_join_1 : GoodIn ow_dm_X15_join (wsS RX15 220 yX15_both ow_dm_X15_both) := goodIn_app (goodIn_of _ (by decide +kernel)) (fun w h => ⟨List.mem_cons_of_mem _ (List.mem_append_right _ (List.mem_append_right _ (List.mem_append_right _ (List.mem_append_left _ h)))), gd_dm_X15_both w h⟩)
theorem gi_dm_X15_join_2 : GoodIn ow_dm_X15_join (wsV RX15 191 RX15 yX15_give ow_dm_X15_give) := goodIn_app (goodIn_of _ (by decide +kernel)) (fun w h => ⟨List.mem_cons_of_mem _ (List.mem_append_right _ (List.mem_append_right _ (List.mem_append_right _ (List.mem_append_right _ (List.mem_append_left _ h))))), gd_dm_X15_give w h⟩)
theorem gi_dm_X15_join_3 : GoodIn ow_dm_X15_join (wsV RX15 217 RX15 yX15_fail ow_dm_X15_fail) := goodIn_app (goodIn_of _ (by decide +kernel)) (fun w h => ⟨List.mem_cons_of_mem _ (List.mem_append_right _ (List.mem_append_right _ (List.mem_append_right _ (List.mem_append_right _ (List.mem_append_right _ (List.mem_append_left _ h)))))), gd_dm_X15_fail w h⟩)
theorem gi_dm_X15_join_4 : GoodIn ow_dm_X15_join (wsS RX15 207 yX15_truth ow_dm_X15_truth) := goodIn_app (goodIn_of _ (by decide +kernel)) (fun w h => ⟨List.mem_cons_of_mem _ (List.mem_append_right _ (List.mem_append_right _ (List.mem_append_right _ (List.mem_append_right _ (List.mem_append_right _ (List.mem_append_right _ (List.mem_append_left _ h))))))), gd_dm_X15_truth w h⟩)
def dj_X15_join_212 (p : Program) (l : Launch) (e : Env) (s : State) (m : MethodId) (args : Array Value) (below : List Frame) (meth : Method) (c : Code) (Q : State → Prop) (A : Nat → Prop) (dC : Nat → ClassId) (dI : Nat → Nat → Nat) (a : Nat → Nat) (ac : Nat → ClassId) (g : (St × (St × (St))) → Option (St × (St × (St)))) (r : St × (St × (St))) : Prop := ∀ (s0 : St × (St × (St))) (H : Heap) (locs : List Loc) (ls : Array Slot), g s0 = some r → va_P (dC, dI) vwCl (dw_X15 a ac s0) H → va_D A (dw_X15 a ac s0) → va_S A s.heap H locs → lv_has ls 9 [] → W p l e (headSpec ow_dm_X15_join ({ frames := 4, cells := 0, slots := 0, locals := 91 })).room s m args below meth c H locs 0 0 Q (F0 m 212 ls [])
def dj_X15_join_131 (p : Program) (l : Launch) (e : Env) (s : State) (m : MethodId) (args : Array Value) (below : List Frame) (meth : Method) (c : Code) (Q : State → Prop) (A : Nat → Prop) (dC : Nat → ClassId) (dI : Nat → Nat → Nat) (a : Nat → Nat) (ac : Nat → ClassId) (g : Int32 → Int64 → (St × (St × (St))) → Option (St × (St × (St)))) (r : St × (St × (St))) : Prop := ∀ (x3 : Int32) (x6 : Int64) (s0 : St × (St × (St))) (H : Heap) (locs : List Loc) (ls : Array Slot), g x3 x6 s0 = some r → va_P (dC, dI) vwCl (dw_X15 a ac s0) H → va_D A (dw_X15 a ac s0) → va_S A s.heap H locs → lv_has ls 9 [(0, .ref (a 0)), (3, .int x3), (6, .long x6)] → W p l e (headSpec ow_dm_X15_join ({ frames := 4, cells := 0, slots := 0, locals := 91 })).room s m args below meth c H locs 0 0 Q (F0 m 131 ls [])
def dj_X15_join_200 (p : Program) (l : Launch) (e : Env) (s : State) (m : MethodId) (args : Array Value) (below : List Frame) (meth : Method) (c : Code) (Q : State → Prop) (A : Nat → Prop) (dC : Nat → ClassId) (dI : Nat → Nat → Nat) (a : Nat → Nat) (ac : Nat → ClassId) (g : Int32 → Int64 → Int64 → (St × (St × (St))) → Option (St × (St × (St)))) (r : St × (St × (St))) : Prop := ∀ (x3 : Int32) (x4 : Int64) (x6 : Int64) (s0 : St × (St × (St))) (H : Heap) (locs : List Loc) (ls : Array Slot), g x3 x4 x6 s0 = some r → va_P (dC, dI) vwCl (dw_X15 a ac s0) H → va_D A (dw_X15 a ac s0) → va_S A s.heap H locs → lv_has ls 9 [(0, .ref (a 0)), (3, .int x3), (4, .long x4), (6, .long x6)] → W p l e (headSpec ow_dm_X15_join ({ frames := 4, cells := 0, slots := 0, locals := 91 })).room s m args below meth c H locs 0 0 Q (F0 m 200 ls [])
def dj_X15_join_186 (p : Program) (l : Launch) (e : Env) (s : State) (m : MethodId) (args : Array Value) (below : List Frame) (meth : Method) (c : Code) (Q : State → Prop) (A : Nat → Prop) (dC : Nat → ClassId) (dI : Nat → Nat → Nat) (a : Nat → Nat) (ac : Nat → ClassId) (g : Int32 → Int64 → Int64 → (St × (St × (St))) → Option (St × (St × (St)))) (r : St × (St × (St))) : Prop := ∀ (x3 : Int32) (x4 : Int64) (x6 : Int64) (s0 : St × (St × (St))) (H : Heap) (locs : List Loc) (ls : Array Slot), g x3 x4 x6 s0 = some r → va_P (dC, dI) vwCl (dw_X15 a ac s0) H → va_D A (dw_X15 a ac s0) → va_S A s.heap H locs → lv_has ls 9 [(0, .ref (a 0)), (3, .int x3), (4, .long x4), (6, .long x6)] → W p l e (headSpec ow_dm_X15_join ({ frames := 4, cells := 0, slots := 0, locals := 91 })).room s m args below meth c H locs 0 0 Q (F0 m 186 ls [])
def dj_X15_join_165 (p : Program) (l : Launch) (e : Env) (s : State) (m : MethodId) (args : Array Value) (below : List Frame) (meth : Method) (c : Code) (Q : State → Prop) (A : Nat → Prop) (dC : Nat → ClassId) (dI : Nat → Nat → Nat) (a : Nat → Nat) (ac : Nat → ClassId) (g : Int32 → (St × (St × (St))) → Option (St × (St × (St)))) (r : St × (St × (St))) : Prop := ∀ (y1 : Int32) (s0 : St × (St × (St))) (H : Heap) (locs : List Loc) (ls : Array Slot), g y1 s0 = some r → va_P (dC, dI) vwCl (dw_X15 a ac s0) H → va_D A (dw_X15 a ac s0) → va_S A s.heap H locs → lv_has ls 9 [] → W p l e (headSpec ow_dm_X15_join ({ frames := 4, cells := 0, slots := 0, locals := 91 })).room s m args below meth c H locs 0 0 Q (F0 m 165 ls [.int y1, .ref (a 0)])
def dj_X15_join_85 (p : Program) (l : Launch) (e : Env) (s : State) (m : MethodId) (args : Array Value) (below : List Frame) (meth : Method) (c : Code) (Q : State → Prop) (A : Nat → Prop) (dC : Nat → ClassId) (dI : Nat → Nat → Nat) (a : Nat → Nat) (ac : Nat → ClassId) (g : Int32 → (St × (St × (St))) → Option (St × (St × (St)))) (r : St × (St × (St))) : Prop := ∀ (y1 : Int32) (s0 : St × (St × (St))) (H : Heap) (locs : List Loc) (ls : Array Slot), g y1 s0 = some r → va_P (dC, dI) vwCl (dw_X15 a ac s0) H → va_D A (dw_X15 a ac s0) → va_S A s.heap H locs → lv_has ls 9 [] → W p l e (headSpec ow_dm_X15_join ({ frames := 4, cells := 0, slots := 0, locals := 91 })).room s m args below meth c H locs 0 0 Q (F0 m 85 ls [.int y1, .ref (a 0)])
def dj_X15_join_66 (p : Program) (l : Launch) (e : Env) (s : State) (m : MethodId) (args : Array Value) (below : List Frame) (meth : Method) (c : Code) (Q : State → Prop) (A : Nat → Prop) (dC : Nat → ClassId) (dI : Nat → Nat → Nat) (a : Nat → Nat) (ac : Nat → ClassId) (g : Int32 → Int32 → Int64 → Int64 → (St × (St × (St))) → Option (St × (St × (St)))) (r : St × (St × (St))) : Prop := ∀ (x2 : Int32) (x3 : Int32) (x4 : Int64) (x6 : Int64) (s0 : St × (St × (St))) (H : Heap) (locs : List Loc) (ls : Array Slot), g x2 x3 x4 x6 s0 = some r → va_P (dC, dI) vwCl (dw_X15 a ac s0) H → va_D A (dw_X15 a ac s0) → va_S A s.heap H locs → lv_has ls 9 [(0, .ref (a 0)), (2, .int x2), (3, .int x3), (4, .long x4), (6, .long x6)] → W p l e (headSpec ow_dm_X15_join ({ frames := 4, cells := 0, slots := 0, locals := 91 })).room s m args below meth c H locs 0 0 Q (F0 m 66 ls [])
def dj_X15_join_43 (p : Program) (l : Launch) (e : Env) (s : State) (m : MethodId) (args : Array Value) (below : List Frame) (meth : Method) (c : Code) (Q : State → Prop) (A : Nat → Prop) (dC : Nat → ClassId) (dI : Nat → Nat → Nat) (a : Nat → Nat) (ac : Nat → ClassId) (g : Int32 → Int32 → Int64 → Int64 → Int32 → (St × (St × (St))) → Option (St × (St × (St)))) (r : St × (St × (St))) : Prop := ∀ (x2 : Int32) (x3 : Int32) (x4 : Int64) (x6 : Int64) (y0 : Int32) (s0 : St × (St × (St))) (H : Heap) (locs : List Loc) (ls : Array Slot), g x2 x3 x4 x6 y0 s0 = some r → va_P (dC, dI) vwCl (dw_X15 a ac s0) H → va_D A (dw_X15 a ac s0) → va_S A s.heap H locs → lv_has ls 9 [(0, .ref (a 0)), (2, .int x2), (3, .int x3), (4, .long x4), (6, .long x6)] → W p l e (headSpec ow_dm_X15_join ({ frames := 4, cells := 0, slots := 0, locals := 91 })).room s m args below meth c H locs 0 0 Q (F0 m 43 ls [.int y0])
def dj_X15_join_0 (p : Program) (l : Launch) (e : Env) (s : State) (m : MethodId) (args : Array Value) (below : List Frame) (meth : Method) (c : Code) (Q : State → Prop) (A : Nat → Prop) (dC : Nat → ClassId) (dI : Nat → Nat → Nat) (a : Nat → Nat) (ac : Nat → ClassId) (g : Int32 → (St × (St × (St))) → Option (St × (St × (St)))) (r : St × (St × (St))) : Prop := ∀ (v0 : Int32) (s0 : St × (St × (St))) (H : Heap) (locs : List Loc) (ls : Array Slot), g v0 s0 = some r → va_P (dC, dI) vwCl (dw_X15 a ac s0) H → va_D A (dw_X15 a ac s0) → va_S A s.heap H locs → lv_has ls 9 [(0, .ref (a 0)), (1, .int v0)] → W p l e (headSpec ow_dm_X15_join ({ frames := 4, cells := 0, slots := 0, locals := 91 })).room s m args below meth c H locs 0 0 Q (F0 m 0 ls [])
set_option maxHeartbeats 40000000 in
set_option maxRecDepth 100000 in
theorem db_X15_join_212 {p : Program} {l : Launch} {e : Env} {s : State} {m : MethodId} {args : Array Value} {below : List Frame} {meth : Method} {c : Code} {Q : State → Prop} {A : Nat → Prop} {dC : Nat → ClassId} {dI : Nat → Nat → Nat} {a : Nat → Nat} {ac : Nat → ClassId} {n : Nat} {r : St × (St × (St))} (C : nd_C p l s m args c A (dC, dI) cX15_join 9 RX15 ow_dm_X15_join (dk_X15 ac)) (K : nd_Kv p l e (headSpec ow_dm_X15_join ({ frames := 4, cells := 0, slots := 0, locals := 91 })).room s m args below meth c Q A (dC, dI) cX15_join (St × (St × (St))) (dw_X15 a ac) r) : dj_X15_join_212 p l e s m args below meth c Q A dC dI a ac (df_X15_join_212 n) r := by
  obtain ⟨hlt, hx, hb, hml, hown, hts, hN, hA, hK⟩ := id C
  intro s0 H locs ls h hP hD hS hl
  unfold df_X15_join_212 at h
  exact K _ _ _ _ _ dX15_join_212 (Option.some.inj h).symm hP hD hS
set_option maxHeartbeats 40000000 in
set_option maxRecDepth 100000 in
theorem db_X15_join_131 {p : Program} {l : Launch} {e : Env} {s : State} {m : MethodId} {args : Array Value} {below : List Frame} {meth : Method} {c : Code} {Q : State → Prop} {A : Nat → Prop} {dC : Nat → ClassId} {dI : Nat → Nat → Nat} {a : Nat → Nat} {ac : Nat → ClassId} {n : Nat} {r : St × (St × (St))} (C : nd_C p l s m args c A (dC, dI) cX15_join 9 RX15 ow_dm_X15_join (dk_X15 ac)) (K : nd_Kv p l e (headSpec ow_dm_X15_join ({ frames := 4, cells := 0, slots := 0, locals := 91 })).room s m args below meth c Q A (dC, dI) cX15_join (St × (St × (St))) (dw_X15 a ac) r) : dj_X15_join_131 p l e s m args below meth c Q A dC dI a ac (df_X15_join_131 n) r := by
  obtain ⟨hlt, hx, hb, hml, hown, hts, hN, hA, hK⟩ := id C
  intro x3 x6 s0 H locs ls h hP hD hS hl
  unfold df_X15_join_131 at h
  refine lv_aload_n hx hb dX15_join_131 rfl (lv_at hl 0 rfl) ?_
  refine lv_iload_n hx hb dX15_join_132 rfl (lv_at hl 1 rfl) ?_
  refine lv_lload hx hb dX15_join_133 (lv_at hl 2 rfl) ?_
  obtain ⟨s15, hq, h⟩ := nd_b1_e h
  have hPc := hP
  have hDc := hD
  have hKc := hK
  have hFc := nd_rs hD hS hA
  refine nd_cVv (As := [.int x3, .long x6]) (rest := []) (w' := dw_X15 a ac s15) ⟨hx, hb, hml, hown, hts⟩ (fun sz => dm_X15_access l hlt dC dI a ac n (x3) (x6) s0 hq sz) (cwV 2 hts gi_dm_X15_join_0 rfl rfl rfl (by decide +kernel) ⟨Nat.le_of_ble_eq_true rfl, Nat.le_of_ble_eq_true rfl⟩) hPc hDc hKc hS hA hN (va_recv hKc hPc (ci := 16) (q0 := 0) rfl rfl) rfl hl.1 rfl (Nat.le_of_ble_eq_true rfl) dX15_join_135 (fun H locs hP1 hD1 hk1 hS => ?_)
  have hP := hP1
  have hD := hD1.weaken (fun k q _ h => hFc q.1 h)
  refine lv_goto (tgt := 212) hx hb dX15_join_138 (by decide) ?_
  exact (db_X15_join_212 C K)  s15 _ _ _ h hP hD hS (lv_sub hl [] rfl)
set_option maxHeartbeats 40000000 in
set_option maxRecDepth 100000 in
theorem db_X15_join_200 {p : Program} {l : Launch} {e : Env} {s : State} {m : MethodId} {args : Array Value} {below : List Frame} {meth : Method} {c : Code} {Q : State → Prop} {A : Nat → Prop} {dC : Nat → ClassId} {dI : Nat → Nat → Nat} {a : Nat → Nat} {ac : Nat → ClassId} {n : Nat} {r : St × (St × (St))} (C : nd_C p l s m args c A (dC, dI) cX15_join 9 RX15 ow_dm_X15_join (dk_X15 ac)) (K : nd_Kv p l e (headSpec ow_dm_X15_join ({ frames := 4, cells := 0, slots := 0, locals := 91 })).room s m args below meth c Q A (dC, dI) cX15_join (St × (St × (St))) (dw_X15 a ac) r) : dj_X15_join_200 p l e s m args below meth c Q A dC dI a ac (df_X15_join_200 n) r := by
  obtain ⟨hlt, hx, hb, hml, hown, hts, hN, hA, hK⟩ := id C
  intro x3 x4 x6 s0 H locs ls h hP hD hS hl
  unfold df_X15_join_200 at h
  refine lv_aload_n hx hb dX15_join_200 rfl (lv_at hl 0 rfl) ?_
  refine lv_iload_n hx hb dX15_join_201 rfl (lv_at hl 1 rfl) ?_
  refine lv_lload hx hb dX15_join_202 (lv_at hl 2 rfl) ?_
  refine lv_lload hx hb dX15_join_204 (lv_at hl 3 rfl) ?_
  obtain ⟨q22, s23, hq, h⟩ := nd_b2_e h
  have hPc : va_P (dC, dI) vwCl (dw_P a ac ()) H := nd_p0
  have hDc : va_D A (dw_P a ac ()) := nd_d0
  have hKc : va_K (dC, dI) vwCl (dk_P ac) s := nd_y0 hK
  have hFc : ∀ q, va_A (dw_P a ac ()) H.size q → A q := nd_r0 hS hA
  refine nd_cSl (As := [.int x3, .long x4, .long x6]) (rest := [.ref (a 0)]) (q := q22) (w' := dw_P a ac s23) ⟨hx, hb, hml, hown, hts⟩ (fun sz => dm_X15_both l hlt dC dI a ac n (x3) (x4) (x6) () hq sz) (cwS 3 hts gi_dm_X15_join_1 rfl rfl rfl (by decide +kernel) ⟨Nat.le_of_ble_eq_true rfl, Nat.le_of_ble_eq_true rfl⟩) hPc hDc hKc hS hA hN rfl hl.1 rfl (Nat.le_of_ble_eq_true rfl) dX15_join_206 (fun H locs hP1 hD1 hk1 hS => ?_)
  have hP := nd_n0 hP hk1
  obtain ⟨s26, hq, h⟩ := nd_b1_e h
  have hPc := hP
  have hDc := hD
  have hKc := hK
  have hFc := nd_rs hD hS hA
  refine nd_cVv (As := [.long q22]) (rest := []) (w' := dw_X15 a ac s26) ⟨hx, hb, hml, hown, hts⟩ (fun sz => dm_X15_give l hlt dC dI a ac n (q22) s0 hq sz) (cwV 1 hts gi_dm_X15_join_2 rfl rfl rfl (by decide +kernel) ⟨Nat.le_of_ble_eq_true rfl, Nat.le_of_ble_eq_true rfl⟩) hPc hDc hKc hS hA hN (va_recv hKc hPc (ci := 16) (q0 := 0) rfl rfl) rfl hl.1 rfl (Nat.le_of_ble_eq_true rfl) dX15_join_209 (fun H locs hP1 hD1 hk1 hS => ?_)
  have hP := hP1
  have hD := hD1.weaken (fun k q _ h => hFc q.1 h)
  exact (db_X15_join_212 C K)  s26 _ _ _ h hP hD hS (lv_sub hl [] rfl)
set_option maxHeartbeats 40000000 in
set_option maxRecDepth 100000 in
theorem db_X15_join_186 {p : Program} {l : Launch} {e : Env} {s : State} {m : MethodId} {args : Array Value} {below : List Frame} {meth : Method} {c : Code} {Q : State → Prop} {A : Nat → Prop} {dC : Nat → ClassId} {dI : Nat → Nat → Nat} {a : Nat → Nat} {ac : Nat → ClassId} {n : Nat} {r : St × (St × (St))} (C : nd_C p l s m args c A (dC, dI) cX15_join 9 RX15 ow_dm_X15_join (dk_X15 ac)) (K : nd_Kv p l e (headSpec ow_dm_X15_join ({ frames := 4, cells := 0, slots := 0, locals := 91 })).room s m args below meth c Q A (dC, dI) cX15_join (St × (St × (St))) (dw_X15 a ac) r) : dj_X15_join_186 p l e s m args below meth c Q A dC dI a ac (df_X15_join_186 n) r := by
  obtain ⟨hlt, hx, hb, hml, hown, hts, hN, hA, hK⟩ := id C
  intro x3 x4 x6 s0 H locs ls h hP hD hS hl
  unfold df_X15_join_186 at h
  refine lv_lload hx hb dX15_join_186 (lv_at hl 3 rfl) ?_
  refine lv_lconst (v := 0) hx hb dX15_join_188 (by decide) ?_
  refine W.lcmp hx hb dX15_join_189 ?_
  refine lv_if_ne (tgt := 200) hx hb dX15_join_190 (by decide) (fun c21 => ?_) (fun c21 => ?_)
  · have h := nd_neg h c21
    exact (db_X15_join_200 C K) (x3) (x4) (x6) s0 _ _ _ h hP hD hS (lv_sub hl [0, 1, 2, 3] rfl)
  · have h := nd_pos h c21
    refine lv_aload_n hx hb dX15_join_193 rfl (lv_at hl 0 rfl) ?_
    obtain ⟨s29, hq, h⟩ := nd_b1_e h
    have hPc := hP
    have hDc := hD
    have hKc := hK
    have hFc := nd_rs hD hS hA
    refine nd_cVv (As := []) (rest := []) (w' := dw_X15 a ac s29) ⟨hx, hb, hml, hown, hts⟩ (fun sz => dm_X15_fail l hlt dC dI a ac n  s0 hq sz) (cwV 0 hts gi_dm_X15_join_3 rfl rfl rfl (by decide +kernel) ⟨Nat.le_of_ble_eq_true rfl, Nat.le_of_ble_eq_true rfl⟩) hPc hDc hKc hS hA hN (va_recv hKc hPc (ci := 16) (q0 := 0) rfl rfl) rfl hl.1 rfl (Nat.le_of_ble_eq_true rfl) dX15_join_194 (fun H locs hP1 hD1 hk1 hS => ?_)
    have hP := hP1
    have hD := hD1.weaken (fun k q _ h => hFc q.1 h)
    refine lv_goto (tgt := 212) hx hb dX15_join_197 (by decide) ?_
    exact (db_X15_join_212 C K)  s29 _ _ _ h hP hD hS (lv_sub hl [] rfl)
set_option maxHeartbeats 40000000 in
set_option maxRecDepth 100000 in
theorem db_X15_join_165 {p : Program} {l : Launch} {e : Env} {s : State} {m : MethodId} {args : Array Value} {below : List Frame} {meth : Method} {c : Code} {Q : State → Prop} {A : Nat → Prop} {dC : Nat → ClassId} {dI : Nat → Nat → Nat} {a : Nat → Nat} {ac : Nat → ClassId} {n : Nat} {r : St × (St × (St))} (C : nd_C p l s m args c A (dC, dI) cX15_join 9 RX15 ow_dm_X15_join (dk_X15 ac)) (K : nd_Kv p l e (headSpec ow_dm_X15_join ({ frames := 4, cells := 0, slots := 0, locals := 91 })).room s m args below meth c Q A (dC, dI) cX15_join (St × (St × (St))) (dw_X15 a ac) r) : dj_X15_join_165 p l e s m args below meth c Q A dC dI a ac (df_X15_join_165 n) r := by
  obtain ⟨hlt, hx, hb, hml, hown, hts, hN, hA, hK⟩ := id C
  intro y1 s0 H locs ls h hP hD hS hl
  unfold df_X15_join_165 at h
  obtain ⟨q34, s35, hq, h⟩ := nd_b2_e h
  have hPc : va_P (dC, dI) vwCl (dw_P a ac ()) H := nd_p0
  have hDc : va_D A (dw_P a ac ()) := nd_d0
  have hKc : va_K (dC, dI) vwCl (dk_P ac) s := nd_y0 hK
  have hFc : ∀ q, va_A (dw_P a ac ()) H.size q → A q := nd_r0 hS hA
  refine nd_cSl (As := [.int y1]) (rest := [.ref (a 0)]) (q := q34) (w' := dw_P a ac s35) ⟨hx, hb, hml, hown, hts⟩ (fun sz => dm_X15_truth l hlt dC dI a ac n (y1) () hq sz) (cwS 1 hts gi_dm_X15_join_4 rfl rfl rfl (by decide +kernel) ⟨Nat.le_of_ble_eq_true rfl, Nat.le_of_ble_eq_true rfl⟩) hPc hDc hKc hS hA hN rfl hl.1 rfl (Nat.le_of_ble_eq_true rfl) dX15_join_165 (fun H locs hP1 hD1 hk1 hS => ?_)
  have hP := nd_n0 hP hk1
  obtain ⟨s38, hq, h⟩ := nd_b1_e h
  have hPc := hP
  have hDc := hD
  have hKc := hK
  have hFc := nd_rs hD hS hA
  refine nd_cVv (As := [.long q34]) (rest := []) (w' := dw_X15 a ac s38) ⟨hx, hb, hml, hown, hts⟩ (fun sz => dm_X15_give l hlt dC dI a ac n (q34) s0 hq sz) (cwV 1 hts gi_dm_X15_join_2 rfl rfl rfl (by decide +kernel) ⟨Nat.le_of_ble_eq_true rfl, Nat.le_of_ble_eq_true rfl⟩) hPc hDc hKc hS hA hN (va_recv hKc hPc (ci := 16) (q0 := 0) rfl rfl) rfl hl.1 rfl (Nat.le_of_ble_eq_true rfl) dX15_join_168 (fun H locs hP1 hD1 hk1 hS => ?_)
  have hP := hP1
  have hD := hD1.weaken (fun k q _ h => hFc q.1 h)
  refine lv_goto (tgt := 212) hx hb dX15_join_171 (by decide) ?_
  exact (db_X15_join_212 C K)  s38 _ _ _ h hP hD hS (lv_sub hl [] rfl)
set_option maxHeartbeats 40000000 in
set_option maxRecDepth 100000 in
theorem db_X15_join_85 {p : Program} {l : Launch} {e : Env} {s : State} {m : MethodId} {args : Array Value} {below : List Frame} {meth : Method} {c : Code} {Q : State → Prop} {A : Nat → Prop} {dC : Nat → ClassId} {dI : Nat → Nat → Nat} {a : Nat → Nat} {ac : Nat → ClassId} {n : Nat} {r : St × (St × (St))} (C : nd_C p l s m args c A (dC, dI) cX15_join 9 RX15 ow_dm_X15_join (dk_X15 ac)) (K : nd_Kv p l e (headSpec ow_dm_X15_join ({ frames := 4, cells := 0, slots := 0, locals := 91 })).room s m args below meth c Q A (dC, dI) cX15_join (St × (St × (St))) (dw_X15 a ac) r) : dj_X15_join_85 p l e s m args below meth c Q A dC dI a ac (df_X15_join_85 n) r := by
  obtain ⟨hlt, hx, hb, hml, hown, hts, hN, hA, hK⟩ := id C
  intro y1 s0 H locs ls h hP hD hS hl
  unfold df_X15_join_85 at h
  obtain ⟨q44, s45, hq, h⟩ := nd_b2_e h
  have hPc : va_P (dC, dI) vwCl (dw_P a ac ()) H := nd_p0
  have hDc : va_D A (dw_P a ac ()) := nd_d0
  have hKc : va_K (dC, dI) vwCl (dk_P ac) s := nd_y0 hK
  have hFc : ∀ q, va_A (dw_P a ac ()) H.size q → A q := nd_r0 hS hA
  refine nd_cSl (As := [.int y1]) (rest := [.ref (a 0)]) (q := q44) (w' := dw_P a ac s45) ⟨hx, hb, hml, hown, hts⟩ (fun sz => dm_X15_truth l hlt dC dI a ac n (y1) () hq sz) (cwS 1 hts gi_dm_X15_join_4 rfl rfl rfl (by decide +kernel) ⟨Nat.le_of_ble_eq_true rfl, Nat.le_of_ble_eq_true rfl⟩) hPc hDc hKc hS hA hN rfl hl.1 rfl (Nat.le_of_ble_eq_true rfl) dX15_join_85 (fun H locs hP1 hD1 hk1 hS => ?_)
  have hP := nd_n0 hP hk1
  obtain ⟨s48, hq, h⟩ := nd_b1_e h
  have hPc := hP
  have hDc := hD
  have hKc := hK
  have hFc := nd_rs hD hS hA
  refine nd_cVv (As := [.long q44]) (rest := []) (w' := dw_X15 a ac s48) ⟨hx, hb, hml, hown, hts⟩ (fun sz => dm_X15_give l hlt dC dI a ac n (q44) s0 hq sz) (cwV 1 hts gi_dm_X15_join_2 rfl rfl rfl (by decide +kernel) ⟨Nat.le_of_ble_eq_true rfl, Nat.le_of_ble_eq_true rfl⟩) hPc hDc hKc hS hA hN (va_recv hKc hPc (ci := 16) (q0 := 0) rfl rfl) rfl hl.1 rfl (Nat.le_of_ble_eq_true rfl) dX15_join_88 (fun H locs hP1 hD1 hk1 hS => ?_)
  have hP := hP1
  have hD := hD1.weaken (fun k q _ h => hFc q.1 h)
  refine lv_goto (tgt := 212) hx hb dX15_join_91 (by decide) ?_
  exact (db_X15_join_212 C K)  s48 _ _ _ h hP hD hS (lv_sub hl [] rfl)
set_option maxHeartbeats 40000000 in
set_option maxRecDepth 100000 in
theorem db_X15_join_66 {p : Program} {l : Launch} {e : Env} {s : State} {m : MethodId} {args : Array Value} {below : List Frame} {meth : Method} {c : Code} {Q : State → Prop} {A : Nat → Prop} {dC : Nat → ClassId} {dI : Nat → Nat → Nat} {a : Nat → Nat} {ac : Nat → ClassId} {n : Nat} {r : St × (St × (St))} (C : nd_C p l s m args c A (dC, dI) cX15_join 9 RX15 ow_dm_X15_join (dk_X15 ac)) (K : nd_Kv p l e (headSpec ow_dm_X15_join ({ frames := 4, cells := 0, slots := 0, locals := 91 })).room s m args below meth c Q A (dC, dI) cX15_join (St × (St × (St))) (dw_X15 a ac) r) : dj_X15_join_66 p l e s m args below meth c Q A dC dI a ac (df_X15_join_66 n) r := by
  obtain ⟨hlt, hx, hb, hml, hown, hts, hN, hA, hK⟩ := id C
  intro x2 x3 x4 x6 s0 H locs ls h hP hD hS hl
  unfold df_X15_join_66 at h
  refine lv_iload_n hx hb dX15_join_66 rfl (lv_at hl 2 rfl) ?_
  refine lv_bipush (v := 28) hx hb dX15_join_67 (by decide) ?_
  refine lv_icmp_ne (tgt := 94) hx hb dX15_join_69 (by decide) (fun c11 => ?_) (fun c11 => ?_)
  · have h := nd_neg h c11
    refine lv_iload_n hx hb dX15_join_94 rfl (lv_at hl 2 rfl) ?_
    refine lv_bipush (v := 29) hx hb dX15_join_95 (by decide) ?_
    refine lv_icmp_ne (tgt := 113) hx hb dX15_join_97 (by decide) (fun c12 => ?_) (fun c12 => ?_)
    · have h := nd_neg h c12
      refine lv_iload_n hx hb dX15_join_113 rfl (lv_at hl 2 rfl) ?_
      refine lv_bipush (v := 32) hx hb dX15_join_114 (by decide) ?_
      refine lv_icmp_eq (tgt := 131) hx hb dX15_join_116 (by decide) (fun c13 => ?_) (fun c13 => ?_)
      · have h := nd_pos h c13
        exact (db_X15_join_131 C K) (x3) (x6) s0 _ _ _ h hP hD hS (lv_sub hl [0, 2, 4] rfl)
      · have h := nd_neg h c13
        refine lv_iload_n hx hb dX15_join_119 rfl (lv_at hl 2 rfl) ?_
        refine lv_bipush (v := 6) hx hb dX15_join_120 (by decide) ?_
        refine lv_icmp_eq (tgt := 131) hx hb dX15_join_122 (by decide) (fun c17 => ?_) (fun c17 => ?_)
        · have h := nd_pos h c17
          exact (db_X15_join_131 C K) (x3) (x6) s0 _ _ _ h hP hD hS (lv_sub hl [0, 2, 4] rfl)
        · have h := nd_neg h c17
          refine lv_iload_n hx hb dX15_join_125 rfl (lv_at hl 2 rfl) ?_
          refine lv_bipush (v := 7) hx hb dX15_join_126 (by decide) ?_
          refine lv_icmp_ne (tgt := 141) hx hb dX15_join_128 (by decide) (fun c18 => ?_) (fun c18 => ?_)
          · have h := nd_neg h c18
            refine lv_iload_n hx hb dX15_join_141 rfl (lv_at hl 2 rfl) ?_
            refine lv_bipush (v := 9) hx hb dX15_join_142 (by decide) ?_
            refine lv_icmp_ne (tgt := 174) hx hb dX15_join_144 (by decide) (fun c19 => ?_) (fun c19 => ?_)
            · have h := nd_neg h c19
              refine lv_iload_n hx hb dX15_join_174 rfl (lv_at hl 2 rfl) ?_
              refine lv_bipush (v := 26) hx hb dX15_join_175 (by decide) ?_
              refine lv_icmp_eq (tgt := 186) hx hb dX15_join_177 (by decide) (fun c20 => ?_) (fun c20 => ?_)
              · have h := nd_pos h c20
                exact (db_X15_join_186 C K) (x3) (x4) (x6) s0 _ _ _ h hP hD hS (lv_sub hl [0, 2, 3, 4] rfl)
              · have h := nd_neg h c20
                refine lv_iload_n hx hb dX15_join_180 rfl (lv_at hl 2 rfl) ?_
                refine lv_bipush (v := 27) hx hb dX15_join_181 (by decide) ?_
                refine lv_icmp_ne (tgt := 200) hx hb dX15_join_183 (by decide) (fun c31 => ?_) (fun c31 => ?_)
                · have h := nd_neg h c31
                  exact (db_X15_join_200 C K) (x3) (x4) (x6) s0 _ _ _ h hP hD hS (lv_sub hl [0, 2, 3, 4] rfl)
                · have h := nd_pos h c31
                  exact (db_X15_join_186 C K) (x3) (x4) (x6) s0 _ _ _ h hP hD hS (lv_sub hl [0, 2, 3, 4] rfl)
            · have h := nd_pos h c19
              refine lv_aload_n hx hb dX15_join_147 rfl (lv_at hl 0 rfl) ?_
              refine lv_lload hx hb dX15_join_148 (lv_at hl 4 rfl) ?_
              refine lv_aload_n hx hb dX15_join_150 rfl (lv_at hl 0 rfl) ?_
              refine va_get (D := (dC, dI)) (ci := 16) (v := .ref (a 7)) (C := RX15) (T := TX15) (N := 28) hx hb hts hi_dm_X15_join_X15 hown hK hP 0 rfl rfl 8 (by decide) (hts (.fieldLink RX15 31 "TimeMachineModel$Conditions" "before" "[J") (List.mem_of_getElem? (i := 18) rfl)) (fun _ h9 => h9) rfl dX15_join_151 ?_
              refine lv_iload_n hx hb dX15_join_154 rfl (lv_at hl 1 rfl) ?_
              obtain ⟨i32, h⟩ := nd_ck_e h
              refine va_lald (i := x2) hx hb hK hP 7 6 rfl rfl i32 dX15_join_155 ?_
              refine W.lcmp hx hb dX15_join_156 ?_
              refine lv_if_eq (tgt := 164) hx hb dX15_join_157 (by decide) (fun c33 => ?_) (fun c33 => ?_)
              · have h := nd_pos h c33
                refine lv_iconst (v := 0) hx hb dX15_join_164 (by decide) ?_
                exact (db_X15_join_165 C K) (0) s0 _ _ _ h hP hD hS (lv_sub hl [] rfl)
              · have h := nd_neg h c33
                refine lv_iconst (v := 1) hx hb dX15_join_160 (by decide) ?_
                refine lv_goto (tgt := 165) hx hb dX15_join_161 (by decide) ?_
                exact (db_X15_join_165 C K) (1) s0 _ _ _ h hP hD hS (lv_sub hl [] rfl)
          · have h := nd_pos h c18
            exact (db_X15_join_131 C K) (x3) (x6) s0 _ _ _ h hP hD hS (lv_sub hl [0, 2, 4] rfl)
    · have h := nd_pos h c12
      refine lv_aload_n hx hb dX15_join_100 rfl (lv_at hl 0 rfl) ?_
      refine lv_lload hx hb dX15_join_101 (lv_at hl 4 rfl) ?_
      refine lv_ldc2 hx hb hown (hts (.constantLong RX15 211 (-1)) (List.mem_of_getElem? (i := 21) rfl)) dX15_join_103 ?_
      refine lv_lxor hx hb dX15_join_106 ?_
      obtain ⟨s41, hq, h⟩ := nd_b1_e h
      have hPc := hP
      have hDc := hD
      have hKc := hK
      have hFc := nd_rs hD hS hA
      refine nd_cVv (As := [.long ((x6 : Int64) ^^^ (-1))]) (rest := []) (w' := dw_X15 a ac s41) ⟨hx, hb, hml, hown, hts⟩ (fun sz => dm_X15_give l hlt dC dI a ac n (((x6 : Int64) ^^^ (-1))) s0 hq sz) (cwV 1 hts gi_dm_X15_join_2 rfl rfl rfl (by decide +kernel) ⟨Nat.le_of_ble_eq_true rfl, Nat.le_of_ble_eq_true rfl⟩) hPc hDc hKc hS hA hN (va_recv hKc hPc (ci := 16) (q0 := 0) rfl rfl) rfl hl.1 rfl (Nat.le_of_ble_eq_true rfl) dX15_join_107 (fun H locs hP1 hD1 hk1 hS => ?_)
      have hP := hP1
      have hD := hD1.weaken (fun k q _ h => hFc q.1 h)
      refine lv_goto (tgt := 212) hx hb dX15_join_110 (by decide) ?_
      exact (db_X15_join_212 C K)  s41 _ _ _ h hP hD hS (lv_sub hl [] rfl)
  · have h := nd_pos h c11
    refine lv_aload_n hx hb dX15_join_72 rfl (lv_at hl 0 rfl) ?_
    refine lv_lload hx hb dX15_join_73 (lv_at hl 4 rfl) ?_
    refine lv_lconst (v := 0) hx hb dX15_join_75 (by decide) ?_
    refine W.lcmp hx hb dX15_join_76 ?_
    refine lv_if_ne (tgt := 84) hx hb dX15_join_77 (by decide) (fun c43 => ?_) (fun c43 => ?_)
    · have h := nd_neg h c43
      refine lv_iconst (v := 0) hx hb dX15_join_84 (by decide) ?_
      exact (db_X15_join_85 C K) (0) s0 _ _ _ h hP hD hS (lv_sub hl [] rfl)
    · have h := nd_pos h c43
      refine lv_iconst (v := 1) hx hb dX15_join_80 (by decide) ?_
      refine lv_goto (tgt := 85) hx hb dX15_join_81 (by decide) ?_
      exact (db_X15_join_85 C K) (1) s0 _ _ _ h hP hD hS (lv_sub hl [] rfl)
set_option maxHeartbeats 40000000 in
set_option maxRecDepth 100000 in
theorem db_X15_join_43 {p : Program} {l : Launch} {e : Env} {s : State} {m : MethodId} {args : Array Value} {below : List Frame} {meth : Method} {c : Code} {Q : State → Prop} {A : Nat → Prop} {dC : Nat → ClassId} {dI : Nat → Nat → Nat} {a : Nat → Nat} {ac : Nat → ClassId} {n : Nat} {r : St × (St × (St))} (C : nd_C p l s m args c A (dC, dI) cX15_join 9 RX15 ow_dm_X15_join (dk_X15 ac)) (K : nd_Kv p l e (headSpec ow_dm_X15_join ({ frames := 4, cells := 0, slots := 0, locals := 91 })).room s m args below meth c Q A (dC, dI) cX15_join (St × (St × (St))) (dw_X15 a ac) r) : dj_X15_join_43 p l e s m args below meth c Q A dC dI a ac (df_X15_join_43 n) r := by
  obtain ⟨hlt, hx, hb, hml, hown, hts, hN, hA, hK⟩ := id C
  intro x2 x3 x4 x6 y0 s0 H locs ls h hP hD hS hl
  unfold df_X15_join_43 at h
  refine lv_istore (lv' := [(8, .int y0), (0, .ref (a 0)), (2, .int x2), (3, .int x3), (4, .long x4), (6, .long x6)]) hx hb dX15_join_43 hl (by decide) rfl (fun ls hl => ?_)
  refine lv_iload hx hb dX15_join_45 (lv_at hl 0 rfl) ?_
  refine lv_if_eq (tgt := 66) hx hb dX15_join_47 (by decide) (fun c10 => ?_) (fun c10 => ?_)
  · have h := nd_pos h c10
    exact (db_X15_join_66 C K) (x2) (x3) (x4) (x6) s0 _ _ _ h hP hD hS (lv_sub hl [1, 2, 3, 4, 5] rfl)
  · have h := nd_neg h c10
    refine lv_iload_n hx hb dX15_join_50 rfl (lv_at hl 3 rfl) ?_
    refine lv_bipush (v := 24) hx hb dX15_join_51 (by decide) ?_
    refine lv_icmp_ne (tgt := 66) hx hb dX15_join_53 (by decide) (fun c50 => ?_) (fun c50 => ?_)
    · have h := nd_neg h c50
      exact (db_X15_join_66 C K) (x2) (x3) (x4) (x6) s0 _ _ _ h hP hD hS (lv_sub hl [1, 2, 3, 4, 5] rfl)
    · have h := nd_pos h c50
      refine lv_aload_n hx hb dX15_join_56 rfl (lv_at hl 1 rfl) ?_
      refine lv_lload hx hb dX15_join_57 (lv_at hl 5 rfl) ?_
      refine lv_lneg hx hb dX15_join_59 ?_
      obtain ⟨s52, hq, h⟩ := nd_b1_e h
      have hPc := hP
      have hDc := hD
      have hKc := hK
      have hFc := nd_rs hD hS hA
      refine nd_cVv (As := [.long (-(x6 : Int64))]) (rest := []) (w' := dw_X15 a ac s52) ⟨hx, hb, hml, hown, hts⟩ (fun sz => dm_X15_give l hlt dC dI a ac n ((-(x6 : Int64))) s0 hq sz) (cwV 1 hts gi_dm_X15_join_2 rfl rfl rfl (by decide +kernel) ⟨Nat.le_of_ble_eq_true rfl, Nat.le_of_ble_eq_true rfl⟩) hPc hDc hKc hS hA hN (va_recv hKc hPc (ci := 16) (q0 := 0) rfl rfl) rfl hl.1 rfl (Nat.le_of_ble_eq_true rfl) dX15_join_60 (fun H locs hP1 hD1 hk1 hS => ?_)
      have hP := hP1
      have hD := hD1.weaken (fun k q _ h => hFc q.1 h)
      refine lv_goto (tgt := 212) hx hb dX15_join_63 (by decide) ?_
      exact (db_X15_join_212 C K)  s52 _ _ _ h hP hD hS (lv_sub hl [] rfl)
set_option maxHeartbeats 40000000 in
set_option maxRecDepth 100000 in
theorem db_X15_join_0 {p : Program} {l : Launch} {e : Env} {s : State} {m : MethodId} {args : Array Value} {below : List Frame} {meth : Method} {c : Code} {Q : State → Prop} {A : Nat → Prop} {dC : Nat → ClassId} {dI : Nat → Nat → Nat} {a : Nat → Nat} {ac : Nat → ClassId} {n : Nat} {r : St × (St × (St))} (C : nd_C p l s m args c A (dC, dI) cX15_join 9 RX15 ow_dm_X15_join (dk_X15 ac)) (K : nd_Kv p l e (headSpec ow_dm_X15_join ({ frames := 4, cells := 0, slots := 0, locals := 91 })).room s m args below meth c Q A (dC, dI) cX15_join (St × (St × (St))) (dw_X15 a ac) r) : dj_X15_join_0 p l e s m args below meth c Q A dC dI a ac (df_X15_join_0 n) r := by
  obtain ⟨hlt, hx, hb, hml, hown, hts, hN, hA, hK⟩ := id C
  intro v0 s0 H locs ls h hP hD hS hl
  unfold df_X15_join_0 at h
  refine lv_aload_n hx hb dX15_join_0 rfl (lv_at hl 0 rfl) ?_
  refine va_get (D := (dC, dI)) (ci := 16) (v := .ref (a 14)) (C := RX15) (T := TX15) (N := 28) hx hb hts hi_dm_X15_join_X15 hown hK hP 0 rfl rfl 25 (by decide) (hts (.fieldLink RX15 52 "TimeMachineModel$Conditions" "sign" "[I") (List.mem_of_getElem? (i := 1) rfl)) (fun _ h9 => h9) rfl dX15_join_1 ?_
  refine lv_iload_n hx hb dX15_join_4 rfl (lv_at hl 1 rfl) ?_
  obtain ⟨i1, h⟩ := nd_ck_e h
  refine va_iald (i := v0) hx hb hK hP 14 13 rfl rfl i1 dX15_join_5 ?_
  refine lv_topi (fun z2 ez2 => ?_)
  have h := nd_at h ez2
  refine lv_istore_n (lv' := [(2, .int z2), (0, .ref (a 0)), (1, .int v0)]) hx hb dX15_join_6 rfl hl (by decide) rfl (fun ls hl => ?_)
  refine lv_aload_n hx hb dX15_join_7 rfl (lv_at hl 1 rfl) ?_
  refine va_get (D := (dC, dI)) (ci := 16) (v := .ref (a 4)) (C := RX15) (T := TX15) (N := 28) hx hb hts hi_dm_X15_join_X15 hown hK hP 0 rfl rfl 5 (by decide) (hts (.fieldLink RX15 21 "TimeMachineModel$Conditions" "kind" "[I") (List.mem_of_getElem? (i := 2) rfl)) (fun _ h9 => h9) rfl dX15_join_8 ?_
  refine lv_iload_n hx hb dX15_join_11 rfl (lv_at hl 0 rfl) ?_
  obtain ⟨i3, h⟩ := nd_ck_e h
  refine va_iald (i := z2) hx hb hK hP 4 3 rfl rfl i3 dX15_join_12 ?_
  refine lv_topi (fun z4 ez4 => ?_)
  have h := nd_at h ez4
  refine lv_istore_n (lv' := [(3, .int z4), (2, .int z2), (0, .ref (a 0)), (1, .int v0)]) hx hb dX15_join_13 rfl hl (by decide) rfl (fun ls hl => ?_)
  refine lv_aload_n hx hb dX15_join_14 rfl (lv_at hl 2 rfl) ?_
  refine va_get (D := (dC, dI)) (ci := 16) (v := .ref (a 16)) (C := RX15) (T := TX15) (N := 28) hx hb hts hi_dm_X15_join_X15 hown hK hP 0 rfl rfl 27 (by decide) (hts (.fieldLink RX15 58 "TimeMachineModel$Conditions" "left" "[J") (List.mem_of_getElem? (i := 3) rfl)) (fun _ h9 => h9) rfl dX15_join_15 ?_
  refine lv_iload_n hx hb dX15_join_18 rfl (lv_at hl 3 rfl) ?_
  obtain ⟨i5, h⟩ := nd_ck_e h
  refine va_lald (i := v0) hx hb hK hP 16 15 rfl rfl i5 dX15_join_19 ?_
  refine lv_topl (fun z6 ez6 => ?_)
  have h := nd_at h ez6
  refine lv_lstore (lv' := [(4, .long z6), (3, .int z4), (2, .int z2), (0, .ref (a 0)), (1, .int v0)]) hx hb dX15_join_20 hl (by decide) rfl (fun ls hl => ?_)
  refine lv_aload_n hx hb dX15_join_22 rfl (lv_at hl 3 rfl) ?_
  refine va_get (D := (dC, dI)) (ci := 16) (v := .long (sL s0.1 1)) (C := RX15) (T := TX15) (N := 28) hx hb hts hi_dm_X15_join_X15 hown hK hP 0 rfl rfl 22 (by decide) (hts (.fieldLink RX15 167 "TimeMachineModel$Conditions" "result" "J") (List.mem_of_getElem? (i := 4) rfl)) (fun _ h9 => h9) rfl dX15_join_23 ?_
  refine lv_topl (fun z7 ez7 => ?_)
  have h := nd_at h ez7
  refine lv_lstore (lv' := [(6, .long z7), (4, .long z6), (3, .int z4), (2, .int z2), (0, .ref (a 0)), (1, .int v0)]) hx hb dX15_join_26 hl (by decide) rfl (fun ls hl => ?_)
  refine lv_iload_n hx hb dX15_join_28 rfl (lv_at hl 3 rfl) ?_
  refine lv_aload_n hx hb dX15_join_29 rfl (lv_at hl 4 rfl) ?_
  refine va_get (D := (dC, dI)) (ci := 16) (v := .ref (a 12)) (C := RX15) (T := TX15) (N := 28) hx hb hts hi_dm_X15_join_X15 hown hK hP 0 rfl rfl 23 (by decide) (hts (.fieldLink RX15 46 "TimeMachineModel$Conditions" "first" "[I") (List.mem_of_getElem? (i := 5) rfl)) (fun _ h9 => h9) rfl dX15_join_30 ?_
  refine lv_iload_n hx hb dX15_join_33 rfl (lv_at hl 5 rfl) ?_
  obtain ⟨i8, h⟩ := nd_ck_e h
  refine va_iald (i := v0) hx hb hK hP 12 11 rfl rfl i8 dX15_join_34 ?_
  refine lv_icmp_ne (tgt := 42) hx hb dX15_join_35 (by decide) (fun c9 => ?_) (fun c9 => ?_)
  · have h := nd_neg h c9
    refine lv_iconst (v := 0) hx hb dX15_join_42 (by decide) ?_
    exact (db_X15_join_43 C K) (z2) (z4) (z6) (z7) (0) s0 _ _ _ h hP hD hS (lv_sub hl [4, 3, 2, 1, 0] rfl)
  · have h := nd_pos h c9
    refine lv_iconst (v := 1) hx hb dX15_join_38 (by decide) ?_
    refine lv_goto (tgt := 43) hx hb dX15_join_39 (by decide) ?_
    exact (db_X15_join_43 C K) (z2) (z4) (z6) (z7) (1) s0 _ _ _ h hP hD hS (lv_sub hl [4, 3, 2, 1, 0] rfl)
set_option maxHeartbeats 40000000 in
set_option maxRecDepth 100000 in
theorem dm_X15_join (l : Launch) (hlt : l.stackTraces = false) (dC : Nat → ClassId) (dI : Nat → Nat → Nat) (a : Nat → Nat) (ac : Nat → ClassId) (n : Nat) (v0 : Int32) (s0 : St × (St × (St))) {r : St × (St × (St))} (h : df_X15_join n v0 s0 = some r) (sz : Nat) : Met l yX15_join ow_dm_X15_join ({ frames := 4, cells := 0, slots := 0, locals := 91 }) (va_Pc [.ref (a 0), .int v0] (fun U => U.heap.size = sz ∧ va_P (dC, dI) vwCl (dw_X15 a ac s0) U.heap ∧ va_K (dC, dI) vwCl (dk_X15 ac) U ∧ va_D (fun _ => True) (dw_X15 a ac s0) ∧ nv_E dI (va_A (dw_X15 a ac s0) sz) U)) (va_Qv (fun _ => True) (fun (_ : Unit) t => va_P (dC, dI) vwCl (dw_X15 a ac r) t.heap ∧ va_K (dC, dI) vwCl (dk_X15 ac) t ∧ va_D (va_A (dw_X15 a ac s0) sz) (dw_X15 a ac r)) (va_A (dw_X15 a ac s0) sz)) 0 0 (va_A (dw_X15 a ac s0) sz) := by
  refine Met.ofW (cc := cX15_join) (maxL := 9) (ret := none) (by decide) rfl ?_
  intro p e s m args below meth c s₁ B hml hv
  obtain ⟨rfl, hsz, hP, hK, hD0, hN⟩ := hv
  have hx := B.exec
  have hb := B.bytes
  have hr := B.returns
  have hts := atoms_spec (ws := ow_dm_X15_join) B.pre
  have hown : s.vm.findClass RX15 = some m.cls := findClass_of_methodNamed B.named
  have hlocks := B.notSynchronized
  subst hsz
  have hD := hD0.self (sz := s.heap.size)
  generalize hAe : va_A (dw_X15 a ac s0) s.heap.size = A at hD hN ⊢
  have hA : ∀ q : Nat, s.heap.size ≤ q → A q := fun q h => by rw [← hAe]; exact Or.inr h
  have hl := lv_entry ([.ref (a 0), .int v0]) (n := 9) (Nat.le_of_ble_eq_true rfl)
  rw [lg_entry_eq]
  generalize (lg_sl ([.ref (a 0), .int v0]) ++ List.replicate (9 - (lg_sl ([.ref (a 0), .int v0])).length) Slot.unset).toArray = ls at hl ⊢
  have hl : lv_has ls 9 [(0, .ref (a 0)), (1, .int v0)] := hl
  exact db_X15_join_0 (dC := dC) (dI := dI) (a := a) (ac := ac) (n := n) (r := r) ⟨hlt, hx, hb, hml, hown, hts, hN, hA, hK⟩ (fun pc τ H locs ls d er hP hD hS => by subst er; exact W.vret hx hb hr (fun t ht hW => ⟨⟨(), rfl, trivial, by rw [ht]; exact hP, va_K.moved hW.alike hK, hD⟩, hS.F ht⟩) hS.2.2 d) v0 s0 _ _ _ h hP hD va_S.rf (lv_sub hl [0, 1] rfl)
def ow_dm_X15_half : List Cond := Cond.code yX15_half cX15_half 3 none :: ([Cond.fieldLink RX15 21 "TimeMachineModel$Conditions" "kind" "[I", Cond.fieldLink RX15 52 "TimeMachineModel$Conditions" "sign" "[I", Cond.fieldLink RX15 58 "TimeMachineModel$Conditions" "left" "[J", Cond.fieldLink RX15 167 "TimeMachineModel$Conditions" "result" "J", Cond.fieldLink RX15 55 "TimeMachineModel$Conditions" "stage" "[I", Cond.fieldLink RX15 49 "TimeMachineModel$Conditions" "last" "[I", Cond.methodLink RX15 174 yX15_begin, Cond.instanceMethod yX15_begin, Cond.selects RX15 yX15_begin yX15_begin, Cond.initialized RX15, Cond.methodLink RX15 191 yX15_give, Cond.instanceMethod yX15_give, Cond.selects RX15 yX15_give yX15_give] ++ (u_ws RX15 TX15 28 ++ (ow_dm_X15_begin ++ (ow_dm_X15_give ++ []))))
theorem gd_dm_X15_half : ∀ w ∈ ow_dm_X15_half, (w.onTables && w.keeps) = true ∨ ∃ ty, w = Cond.arrayClass ty := List.forall_mem_cons.mpr ⟨good_of_word rfl, List.forall_mem_append.mpr ⟨fun w h => good_of_word (List.all_eq_true.mp (by decide +kernel) w h), List.forall_mem_append.mpr ⟨gu_X15, List.forall_mem_append.mpr ⟨gd_dm_X15_begin, List.forall_mem_append.mpr ⟨gd_dm_X15_give, fun _ h => nomatch h⟩⟩⟩⟩⟩
theorem hi_dm_X15_half_X15 : ∀ w ∈ u_ws RX15 TX15 28, w ∈ ow_dm_X15_half := fun w h => List.mem_cons_of_mem _ (List.mem_append_right _ (List.mem_append_left _ h))
theorem gi_dm_X15_half_0 : GoodIn ow_dm_X15_half (wsV RX15 174 RX15 yX15_begin ow_dm_X15_begin) := goodIn_app (goodIn_of _ (by decide +kernel)) (fun w h => ⟨List.mem_cons_of_mem _ (List.mem_append_right _ (List.mem_append_right _ (List.mem_append_left _ h))), gd_dm_X15_begin w h⟩)
theorem gi_dm_X15_half_1 : GoodIn ow_dm_X15_half (wsV RX15 191 RX15 yX15_give ow_dm_X15_give) := goodIn_app (goodIn_of _ (by decide +kernel)) (fun w h => ⟨List.mem_cons_of_mem _ (List.mem_append_right _ (List.mem_append_right _ (List.mem_append_right _ (List.mem_append_left _ h)))), gd_dm_X15_give w h⟩)
def dj_X15_half_68 (p : Program) (l : Launch) (e : Env) (s : State) (m : MethodId) (args : Array Value) (below : List Frame) (meth : Method) (c : Code) (Q : State → Prop) (A : Nat → Prop) (dC : Nat → ClassId) (dI : Nat → Nat → Nat) (a : Nat → Nat) (ac : Nat → ClassId) (g : Int32 → (St × (St × (St))) → Option (St × (St × (St)))) (r : St × (St × (St))) : Prop := ∀ (x1 : Int32) (s0 : St × (St × (St))) (H : Heap) (locs : List Loc) (ls : Array Slot), g x1 s0 = some r → va_P (dC, dI) vwCl (dw_X15 a ac s0) H → va_D A (dw_X15 a ac s0) → va_S A s.heap H locs → lv_has ls 3 [(0, .ref (a 0)), (1, .int x1)] → W p l e (headSpec ow_dm_X15_half ({ frames := 1, cells := 0, slots := 0, locals := 22 })).room s m args below meth c H locs 0 0 Q (F0 m 68 ls [])
def dj_X15_half_64 (p : Program) (l : Launch) (e : Env) (s : State) (m : MethodId) (args : Array Value) (below : List Frame) (meth : Method) (c : Code) (Q : State → Prop) (A : Nat → Prop) (dC : Nat → ClassId) (dI : Nat → Nat → Nat) (a : Nat → Nat) (ac : Nat → ClassId) (g : Int64 → (St × (St × (St))) → Option (St × (St × (St)))) (r : St × (St × (St))) : Prop := ∀ (y1 : Int64) (s0 : St × (St × (St))) (H : Heap) (locs : List Loc) (ls : Array Slot), g y1 s0 = some r → va_P (dC, dI) vwCl (dw_X15 a ac s0) H → va_D A (dw_X15 a ac s0) → va_S A s.heap H locs → lv_has ls 3 [] → W p l e (headSpec ow_dm_X15_half ({ frames := 1, cells := 0, slots := 0, locals := 22 })).room s m args below meth c H locs 0 0 Q (F0 m 64 ls [.long y1, .ref (a 0)])
def dj_X15_half_52 (p : Program) (l : Launch) (e : Env) (s : State) (m : MethodId) (args : Array Value) (below : List Frame) (meth : Method) (c : Code) (Q : State → Prop) (A : Nat → Prop) (dC : Nat → ClassId) (dI : Nat → Nat → Nat) (a : Nat → Nat) (ac : Nat → ClassId) (g : Int32 → (St × (St × (St))) → Option (St × (St × (St)))) (r : St × (St × (St))) : Prop := ∀ (x2 : Int32) (s0 : St × (St × (St))) (H : Heap) (locs : List Loc) (ls : Array Slot), g x2 s0 = some r → va_P (dC, dI) vwCl (dw_X15 a ac s0) H → va_D A (dw_X15 a ac s0) → va_S A s.heap H locs → lv_has ls 3 [(0, .ref (a 0)), (2, .int x2)] → W p l e (headSpec ow_dm_X15_half ({ frames := 1, cells := 0, slots := 0, locals := 22 })).room s m args below meth c H locs 0 0 Q (F0 m 52 ls [])
def dj_X15_half_37 (p : Program) (l : Launch) (e : Env) (s : State) (m : MethodId) (args : Array Value) (below : List Frame) (meth : Method) (c : Code) (Q : State → Prop) (A : Nat → Prop) (dC : Nat → ClassId) (dI : Nat → Nat → Nat) (a : Nat → Nat) (ac : Nat → ClassId) (g : Int32 → Int32 → (St × (St × (St))) → Option (St × (St × (St)))) (r : St × (St × (St))) : Prop := ∀ (x1 : Int32) (x2 : Int32) (s0 : St × (St × (St))) (H : Heap) (locs : List Loc) (ls : Array Slot), g x1 x2 s0 = some r → va_P (dC, dI) vwCl (dw_X15 a ac s0) H → va_D A (dw_X15 a ac s0) → va_S A s.heap H locs → lv_has ls 3 [(0, .ref (a 0)), (1, .int x1), (2, .int x2)] → W p l e (headSpec ow_dm_X15_half ({ frames := 1, cells := 0, slots := 0, locals := 22 })).room s m args below meth c H locs 0 0 Q (F0 m 37 ls [])
def dj_X15_half_0 (p : Program) (l : Launch) (e : Env) (s : State) (m : MethodId) (args : Array Value) (below : List Frame) (meth : Method) (c : Code) (Q : State → Prop) (A : Nat → Prop) (dC : Nat → ClassId) (dI : Nat → Nat → Nat) (a : Nat → Nat) (ac : Nat → ClassId) (g : Int32 → (St × (St × (St))) → Option (St × (St × (St)))) (r : St × (St × (St))) : Prop := ∀ (v0 : Int32) (s0 : St × (St × (St))) (H : Heap) (locs : List Loc) (ls : Array Slot), g v0 s0 = some r → va_P (dC, dI) vwCl (dw_X15 a ac s0) H → va_D A (dw_X15 a ac s0) → va_S A s.heap H locs → lv_has ls 3 [(0, .ref (a 0)), (1, .int v0)] → W p l e (headSpec ow_dm_X15_half ({ frames := 1, cells := 0, slots := 0, locals := 22 })).room s m args below meth c H locs 0 0 Q (F0 m 0 ls [])
set_option maxHeartbeats 40000000 in
set_option maxRecDepth 100000 in
theorem db_X15_half_68 {p : Program} {l : Launch} {e : Env} {s : State} {m : MethodId} {args : Array Value} {below : List Frame} {meth : Method} {c : Code} {Q : State → Prop} {A : Nat → Prop} {dC : Nat → ClassId} {dI : Nat → Nat → Nat} {a : Nat → Nat} {ac : Nat → ClassId} {n : Nat} {r : St × (St × (St))} (C : nd_C p l s m args c A (dC, dI) cX15_half 3 RX15 ow_dm_X15_half (dk_X15 ac)) (K : nd_Kv p l e (headSpec ow_dm_X15_half ({ frames := 1, cells := 0, slots := 0, locals := 22 })).room s m args below meth c Q A (dC, dI) cX15_half (St × (St × (St))) (dw_X15 a ac) r) : dj_X15_half_68 p l e s m args below meth c Q A dC dI a ac (df_X15_half_68 n) r := by
  obtain ⟨hlt, hx, hb, hml, hown, hts, hN, hA, hK⟩ := id C
  intro x1 s0 H locs ls h hP hD hS hl
  unfold df_X15_half_68 at h
  refine lv_aload_n hx hb dX15_half_68 rfl (lv_at hl 0 rfl) ?_
  refine va_get (D := (dC, dI)) (ci := 16) (v := .ref (a 15)) (C := RX15) (T := TX15) (N := 28) hx hb hts hi_dm_X15_half_X15 hown hK hP 0 rfl rfl 26 (by decide) (hts (.fieldLink RX15 55 "TimeMachineModel$Conditions" "stage" "[I") (List.mem_of_getElem? (i := 5) rfl)) (fun _ h9 => h9) rfl dX15_half_69 ?_
  refine lv_iload_n hx hb dX15_half_72 rfl (lv_at hl 1 rfl) ?_
  refine lv_iconst (v := 2) hx hb dX15_half_73 (by decide) ?_
  obtain ⟨i8, h⟩ := nd_ck_e h
  refine va_iast (i := x1) (x := 2) hx hb hK hP hD hS 15 14 rfl rfl i8 dX15_half_74 (fun H locs hP hD hS => ?_)
  obtain ⟨s9, es9, h⟩ := nd_let_e h
  have hP : va_P (dC, dI) vwCl (dw_X15 a ac s9) H := by rw [es9]; exact hP
  have hD : va_D A (dw_X15 a ac s9) := by rw [es9]; exact hD
  refine lv_aload_n hx hb dX15_half_75 rfl (lv_at hl 0 rfl) ?_
  refine lv_aload_n hx hb dX15_half_76 rfl (lv_at hl 0 rfl) ?_
  refine va_get (D := (dC, dI)) (ci := 16) (v := .ref (a 14)) (C := RX15) (T := TX15) (N := 28) hx hb hts hi_dm_X15_half_X15 hown hK hP 0 rfl rfl 25 (by decide) (hts (.fieldLink RX15 52 "TimeMachineModel$Conditions" "sign" "[I") (List.mem_of_getElem? (i := 2) rfl)) (fun _ h9 => h9) rfl dX15_half_77 ?_
  refine lv_iload_n hx hb dX15_half_80 rfl (lv_at hl 1 rfl) ?_
  obtain ⟨i10, h⟩ := nd_ck_e h
  refine va_iald (i := x1) hx hb hK hP 14 13 rfl rfl i10 dX15_half_81 ?_
  refine lv_iconst (v := 1) hx hb dX15_half_82 (by decide) ?_
  refine lv_iadd hx hb dX15_half_83 ?_
  refine lv_aload_n hx hb dX15_half_84 rfl (lv_at hl 0 rfl) ?_
  refine va_get (D := (dC, dI)) (ci := 16) (v := .ref (a 13)) (C := RX15) (T := TX15) (N := 28) hx hb hts hi_dm_X15_half_X15 hown hK hP 0 rfl rfl 24 (by decide) (hts (.fieldLink RX15 49 "TimeMachineModel$Conditions" "last" "[I") (List.mem_of_getElem? (i := 6) rfl)) (fun _ h9 => h9) rfl dX15_half_85 ?_
  refine lv_iload_n hx hb dX15_half_88 rfl (lv_at hl 1 rfl) ?_
  obtain ⟨i11, h⟩ := nd_ck_e h
  refine va_iald (i := x1) hx hb hK hP 13 12 rfl rfl i11 dX15_half_89 ?_
  obtain ⟨s13, hq, h⟩ := nd_b1_e h
  have hPc := hP
  have hDc := hD
  have hKc := hK
  have hFc := nd_rs hD hS hA
  refine nd_cVv (As := [.int ((sR s9.1 10 (Int32.toNatClampNeg x1)) + 1), .int (sR s9.1 9 (Int32.toNatClampNeg x1))]) (rest := []) (w' := dw_X15 a ac s13) ⟨hx, hb, hml, hown, hts⟩ (fun sz => dm_X15_begin l hlt dC dI a ac n (((sR s9.1 10 (Int32.toNatClampNeg x1)) + 1)) ((sR s9.1 9 (Int32.toNatClampNeg x1))) s9 hq sz) (cwV 2 hts gi_dm_X15_half_0 rfl rfl rfl (by decide +kernel) ⟨Nat.le_of_ble_eq_true rfl, Nat.le_of_ble_eq_true rfl⟩) hPc hDc hKc hS hA hN (va_recv hKc hPc (ci := 16) (q0 := 0) rfl rfl) rfl hl.1 rfl (Nat.le_of_ble_eq_true rfl) dX15_half_90 (fun H locs hP1 hD1 hk1 hS => ?_)
  have hP := hP1
  have hD := hD1.weaken (fun k q _ h => hFc q.1 h)
  exact K _ _ _ _ _ dX15_half_93 (Option.some.inj h).symm hP hD hS
set_option maxHeartbeats 40000000 in
set_option maxRecDepth 100000 in
theorem db_X15_half_64 {p : Program} {l : Launch} {e : Env} {s : State} {m : MethodId} {args : Array Value} {below : List Frame} {meth : Method} {c : Code} {Q : State → Prop} {A : Nat → Prop} {dC : Nat → ClassId} {dI : Nat → Nat → Nat} {a : Nat → Nat} {ac : Nat → ClassId} {n : Nat} {r : St × (St × (St))} (C : nd_C p l s m args c A (dC, dI) cX15_half 3 RX15 ow_dm_X15_half (dk_X15 ac)) (K : nd_Kv p l e (headSpec ow_dm_X15_half ({ frames := 1, cells := 0, slots := 0, locals := 22 })).room s m args below meth c Q A (dC, dI) cX15_half (St × (St × (St))) (dw_X15 a ac) r) : dj_X15_half_64 p l e s m args below meth c Q A dC dI a ac (df_X15_half_64 n) r := by
  obtain ⟨hlt, hx, hb, hml, hown, hts, hN, hA, hK⟩ := id C
  intro y1 s0 H locs ls h hP hD hS hl
  unfold df_X15_half_64 at h
  obtain ⟨s18, hq, h⟩ := nd_b1_e h
  have hPc := hP
  have hDc := hD
  have hKc := hK
  have hFc := nd_rs hD hS hA
  refine nd_cVv (As := [.long y1]) (rest := []) (w' := dw_X15 a ac s18) ⟨hx, hb, hml, hown, hts⟩ (fun sz => dm_X15_give l hlt dC dI a ac n (y1) s0 hq sz) (cwV 1 hts gi_dm_X15_half_1 rfl rfl rfl (by decide +kernel) ⟨Nat.le_of_ble_eq_true rfl, Nat.le_of_ble_eq_true rfl⟩) hPc hDc hKc hS hA hN (va_recv hKc hPc (ci := 16) (q0 := 0) rfl rfl) rfl hl.1 rfl (Nat.le_of_ble_eq_true rfl) dX15_half_64 (fun H locs hP1 hD1 hk1 hS => ?_)
  have hP := hP1
  have hD := hD1.weaken (fun k q _ h => hFc q.1 h)
  exact K _ _ _ _ _ dX15_half_67 (Option.some.inj h).symm hP hD hS
set_option maxHeartbeats 40000000 in
set_option maxRecDepth 100000 in
theorem db_X15_half_52 {p : Program} {l : Launch} {e : Env} {s : State} {m : MethodId} {args : Array Value} {below : List Frame} {meth : Method} {c : Code} {Q : State → Prop} {A : Nat → Prop} {dC : Nat → ClassId} {dI : Nat → Nat → Nat} {a : Nat → Nat} {ac : Nat → ClassId} {n : Nat} {r : St × (St × (St))} (C : nd_C p l s m args c A (dC, dI) cX15_half 3 RX15 ow_dm_X15_half (dk_X15 ac)) (K : nd_Kv p l e (headSpec ow_dm_X15_half ({ frames := 1, cells := 0, slots := 0, locals := 22 })).room s m args below meth c Q A (dC, dI) cX15_half (St × (St × (St))) (dw_X15 a ac) r) : dj_X15_half_52 p l e s m args below meth c Q A dC dI a ac (df_X15_half_52 n) r := by
  obtain ⟨hlt, hx, hb, hml, hown, hts, hN, hA, hK⟩ := id C
  intro x2 s0 H locs ls h hP hD hS hl
  unfold df_X15_half_52 at h
  refine lv_aload_n hx hb dX15_half_52 rfl (lv_at hl 0 rfl) ?_
  refine lv_iload_n hx hb dX15_half_53 rfl (lv_at hl 1 rfl) ?_
  refine lv_bipush (v := 10) hx hb dX15_half_54 (by decide) ?_
  refine lv_icmp_ne (tgt := 63) hx hb dX15_half_56 (by decide) (fun c16 => ?_) (fun c16 => ?_)
  · have h := nd_neg h c16
    refine lv_lconst (v := 0) hx hb dX15_half_63 (by decide) ?_
    exact (db_X15_half_64 C K) (0) s0 _ _ _ h hP hD hS (lv_sub hl [] rfl)
  · have h := nd_pos h c16
    refine lv_lconst (v := 1) hx hb dX15_half_59 (by decide) ?_
    refine lv_goto (tgt := 64) hx hb dX15_half_60 (by decide) ?_
    exact (db_X15_half_64 C K) (1) s0 _ _ _ h hP hD hS (lv_sub hl [] rfl)
set_option maxHeartbeats 40000000 in
set_option maxRecDepth 100000 in
theorem db_X15_half_37 {p : Program} {l : Launch} {e : Env} {s : State} {m : MethodId} {args : Array Value} {below : List Frame} {meth : Method} {c : Code} {Q : State → Prop} {A : Nat → Prop} {dC : Nat → ClassId} {dI : Nat → Nat → Nat} {a : Nat → Nat} {ac : Nat → ClassId} {n : Nat} {r : St × (St × (St))} (C : nd_C p l s m args c A (dC, dI) cX15_half 3 RX15 ow_dm_X15_half (dk_X15 ac)) (K : nd_Kv p l e (headSpec ow_dm_X15_half ({ frames := 1, cells := 0, slots := 0, locals := 22 })).room s m args below meth c Q A (dC, dI) cX15_half (St × (St × (St))) (dw_X15 a ac) r) : dj_X15_half_37 p l e s m args below meth c Q A dC dI a ac (df_X15_half_37 n) r := by
  obtain ⟨hlt, hx, hb, hml, hown, hts, hN, hA, hK⟩ := id C
  intro x1 x2 s0 H locs ls h hP hD hS hl
  unfold df_X15_half_37 at h
  refine lv_iload_n hx hb dX15_half_37 rfl (lv_at hl 2 rfl) ?_
  refine lv_bipush (v := 11) hx hb dX15_half_38 (by decide) ?_
  refine lv_icmp_ne (tgt := 68) hx hb dX15_half_40 (by decide) (fun c7 => ?_) (fun c7 => ?_)
  · have h := nd_neg h c7
    exact (db_X15_half_68 C K) (x1) s0 _ _ _ h hP hD hS (lv_sub hl [0, 1] rfl)
  · have h := nd_pos h c7
    refine lv_aload_n hx hb dX15_half_43 rfl (lv_at hl 0 rfl) ?_
    refine va_get (D := (dC, dI)) (ci := 16) (v := .long (sL s0.1 1)) (C := RX15) (T := TX15) (N := 28) hx hb hts hi_dm_X15_half_X15 hown hK hP 0 rfl rfl 22 (by decide) (hts (.fieldLink RX15 167 "TimeMachineModel$Conditions" "result" "J") (List.mem_of_getElem? (i := 4) rfl)) (fun _ h9 => h9) rfl dX15_half_44 ?_
    refine lv_lconst (v := 0) hx hb dX15_half_47 (by decide) ?_
    refine W.lcmp hx hb dX15_half_48 ?_
    refine lv_if_ne (tgt := 68) hx hb dX15_half_49 (by decide) (fun c15 => ?_) (fun c15 => ?_)
    · have h := nd_neg h c15
      exact (db_X15_half_68 C K) (x1) s0 _ _ _ h hP hD hS (lv_sub hl [0, 1] rfl)
    · have h := nd_pos h c15
      exact (db_X15_half_52 C K) (x2) s0 _ _ _ h hP hD hS (lv_sub hl [0, 2] rfl)
set_option maxHeartbeats 40000000 in
set_option maxRecDepth 100000 in
theorem db_X15_half_0 {p : Program} {l : Launch} {e : Env} {s : State} {m : MethodId} {args : Array Value} {below : List Frame} {meth : Method} {c : Code} {Q : State → Prop} {A : Nat → Prop} {dC : Nat → ClassId} {dI : Nat → Nat → Nat} {a : Nat → Nat} {ac : Nat → ClassId} {n : Nat} {r : St × (St × (St))} (C : nd_C p l s m args c A (dC, dI) cX15_half 3 RX15 ow_dm_X15_half (dk_X15 ac)) (K : nd_Kv p l e (headSpec ow_dm_X15_half ({ frames := 1, cells := 0, slots := 0, locals := 22 })).room s m args below meth c Q A (dC, dI) cX15_half (St × (St × (St))) (dw_X15 a ac) r) : dj_X15_half_0 p l e s m args below meth c Q A dC dI a ac (df_X15_half_0 n) r := by
  obtain ⟨hlt, hx, hb, hml, hown, hts, hN, hA, hK⟩ := id C
  intro v0 s0 H locs ls h hP hD hS hl
  unfold df_X15_half_0 at h
  refine lv_aload_n hx hb dX15_half_0 rfl (lv_at hl 0 rfl) ?_
  refine va_get (D := (dC, dI)) (ci := 16) (v := .ref (a 4)) (C := RX15) (T := TX15) (N := 28) hx hb hts hi_dm_X15_half_X15 hown hK hP 0 rfl rfl 5 (by decide) (hts (.fieldLink RX15 21 "TimeMachineModel$Conditions" "kind" "[I") (List.mem_of_getElem? (i := 1) rfl)) (fun _ h9 => h9) rfl dX15_half_1 ?_
  refine lv_aload_n hx hb dX15_half_4 rfl (lv_at hl 0 rfl) ?_
  refine va_get (D := (dC, dI)) (ci := 16) (v := .ref (a 14)) (C := RX15) (T := TX15) (N := 28) hx hb hts hi_dm_X15_half_X15 hown hK hP 0 rfl rfl 25 (by decide) (hts (.fieldLink RX15 52 "TimeMachineModel$Conditions" "sign" "[I") (List.mem_of_getElem? (i := 2) rfl)) (fun _ h9 => h9) rfl dX15_half_5 ?_
  refine lv_iload_n hx hb dX15_half_8 rfl (lv_at hl 1 rfl) ?_
  obtain ⟨i1, h⟩ := nd_ck_e h
  refine va_iald (i := v0) hx hb hK hP 14 13 rfl rfl i1 dX15_half_9 ?_
  obtain ⟨i2, h⟩ := nd_ck_e h
  refine va_iald (i := (sR s0.1 10 (Int32.toNatClampNeg v0))) hx hb hK hP 4 3 rfl rfl i2 dX15_half_10 ?_
  refine lv_topi (fun z3 ez3 => ?_)
  have h := nd_at h ez3
  refine lv_istore_n (lv' := [(2, .int z3), (0, .ref (a 0)), (1, .int v0)]) hx hb dX15_half_11 rfl hl (by decide) rfl (fun ls hl => ?_)
  refine lv_aload_n hx hb dX15_half_12 rfl (lv_at hl 1 rfl) ?_
  refine va_get (D := (dC, dI)) (ci := 16) (v := .ref (a 16)) (C := RX15) (T := TX15) (N := 28) hx hb hts hi_dm_X15_half_X15 hown hK hP 0 rfl rfl 27 (by decide) (hts (.fieldLink RX15 58 "TimeMachineModel$Conditions" "left" "[J") (List.mem_of_getElem? (i := 3) rfl)) (fun _ h9 => h9) rfl dX15_half_13 ?_
  refine lv_iload_n hx hb dX15_half_16 rfl (lv_at hl 2 rfl) ?_
  refine lv_aload_n hx hb dX15_half_17 rfl (lv_at hl 1 rfl) ?_
  refine va_get (D := (dC, dI)) (ci := 16) (v := .long (sL s0.1 1)) (C := RX15) (T := TX15) (N := 28) hx hb hts hi_dm_X15_half_X15 hown hK hP 0 rfl rfl 22 (by decide) (hts (.fieldLink RX15 167 "TimeMachineModel$Conditions" "result" "J") (List.mem_of_getElem? (i := 4) rfl)) (fun _ h9 => h9) rfl dX15_half_18 ?_
  obtain ⟨i4, h⟩ := nd_ck_e h
  refine va_last (i := v0) (x := (sL s0.1 1)) hx hb hK hP hD hS 16 15 rfl rfl i4 dX15_half_21 (fun H locs hP hD hS => ?_)
  obtain ⟨s5, es5, h⟩ := nd_let_e h
  have hP : va_P (dC, dI) vwCl (dw_X15 a ac s5) H := by rw [es5]; exact hP
  have hD : va_D A (dw_X15 a ac s5) := by rw [es5]; exact hD
  refine lv_iload_n hx hb dX15_half_22 rfl (lv_at hl 0 rfl) ?_
  refine lv_bipush (v := 10) hx hb dX15_half_23 (by decide) ?_
  refine lv_icmp_ne (tgt := 37) hx hb dX15_half_25 (by decide) (fun c6 => ?_) (fun c6 => ?_)
  · have h := nd_neg h c6
    exact (db_X15_half_37 C K) (v0) (z3) s5 _ _ _ h hP hD hS (lv_sub hl [1, 2, 0] rfl)
  · have h := nd_pos h c6
    refine lv_aload_n hx hb dX15_half_28 rfl (lv_at hl 1 rfl) ?_
    refine va_get (D := (dC, dI)) (ci := 16) (v := .long (sL s5.1 1)) (C := RX15) (T := TX15) (N := 28) hx hb hts hi_dm_X15_half_X15 hown hK hP 0 rfl rfl 22 (by decide) (hts (.fieldLink RX15 167 "TimeMachineModel$Conditions" "result" "J") (List.mem_of_getElem? (i := 4) rfl)) (fun _ h9 => h9) rfl dX15_half_29 ?_
    refine lv_lconst (v := 0) hx hb dX15_half_32 (by decide) ?_
    refine W.lcmp hx hb dX15_half_33 ?_
    refine lv_if_ne (tgt := 52) hx hb dX15_half_34 (by decide) (fun c20 => ?_) (fun c20 => ?_)
    · have h := nd_neg h c20
      exact (db_X15_half_52 C K) (z3) s5 _ _ _ h hP hD hS (lv_sub hl [1, 0] rfl)
    · have h := nd_pos h c20
      exact (db_X15_half_37 C K) (v0) (z3) s5 _ _ _ h hP hD hS (lv_sub hl [1, 2, 0] rfl)
set_option maxHeartbeats 40000000 in
set_option maxRecDepth 100000 in
theorem dm_X15_half (l : Launch) (hlt : l.stackTraces = false) (dC : Nat → ClassId) (dI : Nat → Nat → Nat) (a : Nat → Nat) (ac : Nat → ClassId) (n : Nat) (v0 : Int32) (s0 : St × (St × (St))) {r : St × (St × (St))} (h : df_X15_half n v0 s0 = some r) (sz : Nat) : Met l yX15_half ow_dm_X15_half ({ frames := 1, cells := 0, slots := 0, locals := 22 }) (va_Pc [.ref (a 0), .int v0] (fun U => U.heap.size = sz ∧ va_P (dC, dI) vwCl (dw_X15 a ac s0) U.heap ∧ va_K (dC, dI) vwCl (dk_X15 ac) U ∧ va_D (fun _ => True) (dw_X15 a ac s0) ∧ nv_E dI (va_A (dw_X15 a ac s0) sz) U)) (va_Qv (fun _ => True) (fun (_ : Unit) t => va_P (dC, dI) vwCl (dw_X15 a ac r) t.heap ∧ va_K (dC, dI) vwCl (dk_X15 ac) t ∧ va_D (va_A (dw_X15 a ac s0) sz) (dw_X15 a ac r)) (va_A (dw_X15 a ac s0) sz)) 0 0 (va_A (dw_X15 a ac s0) sz) := by
  refine Met.ofW (cc := cX15_half) (maxL := 3) (ret := none) (by decide) rfl ?_
  intro p e s m args below meth c s₁ B hml hv
  obtain ⟨rfl, hsz, hP, hK, hD0, hN⟩ := hv
  have hx := B.exec
  have hb := B.bytes
  have hr := B.returns
  have hts := atoms_spec (ws := ow_dm_X15_half) B.pre
  have hown : s.vm.findClass RX15 = some m.cls := findClass_of_methodNamed B.named
  have hlocks := B.notSynchronized
  subst hsz
  have hD := hD0.self (sz := s.heap.size)
  generalize hAe : va_A (dw_X15 a ac s0) s.heap.size = A at hD hN ⊢
  have hA : ∀ q : Nat, s.heap.size ≤ q → A q := fun q h => by rw [← hAe]; exact Or.inr h
  have hl := lv_entry ([.ref (a 0), .int v0]) (n := 3) (Nat.le_of_ble_eq_true rfl)
  rw [lg_entry_eq]
  generalize (lg_sl ([.ref (a 0), .int v0]) ++ List.replicate (3 - (lg_sl ([.ref (a 0), .int v0])).length) Slot.unset).toArray = ls at hl ⊢
  have hl : lv_has ls 3 [(0, .ref (a 0)), (1, .int v0)] := hl
  exact db_X15_half_0 (dC := dC) (dI := dI) (a := a) (ac := ac) (n := n) (r := r) ⟨hlt, hx, hb, hml, hown, hts, hN, hA, hK⟩ (fun pc τ H locs ls d er hP hD hS => by subst er; exact W.vret hx hb hr (fun t ht hW => ⟨⟨(), rfl, trivial, by rw [ht]; exact hP, va_K.moved hW.alike hK, hD⟩, hS.F ht⟩) hS.2.2 d) v0 s0 _ _ _ h hP hD va_S.rf (lv_sub hl [0, 1] rfl)
def ow_dm_X15_enter : List Cond := Cond.code yX15_enter cX15_enter 4 none :: ([Cond.fieldLink RX15 46 "TimeMachineModel$Conditions" "first" "[I", Cond.fieldLink RX15 21 "TimeMachineModel$Conditions" "kind" "[I", Cond.fieldLink RX15 52 "TimeMachineModel$Conditions" "sign" "[I", Cond.fieldLink RX15 49 "TimeMachineModel$Conditions" "last" "[I", Cond.methodLink RX15 187 yX15_least, Cond.instanceMethod yX15_least, Cond.selects RX15 yX15_least yX15_least, Cond.initialized RX15, Cond.fieldLink RX15 55 "TimeMachineModel$Conditions" "stage" "[I", Cond.fieldLink RX15 27 "TimeMachineModel$Conditions" "number" "[J", Cond.methodLink RX15 191 yX15_give, Cond.instanceMethod yX15_give, Cond.selects RX15 yX15_give yX15_give, Cond.fieldLink RX15 61 "TimeMachineModel$Conditions" "m" "LTimeMachineModel$Machine;", Cond.methodLink RX15 195 yX16_value, Cond.instanceMethod yX16_value, Cond.selects RX16 yX16_value yX16_value, Cond.initialized RX16, Cond.methodLink RX15 200 yX16_count, Cond.instanceMethod yX16_count, Cond.selects RX16 yX16_count yX16_count, Cond.methodLink RX15 204 yX16_now, Cond.instanceMethod yX16_now, Cond.selects RX16 yX16_now yX16_now, Cond.methodLink RX15 174 yX15_begin, Cond.instanceMethod yX15_begin, Cond.selects RX15 yX15_begin yX15_begin, Cond.fieldLink RX15 31 "TimeMachineModel$Conditions" "before" "[J", Cond.fieldLink RX15 24 "TimeMachineModel$Conditions" "partner" "[I"] ++ (u_ws RX15 TX15 28 ++ (ow_dm_X15_least ++ (ow_dm_X15_give ++ (ow_dm_X16_value ++ (ow_dm_X16_count ++ (ow_dm_X16_now ++ (ow_dm_X15_begin ++ []))))))))
theorem gd_dm_X15_enter : ∀ w ∈ ow_dm_X15_enter, (w.onTables && w.keeps) = true ∨ ∃ ty, w = Cond.arrayClass ty := List.forall_mem_cons.mpr ⟨good_of_word rfl, List.forall_mem_append.mpr ⟨fun w h => good_of_word (List.all_eq_true.mp (by decide +kernel) w h), List.forall_mem_append.mpr ⟨gu_X15, List.forall_mem_append.mpr ⟨gd_dm_X15_least, List.forall_mem_append.mpr ⟨gd_dm_X15_give, List.forall_mem_append.mpr ⟨gd_dm_X16_value, List.forall_mem_append.mpr ⟨gd_dm_X16_count, List.forall_mem_append.mpr ⟨gd_dm_X16_now, List.forall_mem_append.mpr ⟨gd_dm_X15_begin, fun _ h => nomatch h⟩⟩⟩⟩⟩⟩⟩⟩⟩
theorem hi_dm_X15_enter_X15 : ∀ w ∈ u_ws RX15 TX15 28, w ∈ ow_dm_X15_enter := fun w h => List.mem_cons_of_mem _ (List.mem_append_right _ (List.mem_append_left _ h))
theorem gi_dm_X15_enter_0 : GoodIn ow_dm_X15_enter (wsV RX15 187 RX15 yX15_least ow_dm_X15_least) := goodIn_app (goodIn_of _ (by decide +kernel)) (fun w h => ⟨List.mem_cons_of_mem _ (List.mem_append_right _ (List.mem_append_right _ (List.mem_append_left _ h))), gd_dm_X15_least w h⟩)
theorem gi_dm_X15_enter_1 : GoodIn ow_dm_X15_enter (wsV RX15 191 RX15 yX15_give ow_dm_X15_give) := goodIn_app (goodIn_of _ (by decide +kernel)) (fun w h => ⟨List.mem_cons_of_mem _ (List.mem_append_right _ (List.mem_append_right _ (List.mem_append_right _ (List.mem_append_left _ h)))), gd_dm_X15_give w h⟩)
theorem gi_dm_X15_enter_2 : GoodIn ow_dm_X15_enter (wsV RX15 195 RX16 yX16_value ow_dm_X16_value) := goodIn_app (goodIn_of _ (by decide +kernel)) (fun w h => ⟨List.mem_cons_of_mem _ (List.mem_append_right _ (List.mem_append_right _ (List.mem_append_right _ (List.mem_append_right _ (List.mem_append_left _ h))))), gd_dm_X16_value w h⟩)
theorem gi_dm_X15_enter_3 : GoodIn ow_dm_X15_enter (wsV RX15 200 RX16 yX16_count ow_dm_X16_count) := goodIn_app (goodIn_of _ (by decide +kernel)) (fun w h => ⟨List.mem_cons_of_mem _ (List.mem_append_right _ (List.mem_append_right _ (List.mem_append_right _ (List.mem_append_right _ (List.mem_append_right _ (List.mem_append_left _ h)))))), gd_dm_X16_count w h⟩)
theorem gi_dm_X15_enter_4 : GoodIn ow_dm_X15_enter (wsV RX15 204 RX16 yX16_now ow_dm_X16_now) := goodIn_app (goodIn_of _ (by decide +kernel)) (fun w h => ⟨List.mem_cons_of_mem _ (List.mem_append_right _ (List.mem_append_right _ (List.mem_append_right _ (List.mem_append_right _ (List.mem_append_right _ (List.mem_append_right _ (List.mem_append_left _ h))))))), gd_dm_X16_now w h⟩)
theorem gi_dm_X15_enter_5 : GoodIn ow_dm_X15_enter (wsV RX15 174 RX15 yX15_begin ow_dm_X15_begin) := goodIn_app (goodIn_of _ (by decide +kernel)) (fun w h => ⟨List.mem_cons_of_mem _ (List.mem_append_right _ (List.mem_append_right _ (List.mem_append_right _ (List.mem_append_right _ (List.mem_append_right _ (List.mem_append_right _ (List.mem_append_right _ (List.mem_append_left _ h)))))))), gd_dm_X15_begin w h⟩)
def dj_X15_enter_408 (p : Program) (l : Launch) (e : Env) (s : State) (m : MethodId) (args : Array Value) (below : List Frame) (meth : Method) (c : Code) (Q : State → Prop) (A : Nat → Prop) (dC : Nat → ClassId) (dI : Nat → Nat → Nat) (a : Nat → Nat) (ac : Nat → ClassId) (g : (St × (St × (St))) → Option (St × (St × (St)))) (r : St × (St × (St))) : Prop := ∀ (s0 : St × (St × (St))) (H : Heap) (locs : List Loc) (ls : Array Slot), g s0 = some r → va_P (dC, dI) vwCl (dw_X15 a ac s0) H → va_D A (dw_X15 a ac s0) → va_S A s.heap H locs → lv_has ls 4 [] → W p l e (headSpec ow_dm_X15_enter ({ frames := 2, cells := 0, slots := 0, locals := 46 })).room s m args below meth c H locs 0 0 Q (F0 m 408 ls [])
def dj_X15_enter_393 (p : Program) (l : Launch) (e : Env) (s : State) (m : MethodId) (args : Array Value) (below : List Frame) (meth : Method) (c : Code) (Q : State → Prop) (A : Nat → Prop) (dC : Nat → ClassId) (dI : Nat → Nat → Nat) (a : Nat → Nat) (ac : Nat → ClassId) (g : Int32 → Int32 → (St × (St × (St))) → Option (St × (St × (St)))) (r : St × (St × (St))) : Prop := ∀ (x1 : Int32) (x2 : Int32) (s0 : St × (St × (St))) (H : Heap) (locs : List Loc) (ls : Array Slot), g x1 x2 s0 = some r → va_P (dC, dI) vwCl (dw_X15 a ac s0) H → va_D A (dw_X15 a ac s0) → va_S A s.heap H locs → lv_has ls 4 [(0, .ref (a 0)), (1, .int x1), (2, .int x2)] → W p l e (headSpec ow_dm_X15_enter ({ frames := 2, cells := 0, slots := 0, locals := 46 })).room s m args below meth c H locs 0 0 Q (F0 m 393 ls [])
def dj_X15_enter_346 (p : Program) (l : Launch) (e : Env) (s : State) (m : MethodId) (args : Array Value) (below : List Frame) (meth : Method) (c : Code) (Q : State → Prop) (A : Nat → Prop) (dC : Nat → ClassId) (dI : Nat → Nat → Nat) (a : Nat → Nat) (ac : Nat → ClassId) (g : Int32 → Int32 → (St × (St × (St))) → Option (St × (St × (St)))) (r : St × (St × (St))) : Prop := ∀ (x1 : Int32) (x2 : Int32) (s0 : St × (St × (St))) (H : Heap) (locs : List Loc) (ls : Array Slot), g x1 x2 s0 = some r → va_P (dC, dI) vwCl (dw_X15 a ac s0) H → va_D A (dw_X15 a ac s0) → va_S A s.heap H locs → lv_has ls 4 [(0, .ref (a 0)), (1, .int x1), (2, .int x2)] → W p l e (headSpec ow_dm_X15_enter ({ frames := 2, cells := 0, slots := 0, locals := 46 })).room s m args below meth c H locs 0 0 Q (F0 m 346 ls [])
def dj_X15_enter_61 (p : Program) (l : Launch) (e : Env) (s : State) (m : MethodId) (args : Array Value) (below : List Frame) (meth : Method) (c : Code) (Q : State → Prop) (A : Nat → Prop) (dC : Nat → ClassId) (dI : Nat → Nat → Nat) (a : Nat → Nat) (ac : Nat → ClassId) (g : Int32 → Int32 → Int32 → (St × (St × (St))) → Option (St × (St × (St)))) (r : St × (St × (St))) : Prop := ∀ (x1 : Int32) (x2 : Int32) (x3 : Int32) (s0 : St × (St × (St))) (H : Heap) (locs : List Loc) (ls : Array Slot), g x1 x2 x3 s0 = some r → va_P (dC, dI) vwCl (dw_X15 a ac s0) H → va_D A (dw_X15 a ac s0) → va_S A s.heap H locs → lv_has ls 4 [(0, .ref (a 0)), (1, .int x1), (2, .int x2), (3, .int x3)] → W p l e (headSpec ow_dm_X15_enter ({ frames := 2, cells := 0, slots := 0, locals := 46 })).room s m args below meth c H locs 0 0 Q (F0 m 61 ls [])
def dj_X15_enter_0 (p : Program) (l : Launch) (e : Env) (s : State) (m : MethodId) (args : Array Value) (below : List Frame) (meth : Method) (c : Code) (Q : State → Prop) (A : Nat → Prop) (dC : Nat → ClassId) (dI : Nat → Nat → Nat) (a : Nat → Nat) (ac : Nat → ClassId) (g : Int32 → (St × (St × (St))) → Option (St × (St × (St)))) (r : St × (St × (St))) : Prop := ∀ (v0 : Int32) (s0 : St × (St × (St))) (H : Heap) (locs : List Loc) (ls : Array Slot), g v0 s0 = some r → va_P (dC, dI) vwCl (dw_X15 a ac s0) H → va_D A (dw_X15 a ac s0) → va_S A s.heap H locs → lv_has ls 4 [(0, .ref (a 0)), (1, .int v0)] → W p l e (headSpec ow_dm_X15_enter ({ frames := 2, cells := 0, slots := 0, locals := 46 })).room s m args below meth c H locs 0 0 Q (F0 m 0 ls [])
set_option maxHeartbeats 40000000 in
set_option maxRecDepth 100000 in
theorem db_X15_enter_408 {p : Program} {l : Launch} {e : Env} {s : State} {m : MethodId} {args : Array Value} {below : List Frame} {meth : Method} {c : Code} {Q : State → Prop} {A : Nat → Prop} {dC : Nat → ClassId} {dI : Nat → Nat → Nat} {a : Nat → Nat} {ac : Nat → ClassId} {n : Nat} {r : St × (St × (St))} (C : nd_C p l s m args c A (dC, dI) cX15_enter 4 RX15 ow_dm_X15_enter (dk_X15 ac)) (K : nd_Kv p l e (headSpec ow_dm_X15_enter ({ frames := 2, cells := 0, slots := 0, locals := 46 })).room s m args below meth c Q A (dC, dI) cX15_enter (St × (St × (St))) (dw_X15 a ac) r) : dj_X15_enter_408 p l e s m args below meth c Q A dC dI a ac (df_X15_enter_408 n) r := by
  obtain ⟨hlt, hx, hb, hml, hown, hts, hN, hA, hK⟩ := id C
  intro s0 H locs ls h hP hD hS hl
  unfold df_X15_enter_408 at h
  exact K _ _ _ _ _ dX15_enter_408 (Option.some.inj h).symm hP hD hS
set_option maxHeartbeats 40000000 in
set_option maxRecDepth 100000 in
theorem db_X15_enter_393 {p : Program} {l : Launch} {e : Env} {s : State} {m : MethodId} {args : Array Value} {below : List Frame} {meth : Method} {c : Code} {Q : State → Prop} {A : Nat → Prop} {dC : Nat → ClassId} {dI : Nat → Nat → Nat} {a : Nat → Nat} {ac : Nat → ClassId} {n : Nat} {r : St × (St × (St))} (C : nd_C p l s m args c A (dC, dI) cX15_enter 4 RX15 ow_dm_X15_enter (dk_X15 ac)) (K : nd_Kv p l e (headSpec ow_dm_X15_enter ({ frames := 2, cells := 0, slots := 0, locals := 46 })).room s m args below meth c Q A (dC, dI) cX15_enter (St × (St × (St))) (dw_X15 a ac) r) : dj_X15_enter_393 p l e s m args below meth c Q A dC dI a ac (df_X15_enter_393 n) r := by
  obtain ⟨hlt, hx, hb, hml, hown, hts, hN, hA, hK⟩ := id C
  intro x1 x2 s0 H locs ls h hP hD hS hl
  unfold df_X15_enter_393 at h
  refine lv_aload_n hx hb dX15_enter_393 rfl (lv_at hl 0 rfl) ?_
  refine lv_iload_n hx hb dX15_enter_394 rfl (lv_at hl 2 rfl) ?_
  refine lv_iconst (v := 2) hx hb dX15_enter_395 (by decide) ?_
  refine lv_iadd hx hb dX15_enter_396 ?_
  refine lv_aload_n hx hb dX15_enter_397 rfl (lv_at hl 0 rfl) ?_
  refine va_get (D := (dC, dI)) (ci := 16) (v := .ref (a 13)) (C := RX15) (T := TX15) (N := 28) hx hb hts hi_dm_X15_enter_X15 hown hK hP 0 rfl rfl 24 (by decide) (hts (.fieldLink RX15 49 "TimeMachineModel$Conditions" "last" "[I") (List.mem_of_getElem? (i := 4) rfl)) (fun _ h9 => h9) rfl dX15_enter_398 ?_
  refine lv_iload_n hx hb dX15_enter_401 rfl (lv_at hl 1 rfl) ?_
  obtain ⟨i57, h⟩ := nd_ck_e h
  refine va_iald (i := x1) hx hb hK hP 13 12 rfl rfl i57 dX15_enter_402 ?_
  refine lv_iconst (v := 1) hx hb dX15_enter_403 (by decide) ?_
  refine lv_isub hx hb dX15_enter_404 ?_
  obtain ⟨s59, hq, h⟩ := nd_b1_e h
  have hPc := hP
  have hDc := hD
  have hKc := hK
  have hFc := nd_rs hD hS hA
  refine nd_cVv (As := [.int (x2 + 2), .int ((sR s0.1 9 (Int32.toNatClampNeg x1)) - 1)]) (rest := []) (w' := dw_X15 a ac s59) ⟨hx, hb, hml, hown, hts⟩ (fun sz => dm_X15_begin l hlt dC dI a ac n ((x2 + 2)) (((sR s0.1 9 (Int32.toNatClampNeg x1)) - 1)) s0 hq sz) (cwV 2 hts gi_dm_X15_enter_5 rfl rfl rfl (by decide +kernel) ⟨Nat.le_of_ble_eq_true rfl, Nat.le_of_ble_eq_true rfl⟩) hPc hDc hKc hS hA hN (va_recv hKc hPc (ci := 16) (q0 := 0) rfl rfl) rfl hl.1 rfl (Nat.le_of_ble_eq_true rfl) dX15_enter_405 (fun H locs hP1 hD1 hk1 hS => ?_)
  have hP := hP1
  have hD := hD1.weaken (fun k q _ h => hFc q.1 h)
  exact (db_X15_enter_408 C K)  s59 _ _ _ h hP hD hS (lv_sub hl [] rfl)
set_option maxHeartbeats 40000000 in
set_option maxRecDepth 100000 in
theorem db_X15_enter_346 {p : Program} {l : Launch} {e : Env} {s : State} {m : MethodId} {args : Array Value} {below : List Frame} {meth : Method} {c : Code} {Q : State → Prop} {A : Nat → Prop} {dC : Nat → ClassId} {dI : Nat → Nat → Nat} {a : Nat → Nat} {ac : Nat → ClassId} {n : Nat} {r : St × (St × (St))} (C : nd_C p l s m args c A (dC, dI) cX15_enter 4 RX15 ow_dm_X15_enter (dk_X15 ac)) (K : nd_Kv p l e (headSpec ow_dm_X15_enter ({ frames := 2, cells := 0, slots := 0, locals := 46 })).room s m args below meth c Q A (dC, dI) cX15_enter (St × (St × (St))) (dw_X15 a ac) r) : dj_X15_enter_346 p l e s m args below meth c Q A dC dI a ac (df_X15_enter_346 n) r := by
  obtain ⟨hlt, hx, hb, hml, hown, hts, hN, hA, hK⟩ := id C
  intro x1 x2 s0 H locs ls h hP hD hS hl
  unfold df_X15_enter_346 at h
  refine lv_aload_n hx hb dX15_enter_346 rfl (lv_at hl 0 rfl) ?_
  refine lv_iload_n hx hb dX15_enter_347 rfl (lv_at hl 2 rfl) ?_
  refine lv_iconst (v := 1) hx hb dX15_enter_348 (by decide) ?_
  refine lv_iadd hx hb dX15_enter_349 ?_
  refine lv_aload_n hx hb dX15_enter_350 rfl (lv_at hl 0 rfl) ?_
  refine va_get (D := (dC, dI)) (ci := 16) (v := .ref (a 13)) (C := RX15) (T := TX15) (N := 28) hx hb hts hi_dm_X15_enter_X15 hown hK hP 0 rfl rfl 24 (by decide) (hts (.fieldLink RX15 49 "TimeMachineModel$Conditions" "last" "[I") (List.mem_of_getElem? (i := 4) rfl)) (fun _ h9 => h9) rfl dX15_enter_351 ?_
  refine lv_iload_n hx hb dX15_enter_354 rfl (lv_at hl 1 rfl) ?_
  obtain ⟨i83, h⟩ := nd_ck_e h
  refine va_iald (i := x1) hx hb hK hP 13 12 rfl rfl i83 dX15_enter_355 ?_
  obtain ⟨s85, hq, h⟩ := nd_b1_e h
  have hPc := hP
  have hDc := hD
  have hKc := hK
  have hFc := nd_rs hD hS hA
  refine nd_cVv (As := [.int (x2 + 1), .int (sR s0.1 9 (Int32.toNatClampNeg x1))]) (rest := []) (w' := dw_X15 a ac s85) ⟨hx, hb, hml, hown, hts⟩ (fun sz => dm_X15_begin l hlt dC dI a ac n ((x2 + 1)) ((sR s0.1 9 (Int32.toNatClampNeg x1))) s0 hq sz) (cwV 2 hts gi_dm_X15_enter_5 rfl rfl rfl (by decide +kernel) ⟨Nat.le_of_ble_eq_true rfl, Nat.le_of_ble_eq_true rfl⟩) hPc hDc hKc hS hA hN (va_recv hKc hPc (ci := 16) (q0 := 0) rfl rfl) rfl hl.1 rfl (Nat.le_of_ble_eq_true rfl) dX15_enter_356 (fun H locs hP1 hD1 hk1 hS => ?_)
  have hP := hP1
  have hD := hD1.weaken (fun k q _ h => hFc q.1 h)
  refine lv_goto (tgt := 408) hx hb dX15_enter_359 (by decide) ?_
  exact (db_X15_enter_408 C K)  s85 _ _ _ h hP hD hS (lv_sub hl [] rfl)
set_option maxHeartbeats 40000000 in
set_option maxRecDepth 100000 in
theorem db_X15_enter_61 {p : Program} {l : Launch} {e : Env} {s : State} {m : MethodId} {args : Array Value} {below : List Frame} {meth : Method} {c : Code} {Q : State → Prop} {A : Nat → Prop} {dC : Nat → ClassId} {dI : Nat → Nat → Nat} {a : Nat → Nat} {ac : Nat → ClassId} {n : Nat} {r : St × (St × (St))} (C : nd_C p l s m args c A (dC, dI) cX15_enter 4 RX15 ow_dm_X15_enter (dk_X15 ac)) (K : nd_Kv p l e (headSpec ow_dm_X15_enter ({ frames := 2, cells := 0, slots := 0, locals := 46 })).room s m args below meth c Q A (dC, dI) cX15_enter (St × (St × (St))) (dw_X15 a ac) r) : dj_X15_enter_61 p l e s m args below meth c Q A dC dI a ac (df_X15_enter_61 n) r := by
  obtain ⟨hlt, hx, hb, hml, hown, hts, hN, hA, hK⟩ := id C
  intro x1 x2 x3 s0 H locs ls h hP hD hS hl
  unfold df_X15_enter_61 at h
  refine lv_aload_n hx hb dX15_enter_61 rfl (lv_at hl 0 rfl) ?_
  refine va_get (D := (dC, dI)) (ci := 16) (v := .ref (a 14)) (C := RX15) (T := TX15) (N := 28) hx hb hts hi_dm_X15_enter_X15 hown hK hP 0 rfl rfl 25 (by decide) (hts (.fieldLink RX15 52 "TimeMachineModel$Conditions" "sign" "[I") (List.mem_of_getElem? (i := 3) rfl)) (fun _ h9 => h9) rfl dX15_enter_62 ?_
  refine lv_iload_n hx hb dX15_enter_65 rfl (lv_at hl 1 rfl) ?_
  refine lv_aload_n hx hb dX15_enter_66 rfl (lv_at hl 0 rfl) ?_
  refine lv_iload_n hx hb dX15_enter_67 rfl (lv_at hl 2 rfl) ?_
  refine lv_aload_n hx hb dX15_enter_68 rfl (lv_at hl 0 rfl) ?_
  refine va_get (D := (dC, dI)) (ci := 16) (v := .ref (a 13)) (C := RX15) (T := TX15) (N := 28) hx hb hts hi_dm_X15_enter_X15 hown hK hP 0 rfl rfl 24 (by decide) (hts (.fieldLink RX15 49 "TimeMachineModel$Conditions" "last" "[I") (List.mem_of_getElem? (i := 4) rfl)) (fun _ h9 => h9) rfl dX15_enter_69 ?_
  refine lv_iload_n hx hb dX15_enter_72 rfl (lv_at hl 1 rfl) ?_
  obtain ⟨i6, h⟩ := nd_ck_e h
  refine va_iald (i := x1) hx hb hK hP 13 12 rfl rfl i6 dX15_enter_73 ?_
  obtain ⟨q7, s8, hq, h⟩ := nd_b2_e h
  have hPc := hP
  have hDc := hD
  have hKc := hK
  have hFc := nd_rs hD hS hA
  refine nd_cVi (As := [.int x2, .int (sR s0.1 9 (Int32.toNatClampNeg x1))]) (rest := [.int x1, .ref (a 14)]) (q := q7) (w' := dw_X15 a ac s8) ⟨hx, hb, hml, hown, hts⟩ (fun sz => dm_X15_least l hlt dC dI a ac n (x2) ((sR s0.1 9 (Int32.toNatClampNeg x1))) s0 hq sz) (cwV 2 hts gi_dm_X15_enter_0 rfl rfl rfl (by decide +kernel) ⟨Nat.le_of_ble_eq_true rfl, Nat.le_of_ble_eq_true rfl⟩) hPc hDc hKc hS hA hN (va_recv hKc hPc (ci := 16) (q0 := 0) rfl rfl) rfl hl.1 rfl (Nat.le_of_ble_eq_true rfl) dX15_enter_74 (fun H locs hP1 hD1 hk1 hS => ?_)
  have hP := hP1
  have hD := hD1.weaken (fun k q _ h => hFc q.1 h)
  obtain ⟨i10, h⟩ := nd_ck_e h
  refine va_iast (i := x1) (x := q7) hx hb hK hP hD hS 14 13 rfl rfl i10 dX15_enter_77 (fun H locs hP hD hS => ?_)
  obtain ⟨s11, es11, h⟩ := nd_let_e h
  have hP : va_P (dC, dI) vwCl (dw_X15 a ac s11) H := by rw [es11]; exact hP
  have hD : va_D A (dw_X15 a ac s11) := by rw [es11]; exact hD
  refine lv_aload_n hx hb dX15_enter_78 rfl (lv_at hl 0 rfl) ?_
  refine va_get (D := (dC, dI)) (ci := 16) (v := .ref (a 14)) (C := RX15) (T := TX15) (N := 28) hx hb hts hi_dm_X15_enter_X15 hown hK hP 0 rfl rfl 25 (by decide) (hts (.fieldLink RX15 52 "TimeMachineModel$Conditions" "sign" "[I") (List.mem_of_getElem? (i := 3) rfl)) (fun _ h9 => h9) rfl dX15_enter_79 ?_
  refine lv_iload_n hx hb dX15_enter_82 rfl (lv_at hl 1 rfl) ?_
  obtain ⟨i12, h⟩ := nd_ck_e h
  refine va_iald (i := x1) hx hb hK hP 14 13 rfl rfl i12 dX15_enter_83 ?_
  refine lv_if_lt (tgt := 106) hx hb dX15_enter_84 (by decide) (fun c13 => ?_) (fun c13 => ?_)
  · have h := nd_pos h c13
    refine lv_aload_n hx hb dX15_enter_106 rfl (lv_at hl 0 rfl) ?_
    refine va_get (D := (dC, dI)) (ci := 16) (v := .ref (a 15)) (C := RX15) (T := TX15) (N := 28) hx hb hts hi_dm_X15_enter_X15 hown hK hP 0 rfl rfl 26 (by decide) (hts (.fieldLink RX15 55 "TimeMachineModel$Conditions" "stage" "[I") (List.mem_of_getElem? (i := 9) rfl)) (fun _ h9 => h9) rfl dX15_enter_107 ?_
    refine lv_iload_n hx hb dX15_enter_110 rfl (lv_at hl 1 rfl) ?_
    refine lv_iconst (v := 2) hx hb dX15_enter_111 (by decide) ?_
    obtain ⟨i14, h⟩ := nd_ck_e h
    refine va_iast (i := x1) (x := 2) hx hb hK hP hD hS 15 14 rfl rfl i14 dX15_enter_112 (fun H locs hP hD hS => ?_)
    obtain ⟨s15, es15, h⟩ := nd_let_e h
    have hP : va_P (dC, dI) vwCl (dw_X15 a ac s15) H := by rw [es15]; exact hP
    have hD : va_D A (dw_X15 a ac s15) := by rw [es15]; exact hD
    refine lv_aload_n hx hb dX15_enter_113 rfl (lv_at hl 0 rfl) ?_
    refine va_get (D := (dC, dI)) (ci := 16) (v := .ref (a 14)) (C := RX15) (T := TX15) (N := 28) hx hb hts hi_dm_X15_enter_X15 hown hK hP 0 rfl rfl 25 (by decide) (hts (.fieldLink RX15 52 "TimeMachineModel$Conditions" "sign" "[I") (List.mem_of_getElem? (i := 3) rfl)) (fun _ h9 => h9) rfl dX15_enter_114 ?_
    refine lv_iload_n hx hb dX15_enter_117 rfl (lv_at hl 1 rfl) ?_
    refine lv_iload_n hx hb dX15_enter_118 rfl (lv_at hl 2 rfl) ?_
    obtain ⟨i16, h⟩ := nd_ck_e h
    refine va_iast (i := x1) (x := x2) hx hb hK hP hD hS 14 13 rfl rfl i16 dX15_enter_119 (fun H locs hP hD hS => ?_)
    obtain ⟨s17, es17, h⟩ := nd_let_e h
    have hP : va_P (dC, dI) vwCl (dw_X15 a ac s17) H := by rw [es17]; exact hP
    have hD : va_D A (dw_X15 a ac s17) := by rw [es17]; exact hD
    refine lv_iload_n hx hb dX15_enter_120 rfl (lv_at hl 3 rfl) ?_
    by_cases c18 : x3 = 1
    · have h := nd_pos h c18
      refine lv_tableIn (off := 143) (tgt := 264) hx hb dX15_enter_121 (by rw [c18]; decide) (by rw [c18]; decide) (by rw [c18]; decide) (by decide) ?_
      refine lv_aload_n hx hb dX15_enter_264 rfl (lv_at hl 0 rfl) ?_
      refine lv_aload_n hx hb dX15_enter_265 rfl (lv_at hl 0 rfl) ?_
      refine va_get (D := (dC, dI)) (ci := 16) (v := .ref (a 6)) (C := RX15) (T := TX15) (N := 28) hx hb hts hi_dm_X15_enter_X15 hown hK hP 0 rfl rfl 7 (by decide) (hts (.fieldLink RX15 27 "TimeMachineModel$Conditions" "number" "[J") (List.mem_of_getElem? (i := 10) rfl)) (fun _ h9 => h9) rfl dX15_enter_266 ?_
      refine lv_iload_n hx hb dX15_enter_269 rfl (lv_at hl 2 rfl) ?_
      obtain ⟨i19, h⟩ := nd_ck_e h
      refine va_lald (i := x2) hx hb hK hP 6 5 rfl rfl i19 dX15_enter_270 ?_
      obtain ⟨s21, hq, h⟩ := nd_b1_e h
      have hPc := hP
      have hDc := hD
      have hKc := hK
      have hFc := nd_rs hD hS hA
      refine nd_cVv (As := [.long (sQ s17.1 0 (Int32.toNatClampNeg x2))]) (rest := []) (w' := dw_X15 a ac s21) ⟨hx, hb, hml, hown, hts⟩ (fun sz => dm_X15_give l hlt dC dI a ac n ((sQ s17.1 0 (Int32.toNatClampNeg x2))) s17 hq sz) (cwV 1 hts gi_dm_X15_enter_1 rfl rfl rfl (by decide +kernel) ⟨Nat.le_of_ble_eq_true rfl, Nat.le_of_ble_eq_true rfl⟩) hPc hDc hKc hS hA hN (va_recv hKc hPc (ci := 16) (q0 := 0) rfl rfl) rfl hl.1 rfl (Nat.le_of_ble_eq_true rfl) dX15_enter_271 (fun H locs hP1 hD1 hk1 hS => ?_)
      have hP := hP1
      have hD := hD1.weaken (fun k q _ h => hFc q.1 h)
      refine lv_goto (tgt := 408) hx hb dX15_enter_274 (by decide) ?_
      exact (db_X15_enter_408 C K)  s21 _ _ _ h hP hD hS (lv_sub hl [] rfl)
    have h := nd_neg h c18
    by_cases c23 : x3 = 2
    · have h := nd_pos h c23
      refine lv_tableIn (off := 156) (tgt := 277) hx hb dX15_enter_121 (by rw [c23]; decide) (by rw [c23]; decide) (by rw [c23]; decide) (by decide) ?_
      refine lv_aload_n hx hb dX15_enter_277 rfl (lv_at hl 0 rfl) ?_
      refine lv_aload_n hx hb dX15_enter_278 rfl (lv_at hl 0 rfl) ?_
      refine va_get (D := (dC, dI)) (ci := 16) (v := .ref (a 17)) (C := RX15) (T := TX15) (N := 28) hx hb hts hi_dm_X15_enter_X15 hown hK hP 0 rfl rfl 0 (by decide) (hts (.fieldLink RX15 61 "TimeMachineModel$Conditions" "m" "LTimeMachineModel$Machine;") (List.mem_of_getElem? (i := 14) rfl)) (fun _ h9 => h9) rfl dX15_enter_279 ?_
      refine lv_aload_n hx hb dX15_enter_282 rfl (lv_at hl 0 rfl) ?_
      refine va_get (D := (dC, dI)) (ci := 16) (v := .ref (a 6)) (C := RX15) (T := TX15) (N := 28) hx hb hts hi_dm_X15_enter_X15 hown hK hP 0 rfl rfl 7 (by decide) (hts (.fieldLink RX15 27 "TimeMachineModel$Conditions" "number" "[J") (List.mem_of_getElem? (i := 10) rfl)) (fun _ h9 => h9) rfl dX15_enter_283 ?_
      refine lv_iload_n hx hb dX15_enter_286 rfl (lv_at hl 2 rfl) ?_
      obtain ⟨i24, h⟩ := nd_ck_e h
      refine va_lald (i := x2) hx hb hK hP 6 5 rfl rfl i24 dX15_enter_287 ?_
      refine lv_l2i hx hb dX15_enter_288 rfl ?_
      obtain ⟨q25, s26, hq, h⟩ := nd_b2_e h
      have hPc := dp_X15_17 hP
      have hDc := dd_X15_17 hD
      have hKc := dy_X15_17 hK
      have hFc := nd_rs hDc hS hA
      have hzA : ∀ q : Nat, H.size ≤ q → A q := fun q h => hA q (Nat.le_trans hS.1 h)
      refine nd_cVi (As := [.int ((sQ s17.1 0 (Int32.toNatClampNeg x2)).toInt32)]) (rest := [.ref (a 0)]) (q := q25) (w' := dw_X16 (fun k => a (k + 17)) (fun k => ac (k + 17)) s26) ⟨hx, hb, hml, hown, hts⟩ (fun sz => dm_X16_value l hlt dC dI (fun k => a (k + 17)) (fun k => ac (k + 17)) n (((sQ s17.1 0 (Int32.toNatClampNeg x2)).toInt32)) s17.2 hq sz) (cwV 1 hts gi_dm_X15_enter_2 rfl rfl rfl (by decide +kernel) ⟨Nat.le_of_ble_eq_true rfl, Nat.le_of_ble_eq_true rfl⟩) hPc hDc hKc hS hA hN (va_recv hKc hPc (ci := 17) (q0 := 0) rfl rfl) rfl hl.1 rfl (Nat.le_of_ble_eq_true rfl) dX15_enter_289 (fun H locs hP1 hD1 hk1 hS => ?_)
      obtain ⟨hP, hD⟩ := dn_X15_17 hP hD hzA hk1 hP1 hD1
      obtain ⟨s28, es28, h⟩ := nd_let_e h
      have hP : va_P (dC, dI) vwCl (dw_X15 a ac s28) H := by rw [es28]; exact hP
      have hD : va_D A (dw_X15 a ac s28) := by rw [es28]; exact hD
      refine lv_i2l hx hb dX15_enter_292 rfl ?_
      obtain ⟨s30, hq, h⟩ := nd_b1_e h
      have hPc := hP
      have hDc := hD
      have hKc := hK
      have hFc := nd_rs hD hS hA
      refine nd_cVv (As := [.long (q25.toInt64)]) (rest := []) (w' := dw_X15 a ac s30) ⟨hx, hb, hml, hown, hts⟩ (fun sz => dm_X15_give l hlt dC dI a ac n ((q25.toInt64)) s28 hq sz) (cwV 1 hts gi_dm_X15_enter_1 rfl rfl rfl (by decide +kernel) ⟨Nat.le_of_ble_eq_true rfl, Nat.le_of_ble_eq_true rfl⟩) hPc hDc hKc hS hA hN (va_recv hKc hPc (ci := 16) (q0 := 0) rfl rfl) rfl hl.1 rfl (Nat.le_of_ble_eq_true rfl) dX15_enter_293 (fun H locs hP1 hD1 hk1 hS => ?_)
      have hP := hP1
      have hD := hD1.weaken (fun k q _ h => hFc q.1 h)
      refine lv_goto (tgt := 408) hx hb dX15_enter_296 (by decide) ?_
      exact (db_X15_enter_408 C K)  s30 _ _ _ h hP hD hS (lv_sub hl [] rfl)
    have h := nd_neg h c23
    by_cases c32 : x3 = 3
    · have h := nd_pos h c32
      refine lv_tableIn (off := 178) (tgt := 299) hx hb dX15_enter_121 (by rw [c32]; decide) (by rw [c32]; decide) (by rw [c32]; decide) (by decide) ?_
      refine lv_aload_n hx hb dX15_enter_299 rfl (lv_at hl 0 rfl) ?_
      refine lv_aload_n hx hb dX15_enter_300 rfl (lv_at hl 0 rfl) ?_
      refine va_get (D := (dC, dI)) (ci := 16) (v := .ref (a 17)) (C := RX15) (T := TX15) (N := 28) hx hb hts hi_dm_X15_enter_X15 hown hK hP 0 rfl rfl 0 (by decide) (hts (.fieldLink RX15 61 "TimeMachineModel$Conditions" "m" "LTimeMachineModel$Machine;") (List.mem_of_getElem? (i := 14) rfl)) (fun _ h9 => h9) rfl dX15_enter_301 ?_
      refine lv_bipush (v := 32) hx hb dX15_enter_304 (by decide) ?_
      obtain ⟨q33, s34, hq, h⟩ := nd_b2_e h
      have hPc := dp_X15_17 hP
      have hDc := dd_X15_17 hD
      have hKc := dy_X15_17 hK
      have hFc := nd_rs hDc hS hA
      have hzA : ∀ q : Nat, H.size ≤ q → A q := fun q h => hA q (Nat.le_trans hS.1 h)
      refine nd_cVi (As := [.int 32]) (rest := [.ref (a 0)]) (q := q33) (w' := dw_X16 (fun k => a (k + 17)) (fun k => ac (k + 17)) s34) ⟨hx, hb, hml, hown, hts⟩ (fun sz => dm_X16_value l hlt dC dI (fun k => a (k + 17)) (fun k => ac (k + 17)) n (32) s17.2 hq sz) (cwV 1 hts gi_dm_X15_enter_2 rfl rfl rfl (by decide +kernel) ⟨Nat.le_of_ble_eq_true rfl, Nat.le_of_ble_eq_true rfl⟩) hPc hDc hKc hS hA hN (va_recv hKc hPc (ci := 17) (q0 := 0) rfl rfl) rfl hl.1 rfl (Nat.le_of_ble_eq_true rfl) dX15_enter_306 (fun H locs hP1 hD1 hk1 hS => ?_)
      obtain ⟨hP, hD⟩ := dn_X15_17 hP hD hzA hk1 hP1 hD1
      obtain ⟨s36, es36, h⟩ := nd_let_e h
      have hP : va_P (dC, dI) vwCl (dw_X15 a ac s36) H := by rw [es36]; exact hP
      have hD : va_D A (dw_X15 a ac s36) := by rw [es36]; exact hD
      refine lv_i2l hx hb dX15_enter_309 rfl ?_
      obtain ⟨s38, hq, h⟩ := nd_b1_e h
      have hPc := hP
      have hDc := hD
      have hKc := hK
      have hFc := nd_rs hD hS hA
      refine nd_cVv (As := [.long (q33.toInt64)]) (rest := []) (w' := dw_X15 a ac s38) ⟨hx, hb, hml, hown, hts⟩ (fun sz => dm_X15_give l hlt dC dI a ac n ((q33.toInt64)) s36 hq sz) (cwV 1 hts gi_dm_X15_enter_1 rfl rfl rfl (by decide +kernel) ⟨Nat.le_of_ble_eq_true rfl, Nat.le_of_ble_eq_true rfl⟩) hPc hDc hKc hS hA hN (va_recv hKc hPc (ci := 16) (q0 := 0) rfl rfl) rfl hl.1 rfl (Nat.le_of_ble_eq_true rfl) dX15_enter_310 (fun H locs hP1 hD1 hk1 hS => ?_)
      have hP := hP1
      have hD := hD1.weaken (fun k q _ h => hFc q.1 h)
      refine lv_goto (tgt := 408) hx hb dX15_enter_313 (by decide) ?_
      exact (db_X15_enter_408 C K)  s38 _ _ _ h hP hD hS (lv_sub hl [] rfl)
    have h := nd_neg h c32
    by_cases c40 : x3 = 4
    · have h := nd_pos h c40
      refine lv_tableIn (off := 195) (tgt := 316) hx hb dX15_enter_121 (by rw [c40]; decide) (by rw [c40]; decide) (by rw [c40]; decide) (by decide) ?_
      refine lv_aload_n hx hb dX15_enter_316 rfl (lv_at hl 0 rfl) ?_
      refine lv_aload_n hx hb dX15_enter_317 rfl (lv_at hl 0 rfl) ?_
      refine va_get (D := (dC, dI)) (ci := 16) (v := .ref (a 17)) (C := RX15) (T := TX15) (N := 28) hx hb hts hi_dm_X15_enter_X15 hown hK hP 0 rfl rfl 0 (by decide) (hts (.fieldLink RX15 61 "TimeMachineModel$Conditions" "m" "LTimeMachineModel$Machine;") (List.mem_of_getElem? (i := 14) rfl)) (fun _ h9 => h9) rfl dX15_enter_318 ?_
      refine lv_iconst (v := 2) hx hb dX15_enter_321 (by decide) ?_
      obtain ⟨q41, s42, hq, h⟩ := nd_b2_e h
      have hPc := dp_X15_17 hP
      have hDc := dd_X15_17 hD
      have hKc := dy_X15_17 hK
      have hFc := nd_rs hDc hS hA
      have hzA : ∀ q : Nat, H.size ≤ q → A q := fun q h => hA q (Nat.le_trans hS.1 h)
      refine nd_cVl (As := [.int 2]) (rest := [.ref (a 0)]) (q := q41) (w' := dw_X16 (fun k => a (k + 17)) (fun k => ac (k + 17)) s42) ⟨hx, hb, hml, hown, hts⟩ (fun sz => dm_X16_count l hlt dC dI (fun k => a (k + 17)) (fun k => ac (k + 17)) n (2) s17.2 hq sz) (cwV 1 hts gi_dm_X15_enter_3 rfl rfl rfl (by decide +kernel) ⟨Nat.le_of_ble_eq_true rfl, Nat.le_of_ble_eq_true rfl⟩) hPc hDc hKc hS hA hN (va_recv hKc hPc (ci := 17) (q0 := 0) rfl rfl) rfl hl.1 rfl (Nat.le_of_ble_eq_true rfl) dX15_enter_322 (fun H locs hP1 hD1 hk1 hS => ?_)
      obtain ⟨hP, hD⟩ := dn_X15_17 hP hD hzA hk1 hP1 hD1
      obtain ⟨s44, es44, h⟩ := nd_let_e h
      have hP : va_P (dC, dI) vwCl (dw_X15 a ac s44) H := by rw [es44]; exact hP
      have hD : va_D A (dw_X15 a ac s44) := by rw [es44]; exact hD
      obtain ⟨s46, hq, h⟩ := nd_b1_e h
      have hPc := hP
      have hDc := hD
      have hKc := hK
      have hFc := nd_rs hD hS hA
      refine nd_cVv (As := [.long q41]) (rest := []) (w' := dw_X15 a ac s46) ⟨hx, hb, hml, hown, hts⟩ (fun sz => dm_X15_give l hlt dC dI a ac n (q41) s44 hq sz) (cwV 1 hts gi_dm_X15_enter_1 rfl rfl rfl (by decide +kernel) ⟨Nat.le_of_ble_eq_true rfl, Nat.le_of_ble_eq_true rfl⟩) hPc hDc hKc hS hA hN (va_recv hKc hPc (ci := 16) (q0 := 0) rfl rfl) rfl hl.1 rfl (Nat.le_of_ble_eq_true rfl) dX15_enter_325 (fun H locs hP1 hD1 hk1 hS => ?_)
      have hP := hP1
      have hD := hD1.weaken (fun k q _ h => hFc q.1 h)
      refine lv_goto (tgt := 408) hx hb dX15_enter_328 (by decide) ?_
      exact (db_X15_enter_408 C K)  s46 _ _ _ h hP hD hS (lv_sub hl [] rfl)
    have h := nd_neg h c40
    by_cases c48 : x3 = 5
    · have h := nd_pos h c48
      refine lv_tableIn (off := 210) (tgt := 331) hx hb dX15_enter_121 (by rw [c48]; decide) (by rw [c48]; decide) (by rw [c48]; decide) (by decide) ?_
      refine lv_aload_n hx hb dX15_enter_331 rfl (lv_at hl 0 rfl) ?_
      refine lv_aload_n hx hb dX15_enter_332 rfl (lv_at hl 0 rfl) ?_
      refine va_get (D := (dC, dI)) (ci := 16) (v := .ref (a 17)) (C := RX15) (T := TX15) (N := 28) hx hb hts hi_dm_X15_enter_X15 hown hK hP 0 rfl rfl 0 (by decide) (hts (.fieldLink RX15 61 "TimeMachineModel$Conditions" "m" "LTimeMachineModel$Machine;") (List.mem_of_getElem? (i := 14) rfl)) (fun _ h9 => h9) rfl dX15_enter_333 ?_
      obtain ⟨q49, s50, hq, h⟩ := nd_b2_e h
      have hPc := dp_X15_17 hP
      have hDc := dd_X15_17 hD
      have hKc := dy_X15_17 hK
      have hFc := nd_rs hDc hS hA
      have hzA : ∀ q : Nat, H.size ≤ q → A q := fun q h => hA q (Nat.le_trans hS.1 h)
      refine nd_cVi (As := []) (rest := [.ref (a 0)]) (q := q49) (w' := dw_X16 (fun k => a (k + 17)) (fun k => ac (k + 17)) s50) ⟨hx, hb, hml, hown, hts⟩ (fun sz => dm_X16_now l hlt dC dI (fun k => a (k + 17)) (fun k => ac (k + 17)) n  s17.2 hq sz) (cwV 0 hts gi_dm_X15_enter_4 rfl rfl rfl (by decide +kernel) ⟨Nat.le_of_ble_eq_true rfl, Nat.le_of_ble_eq_true rfl⟩) hPc hDc hKc hS hA hN (va_recv hKc hPc (ci := 17) (q0 := 0) rfl rfl) rfl hl.1 rfl (Nat.le_of_ble_eq_true rfl) dX15_enter_336 (fun H locs hP1 hD1 hk1 hS => ?_)
      obtain ⟨hP, hD⟩ := dn_X15_17 hP hD hzA hk1 hP1 hD1
      obtain ⟨s52, es52, h⟩ := nd_let_e h
      have hP : va_P (dC, dI) vwCl (dw_X15 a ac s52) H := by rw [es52]; exact hP
      have hD : va_D A (dw_X15 a ac s52) := by rw [es52]; exact hD
      refine lv_i2l hx hb dX15_enter_339 rfl ?_
      obtain ⟨s54, hq, h⟩ := nd_b1_e h
      have hPc := hP
      have hDc := hD
      have hKc := hK
      have hFc := nd_rs hD hS hA
      refine nd_cVv (As := [.long (q49.toInt64)]) (rest := []) (w' := dw_X15 a ac s54) ⟨hx, hb, hml, hown, hts⟩ (fun sz => dm_X15_give l hlt dC dI a ac n ((q49.toInt64)) s52 hq sz) (cwV 1 hts gi_dm_X15_enter_1 rfl rfl rfl (by decide +kernel) ⟨Nat.le_of_ble_eq_true rfl, Nat.le_of_ble_eq_true rfl⟩) hPc hDc hKc hS hA hN (va_recv hKc hPc (ci := 16) (q0 := 0) rfl rfl) rfl hl.1 rfl (Nat.le_of_ble_eq_true rfl) dX15_enter_340 (fun H locs hP1 hD1 hk1 hS => ?_)
      have hP := hP1
      have hD := hD1.weaken (fun k q _ h => hFc q.1 h)
      refine lv_goto (tgt := 408) hx hb dX15_enter_343 (by decide) ?_
      exact (db_X15_enter_408 C K)  s54 _ _ _ h hP hD hS (lv_sub hl [] rfl)
    have h := nd_neg h c48
    by_cases c56 : x3 = 6
    · have h := nd_pos h c56
      refine lv_tableIn (off := 272) (tgt := 393) hx hb dX15_enter_121 (by rw [c56]; decide) (by rw [c56]; decide) (by rw [c56]; decide) (by decide) ?_
      exact (db_X15_enter_393 C K) (x1) (x2) s17 _ _ _ h hP hD hS (lv_sub hl [0, 1, 2] rfl)
    have h := nd_neg h c56
    by_cases c61 : x3 = 7
    · have h := nd_pos h c61
      refine lv_tableIn (off := 272) (tgt := 393) hx hb dX15_enter_121 (by rw [c61]; decide) (by rw [c61]; decide) (by rw [c61]; decide) (by decide) ?_
      exact (db_X15_enter_393 C K) (x1) (x2) s17 _ _ _ h hP hD hS (lv_sub hl [0, 1, 2] rfl)
    have h := nd_neg h c61
    by_cases c62 : x3 = 8
    · have h := nd_pos h c62
      refine lv_tableIn (off := 259) (tgt := 380) hx hb dX15_enter_121 (by rw [c62]; decide) (by rw [c62]; decide) (by rw [c62]; decide) (by decide) ?_
      refine lv_aload_n hx hb dX15_enter_380 rfl (lv_at hl 0 rfl) ?_
      refine lv_aload_n hx hb dX15_enter_381 rfl (lv_at hl 0 rfl) ?_
      refine va_get (D := (dC, dI)) (ci := 16) (v := .ref (a 7)) (C := RX15) (T := TX15) (N := 28) hx hb hts hi_dm_X15_enter_X15 hown hK hP 0 rfl rfl 8 (by decide) (hts (.fieldLink RX15 31 "TimeMachineModel$Conditions" "before" "[J") (List.mem_of_getElem? (i := 28) rfl)) (fun _ h9 => h9) rfl dX15_enter_382 ?_
      refine lv_iload_n hx hb dX15_enter_385 rfl (lv_at hl 2 rfl) ?_
      obtain ⟨i63, h⟩ := nd_ck_e h
      refine va_lald (i := x2) hx hb hK hP 7 6 rfl rfl i63 dX15_enter_386 ?_
      obtain ⟨s65, hq, h⟩ := nd_b1_e h
      have hPc := hP
      have hDc := hD
      have hKc := hK
      have hFc := nd_rs hD hS hA
      refine nd_cVv (As := [.long (sQ s17.1 1 (Int32.toNatClampNeg x2))]) (rest := []) (w' := dw_X15 a ac s65) ⟨hx, hb, hml, hown, hts⟩ (fun sz => dm_X15_give l hlt dC dI a ac n ((sQ s17.1 1 (Int32.toNatClampNeg x2))) s17 hq sz) (cwV 1 hts gi_dm_X15_enter_1 rfl rfl rfl (by decide +kernel) ⟨Nat.le_of_ble_eq_true rfl, Nat.le_of_ble_eq_true rfl⟩) hPc hDc hKc hS hA hN (va_recv hKc hPc (ci := 16) (q0 := 0) rfl rfl) rfl hl.1 rfl (Nat.le_of_ble_eq_true rfl) dX15_enter_387 (fun H locs hP1 hD1 hk1 hS => ?_)
      have hP := hP1
      have hD := hD1.weaken (fun k q _ h => hFc q.1 h)
      refine lv_goto (tgt := 408) hx hb dX15_enter_390 (by decide) ?_
      exact (db_X15_enter_408 C K)  s65 _ _ _ h hP hD hS (lv_sub hl [] rfl)
    have h := nd_neg h c62
    by_cases c67 : x3 = 9
    · have h := nd_pos h c67
      refine lv_tableIn (off := 272) (tgt := 393) hx hb dX15_enter_121 (by rw [c67]; decide) (by rw [c67]; decide) (by rw [c67]; decide) (by decide) ?_
      exact (db_X15_enter_393 C K) (x1) (x2) s17 _ _ _ h hP hD hS (lv_sub hl [0, 1, 2] rfl)
    have h := nd_neg h c67
    by_cases c68 : x3 = 10
    · have h := nd_pos h c68
      refine lv_tableIn (off := 272) (tgt := 393) hx hb dX15_enter_121 (by rw [c68]; decide) (by rw [c68]; decide) (by rw [c68]; decide) (by decide) ?_
      exact (db_X15_enter_393 C K) (x1) (x2) s17 _ _ _ h hP hD hS (lv_sub hl [0, 1, 2] rfl)
    have h := nd_neg h c68
    by_cases c69 : x3 = 11
    · have h := nd_pos h c69
      refine lv_tableIn (off := 272) (tgt := 393) hx hb dX15_enter_121 (by rw [c69]; decide) (by rw [c69]; decide) (by rw [c69]; decide) (by decide) ?_
      exact (db_X15_enter_393 C K) (x1) (x2) s17 _ _ _ h hP hD hS (lv_sub hl [0, 1, 2] rfl)
    have h := nd_neg h c69
    by_cases c70 : x3 = 12
    · have h := nd_pos h c70
      refine lv_tableIn (off := 272) (tgt := 393) hx hb dX15_enter_121 (by rw [c70]; decide) (by rw [c70]; decide) (by rw [c70]; decide) (by decide) ?_
      exact (db_X15_enter_393 C K) (x1) (x2) s17 _ _ _ h hP hD hS (lv_sub hl [0, 1, 2] rfl)
    have h := nd_neg h c70
    by_cases c71 : x3 = 13
    · have h := nd_pos h c71
      refine lv_tableIn (off := 272) (tgt := 393) hx hb dX15_enter_121 (by rw [c71]; decide) (by rw [c71]; decide) (by rw [c71]; decide) (by decide) ?_
      exact (db_X15_enter_393 C K) (x1) (x2) s17 _ _ _ h hP hD hS (lv_sub hl [0, 1, 2] rfl)
    have h := nd_neg h c71
    by_cases c72 : x3 = 14
    · have h := nd_pos h c72
      refine lv_tableIn (off := 272) (tgt := 393) hx hb dX15_enter_121 (by rw [c72]; decide) (by rw [c72]; decide) (by rw [c72]; decide) (by decide) ?_
      exact (db_X15_enter_393 C K) (x1) (x2) s17 _ _ _ h hP hD hS (lv_sub hl [0, 1, 2] rfl)
    have h := nd_neg h c72
    by_cases c73 : x3 = 15
    · have h := nd_pos h c73
      refine lv_tableIn (off := 272) (tgt := 393) hx hb dX15_enter_121 (by rw [c73]; decide) (by rw [c73]; decide) (by rw [c73]; decide) (by decide) ?_
      exact (db_X15_enter_393 C K) (x1) (x2) s17 _ _ _ h hP hD hS (lv_sub hl [0, 1, 2] rfl)
    have h := nd_neg h c73
    by_cases c74 : x3 = 16
    · have h := nd_pos h c74
      refine lv_tableIn (off := 272) (tgt := 393) hx hb dX15_enter_121 (by rw [c74]; decide) (by rw [c74]; decide) (by rw [c74]; decide) (by decide) ?_
      exact (db_X15_enter_393 C K) (x1) (x2) s17 _ _ _ h hP hD hS (lv_sub hl [0, 1, 2] rfl)
    have h := nd_neg h c74
    by_cases c75 : x3 = 17
    · have h := nd_pos h c75
      refine lv_tableIn (off := 272) (tgt := 393) hx hb dX15_enter_121 (by rw [c75]; decide) (by rw [c75]; decide) (by rw [c75]; decide) (by decide) ?_
      exact (db_X15_enter_393 C K) (x1) (x2) s17 _ _ _ h hP hD hS (lv_sub hl [0, 1, 2] rfl)
    have h := nd_neg h c75
    by_cases c76 : x3 = 18
    · have h := nd_pos h c76
      refine lv_tableIn (off := 272) (tgt := 393) hx hb dX15_enter_121 (by rw [c76]; decide) (by rw [c76]; decide) (by rw [c76]; decide) (by decide) ?_
      exact (db_X15_enter_393 C K) (x1) (x2) s17 _ _ _ h hP hD hS (lv_sub hl [0, 1, 2] rfl)
    have h := nd_neg h c76
    by_cases c77 : x3 = 19
    · have h := nd_pos h c77
      refine lv_tableIn (off := 272) (tgt := 393) hx hb dX15_enter_121 (by rw [c77]; decide) (by rw [c77]; decide) (by rw [c77]; decide) (by decide) ?_
      exact (db_X15_enter_393 C K) (x1) (x2) s17 _ _ _ h hP hD hS (lv_sub hl [0, 1, 2] rfl)
    have h := nd_neg h c77
    by_cases c78 : x3 = 20
    · have h := nd_pos h c78
      refine lv_tableIn (off := 272) (tgt := 393) hx hb dX15_enter_121 (by rw [c78]; decide) (by rw [c78]; decide) (by rw [c78]; decide) (by decide) ?_
      exact (db_X15_enter_393 C K) (x1) (x2) s17 _ _ _ h hP hD hS (lv_sub hl [0, 1, 2] rfl)
    have h := nd_neg h c78
    by_cases c79 : x3 = 21
    · have h := nd_pos h c79
      refine lv_tableIn (off := 272) (tgt := 393) hx hb dX15_enter_121 (by rw [c79]; decide) (by rw [c79]; decide) (by rw [c79]; decide) (by decide) ?_
      exact (db_X15_enter_393 C K) (x1) (x2) s17 _ _ _ h hP hD hS (lv_sub hl [0, 1, 2] rfl)
    have h := nd_neg h c79
    by_cases c80 : x3 = 22
    · have h := nd_pos h c80
      refine lv_tableIn (off := 272) (tgt := 393) hx hb dX15_enter_121 (by rw [c80]; decide) (by rw [c80]; decide) (by rw [c80]; decide) (by decide) ?_
      exact (db_X15_enter_393 C K) (x1) (x2) s17 _ _ _ h hP hD hS (lv_sub hl [0, 1, 2] rfl)
    have h := nd_neg h c80
    by_cases c81 : x3 = 23
    · have h := nd_pos h c81
      refine lv_tableIn (off := 272) (tgt := 393) hx hb dX15_enter_121 (by rw [c81]; decide) (by rw [c81]; decide) (by rw [c81]; decide) (by decide) ?_
      exact (db_X15_enter_393 C K) (x1) (x2) s17 _ _ _ h hP hD hS (lv_sub hl [0, 1, 2] rfl)
    have h := nd_neg h c81
    by_cases c82 : x3 = 24
    · have h := nd_pos h c82
      refine lv_tableIn (off := 225) (tgt := 346) hx hb dX15_enter_121 (by rw [c82]; decide) (by rw [c82]; decide) (by rw [c82]; decide) (by decide) ?_
      exact (db_X15_enter_346 C K) (x1) (x2) s17 _ _ _ h hP hD hS (lv_sub hl [0, 1, 2] rfl)
    have h := nd_neg h c82
    by_cases c87 : x3 = 25
    · have h := nd_pos h c87
      refine lv_tableIn (off := 272) (tgt := 393) hx hb dX15_enter_121 (by rw [c87]; decide) (by rw [c87]; decide) (by rw [c87]; decide) (by decide) ?_
      exact (db_X15_enter_393 C K) (x1) (x2) s17 _ _ _ h hP hD hS (lv_sub hl [0, 1, 2] rfl)
    have h := nd_neg h c87
    by_cases c88 : x3 = 26
    · have h := nd_pos h c88
      refine lv_tableIn (off := 272) (tgt := 393) hx hb dX15_enter_121 (by rw [c88]; decide) (by rw [c88]; decide) (by rw [c88]; decide) (by decide) ?_
      exact (db_X15_enter_393 C K) (x1) (x2) s17 _ _ _ h hP hD hS (lv_sub hl [0, 1, 2] rfl)
    have h := nd_neg h c88
    by_cases c89 : x3 = 27
    · have h := nd_pos h c89
      refine lv_tableIn (off := 272) (tgt := 393) hx hb dX15_enter_121 (by rw [c89]; decide) (by rw [c89]; decide) (by rw [c89]; decide) (by decide) ?_
      exact (db_X15_enter_393 C K) (x1) (x2) s17 _ _ _ h hP hD hS (lv_sub hl [0, 1, 2] rfl)
    have h := nd_neg h c89
    by_cases c90 : x3 = 28
    · have h := nd_pos h c90
      refine lv_tableIn (off := 225) (tgt := 346) hx hb dX15_enter_121 (by rw [c90]; decide) (by rw [c90]; decide) (by rw [c90]; decide) (by decide) ?_
      exact (db_X15_enter_346 C K) (x1) (x2) s17 _ _ _ h hP hD hS (lv_sub hl [0, 1, 2] rfl)
    have h := nd_neg h c90
    by_cases c91 : x3 = 29
    · have h := nd_pos h c91
      refine lv_tableIn (off := 225) (tgt := 346) hx hb dX15_enter_121 (by rw [c91]; decide) (by rw [c91]; decide) (by rw [c91]; decide) (by decide) ?_
      exact (db_X15_enter_346 C K) (x1) (x2) s17 _ _ _ h hP hD hS (lv_sub hl [0, 1, 2] rfl)
    have h := nd_neg h c91
    by_cases c92 : x3 = 30
    · have h := nd_pos h c92
      refine lv_tableIn (off := 272) (tgt := 393) hx hb dX15_enter_121 (by rw [c92]; decide) (by rw [c92]; decide) (by rw [c92]; decide) (by decide) ?_
      exact (db_X15_enter_393 C K) (x1) (x2) s17 _ _ _ h hP hD hS (lv_sub hl [0, 1, 2] rfl)
    have h := nd_neg h c92
    by_cases c93 : x3 = 31
    · have h := nd_pos h c93
      refine lv_tableIn (off := 272) (tgt := 393) hx hb dX15_enter_121 (by rw [c93]; decide) (by rw [c93]; decide) (by rw [c93]; decide) (by decide) ?_
      exact (db_X15_enter_393 C K) (x1) (x2) s17 _ _ _ h hP hD hS (lv_sub hl [0, 1, 2] rfl)
    have h := nd_neg h c93
    by_cases c94 : x3 = 32
    · have h := nd_pos h c94
      refine lv_tableIn (off := 241) (tgt := 362) hx hb dX15_enter_121 (by rw [c94]; decide) (by rw [c94]; decide) (by rw [c94]; decide) (by decide) ?_
      refine lv_aload_n hx hb dX15_enter_362 rfl (lv_at hl 0 rfl) ?_
      refine lv_iload_n hx hb dX15_enter_363 rfl (lv_at hl 2 rfl) ?_
      refine lv_iconst (v := 1) hx hb dX15_enter_364 (by decide) ?_
      refine lv_iadd hx hb dX15_enter_365 ?_
      refine lv_aload_n hx hb dX15_enter_366 rfl (lv_at hl 0 rfl) ?_
      refine va_get (D := (dC, dI)) (ci := 16) (v := .ref (a 13)) (C := RX15) (T := TX15) (N := 28) hx hb hts hi_dm_X15_enter_X15 hown hK hP 0 rfl rfl 24 (by decide) (hts (.fieldLink RX15 49 "TimeMachineModel$Conditions" "last" "[I") (List.mem_of_getElem? (i := 4) rfl)) (fun _ h9 => h9) rfl dX15_enter_367 ?_
      refine lv_iload_n hx hb dX15_enter_370 rfl (lv_at hl 1 rfl) ?_
      obtain ⟨i95, h⟩ := nd_ck_e h
      refine va_iald (i := x1) hx hb hK hP 13 12 rfl rfl i95 dX15_enter_371 ?_
      refine lv_iconst (v := 1) hx hb dX15_enter_372 (by decide) ?_
      refine lv_isub hx hb dX15_enter_373 ?_
      obtain ⟨s97, hq, h⟩ := nd_b1_e h
      have hPc := hP
      have hDc := hD
      have hKc := hK
      have hFc := nd_rs hD hS hA
      refine nd_cVv (As := [.int (x2 + 1), .int ((sR s17.1 9 (Int32.toNatClampNeg x1)) - 1)]) (rest := []) (w' := dw_X15 a ac s97) ⟨hx, hb, hml, hown, hts⟩ (fun sz => dm_X15_begin l hlt dC dI a ac n ((x2 + 1)) (((sR s17.1 9 (Int32.toNatClampNeg x1)) - 1)) s17 hq sz) (cwV 2 hts gi_dm_X15_enter_5 rfl rfl rfl (by decide +kernel) ⟨Nat.le_of_ble_eq_true rfl, Nat.le_of_ble_eq_true rfl⟩) hPc hDc hKc hS hA hN (va_recv hKc hPc (ci := 16) (q0 := 0) rfl rfl) rfl hl.1 rfl (Nat.le_of_ble_eq_true rfl) dX15_enter_374 (fun H locs hP1 hD1 hk1 hS => ?_)
      have hP := hP1
      have hD := hD1.weaken (fun k q _ h => hFc q.1 h)
      refine lv_goto (tgt := 408) hx hb dX15_enter_377 (by decide) ?_
      exact (db_X15_enter_408 C K)  s97 _ _ _ h hP hD hS (lv_sub hl [] rfl)
    have h := nd_neg h c94
    refine lv_tableOut (tgt := 393) hx hb dX15_enter_121 (by have g0 := nv_nei c18 (k := 1) (by decide); have g1 := nv_nei c23 (k := 2) (by decide); have g2 := nv_nei c32 (k := 3) (by decide); have g3 := nv_nei c40 (k := 4) (by decide); have g4 := nv_nei c48 (k := 5) (by decide); have g5 := nv_nei c56 (k := 6) (by decide); have g6 := nv_nei c61 (k := 7) (by decide); have g7 := nv_nei c62 (k := 8) (by decide); have g8 := nv_nei c67 (k := 9) (by decide); have g9 := nv_nei c68 (k := 10) (by decide); have g10 := nv_nei c69 (k := 11) (by decide); have g11 := nv_nei c70 (k := 12) (by decide); have g12 := nv_nei c71 (k := 13) (by decide); have g13 := nv_nei c72 (k := 14) (by decide); have g14 := nv_nei c73 (k := 15) (by decide); have g15 := nv_nei c74 (k := 16) (by decide); have g16 := nv_nei c75 (k := 17) (by decide); have g17 := nv_nei c76 (k := 18) (by decide); have g18 := nv_nei c77 (k := 19) (by decide); have g19 := nv_nei c78 (k := 20) (by decide); have g20 := nv_nei c79 (k := 21) (by decide); have g21 := nv_nei c80 (k := 22) (by decide); have g22 := nv_nei c81 (k := 23) (by decide); have g23 := nv_nei c82 (k := 24) (by decide); have g24 := nv_nei c87 (k := 25) (by decide); have g25 := nv_nei c88 (k := 26) (by decide); have g26 := nv_nei c89 (k := 27) (by decide); have g27 := nv_nei c90 (k := 28) (by decide); have g28 := nv_nei c91 (k := 29) (by decide); have g29 := nv_nei c92 (k := 30) (by decide); have g30 := nv_nei c93 (k := 31) (by decide); have g31 := nv_nei c94 (k := 32) (by decide); omega) (by decide) ?_
    exact (db_X15_enter_393 C K) (x1) (x2) s17 _ _ _ h hP hD hS (lv_sub hl [0, 1, 2] rfl)
  · have h := nd_neg h c13
    refine lv_aload_n hx hb dX15_enter_87 rfl (lv_at hl 0 rfl) ?_
    refine va_get (D := (dC, dI)) (ci := 16) (v := .ref (a 15)) (C := RX15) (T := TX15) (N := 28) hx hb hts hi_dm_X15_enter_X15 hown hK hP 0 rfl rfl 26 (by decide) (hts (.fieldLink RX15 55 "TimeMachineModel$Conditions" "stage" "[I") (List.mem_of_getElem? (i := 9) rfl)) (fun _ h9 => h9) rfl dX15_enter_88 ?_
    refine lv_iload_n hx hb dX15_enter_91 rfl (lv_at hl 1 rfl) ?_
    refine lv_iconst (v := 1) hx hb dX15_enter_92 (by decide) ?_
    obtain ⟨i99, h⟩ := nd_ck_e h
    refine va_iast (i := x1) (x := 1) hx hb hK hP hD hS 15 14 rfl rfl i99 dX15_enter_93 (fun H locs hP hD hS => ?_)
    obtain ⟨s100, es100, h⟩ := nd_let_e h
    have hP : va_P (dC, dI) vwCl (dw_X15 a ac s100) H := by rw [es100]; exact hP
    have hD : va_D A (dw_X15 a ac s100) := by rw [es100]; exact hD
    refine lv_aload_n hx hb dX15_enter_94 rfl (lv_at hl 0 rfl) ?_
    refine lv_iload_n hx hb dX15_enter_95 rfl (lv_at hl 2 rfl) ?_
    refine lv_aload_n hx hb dX15_enter_96 rfl (lv_at hl 0 rfl) ?_
    refine va_get (D := (dC, dI)) (ci := 16) (v := .ref (a 14)) (C := RX15) (T := TX15) (N := 28) hx hb hts hi_dm_X15_enter_X15 hown hK hP 0 rfl rfl 25 (by decide) (hts (.fieldLink RX15 52 "TimeMachineModel$Conditions" "sign" "[I") (List.mem_of_getElem? (i := 3) rfl)) (fun _ h9 => h9) rfl dX15_enter_97 ?_
    refine lv_iload_n hx hb dX15_enter_100 rfl (lv_at hl 1 rfl) ?_
    obtain ⟨i101, h⟩ := nd_ck_e h
    refine va_iald (i := x1) hx hb hK hP 14 13 rfl rfl i101 dX15_enter_101 ?_
    obtain ⟨s103, hq, h⟩ := nd_b1_e h
    have hPc := hP
    have hDc := hD
    have hKc := hK
    have hFc := nd_rs hD hS hA
    refine nd_cVv (As := [.int x2, .int (sR s100.1 10 (Int32.toNatClampNeg x1))]) (rest := []) (w' := dw_X15 a ac s103) ⟨hx, hb, hml, hown, hts⟩ (fun sz => dm_X15_begin l hlt dC dI a ac n (x2) ((sR s100.1 10 (Int32.toNatClampNeg x1))) s100 hq sz) (cwV 2 hts gi_dm_X15_enter_5 rfl rfl rfl (by decide +kernel) ⟨Nat.le_of_ble_eq_true rfl, Nat.le_of_ble_eq_true rfl⟩) hPc hDc hKc hS hA hN (va_recv hKc hPc (ci := 16) (q0 := 0) rfl rfl) rfl hl.1 rfl (Nat.le_of_ble_eq_true rfl) dX15_enter_102 (fun H locs hP1 hD1 hk1 hS => ?_)
    have hP := hP1
    have hD := hD1.weaken (fun k q _ h => hFc q.1 h)
    exact K _ _ _ _ _ dX15_enter_105 (Option.some.inj h).symm hP hD hS
set_option maxHeartbeats 40000000 in
set_option maxRecDepth 100000 in
theorem db_X15_enter_0 {p : Program} {l : Launch} {e : Env} {s : State} {m : MethodId} {args : Array Value} {below : List Frame} {meth : Method} {c : Code} {Q : State → Prop} {A : Nat → Prop} {dC : Nat → ClassId} {dI : Nat → Nat → Nat} {a : Nat → Nat} {ac : Nat → ClassId} {n : Nat} {r : St × (St × (St))} (C : nd_C p l s m args c A (dC, dI) cX15_enter 4 RX15 ow_dm_X15_enter (dk_X15 ac)) (K : nd_Kv p l e (headSpec ow_dm_X15_enter ({ frames := 2, cells := 0, slots := 0, locals := 46 })).room s m args below meth c Q A (dC, dI) cX15_enter (St × (St × (St))) (dw_X15 a ac) r) : dj_X15_enter_0 p l e s m args below meth c Q A dC dI a ac (df_X15_enter_0 n) r := by
  obtain ⟨hlt, hx, hb, hml, hown, hts, hN, hA, hK⟩ := id C
  intro v0 s0 H locs ls h hP hD hS hl
  unfold df_X15_enter_0 at h
  refine lv_aload_n hx hb dX15_enter_0 rfl (lv_at hl 0 rfl) ?_
  refine va_get (D := (dC, dI)) (ci := 16) (v := .ref (a 12)) (C := RX15) (T := TX15) (N := 28) hx hb hts hi_dm_X15_enter_X15 hown hK hP 0 rfl rfl 23 (by decide) (hts (.fieldLink RX15 46 "TimeMachineModel$Conditions" "first" "[I") (List.mem_of_getElem? (i := 1) rfl)) (fun _ h9 => h9) rfl dX15_enter_1 ?_
  refine lv_iload_n hx hb dX15_enter_4 rfl (lv_at hl 1 rfl) ?_
  obtain ⟨i1, h⟩ := nd_ck_e h
  refine va_iald (i := v0) hx hb hK hP 12 11 rfl rfl i1 dX15_enter_5 ?_
  refine lv_topi (fun z2 ez2 => ?_)
  have h := nd_at h ez2
  refine lv_istore_n (lv' := [(2, .int z2), (0, .ref (a 0)), (1, .int v0)]) hx hb dX15_enter_6 rfl hl (by decide) rfl (fun ls hl => ?_)
  refine lv_aload_n hx hb dX15_enter_7 rfl (lv_at hl 1 rfl) ?_
  refine va_get (D := (dC, dI)) (ci := 16) (v := .ref (a 4)) (C := RX15) (T := TX15) (N := 28) hx hb hts hi_dm_X15_enter_X15 hown hK hP 0 rfl rfl 5 (by decide) (hts (.fieldLink RX15 21 "TimeMachineModel$Conditions" "kind" "[I") (List.mem_of_getElem? (i := 2) rfl)) (fun _ h9 => h9) rfl dX15_enter_8 ?_
  refine lv_iload_n hx hb dX15_enter_11 rfl (lv_at hl 0 rfl) ?_
  obtain ⟨i3, h⟩ := nd_ck_e h
  refine va_iald (i := z2) hx hb hK hP 4 3 rfl rfl i3 dX15_enter_12 ?_
  refine lv_topi (fun z4 ez4 => ?_)
  have h := nd_at h ez4
  refine lv_istore_n (lv' := [(3, .int z4), (2, .int z2), (0, .ref (a 0)), (1, .int v0)]) hx hb dX15_enter_13 rfl hl (by decide) rfl (fun ls hl => ?_)
  refine lv_iload_n hx hb dX15_enter_14 rfl (lv_at hl 0 rfl) ?_
  refine lv_bipush (v := 30) hx hb dX15_enter_15 (by decide) ?_
  refine lv_icmp_ne (tgt := 61) hx hb dX15_enter_17 (by decide) (fun c5 => ?_) (fun c5 => ?_)
  · have h := nd_neg h c5
    exact (db_X15_enter_61 C K) (v0) (z2) (z4) s0 _ _ _ h hP hD hS (lv_sub hl [2, 3, 1, 0] rfl)
  · have h := nd_pos h c5
    refine lv_aload_n hx hb dX15_enter_20 rfl (lv_at hl 2 rfl) ?_
    refine va_get (D := (dC, dI)) (ci := 16) (v := .ref (a 5)) (C := RX15) (T := TX15) (N := 28) hx hb hts hi_dm_X15_enter_X15 hown hK hP 0 rfl rfl 6 (by decide) (hts (.fieldLink RX15 24 "TimeMachineModel$Conditions" "partner" "[I") (List.mem_of_getElem? (i := 29) rfl)) (fun _ h9 => h9) rfl dX15_enter_21 ?_
    refine lv_iload_n hx hb dX15_enter_24 rfl (lv_at hl 1 rfl) ?_
    obtain ⟨i105, h⟩ := nd_ck_e h
    refine va_iald (i := z2) hx hb hK hP 5 4 rfl rfl i105 dX15_enter_25 ?_
    refine lv_aload_n hx hb dX15_enter_26 rfl (lv_at hl 2 rfl) ?_
    refine va_get (D := (dC, dI)) (ci := 16) (v := .ref (a 13)) (C := RX15) (T := TX15) (N := 28) hx hb hts hi_dm_X15_enter_X15 hown hK hP 0 rfl rfl 24 (by decide) (hts (.fieldLink RX15 49 "TimeMachineModel$Conditions" "last" "[I") (List.mem_of_getElem? (i := 4) rfl)) (fun _ h9 => h9) rfl dX15_enter_27 ?_
    refine lv_iload_n hx hb dX15_enter_30 rfl (lv_at hl 3 rfl) ?_
    obtain ⟨i106, h⟩ := nd_ck_e h
    refine va_iald (i := v0) hx hb hK hP 13 12 rfl rfl i106 dX15_enter_31 ?_
    refine lv_iconst (v := 1) hx hb dX15_enter_32 (by decide) ?_
    refine lv_isub hx hb dX15_enter_33 ?_
    refine lv_icmp_ne (tgt := 61) hx hb dX15_enter_34 (by decide) (fun c107 => ?_) (fun c107 => ?_)
    · have h := nd_neg h c107
      exact (db_X15_enter_61 C K) (v0) (z2) (z4) s0 _ _ _ h hP hD hS (lv_sub hl [2, 3, 1, 0] rfl)
    · have h := nd_pos h c107
      refine lv_aload_n hx hb dX15_enter_37 rfl (lv_at hl 2 rfl) ?_
      refine va_get (D := (dC, dI)) (ci := 16) (v := .ref (a 12)) (C := RX15) (T := TX15) (N := 28) hx hb hts hi_dm_X15_enter_X15 hown hK hP 0 rfl rfl 23 (by decide) (hts (.fieldLink RX15 46 "TimeMachineModel$Conditions" "first" "[I") (List.mem_of_getElem? (i := 1) rfl)) (fun _ h9 => h9) rfl dX15_enter_38 ?_
      refine lv_iload_n hx hb dX15_enter_41 rfl (lv_at hl 3 rfl) ?_
      refine lv_iload_n hx hb dX15_enter_42 rfl (lv_at hl 1 rfl) ?_
      refine lv_iconst (v := 1) hx hb dX15_enter_43 (by decide) ?_
      refine lv_iadd hx hb dX15_enter_44 ?_
      obtain ⟨i108, h⟩ := nd_ck_e h
      refine va_iast (i := v0) (x := (z2 + 1)) hx hb hK hP hD hS 12 11 rfl rfl i108 dX15_enter_45 (fun H locs hP hD hS => ?_)
      obtain ⟨s109, es109, h⟩ := nd_let_e h
      have hP : va_P (dC, dI) vwCl (dw_X15 a ac s109) H := by rw [es109]; exact hP
      have hD : va_D A (dw_X15 a ac s109) := by rw [es109]; exact hD
      refine lv_aload_n hx hb dX15_enter_46 rfl (lv_at hl 2 rfl) ?_
      refine va_get (D := (dC, dI)) (ci := 16) (v := .ref (a 13)) (C := RX15) (T := TX15) (N := 28) hx hb hts hi_dm_X15_enter_X15 hown hK hP 0 rfl rfl 24 (by decide) (hts (.fieldLink RX15 49 "TimeMachineModel$Conditions" "last" "[I") (List.mem_of_getElem? (i := 4) rfl)) (fun _ h9 => h9) rfl dX15_enter_47 ?_
      refine lv_iload_n hx hb dX15_enter_50 rfl (lv_at hl 3 rfl) ?_
      refine lv_aload_n hx hb dX15_enter_51 rfl (lv_at hl 2 rfl) ?_
      refine va_get (D := (dC, dI)) (ci := 16) (v := .ref (a 13)) (C := RX15) (T := TX15) (N := 28) hx hb hts hi_dm_X15_enter_X15 hown hK hP 0 rfl rfl 24 (by decide) (hts (.fieldLink RX15 49 "TimeMachineModel$Conditions" "last" "[I") (List.mem_of_getElem? (i := 4) rfl)) (fun _ h9 => h9) rfl dX15_enter_52 ?_
      refine lv_iload_n hx hb dX15_enter_55 rfl (lv_at hl 3 rfl) ?_
      obtain ⟨i110, h⟩ := nd_ck_e h
      refine va_iald (i := v0) hx hb hK hP 13 12 rfl rfl i110 dX15_enter_56 ?_
      refine lv_iconst (v := 1) hx hb dX15_enter_57 (by decide) ?_
      refine lv_isub hx hb dX15_enter_58 ?_
      obtain ⟨i111, h⟩ := nd_ck_e h
      refine va_iast (i := v0) (x := ((sR s109.1 9 (Int32.toNatClampNeg v0)) - 1)) hx hb hK hP hD hS 13 12 rfl rfl i111 dX15_enter_59 (fun H locs hP hD hS => ?_)
      obtain ⟨s112, es112, h⟩ := nd_let_e h
      have hP : va_P (dC, dI) vwCl (dw_X15 a ac s112) H := by rw [es112]; exact hP
      have hD : va_D A (dw_X15 a ac s112) := by rw [es112]; exact hD
      exact K _ _ _ _ _ dX15_enter_60 (Option.some.inj h).symm hP hD hS
set_option maxHeartbeats 40000000 in
set_option maxRecDepth 100000 in
theorem dm_X15_enter (l : Launch) (hlt : l.stackTraces = false) (dC : Nat → ClassId) (dI : Nat → Nat → Nat) (a : Nat → Nat) (ac : Nat → ClassId) (n : Nat) (v0 : Int32) (s0 : St × (St × (St))) {r : St × (St × (St))} (h : df_X15_enter n v0 s0 = some r) (sz : Nat) : Met l yX15_enter ow_dm_X15_enter ({ frames := 2, cells := 0, slots := 0, locals := 46 }) (va_Pc [.ref (a 0), .int v0] (fun U => U.heap.size = sz ∧ va_P (dC, dI) vwCl (dw_X15 a ac s0) U.heap ∧ va_K (dC, dI) vwCl (dk_X15 ac) U ∧ va_D (fun _ => True) (dw_X15 a ac s0) ∧ nv_E dI (va_A (dw_X15 a ac s0) sz) U)) (va_Qv (fun _ => True) (fun (_ : Unit) t => va_P (dC, dI) vwCl (dw_X15 a ac r) t.heap ∧ va_K (dC, dI) vwCl (dk_X15 ac) t ∧ va_D (va_A (dw_X15 a ac s0) sz) (dw_X15 a ac r)) (va_A (dw_X15 a ac s0) sz)) 0 0 (va_A (dw_X15 a ac s0) sz) := by
  refine Met.ofW (cc := cX15_enter) (maxL := 4) (ret := none) (by decide) rfl ?_
  intro p e s m args below meth c s₁ B hml hv
  obtain ⟨rfl, hsz, hP, hK, hD0, hN⟩ := hv
  have hx := B.exec
  have hb := B.bytes
  have hr := B.returns
  have hts := atoms_spec (ws := ow_dm_X15_enter) B.pre
  have hown : s.vm.findClass RX15 = some m.cls := findClass_of_methodNamed B.named
  have hlocks := B.notSynchronized
  subst hsz
  have hD := hD0.self (sz := s.heap.size)
  generalize hAe : va_A (dw_X15 a ac s0) s.heap.size = A at hD hN ⊢
  have hA : ∀ q : Nat, s.heap.size ≤ q → A q := fun q h => by rw [← hAe]; exact Or.inr h
  have hl := lv_entry ([.ref (a 0), .int v0]) (n := 4) (Nat.le_of_ble_eq_true rfl)
  rw [lg_entry_eq]
  generalize (lg_sl ([.ref (a 0), .int v0]) ++ List.replicate (4 - (lg_sl ([.ref (a 0), .int v0])).length) Slot.unset).toArray = ls at hl ⊢
  have hl : lv_has ls 4 [(0, .ref (a 0)), (1, .int v0)] := hl
  exact db_X15_enter_0 (dC := dC) (dI := dI) (a := a) (ac := ac) (n := n) (r := r) ⟨hlt, hx, hb, hml, hown, hts, hN, hA, hK⟩ (fun pc τ H locs ls d er hP hD hS => by subst er; exact W.vret hx hb hr (fun t ht hW => ⟨⟨(), rfl, trivial, by rw [ht]; exact hP, va_K.moved hW.alike hK, hD⟩, hS.F ht⟩) hS.2.2 d) v0 s0 _ _ _ h hP hD va_S.rf (lv_sub hl [0, 1] rfl)
def ow_dm_X15_work : List Cond := Cond.code yX15_work cX15_work 5 (some .long) :: ([Cond.fieldLink RX15 164 "TimeMachineModel$Conditions" "begun" "I", Cond.fieldLink RX15 170 "TimeMachineModel$Conditions" "failed" "Z", Cond.methodLink RX15 174 yX15_begin, Cond.instanceMethod yX15_begin, Cond.selects RX15 yX15_begin yX15_begin, Cond.initialized RX15, Cond.fieldLink RX15 167 "TimeMachineModel$Conditions" "result" "J", Cond.fieldLink RX15 55 "TimeMachineModel$Conditions" "stage" "[I", Cond.methodLink RX15 184 yX15_join, Cond.instanceMethod yX15_join, Cond.selects RX15 yX15_join yX15_join, Cond.methodLink RX15 181 yX15_half, Cond.instanceMethod yX15_half, Cond.selects RX15 yX15_half yX15_half, Cond.methodLink RX15 177 yX15_enter, Cond.instanceMethod yX15_enter, Cond.selects RX15 yX15_enter yX15_enter] ++ (u_ws RX15 TX15 28 ++ (ow_dm_X15_begin ++ (ow_dm_X15_join ++ (ow_dm_X15_half ++ (ow_dm_X15_enter ++ []))))))
theorem gd_dm_X15_work : ∀ w ∈ ow_dm_X15_work, (w.onTables && w.keeps) = true ∨ ∃ ty, w = Cond.arrayClass ty := List.forall_mem_cons.mpr ⟨good_of_word rfl, List.forall_mem_append.mpr ⟨fun w h => good_of_word (List.all_eq_true.mp (by decide +kernel) w h), List.forall_mem_append.mpr ⟨gu_X15, List.forall_mem_append.mpr ⟨gd_dm_X15_begin, List.forall_mem_append.mpr ⟨gd_dm_X15_join, List.forall_mem_append.mpr ⟨gd_dm_X15_half, List.forall_mem_append.mpr ⟨gd_dm_X15_enter, fun _ h => nomatch h⟩⟩⟩⟩⟩⟩⟩
theorem hi_dm_X15_work_X15 : ∀ w ∈ u_ws RX15 TX15 28, w ∈ ow_dm_X15_work := fun w h => List.mem_cons_of_mem _ (List.mem_append_right _ (List.mem_append_left _ h))
theorem gi_dm_X15_work_0 : GoodIn ow_dm_X15_work (wsV RX15 174 RX15 yX15_begin ow_dm_X15_begin) := goodIn_app (goodIn_of _ (by decide +kernel)) (fun w h => ⟨List.mem_cons_of_mem _ (List.mem_append_right _ (List.mem_append_right _ (List.mem_append_left _ h))), gd_dm_X15_begin w h⟩)
theorem gi_dm_X15_work_1 : GoodIn ow_dm_X15_work (wsV RX15 184 RX15 yX15_join ow_dm_X15_join) := goodIn_app (goodIn_of _ (by decide +kernel)) (fun w h => ⟨List.mem_cons_of_mem _ (List.mem_append_right _ (List.mem_append_right _ (List.mem_append_right _ (List.mem_append_left _ h)))), gd_dm_X15_join w h⟩)
theorem gi_dm_X15_work_2 : GoodIn ow_dm_X15_work (wsV RX15 181 RX15 yX15_half ow_dm_X15_half) := goodIn_app (goodIn_of _ (by decide +kernel)) (fun w h => ⟨List.mem_cons_of_mem _ (List.mem_append_right _ (List.mem_append_right _ (List.mem_append_right _ (List.mem_append_right _ (List.mem_append_left _ h))))), gd_dm_X15_half w h⟩)
theorem gi_dm_X15_work_3 : GoodIn ow_dm_X15_work (wsV RX15 177 RX15 yX15_enter ow_dm_X15_enter) := goodIn_app (goodIn_of _ (by decide +kernel)) (fun w h => ⟨List.mem_cons_of_mem _ (List.mem_append_right _ (List.mem_append_right _ (List.mem_append_right _ (List.mem_append_right _ (List.mem_append_right _ (List.mem_append_left _ h)))))), gd_dm_X15_enter w h⟩)
def dj_X15_work_91 (p : Program) (l : Launch) (e : Env) (s : State) (m : MethodId) (args : Array Value) (below : List Frame) (meth : Method) (c : Code) (Q : State → Prop) (A : Nat → Prop) (dC : Nat → ClassId) (dI : Nat → Nat → Nat) (a : Nat → Nat) (ac : Nat → ClassId) (g : (St × (St × (St))) → Option (Int64 × (St × (St × (St))))) (r : Int64 × (St × (St × (St)))) : Prop := ∀ (s0 : St × (St × (St))) (H : Heap) (locs : List Loc) (ls : Array Slot), g s0 = some r → va_P (dC, dI) vwCl (dw_X15 a ac s0) H → va_D A (dw_X15 a ac s0) → va_S A s.heap H locs → lv_has ls 5 [(0, .ref (a 0))] → W p l e (headSpec ow_dm_X15_work ({ frames := 5, cells := 0, slots := 0, locals := 119 })).room s m args below meth c H locs 0 0 Q (F0 m 91 ls [])
def dj_X15_work_85 (p : Program) (l : Launch) (e : Env) (s : State) (m : MethodId) (args : Array Value) (below : List Frame) (meth : Method) (c : Code) (Q : State → Prop) (A : Nat → Prop) (dC : Nat → ClassId) (dI : Nat → Nat → Nat) (a : Nat → Nat) (ac : Nat → ClassId) (g : Int32 → (St × (St × (St))) → Option (Int64 × (St × (St × (St))))) (r : Int64 × (St × (St × (St)))) : Prop := ∀ (x3 : Int32) (s0 : St × (St × (St))) (H : Heap) (locs : List Loc) (ls : Array Slot), g x3 s0 = some r → va_P (dC, dI) vwCl (dw_X15 a ac s0) H → va_D A (dw_X15 a ac s0) → va_S A s.heap H locs → lv_has ls 5 [(0, .ref (a 0)), (3, .int x3)] → W p l e (headSpec ow_dm_X15_work ({ frames := 5, cells := 0, slots := 0, locals := 119 })).room s m args below meth c H locs 0 0 Q (F0 m 85 ls [])
def dj_X15_work_18 (p : Program) (l : Launch) (e : Env) (s : State) (m : MethodId) (args : Array Value) (below : List Frame) (meth : Method) (c : Code) (Q : State → Prop) (A : Nat → Prop) (dC : Nat → ClassId) (dI : Nat → Nat → Nat) (a : Nat → Nat) (ac : Nat → ClassId) (g : Int32 → (St × (St × (St))) → Option (Int64 × (St × (St × (St))))) (r : Int64 × (St × (St × (St)))) : Prop := ∀ (x3 : Int32) (s0 : St × (St × (St))) (H : Heap) (locs : List Loc) (ls : Array Slot), g x3 s0 = some r → va_P (dC, dI) vwCl (dw_X15 a ac s0) H → va_D A (dw_X15 a ac s0) → va_S A s.heap H locs → lv_has ls 5 [(0, .ref (a 0)), (3, .int x3)] → W p l e (headSpec ow_dm_X15_work ({ frames := 5, cells := 0, slots := 0, locals := 119 })).room s m args below meth c H locs 0 0 Q (F0 m 18 ls [])
def dj_X15_work_0 (p : Program) (l : Launch) (e : Env) (s : State) (m : MethodId) (args : Array Value) (below : List Frame) (meth : Method) (c : Code) (Q : State → Prop) (A : Nat → Prop) (dC : Nat → ClassId) (dI : Nat → Nat → Nat) (a : Nat → Nat) (ac : Nat → ClassId) (g : Int32 → Int32 → (St × (St × (St))) → Option (Int64 × (St × (St × (St))))) (r : Int64 × (St × (St × (St)))) : Prop := ∀ (v0 : Int32) (v1 : Int32) (s0 : St × (St × (St))) (H : Heap) (locs : List Loc) (ls : Array Slot), g v0 v1 s0 = some r → va_P (dC, dI) vwCl (dw_X15 a ac s0) H → va_D A (dw_X15 a ac s0) → va_S A s.heap H locs → lv_has ls 5 [(0, .ref (a 0)), (1, .int v0), (2, .int v1)] → W p l e (headSpec ow_dm_X15_work ({ frames := 5, cells := 0, slots := 0, locals := 119 })).room s m args below meth c H locs 0 0 Q (F0 m 0 ls [])
set_option maxHeartbeats 40000000 in
set_option maxRecDepth 100000 in
theorem db_X15_work_91 {p : Program} {l : Launch} {e : Env} {s : State} {m : MethodId} {args : Array Value} {below : List Frame} {meth : Method} {c : Code} {Q : State → Prop} {A : Nat → Prop} {dC : Nat → ClassId} {dI : Nat → Nat → Nat} {a : Nat → Nat} {ac : Nat → ClassId} {n : Nat} {r : Int64 × (St × (St × (St)))} (C : nd_C p l s m args c A (dC, dI) cX15_work 5 RX15 ow_dm_X15_work (dk_X15 ac)) (K : nd_Kl p l e (headSpec ow_dm_X15_work ({ frames := 5, cells := 0, slots := 0, locals := 119 })).room s m args below meth c Q A (dC, dI) cX15_work (St × (St × (St))) (dw_X15 a ac) r) : dj_X15_work_91 p l e s m args below meth c Q A dC dI a ac (df_X15_work_91 n) r := by
  obtain ⟨hlt, hx, hb, hml, hown, hts, hN, hA, hK⟩ := id C
  intro s0 H locs ls h hP hD hS hl
  unfold df_X15_work_91 at h
  refine lv_aload_n hx hb dX15_work_91 rfl (lv_at hl 0 rfl) ?_
  refine va_get (D := (dC, dI)) (ci := 16) (v := .long (sL s0.1 1)) (C := RX15) (T := TX15) (N := 28) hx hb hts hi_dm_X15_work_X15 hown hK hP 0 rfl rfl 22 (by decide) (hts (.fieldLink RX15 167 "TimeMachineModel$Conditions" "result" "J") (List.mem_of_getElem? (i := 7) rfl)) (fun _ h9 => h9) rfl dX15_work_92 ?_
  exact K _ _ _ _ _ _ dX15_work_95 (Option.some.inj h).symm hP hD hS
set_option maxHeartbeats 40000000 in
set_option maxRecDepth 100000 in
theorem db_X15_work_85 {p : Program} {l : Launch} {e : Env} {s : State} {m : MethodId} {args : Array Value} {below : List Frame} {meth : Method} {c : Code} {Q : State → Prop} {A : Nat → Prop} {dC : Nat → ClassId} {dI : Nat → Nat → Nat} {a : Nat → Nat} {ac : Nat → ClassId} {n : Nat} {r : Int64 × (St × (St × (St)))} (C : nd_C p l s m args c A (dC, dI) cX15_work 5 RX15 ow_dm_X15_work (dk_X15 ac)) (K : nd_Kl p l e (headSpec ow_dm_X15_work ({ frames := 5, cells := 0, slots := 0, locals := 119 })).room s m args below meth c Q A (dC, dI) cX15_work (St × (St × (St))) (dw_X15 a ac) r) {g18 : Int32 → (St × (St × (St))) → Option (Int64 × (St × (St × (St))))} (J18 : dj_X15_work_18 p l e s m args below meth c Q A dC dI a ac g18 r) : dj_X15_work_85 p l e s m args below meth c Q A dC dI a ac (df_X15_work_85 n g18) r := by
  obtain ⟨hlt, hx, hb, hml, hown, hts, hN, hA, hK⟩ := id C
  intro x3 s0 H locs ls h hP hD hS hl
  unfold df_X15_work_85 at h
  obtain ⟨z16, ez16, h⟩ := nd_let_e h
  refine lv_iinc (v := z16) (lv' := [(3, .int z16), (0, .ref (a 0))]) hx hb dX15_work_85 hl (k := 1) rfl (by rw [ez16]) (by decide) rfl (fun ls hl => ?_)
  refine lv_goto (tgt := 18) hx hb dX15_work_88 (by decide) ?_
  exact (J18) (z16) s0 _ _ _ h hP hD hS (lv_sub hl [1, 0] rfl)
set_option maxHeartbeats 40000000 in
set_option maxRecDepth 100000 in
theorem dB_X15_work_18 {p : Program} {l : Launch} {e : Env} {s : State} {m : MethodId} {args : Array Value} {below : List Frame} {meth : Method} {c : Code} {Q : State → Prop} {A : Nat → Prop} {dC : Nat → ClassId} {dI : Nat → Nat → Nat} {a : Nat → Nat} {ac : Nat → ClassId} {n : Nat} {r : Int64 × (St × (St × (St)))} (C : nd_C p l s m args c A (dC, dI) cX15_work 5 RX15 ow_dm_X15_work (dk_X15 ac)) (K : nd_Kl p l e (headSpec ow_dm_X15_work ({ frames := 5, cells := 0, slots := 0, locals := 119 })).room s m args below meth c Q A (dC, dI) cX15_work (St × (St × (St))) (dw_X15 a ac) r) {g18 : Int32 → (St × (St × (St))) → Option (Int64 × (St × (St × (St))))} (J18 : dj_X15_work_18 p l e s m args below meth c Q A dC dI a ac g18 r) : dj_X15_work_18 p l e s m args below meth c Q A dC dI a ac (dF_X15_work_18 n g18) r := by
  obtain ⟨hlt, hx, hb, hml, hown, hts, hN, hA, hK⟩ := id C
  intro x3 s0 H locs ls h hP hD hS hl
  unfold dF_X15_work_18 at h
  refine lv_iload_n hx hb dX15_work_18 rfl (lv_at hl 1 rfl) ?_
  refine lv_sipush (v := 2000) hx hb dX15_work_19 (by decide) ?_
  refine lv_icmp_ge (tgt := 91) hx hb dX15_work_22 (by decide) (fun c6 => ?_) (fun c6 => ?_)
  · have h := nd_pos h c6
    exact (db_X15_work_91 C K)  s0 _ _ _ h hP hD hS (lv_sub hl [0] rfl)
  · have h := nd_neg h c6
    refine lv_aload_n hx hb dX15_work_25 rfl (lv_at hl 0 rfl) ?_
    refine va_get (D := (dC, dI)) (ci := 16) (v := .int (sI s0.1 7)) (C := RX15) (T := TX15) (N := 28) hx hb hts hi_dm_X15_work_X15 hown hK hP 0 rfl rfl 20 (by decide) (hts (.fieldLink RX15 164 "TimeMachineModel$Conditions" "begun" "I") (List.mem_of_getElem? (i := 1) rfl)) (fun _ h9 => h9) rfl dX15_work_26 ?_
    refine lv_if_le (tgt := 91) hx hb dX15_work_29 (by decide) (fun c7 => ?_) (fun c7 => ?_)
    · have h := nd_pos h c7
      exact (db_X15_work_91 C K)  s0 _ _ _ h hP hD hS (lv_sub hl [0] rfl)
    · have h := nd_neg h c7
      refine lv_aload_n hx hb dX15_work_32 rfl (lv_at hl 0 rfl) ?_
      refine va_get (D := (dC, dI)) (ci := 16) (v := .int (sI s0.1 7)) (C := RX15) (T := TX15) (N := 28) hx hb hts hi_dm_X15_work_X15 hown hK hP 0 rfl rfl 20 (by decide) (hts (.fieldLink RX15 164 "TimeMachineModel$Conditions" "begun" "I") (List.mem_of_getElem? (i := 1) rfl)) (fun _ h9 => h9) rfl dX15_work_33 ?_
      refine lv_iconst (v := 1) hx hb dX15_work_36 (by decide) ?_
      refine lv_isub hx hb dX15_work_37 ?_
      refine lv_topi (fun z8 ez8 => ?_)
      have h := nd_at h ez8
      refine lv_istore (lv' := [(4, .int z8), (0, .ref (a 0)), (3, .int x3)]) hx hb dX15_work_38 hl (by decide) rfl (fun ls hl => ?_)
      refine lv_aload_n hx hb dX15_work_40 rfl (lv_at hl 1 rfl) ?_
      refine va_get (D := (dC, dI)) (ci := 16) (v := .ref (a 15)) (C := RX15) (T := TX15) (N := 28) hx hb hts hi_dm_X15_work_X15 hown hK hP 0 rfl rfl 26 (by decide) (hts (.fieldLink RX15 55 "TimeMachineModel$Conditions" "stage" "[I") (List.mem_of_getElem? (i := 8) rfl)) (fun _ h9 => h9) rfl dX15_work_41 ?_
      refine lv_iload hx hb dX15_work_44 (lv_at hl 0 rfl) ?_
      obtain ⟨i9, h⟩ := nd_ck_e h
      refine va_iald (i := z8) hx hb hK hP 15 14 rfl rfl i9 dX15_work_46 ?_
      refine lv_if_ne (tgt := 59) hx hb dX15_work_47 (by decide) (fun c10 => ?_) (fun c10 => ?_)
      · have h := nd_neg h c10
        refine lv_aload_n hx hb dX15_work_59 rfl (lv_at hl 1 rfl) ?_
        refine va_get (D := (dC, dI)) (ci := 16) (v := .ref (a 15)) (C := RX15) (T := TX15) (N := 28) hx hb hts hi_dm_X15_work_X15 hown hK hP 0 rfl rfl 26 (by decide) (hts (.fieldLink RX15 55 "TimeMachineModel$Conditions" "stage" "[I") (List.mem_of_getElem? (i := 8) rfl)) (fun _ h9 => h9) rfl dX15_work_60 ?_
        refine lv_iload hx hb dX15_work_63 (lv_at hl 0 rfl) ?_
        obtain ⟨i11, h⟩ := nd_ck_e h
        refine va_iald (i := z8) hx hb hK hP 15 14 rfl rfl i11 dX15_work_65 ?_
        refine lv_iconst (v := 1) hx hb dX15_work_66 (by decide) ?_
        refine lv_icmp_ne (tgt := 79) hx hb dX15_work_67 (by decide) (fun c12 => ?_) (fun c12 => ?_)
        · have h := nd_neg h c12
          refine lv_aload_n hx hb dX15_work_79 rfl (lv_at hl 1 rfl) ?_
          refine lv_iload hx hb dX15_work_80 (lv_at hl 0 rfl) ?_
          obtain ⟨s14, hq, h⟩ := nd_b1_e h
          have hPc := hP
          have hDc := hD
          have hKc := hK
          have hFc := nd_rs hD hS hA
          refine nd_cVv (As := [.int z8]) (rest := []) (w' := dw_X15 a ac s14) ⟨hx, hb, hml, hown, hts⟩ (fun sz => dm_X15_join l hlt dC dI a ac n (z8) s0 hq sz) (cwV 1 hts gi_dm_X15_work_1 rfl rfl rfl (by decide +kernel) ⟨Nat.le_of_ble_eq_true rfl, Nat.le_of_ble_eq_true rfl⟩) hPc hDc hKc hS hA hN (va_recv hKc hPc (ci := 16) (q0 := 0) rfl rfl) rfl hl.1 rfl (Nat.le_of_ble_eq_true rfl) dX15_work_82 (fun H locs hP1 hD1 hk1 hS => ?_)
          have hP := hP1
          have hD := hD1.weaken (fun k q _ h => hFc q.1 h)
          exact (db_X15_work_85 C K J18) (x3) s14 _ _ _ h hP hD hS (lv_sub hl [1, 2] rfl)
        · have h := nd_pos h c12
          refine lv_aload_n hx hb dX15_work_70 rfl (lv_at hl 1 rfl) ?_
          refine lv_iload hx hb dX15_work_71 (lv_at hl 0 rfl) ?_
          obtain ⟨s18, hq, h⟩ := nd_b1_e h
          have hPc := hP
          have hDc := hD
          have hKc := hK
          have hFc := nd_rs hD hS hA
          refine nd_cVv (As := [.int z8]) (rest := []) (w' := dw_X15 a ac s18) ⟨hx, hb, hml, hown, hts⟩ (fun sz => dm_X15_half l hlt dC dI a ac n (z8) s0 hq sz) (cwV 1 hts gi_dm_X15_work_2 rfl rfl rfl (by decide +kernel) ⟨Nat.le_of_ble_eq_true rfl, Nat.le_of_ble_eq_true rfl⟩) hPc hDc hKc hS hA hN (va_recv hKc hPc (ci := 16) (q0 := 0) rfl rfl) rfl hl.1 rfl (Nat.le_of_ble_eq_true rfl) dX15_work_73 (fun H locs hP1 hD1 hk1 hS => ?_)
          have hP := hP1
          have hD := hD1.weaken (fun k q _ h => hFc q.1 h)
          refine lv_goto (tgt := 85) hx hb dX15_work_76 (by decide) ?_
          exact (db_X15_work_85 C K J18) (x3) s18 _ _ _ h hP hD hS (lv_sub hl [1, 2] rfl)
      · have h := nd_pos h c10
        refine lv_aload_n hx hb dX15_work_50 rfl (lv_at hl 1 rfl) ?_
        refine lv_iload hx hb dX15_work_51 (lv_at hl 0 rfl) ?_
        obtain ⟨s21, hq, h⟩ := nd_b1_e h
        have hPc := hP
        have hDc := hD
        have hKc := hK
        have hFc := nd_rs hD hS hA
        refine nd_cVv (As := [.int z8]) (rest := []) (w' := dw_X15 a ac s21) ⟨hx, hb, hml, hown, hts⟩ (fun sz => dm_X15_enter l hlt dC dI a ac n (z8) s0 hq sz) (cwV 1 hts gi_dm_X15_work_3 rfl rfl rfl (by decide +kernel) ⟨Nat.le_of_ble_eq_true rfl, Nat.le_of_ble_eq_true rfl⟩) hPc hDc hKc hS hA hN (va_recv hKc hPc (ci := 16) (q0 := 0) rfl rfl) rfl hl.1 rfl (Nat.le_of_ble_eq_true rfl) dX15_work_53 (fun H locs hP1 hD1 hk1 hS => ?_)
        have hP := hP1
        have hD := hD1.weaken (fun k q _ h => hFc q.1 h)
        refine lv_goto (tgt := 85) hx hb dX15_work_56 (by decide) ?_
        exact (db_X15_work_85 C K J18) (x3) s21 _ _ _ h hP hD hS (lv_sub hl [1, 2] rfl)
set_option maxHeartbeats 40000000 in
set_option maxRecDepth 100000 in
theorem db_X15_work_18 {p : Program} {l : Launch} {e : Env} {s : State} {m : MethodId} {args : Array Value} {below : List Frame} {meth : Method} {c : Code} {Q : State → Prop} {A : Nat → Prop} {dC : Nat → ClassId} {dI : Nat → Nat → Nat} {a : Nat → Nat} {ac : Nat → ClassId} {n : Nat} {r : Int64 × (St × (St × (St)))} (C : nd_C p l s m args c A (dC, dI) cX15_work 5 RX15 ow_dm_X15_work (dk_X15 ac)) (K : nd_Kl p l e (headSpec ow_dm_X15_work ({ frames := 5, cells := 0, slots := 0, locals := 119 })).room s m args below meth c Q A (dC, dI) cX15_work (St × (St × (St))) (dw_X15 a ac) r) (k : Nat) : dj_X15_work_18 p l e s m args below meth c Q A dC dI a ac (df_X15_work_18 n k) r := by
  induction k with
  | zero => intro x3 s0 H locs ls h; exact nomatch (show (none : Option (Int64 × (St × (St × (St))))) = some r from h)
  | succ k ih => exact dB_X15_work_18 C K ih
set_option maxHeartbeats 40000000 in
set_option maxRecDepth 100000 in
theorem db_X15_work_0 {p : Program} {l : Launch} {e : Env} {s : State} {m : MethodId} {args : Array Value} {below : List Frame} {meth : Method} {c : Code} {Q : State → Prop} {A : Nat → Prop} {dC : Nat → ClassId} {dI : Nat → Nat → Nat} {a : Nat → Nat} {ac : Nat → ClassId} {n : Nat} {r : Int64 × (St × (St × (St)))} (C : nd_C p l s m args c A (dC, dI) cX15_work 5 RX15 ow_dm_X15_work (dk_X15 ac)) (K : nd_Kl p l e (headSpec ow_dm_X15_work ({ frames := 5, cells := 0, slots := 0, locals := 119 })).room s m args below meth c Q A (dC, dI) cX15_work (St × (St × (St))) (dw_X15 a ac) r) : dj_X15_work_0 p l e s m args below meth c Q A dC dI a ac (df_X15_work_0 n) r := by
  obtain ⟨hlt, hx, hb, hml, hown, hts, hN, hA, hK⟩ := id C
  intro v0 v1 s0 H locs ls h hP hD hS hl
  unfold df_X15_work_0 at h
  refine lv_aload_n hx hb dX15_work_0 rfl (lv_at hl 0 rfl) ?_
  refine lv_iconst (v := 0) hx hb dX15_work_1 (by decide) ?_
  refine va_put (D := (dC, dI)) (ci := 16) (v := .int 0) (ty := .int) (C := RX15) (T := TX15) (N := 28) hx hb hts hi_dm_X15_work_X15 tyX15 tyX15_ok nmX15 hown hK hP hD hS 0 rfl rfl 20 (by decide) (hts (.fieldLink RX15 164 "TimeMachineModel$Conditions" "begun" "I") (List.mem_of_getElem? (i := 1) rfl)) (fun _ h9 => h9) rfl (by decide +kernel) rfl rfl (Nat.le_of_ble_eq_true rfl) dX15_work_2 (fun H locs hP hD hS => ?_)
  obtain ⟨s1, es1, h⟩ := nd_let_e h
  have hP : va_P (dC, dI) vwCl (dw_X15 a ac s1) H := by rw [es1]; exact hP
  have hD : va_D A (dw_X15 a ac s1) := by rw [es1]; exact hD
  refine lv_aload_n hx hb dX15_work_5 rfl (lv_at hl 0 rfl) ?_
  refine lv_iconst (v := 0) hx hb dX15_work_6 (by decide) ?_
  refine va_put (D := (dC, dI)) (ci := 16) (v := .int 0) (ty := .boolean) (C := RX15) (T := TX15) (N := 28) hx hb hts hi_dm_X15_work_X15 tyX15 tyX15_ok nmX15 hown hK hP hD hS 0 rfl rfl 21 (by decide) (hts (.fieldLink RX15 170 "TimeMachineModel$Conditions" "failed" "Z") (List.mem_of_getElem? (i := 2) rfl)) (fun _ h9 => h9) rfl (by decide +kernel) (by first | rfl | decide) rfl (Nat.le_of_ble_eq_true rfl) dX15_work_7 (fun H locs hP hD hS => ?_)
  obtain ⟨s2, es2, h⟩ := nd_let_e h
  have hP : va_P (dC, dI) vwCl (dw_X15 a ac s2) H := by rw [es2]; exact hP
  have hD : va_D A (dw_X15 a ac s2) := by rw [es2]; exact hD
  refine lv_aload_n hx hb dX15_work_10 rfl (lv_at hl 0 rfl) ?_
  refine lv_iload_n hx hb dX15_work_11 rfl (lv_at hl 1 rfl) ?_
  refine lv_iload_n hx hb dX15_work_12 rfl (lv_at hl 2 rfl) ?_
  obtain ⟨s4, hq, h⟩ := nd_b1_e h
  have hPc := hP
  have hDc := hD
  have hKc := hK
  have hFc := nd_rs hD hS hA
  refine nd_cVv (As := [.int v0, .int v1]) (rest := []) (w' := dw_X15 a ac s4) ⟨hx, hb, hml, hown, hts⟩ (fun sz => dm_X15_begin l hlt dC dI a ac n (v0) (v1) s2 hq sz) (cwV 2 hts gi_dm_X15_work_0 rfl rfl rfl (by decide +kernel) ⟨Nat.le_of_ble_eq_true rfl, Nat.le_of_ble_eq_true rfl⟩) hPc hDc hKc hS hA hN (va_recv hKc hPc (ci := 16) (q0 := 0) rfl rfl) rfl hl.1 rfl (Nat.le_of_ble_eq_true rfl) dX15_work_13 (fun H locs hP1 hD1 hk1 hS => ?_)
  have hP := hP1
  have hD := hD1.weaken (fun k q _ h => hFc q.1 h)
  refine lv_iconst (v := 0) hx hb dX15_work_16 (by decide) ?_
  refine lv_istore_n (lv' := [(3, .int 0), (0, .ref (a 0)), (1, .int v0), (2, .int v1)]) hx hb dX15_work_17 rfl hl (by decide) rfl (fun ls hl => ?_)
  exact (db_X15_work_18 C K n) (0) s4 _ _ _ h hP hD hS (lv_sub hl [1, 0] rfl)
set_option maxHeartbeats 40000000 in
set_option maxRecDepth 100000 in
theorem dm_X15_work (l : Launch) (hlt : l.stackTraces = false) (dC : Nat → ClassId) (dI : Nat → Nat → Nat) (a : Nat → Nat) (ac : Nat → ClassId) (n : Nat) (v0 : Int32) (v1 : Int32) (s0 : St × (St × (St))) {r : Int64 × (St × (St × (St)))} (h : df_X15_work n v0 v1 s0 = some r) (sz : Nat) : Met l yX15_work ow_dm_X15_work ({ frames := 5, cells := 0, slots := 0, locals := 119 }) (va_Pc [.ref (a 0), .int v0, .int v1] (fun U => U.heap.size = sz ∧ va_P (dC, dI) vwCl (dw_X15 a ac s0) U.heap ∧ va_K (dC, dI) vwCl (dk_X15 ac) U ∧ va_D (fun _ => True) (dw_X15 a ac s0) ∧ nv_E dI (va_A (dw_X15 a ac s0) sz) U)) (va_Ql (fun x _ => x = r.1) (fun (_ : Unit) t => va_P (dC, dI) vwCl (dw_X15 a ac r.2) t.heap ∧ va_K (dC, dI) vwCl (dk_X15 ac) t ∧ va_D (va_A (dw_X15 a ac s0) sz) (dw_X15 a ac r.2)) (va_A (dw_X15 a ac s0) sz)) 0 0 (va_A (dw_X15 a ac s0) sz) := by
  refine Met.ofW (cc := cX15_work) (maxL := 5) (ret := (some .long)) (by decide) rfl ?_
  intro p e s m args below meth c s₁ B hml hv
  obtain ⟨rfl, hsz, hP, hK, hD0, hN⟩ := hv
  have hx := B.exec
  have hb := B.bytes
  have hr := B.returns
  have hts := atoms_spec (ws := ow_dm_X15_work) B.pre
  have hown : s.vm.findClass RX15 = some m.cls := findClass_of_methodNamed B.named
  have hlocks := B.notSynchronized
  subst hsz
  have hD := hD0.self (sz := s.heap.size)
  generalize hAe : va_A (dw_X15 a ac s0) s.heap.size = A at hD hN ⊢
  have hA : ∀ q : Nat, s.heap.size ≤ q → A q := fun q h => by rw [← hAe]; exact Or.inr h
  have hl := lv_entry ([.ref (a 0), .int v0, .int v1]) (n := 5) (Nat.le_of_ble_eq_true rfl)
  rw [lg_entry_eq]
  generalize (lg_sl ([.ref (a 0), .int v0, .int v1]) ++ List.replicate (5 - (lg_sl ([.ref (a 0), .int v0, .int v1])).length) Slot.unset).toArray = ls at hl ⊢
  have hl : lv_has ls 5 [(0, .ref (a 0)), (1, .int v0), (2, .int v1)] := hl
  exact db_X15_work_0 (dC := dC) (dI := dI) (a := a) (ac := ac) (n := n) (r := r) ⟨hlt, hx, hb, hml, hown, hts, hN, hA, hK⟩ (fun pc v τ H locs ls d er hP hD hS => by subst er; exact W.lret (v := v) hx hb hr (fun t ht hW => ⟨⟨v, (), rfl, rfl, by rw [ht]; exact hP, va_K.moved hW.alike hK, hD⟩, hS.F ht⟩) hS.2.2 d) v0 v1 s0 _ _ _ h hP hD va_S.rf (lv_sub hl [0, 1, 2] rfl)
def ow_dm_X15_remember : List Cond := Cond.code yX15_remember cX15_remember 4 none :: ([Cond.fieldLink RX15 17 "TimeMachineModel$Conditions" "many" "[I", Cond.fieldLink RX15 21 "TimeMachineModel$Conditions" "kind" "[I", Cond.fieldLink RX15 31 "TimeMachineModel$Conditions" "before" "[J", Cond.fieldLink RX15 24 "TimeMachineModel$Conditions" "partner" "[I", Cond.methodLink RX15 233 yX15_work, Cond.instanceMethod yX15_work, Cond.selects RX15 yX15_work yX15_work, Cond.initialized RX15] ++ (u_ws RX15 TX15 28 ++ (ow_dm_X15_work ++ [])))
theorem gd_dm_X15_remember : ∀ w ∈ ow_dm_X15_remember, (w.onTables && w.keeps) = true ∨ ∃ ty, w = Cond.arrayClass ty := List.forall_mem_cons.mpr ⟨good_of_word rfl, List.forall_mem_append.mpr ⟨fun w h => good_of_word (List.all_eq_true.mp (by decide +kernel) w h), List.forall_mem_append.mpr ⟨gu_X15, List.forall_mem_append.mpr ⟨gd_dm_X15_work, fun _ h => nomatch h⟩⟩⟩⟩
theorem hi_dm_X15_remember_X15 : ∀ w ∈ u_ws RX15 TX15 28, w ∈ ow_dm_X15_remember := fun w h => List.mem_cons_of_mem _ (List.mem_append_right _ (List.mem_append_left _ h))
theorem gi_dm_X15_remember_0 : GoodIn ow_dm_X15_remember (wsV RX15 233 RX15 yX15_work ow_dm_X15_work) := goodIn_app (goodIn_of _ (by decide +kernel)) (fun w h => ⟨List.mem_cons_of_mem _ (List.mem_append_right _ (List.mem_append_right _ (List.mem_append_left _ h))), gd_dm_X15_work w h⟩)
def dj_X15_remember_70 (p : Program) (l : Launch) (e : Env) (s : State) (m : MethodId) (args : Array Value) (below : List Frame) (meth : Method) (c : Code) (Q : State → Prop) (A : Nat → Prop) (dC : Nat → ClassId) (dI : Nat → Nat → Nat) (a : Nat → Nat) (ac : Nat → ClassId) (g : Int32 → Int32 → Int32 → (St × (St × (St))) → Option (St × (St × (St)))) (r : St × (St × (St))) : Prop := ∀ (x1 : Int32) (x2 : Int32) (x3 : Int32) (s0 : St × (St × (St))) (H : Heap) (locs : List Loc) (ls : Array Slot), g x1 x2 x3 s0 = some r → va_P (dC, dI) vwCl (dw_X15 a ac s0) H → va_D A (dw_X15 a ac s0) → va_S A s.heap H locs → lv_has ls 4 [(0, .ref (a 0)), (1, .int x1), (2, .int x2), (3, .int x3)] → W p l e (headSpec ow_dm_X15_remember ({ frames := 6, cells := 0, slots := 0, locals := 143 })).room s m args below meth c H locs 0 0 Q (F0 m 70 ls [])
def dj_X15_remember_43 (p : Program) (l : Launch) (e : Env) (s : State) (m : MethodId) (args : Array Value) (below : List Frame) (meth : Method) (c : Code) (Q : State → Prop) (A : Nat → Prop) (dC : Nat → ClassId) (dI : Nat → Nat → Nat) (a : Nat → Nat) (ac : Nat → ClassId) (g : Int32 → Int32 → Int32 → (St × (St × (St))) → Option (St × (St × (St)))) (r : St × (St × (St))) : Prop := ∀ (x1 : Int32) (x2 : Int32) (x3 : Int32) (s0 : St × (St × (St))) (H : Heap) (locs : List Loc) (ls : Array Slot), g x1 x2 x3 s0 = some r → va_P (dC, dI) vwCl (dw_X15 a ac s0) H → va_D A (dw_X15 a ac s0) → va_S A s.heap H locs → lv_has ls 4 [(0, .ref (a 0)), (1, .int x1), (2, .int x2), (3, .int x3)] → W p l e (headSpec ow_dm_X15_remember ({ frames := 6, cells := 0, slots := 0, locals := 143 })).room s m args below meth c H locs 0 0 Q (F0 m 43 ls [])
def dj_X15_remember_7 (p : Program) (l : Launch) (e : Env) (s : State) (m : MethodId) (args : Array Value) (below : List Frame) (meth : Method) (c : Code) (Q : State → Prop) (A : Nat → Prop) (dC : Nat → ClassId) (dI : Nat → Nat → Nat) (a : Nat → Nat) (ac : Nat → ClassId) (g : Int32 → Int32 → Int32 → (St × (St × (St))) → Option (St × (St × (St)))) (r : St × (St × (St))) : Prop := ∀ (x1 : Int32) (x2 : Int32) (x3 : Int32) (s0 : St × (St × (St))) (H : Heap) (locs : List Loc) (ls : Array Slot), g x1 x2 x3 s0 = some r → va_P (dC, dI) vwCl (dw_X15 a ac s0) H → va_D A (dw_X15 a ac s0) → va_S A s.heap H locs → lv_has ls 4 [(0, .ref (a 0)), (1, .int x1), (2, .int x2), (3, .int x3)] → W p l e (headSpec ow_dm_X15_remember ({ frames := 6, cells := 0, slots := 0, locals := 143 })).room s m args below meth c H locs 0 0 Q (F0 m 7 ls [])
def dj_X15_remember_0 (p : Program) (l : Launch) (e : Env) (s : State) (m : MethodId) (args : Array Value) (below : List Frame) (meth : Method) (c : Code) (Q : State → Prop) (A : Nat → Prop) (dC : Nat → ClassId) (dI : Nat → Nat → Nat) (a : Nat → Nat) (ac : Nat → ClassId) (g : Int32 → (St × (St × (St))) → Option (St × (St × (St)))) (r : St × (St × (St))) : Prop := ∀ (v0 : Int32) (s0 : St × (St × (St))) (H : Heap) (locs : List Loc) (ls : Array Slot), g v0 s0 = some r → va_P (dC, dI) vwCl (dw_X15 a ac s0) H → va_D A (dw_X15 a ac s0) → va_S A s.heap H locs → lv_has ls 4 [(0, .ref (a 0)), (1, .int v0)] → W p l e (headSpec ow_dm_X15_remember ({ frames := 6, cells := 0, slots := 0, locals := 143 })).room s m args below meth c H locs 0 0 Q (F0 m 0 ls [])
set_option maxHeartbeats 40000000 in
set_option maxRecDepth 100000 in
theorem db_X15_remember_70 {p : Program} {l : Launch} {e : Env} {s : State} {m : MethodId} {args : Array Value} {below : List Frame} {meth : Method} {c : Code} {Q : State → Prop} {A : Nat → Prop} {dC : Nat → ClassId} {dI : Nat → Nat → Nat} {a : Nat → Nat} {ac : Nat → ClassId} {n : Nat} {r : St × (St × (St))} (C : nd_C p l s m args c A (dC, dI) cX15_remember 4 RX15 ow_dm_X15_remember (dk_X15 ac)) (K : nd_Kv p l e (headSpec ow_dm_X15_remember ({ frames := 6, cells := 0, slots := 0, locals := 143 })).room s m args below meth c Q A (dC, dI) cX15_remember (St × (St × (St))) (dw_X15 a ac) r) {g7 : Int32 → Int32 → Int32 → (St × (St × (St))) → Option (St × (St × (St)))} (J7 : dj_X15_remember_7 p l e s m args below meth c Q A dC dI a ac g7 r) : dj_X15_remember_70 p l e s m args below meth c Q A dC dI a ac (df_X15_remember_70 n g7) r := by
  obtain ⟨hlt, hx, hb, hml, hown, hts, hN, hA, hK⟩ := id C
  intro x1 x2 x3 s0 H locs ls h hP hD hS hl
  unfold df_X15_remember_70 at h
  obtain ⟨z12, ez12, h⟩ := nd_let_e h
  refine lv_iinc (v := z12) (lv' := [(3, .int z12), (0, .ref (a 0)), (1, .int x1), (2, .int x2)]) hx hb dX15_remember_70 hl (k := 3) rfl (by rw [ez12]) (by decide) rfl (fun ls hl => ?_)
  refine lv_goto (tgt := 7) hx hb dX15_remember_73 (by decide) ?_
  exact (J7) (x1) (x2) (z12) s0 _ _ _ h hP hD hS (lv_sub hl [1, 2, 3, 0] rfl)
set_option maxHeartbeats 40000000 in
set_option maxRecDepth 100000 in
theorem db_X15_remember_43 {p : Program} {l : Launch} {e : Env} {s : State} {m : MethodId} {args : Array Value} {below : List Frame} {meth : Method} {c : Code} {Q : State → Prop} {A : Nat → Prop} {dC : Nat → ClassId} {dI : Nat → Nat → Nat} {a : Nat → Nat} {ac : Nat → ClassId} {n : Nat} {r : St × (St × (St))} (C : nd_C p l s m args c A (dC, dI) cX15_remember 4 RX15 ow_dm_X15_remember (dk_X15 ac)) (K : nd_Kv p l e (headSpec ow_dm_X15_remember ({ frames := 6, cells := 0, slots := 0, locals := 143 })).room s m args below meth c Q A (dC, dI) cX15_remember (St × (St × (St))) (dw_X15 a ac) r) {g7 : Int32 → Int32 → Int32 → (St × (St × (St))) → Option (St × (St × (St)))} (J7 : dj_X15_remember_7 p l e s m args below meth c Q A dC dI a ac g7 r) : dj_X15_remember_43 p l e s m args below meth c Q A dC dI a ac (df_X15_remember_43 n g7) r := by
  obtain ⟨hlt, hx, hb, hml, hown, hts, hN, hA, hK⟩ := id C
  intro x1 x2 x3 s0 H locs ls h hP hD hS hl
  unfold df_X15_remember_43 at h
  refine lv_aload_n hx hb dX15_remember_43 rfl (lv_at hl 0 rfl) ?_
  refine va_get (D := (dC, dI)) (ci := 16) (v := .ref (a 7)) (C := RX15) (T := TX15) (N := 28) hx hb hts hi_dm_X15_remember_X15 hown hK hP 0 rfl rfl 8 (by decide) (hts (.fieldLink RX15 31 "TimeMachineModel$Conditions" "before" "[J") (List.mem_of_getElem? (i := 3) rfl)) (fun _ h9 => h9) rfl dX15_remember_44 ?_
  refine lv_iload_n hx hb dX15_remember_47 rfl (lv_at hl 2 rfl) ?_
  refine lv_iload_n hx hb dX15_remember_48 rfl (lv_at hl 3 rfl) ?_
  refine lv_iadd hx hb dX15_remember_49 ?_
  refine lv_aload_n hx hb dX15_remember_50 rfl (lv_at hl 0 rfl) ?_
  refine lv_iload_n hx hb dX15_remember_51 rfl (lv_at hl 2 rfl) ?_
  refine lv_iload_n hx hb dX15_remember_52 rfl (lv_at hl 3 rfl) ?_
  refine lv_iadd hx hb dX15_remember_53 ?_
  refine lv_iconst (v := 2) hx hb dX15_remember_54 (by decide) ?_
  refine lv_iadd hx hb dX15_remember_55 ?_
  refine lv_aload_n hx hb dX15_remember_56 rfl (lv_at hl 0 rfl) ?_
  refine va_get (D := (dC, dI)) (ci := 16) (v := .ref (a 5)) (C := RX15) (T := TX15) (N := 28) hx hb hts hi_dm_X15_remember_X15 hown hK hP 0 rfl rfl 6 (by decide) (hts (.fieldLink RX15 24 "TimeMachineModel$Conditions" "partner" "[I") (List.mem_of_getElem? (i := 4) rfl)) (fun _ h9 => h9) rfl dX15_remember_57 ?_
  refine lv_iload_n hx hb dX15_remember_60 rfl (lv_at hl 2 rfl) ?_
  refine lv_iload_n hx hb dX15_remember_61 rfl (lv_at hl 3 rfl) ?_
  refine lv_iadd hx hb dX15_remember_62 ?_
  refine lv_iconst (v := 1) hx hb dX15_remember_63 (by decide) ?_
  refine lv_iadd hx hb dX15_remember_64 ?_
  obtain ⟨i6, h⟩ := nd_ck_e h
  refine va_iald (i := ((x2 + x3) + 1)) hx hb hK hP 5 4 rfl rfl i6 dX15_remember_65 ?_
  obtain ⟨q7, s8, hq, h⟩ := nd_b2_e h
  have hPc := hP
  have hDc := hD
  have hKc := hK
  have hFc := nd_rs hD hS hA
  refine nd_cVl (As := [.int ((x2 + x3) + 2), .int (sR s0.1 4 (Int32.toNatClampNeg ((x2 + x3) + 1)))]) (rest := [.int (x2 + x3), .ref (a 7)]) (q := q7) (w' := dw_X15 a ac s8) ⟨hx, hb, hml, hown, hts⟩ (fun sz => dm_X15_work l hlt dC dI a ac n (((x2 + x3) + 2)) ((sR s0.1 4 (Int32.toNatClampNeg ((x2 + x3) + 1)))) s0 hq sz) (cwV 2 hts gi_dm_X15_remember_0 rfl rfl rfl (by decide +kernel) ⟨Nat.le_of_ble_eq_true rfl, Nat.le_of_ble_eq_true rfl⟩) hPc hDc hKc hS hA hN (va_recv hKc hPc (ci := 16) (q0 := 0) rfl rfl) rfl hl.1 rfl (Nat.le_of_ble_eq_true rfl) dX15_remember_66 (fun H locs hP1 hD1 hk1 hS => ?_)
  have hP := hP1
  have hD := hD1.weaken (fun k q _ h => hFc q.1 h)
  obtain ⟨i10, h⟩ := nd_ck_e h
  refine va_last (i := (x2 + x3)) (x := q7) hx hb hK hP hD hS 7 6 rfl rfl i10 dX15_remember_69 (fun H locs hP hD hS => ?_)
  obtain ⟨s11, es11, h⟩ := nd_let_e h
  have hP : va_P (dC, dI) vwCl (dw_X15 a ac s11) H := by rw [es11]; exact hP
  have hD : va_D A (dw_X15 a ac s11) := by rw [es11]; exact hD
  exact (db_X15_remember_70 C K J7) (x1) (x2) (x3) s11 _ _ _ h hP hD hS (lv_sub hl [0, 1, 2, 3] rfl)
set_option maxHeartbeats 40000000 in
set_option maxRecDepth 100000 in
theorem dB_X15_remember_7 {p : Program} {l : Launch} {e : Env} {s : State} {m : MethodId} {args : Array Value} {below : List Frame} {meth : Method} {c : Code} {Q : State → Prop} {A : Nat → Prop} {dC : Nat → ClassId} {dI : Nat → Nat → Nat} {a : Nat → Nat} {ac : Nat → ClassId} {n : Nat} {r : St × (St × (St))} (C : nd_C p l s m args c A (dC, dI) cX15_remember 4 RX15 ow_dm_X15_remember (dk_X15 ac)) (K : nd_Kv p l e (headSpec ow_dm_X15_remember ({ frames := 6, cells := 0, slots := 0, locals := 143 })).room s m args below meth c Q A (dC, dI) cX15_remember (St × (St × (St))) (dw_X15 a ac) r) {g7 : Int32 → Int32 → Int32 → (St × (St × (St))) → Option (St × (St × (St)))} (J7 : dj_X15_remember_7 p l e s m args below meth c Q A dC dI a ac g7 r) : dj_X15_remember_7 p l e s m args below meth c Q A dC dI a ac (dF_X15_remember_7 n g7) r := by
  obtain ⟨hlt, hx, hb, hml, hown, hts, hN, hA, hK⟩ := id C
  intro x1 x2 x3 s0 H locs ls h hP hD hS hl
  unfold dF_X15_remember_7 at h
  refine lv_iload_n hx hb dX15_remember_7 rfl (lv_at hl 3 rfl) ?_
  refine lv_aload_n hx hb dX15_remember_8 rfl (lv_at hl 0 rfl) ?_
  refine va_get (D := (dC, dI)) (ci := 16) (v := .ref (a 3)) (C := RX15) (T := TX15) (N := 28) hx hb hts hi_dm_X15_remember_X15 hown hK hP 0 rfl rfl 4 (by decide) (hts (.fieldLink RX15 17 "TimeMachineModel$Conditions" "many" "[I") (List.mem_of_getElem? (i := 1) rfl)) (fun _ h9 => h9) rfl dX15_remember_9 ?_
  refine lv_iload_n hx hb dX15_remember_12 rfl (lv_at hl 1 rfl) ?_
  obtain ⟨i2, h⟩ := nd_ck_e h
  refine va_iald (i := x1) hx hb hK hP 3 2 rfl rfl i2 dX15_remember_13 ?_
  refine lv_icmp_ge (tgt := 76) hx hb dX15_remember_14 (by decide) (fun c3 => ?_) (fun c3 => ?_)
  · have h := nd_pos h c3
    exact K _ _ _ _ _ dX15_remember_76 (Option.some.inj h).symm hP hD hS
  · have h := nd_neg h c3
    refine lv_aload_n hx hb dX15_remember_17 rfl (lv_at hl 0 rfl) ?_
    refine va_get (D := (dC, dI)) (ci := 16) (v := .ref (a 4)) (C := RX15) (T := TX15) (N := 28) hx hb hts hi_dm_X15_remember_X15 hown hK hP 0 rfl rfl 5 (by decide) (hts (.fieldLink RX15 21 "TimeMachineModel$Conditions" "kind" "[I") (List.mem_of_getElem? (i := 2) rfl)) (fun _ h9 => h9) rfl dX15_remember_18 ?_
    refine lv_iload_n hx hb dX15_remember_21 rfl (lv_at hl 2 rfl) ?_
    refine lv_iload_n hx hb dX15_remember_22 rfl (lv_at hl 3 rfl) ?_
    refine lv_iadd hx hb dX15_remember_23 ?_
    obtain ⟨i4, h⟩ := nd_ck_e h
    refine va_iald (i := (x2 + x3)) hx hb hK hP 4 3 rfl rfl i4 dX15_remember_24 ?_
    refine lv_bipush (v := 8) hx hb dX15_remember_25 (by decide) ?_
    refine lv_icmp_eq (tgt := 43) hx hb dX15_remember_27 (by decide) (fun c5 => ?_) (fun c5 => ?_)
    · have h := nd_pos h c5
      exact (db_X15_remember_43 C K J7) (x1) (x2) (x3) s0 _ _ _ h hP hD hS (lv_sub hl [0, 1, 2, 3] rfl)
    · have h := nd_neg h c5
      refine lv_aload_n hx hb dX15_remember_30 rfl (lv_at hl 0 rfl) ?_
      refine va_get (D := (dC, dI)) (ci := 16) (v := .ref (a 4)) (C := RX15) (T := TX15) (N := 28) hx hb hts hi_dm_X15_remember_X15 hown hK hP 0 rfl rfl 5 (by decide) (hts (.fieldLink RX15 21 "TimeMachineModel$Conditions" "kind" "[I") (List.mem_of_getElem? (i := 2) rfl)) (fun _ h9 => h9) rfl dX15_remember_31 ?_
      refine lv_iload_n hx hb dX15_remember_34 rfl (lv_at hl 2 rfl) ?_
      refine lv_iload_n hx hb dX15_remember_35 rfl (lv_at hl 3 rfl) ?_
      refine lv_iadd hx hb dX15_remember_36 ?_
      obtain ⟨i13, h⟩ := nd_ck_e h
      refine va_iald (i := (x2 + x3)) hx hb hK hP 4 3 rfl rfl i13 dX15_remember_37 ?_
      refine lv_bipush (v := 9) hx hb dX15_remember_38 (by decide) ?_
      refine lv_icmp_ne (tgt := 70) hx hb dX15_remember_40 (by decide) (fun c14 => ?_) (fun c14 => ?_)
      · have h := nd_neg h c14
        exact (db_X15_remember_70 C K J7) (x1) (x2) (x3) s0 _ _ _ h hP hD hS (lv_sub hl [0, 1, 2, 3] rfl)
      · have h := nd_pos h c14
        exact (db_X15_remember_43 C K J7) (x1) (x2) (x3) s0 _ _ _ h hP hD hS (lv_sub hl [0, 1, 2, 3] rfl)
set_option maxHeartbeats 40000000 in
set_option maxRecDepth 100000 in
theorem db_X15_remember_7 {p : Program} {l : Launch} {e : Env} {s : State} {m : MethodId} {args : Array Value} {below : List Frame} {meth : Method} {c : Code} {Q : State → Prop} {A : Nat → Prop} {dC : Nat → ClassId} {dI : Nat → Nat → Nat} {a : Nat → Nat} {ac : Nat → ClassId} {n : Nat} {r : St × (St × (St))} (C : nd_C p l s m args c A (dC, dI) cX15_remember 4 RX15 ow_dm_X15_remember (dk_X15 ac)) (K : nd_Kv p l e (headSpec ow_dm_X15_remember ({ frames := 6, cells := 0, slots := 0, locals := 143 })).room s m args below meth c Q A (dC, dI) cX15_remember (St × (St × (St))) (dw_X15 a ac) r) (k : Nat) : dj_X15_remember_7 p l e s m args below meth c Q A dC dI a ac (df_X15_remember_7 n k) r := by
  induction k with
  | zero => intro x1 x2 x3 s0 H locs ls h; exact nomatch (show (none : Option (St × (St × (St)))) = some r from h)
  | succ k ih => exact dB_X15_remember_7 C K ih
set_option maxHeartbeats 40000000 in
set_option maxRecDepth 100000 in
theorem db_X15_remember_0 {p : Program} {l : Launch} {e : Env} {s : State} {m : MethodId} {args : Array Value} {below : List Frame} {meth : Method} {c : Code} {Q : State → Prop} {A : Nat → Prop} {dC : Nat → ClassId} {dI : Nat → Nat → Nat} {a : Nat → Nat} {ac : Nat → ClassId} {n : Nat} {r : St × (St × (St))} (C : nd_C p l s m args c A (dC, dI) cX15_remember 4 RX15 ow_dm_X15_remember (dk_X15 ac)) (K : nd_Kv p l e (headSpec ow_dm_X15_remember ({ frames := 6, cells := 0, slots := 0, locals := 143 })).room s m args below meth c Q A (dC, dI) cX15_remember (St × (St × (St))) (dw_X15 a ac) r) : dj_X15_remember_0 p l e s m args below meth c Q A dC dI a ac (df_X15_remember_0 n) r := by
  obtain ⟨hlt, hx, hb, hml, hown, hts, hN, hA, hK⟩ := id C
  intro v0 s0 H locs ls h hP hD hS hl
  unfold df_X15_remember_0 at h
  refine lv_bipush (v := 120) hx hb dX15_remember_0 (by decide) ?_
  refine lv_iload_n hx hb dX15_remember_2 rfl (lv_at hl 1 rfl) ?_
  refine lv_imul hx hb dX15_remember_3 ?_
  refine lv_topi (fun z1 ez1 => ?_)
  have h := nd_at h ez1
  refine lv_istore_n (lv' := [(2, .int z1), (0, .ref (a 0)), (1, .int v0)]) hx hb dX15_remember_4 rfl hl (by decide) rfl (fun ls hl => ?_)
  refine lv_iconst (v := 0) hx hb dX15_remember_5 (by decide) ?_
  refine lv_istore_n (lv' := [(3, .int 0), (2, .int z1), (0, .ref (a 0)), (1, .int v0)]) hx hb dX15_remember_6 rfl hl (by decide) rfl (fun ls hl => ?_)
  exact (db_X15_remember_7 C K n) (v0) (z1) (0) s0 _ _ _ h hP hD hS (lv_sub hl [2, 3, 1, 0] rfl)
set_option maxHeartbeats 40000000 in
set_option maxRecDepth 100000 in
theorem dm_X15_remember (l : Launch) (hlt : l.stackTraces = false) (dC : Nat → ClassId) (dI : Nat → Nat → Nat) (a : Nat → Nat) (ac : Nat → ClassId) (n : Nat) (v0 : Int32) (s0 : St × (St × (St))) {r : St × (St × (St))} (h : df_X15_remember n v0 s0 = some r) (sz : Nat) : Met l yX15_remember ow_dm_X15_remember ({ frames := 6, cells := 0, slots := 0, locals := 143 }) (va_Pc [.ref (a 0), .int v0] (fun U => U.heap.size = sz ∧ va_P (dC, dI) vwCl (dw_X15 a ac s0) U.heap ∧ va_K (dC, dI) vwCl (dk_X15 ac) U ∧ va_D (fun _ => True) (dw_X15 a ac s0) ∧ nv_E dI (va_A (dw_X15 a ac s0) sz) U)) (va_Qv (fun _ => True) (fun (_ : Unit) t => va_P (dC, dI) vwCl (dw_X15 a ac r) t.heap ∧ va_K (dC, dI) vwCl (dk_X15 ac) t ∧ va_D (va_A (dw_X15 a ac s0) sz) (dw_X15 a ac r)) (va_A (dw_X15 a ac s0) sz)) 0 0 (va_A (dw_X15 a ac s0) sz) := by
  refine Met.ofW (cc := cX15_remember) (maxL := 4) (ret := none) (by decide) rfl ?_
  intro p e s m args below meth c s₁ B hml hv
  obtain ⟨rfl, hsz, hP, hK, hD0, hN⟩ := hv
  have hx := B.exec
  have hb := B.bytes
  have hr := B.returns
  have hts := atoms_spec (ws := ow_dm_X15_remember) B.pre
  have hown : s.vm.findClass RX15 = some m.cls := findClass_of_methodNamed B.named
  have hlocks := B.notSynchronized
  subst hsz
  have hD := hD0.self (sz := s.heap.size)
  generalize hAe : va_A (dw_X15 a ac s0) s.heap.size = A at hD hN ⊢
  have hA : ∀ q : Nat, s.heap.size ≤ q → A q := fun q h => by rw [← hAe]; exact Or.inr h
  have hl := lv_entry ([.ref (a 0), .int v0]) (n := 4) (Nat.le_of_ble_eq_true rfl)
  rw [lg_entry_eq]
  generalize (lg_sl ([.ref (a 0), .int v0]) ++ List.replicate (4 - (lg_sl ([.ref (a 0), .int v0])).length) Slot.unset).toArray = ls at hl ⊢
  have hl : lv_has ls 4 [(0, .ref (a 0)), (1, .int v0)] := hl
  exact db_X15_remember_0 (dC := dC) (dI := dI) (a := a) (ac := ac) (n := n) (r := r) ⟨hlt, hx, hb, hml, hown, hts, hN, hA, hK⟩ (fun pc τ H locs ls d er hP hD hS => by subst er; exact W.vret hx hb hr (fun t ht hW => ⟨⟨(), rfl, trivial, by rw [ht]; exact hP, va_K.moved hW.alike hK, hD⟩, hS.F ht⟩) hS.2.2 d) v0 s0 _ _ _ h hP hD va_S.rf (lv_sub hl [0, 1] rfl)
def ow_dm_X15_value : List Cond := Cond.code yX15_value cX15_value 2 (some .long) :: ([Cond.fieldLink RX15 17 "TimeMachineModel$Conditions" "many" "[I", Cond.methodLink RX15 233 yX15_work, Cond.instanceMethod yX15_work, Cond.selects RX15 yX15_work yX15_work, Cond.initialized RX15] ++ (u_ws RX15 TX15 28 ++ (ow_dm_X15_work ++ [])))
theorem gd_dm_X15_value : ∀ w ∈ ow_dm_X15_value, (w.onTables && w.keeps) = true ∨ ∃ ty, w = Cond.arrayClass ty := List.forall_mem_cons.mpr ⟨good_of_word rfl, List.forall_mem_append.mpr ⟨fun w h => good_of_word (List.all_eq_true.mp (by decide +kernel) w h), List.forall_mem_append.mpr ⟨gu_X15, List.forall_mem_append.mpr ⟨gd_dm_X15_work, fun _ h => nomatch h⟩⟩⟩⟩
theorem hi_dm_X15_value_X15 : ∀ w ∈ u_ws RX15 TX15 28, w ∈ ow_dm_X15_value := fun w h => List.mem_cons_of_mem _ (List.mem_append_right _ (List.mem_append_left _ h))
theorem gi_dm_X15_value_0 : GoodIn ow_dm_X15_value (wsV RX15 233 RX15 yX15_work ow_dm_X15_work) := goodIn_app (goodIn_of _ (by decide +kernel)) (fun w h => ⟨List.mem_cons_of_mem _ (List.mem_append_right _ (List.mem_append_right _ (List.mem_append_left _ h))), gd_dm_X15_work w h⟩)
def dj_X15_value_0 (p : Program) (l : Launch) (e : Env) (s : State) (m : MethodId) (args : Array Value) (below : List Frame) (meth : Method) (c : Code) (Q : State → Prop) (A : Nat → Prop) (dC : Nat → ClassId) (dI : Nat → Nat → Nat) (a : Nat → Nat) (ac : Nat → ClassId) (g : Int32 → (St × (St × (St))) → Option (Int64 × (St × (St × (St))))) (r : Int64 × (St × (St × (St)))) : Prop := ∀ (v0 : Int32) (s0 : St × (St × (St))) (H : Heap) (locs : List Loc) (ls : Array Slot), g v0 s0 = some r → va_P (dC, dI) vwCl (dw_X15 a ac s0) H → va_D A (dw_X15 a ac s0) → va_S A s.heap H locs → lv_has ls 2 [(0, .ref (a 0)), (1, .int v0)] → W p l e (headSpec ow_dm_X15_value ({ frames := 6, cells := 0, slots := 0, locals := 143 })).room s m args below meth c H locs 0 0 Q (F0 m 0 ls [])
set_option maxHeartbeats 40000000 in
set_option maxRecDepth 100000 in
theorem db_X15_value_0 {p : Program} {l : Launch} {e : Env} {s : State} {m : MethodId} {args : Array Value} {below : List Frame} {meth : Method} {c : Code} {Q : State → Prop} {A : Nat → Prop} {dC : Nat → ClassId} {dI : Nat → Nat → Nat} {a : Nat → Nat} {ac : Nat → ClassId} {n : Nat} {r : Int64 × (St × (St × (St)))} (C : nd_C p l s m args c A (dC, dI) cX15_value 2 RX15 ow_dm_X15_value (dk_X15 ac)) (K : nd_Kl p l e (headSpec ow_dm_X15_value ({ frames := 6, cells := 0, slots := 0, locals := 143 })).room s m args below meth c Q A (dC, dI) cX15_value (St × (St × (St))) (dw_X15 a ac) r) : dj_X15_value_0 p l e s m args below meth c Q A dC dI a ac (df_X15_value_0 n) r := by
  obtain ⟨hlt, hx, hb, hml, hown, hts, hN, hA, hK⟩ := id C
  intro v0 s0 H locs ls h hP hD hS hl
  unfold df_X15_value_0 at h
  refine lv_aload_n hx hb dX15_value_0 rfl (lv_at hl 0 rfl) ?_
  refine lv_bipush (v := 120) hx hb dX15_value_1 (by decide) ?_
  refine lv_iload_n hx hb dX15_value_3 rfl (lv_at hl 1 rfl) ?_
  refine lv_imul hx hb dX15_value_4 ?_
  refine lv_bipush (v := 120) hx hb dX15_value_5 (by decide) ?_
  refine lv_iload_n hx hb dX15_value_7 rfl (lv_at hl 1 rfl) ?_
  refine lv_imul hx hb dX15_value_8 ?_
  refine lv_aload_n hx hb dX15_value_9 rfl (lv_at hl 0 rfl) ?_
  refine va_get (D := (dC, dI)) (ci := 16) (v := .ref (a 3)) (C := RX15) (T := TX15) (N := 28) hx hb hts hi_dm_X15_value_X15 hown hK hP 0 rfl rfl 4 (by decide) (hts (.fieldLink RX15 17 "TimeMachineModel$Conditions" "many" "[I") (List.mem_of_getElem? (i := 1) rfl)) (fun _ h9 => h9) rfl dX15_value_10 ?_
  refine lv_iload_n hx hb dX15_value_13 rfl (lv_at hl 1 rfl) ?_
  obtain ⟨i1, h⟩ := nd_ck_e h
  refine va_iald (i := v0) hx hb hK hP 3 2 rfl rfl i1 dX15_value_14 ?_
  refine lv_iadd hx hb dX15_value_15 ?_
  obtain ⟨q2, s3, hq, h⟩ := nd_b2_e h
  have hPc := hP
  have hDc := hD
  have hKc := hK
  have hFc := nd_rs hD hS hA
  refine nd_cVl (As := [.int (120 * v0), .int ((120 * v0) + (sR s0.1 2 (Int32.toNatClampNeg v0)))]) (rest := []) (q := q2) (w' := dw_X15 a ac s3) ⟨hx, hb, hml, hown, hts⟩ (fun sz => dm_X15_work l hlt dC dI a ac n ((120 * v0)) (((120 * v0) + (sR s0.1 2 (Int32.toNatClampNeg v0)))) s0 hq sz) (cwV 2 hts gi_dm_X15_value_0 rfl rfl rfl (by decide +kernel) ⟨Nat.le_of_ble_eq_true rfl, Nat.le_of_ble_eq_true rfl⟩) hPc hDc hKc hS hA hN (va_recv hKc hPc (ci := 16) (q0 := 0) rfl rfl) rfl hl.1 rfl (Nat.le_of_ble_eq_true rfl) dX15_value_16 (fun H locs hP1 hD1 hk1 hS => ?_)
  have hP := hP1
  have hD := hD1.weaken (fun k q _ h => hFc q.1 h)
  exact K _ _ _ _ _ _ dX15_value_19 (Option.some.inj h).symm hP hD hS
set_option maxHeartbeats 40000000 in
set_option maxRecDepth 100000 in
theorem dm_X15_value (l : Launch) (hlt : l.stackTraces = false) (dC : Nat → ClassId) (dI : Nat → Nat → Nat) (a : Nat → Nat) (ac : Nat → ClassId) (n : Nat) (v0 : Int32) (s0 : St × (St × (St))) {r : Int64 × (St × (St × (St)))} (h : df_X15_value n v0 s0 = some r) (sz : Nat) : Met l yX15_value ow_dm_X15_value ({ frames := 6, cells := 0, slots := 0, locals := 143 }) (va_Pc [.ref (a 0), .int v0] (fun U => U.heap.size = sz ∧ va_P (dC, dI) vwCl (dw_X15 a ac s0) U.heap ∧ va_K (dC, dI) vwCl (dk_X15 ac) U ∧ va_D (fun _ => True) (dw_X15 a ac s0) ∧ nv_E dI (va_A (dw_X15 a ac s0) sz) U)) (va_Ql (fun x _ => x = r.1) (fun (_ : Unit) t => va_P (dC, dI) vwCl (dw_X15 a ac r.2) t.heap ∧ va_K (dC, dI) vwCl (dk_X15 ac) t ∧ va_D (va_A (dw_X15 a ac s0) sz) (dw_X15 a ac r.2)) (va_A (dw_X15 a ac s0) sz)) 0 0 (va_A (dw_X15 a ac s0) sz) := by
  refine Met.ofW (cc := cX15_value) (maxL := 2) (ret := (some .long)) (by decide) rfl ?_
  intro p e s m args below meth c s₁ B hml hv
  obtain ⟨rfl, hsz, hP, hK, hD0, hN⟩ := hv
  have hx := B.exec
  have hb := B.bytes
  have hr := B.returns
  have hts := atoms_spec (ws := ow_dm_X15_value) B.pre
  have hown : s.vm.findClass RX15 = some m.cls := findClass_of_methodNamed B.named
  have hlocks := B.notSynchronized
  subst hsz
  have hD := hD0.self (sz := s.heap.size)
  generalize hAe : va_A (dw_X15 a ac s0) s.heap.size = A at hD hN ⊢
  have hA : ∀ q : Nat, s.heap.size ≤ q → A q := fun q h => by rw [← hAe]; exact Or.inr h
  have hl := lv_entry ([.ref (a 0), .int v0]) (n := 2) (Nat.le_of_ble_eq_true rfl)
  rw [lg_entry_eq]
  generalize (lg_sl ([.ref (a 0), .int v0]) ++ List.replicate (2 - (lg_sl ([.ref (a 0), .int v0])).length) Slot.unset).toArray = ls at hl ⊢
  have hl : lv_has ls 2 [(0, .ref (a 0)), (1, .int v0)] := hl
  exact db_X15_value_0 (dC := dC) (dI := dI) (a := a) (ac := ac) (n := n) (r := r) ⟨hlt, hx, hb, hml, hown, hts, hN, hA, hK⟩ (fun pc v τ H locs ls d er hP hD hS => by subst er; exact W.lret (v := v) hx hb hr (fun t ht hW => ⟨⟨v, (), rfl, rfl, by rw [ht]; exact hP, va_K.moved hW.alike hK, hD⟩, hS.F ht⟩) hS.2.2 d) v0 s0 _ _ _ h hP hD va_S.rf (lv_sub hl [0, 1] rfl)
def ow_dm_X15_isThere : List Cond := Cond.code yX15_isThere cX15_isThere 2 (some .boolean) :: ([Cond.fieldLink RX15 13 "TimeMachineModel$Conditions" "there" "[Z"] ++ (u_ws RX15 TX15 28 ++ []))
theorem gd_dm_X15_isThere : ∀ w ∈ ow_dm_X15_isThere, (w.onTables && w.keeps) = true ∨ ∃ ty, w = Cond.arrayClass ty := List.forall_mem_cons.mpr ⟨good_of_word rfl, List.forall_mem_append.mpr ⟨fun w h => good_of_word (List.all_eq_true.mp (by decide +kernel) w h), List.forall_mem_append.mpr ⟨gu_X15, fun _ h => nomatch h⟩⟩⟩
theorem hi_dm_X15_isThere_X15 : ∀ w ∈ u_ws RX15 TX15 28, w ∈ ow_dm_X15_isThere := fun w h => List.mem_cons_of_mem _ (List.mem_append_right _ (List.mem_append_left _ h))
def dj_X15_isThere_0 (p : Program) (l : Launch) (e : Env) (s : State) (m : MethodId) (args : Array Value) (below : List Frame) (meth : Method) (c : Code) (Q : State → Prop) (A : Nat → Prop) (dC : Nat → ClassId) (dI : Nat → Nat → Nat) (a : Nat → Nat) (ac : Nat → ClassId) (g : Int32 → (St × (St × (St))) → Option (Int32 × (St × (St × (St))))) (r : Int32 × (St × (St × (St)))) : Prop := ∀ (v0 : Int32) (s0 : St × (St × (St))) (H : Heap) (locs : List Loc) (ls : Array Slot), g v0 s0 = some r → va_P (dC, dI) vwCl (dw_X15 a ac s0) H → va_D A (dw_X15 a ac s0) → va_S A s.heap H locs → lv_has ls 2 [(0, .ref (a 0)), (1, .int v0)] → W p l e (headSpec ow_dm_X15_isThere ({ frames := 0, cells := 0, slots := 0, locals := 0 })).room s m args below meth c H locs 0 0 Q (F0 m 0 ls [])
set_option maxHeartbeats 40000000 in
set_option maxRecDepth 100000 in
theorem db_X15_isThere_0 {p : Program} {l : Launch} {e : Env} {s : State} {m : MethodId} {args : Array Value} {below : List Frame} {meth : Method} {c : Code} {Q : State → Prop} {A : Nat → Prop} {dC : Nat → ClassId} {dI : Nat → Nat → Nat} {a : Nat → Nat} {ac : Nat → ClassId} {n : Nat} {r : Int32 × (St × (St × (St)))} (C : nd_C p l s m args c A (dC, dI) cX15_isThere 2 RX15 ow_dm_X15_isThere (dk_X15 ac)) (K : nd_Ki p l e (headSpec ow_dm_X15_isThere ({ frames := 0, cells := 0, slots := 0, locals := 0 })).room s m args below meth c Q A (dC, dI) cX15_isThere .boolean (St × (St × (St))) (dw_X15 a ac) r) : dj_X15_isThere_0 p l e s m args below meth c Q A dC dI a ac (df_X15_isThere_0 n) r := by
  obtain ⟨hlt, hx, hb, hml, hown, hts, hN, hA, hK⟩ := id C
  intro v0 s0 H locs ls h hP hD hS hl
  unfold df_X15_isThere_0 at h
  refine lv_aload_n hx hb dX15_isThere_0 rfl (lv_at hl 0 rfl) ?_
  refine va_get (D := (dC, dI)) (ci := 16) (v := .ref (a 2)) (C := RX15) (T := TX15) (N := 28) hx hb hts hi_dm_X15_isThere_X15 hown hK hP 0 rfl rfl 3 (by decide) (hts (.fieldLink RX15 13 "TimeMachineModel$Conditions" "there" "[Z") (List.mem_of_getElem? (i := 1) rfl)) (fun _ h9 => h9) rfl dX15_isThere_1 ?_
  refine lv_iload_n hx hb dX15_isThere_4 rfl (lv_at hl 1 rfl) ?_
  obtain ⟨i1, h⟩ := nd_ck_e h
  refine va_zald (i := v0) hx hb hK hP 2 1 rfl rfl i1 dX15_isThere_5 ?_
  obtain ⟨n2, h⟩ := nd_z_e ⟨_, rfl⟩ h
  exact K _ _ _ _ _ _ dX15_isThere_6 n2 (Option.some.inj h).symm hP hD hS
set_option maxHeartbeats 40000000 in
set_option maxRecDepth 100000 in
theorem dm_X15_isThere (l : Launch) (hlt : l.stackTraces = false) (dC : Nat → ClassId) (dI : Nat → Nat → Nat) (a : Nat → Nat) (ac : Nat → ClassId) (n : Nat) (v0 : Int32) (s0 : St × (St × (St))) {r : Int32 × (St × (St × (St)))} (h : df_X15_isThere n v0 s0 = some r) (sz : Nat) : Met l yX15_isThere ow_dm_X15_isThere ({ frames := 0, cells := 0, slots := 0, locals := 0 }) (va_Pc [.ref (a 0), .int v0] (fun U => U.heap.size = sz ∧ va_P (dC, dI) vwCl (dw_X15 a ac s0) U.heap ∧ va_K (dC, dI) vwCl (dk_X15 ac) U ∧ va_D (fun _ => True) (dw_X15 a ac s0) ∧ nv_E dI (va_A (dw_X15 a ac s0) sz) U)) (va_Qi (fun x _ => x = r.1) (fun (_ : Unit) t => va_P (dC, dI) vwCl (dw_X15 a ac r.2) t.heap ∧ va_K (dC, dI) vwCl (dk_X15 ac) t ∧ va_D (va_A (dw_X15 a ac s0) sz) (dw_X15 a ac r.2)) (va_A (dw_X15 a ac s0) sz)) 0 0 (va_A (dw_X15 a ac s0) sz) := by
  refine Met.ofW (cc := cX15_isThere) (maxL := 2) (ret := (some .boolean)) (by decide) rfl ?_
  intro p e s m args below meth c s₁ B hml hv
  obtain ⟨rfl, hsz, hP, hK, hD0, hN⟩ := hv
  have hx := B.exec
  have hb := B.bytes
  have hr := B.returns
  have hts := atoms_spec (ws := ow_dm_X15_isThere) B.pre
  have hown : s.vm.findClass RX15 = some m.cls := findClass_of_methodNamed B.named
  have hlocks := B.notSynchronized
  subst hsz
  have hD := hD0.self (sz := s.heap.size)
  generalize hAe : va_A (dw_X15 a ac s0) s.heap.size = A at hD hN ⊢
  have hA : ∀ q : Nat, s.heap.size ≤ q → A q := fun q h => by rw [← hAe]; exact Or.inr h
  have hl := lv_entry ([.ref (a 0), .int v0]) (n := 2) (Nat.le_of_ble_eq_true rfl)
  rw [lg_entry_eq]
  generalize (lg_sl ([.ref (a 0), .int v0]) ++ List.replicate (2 - (lg_sl ([.ref (a 0), .int v0])).length) Slot.unset).toArray = ls at hl ⊢
  have hl : lv_has ls 2 [(0, .ref (a 0)), (1, .int v0)] := hl
  exact db_X15_isThere_0 (dC := dC) (dI := dI) (a := a) (ac := ac) (n := n) (r := r) ⟨hlt, hx, hb, hml, hown, hts, hN, hA, hK⟩ (fun pc v τ H locs ls d z er hP hD hS => by subst er; exact W.zret (v := v) hx hb hr z (fun t ht hW => ⟨⟨v, (), rfl, rfl, by rw [ht]; exact hP, va_K.moved hW.alike hK, hD⟩, hS.F ht⟩) hS.2.2 d) v0 s0 _ _ _ h hP hD va_S.rf (lv_sub hl [0, 1] rfl)
def ow_dm_X15_size : List Cond := Cond.code yX15_size cX15_size 3 (some .int) :: ([Cond.fieldLink RX15 13 "TimeMachineModel$Conditions" "there" "[Z"] ++ (u_ws RX15 TX15 28 ++ []))
theorem gd_dm_X15_size : ∀ w ∈ ow_dm_X15_size, (w.onTables && w.keeps) = true ∨ ∃ ty, w = Cond.arrayClass ty := List.forall_mem_cons.mpr ⟨good_of_word rfl, List.forall_mem_append.mpr ⟨fun w h => good_of_word (List.all_eq_true.mp (by decide +kernel) w h), List.forall_mem_append.mpr ⟨gu_X15, fun _ h => nomatch h⟩⟩⟩
theorem hi_dm_X15_size_X15 : ∀ w ∈ u_ws RX15 TX15 28, w ∈ ow_dm_X15_size := fun w h => List.mem_cons_of_mem _ (List.mem_append_right _ (List.mem_append_left _ h))
def dj_X15_size_26 (p : Program) (l : Launch) (e : Env) (s : State) (m : MethodId) (args : Array Value) (below : List Frame) (meth : Method) (c : Code) (Q : State → Prop) (A : Nat → Prop) (dC : Nat → ClassId) (dI : Nat → Nat → Nat) (a : Nat → Nat) (ac : Nat → ClassId) (g : Int32 → Int32 → (St × (St × (St))) → Option (Int32 × (St × (St × (St))))) (r : Int32 × (St × (St × (St)))) : Prop := ∀ (x2 : Int32) (y0 : Int32) (s0 : St × (St × (St))) (H : Heap) (locs : List Loc) (ls : Array Slot), g x2 y0 s0 = some r → va_P (dC, dI) vwCl (dw_X15 a ac s0) H → va_D A (dw_X15 a ac s0) → va_S A s.heap H locs → lv_has ls 3 [(0, .ref (a 0)), (2, .int x2)] → W p l e (headSpec ow_dm_X15_size ({ frames := 0, cells := 0, slots := 0, locals := 0 })).room s m args below meth c H locs 0 0 Q (F0 m 26 ls [.int y0])
def dj_X15_size_4 (p : Program) (l : Launch) (e : Env) (s : State) (m : MethodId) (args : Array Value) (below : List Frame) (meth : Method) (c : Code) (Q : State → Prop) (A : Nat → Prop) (dC : Nat → ClassId) (dI : Nat → Nat → Nat) (a : Nat → Nat) (ac : Nat → ClassId) (g : Int32 → Int32 → (St × (St × (St))) → Option (Int32 × (St × (St × (St))))) (r : Int32 × (St × (St × (St)))) : Prop := ∀ (x1 : Int32) (x2 : Int32) (s0 : St × (St × (St))) (H : Heap) (locs : List Loc) (ls : Array Slot), g x1 x2 s0 = some r → va_P (dC, dI) vwCl (dw_X15 a ac s0) H → va_D A (dw_X15 a ac s0) → va_S A s.heap H locs → lv_has ls 3 [(0, .ref (a 0)), (1, .int x1), (2, .int x2)] → W p l e (headSpec ow_dm_X15_size ({ frames := 0, cells := 0, slots := 0, locals := 0 })).room s m args below meth c H locs 0 0 Q (F0 m 4 ls [])
def dj_X15_size_0 (p : Program) (l : Launch) (e : Env) (s : State) (m : MethodId) (args : Array Value) (below : List Frame) (meth : Method) (c : Code) (Q : State → Prop) (A : Nat → Prop) (dC : Nat → ClassId) (dI : Nat → Nat → Nat) (a : Nat → Nat) (ac : Nat → ClassId) (g : (St × (St × (St))) → Option (Int32 × (St × (St × (St))))) (r : Int32 × (St × (St × (St)))) : Prop := ∀ (s0 : St × (St × (St))) (H : Heap) (locs : List Loc) (ls : Array Slot), g s0 = some r → va_P (dC, dI) vwCl (dw_X15 a ac s0) H → va_D A (dw_X15 a ac s0) → va_S A s.heap H locs → lv_has ls 3 [(0, .ref (a 0))] → W p l e (headSpec ow_dm_X15_size ({ frames := 0, cells := 0, slots := 0, locals := 0 })).room s m args below meth c H locs 0 0 Q (F0 m 0 ls [])
set_option maxHeartbeats 40000000 in
set_option maxRecDepth 100000 in
theorem db_X15_size_26 {p : Program} {l : Launch} {e : Env} {s : State} {m : MethodId} {args : Array Value} {below : List Frame} {meth : Method} {c : Code} {Q : State → Prop} {A : Nat → Prop} {dC : Nat → ClassId} {dI : Nat → Nat → Nat} {a : Nat → Nat} {ac : Nat → ClassId} {n : Nat} {r : Int32 × (St × (St × (St)))} (C : nd_C p l s m args c A (dC, dI) cX15_size 3 RX15 ow_dm_X15_size (dk_X15 ac)) (K : nd_Ki p l e (headSpec ow_dm_X15_size ({ frames := 0, cells := 0, slots := 0, locals := 0 })).room s m args below meth c Q A (dC, dI) cX15_size .int (St × (St × (St))) (dw_X15 a ac) r) {g4 : Int32 → Int32 → (St × (St × (St))) → Option (Int32 × (St × (St × (St))))} (J4 : dj_X15_size_4 p l e s m args below meth c Q A dC dI a ac g4 r) : dj_X15_size_26 p l e s m args below meth c Q A dC dI a ac (df_X15_size_26 n g4) r := by
  obtain ⟨hlt, hx, hb, hml, hown, hts, hN, hA, hK⟩ := id C
  intro x2 y0 s0 H locs ls h hP hD hS hl
  unfold df_X15_size_26 at h
  refine lv_istore_n (lv' := [(1, .int y0), (0, .ref (a 0)), (2, .int x2)]) hx hb dX15_size_26 rfl hl (by decide) rfl (fun ls hl => ?_)
  obtain ⟨z4, ez4, h⟩ := nd_let_e h
  refine lv_iinc (v := z4) (lv' := [(2, .int z4), (1, .int y0), (0, .ref (a 0))]) hx hb dX15_size_27 hl (k := 2) rfl (by rw [ez4]) (by decide) rfl (fun ls hl => ?_)
  refine lv_goto (tgt := 4) hx hb dX15_size_30 (by decide) ?_
  exact (J4) (y0) (z4) s0 _ _ _ h hP hD hS (lv_sub hl [2, 1, 0] rfl)
set_option maxHeartbeats 40000000 in
set_option maxRecDepth 100000 in
theorem dB_X15_size_4 {p : Program} {l : Launch} {e : Env} {s : State} {m : MethodId} {args : Array Value} {below : List Frame} {meth : Method} {c : Code} {Q : State → Prop} {A : Nat → Prop} {dC : Nat → ClassId} {dI : Nat → Nat → Nat} {a : Nat → Nat} {ac : Nat → ClassId} {n : Nat} {r : Int32 × (St × (St × (St)))} (C : nd_C p l s m args c A (dC, dI) cX15_size 3 RX15 ow_dm_X15_size (dk_X15 ac)) (K : nd_Ki p l e (headSpec ow_dm_X15_size ({ frames := 0, cells := 0, slots := 0, locals := 0 })).room s m args below meth c Q A (dC, dI) cX15_size .int (St × (St × (St))) (dw_X15 a ac) r) {g4 : Int32 → Int32 → (St × (St × (St))) → Option (Int32 × (St × (St × (St))))} (J4 : dj_X15_size_4 p l e s m args below meth c Q A dC dI a ac g4 r) : dj_X15_size_4 p l e s m args below meth c Q A dC dI a ac (dF_X15_size_4 n g4) r := by
  obtain ⟨hlt, hx, hb, hml, hown, hts, hN, hA, hK⟩ := id C
  intro x1 x2 s0 H locs ls h hP hD hS hl
  unfold dF_X15_size_4 at h
  refine lv_iload_n hx hb dX15_size_4 rfl (lv_at hl 2 rfl) ?_
  refine lv_bipush (v := 8) hx hb dX15_size_5 (by decide) ?_
  refine lv_icmp_ge (tgt := 33) hx hb dX15_size_7 (by decide) (fun c1 => ?_) (fun c1 => ?_)
  · have h := nd_pos h c1
    refine lv_iload_n hx hb dX15_size_33 rfl (lv_at hl 1 rfl) ?_
    exact K _ _ _ _ _ _ dX15_size_34 rfl (Option.some.inj h).symm hP hD hS
  · have h := nd_neg h c1
    refine lv_aload_n hx hb dX15_size_10 rfl (lv_at hl 0 rfl) ?_
    refine va_get (D := (dC, dI)) (ci := 16) (v := .ref (a 2)) (C := RX15) (T := TX15) (N := 28) hx hb hts hi_dm_X15_size_X15 hown hK hP 0 rfl rfl 3 (by decide) (hts (.fieldLink RX15 13 "TimeMachineModel$Conditions" "there" "[Z") (List.mem_of_getElem? (i := 1) rfl)) (fun _ h9 => h9) rfl dX15_size_11 ?_
    refine lv_iload_n hx hb dX15_size_14 rfl (lv_at hl 2 rfl) ?_
    obtain ⟨i2, h⟩ := nd_ck_e h
    refine va_zald (i := x2) hx hb hK hP 2 1 rfl rfl i2 dX15_size_15 ?_
    refine lv_if_eq (tgt := 25) hx hb dX15_size_16 (by decide) (fun c3 => ?_) (fun c3 => ?_)
    · have h := nd_pos h c3
      refine lv_iload_n hx hb dX15_size_25 rfl (lv_at hl 1 rfl) ?_
      exact (db_X15_size_26 C K J4) (x2) (x1) s0 _ _ _ h hP hD hS (lv_sub hl [0, 2] rfl)
    · have h := nd_neg h c3
      refine lv_iload_n hx hb dX15_size_19 rfl (lv_at hl 1 rfl) ?_
      refine lv_iconst (v := 1) hx hb dX15_size_20 (by decide) ?_
      refine lv_iadd hx hb dX15_size_21 ?_
      refine lv_goto (tgt := 26) hx hb dX15_size_22 (by decide) ?_
      exact (db_X15_size_26 C K J4) (x2) ((x1 + 1)) s0 _ _ _ h hP hD hS (lv_sub hl [0, 2] rfl)
set_option maxHeartbeats 40000000 in
set_option maxRecDepth 100000 in
theorem db_X15_size_4 {p : Program} {l : Launch} {e : Env} {s : State} {m : MethodId} {args : Array Value} {below : List Frame} {meth : Method} {c : Code} {Q : State → Prop} {A : Nat → Prop} {dC : Nat → ClassId} {dI : Nat → Nat → Nat} {a : Nat → Nat} {ac : Nat → ClassId} {n : Nat} {r : Int32 × (St × (St × (St)))} (C : nd_C p l s m args c A (dC, dI) cX15_size 3 RX15 ow_dm_X15_size (dk_X15 ac)) (K : nd_Ki p l e (headSpec ow_dm_X15_size ({ frames := 0, cells := 0, slots := 0, locals := 0 })).room s m args below meth c Q A (dC, dI) cX15_size .int (St × (St × (St))) (dw_X15 a ac) r) (k : Nat) : dj_X15_size_4 p l e s m args below meth c Q A dC dI a ac (df_X15_size_4 n k) r := by
  induction k with
  | zero => intro x1 x2 s0 H locs ls h; exact nomatch (show (none : Option (Int32 × (St × (St × (St))))) = some r from h)
  | succ k ih => exact dB_X15_size_4 C K ih
set_option maxHeartbeats 40000000 in
set_option maxRecDepth 100000 in
theorem db_X15_size_0 {p : Program} {l : Launch} {e : Env} {s : State} {m : MethodId} {args : Array Value} {below : List Frame} {meth : Method} {c : Code} {Q : State → Prop} {A : Nat → Prop} {dC : Nat → ClassId} {dI : Nat → Nat → Nat} {a : Nat → Nat} {ac : Nat → ClassId} {n : Nat} {r : Int32 × (St × (St × (St)))} (C : nd_C p l s m args c A (dC, dI) cX15_size 3 RX15 ow_dm_X15_size (dk_X15 ac)) (K : nd_Ki p l e (headSpec ow_dm_X15_size ({ frames := 0, cells := 0, slots := 0, locals := 0 })).room s m args below meth c Q A (dC, dI) cX15_size .int (St × (St × (St))) (dw_X15 a ac) r) : dj_X15_size_0 p l e s m args below meth c Q A dC dI a ac (df_X15_size_0 n) r := by
  obtain ⟨hlt, hx, hb, hml, hown, hts, hN, hA, hK⟩ := id C
  intro s0 H locs ls h hP hD hS hl
  unfold df_X15_size_0 at h
  refine lv_iconst (v := 0) hx hb dX15_size_0 (by decide) ?_
  refine lv_istore_n (lv' := [(1, .int 0), (0, .ref (a 0))]) hx hb dX15_size_1 rfl hl (by decide) rfl (fun ls hl => ?_)
  refine lv_iconst (v := 0) hx hb dX15_size_2 (by decide) ?_
  refine lv_istore_n (lv' := [(2, .int 0), (1, .int 0), (0, .ref (a 0))]) hx hb dX15_size_3 rfl hl (by decide) rfl (fun ls hl => ?_)
  exact (db_X15_size_4 C K n) (0) (0) s0 _ _ _ h hP hD hS (lv_sub hl [2, 1, 0] rfl)
set_option maxHeartbeats 40000000 in
set_option maxRecDepth 100000 in
theorem dm_X15_size (l : Launch) (hlt : l.stackTraces = false) (dC : Nat → ClassId) (dI : Nat → Nat → Nat) (a : Nat → Nat) (ac : Nat → ClassId) (n : Nat) (s0 : St × (St × (St))) {r : Int32 × (St × (St × (St)))} (h : df_X15_size n s0 = some r) (sz : Nat) : Met l yX15_size ow_dm_X15_size ({ frames := 0, cells := 0, slots := 0, locals := 0 }) (va_Pc [.ref (a 0)] (fun U => U.heap.size = sz ∧ va_P (dC, dI) vwCl (dw_X15 a ac s0) U.heap ∧ va_K (dC, dI) vwCl (dk_X15 ac) U ∧ va_D (fun _ => True) (dw_X15 a ac s0) ∧ nv_E dI (va_A (dw_X15 a ac s0) sz) U)) (va_Qi (fun x _ => x = r.1) (fun (_ : Unit) t => va_P (dC, dI) vwCl (dw_X15 a ac r.2) t.heap ∧ va_K (dC, dI) vwCl (dk_X15 ac) t ∧ va_D (va_A (dw_X15 a ac s0) sz) (dw_X15 a ac r.2)) (va_A (dw_X15 a ac s0) sz)) 0 0 (va_A (dw_X15 a ac s0) sz) := by
  refine Met.ofW (cc := cX15_size) (maxL := 3) (ret := (some .int)) (by decide) rfl ?_
  intro p e s m args below meth c s₁ B hml hv
  obtain ⟨rfl, hsz, hP, hK, hD0, hN⟩ := hv
  have hx := B.exec
  have hb := B.bytes
  have hr := B.returns
  have hts := atoms_spec (ws := ow_dm_X15_size) B.pre
  have hown : s.vm.findClass RX15 = some m.cls := findClass_of_methodNamed B.named
  have hlocks := B.notSynchronized
  subst hsz
  have hD := hD0.self (sz := s.heap.size)
  generalize hAe : va_A (dw_X15 a ac s0) s.heap.size = A at hD hN ⊢
  have hA : ∀ q : Nat, s.heap.size ≤ q → A q := fun q h => by rw [← hAe]; exact Or.inr h
  have hl := lv_entry ([.ref (a 0)]) (n := 3) (Nat.le_of_ble_eq_true rfl)
  rw [lg_entry_eq]
  generalize (lg_sl ([.ref (a 0)]) ++ List.replicate (3 - (lg_sl ([.ref (a 0)])).length) Slot.unset).toArray = ls at hl ⊢
  have hl : lv_has ls 3 [(0, .ref (a 0))] := hl
  exact db_X15_size_0 (dC := dC) (dI := dI) (a := a) (ac := ac) (n := n) (r := r) ⟨hlt, hx, hb, hml, hown, hts, hN, hA, hK⟩ (fun pc v τ H locs ls d z er hP hD hS => by subst er; exact W.zret (v := v) hx hb hr z (fun t ht hW => ⟨⟨v, (), rfl, rfl, by rw [ht]; exact hP, va_K.moved hW.alike hK, hD⟩, hS.F ht⟩) hS.2.2 d) s0 _ _ _ h hP hD va_S.rf (lv_sub hl [0] rfl)

